/-! ===== MODEL: pyramids by number alone ===== -/
theorem stz_z0 : ∀ i : Nat, i < 7 → ∀ k : Nat, k ≤ i → 0 ≤ stz i k ∧ stz i k ≤ 91 := by decide +kernel
theorem stz_z {e k : Int} (he : 1 ≤ e ∧ e ≤ 6) (hk : 0 ≤ k ∧ k ≤ e) : 0 ≤ stz e k ∧ stz e k ≤ 91 := by
  obtain ⟨i, rfl⟩ := Int.eq_ofNat_of_zero_le (show 0 ≤ e by omega)
  obtain ⟨j, rfl⟩ := Int.eq_ofNat_of_zero_le hk.1
  exact stz_z0 i (by omega) j (by omega)
theorem narB (C : Prop) [Decidable C] : narrow .boolean (.int (zI (if C then 1 else 0))) = .int (zI (if C then 1 else 0)) := by
  by_cases h : C
  · rw [if_pos h]; decide
  · rw [if_neg h]; decide
theorem stz_e {e : Int} : stz e e = sq e := by
  show sq e - sq (e - e) = sq e
  rw [Int.sub_self]
  show sq e - 0 = sq e
  omega
set_option maxHeartbeats 800000 in
set_option maxRecDepth 100000 in
/-- thrown() -/
theorem m_thrown (l : Launch) (D : va_G) (cA : Nat → ClassId) (A : Nat → Prop) (ad : Nat → Nat) (a : St) (th dd : Int32) (kp : Nat → Nat → Int32) : Met l yX5_thrown wsX5_thrown ({ frames := 0, cells := 0, slots := 0, locals := 0 }) (PcG D (tysX cA) A (wM cA ad a th dd kp) [.ref (ad 0)]) (va_Qi (fun (r : Int32) ws' => r = th ∧ ws' = wM cA ad a th dd kp) (gB D A) A) 0 0 A := by
  refine g_met (cc := cX5_thrown) (maxL := 1) (ret := (some .int)) (own := RX5) rfl (by decide) rfl (Nat.le_of_ble_eq_true rfl) ?_
  intro p e s m below meth c E
  have hin5 : ∀ w ∈ u_ws RX5 TX5 19, w ∈ wsX5_thrown := by decide +kernel
  refine g_loc (lv' := [(0, .ref (ad 0))]) ⟨rfl, trivial⟩ ?_
  refine g_aload_n E dX5_thrown_0 rfl ?_
  refine gm_M_thrown E  hin5 (by decide +kernel) dX5_thrown_1 ?_
  exact g_iret E (⟨rfl, rfl⟩) dX5_thrown_4
set_option maxHeartbeats 800000 in
set_option maxRecDepth 100000 in
/-- fail(k) -/
theorem m_fail (l : Launch) (D : va_G) (cA : Nat → ClassId) (A : Nat → Prop) (ad : Nat → Nat) (a : St) (th dd : Int32) (kp : Nat → Nat → Int32) (v : Int32) : Met l yX5_fail wsX5_fail ({ frames := 0, cells := 0, slots := 0, locals := 0 }) (PcG D (tysX cA) A (wM cA ad a th dd kp) [.ref (ad 0), .int v]) (va_Qi (fun (r : Int32) ws' => r = zI 0 ∧ ws' = wM cA ad (a) v dd kp) (gB D A) A) 0 0 A := by
  refine g_met (cc := cX5_fail) (maxL := 2) (ret := (some .int)) (own := RX5) rfl (by decide) rfl (Nat.le_of_ble_eq_true rfl) ?_
  intro p e s m below meth c E
  have hin5 : ∀ w ∈ u_ws RX5 TX5 19, w ∈ wsX5_fail := by decide +kernel
  refine g_loc (lv' := [(0, .ref (ad 0)), (1, .int v)]) ⟨rfl, rfl, trivial⟩ ?_
  refine g_aload_n E dX5_fail_0 rfl ?_
  refine g_iload_n E dX5_fail_1 rfl ?_
  refine pm_M_thrown E  hin5 (by decide +kernel) dX5_fail_2 ?_
  refine g_iconst E dX5_fail_5 ?_
  exact g_iret E (⟨rfl, rfl⟩) dX5_fail_6
set_option maxHeartbeats 800000 in
set_option maxRecDepth 100000 in
/-- isIn(v, lo, hi) -/
theorem m_isIn (l : Launch) (D : va_G) (tys : gT) (A : Nat → Prop) (ws : va_W) (v9 l9 h9 : Int) (hb : R31 v9 ∧ R31 l9 ∧ R31 h9) : Met l yX5_isIn wsX5_isIn ({ frames := 0, cells := 0, slots := 0, locals := 0 }) (PcG D tys A (ws) [.int (zI v9), .int (zI l9), .int (zI h9)]) (va_Qi (fun (r : Int32) ws' => r = zI (if l9 ≤ v9 ∧ v9 ≤ h9 then 1 else 0) ∧ ws' = ws) (gB D A) A) 0 0 A := by
  refine g_met (cc := cX5_isIn) (maxL := 3) (ret := (some .boolean)) (own := RX5) rfl (by decide) rfl (Nat.le_of_ble_eq_true rfl) ?_
  intro p e s m below meth c E
  obtain ⟨⟨h1, h2⟩, ⟨h3, h4⟩, ⟨h5, h6⟩⟩ := hb
  refine g_loc (lv' := [(0, .int (zI v9)), (1, .int (zI l9)), (2, .int (zI h9))]) ⟨rfl, rfl, rfl, trivial⟩ ?_
  refine g_iload_n E dX5_isIn_0 rfl ?_
  refine g_iload_n E dX5_isIn_1 rfl ?_
  refine g_icmp_lt (tgt := 14) E dX5_isIn_2 (by decide) (by omega) (by omega) (fun c_2 => ?_) (fun c_2 => ?_)
  · refine g_iconst E dX5_isIn_14 ?_
    exact g_zret E (by decide) (⟨congrArg zI (by first | exact (if_pos (by omega)).symm | exact (if_neg (by omega)).symm), rfl⟩) dX5_isIn_15
  · refine g_iload_n E dX5_isIn_5 rfl ?_
    refine g_iload_n E dX5_isIn_6 rfl ?_
    refine g_icmp_gt (tgt := 14) E dX5_isIn_7 (by decide) (by omega) (by omega) (fun c_7 => ?_) (fun c_7 => ?_)
    · refine g_iconst E dX5_isIn_14 ?_
      exact g_zret E (by decide) (⟨congrArg zI (by first | exact (if_pos (by omega)).symm | exact (if_neg (by omega)).symm), rfl⟩) dX5_isIn_15
    · refine g_iconst E dX5_isIn_10 ?_
      refine g_goto (tgt := 15) E dX5_isIn_11 (by decide) ?_
      exact g_zret E (by decide) (⟨congrArg zI (by first | exact (if_pos (by omega)).symm | exact (if_neg (by omega)).symm), rfl⟩) dX5_isIn_15
set_option maxHeartbeats 800000 in
set_option maxRecDepth 100000 in
/-- isPile(p) -/
theorem m_isPile (l : Launch) (D : va_G) (cA : Nat → ClassId) (A : Nat → Prop) (ad : Nat → Nat) (a : St) (th dd : Int32) (kp : Nat → Nat → Int32) (p9 : Int) (hp : R31 p9) (hn : 0 ≤ np a ∧ np a ≤ 6) : Met l yX5_isPile wsX5_isPile ({ frames := 1, cells := 0, slots := 0, locals := 22 }) (PcG D (tysX cA) A (wM cA ad a th dd kp) [.ref (ad 0), .int (zI p9)]) (va_Qi (fun (r : Int32) ws' => r = zI (if 0 ≤ p9 ∧ p9 < np a then 1 else 0) ∧ ws' = wM cA ad a th dd kp) (gB D A) A) 0 0 A := by
  refine g_met (cc := cX5_isPile) (maxL := 2) (ret := (some .boolean)) (own := RX5) rfl (by decide) rfl (Nat.le_of_ble_eq_true rfl) ?_
  intro p e s m below meth c E
  have hin5 : ∀ w ∈ u_ws RX5 TX5 19, w ∈ wsX5_isPile := by decide +kernel
  obtain ⟨h1, h2⟩ := hp
  refine g_loc (lv' := [(0, .ref (ad 0)), (1, .int (zI p9))]) ⟨rfl, rfl, trivial⟩ ?_
  refine g_iload_n E dX5_isPile_0 rfl ?_
  refine g_iconst E dX5_isPile_1 ?_
  refine g_aload_n E dX5_isPile_2 rfl ?_
  refine gm_M_piles E  hin5 (by decide +kernel) dX5_isPile_3 ?_
  refine g_iconst E dX5_isPile_6 ?_
  refine g_isub E dX5_isPile_7 ?_
  refine g_callTi (n := 3) (As := [_, _, _]) (rest := _) E (m_isIn l D _ A _ _ _ _ (by omega)) gX5_isPile_X5_isIn rfl ⟨rfl, rfl⟩ (by decide +kernel) ⟨Nat.le_of_ble_eq_true rfl, Nat.le_of_ble_eq_true rfl⟩ rfl rfl (Nat.le_of_ble_eq_true rfl) ⟨Nat.le_of_ble_eq_true rfl, Nat.le_of_ble_eq_true rfl⟩ dX5_isPile_8 ?_
  rintro r_8 ws_8 ⟨rfl, rfl⟩
  exact g_zret E (narB _) (⟨congrArg zI (by by_cases h : 0 ≤ p9 ∧ p9 < np a; rw [if_pos h, if_pos (by omega)]; rw [if_neg h, if_neg (by omega)]), rfl⟩) dX5_isPile_11
set_option maxHeartbeats 800000 in
set_option maxRecDepth 100000 in
/-- isCalibre(c) -/
theorem m_isCalibre (l : Launch) (D : va_G) (tys : gT) (A : Nat → Prop) (ws : va_W) (p9 : Int) (hp : R31 p9) : Met l yX5_isCalibre wsX5_isCalibre ({ frames := 1, cells := 0, slots := 0, locals := 22 }) (PcG D tys A (ws) [.int (zI p9)]) (va_Qi (fun (r : Int32) ws' => r = zI (if 0 ≤ p9 ∧ p9 ≤ 4 then 1 else 0) ∧ ws' = ws) (gB D A) A) 0 0 A := by
  refine g_met (cc := cX5_isCalibre) (maxL := 1) (ret := (some .boolean)) (own := RX5) rfl (by decide) rfl (Nat.le_of_ble_eq_true rfl) ?_
  intro p e s m below meth c E
  obtain ⟨h1, h2⟩ := hp
  refine g_loc (lv' := [(0, .int (zI p9))]) ⟨rfl, trivial⟩ ?_
  refine g_iload_n E dX5_isCalibre_0 rfl ?_
  refine g_iconst E dX5_isCalibre_1 ?_
  refine g_iconst E dX5_isCalibre_2 ?_
  refine g_callTi (n := 3) (As := [_, _, _]) (rest := _) E (m_isIn l D _ A _ _ _ _ (by omega)) gX5_isCalibre_X5_isIn rfl ⟨rfl, rfl⟩ (by decide +kernel) ⟨Nat.le_of_ble_eq_true rfl, Nat.le_of_ble_eq_true rfl⟩ rfl rfl (Nat.le_of_ble_eq_true rfl) ⟨Nat.le_of_ble_eq_true rfl, Nat.le_of_ble_eq_true rfl⟩ dX5_isCalibre_3 ?_
  rintro r_3 ws_3 ⟨rfl, rfl⟩
  exact g_zret E (narB _) (⟨rfl, rfl⟩) dX5_isCalibre_6
set_option maxHeartbeats 800000 in
set_option maxRecDepth 100000 in
/-- of(p, w) -/
theorem m_of (l : Launch) (D : va_G) (cA : Nat → ClassId) (A : Nat → Prop) (ad : Nat → Nat) (a : St) (th dd : Int32) (kp : Nat → Nat → Int32) (q9 : Nat) (hq : q9 < 6) (w9 : Nat) (hw : w9 < 4) (hc : 0 ≤ cal a q9 ∧ cal a q9 ≤ 4) : Met l yX5_of wsX5_of ({ frames := 0, cells := 0, slots := 0, locals := 0 }) (PcG D (tysX cA) A (wM cA ad a th dd kp) [.ref (ad 0), .int (zI (q9 : Int)), .int (zI (w9 : Int))]) (va_Qi (fun (r : Int32) ws' => r = a (tagN w9) 0 (cal a q9).toNat ∧ ws' = wM cA ad a th dd kp) (gB D A) A) 0 0 A := by
  refine g_met (cc := cX5_of) (maxL := 3) (ret := (some .int)) (own := RX5) rfl (by decide) rfl (Nat.le_of_ble_eq_true rfl) ?_
  intro p e s m below meth c E
  have hin5 : ∀ w ∈ u_ws RX5 TX5 19, w ∈ wsX5_of := by decide +kernel
  refine g_loc (lv' := [(0, .ref (ad 0)), (1, .int (zI (q9 : Int))), (2, .int (zI (w9 : Int)))]) ⟨rfl, rfl, rfl, trivial⟩ ?_
  refine g_aload_n E dX5_of_0 rfl ?_
  refine gm_M_numbers E  hin5 (by decide +kernel) dX5_of_1 ?_
  refine g_iconst E dX5_of_4 ?_
  refine g_aload_n E dX5_of_5 rfl ?_
  refine gm_M_calibres E  hin5 (by decide +kernel) dX5_of_6 ?_
  refine g_iload_n E dX5_of_9 rfl ?_
  first | refine lm_calibresN E (by omega) dX5_of_10 ?_ | refine lm_calibres E (by omega) dX5_of_10 ?_
  refine g_imul E dX5_of_11 ?_
  refine g_iload_n E dX5_of_12 rfl ?_
  refine g_iadd E dX5_of_13 ?_
  refine lm_numbers (c9 := (cal a q9).toNat) (w9 := w9) E ⟨by omega, by omega⟩ (by omega) dX5_of_14 ?_
  exact g_iret E (⟨rfl, rfl⟩) dX5_of_15
set_option maxHeartbeats 800000 in
set_option maxRecDepth 100000 in
/-- more(c, w, by) -/
theorem m_more (l : Launch) (D : va_G) (cA : Nat → ClassId) (A : Nat → Prop) (ad : Nat → Nat) (a : St) (th dd : Int32) (kp : Nat → Nat → Int32) (q9 : Nat) (hq : q9 < 5) (w9 : Nat) (hw : w9 < 4) (v : Int32) : Met l yX5_more wsX5_more ({ frames := 0, cells := 0, slots := 0, locals := 0 }) (PcG D (tysX cA) A (wM cA ad a th dd kp) [.ref (ad 0), .int (zI (q9 : Int)), .int (zI (w9 : Int)), .int v]) (va_Qv (fun ws' => ws' = wM cA ad (up3 a (tagN w9) 0 q9 (a (tagN w9) 0 q9 + v)) th dd kp) (gB D A) A) 0 0 A := by
  refine g_met (cc := cX5_more) (maxL := 4) (ret := none) (own := RX5) rfl (by decide) rfl (Nat.le_of_ble_eq_true rfl) ?_
  intro p e s m below meth c E
  have hin5 : ∀ w ∈ u_ws RX5 TX5 19, w ∈ wsX5_more := by decide +kernel
  refine g_loc (lv' := [(0, .ref (ad 0)), (1, .int (zI (q9 : Int))), (2, .int (zI (w9 : Int))), (3, .int v)]) ⟨rfl, rfl, rfl, rfl, trivial⟩ ?_
  refine g_aload_n E dX5_more_0 rfl ?_
  refine gm_M_numbers E  hin5 (by decide +kernel) dX5_more_1 ?_
  refine g_iconst E dX5_more_4 ?_
  refine g_iload_n E dX5_more_5 rfl ?_
  refine g_imul E dX5_more_6 ?_
  refine g_iload_n E dX5_more_7 rfl ?_
  refine g_iadd E dX5_more_8 ?_
  refine g_dup2 E dX5_more_9 rfl rfl ?_
  refine lm_numbers (c9 := q9) (w9 := w9) E ⟨by omega, by omega⟩ (by omega) dX5_more_10 ?_
  refine g_iload_n E dX5_more_11 rfl ?_
  refine g_iaddR E dX5_more_12 ?_
  refine sm_numbers (c9 := q9) (w9 := w9) E ⟨by omega, by omega⟩ (by omega) dX5_more_13 ?_
  exact g_vret E (rfl) dX5_more_14
set_option maxHeartbeats 800000 in
set_option maxRecDepth 100000 in
/-- roomOf(n) -/
theorem m_roomOf (l : Launch) (D : va_G) (tys : gT) (A : Nat → Prop) (ws : va_W) (n9 : Int) (hn : 0 ≤ n9 ∧ n9 ≤ 20) : Met l yX5_roomOf wsX5_roomOf ({ frames := 0, cells := 0, slots := 0, locals := 0 }) (PcG D tys A (ws) [.int (zI n9)]) (va_Qi (fun (r : Int32) ws' => r = zI (sq n9) ∧ ws' = ws) (gB D A) A) 0 0 A := by
  refine g_met (cc := cX5_roomOf) (maxL := 1) (ret := (some .int)) (own := RX5) rfl (by decide) rfl (Nat.le_of_ble_eq_true rfl) ?_
  intro p e s m below meth c E
  have hb := sq_bz hn
  refine g_loc (lv' := [(0, .int (zI n9))]) ⟨rfl, trivial⟩ ?_
  refine g_iload_n E dX5_roomOf_0 rfl ?_
  refine g_iload_n E dX5_roomOf_1 rfl ?_
  refine g_iconst E dX5_roomOf_2 ?_
  refine g_iadd E dX5_roomOf_3 ?_
  refine g_imul E dX5_roomOf_4 ?_
  refine g_iconst E dX5_roomOf_5 ?_
  refine g_iload_n E dX5_roomOf_6 rfl ?_
  refine g_imul E dX5_roomOf_7 ?_
  refine g_iconst E dX5_roomOf_8 ?_
  refine g_iadd E dX5_roomOf_9 ?_
  refine g_imul E dX5_roomOf_10 ?_
  refine g_bipush E dX5_roomOf_11 (by decide) ?_
  refine g_idiv E dX5_roomOf_13 (by omega) (by omega) ?_
  exact g_iret E (⟨rfl, rfl⟩) dX5_roomOf_14
set_option maxHeartbeats 800000 in
set_option maxRecDepth 100000 in
/-- room(p, k) -/
theorem m_room (l : Launch) (D : va_G) (cA : Nat → ClassId) (A : Nat → Prop) (ad : Nat → Nat) (a : St) (th dd : Int32) (kp : Nat → Nat → Int32) (q9 : Nat) (hq : q9 < 6) (hs : 1 ≤ sd a q9 ∧ sd a q9 ≤ 6) (k9 : Int) (hk : 0 ≤ k9 ∧ k9 ≤ sd a q9) : Met l yX5_room wsX5_room ({ frames := 1, cells := 0, slots := 0, locals := 20 }) (PcG D (tysX cA) A (wM cA ad a th dd kp) [.ref (ad 0), .int (zI (q9 : Int)), .int (zI k9)]) (va_Qi (fun (r : Int32) ws' => r = zI (stz (sd a q9) k9) ∧ ws' = wM cA ad a th dd kp) (gB D A) A) 0 0 A := by
  refine g_met (cc := cX5_room) (maxL := 3) (ret := (some .int)) (own := RX5) rfl (by decide) rfl (Nat.le_of_ble_eq_true rfl) ?_
  intro p e s m below meth c E
  have hin5 : ∀ w ∈ u_ws RX5 TX5 19, w ∈ wsX5_room := by decide +kernel
  refine g_loc (lv' := [(0, .ref (ad 0)), (1, .int (zI (q9 : Int))), (2, .int (zI k9))]) ⟨rfl, rfl, rfl, trivial⟩ ?_
  refine g_aload_n E dX5_room_0 rfl ?_
  refine gm_M_sides E  hin5 (by decide +kernel) dX5_room_1 ?_
  refine g_iload_n E dX5_room_4 rfl ?_
  first | refine lm_sidesN E (by omega) dX5_room_5 ?_ | refine lm_sides E (by omega) dX5_room_5 ?_
  refine g_callTi (n := 1) (As := [_]) (rest := _) E (m_roomOf l D _ A _ _ (by omega)) gX5_room_X5_roomOf rfl ⟨rfl, rfl⟩ (by decide +kernel) ⟨Nat.le_of_ble_eq_true rfl, Nat.le_of_ble_eq_true rfl⟩ rfl rfl (Nat.le_of_ble_eq_true rfl) ⟨Nat.le_of_ble_eq_true rfl, Nat.le_of_ble_eq_true rfl⟩ dX5_room_6 ?_
  rintro r_6 ws_6 ⟨rfl, rfl⟩
  refine g_aload_n E dX5_room_9 rfl ?_
  refine gm_M_sides E  hin5 (by decide +kernel) dX5_room_10 ?_
  refine g_iload_n E dX5_room_13 rfl ?_
  first | refine lm_sidesN E (by omega) dX5_room_14 ?_ | refine lm_sides E (by omega) dX5_room_14 ?_
  refine g_iload_n E dX5_room_15 rfl ?_
  refine g_isub E dX5_room_16 ?_
  refine g_callTi (n := 1) (As := [_]) (rest := _) E (m_roomOf l D _ A _ _ (by omega)) gX5_room_X5_roomOf rfl ⟨rfl, rfl⟩ (by decide +kernel) ⟨Nat.le_of_ble_eq_true rfl, Nat.le_of_ble_eq_true rfl⟩ rfl rfl (Nat.le_of_ble_eq_true rfl) ⟨Nat.le_of_ble_eq_true rfl, Nat.le_of_ble_eq_true rfl⟩ dX5_room_17 ?_
  rintro r_17 ws_17 ⟨rfl, rfl⟩
  refine g_isub E dX5_room_20 ?_
  exact g_iret E (⟨rfl, rfl⟩) dX5_room_21
set_option maxHeartbeats 800000 in
set_option maxRecDepth 100000 in
/-- layers(p, b) -/
theorem m_layers (l : Launch) (D : va_G) (cA : Nat → ClassId) (A : Nat → Prop) (ad : Nat → Nat) (a : St) (th dd : Int32) (kp : Nat → Nat → Int32) (q9 : Nat) (hq : q9 < 6) (hPO : PO a q9) (b9 : Int) (hb : 0 ≤ b9 ∧ b9 ≤ sq (sd a q9)) : Met l yX5_layers wsX5_layers ({ frames := 2, cells := 0, slots := 0, locals := 42 }) (PcG D (tysX cA) A (wM cA ad a th dd kp) [.ref (ad 0), .int (zI (q9 : Int)), .int (zI b9)]) (va_Qi (fun (r : Int32) ws' => r = zI (lb (sd a q9) b9) ∧ ws' = wM cA ad a th dd kp) (gB D A) A) 0 0 A := by
  refine g_met (cc := cX5_layers) (maxL := 4) (ret := (some .int)) (own := RX5) rfl (by decide) rfl (Nat.le_of_ble_eq_true rfl) ?_
  intro p e s m below meth c E
  have hin5 : ∀ w ∈ u_ws RX5 TX5 19, w ∈ wsX5_layers := by decide +kernel
  obtain ⟨hs1, hs6, hb0, hb1⟩ := id hPO
  have hsq := sq_le (e := sd a q9) ⟨hs1, hs6⟩
  have hzz := fun (k : Int) (h : 0 ≤ k ∧ k ≤ sd a q9) => stz_z (e := sd a q9) (k := k) (by omega) h
  refine g_loc (lv' := [(0, .ref (ad 0)), (1, .int (zI (q9 : Int))), (2, .int (zI b9))]) ⟨rfl, rfl, rfl, trivial⟩ ?_
  refine g_iconst E dX5_layers_0 ?_
  refine g_istore_n E dX5_layers_1 (by decide) ?_
  have key_kk : ∀ (n_kk kk : Nat), (kk : Int) ≤ sd a q9 → sd a q9 + 1 ≤ (kk : Int) + n_kk → (lbA (sd a q9) b9 (7 - kk) kk = lb (sd a q9) b9) → GW p l e (headSpec wsX5_layers ({ frames := 2, cells := 0, slots := 0, locals := 42 })).room s m ([.ref (ad 0), .int (zI (q9 : Int)), .int (zI b9)] : List Value).toArray below meth c (MQ below (va_Qi (fun (r : Int32) ws' => r = zI (lb (sd a q9) b9) ∧ ws' = wM cA ad a th dd kp) (gB D A) A) ([.ref (ad 0), .int (zI (q9 : Int)), .int (zI b9)] : List Value).toArray s 0 0 A) D A 4 (wM cA ad a th dd kp) 0 0 2 [(0, .ref (ad 0)), (1, .int (zI (q9 : Int))), (2, .int (zI b9)), (3, .int (zI (kk : Int)))] [] := by
    intro n_kk
    induction n_kk with
    | zero => intro kk h1 h2; exact absurd h2 (by omega)
    | succ n_kk ih_kk =>
      intro kk hle_kk hfu_kk hi0_kk
      have hz1 := hzz kk (by omega)
      have hze := stz_e (e := sd a q9)
      have hke : (kk : Int) = sd a q9 → stz (sd a q9) kk = sq (sd a q9) := fun h => by rw [h]; exact hze
      refine g_aload_n E dX5_layers_2 rfl ?_
      refine g_iload_n E dX5_layers_3 rfl ?_
      refine g_iload_n E dX5_layers_4 rfl ?_
      refine g_callVi (T := TX5) (ci := 5) (n := 2) (As := [_, _]) (rest := _) E (m_room l D cA A ad _ _ _ _ _ (by omega) (by omega) _ (by omega)) gX5_layers_X5_room rfl ⟨rfl, rfl⟩ (by decide +kernel) ⟨Nat.le_of_ble_eq_true rfl, Nat.le_of_ble_eq_true rfl⟩ obM rfl rfl rfl (Nat.le_of_ble_eq_true rfl) ⟨Nat.le_of_ble_eq_true rfl, Nat.le_of_ble_eq_true rfl⟩ dX5_layers_5 ?_
      rintro r_5 ws_5 ⟨rfl, rfl⟩
      refine g_iload_n E dX5_layers_8 rfl ?_
      refine g_icmp_ge (tgt := 18) E dX5_layers_9 (by decide) (by omega) (by omega) (fun c_9 => ?_) (fun c_9 => ?_)
      · refine g_iload_n E dX5_layers_18 rfl ?_
        exact g_iret E (⟨by rw [← hi0_kk, lbA_s (by omega), if_neg (by omega)], rfl⟩) dX5_layers_19
      · refine g_iinc E dX5_layers_12 rfl (by decide) ?_
        refine g_goto (tgt := 2) E dX5_layers_15 (by decide) ?_
        refine g_loc (lv' := [(0, .ref (ad 0)), (1, .int (zI (q9 : Int))), (2, .int (zI b9)), (3, .int (zI ((kk + 1) : Int)))]) ⟨rfl, rfl, rfl, rfl, trivial⟩ ?_
        exact ih_kk (kk + 1) (by omega) (by omega) (by rw [← hi0_kk, lbA_s (by omega) (n := 7 - kk), if_pos ⟨by omega, by omega⟩]; rfl)
  refine g_loc (lv' := [(0, .ref (ad 0)), (1, .int (zI (q9 : Int))), (2, .int (zI b9)), (3, .int (zI (0 : Int)))]) ⟨rfl, rfl, rfl, rfl, trivial⟩ ?_
  exact key_kk ((sd a q9) + 1).toNat.succ 0 (by omega) (by omega) (rfl)
set_option maxHeartbeats 800000 in
set_option maxRecDepth 100000 in
/-- full(p) -/
theorem m_full (l : Launch) (D : va_G) (cA : Nat → ClassId) (A : Nat → Prop) (ad : Nat → Nat) (a : St) (th dd : Int32) (kp : Nat → Nat → Int32) (q9 : Nat) (hq : q9 < 6) (hPO : PO a q9) : Met l yX5_full wsX5_full ({ frames := 2, cells := 0, slots := 0, locals := 42 }) (PcG D (tysX cA) A (wM cA ad a th dd kp) [.ref (ad 0), .int (zI (q9 : Int))]) (va_Qi (fun (r : Int32) ws' => r = zI (lf (sd a q9) (bl a q9)) ∧ ws' = wM cA ad a th dd kp) (gB D A) A) 0 0 A := by
  refine g_met (cc := cX5_full) (maxL := 3) (ret := (some .int)) (own := RX5) rfl (by decide) rfl (Nat.le_of_ble_eq_true rfl) ?_
  intro p e s m below meth c E
  have hin5 : ∀ w ∈ u_ws RX5 TX5 19, w ∈ wsX5_full := by decide +kernel
  obtain ⟨hs1, hs6, hb0, hb1⟩ := id hPO
  have hsq := sq_le (e := sd a q9) ⟨hs1, hs6⟩
  have hzz := fun (k : Int) (h : 0 ≤ k ∧ k ≤ sd a q9) => stz_z (e := sd a q9) (k := k) (by omega) h
  refine g_loc (lv' := [(0, .ref (ad 0)), (1, .int (zI (q9 : Int)))]) ⟨rfl, rfl, trivial⟩ ?_
  refine g_iconst E dX5_full_0 ?_
  refine g_istore_n E dX5_full_1 (by decide) ?_
  have key_kk : ∀ (n_kk kk : Nat), (kk : Int) ≤ sd a q9 → sd a q9 + 1 ≤ (kk : Int) + n_kk → (lfA (sd a q9) (bl a q9) (7 - kk) kk = lf (sd a q9) (bl a q9)) → GW p l e (headSpec wsX5_full ({ frames := 2, cells := 0, slots := 0, locals := 42 })).room s m ([.ref (ad 0), .int (zI (q9 : Int))] : List Value).toArray below meth c (MQ below (va_Qi (fun (r : Int32) ws' => r = zI (lf (sd a q9) (bl a q9)) ∧ ws' = wM cA ad a th dd kp) (gB D A) A) ([.ref (ad 0), .int (zI (q9 : Int))] : List Value).toArray s 0 0 A) D A 3 (wM cA ad a th dd kp) 0 0 2 [(0, .ref (ad 0)), (1, .int (zI (q9 : Int))), (2, .int (zI (kk : Int)))] [] := by
    intro n_kk
    induction n_kk with
    | zero => intro kk h1 h2; exact absurd h2 (by omega)
    | succ n_kk ih_kk =>
      intro kk hle_kk hfu_kk hi0_kk
      have hz1 : (kk : Int) < sd a q9 → _ := fun h => hzz (kk + 1) (by omega)
      refine g_iload_n E dX5_full_2 rfl ?_
      refine g_aload_n E dX5_full_3 rfl ?_
      refine gm_M_sides E  hin5 (by decide +kernel) dX5_full_4 ?_
      refine g_iload_n E dX5_full_7 rfl ?_
      first | refine lm_sidesN E (by omega) dX5_full_8 ?_ | refine lm_sides E (by omega) dX5_full_8 ?_
      refine g_icmp_ge (tgt := 35) E dX5_full_9 (by decide) (by omega) (by omega) (fun c_9 => ?_) (fun c_9 => ?_)
      · refine g_iload_n E dX5_full_35 rfl ?_
        exact g_iret E (⟨by rw [← hi0_kk, lfA_s (by omega), if_neg (by omega)], rfl⟩) dX5_full_36
      · refine g_aload_n E dX5_full_12 rfl ?_
        refine g_iload_n E dX5_full_13 rfl ?_
        refine g_iload_n E dX5_full_14 rfl ?_
        refine g_iconst E dX5_full_15 ?_
        refine g_iadd E dX5_full_16 ?_
        refine g_callVi (T := TX5) (ci := 5) (n := 2) (As := [_, _]) (rest := _) E (m_room l D cA A ad _ _ _ _ _ (by omega) (by omega) _ (by omega)) gX5_full_X5_room rfl ⟨rfl, rfl⟩ (by decide +kernel) ⟨Nat.le_of_ble_eq_true rfl, Nat.le_of_ble_eq_true rfl⟩ obM rfl rfl rfl (Nat.le_of_ble_eq_true rfl) ⟨Nat.le_of_ble_eq_true rfl, Nat.le_of_ble_eq_true rfl⟩ dX5_full_17 ?_
        rintro r_17 ws_17 ⟨rfl, rfl⟩
        refine g_aload_n E dX5_full_20 rfl ?_
        refine gm_M_many E  hin5 (by decide +kernel) dX5_full_21 ?_
        refine g_iload_n E dX5_full_24 rfl ?_
        first | refine lm_manyN E (by omega) dX5_full_25 ?_ | refine lm_many E (by omega) dX5_full_25 ?_
        refine g_icmp_gt (tgt := 35) E dX5_full_26 (by decide) (by omega) (by omega) (fun c_26 => ?_) (fun c_26 => ?_)
        · refine g_iload_n E dX5_full_35 rfl ?_
          exact g_iret E (⟨by rw [← hi0_kk, lfA_s (by omega), if_neg (by omega)], rfl⟩) dX5_full_36
        · refine g_iinc E dX5_full_29 rfl (by decide) ?_
          refine g_goto (tgt := 2) E dX5_full_32 (by decide) ?_
          refine g_loc (lv' := [(0, .ref (ad 0)), (1, .int (zI (q9 : Int))), (2, .int (zI ((kk + 1) : Int)))]) ⟨rfl, rfl, rfl, trivial⟩ ?_
          exact ih_kk (kk + 1) (by omega) (by omega) (by rw [← hi0_kk, lfA_s (by omega) (n := 7 - kk), if_pos ⟨by omega, by omega⟩]; rfl)
  refine g_loc (lv' := [(0, .ref (ad 0)), (1, .int (zI (q9 : Int))), (2, .int (zI (0 : Int)))]) ⟨rfl, rfl, rfl, trivial⟩ ?_
  exact key_kk ((sd a q9) + 1).toNat.succ 0 (by omega) (by omega) (rfl)
set_option maxHeartbeats 800000 in
set_option maxRecDepth 100000 in
/-- full(p, b) -/
theorem m_full_ (l : Launch) (D : va_G) (cA : Nat → ClassId) (A : Nat → Prop) (ad : Nat → Nat) (a : St) (th dd : Int32) (kp : Nat → Nat → Int32) (q9 : Nat) (hq : q9 < 6) (hPO : PO a q9) (b9 : Int) (hb : 0 ≤ b9 ∧ b9 < sq (sd a q9)) : Met l yX5_full_ wsX5_full_ ({ frames := 2, cells := 0, slots := 0, locals := 42 }) (PcG D (tysX cA) A (wM cA ad a th dd kp) [.ref (ad 0), .int (zI (q9 : Int)), .int (zI b9)]) (va_Qi (fun (r : Int32) ws' => r = zI (lf (sd a q9) b9) ∧ ws' = wM cA ad a th dd kp) (gB D A) A) 0 0 A := by
  refine g_met (cc := cX5_full_) (maxL := 4) (ret := (some .int)) (own := RX5) rfl (by decide) rfl (Nat.le_of_ble_eq_true rfl) ?_
  intro p e s m below meth c E
  have hin5 : ∀ w ∈ u_ws RX5 TX5 19, w ∈ wsX5_full_ := by decide +kernel
  obtain ⟨hs1, hs6, hb0, hb1⟩ := id hPO
  have hsq := sq_le (e := sd a q9) ⟨hs1, hs6⟩
  have hzz := fun (k : Int) (h : 0 ≤ k ∧ k ≤ sd a q9) => stz_z (e := sd a q9) (k := k) (by omega) h
  refine g_loc (lv' := [(0, .ref (ad 0)), (1, .int (zI (q9 : Int))), (2, .int (zI b9))]) ⟨rfl, rfl, rfl, trivial⟩ ?_
  refine g_iconst E dX5_full__0 ?_
  refine g_istore_n E dX5_full__1 (by decide) ?_
  have key_kk : ∀ (n_kk kk : Nat), (kk : Int) ≤ (sd a q9 - 1) → (sd a q9 - 1) + 1 ≤ (kk : Int) + n_kk → (lfA (sd a q9) b9 (7 - kk) kk = lf (sd a q9) b9) → GW p l e (headSpec wsX5_full_ ({ frames := 2, cells := 0, slots := 0, locals := 42 })).room s m ([.ref (ad 0), .int (zI (q9 : Int)), .int (zI b9)] : List Value).toArray below meth c (MQ below (va_Qi (fun (r : Int32) ws' => r = zI (lf (sd a q9) b9) ∧ ws' = wM cA ad a th dd kp) (gB D A) A) ([.ref (ad 0), .int (zI (q9 : Int)), .int (zI b9)] : List Value).toArray s 0 0 A) D A 4 (wM cA ad a th dd kp) 0 0 2 [(0, .ref (ad 0)), (1, .int (zI (q9 : Int))), (2, .int (zI b9)), (3, .int (zI (kk : Int)))] [] := by
    intro n_kk
    induction n_kk with
    | zero => intro kk h1 h2; exact absurd h2 (by omega)
    | succ n_kk ih_kk =>
      intro kk hle_kk hfu_kk hi0_kk
      have hz1 := hzz (kk + 1) (by omega)
      have hze := stz_e (e := sd a q9)
      have hke : (kk : Int) + 1 = sd a q9 → stz (sd a q9) (kk + 1) = sq (sd a q9) := fun h => by rw [h]; exact hze
      refine g_aload_n E dX5_full__2 rfl ?_
      refine g_iload_n E dX5_full__3 rfl ?_
      refine g_iload_n E dX5_full__4 rfl ?_
      refine g_iconst E dX5_full__5 ?_
      refine g_iadd E dX5_full__6 ?_
      refine g_callVi (T := TX5) (ci := 5) (n := 2) (As := [_, _]) (rest := _) E (m_room l D cA A ad _ _ _ _ _ (by omega) (by omega) _ (by omega)) gX5_full__X5_room rfl ⟨rfl, rfl⟩ (by decide +kernel) ⟨Nat.le_of_ble_eq_true rfl, Nat.le_of_ble_eq_true rfl⟩ obM rfl rfl rfl (Nat.le_of_ble_eq_true rfl) ⟨Nat.le_of_ble_eq_true rfl, Nat.le_of_ble_eq_true rfl⟩ dX5_full__7 ?_
      rintro r_7 ws_7 ⟨rfl, rfl⟩
      refine g_iload_n E dX5_full__10 rfl ?_
      refine g_icmp_gt (tgt := 20) E dX5_full__11 (by decide) (by omega) (by omega) (fun c_11 => ?_) (fun c_11 => ?_)
      · refine g_iload_n E dX5_full__20 rfl ?_
        exact g_iret E (⟨by rw [← hi0_kk, lfA_s (by omega), if_neg (by omega)], rfl⟩) dX5_full__21
      · refine g_iinc E dX5_full__14 rfl (by decide) ?_
        refine g_goto (tgt := 2) E dX5_full__17 (by decide) ?_
        refine g_loc (lv' := [(0, .ref (ad 0)), (1, .int (zI (q9 : Int))), (2, .int (zI b9)), (3, .int (zI ((kk + 1) : Int)))]) ⟨rfl, rfl, rfl, rfl, trivial⟩ ?_
        exact ih_kk (kk + 1) (by omega) (by omega) (by rw [← hi0_kk, lfA_s (by omega) (n := 7 - kk), if_pos ⟨by omega, by omega⟩]; rfl)
  refine g_loc (lv' := [(0, .ref (ad 0)), (1, .int (zI (q9 : Int))), (2, .int (zI b9)), (3, .int (zI (0 : Int)))]) ⟨rfl, rfl, rfl, rfl, trivial⟩ ?_
  exact key_kk (((sd a q9 - 1)) + 1).toNat.succ 0 (by omega) (by omega) (rfl)
