/-! ===== PILE ===== -/
theorem lf_b0 : ∀ i : Nat, i < 7 → ∀ b : Nat, b < 101 → 0 ≤ lf i b ∧ lf i b ≤ i := by decide +kernel
theorem lb_b0 : ∀ i : Nat, i < 7 → ∀ b : Nat, b < 101 → 0 ≤ lb i b ∧ lb i b ≤ i := by decide +kernel
theorem lf_b {e b : Int} (h : (1 ≤ e ∧ e ≤ 6) ∧ 0 ≤ b ∧ b ≤ 100) : 0 ≤ lf e b ∧ lf e b ≤ e := by
  obtain ⟨i, rfl⟩ := Int.eq_ofNat_of_zero_le (show 0 ≤ e by omega)
  obtain ⟨k, rfl⟩ := Int.eq_ofNat_of_zero_le (show 0 ≤ b by omega)
  exact lf_b0 i (by omega) k (by omega)
theorem lb_b {e b : Int} (h : (1 ≤ e ∧ e ≤ 6) ∧ 0 ≤ b ∧ b ≤ 100) : 0 ≤ lb e b ∧ lb e b ≤ e := by
  obtain ⟨i, rfl⟩ := Int.eq_ofNat_of_zero_le (show 0 ≤ e by omega)
  obtain ⟨k, rfl⟩ := Int.eq_ofNat_of_zero_le (show 0 ≤ b by omega)
  exact lb_b0 i (by omega) k (by omega)
set_option maxHeartbeats 800000 in
set_option maxRecDepth 100000 in
/-- Pile.spare() -/
theorem c_X1_spare (l : Launch) (D : va_G) (cA : Nat → ClassId) (A : Nat → Prop) (ad : Ad) (σ : Nat → St) (y p9 : Nat) (a : St) (hy : y < 2) (hp : p9 < 6) (hPO : PO a p9) : Met l yX1_spare wsX1_spare ({ frames := 0, cells := 0, slots := 0, locals := 0 }) (PcG D (tysX cA) A (wX cA ad (upY σ y a)) [.ref (ad y 1 p9)]) (va_Qi (fun (r : Int32) ws' => r = zI (sq (sd a p9) - bl a p9) ∧ ws' = wX cA ad (upY σ y a)) (gB D A) A) 0 0 A := by
  refine g_met (cc := cX1_spare) (maxL := 1) (ret := (some .int)) (own := RX1) rfl (by decide) rfl (Nat.le_of_ble_eq_true rfl) ?_
  intro p e s m below meth c E
  have hin1 : ∀ w ∈ u_ws RX1 TX1 4, w ∈ wsX1_spare := by decide +kernel
  have hin2 : ∀ w ∈ u_ws RX2 TX2 4, w ∈ wsX1_spare := by decide +kernel
  obtain ⟨hs1, hs6, hb0, hb1⟩ := id hPO
  have hsq := sq_le (e := sd a p9) ⟨hs1, hs6⟩
  obtain ⟨hn1, hn7, hpy⟩ := pyN_c (a := a) (p := p9) ⟨hs1, hs6⟩
  refine g_loc (lv' := [(0, .ref (ad y 1 p9))]) ⟨rfl, trivial⟩ ?_
  refine g_aload_n E dX1_spare_0 rfl ?_
  refine gx_Pile_pyramid' E (mem_1 _ (by omega) _ (by omega)) hin1 (by decide +kernel) dX1_spare_1 ?_
  refine gx_Pyr_capacity E (mem_9 _ (by omega) (by omega)) hin2 (by decide +kernel) dX1_spare_4 ?_
  refine g_aload_n E dX1_spare_7 rfl ?_
  refine gx_Pile_balls' E (mem_1 _ (by omega) _ (by omega)) hin1 (by decide +kernel) dX1_spare_8 ?_
  refine g_isub E dX1_spare_11 ?_
  exact g_iret E (⟨by rw [hpy], rfl⟩) dX1_spare_12
set_option maxHeartbeats 800000 in
set_option maxRecDepth 100000 in
/-- Pile.rustOf(b) -/
theorem c_X1_rustOf (l : Launch) (D : va_G) (cA : Nat → ClassId) (A : Nat → Prop) (ad : Ad) (σ : Nat → St) (y p9 : Nat) (a : St) (hy : y < 2) (hp : p9 < 6) (hPO : PO a p9) (b : Int) (hb : 0 ≤ b ∧ b < 91) : Met l yX1_rustOf wsX1_rustOf ({ frames := 0, cells := 0, slots := 0, locals := 0 }) (PcG D (tysX cA) A (wX cA ad (upY σ y a)) [.ref (ad y 1 p9), .int (zI b)]) (va_Qi (fun (r : Int32) ws' => r = a 2 p9 b.toNat ∧ ws' = wX cA ad (upY σ y a)) (gB D A) A) 0 0 A := by
  refine g_met (cc := cX1_rustOf) (maxL := 2) (ret := (some .int)) (own := RX1) rfl (by decide) rfl (Nat.le_of_ble_eq_true rfl) ?_
  intro p e s m below meth c E
  have hin1 : ∀ w ∈ u_ws RX1 TX1 4, w ∈ wsX1_rustOf := by decide +kernel
  obtain ⟨hs1, hs6, hb0, hb1⟩ := id hPO
  have hsq := sq_le (e := sd a p9) ⟨hs1, hs6⟩
  obtain ⟨hn1, hn7, hpy⟩ := pyN_c (a := a) (p := p9) ⟨hs1, hs6⟩
  refine g_loc (lv' := [(0, .ref (ad y 1 p9)), (1, .int (zI b))]) ⟨rfl, rfl, trivial⟩ ?_
  refine g_iload_n E dX1_rustOf_0 rfl ?_
  refine g_if_lt (tgt := 22) E dX1_rustOf_1 (by decide) (by omega) (fun c_1 => ?_) (fun c_1 => ?_)
  · exact absurd c_1 (by omega)
  · refine g_iload_n E dX1_rustOf_4 rfl ?_
    refine g_aload_n E dX1_rustOf_5 rfl ?_
    refine gx_Pile_rust' E (mem_1 _ (by omega) _ (by omega)) hin1 (by decide +kernel) dX1_rustOf_6 ?_
    refine nx_2' E (mem_2 _ (by omega) _ (by omega)) dX1_rustOf_9 ?_
    refine g_icmp_ge (tgt := 22) E dX1_rustOf_10 (by decide) (by omega) (by omega) (fun c_10 => ?_) (fun c_10 => ?_)
    · exact absurd c_10 (by omega)
    · refine g_aload_n E dX1_rustOf_13 rfl ?_
      refine gx_Pile_rust' E (mem_1 _ (by omega) _ (by omega)) hin1 (by decide +kernel) dX1_rustOf_14 ?_
      refine g_iload_n E dX1_rustOf_17 rfl ?_
      refine lx_2' E (mem_2 _ (by omega) _ (by omega)) (by omega) dX1_rustOf_18 ?_
      refine g_goto (tgt := 23) E dX1_rustOf_19 (by decide) ?_
      exact g_iret E (⟨rfl, rfl⟩) dX1_rustOf_23
set_option maxHeartbeats 800000 in
set_option maxRecDepth 100000 in
/-- Pile.setRust(b, v) -/
theorem c_X1_setRust (l : Launch) (D : va_G) (cA : Nat → ClassId) (A : Nat → Prop) (ad : Ad) (σ : Nat → St) (y p9 : Nat) (a : St) (hy : y < 2) (hp : p9 < 6) (hPO : PO a p9) (b : Int) (v : Int32) (hb : 0 ≤ b ∧ b < 91) : Met l yX1_setRust wsX1_setRust ({ frames := 0, cells := 0, slots := 0, locals := 0 }) (PcG D (tysX cA) A (wX cA ad (upY σ y a)) [.ref (ad y 1 p9), .int (zI b), .int v]) (va_Qv (fun ws' => ws' = wX cA ad (upY σ y (up3 a 2 p9 b.toNat v))) (gB D A) A) 0 0 A := by
  refine g_met (cc := cX1_setRust) (maxL := 3) (ret := none) (own := RX1) rfl (by decide) rfl (Nat.le_of_ble_eq_true rfl) ?_
  intro p e s m below meth c E
  have hin1 : ∀ w ∈ u_ws RX1 TX1 4, w ∈ wsX1_setRust := by decide +kernel
  obtain ⟨hs1, hs6, hb0, hb1⟩ := id hPO
  have hsq := sq_le (e := sd a p9) ⟨hs1, hs6⟩
  obtain ⟨hn1, hn7, hpy⟩ := pyN_c (a := a) (p := p9) ⟨hs1, hs6⟩
  refine g_loc (lv' := [(0, .ref (ad y 1 p9)), (1, .int (zI b)), (2, .int v)]) ⟨rfl, rfl, rfl, trivial⟩ ?_
  refine g_iload_n E dX1_setRust_0 rfl ?_
  refine g_if_lt (tgt := 20) E dX1_setRust_1 (by decide) (by omega) (fun c_1 => ?_) (fun c_1 => ?_)
  · exact absurd c_1 (by omega)
  · refine g_iload_n E dX1_setRust_4 rfl ?_
    refine g_aload_n E dX1_setRust_5 rfl ?_
    refine gx_Pile_rust' E (mem_1 _ (by omega) _ (by omega)) hin1 (by decide +kernel) dX1_setRust_6 ?_
    refine nx_2' E (mem_2 _ (by omega) _ (by omega)) dX1_setRust_9 ?_
    refine g_icmp_ge (tgt := 20) E dX1_setRust_10 (by decide) (by omega) (by omega) (fun c_10 => ?_) (fun c_10 => ?_)
    · exact absurd c_10 (by omega)
    · refine g_aload_n E dX1_setRust_13 rfl ?_
      refine gx_Pile_rust' E (mem_1 _ (by omega) _ (by omega)) hin1 (by decide +kernel) dX1_setRust_14 ?_
      refine g_iload_n E dX1_setRust_17 rfl ?_
      refine g_iload_n E dX1_setRust_18 rfl ?_
      refine sx_2' E (mem_2 _ (by omega) _ (by omega)) (by omega) dX1_setRust_19 ?_
      exact g_vret E (rfl) dX1_setRust_20
set_option maxHeartbeats 800000 in
set_option maxRecDepth 100000 in
/-- Pile.put(v) -/
theorem c_X1_put (l : Launch) (D : va_G) (cA : Nat → ClassId) (A : Nat → Prop) (ad : Ad) (σ : Nat → St) (y p9 : Nat) (a : St) (hy : y < 2) (hp : p9 < 6) (hPO : PO a p9) (v : Int32) (hlt : bl a p9 < sq (sd a p9)) : Met l yX1_put wsX1_put ({ frames := 1, cells := 0, slots := 0, locals := 22 }) (PcG D (tysX cA) A (wX cA ad (upY σ y a)) [.ref (ad y 1 p9), .int v]) (va_Qv (fun ws' => ws' = wX cA ad (upY σ y (putS a p9 v))) (gB D A) A) 0 0 A := by
  refine g_met (cc := cX1_put) (maxL := 2) (ret := none) (own := RX1) rfl (by decide) rfl (Nat.le_of_ble_eq_true rfl) ?_
  intro p e s m below meth c E
  have hin1 : ∀ w ∈ u_ws RX1 TX1 4, w ∈ wsX1_put := by decide +kernel
  obtain ⟨hs1, hs6, hb0, hb1⟩ := id hPO
  have hsq := sq_le (e := sd a p9) ⟨hs1, hs6⟩
  obtain ⟨hn1, hn7, hpy⟩ := pyN_c (a := a) (p := p9) ⟨hs1, hs6⟩
  refine g_loc (lv' := [(0, .ref (ad y 1 p9)), (1, .int v)]) ⟨rfl, rfl, trivial⟩ ?_
  refine g_aload_n E dX1_put_0 rfl ?_
  refine g_callVi (T := TX1) (ci := 1) (n := 0) (As := []) (rest := _) E (c_X1_spare l D cA A ad _ _ _ _ (by omega) (by omega) (by assumption)) gX1_put_X1_spare rfl ⟨rfl, rfl⟩ (by decide +kernel) ⟨Nat.le_of_ble_eq_true rfl, Nat.le_of_ble_eq_true rfl⟩ (ob_1 (mem_1 _ (by omega) _ (by omega))) rfl rfl rfl (Nat.le_of_ble_eq_true rfl) ⟨Nat.le_of_ble_eq_true rfl, Nat.le_of_ble_eq_true rfl⟩ dX1_put_1 ?_
  rintro r_1 ws_1 ⟨rfl, rfl⟩
  refine g_if_le (tgt := 26) E dX1_put_4 (by decide) (by omega) (fun c_4 => ?_) (fun c_4 => ?_)
  · exact absurd c_4 (by omega)
  · refine g_aload_n E dX1_put_7 rfl ?_
    refine g_aload_n E dX1_put_8 rfl ?_
    refine gx_Pile_balls' E (mem_1 _ (by omega) _ (by omega)) hin1 (by decide +kernel) dX1_put_9 ?_
    refine g_iload_n E dX1_put_12 rfl ?_
    refine g_callVv (T := TX1) (ci := 1) (n := 2) (As := [_, _]) (rest := _) E (c_X1_setRust l D cA A ad _ _ _ _ (by omega) (by omega) (by assumption) _ _ (by omega)) gX1_put_X1_setRust rfl ⟨rfl, rfl⟩ (by decide +kernel) ⟨Nat.le_of_ble_eq_true rfl, Nat.le_of_ble_eq_true rfl⟩ (ob_1 (mem_1 _ (by omega) _ (by omega))) rfl rfl rfl (Nat.le_of_ble_eq_true rfl) ⟨Nat.le_of_ble_eq_true rfl, Nat.le_of_ble_eq_true rfl⟩ dX1_put_13 ?_
    rintro ws_13 rfl
    refine g_aload_n E dX1_put_16 rfl ?_
    refine g_dup E dX1_put_17 rfl ?_
    refine gx_Pile_balls' E (mem_1 _ (by omega) _ (by omega)) hin1 (by decide +kernel) dX1_put_18 ?_
    refine g_iconst E dX1_put_21 ?_
    refine g_iadd E dX1_put_22 ?_
    refine px_Pile_balls' E (mem_1 _ (by omega) _ (by omega)) hin1 (by decide +kernel) dX1_put_23 ?_
    exact g_vret E (rfl) dX1_put_26
set_option maxHeartbeats 800000 in
set_option maxRecDepth 100000 in
/-- Pile.takeTop() -/
theorem c_X1_takeTop (l : Launch) (D : va_G) (cA : Nat → ClassId) (A : Nat → Prop) (ad : Ad) (σ : Nat → St) (y p9 : Nat) (a : St) (hy : y < 2) (hp : p9 < 6) (hPO : PO a p9) (hlt : 1 ≤ bl a p9) : Met l yX1_takeTop wsX1_takeTop ({ frames := 1, cells := 0, slots := 0, locals := 21 }) (PcG D (tysX cA) A (wX cA ad (upY σ y a)) [.ref (ad y 1 p9)]) (va_Qi (fun (r : Int32) ws' => r = topV a p9 ∧ ws' = wX cA ad (upY σ y (topS a p9))) (gB D A) A) 0 0 A := by
  refine g_met (cc := cX1_takeTop) (maxL := 1) (ret := (some .int)) (own := RX1) rfl (by decide) rfl (Nat.le_of_ble_eq_true rfl) ?_
  intro p e s m below meth c E
  have hin1 : ∀ w ∈ u_ws RX1 TX1 4, w ∈ wsX1_takeTop := by decide +kernel
  obtain ⟨hs1, hs6, hb0, hb1⟩ := id hPO
  have hsq := sq_le (e := sd a p9) ⟨hs1, hs6⟩
  obtain ⟨hn1, hn7, hpy⟩ := pyN_c (a := a) (p := p9) ⟨hs1, hs6⟩
  have hq1 : bl (up3 a 1 p9 2 (zI (bl a p9 - 1))) p9 = bl a p9 - 1 := by rw [bl, up3_s, zI_toInt (by omega)]
  have hq2 : ∀ k : Nat, up3 a 1 p9 2 (zI (bl a p9 - 1)) 2 p9 k = a 2 p9 k := fun k => up3_n (fun q => absurd q.1 (by decide))
  have hq3 : sd (up3 a 1 p9 2 (zI (bl a p9 - 1))) p9 = sd a p9 := congrArg Int32.toInt (up3_n (fun q => absurd q.2.2 (by decide)))
  have hPt : PO (up3 a 1 p9 2 (zI (bl a p9 - 1))) p9 := ⟨by rw [hq3]; exact hs1, by rw [hq3]; exact hs6, by rw [hq1]; omega, by rw [hq1, hq3]; omega⟩
  refine g_loc (lv' := [(0, .ref (ad y 1 p9))]) ⟨rfl, trivial⟩ ?_
  refine g_aload_n E dX1_takeTop_0 rfl ?_
  refine gx_Pile_balls' E (mem_1 _ (by omega) _ (by omega)) hin1 (by decide +kernel) dX1_takeTop_1 ?_
  refine g_iconst E dX1_takeTop_4 ?_
  refine g_icmp_ge (tgt := 10) E dX1_takeTop_5 (by decide) (by omega) (by omega) (fun c_5 => ?_) (fun c_5 => ?_)
  · refine g_aload_n E dX1_takeTop_10 rfl ?_
    refine g_dup E dX1_takeTop_11 rfl ?_
    refine gx_Pile_balls' E (mem_1 _ (by omega) _ (by omega)) hin1 (by decide +kernel) dX1_takeTop_12 ?_
    refine g_iconst E dX1_takeTop_15 ?_
    refine g_isub E dX1_takeTop_16 ?_
    refine px_Pile_balls' E (mem_1 _ (by omega) _ (by omega)) hin1 (by decide +kernel) dX1_takeTop_17 ?_
    refine g_aload_n E dX1_takeTop_20 rfl ?_
    refine g_aload_n E dX1_takeTop_21 rfl ?_
    refine gx_Pile_balls' E (mem_1 _ (by omega) _ (by omega)) hin1 (by decide +kernel) dX1_takeTop_22 ?_
    rw [hq1]
    refine g_callVi (T := TX1) (ci := 1) (n := 1) (As := [_]) (rest := _) E (c_X1_rustOf l D cA A ad _ _ _ _ (by omega) (by omega) hPt _ (by omega)) gX1_takeTop_X1_rustOf rfl ⟨rfl, rfl⟩ (by decide +kernel) ⟨Nat.le_of_ble_eq_true rfl, Nat.le_of_ble_eq_true rfl⟩ (ob_1 (mem_1 _ (by omega) _ (by omega))) rfl rfl rfl (Nat.le_of_ble_eq_true rfl) ⟨Nat.le_of_ble_eq_true rfl, Nat.le_of_ble_eq_true rfl⟩ dX1_takeTop_25 ?_
    rintro r_25 ws_25 ⟨rfl, rfl⟩
    exact g_iret E (⟨by rw [hq2]; rfl, rfl⟩) dX1_takeTop_28
  · exact absurd c_5 (by omega)
set_option maxHeartbeats 800000 in
set_option maxRecDepth 100000 in
/-- Pile.isCovered(b) -/
theorem c_X1_isCovered (l : Launch) (D : va_G) (cA : Nat → ClassId) (A : Nat → Prop) (ad : Ad) (σ : Nat → St) (y p9 : Nat) (a : St) (hy : y < 2) (hp : p9 < 6) (hPO : PO a p9) (b : Int) (hb : 0 ≤ b ∧ b < bl a p9) : Met l yX1_isCovered wsX1_isCovered ({ frames := 1, cells := 0, slots := 0, locals := 21 }) (PcG D (tysX cA) A (wX cA ad (upY σ y a)) [.ref (ad y 1 p9), .int (zI b)]) (va_Qi (fun (r : Int32) ws' => r = zI (if cv a p9 b then 1 else 0) ∧ ws' = wX cA ad (upY σ y a)) (gB D A) A) 0 0 A := by
  refine g_met (cc := cX1_isCovered) (maxL := 2) (ret := (some .boolean)) (own := RX1) rfl (by decide) rfl (Nat.le_of_ble_eq_true rfl) ?_
  intro p e s m below meth c E
  have hin1 : ∀ w ∈ u_ws RX1 TX1 4, w ∈ wsX1_isCovered := by decide +kernel
  obtain ⟨hs1, hs6, hb0, hb1⟩ := id hPO
  have hsq := sq_le (e := sd a p9) ⟨hs1, hs6⟩
  obtain ⟨hn1, hn7, hpy⟩ := pyN_c (a := a) (p := p9) ⟨hs1, hs6⟩
  have hc := pyr_f (i := pyN (a 1 p9)) (b := b) ⟨hn1, hn7⟩ (by rw [hpy]; omega)
  rw [hpy] at hc
  refine g_loc (lv' := [(0, .ref (ad y 1 p9)), (1, .int (zI b))]) ⟨rfl, rfl, trivial⟩ ?_
  refine g_aload_n E dX1_isCovered_0 rfl ?_
  refine gx_Pile_pyramid' E (mem_1 _ (by omega) _ (by omega)) hin1 (by decide +kernel) dX1_isCovered_1 ?_
  refine g_iload_n E dX1_isCovered_4 rfl ?_
  refine g_callVi (T := TX2) (ci := 2) (n := 1) (As := [_]) (rest := _) E (c_X2_firstOn l D cA A ad _ _ (by omega) _ hpy _ (by omega)) gX1_isCovered_X2_firstOn rfl ⟨rfl, rfl⟩ (by decide +kernel) ⟨Nat.le_of_ble_eq_true rfl, Nat.le_of_ble_eq_true rfl⟩ (ob_9 (mem_9 _ (by omega) (by omega))) rfl rfl rfl (Nat.le_of_ble_eq_true rfl) ⟨Nat.le_of_ble_eq_true rfl, Nat.le_of_ble_eq_true rfl⟩ dX1_isCovered_5 ?_
  rintro r_5 ws_5 ⟨rfl, rfl⟩
  refine g_aload_n E dX1_isCovered_8 rfl ?_
  refine gx_Pile_balls' E (mem_1 _ (by omega) _ (by omega)) hin1 (by decide +kernel) dX1_isCovered_9 ?_
  refine g_icmp_ge (tgt := 19) E dX1_isCovered_12 (by decide) (by omega) (by omega) (fun c_12 => ?_) (fun c_12 => ?_)
  · refine g_iconst E dX1_isCovered_19 ?_
    exact g_zret E (by decide) (⟨by first | rw [cv_t (by omega)]; rfl | rw [cv_f (by omega)]; rfl, rfl⟩) dX1_isCovered_20
  · refine g_iconst E dX1_isCovered_15 ?_
    refine g_goto (tgt := 20) E dX1_isCovered_16 (by decide) ?_
    exact g_zret E (by decide) (⟨by first | rw [cv_t (by omega)]; rfl | rw [cv_f (by omega)]; rfl, rfl⟩) dX1_isCovered_20
set_option maxHeartbeats 800000 in
set_option maxRecDepth 100000 in
/-- Pile.hasBrokenLayer() -/
theorem c_X1_hasBrokenLayer (l : Launch) (D : va_G) (cA : Nat → ClassId) (A : Nat → Prop) (ad : Ad) (σ : Nat → St) (y p9 : Nat) (a : St) (hy : y < 2) (hp : p9 < 6) (hPO : PO a p9) : Met l yX1_hasBrokenLayer wsX1_hasBrokenLayer ({ frames := 1, cells := 0, slots := 0, locals := 22 }) (PcG D (tysX cA) A (wX cA ad (upY σ y a)) [.ref (ad y 1 p9)]) (va_Qi (fun (r : Int32) ws' => r = zI (if brk a p9 then 1 else 0) ∧ ws' = wX cA ad (upY σ y a)) (gB D A) A) 0 0 A := by
  refine g_met (cc := cX1_hasBrokenLayer) (maxL := 1) (ret := (some .boolean)) (own := RX1) rfl (by decide) rfl (Nat.le_of_ble_eq_true rfl) ?_
  intro p e s m below meth c E
  have hin1 : ∀ w ∈ u_ws RX1 TX1 4, w ∈ wsX1_hasBrokenLayer := by decide +kernel
  obtain ⟨hs1, hs6, hb0, hb1⟩ := id hPO
  have hsq := sq_le (e := sd a p9) ⟨hs1, hs6⟩
  obtain ⟨hn1, hn7, hpy⟩ := pyN_c (a := a) (p := p9) ⟨hs1, hs6⟩
  have hlf := lf_b (e := sd a p9) (b := bl a p9) (by omega)
  have hlb := lb_b (e := sd a p9) (b := bl a p9) (by omega)
  refine g_loc (lv' := [(0, .ref (ad y 1 p9))]) ⟨rfl, trivial⟩ ?_
  refine g_aload_n E dX1_hasBrokenLayer_0 rfl ?_
  refine gx_Pile_pyramid' E (mem_1 _ (by omega) _ (by omega)) hin1 (by decide +kernel) dX1_hasBrokenLayer_1 ?_
  refine g_aload_n E dX1_hasBrokenLayer_4 rfl ?_
  refine gx_Pile_balls' E (mem_1 _ (by omega) _ (by omega)) hin1 (by decide +kernel) dX1_hasBrokenLayer_5 ?_
  refine g_callVi (T := TX2) (ci := 2) (n := 1) (As := [_]) (rest := _) E (c_X2_layersBegun l D cA A ad _ _ (by omega) _ hpy _ (by omega)) gX1_hasBrokenLayer_X2_layersBegun rfl ⟨rfl, rfl⟩ (by decide +kernel) ⟨Nat.le_of_ble_eq_true rfl, Nat.le_of_ble_eq_true rfl⟩ (ob_9 (mem_9 _ (by omega) (by omega))) rfl rfl rfl (Nat.le_of_ble_eq_true rfl) ⟨Nat.le_of_ble_eq_true rfl, Nat.le_of_ble_eq_true rfl⟩ dX1_hasBrokenLayer_8 ?_
  rintro r_8 ws_8 ⟨rfl, rfl⟩
  refine g_aload_n E dX1_hasBrokenLayer_11 rfl ?_
  refine gx_Pile_pyramid' E (mem_1 _ (by omega) _ (by omega)) hin1 (by decide +kernel) dX1_hasBrokenLayer_12 ?_
  refine g_aload_n E dX1_hasBrokenLayer_15 rfl ?_
  refine gx_Pile_balls' E (mem_1 _ (by omega) _ (by omega)) hin1 (by decide +kernel) dX1_hasBrokenLayer_16 ?_
  refine g_callVi (T := TX2) (ci := 2) (n := 1) (As := [_]) (rest := _) E (c_X2_layersFull l D cA A ad _ _ (by omega) _ hpy _ (by omega)) gX1_hasBrokenLayer_X2_layersFull rfl ⟨rfl, rfl⟩ (by decide +kernel) ⟨Nat.le_of_ble_eq_true rfl, Nat.le_of_ble_eq_true rfl⟩ (ob_9 (mem_9 _ (by omega) (by omega))) rfl rfl rfl (Nat.le_of_ble_eq_true rfl) ⟨Nat.le_of_ble_eq_true rfl, Nat.le_of_ble_eq_true rfl⟩ dX1_hasBrokenLayer_19 ?_
  rintro r_19 ws_19 ⟨rfl, rfl⟩
  refine g_icmp_eq (tgt := 29) E dX1_hasBrokenLayer_22 (by decide) (by omega) (by omega) (fun c_22 => ?_) (fun c_22 => ?_)
  · refine g_iconst E dX1_hasBrokenLayer_29 ?_
    exact g_zret E (by decide) (⟨congrArg zI (by first | exact (if_pos (decide_eq_true (by omega))).symm | exact (if_neg (by rw [brk, decide_eq_false (by omega)]; decide)).symm), rfl⟩) dX1_hasBrokenLayer_30
  · refine g_iconst E dX1_hasBrokenLayer_25 ?_
    refine g_goto (tgt := 30) E dX1_hasBrokenLayer_26 (by decide) ?_
    exact g_zret E (by decide) (⟨congrArg zI (by first | exact (if_pos (decide_eq_true (by omega))).symm | exact (if_neg (by rw [brk, decide_eq_false (by omega)]; decide)).symm), rfl⟩) dX1_hasBrokenLayer_30
set_option maxHeartbeats 800000 in
set_option maxRecDepth 100000 in
/-- Pile.bareBalls() -/
theorem c_X1_bareBalls (l : Launch) (D : va_G) (cA : Nat → ClassId) (A : Nat → Prop) (ad : Ad) (σ : Nat → St) (y p9 : Nat) (a : St) (hy : y < 2) (hp : p9 < 6) (hPO : PO a p9) : Met l yX1_bareBalls wsX1_bareBalls ({ frames := 2, cells := 0, slots := 0, locals := 42 }) (PcG D (tysX cA) A (wX cA ad (upY σ y a)) [.ref (ad y 1 p9)]) (va_Qi (fun (r : Int32) ws' => r = zI (bareN a p9 (bl a p9).toNat) ∧ ws' = wX cA ad (upY σ y a)) (gB D A) A) 0 0 A := by
  refine g_met (cc := cX1_bareBalls) (maxL := 3) (ret := (some .int)) (own := RX1) rfl (by decide) rfl (Nat.le_of_ble_eq_true rfl) ?_
  intro p e s m below meth c E
  have hin1 : ∀ w ∈ u_ws RX1 TX1 4, w ∈ wsX1_bareBalls := by decide +kernel
  obtain ⟨hs1, hs6, hb0, hb1⟩ := id hPO
  have hsq := sq_le (e := sd a p9) ⟨hs1, hs6⟩
  obtain ⟨hn1, hn7, hpy⟩ := pyN_c (a := a) (p := p9) ⟨hs1, hs6⟩
  refine g_loc (lv' := [(0, .ref (ad y 1 p9))]) ⟨rfl, trivial⟩ ?_
  refine g_iconst E dX1_bareBalls_0 ?_
  refine g_istore_n E dX1_bareBalls_1 (by decide) ?_
  refine g_iconst E dX1_bareBalls_2 ?_
  refine g_istore_n E dX1_bareBalls_3 (by decide) ?_
  have key_kk : ∀ (n_kk kk : Nat), (kk : Int) ≤ bl a p9 → bl a p9 + 1 ≤ (kk : Int) + n_kk → GW p l e (headSpec wsX1_bareBalls ({ frames := 2, cells := 0, slots := 0, locals := 42 })).room s m ([.ref (ad y 1 p9)] : List Value).toArray below meth c (MQ below (va_Qi (fun (r : Int32) ws' => r = zI (bareN a p9 (bl a p9).toNat) ∧ ws' = wX cA ad (upY σ y a)) (gB D A) A) ([.ref (ad y 1 p9)] : List Value).toArray s 0 0 A) D A 3 (wX cA ad (upY σ y a)) 0 0 4 [(0, .ref (ad y 1 p9)), (1, .int (zI (bareN a p9 kk))), (2, .int (zI (kk : Int)))] [] := by
    intro n_kk
    induction n_kk with
    | zero => intro kk h1 h2; exact absurd h2 (by omega)
    | succ n_kk ih_kk =>
      intro kk hle_kk hfu_kk
      refine g_iload_n E dX1_bareBalls_4 rfl ?_
      refine g_aload_n E dX1_bareBalls_5 rfl ?_
      refine gx_Pile_balls' E (mem_1 _ (by omega) _ (by omega)) hin1 (by decide +kernel) dX1_bareBalls_6 ?_
      refine g_icmp_ge (tgt := 29) E dX1_bareBalls_9 (by decide) (by omega) (by omega) (fun c_9 => ?_) (fun c_9 => ?_)
      · refine g_iload_n E dX1_bareBalls_29 rfl ?_
        exact g_iret E (⟨by rw [show (bl a p9).toNat = kk by omega], rfl⟩) dX1_bareBalls_30
      · refine g_aload_n E dX1_bareBalls_12 rfl ?_
        refine g_iload_n E dX1_bareBalls_13 rfl ?_
        refine g_callVi (T := TX1) (ci := 1) (n := 1) (As := [_]) (rest := _) E (c_X1_isCovered l D cA A ad _ _ _ _ (by omega) (by omega) (by assumption) _ (by omega)) gX1_bareBalls_X1_isCovered rfl ⟨rfl, rfl⟩ (by decide +kernel) ⟨Nat.le_of_ble_eq_true rfl, Nat.le_of_ble_eq_true rfl⟩ (ob_1 (mem_1 _ (by omega) _ (by omega))) rfl rfl rfl (Nat.le_of_ble_eq_true rfl) ⟨Nat.le_of_ble_eq_true rfl, Nat.le_of_ble_eq_true rfl⟩ dX1_bareBalls_14 ?_
        rintro r_14 ws_14 ⟨rfl, rfl⟩
        refine g_if_ne (tgt := 23) E dX1_bareBalls_17 (by decide) (by omega) (fun c_17 => ?_) (fun c_17 => ?_)
        · have hcv : cv a p9 kk = true := ite1 c_17
          refine g_iinc E dX1_bareBalls_23 rfl (by decide) ?_
          refine g_goto (tgt := 4) E dX1_bareBalls_26 (by decide) ?_
          refine g_loc (lv' := [(0, .ref (ad y 1 p9)), (1, .int (zI (bareN a p9 (kk + 1)))), (2, .int (zI ((kk + 1) : Int)))]) ⟨rfl, by first | exact congrArg (fun z => some (Value.int (zI z))) (bare_t hcv).symm | exact congrArg (fun z => some (Value.int (zI z))) (bare_f hcv).symm, rfl, trivial⟩ ?_
          exact ih_kk (kk + 1) (by omega) (by omega)
        · have hcv : cv a p9 kk = false := Bool.eq_false_iff.mpr (ite0 c_17)
          refine g_iinc E dX1_bareBalls_20 rfl (by decide) ?_
          refine g_iinc E dX1_bareBalls_23 rfl (by decide) ?_
          refine g_goto (tgt := 4) E dX1_bareBalls_26 (by decide) ?_
          refine g_loc (lv' := [(0, .ref (ad y 1 p9)), (1, .int (zI (bareN a p9 (kk + 1)))), (2, .int (zI ((kk + 1) : Int)))]) ⟨rfl, by first | exact congrArg (fun z => some (Value.int (zI z))) (bare_t hcv).symm | exact congrArg (fun z => some (Value.int (zI z))) (bare_f hcv).symm, rfl, trivial⟩ ?_
          exact ih_kk (kk + 1) (by omega) (by omega)
  refine g_loc (lv' := [(0, .ref (ad y 1 p9)), (1, .int (zI (bareN a p9 0))), (2, .int (zI (0 : Int)))]) ⟨rfl, rfl, rfl, trivial⟩ ?_
  exact key_kk ((bl a p9) + 1).toNat.succ 0 (by omega) (by omega)
set_option maxHeartbeats 800000 in
set_option maxRecDepth 100000 in
/-- Pile.rustyBalls(lim) -/
theorem c_X1_rustyBalls (l : Launch) (D : va_G) (cA : Nat → ClassId) (A : Nat → Prop) (ad : Ad) (σ : Nat → St) (y p9 : Nat) (a : St) (hy : y < 2) (hp : p9 < 6) (hPO : PO a p9) (lim : Int32) : Met l yX1_rustyBalls wsX1_rustyBalls ({ frames := 1, cells := 0, slots := 0, locals := 21 }) (PcG D (tysX cA) A (wX cA ad (upY σ y a)) [.ref (ad y 1 p9), .int lim]) (va_Qi (fun (r : Int32) ws' => r = zI (rustyN a p9 lim (bl a p9).toNat) ∧ ws' = wX cA ad (upY σ y a)) (gB D A) A) 0 0 A := by
  refine g_met (cc := cX1_rustyBalls) (maxL := 4) (ret := (some .int)) (own := RX1) rfl (by decide) rfl (Nat.le_of_ble_eq_true rfl) ?_
  intro p e s m below meth c E
  have hin1 : ∀ w ∈ u_ws RX1 TX1 4, w ∈ wsX1_rustyBalls := by decide +kernel
  obtain ⟨hs1, hs6, hb0, hb1⟩ := id hPO
  have hsq := sq_le (e := sd a p9) ⟨hs1, hs6⟩
  obtain ⟨hn1, hn7, hpy⟩ := pyN_c (a := a) (p := p9) ⟨hs1, hs6⟩
  refine g_loc (lv' := [(0, .ref (ad y 1 p9)), (1, .int lim)]) ⟨rfl, rfl, trivial⟩ ?_
  refine g_iconst E dX1_rustyBalls_0 ?_
  refine g_istore_n E dX1_rustyBalls_1 (by decide) ?_
  refine g_iconst E dX1_rustyBalls_2 ?_
  refine g_istore_n E dX1_rustyBalls_3 (by decide) ?_
  have key_kk : ∀ (n_kk kk : Nat), (kk : Int) ≤ bl a p9 → bl a p9 + 1 ≤ (kk : Int) + n_kk → GW p l e (headSpec wsX1_rustyBalls ({ frames := 1, cells := 0, slots := 0, locals := 21 })).room s m ([.ref (ad y 1 p9), .int lim] : List Value).toArray below meth c (MQ below (va_Qi (fun (r : Int32) ws' => r = zI (rustyN a p9 lim (bl a p9).toNat) ∧ ws' = wX cA ad (upY σ y a)) (gB D A) A) ([.ref (ad y 1 p9), .int lim] : List Value).toArray s 0 0 A) D A 4 (wX cA ad (upY σ y a)) 0 0 4 [(0, .ref (ad y 1 p9)), (1, .int lim), (2, .int (zI (rustyN a p9 lim kk))), (3, .int (zI (kk : Int)))] [] := by
    intro n_kk
    induction n_kk with
    | zero => intro kk h1 h2; exact absurd h2 (by omega)
    | succ n_kk ih_kk =>
      intro kk hle_kk hfu_kk
      refine g_iload_n E dX1_rustyBalls_4 rfl ?_
      refine g_aload_n E dX1_rustyBalls_5 rfl ?_
      refine gx_Pile_balls' E (mem_1 _ (by omega) _ (by omega)) hin1 (by decide +kernel) dX1_rustyBalls_6 ?_
      refine g_icmp_ge (tgt := 30) E dX1_rustyBalls_9 (by decide) (by omega) (by omega) (fun c_9 => ?_) (fun c_9 => ?_)
      · refine g_iload_n E dX1_rustyBalls_30 rfl ?_
        exact g_iret E (⟨by rw [show (bl a p9).toNat = kk by omega], rfl⟩) dX1_rustyBalls_31
      · refine g_aload_n E dX1_rustyBalls_12 rfl ?_
        refine g_iload_n E dX1_rustyBalls_13 rfl ?_
        refine g_callVi (T := TX1) (ci := 1) (n := 1) (As := [_]) (rest := _) E (c_X1_rustOf l D cA A ad _ _ _ _ (by omega) (by omega) (by assumption) _ (by omega)) gX1_rustyBalls_X1_rustOf rfl ⟨rfl, rfl⟩ (by decide +kernel) ⟨Nat.le_of_ble_eq_true rfl, Nat.le_of_ble_eq_true rfl⟩ (ob_1 (mem_1 _ (by omega) _ (by omega))) rfl rfl rfl (Nat.le_of_ble_eq_true rfl) ⟨Nat.le_of_ble_eq_true rfl, Nat.le_of_ble_eq_true rfl⟩ dX1_rustyBalls_14 ?_
        rintro r_14 ws_14 ⟨rfl, rfl⟩
        refine g_iload_n E dX1_rustyBalls_17 rfl ?_
        refine g_icmp_ltR (tgt := 24) E dX1_rustyBalls_18 (by decide) (fun c_18 => ?_) (fun c_18 => ?_)
        · refine g_iinc E dX1_rustyBalls_24 rfl (by decide) ?_
          refine g_goto (tgt := 4) E dX1_rustyBalls_27 (by decide) ?_
          refine g_loc (lv' := [(0, .ref (ad y 1 p9)), (1, .int lim), (2, .int (zI (rustyN a p9 lim (kk + 1)))), (3, .int (zI ((kk + 1) : Int)))]) ⟨rfl, rfl, by first | exact congrArg (fun z => some (Value.int (zI z))) (rusty_t c_18).symm | exact congrArg (fun z => some (Value.int (zI z))) (rusty_f c_18).symm, rfl, trivial⟩ ?_
          exact ih_kk (kk + 1) (by omega) (by omega)
        · refine g_iinc E dX1_rustyBalls_21 rfl (by decide) ?_
          refine g_iinc E dX1_rustyBalls_24 rfl (by decide) ?_
          refine g_goto (tgt := 4) E dX1_rustyBalls_27 (by decide) ?_
          refine g_loc (lv' := [(0, .ref (ad y 1 p9)), (1, .int lim), (2, .int (zI (rustyN a p9 lim (kk + 1)))), (3, .int (zI ((kk + 1) : Int)))]) ⟨rfl, rfl, by first | exact congrArg (fun z => some (Value.int (zI z))) (rusty_t c_18).symm | exact congrArg (fun z => some (Value.int (zI z))) (rusty_f c_18).symm, rfl, trivial⟩ ?_
          exact ih_kk (kk + 1) (by omega) (by omega)
  refine g_loc (lv' := [(0, .ref (ad y 1 p9)), (1, .int lim), (2, .int (zI (rustyN a p9 lim 0))), (3, .int (zI (0 : Int)))]) ⟨rfl, rfl, rfl, rfl, trivial⟩ ?_
  exact key_kk ((bl a p9) + 1).toNat.succ 0 (by omega) (by omega)
set_option maxHeartbeats 800000 in
set_option maxRecDepth 100000 in
/-- Pile.greatestRust() -/
theorem c_X1_greatestRust (l : Launch) (D : va_G) (cA : Nat → ClassId) (A : Nat → Prop) (ad : Ad) (σ : Nat → St) (y p9 : Nat) (a : St) (hy : y < 2) (hp : p9 < 6) (hPO : PO a p9) : Met l yX1_greatestRust wsX1_greatestRust ({ frames := 1, cells := 0, slots := 0, locals := 23 }) (PcG D (tysX cA) A (wX cA ad (upY σ y a)) [.ref (ad y 1 p9)]) (va_Qi (fun (r : Int32) ws' => r = greatN a p9 (bl a p9).toNat ∧ ws' = wX cA ad (upY σ y a)) (gB D A) A) 0 0 A := by
  refine g_met (cc := cX1_greatestRust) (maxL := 3) (ret := (some .int)) (own := RX1) rfl (by decide) rfl (Nat.le_of_ble_eq_true rfl) ?_
  intro p e s m below meth c E
  have hin1 : ∀ w ∈ u_ws RX1 TX1 4, w ∈ wsX1_greatestRust := by decide +kernel
  obtain ⟨hs1, hs6, hb0, hb1⟩ := id hPO
  have hsq := sq_le (e := sd a p9) ⟨hs1, hs6⟩
  obtain ⟨hn1, hn7, hpy⟩ := pyN_c (a := a) (p := p9) ⟨hs1, hs6⟩
  refine g_loc (lv' := [(0, .ref (ad y 1 p9))]) ⟨rfl, trivial⟩ ?_
  refine g_iconst E dX1_greatestRust_0 ?_
  refine g_istore_n E dX1_greatestRust_1 (by decide) ?_
  refine g_iconst E dX1_greatestRust_2 ?_
  refine g_istore_n E dX1_greatestRust_3 (by decide) ?_
  have key_kk : ∀ (n_kk kk : Nat), (kk : Int) ≤ bl a p9 → bl a p9 + 1 ≤ (kk : Int) + n_kk → GW p l e (headSpec wsX1_greatestRust ({ frames := 1, cells := 0, slots := 0, locals := 23 })).room s m ([.ref (ad y 1 p9)] : List Value).toArray below meth c (MQ below (va_Qi (fun (r : Int32) ws' => r = greatN a p9 (bl a p9).toNat ∧ ws' = wX cA ad (upY σ y a)) (gB D A) A) ([.ref (ad y 1 p9)] : List Value).toArray s 0 0 A) D A 3 (wX cA ad (upY σ y a)) 0 0 4 [(0, .ref (ad y 1 p9)), (1, .int (greatN a p9 kk)), (2, .int (zI (kk : Int)))] [] := by
    intro n_kk
    induction n_kk with
    | zero => intro kk h1 h2; exact absurd h2 (by omega)
    | succ n_kk ih_kk =>
      intro kk hle_kk hfu_kk
      refine g_iload_n E dX1_greatestRust_4 rfl ?_
      refine g_aload_n E dX1_greatestRust_5 rfl ?_
      refine gx_Pile_balls' E (mem_1 _ (by omega) _ (by omega)) hin1 (by decide +kernel) dX1_greatestRust_6 ?_
      refine g_icmp_ge (tgt := 28) E dX1_greatestRust_9 (by decide) (by omega) (by omega) (fun c_9 => ?_) (fun c_9 => ?_)
      · refine g_iload_n E dX1_greatestRust_28 rfl ?_
        exact g_iret E (⟨by rw [show (bl a p9).toNat = kk by omega], rfl⟩) dX1_greatestRust_29
      · refine g_iload_n E dX1_greatestRust_12 rfl ?_
        refine g_aload_n E dX1_greatestRust_13 rfl ?_
        refine g_iload_n E dX1_greatestRust_14 rfl ?_
        refine g_callVi (T := TX1) (ci := 1) (n := 1) (As := [_]) (rest := _) E (c_X1_rustOf l D cA A ad _ _ _ _ (by omega) (by omega) (by assumption) _ (by omega)) gX1_greatestRust_X1_rustOf rfl ⟨rfl, rfl⟩ (by decide +kernel) ⟨Nat.le_of_ble_eq_true rfl, Nat.le_of_ble_eq_true rfl⟩ (ob_1 (mem_1 _ (by omega) _ (by omega))) rfl rfl rfl (Nat.le_of_ble_eq_true rfl) ⟨Nat.le_of_ble_eq_true rfl, Nat.le_of_ble_eq_true rfl⟩ dX1_greatestRust_15 ?_
        rintro r_15 ws_15 ⟨rfl, rfl⟩
        refine g_mmax E (by decide +kernel) (by decide +kernel) (by decide +kernel) (by decide +kernel) (Nat.le_of_ble_eq_true rfl) (Nat.le_of_ble_eq_true rfl) (Nat.le_of_ble_eq_true rfl) (Nat.le_of_ble_eq_true rfl) dX1_greatestRust_18 ?_
        refine g_istore_n E dX1_greatestRust_21 (by decide) ?_
        refine g_iinc E dX1_greatestRust_22 rfl (by decide) ?_
        refine g_goto (tgt := 4) E dX1_greatestRust_25 (by decide) ?_
        refine g_loc (lv' := [(0, .ref (ad y 1 p9)), (1, .int (greatN a p9 (kk + 1))), (2, .int (zI ((kk + 1) : Int)))]) ⟨rfl, rfl, rfl, trivial⟩ ?_
        exact ih_kk (kk + 1) (by omega) (by omega)
  refine g_loc (lv' := [(0, .ref (ad y 1 p9)), (1, .int (greatN a p9 0)), (2, .int (zI (0 : Int)))]) ⟨rfl, rfl, rfl, trivial⟩ ?_
  exact key_kk ((bl a p9) + 1).toNat.succ 0 (by omega) (by omega)
set_option maxHeartbeats 800000 in
set_option maxRecDepth 100000 in
/-- Pile.allRust() -/
theorem c_X1_allRust (l : Launch) (D : va_G) (cA : Nat → ClassId) (A : Nat → Prop) (ad : Ad) (σ : Nat → St) (y p9 : Nat) (a : St) (hy : y < 2) (hp : p9 < 6) (hPO : PO a p9) : Met l yX1_allRust wsX1_allRust ({ frames := 1, cells := 0, slots := 0, locals := 21 }) (PcG D (tysX cA) A (wX cA ad (upY σ y a)) [.ref (ad y 1 p9)]) (va_Qi (fun (r : Int32) ws' => r = sumN a p9 (bl a p9).toNat ∧ ws' = wX cA ad (upY σ y a)) (gB D A) A) 0 0 A := by
  refine g_met (cc := cX1_allRust) (maxL := 3) (ret := (some .int)) (own := RX1) rfl (by decide) rfl (Nat.le_of_ble_eq_true rfl) ?_
  intro p e s m below meth c E
  have hin1 : ∀ w ∈ u_ws RX1 TX1 4, w ∈ wsX1_allRust := by decide +kernel
  obtain ⟨hs1, hs6, hb0, hb1⟩ := id hPO
  have hsq := sq_le (e := sd a p9) ⟨hs1, hs6⟩
  obtain ⟨hn1, hn7, hpy⟩ := pyN_c (a := a) (p := p9) ⟨hs1, hs6⟩
  refine g_loc (lv' := [(0, .ref (ad y 1 p9))]) ⟨rfl, trivial⟩ ?_
  refine g_iconst E dX1_allRust_0 ?_
  refine g_istore_n E dX1_allRust_1 (by decide) ?_
  refine g_iconst E dX1_allRust_2 ?_
  refine g_istore_n E dX1_allRust_3 (by decide) ?_
  have key_kk : ∀ (n_kk kk : Nat), (kk : Int) ≤ bl a p9 → bl a p9 + 1 ≤ (kk : Int) + n_kk → GW p l e (headSpec wsX1_allRust ({ frames := 1, cells := 0, slots := 0, locals := 21 })).room s m ([.ref (ad y 1 p9)] : List Value).toArray below meth c (MQ below (va_Qi (fun (r : Int32) ws' => r = sumN a p9 (bl a p9).toNat ∧ ws' = wX cA ad (upY σ y a)) (gB D A) A) ([.ref (ad y 1 p9)] : List Value).toArray s 0 0 A) D A 3 (wX cA ad (upY σ y a)) 0 0 4 [(0, .ref (ad y 1 p9)), (1, .int (sumN a p9 kk)), (2, .int (zI (kk : Int)))] [] := by
    intro n_kk
    induction n_kk with
    | zero => intro kk h1 h2; exact absurd h2 (by omega)
    | succ n_kk ih_kk =>
      intro kk hle_kk hfu_kk
      refine g_iload_n E dX1_allRust_4 rfl ?_
      refine g_aload_n E dX1_allRust_5 rfl ?_
      refine gx_Pile_balls' E (mem_1 _ (by omega) _ (by omega)) hin1 (by decide +kernel) dX1_allRust_6 ?_
      refine g_icmp_ge (tgt := 26) E dX1_allRust_9 (by decide) (by omega) (by omega) (fun c_9 => ?_) (fun c_9 => ?_)
      · refine g_iload_n E dX1_allRust_26 rfl ?_
        exact g_iret E (⟨by rw [show (bl a p9).toNat = kk by omega], rfl⟩) dX1_allRust_27
      · refine g_iload_n E dX1_allRust_12 rfl ?_
        refine g_aload_n E dX1_allRust_13 rfl ?_
        refine g_iload_n E dX1_allRust_14 rfl ?_
        refine g_callVi (T := TX1) (ci := 1) (n := 1) (As := [_]) (rest := _) E (c_X1_rustOf l D cA A ad _ _ _ _ (by omega) (by omega) (by assumption) _ (by omega)) gX1_allRust_X1_rustOf rfl ⟨rfl, rfl⟩ (by decide +kernel) ⟨Nat.le_of_ble_eq_true rfl, Nat.le_of_ble_eq_true rfl⟩ (ob_1 (mem_1 _ (by omega) _ (by omega))) rfl rfl rfl (Nat.le_of_ble_eq_true rfl) ⟨Nat.le_of_ble_eq_true rfl, Nat.le_of_ble_eq_true rfl⟩ dX1_allRust_15 ?_
        rintro r_15 ws_15 ⟨rfl, rfl⟩
        refine g_iaddR E dX1_allRust_18 ?_
        refine g_istore_n E dX1_allRust_19 (by decide) ?_
        refine g_iinc E dX1_allRust_20 rfl (by decide) ?_
        refine g_goto (tgt := 4) E dX1_allRust_23 (by decide) ?_
        refine g_loc (lv' := [(0, .ref (ad y 1 p9)), (1, .int (sumN a p9 (kk + 1))), (2, .int (zI ((kk + 1) : Int)))]) ⟨rfl, rfl, rfl, trivial⟩ ?_
        exact ih_kk (kk + 1) (by omega) (by omega)
  refine g_loc (lv' := [(0, .ref (ad y 1 p9)), (1, .int (sumN a p9 0)), (2, .int (zI (0 : Int)))]) ⟨rfl, rfl, rfl, trivial⟩ ?_
  exact key_kk ((bl a p9) + 1).toNat.succ 0 (by omega) (by omega)
set_option maxHeartbeats 800000 in
set_option maxRecDepth 100000 in
/-- Pile.scourBare() -/
theorem c_X1_scourBare (l : Launch) (D : va_G) (cA : Nat → ClassId) (A : Nat → Prop) (ad : Ad) (σ : Nat → St) (y p9 : Nat) (a : St) (hy : y < 2) (hp : p9 < 6) (hPO : PO a p9) : Met l yX1_scourBare wsX1_scourBare ({ frames := 2, cells := 0, slots := 0, locals := 42 }) (PcG D (tysX cA) A (wX cA ad (upY σ y a)) [.ref (ad y 1 p9)]) (va_Qi (fun (r : Int32) ws' => r = (scL a p9 (bl a p9).toNat).2 ∧ ws' = wX cA ad (upY σ y ((scL a p9 (bl a p9).toNat).1))) (gB D A) A) 0 0 A := by
  refine g_met (cc := cX1_scourBare) (maxL := 5) (ret := (some .int)) (own := RX1) rfl (by decide) rfl (Nat.le_of_ble_eq_true rfl) ?_
  intro p e s m below meth c E
  have hin1 : ∀ w ∈ u_ws RX1 TX1 4, w ∈ wsX1_scourBare := by decide +kernel
  obtain ⟨hs1, hs6, hb0, hb1⟩ := id hPO
  have hsq := sq_le (e := sd a p9) ⟨hs1, hs6⟩
  obtain ⟨hn1, hn7, hpy⟩ := pyN_c (a := a) (p := p9) ⟨hs1, hs6⟩
  refine g_loc (lv' := [(0, .ref (ad y 1 p9))]) ⟨rfl, trivial⟩ ?_
  refine g_iconst E dX1_scourBare_0 ?_
  refine g_istore_n E dX1_scourBare_1 (by decide) ?_
  refine g_iconst E dX1_scourBare_2 ?_
  refine g_istore_n E dX1_scourBare_3 (by decide) ?_
  have key_kk : ∀ (n_kk kk : Nat), (kk : Int) ≤ bl a p9 → bl a p9 + 1 ≤ (kk : Int) + n_kk → GW p l e (headSpec wsX1_scourBare ({ frames := 2, cells := 0, slots := 0, locals := 42 })).room s m ([.ref (ad y 1 p9)] : List Value).toArray below meth c (MQ below (va_Qi (fun (r : Int32) ws' => r = (scL a p9 (bl a p9).toNat).2 ∧ ws' = wX cA ad (upY σ y ((scL a p9 (bl a p9).toNat).1))) (gB D A) A) ([.ref (ad y 1 p9)] : List Value).toArray s 0 0 A) D A 5 (wX cA ad (upY σ y ((scL a p9 kk).1))) 0 0 4 [(0, .ref (ad y 1 p9)), (1, .int (scL a p9 kk).2), (2, .int (zI (kk : Int)))] [] := by
    intro n_kk
    induction n_kk with
    | zero => intro kk h1 h2; exact absurd h2 (by omega)
    | succ n_kk ih_kk =>
      intro kk hle_kk hfu_kk
      have he := sc_e a p9 kk
      have hbk := he.bl (p := p9)
      have hPk := he.po hPO
      refine g_iload_n E dX1_scourBare_4 rfl ?_
      refine g_aload_n E dX1_scourBare_5 rfl ?_
      refine gx_Pile_balls' E (mem_1 _ (by omega) _ (by omega)) hin1 (by decide +kernel) dX1_scourBare_6 ?_
      refine g_icmp_ge (tgt := 53) E dX1_scourBare_9 (by decide) (by omega) (by omega) (fun c_9 => ?_) (fun c_9 => ?_)
      · refine g_iload_n E dX1_scourBare_53 rfl ?_
        exact g_iret E (⟨by rw [show (bl a p9).toNat = kk by omega], by rw [show (bl a p9).toNat = kk by omega]⟩) dX1_scourBare_54
      · refine g_aload_n E dX1_scourBare_12 rfl ?_
        refine g_iload_n E dX1_scourBare_13 rfl ?_
        refine g_callVi (T := TX1) (ci := 1) (n := 1) (As := [_]) (rest := _) E (c_X1_isCovered l D cA A ad _ _ _ _ (by omega) (by omega) (by assumption) _ (by omega)) gX1_scourBare_X1_isCovered rfl ⟨rfl, rfl⟩ (by decide +kernel) ⟨Nat.le_of_ble_eq_true rfl, Nat.le_of_ble_eq_true rfl⟩ (ob_1 (mem_1 _ (by omega) _ (by omega))) rfl rfl rfl (Nat.le_of_ble_eq_true rfl) ⟨Nat.le_of_ble_eq_true rfl, Nat.le_of_ble_eq_true rfl⟩ dX1_scourBare_14 ?_
        rintro r_14 ws_14 ⟨rfl, rfl⟩
        refine g_if_ne (tgt := 47) E dX1_scourBare_17 (by decide) (by omega) (fun c_17 => ?_) (fun c_17 => ?_)
        · have hst := sc_t (a := a) (p := p9) (n := kk) (ite1 c_17)
          refine g_iinc E dX1_scourBare_47 rfl (by decide) ?_
          refine g_goto (tgt := 4) E dX1_scourBare_50 (by decide) ?_
          refine g_st (ws' := wX cA ad (upY σ y ((scL a p9 (kk + 1)).1))) (congrArg (fun q : St × Int32 => wX cA ad (upY σ y q.1)) hst.symm) rfl rfl ?_
          refine g_loc (lv' := [(0, .ref (ad y 1 p9)), (1, .int (scL a p9 (kk + 1)).2), (2, .int (zI ((kk + 1) : Int)))]) ⟨rfl, congrArg (fun q : St × Int32 => some (Value.int q.2)) hst.symm, rfl, trivial⟩ ?_
          exact ih_kk (kk + 1) (by omega) (by omega)
        · have hst := sc_f (a := a) (p := p9) (n := kk) (Bool.eq_false_iff.mpr (ite0 c_17))
          refine g_aload_n E dX1_scourBare_20 rfl ?_
          refine g_iload_n E dX1_scourBare_21 rfl ?_
          refine g_callVi (T := TX1) (ci := 1) (n := 1) (As := [_]) (rest := _) E (c_X1_rustOf l D cA A ad _ _ _ _ (by omega) (by omega) (by assumption) _ (by omega)) gX1_scourBare_X1_rustOf rfl ⟨rfl, rfl⟩ (by decide +kernel) ⟨Nat.le_of_ble_eq_true rfl, Nat.le_of_ble_eq_true rfl⟩ (ob_1 (mem_1 _ (by omega) _ (by omega))) rfl rfl rfl (Nat.le_of_ble_eq_true rfl) ⟨Nat.le_of_ble_eq_true rfl, Nat.le_of_ble_eq_true rfl⟩ dX1_scourBare_22 ?_
          rintro r_22 ws_22 ⟨rfl, rfl⟩
          refine g_istore_n E dX1_scourBare_25 (by decide) ?_
          refine g_iload_n E dX1_scourBare_26 rfl ?_
          refine g_iconst E dX1_scourBare_27 ?_
          refine g_mmin E (by decide +kernel) (by decide +kernel) (by decide +kernel) (by decide +kernel) (Nat.le_of_ble_eq_true rfl) (Nat.le_of_ble_eq_true rfl) (Nat.le_of_ble_eq_true rfl) (Nat.le_of_ble_eq_true rfl) dX1_scourBare_28 ?_
          refine g_istore E dX1_scourBare_31 (by decide) ?_
          refine g_aload_n E dX1_scourBare_33 rfl ?_
          refine g_iload_n E dX1_scourBare_34 rfl ?_
          refine g_iload_n E dX1_scourBare_35 rfl ?_
          refine g_iload E dX1_scourBare_36 rfl ?_
          refine g_isubR E dX1_scourBare_38 ?_
          refine g_callVv (T := TX1) (ci := 1) (n := 2) (As := [_, _]) (rest := _) E (c_X1_setRust l D cA A ad _ _ _ _ (by omega) (by omega) (by assumption) _ _ (by omega)) gX1_scourBare_X1_setRust rfl ⟨rfl, rfl⟩ (by decide +kernel) ⟨Nat.le_of_ble_eq_true rfl, Nat.le_of_ble_eq_true rfl⟩ (ob_1 (mem_1 _ (by omega) _ (by omega))) rfl rfl rfl (Nat.le_of_ble_eq_true rfl) ⟨Nat.le_of_ble_eq_true rfl, Nat.le_of_ble_eq_true rfl⟩ dX1_scourBare_39 ?_
          rintro ws_39 rfl
          refine g_iload_n E dX1_scourBare_42 rfl ?_
          refine g_iload E dX1_scourBare_43 rfl ?_
          refine g_iaddR E dX1_scourBare_45 ?_
          refine g_istore_n E dX1_scourBare_46 (by decide) ?_
          refine g_iinc E dX1_scourBare_47 rfl (by decide) ?_
          refine g_goto (tgt := 4) E dX1_scourBare_50 (by decide) ?_
          refine g_st (ws' := wX cA ad (upY σ y ((scL a p9 (kk + 1)).1))) (congrArg (fun q : St × Int32 => wX cA ad (upY σ y q.1)) hst.symm) rfl rfl ?_
          refine g_loc (lv' := [(0, .ref (ad y 1 p9)), (1, .int (scL a p9 (kk + 1)).2), (2, .int (zI ((kk + 1) : Int)))]) ⟨rfl, congrArg (fun q : St × Int32 => some (Value.int q.2)) hst.symm, rfl, trivial⟩ ?_
          exact ih_kk (kk + 1) (by omega) (by omega)
  refine g_loc (lv' := [(0, .ref (ad y 1 p9)), (1, .int (scL a p9 0).2), (2, .int (zI (0 : Int)))]) ⟨rfl, rfl, rfl, trivial⟩ ?_
  exact key_kk ((bl a p9) + 1).toNat.succ 0 (by omega) (by omega)
set_option maxHeartbeats 800000 in
set_option maxRecDepth 100000 in
/-- Pile.throwAway(lim) -/
theorem c_X1_throwAway (l : Launch) (D : va_G) (cA : Nat → ClassId) (A : Nat → Prop) (ad : Ad) (σ : Nat → St) (y p9 : Nat) (a : St) (hy : y < 2) (hp : p9 < 6) (hPO : PO a p9) (lim : Int32) : Met l yX1_throwAway wsX1_throwAway ({ frames := 1, cells := 0, slots := 0, locals := 22 }) (PcG D (tysX cA) A (wX cA ad (upY σ y a)) [.ref (ad y 1 p9), .int lim]) (va_Qi (fun (r : Int32) ws' => r = zI (insV a p9 lim) ∧ ws' = wX cA ad (upY σ y (insS a p9 lim))) (gB D A) A) 0 0 A := by
  refine g_met (cc := cX1_throwAway) (maxL := 5) (ret := (some .int)) (own := RX1) rfl (by decide) rfl (Nat.le_of_ble_eq_true rfl) ?_
  intro p e s m below meth c E
  have hin1 : ∀ w ∈ u_ws RX1 TX1 4, w ∈ wsX1_throwAway := by decide +kernel
  obtain ⟨hs1, hs6, hb0, hb1⟩ := id hPO
  have hsq := sq_le (e := sd a p9) ⟨hs1, hs6⟩
  obtain ⟨hn1, hn7, hpy⟩ := pyN_c (a := a) (p := p9) ⟨hs1, hs6⟩
  refine g_loc (lv' := [(0, .ref (ad y 1 p9)), (1, .int lim)]) ⟨rfl, rfl, trivial⟩ ?_
  refine g_iconst E dX1_throwAway_0 ?_
  refine g_istore_n E dX1_throwAway_1 (by decide) ?_
  refine g_iconst E dX1_throwAway_2 ?_
  refine g_istore_n E dX1_throwAway_3 (by decide) ?_
  have key_kk : ∀ (n_kk kk : Nat), (kk : Int) ≤ bl a p9 → bl a p9 + 1 ≤ (kk : Int) + n_kk → GW p l e (headSpec wsX1_throwAway ({ frames := 1, cells := 0, slots := 0, locals := 22 })).room s m ([.ref (ad y 1 p9), .int lim] : List Value).toArray below meth c (MQ below (va_Qi (fun (r : Int32) ws' => r = zI (insV a p9 lim) ∧ ws' = wX cA ad (upY σ y (insS a p9 lim))) (gB D A) A) ([.ref (ad y 1 p9), .int lim] : List Value).toArray s 0 0 A) D A 5 (wX cA ad (upY σ y ((taL a p9 lim kk).1))) 0 0 4 [(0, .ref (ad y 1 p9)), (1, .int lim), (2, .int (zI ((taL a p9 lim kk).2 : Int))), (3, .int (zI (kk : Int)))] [] := by
    intro n_kk
    induction n_kk with
    | zero => intro kk h1 h2; exact absurd h2 (by omega)
    | succ n_kk ih_kk =>
      intro kk hle_kk hfu_kk
      obtain ⟨he, hkp⟩ := ta_e a p9 lim kk
      have hbk := he.bl (p := p9)
      have hPk := he.po hPO
      refine g_iload_n E dX1_throwAway_4 rfl ?_
      refine g_aload_n E dX1_throwAway_5 rfl ?_
      refine gx_Pile_balls' E (mem_1 _ (by omega) _ (by omega)) hin1 (by decide +kernel) dX1_throwAway_6 ?_
      refine g_icmp_ge (tgt := 41) E dX1_throwAway_9 (by decide) (by omega) (by omega) (fun c_9 => ?_) (fun c_9 => ?_)
      · refine g_aload_n E dX1_throwAway_41 rfl ?_
        refine gx_Pile_balls' E (mem_1 _ (by omega) _ (by omega)) hin1 (by decide +kernel) dX1_throwAway_42 ?_
        refine g_iload_n E dX1_throwAway_45 rfl ?_
        refine g_isub E dX1_throwAway_46 ?_
        refine g_istore_n E dX1_throwAway_47 (by decide) ?_
        refine g_aload_n E dX1_throwAway_48 rfl ?_
        refine g_iload_n E dX1_throwAway_49 rfl ?_
        refine px_Pile_balls' E (mem_1 _ (by omega) _ (by omega)) hin1 (by decide +kernel) dX1_throwAway_50 ?_
        refine g_iload_n E dX1_throwAway_53 rfl ?_
        exact g_iret E (⟨by rw [insV, show (bl a p9).toNat = kk by omega, hbk], by rw [insS, show (bl a p9).toNat = kk by omega]⟩) dX1_throwAway_54
      · refine g_aload_n E dX1_throwAway_12 rfl ?_
        refine g_iload_n E dX1_throwAway_13 rfl ?_
        refine g_callVi (T := TX1) (ci := 1) (n := 1) (As := [_]) (rest := _) E (c_X1_rustOf l D cA A ad _ _ _ _ (by omega) (by omega) (by assumption) _ (by omega)) gX1_throwAway_X1_rustOf rfl ⟨rfl, rfl⟩ (by decide +kernel) ⟨Nat.le_of_ble_eq_true rfl, Nat.le_of_ble_eq_true rfl⟩ (ob_1 (mem_1 _ (by omega) _ (by omega))) rfl rfl rfl (Nat.le_of_ble_eq_true rfl) ⟨Nat.le_of_ble_eq_true rfl, Nat.le_of_ble_eq_true rfl⟩ dX1_throwAway_14 ?_
        rintro r_14 ws_14 ⟨rfl, rfl⟩
        refine g_istore E dX1_throwAway_17 (by decide) ?_
        refine g_iload E dX1_throwAway_19 rfl ?_
        refine g_iload_n E dX1_throwAway_21 rfl ?_
        refine g_icmp_geR (tgt := 35) E dX1_throwAway_22 (by decide) (fun c_22 => ?_) (fun c_22 => ?_)
        · have hst := ta_f (a := a) (p := p9) (n := kk) (lim := lim) (Int32.not_lt.mpr c_22)
          refine g_iinc E dX1_throwAway_35 rfl (by decide) ?_
          refine g_goto (tgt := 4) E dX1_throwAway_38 (by decide) ?_
          refine g_st (ws' := wX cA ad (upY σ y ((taL a p9 lim (kk + 1)).1))) (congrArg (fun q : St × Nat => wX cA ad (upY σ y q.1)) hst.symm) rfl rfl ?_
          refine g_loc (lv' := [(0, .ref (ad y 1 p9)), (1, .int lim), (2, .int (zI ((taL a p9 lim (kk + 1)).2 : Int))), (3, .int (zI ((kk + 1) : Int)))]) ⟨rfl, rfl, congrArg (fun q : St × Nat => some (Value.int (zI (q.2 : Int)))) hst.symm, rfl, trivial⟩ ?_
          exact ih_kk (kk + 1) (by omega) (by omega)
        · have hst := ta_t (a := a) (p := p9) (n := kk) (lim := lim) (Int32.not_le.mp c_22)
          refine g_aload_n E dX1_throwAway_25 rfl ?_
          refine g_iload_n E dX1_throwAway_26 rfl ?_
          refine g_iload E dX1_throwAway_27 rfl ?_
          refine g_callVv (T := TX1) (ci := 1) (n := 2) (As := [_, _]) (rest := _) E (c_X1_setRust l D cA A ad _ _ _ _ (by omega) (by omega) (by assumption) _ _ (by omega)) gX1_throwAway_X1_setRust rfl ⟨rfl, rfl⟩ (by decide +kernel) ⟨Nat.le_of_ble_eq_true rfl, Nat.le_of_ble_eq_true rfl⟩ (ob_1 (mem_1 _ (by omega) _ (by omega))) rfl rfl rfl (Nat.le_of_ble_eq_true rfl) ⟨Nat.le_of_ble_eq_true rfl, Nat.le_of_ble_eq_true rfl⟩ dX1_throwAway_29 ?_
          rintro ws_29 rfl
          refine g_iinc E dX1_throwAway_32 rfl (by decide) ?_
          refine g_iinc E dX1_throwAway_35 rfl (by decide) ?_
          refine g_goto (tgt := 4) E dX1_throwAway_38 (by decide) ?_
          refine g_st (ws' := wX cA ad (upY σ y ((taL a p9 lim (kk + 1)).1))) (congrArg (fun q : St × Nat => wX cA ad (upY σ y q.1)) hst.symm) rfl rfl ?_
          refine g_loc (lv' := [(0, .ref (ad y 1 p9)), (1, .int lim), (2, .int (zI ((taL a p9 lim (kk + 1)).2 : Int))), (3, .int (zI ((kk + 1) : Int)))]) ⟨rfl, rfl, congrArg (fun q : St × Nat => some (Value.int (zI (q.2 : Int)))) hst.symm, rfl, trivial⟩ ?_
          exact ih_kk (kk + 1) (by omega) (by omega)
  refine g_loc (lv' := [(0, .ref (ad y 1 p9)), (1, .int lim), (2, .int (zI ((taL a p9 lim 0).2 : Int))), (3, .int (zI (0 : Int)))]) ⟨rfl, rfl, rfl, rfl, trivial⟩ ?_
  exact key_kk ((bl a p9) + 1).toNat.succ 0 (by omega) (by omega)
set_option maxHeartbeats 800000 in
set_option maxRecDepth 100000 in
/-- Pile.rustForADay(rain) -/
theorem c_X1_rustForADay (l : Launch) (D : va_G) (cA : Nat → ClassId) (A : Nat → Prop) (ad : Ad) (σ : Nat → St) (y p9 : Nat) (a : St) (hy : y < 2) (hp : p9 < 6) (hPO : PO a p9) (rain : Int32) : Met l yX1_rustForADay wsX1_rustForADay ({ frames := 2, cells := 0, slots := 0, locals := 42 }) (PcG D (tysX cA) A (wX cA ad (upY σ y a)) [.ref (ad y 1 p9), .int rain]) (va_Qv (fun ws' => ws' = wX cA ad (upY σ y (raS a p9 rain (bl a p9).toNat))) (gB D A) A) 0 0 A := by
  refine g_met (cc := cX1_rustForADay) (maxL := 4) (ret := none) (own := RX1) rfl (by decide) rfl (Nat.le_of_ble_eq_true rfl) ?_
  intro p e s m below meth c E
  have hin1 : ∀ w ∈ u_ws RX1 TX1 4, w ∈ wsX1_rustForADay := by decide +kernel
  obtain ⟨hs1, hs6, hb0, hb1⟩ := id hPO
  have hsq := sq_le (e := sd a p9) ⟨hs1, hs6⟩
  obtain ⟨hn1, hn7, hpy⟩ := pyN_c (a := a) (p := p9) ⟨hs1, hs6⟩
  refine g_loc (lv' := [(0, .ref (ad y 1 p9)), (1, .int rain)]) ⟨rfl, rfl, trivial⟩ ?_
  refine g_iconst E dX1_rustForADay_0 ?_
  refine g_istore_n E dX1_rustForADay_1 (by decide) ?_
  have key_kk : ∀ (n_kk kk : Nat), (kk : Int) ≤ bl a p9 → bl a p9 + 1 ≤ (kk : Int) + n_kk → GW p l e (headSpec wsX1_rustForADay ({ frames := 2, cells := 0, slots := 0, locals := 42 })).room s m ([.ref (ad y 1 p9), .int rain] : List Value).toArray below meth c (MQ below (va_Qv (fun ws' => ws' = wX cA ad (upY σ y (raS a p9 rain (bl a p9).toNat))) (gB D A) A) ([.ref (ad y 1 p9), .int rain] : List Value).toArray s 0 0 A) D A 4 (wX cA ad (upY σ y (raS a p9 rain kk))) 0 0 2 [(0, .ref (ad y 1 p9)), (1, .int rain), (2, .int (zI (kk : Int)))] [] := by
    intro n_kk
    induction n_kk with
    | zero => intro kk h1 h2; exact absurd h2 (by omega)
    | succ n_kk ih_kk =>
      intro kk hle_kk hfu_kk
      have he := ra_e a p9 rain kk
      have hbk := he.bl (p := p9)
      have hPk := he.po hPO
      refine g_iload_n E dX1_rustForADay_2 rfl ?_
      refine g_aload_n E dX1_rustForADay_3 rfl ?_
      refine gx_Pile_balls' E (mem_1 _ (by omega) _ (by omega)) hin1 (by decide +kernel) dX1_rustForADay_4 ?_
      refine g_icmp_ge (tgt := 51) E dX1_rustForADay_7 (by decide) (by omega) (by omega) (fun c_7 => ?_) (fun c_7 => ?_)
      · exact g_vret E (by rw [show (bl a p9).toNat = kk by omega]) dX1_rustForADay_51
      · refine g_aload_n E dX1_rustForADay_10 rfl ?_
        refine g_iload_n E dX1_rustForADay_11 rfl ?_
        refine g_callVi (T := TX1) (ci := 1) (n := 1) (As := [_]) (rest := _) E (c_X1_isCovered l D cA A ad _ _ _ _ (by omega) (by omega) (by assumption) _ (by omega)) gX1_rustForADay_X1_isCovered rfl ⟨rfl, rfl⟩ (by decide +kernel) ⟨Nat.le_of_ble_eq_true rfl, Nat.le_of_ble_eq_true rfl⟩ (ob_1 (mem_1 _ (by omega) _ (by omega))) rfl rfl rfl (Nat.le_of_ble_eq_true rfl) ⟨Nat.le_of_ble_eq_true rfl, Nat.le_of_ble_eq_true rfl⟩ dX1_rustForADay_12 ?_
        rintro r_12 ws_12 ⟨rfl, rfl⟩
        refine g_if_eq (tgt := 24) E dX1_rustForADay_15 (by decide) (by omega) (fun c_15 => ?_) (fun c_15 => ?_)
        · have hst := ra_f (a := a) (p := p9) (n := kk) (rain := rain) (Bool.eq_false_iff.mpr (ite0 c_15))
          refine g_iconst E dX1_rustForADay_24 ?_
          refine g_iload_n E dX1_rustForADay_25 rfl ?_
          refine g_iaddR E dX1_rustForADay_26 ?_
          refine g_istore_n E dX1_rustForADay_27 (by decide) ?_
          refine g_aload_n E dX1_rustForADay_28 rfl ?_
          refine g_iload_n E dX1_rustForADay_29 rfl ?_
          refine g_aload_n E dX1_rustForADay_30 rfl ?_
          refine g_iload_n E dX1_rustForADay_31 rfl ?_
          refine g_callVi (T := TX1) (ci := 1) (n := 1) (As := [_]) (rest := _) E (c_X1_rustOf l D cA A ad _ _ _ _ (by omega) (by omega) (by assumption) _ (by omega)) gX1_rustForADay_X1_rustOf rfl ⟨rfl, rfl⟩ (by decide +kernel) ⟨Nat.le_of_ble_eq_true rfl, Nat.le_of_ble_eq_true rfl⟩ (ob_1 (mem_1 _ (by omega) _ (by omega))) rfl rfl rfl (Nat.le_of_ble_eq_true rfl) ⟨Nat.le_of_ble_eq_true rfl, Nat.le_of_ble_eq_true rfl⟩ dX1_rustForADay_32 ?_
          rintro r_32 ws_32 ⟨rfl, rfl⟩
          refine g_iload_n E dX1_rustForADay_35 rfl ?_
          refine g_iaddR E dX1_rustForADay_36 ?_
          refine g_bipush E dX1_rustForADay_37 (by decide) ?_
          refine g_mmin E (by decide +kernel) (by decide +kernel) (by decide +kernel) (by decide +kernel) (Nat.le_of_ble_eq_true rfl) (Nat.le_of_ble_eq_true rfl) (Nat.le_of_ble_eq_true rfl) (Nat.le_of_ble_eq_true rfl) dX1_rustForADay_39 ?_
          refine g_callVv (T := TX1) (ci := 1) (n := 2) (As := [_, _]) (rest := _) E (c_X1_setRust l D cA A ad _ _ _ _ (by omega) (by omega) (by assumption) _ _ (by omega)) gX1_rustForADay_X1_setRust rfl ⟨rfl, rfl⟩ (by decide +kernel) ⟨Nat.le_of_ble_eq_true rfl, Nat.le_of_ble_eq_true rfl⟩ (ob_1 (mem_1 _ (by omega) _ (by omega))) rfl rfl rfl (Nat.le_of_ble_eq_true rfl) ⟨Nat.le_of_ble_eq_true rfl, Nat.le_of_ble_eq_true rfl⟩ dX1_rustForADay_42 ?_
          rintro ws_42 rfl
          refine g_iinc E dX1_rustForADay_45 rfl (by decide) ?_
          refine g_goto (tgt := 2) E dX1_rustForADay_48 (by decide) ?_
          refine g_st (ws' := wX cA ad (upY σ y (raS a p9 rain (kk + 1)))) (congrArg (fun q : St => wX cA ad (upY σ y q)) hst.symm) rfl rfl ?_
          refine g_loc (lv' := [(0, .ref (ad y 1 p9)), (1, .int rain), (2, .int (zI ((kk + 1) : Int)))]) ⟨rfl, rfl, rfl, trivial⟩ ?_
          exact ih_kk (kk + 1) (by omega) (by omega)
        · have hst := ra_t (a := a) (p := p9) (n := kk) (rain := rain) (ite1 c_15)
          refine g_iload_n E dX1_rustForADay_18 rfl ?_
          refine g_iconst E dX1_rustForADay_19 ?_
          refine g_idivR E dX1_rustForADay_20 (by decide) ?_
          refine g_goto (tgt := 27) E dX1_rustForADay_21 (by decide) ?_
          refine g_istore_n E dX1_rustForADay_27 (by decide) ?_
          refine g_aload_n E dX1_rustForADay_28 rfl ?_
          refine g_iload_n E dX1_rustForADay_29 rfl ?_
          refine g_aload_n E dX1_rustForADay_30 rfl ?_
          refine g_iload_n E dX1_rustForADay_31 rfl ?_
          refine g_callVi (T := TX1) (ci := 1) (n := 1) (As := [_]) (rest := _) E (c_X1_rustOf l D cA A ad _ _ _ _ (by omega) (by omega) (by assumption) _ (by omega)) gX1_rustForADay_X1_rustOf rfl ⟨rfl, rfl⟩ (by decide +kernel) ⟨Nat.le_of_ble_eq_true rfl, Nat.le_of_ble_eq_true rfl⟩ (ob_1 (mem_1 _ (by omega) _ (by omega))) rfl rfl rfl (Nat.le_of_ble_eq_true rfl) ⟨Nat.le_of_ble_eq_true rfl, Nat.le_of_ble_eq_true rfl⟩ dX1_rustForADay_32 ?_
          rintro r_32 ws_32 ⟨rfl, rfl⟩
          refine g_iload_n E dX1_rustForADay_35 rfl ?_
          refine g_iaddR E dX1_rustForADay_36 ?_
          refine g_bipush E dX1_rustForADay_37 (by decide) ?_
          refine g_mmin E (by decide +kernel) (by decide +kernel) (by decide +kernel) (by decide +kernel) (Nat.le_of_ble_eq_true rfl) (Nat.le_of_ble_eq_true rfl) (Nat.le_of_ble_eq_true rfl) (Nat.le_of_ble_eq_true rfl) dX1_rustForADay_39 ?_
          refine g_callVv (T := TX1) (ci := 1) (n := 2) (As := [_, _]) (rest := _) E (c_X1_setRust l D cA A ad _ _ _ _ (by omega) (by omega) (by assumption) _ _ (by omega)) gX1_rustForADay_X1_setRust rfl ⟨rfl, rfl⟩ (by decide +kernel) ⟨Nat.le_of_ble_eq_true rfl, Nat.le_of_ble_eq_true rfl⟩ (ob_1 (mem_1 _ (by omega) _ (by omega))) rfl rfl rfl (Nat.le_of_ble_eq_true rfl) ⟨Nat.le_of_ble_eq_true rfl, Nat.le_of_ble_eq_true rfl⟩ dX1_rustForADay_42 ?_
          rintro ws_42 rfl
          refine g_iinc E dX1_rustForADay_45 rfl (by decide) ?_
          refine g_goto (tgt := 2) E dX1_rustForADay_48 (by decide) ?_
          refine g_st (ws' := wX cA ad (upY σ y (raS a p9 rain (kk + 1)))) (congrArg (fun q : St => wX cA ad (upY σ y q)) hst.symm) rfl rfl ?_
          refine g_loc (lv' := [(0, .ref (ad y 1 p9)), (1, .int rain), (2, .int (zI ((kk + 1) : Int)))]) ⟨rfl, rfl, rfl, trivial⟩ ?_
          exact ih_kk (kk + 1) (by omega) (by omega)
  refine g_loc (lv' := [(0, .ref (ad y 1 p9)), (1, .int rain), (2, .int (zI (0 : Int)))]) ⟨rfl, rfl, rfl, trivial⟩ ?_
  exact key_kk ((bl a p9) + 1).toNat.succ 0 (by omega) (by omega)
