/-! ===== LAW: a call of each kind ===== -/
set_option maxHeartbeats 1600000 in
set_option maxRecDepth 100000 in
/-- until -/
theorem case_21 {p : Program} {l : Launch} {e : Env} {s : State} {m : MethodId} {b : Nat} {below : List Frame} {meth : Method} {c : Code} {Q : State → Prop} {D : va_G} {A : Nat → Prop} {cells slots : Nat} {ret0 : Option FieldType} {cA : Nat → ClassId} {ad : Ad} {am : Nat → Nat} {o L : Nat} {xs : Nat → Int32} {σ : Nat → St} {th dd : Int32} {kp : Nat → Nat → Int32} {g : Nat → Int64} {i : Int} (E : GE p s m #[Value.ref b] meth c D (tysX cA) cL_law 9 RL wsL_law ret0) (hl0 : l.stackTraces = false) (Z : gZ A s) (X : gC s) (hX : va_X b L xs s s.heap) (hbl : b < s.heap.size) (hbA : ¬ A b) (hL : L ≤ 2560) (hi : 0 ≤ i ∧ i + 5 ≤ L) (hLI : LI σ dd) (hc : cells + 3 ≤ 601024 ∧ slots + 18 ≤ 7293034) (kk : ∀ (σ' : Nat → St) (th' dd' : Int32) (kp' : Nat → Nat → Int32) (g' : Nat → Int64), LI σ' dd' → GW p l e room_1 s m #[Value.ref b] below meth c Q D A 9 ((wX cA ad σ' ++ oW cA o g') ++ wM cA am (σ' 0) th' dd' kp') (cells + 3) (slots + 18) 1697 [(0, .ref b), (1, .ref (ad 0 8 0)), (2, .ref (am 0)), (3, .ref o), (4, .int (zI i))] []) : GW p l e room_1 s m #[Value.ref b] below meth c Q D A 9 ((wX cA ad σ ++ oW cA o g) ++ wM cA am (σ 0) th dd kp) (cells) (slots) 1449 [(0, .ref b), (1, .ref (ad 0 8 0)), (2, .ref (am 0)), (3, .ref o), (4, .int (zI i))] [] := by
  refine g_aload_n E dL_law_1449 rfl ?_
  refine g_aload_n E dL_law_1450 rfl ?_
  refine g_iload E dL_law_1451 rfl ?_
  refine g_iconst E dL_law_1453 ?_
  refine g_iadd E dL_law_1454 ?_
  refine g_sld E hX hbl hbA (by omega) hL dL_law_1455 ?_
  refine g_aload_n E dL_law_1456 rfl ?_
  refine g_fW (n := 3) (As := [_, _, _]) (rest := []) E Z X (l_until l hl0 D cA _ ad σ o g hLI.1 hLI.2.1 _ (i32_rng _)) gL_law_L_until rfl ⟨rfl, rfl⟩ (by decide +kernel) ⟨Nat.le_of_ble_eq_true rfl, Nat.le_of_ble_eq_true rfl⟩ rfl rfl (Nat.le_of_ble_eq_true rfl) ⟨hc.1, hc.2⟩ dL_law_1457 ?_
  rintro r1 ws1 hp1
  refine g_istore E dL_law_1460 (by decide) ?_
  refine g_aload_n E dL_law_1462 rfl ?_
  refine g_aload_n E dL_law_1463 rfl ?_
  refine g_iload E dL_law_1464 rfl ?_
  refine g_iconst E dL_law_1466 ?_
  refine g_iadd E dL_law_1467 ?_
  refine g_sld E hX hbl hbA (by omega) hL dL_law_1468 ?_
  refine g_sw ?_
  refine g_fVi (T := TX5) (ci := 5) (n := 1) (As := [_]) (rest := []) E (m_until l D cA _ am (σ 0) th dd kp hLI.1 _ (i32_rng _)) gL_law_X5_until rfl ⟨rfl, rfl⟩ (by decide +kernel) ⟨Nat.le_of_ble_eq_true rfl, Nat.le_of_ble_eq_true rfl⟩ obM rfl rfl rfl (Nat.le_of_ble_eq_true rfl) ⟨hc.1, hc.2⟩ dL_law_1469 ?_
  rintro r2 ws2 hp2
  refine g_sw ?_
  obtain ⟨σ1, g1, dd1, kp1, t1, rfl, rfl, hLI1, hr, hz⟩ := lj2 (by unfold eP; split <;> (try split) <;> (try split) <;> (try split) <;> (try split) <;> omega) hp1 hp2 hLI (fun _ => ⟨hLI.1, hLI.2.2⟩)
  refine g_istore E dL_law_1472 (by decide) ?_
  refine g_aload_n E dL_law_1474 rfl ?_
  refine g_sw ?_
  refine g_fVi (T := TX5) (ci := 5) (n := 0) (As := []) (rest := []) E (m_thrown l D cA _ am (σ1 0) t1 dd1 kp1) gL_law_X5_thrown rfl ⟨rfl, rfl⟩ (by decide +kernel) ⟨Nat.le_of_ble_eq_true rfl, Nat.le_of_ble_eq_true rfl⟩ obM rfl rfl rfl (Nat.le_of_ble_eq_true rfl) ⟨hc.1, hc.2⟩ dL_law_1475 ?_
  rintro r3 ws3 ⟨h3, rfl⟩
  obtain rfl : t1 = r3 := h3.symm
  refine g_sw ?_
  refine g_iload E dL_law_1478 rfl ?_
  refine g_icmp_eqR (tgt := 1485) E dL_law_1480 (by decide) (fun _ => ?_) (fun z => absurd hr.symm z)
  refine g_iload E dL_law_1485 rfl ?_
  have hend : GW p l e room_1 s m #[Value.ref b] below meth c Q D A 9 ((wX cA ad σ1 ++ oW cA o g1) ++ wM cA am (σ1 0) t1 dd1 kp1) (cells + 3) (slots + 18) 1502 [(0, .ref b), (1, .ref (ad 0 8 0)), (2, .ref (am 0)), (3, .ref o), (4, .int (zI i))] [] := by
    refine g_goto (tgt := 1697) E dL_law_1502 (by decide) ?_
    exact kk σ1 t1 dd1 kp1 g1 hLI1
  refine g_if_neR (tgt := 1502) E dL_law_1487 (by decide) (fun _ => ?_) (fun z => ?_)
  · refine g_loc (lv' := [(0, .ref b), (1, .ref (ad 0 8 0)), (2, .ref (am 0)), (3, .ref o), (4, .int (zI i))]) ⟨rfl, rfl, rfl, rfl, rfl, trivial⟩ ?_
    exact hend
  · refine g_aload_n E dL_law_1490 rfl ?_
    refine g_iconst E dL_law_1491 ?_
    refine g_lald E dL_law_1492 ?_
    refine g_iload E dL_law_1493 rfl ?_
    refine g_i2l E dL_law_1495 ?_
    refine g_lcmp E dL_law_1496 ?_
    refine g_if_eqR (tgt := 1502) E dL_law_1497 (by decide) (fun _ => ?_) (fun z2 => absurd (by rw [(hz z).1, (hz z).2]; simp [lg_cmp]) z2)
    refine g_loc (lv' := [(0, .ref b), (1, .ref (ad 0 8 0)), (2, .ref (am 0)), (3, .ref o), (4, .int (zI i))]) ⟨rfl, rfl, rfl, rfl, rfl, trivial⟩ ?_
    exact hend
set_option maxHeartbeats 1600000 in
set_option maxRecDepth 100000 in
/-- foresee -/
theorem case_22 {p : Program} {l : Launch} {e : Env} {s : State} {m : MethodId} {b : Nat} {below : List Frame} {meth : Method} {c : Code} {Q : State → Prop} {D : va_G} {A : Nat → Prop} {cells slots : Nat} {ret0 : Option FieldType} {cA : Nat → ClassId} {ad : Ad} {am : Nat → Nat} {o L : Nat} {xs : Nat → Int32} {σ : Nat → St} {th dd : Int32} {kp : Nat → Nat → Int32} {g : Nat → Int64} {i : Int} (E : GE p s m #[Value.ref b] meth c D (tysX cA) cL_law 9 RL wsL_law ret0) (hl0 : l.stackTraces = false) (Z : gZ A s) (X : gC s) (hX : va_X b L xs s s.heap) (hbl : b < s.heap.size) (hbA : ¬ A b) (hL : L ≤ 2560) (hi : 0 ≤ i ∧ i + 5 ≤ L) (hLI : LI σ dd) (hc : cells + 3 ≤ 601024 ∧ slots + 18 ≤ 7293034) (kk : ∀ (σ' : Nat → St) (th' dd' : Int32) (kp' : Nat → Nat → Int32) (g' : Nat → Int64), LI σ' dd' → GW p l e room_1 s m #[Value.ref b] below meth c Q D A 9 ((wX cA ad σ' ++ oW cA o g') ++ wM cA am (σ' 0) th' dd' kp') (cells + 3) (slots + 18) 1697 [(0, .ref b), (1, .ref (ad 0 8 0)), (2, .ref (am 0)), (3, .ref o), (4, .int (zI i))] []) : GW p l e room_1 s m #[Value.ref b] below meth c Q D A 9 ((wX cA ad σ ++ oW cA o g) ++ wM cA am (σ 0) th dd kp) (cells) (slots) 1505 [(0, .ref b), (1, .ref (ad 0 8 0)), (2, .ref (am 0)), (3, .ref o), (4, .int (zI i))] [] := by
  refine g_aload_n E dL_law_1505 rfl ?_
  refine g_aload_n E dL_law_1506 rfl ?_
  refine g_iload E dL_law_1507 rfl ?_
  refine g_iconst E dL_law_1509 ?_
  refine g_iadd E dL_law_1510 ?_
  refine g_sld E hX hbl hbA (by omega) hL dL_law_1511 ?_
  refine g_aload_n E dL_law_1512 rfl ?_
  refine g_iload E dL_law_1513 rfl ?_
  refine g_iconst E dL_law_1515 ?_
  refine g_iadd E dL_law_1516 ?_
  refine g_sld E hX hbl hbA (by omega) hL dL_law_1517 ?_
  refine g_aload_n E dL_law_1518 rfl ?_
  refine g_fW (n := 4) (As := [_, _, _, _]) (rest := []) E Z X (l_foresee l hl0 D cA _ ad σ o g hLI.1 hLI.2.1 _ _ (i32_rng _) (i32_rng _)) gL_law_L_foresee rfl ⟨rfl, rfl⟩ (by decide +kernel) ⟨Nat.le_of_ble_eq_true rfl, Nat.le_of_ble_eq_true rfl⟩ rfl rfl (Nat.le_of_ble_eq_true rfl) ⟨hc.1, hc.2⟩ dL_law_1519 ?_
  rintro r1 ws1 hp1
  refine g_istore E dL_law_1522 (by decide) ?_
  refine g_aload_n E dL_law_1524 rfl ?_
  refine g_aload_n E dL_law_1525 rfl ?_
  refine g_iload E dL_law_1526 rfl ?_
  refine g_iconst E dL_law_1528 ?_
  refine g_iadd E dL_law_1529 ?_
  refine g_sld E hX hbl hbA (by omega) hL dL_law_1530 ?_
  refine g_aload_n E dL_law_1531 rfl ?_
  refine g_iload E dL_law_1532 rfl ?_
  refine g_iconst E dL_law_1534 ?_
  refine g_iadd E dL_law_1535 ?_
  refine g_sld E hX hbl hbA (by omega) hL dL_law_1536 ?_
  refine g_sw ?_
  refine g_fVi (T := TX5) (ci := 5) (n := 2) (As := [_, _]) (rest := []) E (m_foresee l D cA _ am (σ 0) th dd kp hLI.1 _ _ (i32_rng _) (i32_rng _)) gL_law_X5_foresee rfl ⟨rfl, rfl⟩ (by decide +kernel) ⟨Nat.le_of_ble_eq_true rfl, Nat.le_of_ble_eq_true rfl⟩ obM rfl rfl rfl (Nat.le_of_ble_eq_true rfl) ⟨hc.1, hc.2⟩ dL_law_1537 ?_
  rintro r2 ws2 hp2
  refine g_sw ?_
  obtain ⟨σ1, g1, dd1, kp1, t1, rfl, rfl, hLI1, hr, hz⟩ := lj2 (by unfold eFor; split <;> (try split) <;> (try split) <;> (try split) <;> (try split) <;> omega) hp1 hp2 hLI (fun _ => ⟨hLI.1, hLI.2.2⟩)
  refine g_istore E dL_law_1540 (by decide) ?_
  refine g_aload_n E dL_law_1542 rfl ?_
  refine g_sw ?_
  refine g_fVi (T := TX5) (ci := 5) (n := 0) (As := []) (rest := []) E (m_thrown l D cA _ am (σ1 0) t1 dd1 kp1) gL_law_X5_thrown rfl ⟨rfl, rfl⟩ (by decide +kernel) ⟨Nat.le_of_ble_eq_true rfl, Nat.le_of_ble_eq_true rfl⟩ obM rfl rfl rfl (Nat.le_of_ble_eq_true rfl) ⟨hc.1, hc.2⟩ dL_law_1543 ?_
  rintro r3 ws3 ⟨h3, rfl⟩
  obtain rfl : t1 = r3 := h3.symm
  refine g_sw ?_
  refine g_iload E dL_law_1546 rfl ?_
  refine g_icmp_eqR (tgt := 1553) E dL_law_1548 (by decide) (fun _ => ?_) (fun z => absurd hr.symm z)
  refine g_iload E dL_law_1553 rfl ?_
  have hend : GW p l e room_1 s m #[Value.ref b] below meth c Q D A 9 ((wX cA ad σ1 ++ oW cA o g1) ++ wM cA am (σ1 0) t1 dd1 kp1) (cells + 3) (slots + 18) 1570 [(0, .ref b), (1, .ref (ad 0 8 0)), (2, .ref (am 0)), (3, .ref o), (4, .int (zI i))] [] := by
    refine g_goto (tgt := 1697) E dL_law_1570 (by decide) ?_
    exact kk σ1 t1 dd1 kp1 g1 hLI1
  refine g_if_neR (tgt := 1570) E dL_law_1555 (by decide) (fun _ => ?_) (fun z => ?_)
  · refine g_loc (lv' := [(0, .ref b), (1, .ref (ad 0 8 0)), (2, .ref (am 0)), (3, .ref o), (4, .int (zI i))]) ⟨rfl, rfl, rfl, rfl, rfl, trivial⟩ ?_
    exact hend
  · refine g_aload_n E dL_law_1558 rfl ?_
    refine g_iconst E dL_law_1559 ?_
    refine g_lald E dL_law_1560 ?_
    refine g_iload E dL_law_1561 rfl ?_
    refine g_i2l E dL_law_1563 ?_
    refine g_lcmp E dL_law_1564 ?_
    refine g_if_eqR (tgt := 1570) E dL_law_1565 (by decide) (fun _ => ?_) (fun z2 => absurd (by rw [(hz z).1, (hz z).2]; simp [lg_cmp]) z2)
    refine g_loc (lv' := [(0, .ref b), (1, .ref (ad 0 8 0)), (2, .ref (am 0)), (3, .ref o), (4, .int (zI i))]) ⟨rfl, rfl, rfl, rfl, rfl, trivial⟩ ?_
    exact hend
set_option maxHeartbeats 1600000 in
set_option maxRecDepth 100000 in
/-- would -/
theorem case_23 {p : Program} {l : Launch} {e : Env} {s : State} {m : MethodId} {b : Nat} {below : List Frame} {meth : Method} {c : Code} {Q : State → Prop} {D : va_G} {A : Nat → Prop} {cells slots : Nat} {ret0 : Option FieldType} {cA : Nat → ClassId} {ad : Ad} {am : Nat → Nat} {o L : Nat} {xs : Nat → Int32} {σ : Nat → St} {th dd : Int32} {kp : Nat → Nat → Int32} {g : Nat → Int64} {i : Int} (E : GE p s m #[Value.ref b] meth c D (tysX cA) cL_law 9 RL wsL_law ret0) (hl0 : l.stackTraces = false) (Z : gZ A s) (X : gC s) (hX : va_X b L xs s s.heap) (hbl : b < s.heap.size) (hbA : ¬ A b) (hL : L ≤ 2560) (hi : 0 ≤ i ∧ i + 5 ≤ L) (hLI : LI σ dd) (hc : cells + 3 ≤ 601024 ∧ slots + 18 ≤ 7293034) (kk : ∀ (σ' : Nat → St) (th' dd' : Int32) (kp' : Nat → Nat → Int32) (g' : Nat → Int64), LI σ' dd' → GW p l e room_1 s m #[Value.ref b] below meth c Q D A 9 ((wX cA ad σ' ++ oW cA o g') ++ wM cA am (σ' 0) th' dd' kp') (cells + 3) (slots + 18) 1697 [(0, .ref b), (1, .ref (ad 0 8 0)), (2, .ref (am 0)), (3, .ref o), (4, .int (zI i))] []) : GW p l e room_1 s m #[Value.ref b] below meth c Q D A 9 ((wX cA ad σ ++ oW cA o g) ++ wM cA am (σ 0) th dd kp) (cells) (slots) 1573 [(0, .ref b), (1, .ref (ad 0 8 0)), (2, .ref (am 0)), (3, .ref o), (4, .int (zI i))] [] := by
  refine g_aload_n E dL_law_1573 rfl ?_
  refine g_aload_n E dL_law_1574 rfl ?_
  refine g_iload E dL_law_1575 rfl ?_
  refine g_iconst E dL_law_1577 ?_
  refine g_iadd E dL_law_1578 ?_
  refine g_sld E hX hbl hbA (by omega) hL dL_law_1579 ?_
  refine g_aload_n E dL_law_1580 rfl ?_
  refine g_fW (n := 3) (As := [_, _, _]) (rest := []) E Z X (l_would l hl0 D cA _ ad σ o g hLI.1 hLI.2.1 _ (i32_rng _)) gL_law_L_would rfl ⟨rfl, rfl⟩ (by decide +kernel) ⟨Nat.le_of_ble_eq_true rfl, Nat.le_of_ble_eq_true rfl⟩ rfl rfl (Nat.le_of_ble_eq_true rfl) ⟨hc.1, hc.2⟩ dL_law_1581 ?_
  rintro r1 ws1 hp1
  refine g_istore E dL_law_1584 (by decide) ?_
  refine g_aload_n E dL_law_1586 rfl ?_
  refine g_aload_n E dL_law_1587 rfl ?_
  refine g_iload E dL_law_1588 rfl ?_
  refine g_iconst E dL_law_1590 ?_
  refine g_iadd E dL_law_1591 ?_
  refine g_sld E hX hbl hbA (by omega) hL dL_law_1592 ?_
  refine g_sw ?_
  refine g_fVi (T := TX5) (ci := 5) (n := 1) (As := [_]) (rest := []) E (m_would l D cA _ am (σ 0) th dd kp hLI.1 _ (i32_rng _)) gL_law_X5_would rfl ⟨rfl, rfl⟩ (by decide +kernel) ⟨Nat.le_of_ble_eq_true rfl, Nat.le_of_ble_eq_true rfl⟩ obM rfl rfl rfl (Nat.le_of_ble_eq_true rfl) ⟨hc.1, hc.2⟩ dL_law_1593 ?_
  rintro r2 ws2 hp2
  refine g_sw ?_
  obtain ⟨σ1, g1, dd1, kp1, t1, rfl, rfl, hLI1, hr, hz⟩ := lj2 (by unfold eP; split <;> (try split) <;> (try split) <;> (try split) <;> (try split) <;> omega) hp1 hp2 hLI (fun _ => ⟨hLI.1, hLI.2.2⟩)
  refine g_istore E dL_law_1596 (by decide) ?_
  refine g_aload_n E dL_law_1598 rfl ?_
  refine g_sw ?_
  refine g_fVi (T := TX5) (ci := 5) (n := 0) (As := []) (rest := []) E (m_thrown l D cA _ am (σ1 0) t1 dd1 kp1) gL_law_X5_thrown rfl ⟨rfl, rfl⟩ (by decide +kernel) ⟨Nat.le_of_ble_eq_true rfl, Nat.le_of_ble_eq_true rfl⟩ obM rfl rfl rfl (Nat.le_of_ble_eq_true rfl) ⟨hc.1, hc.2⟩ dL_law_1599 ?_
  rintro r3 ws3 ⟨h3, rfl⟩
  obtain rfl : t1 = r3 := h3.symm
  refine g_sw ?_
  refine g_iload E dL_law_1602 rfl ?_
  refine g_icmp_eqR (tgt := 1609) E dL_law_1604 (by decide) (fun _ => ?_) (fun z => absurd hr.symm z)
  refine g_iload E dL_law_1609 rfl ?_
  have hend : GW p l e room_1 s m #[Value.ref b] below meth c Q D A 9 ((wX cA ad σ1 ++ oW cA o g1) ++ wM cA am (σ1 0) t1 dd1 kp1) (cells + 3) (slots + 18) 1626 [(0, .ref b), (1, .ref (ad 0 8 0)), (2, .ref (am 0)), (3, .ref o), (4, .int (zI i))] [] := by
    refine g_goto (tgt := 1697) E dL_law_1626 (by decide) ?_
    exact kk σ1 t1 dd1 kp1 g1 hLI1
  refine g_if_neR (tgt := 1626) E dL_law_1611 (by decide) (fun _ => ?_) (fun z => ?_)
  · refine g_loc (lv' := [(0, .ref b), (1, .ref (ad 0 8 0)), (2, .ref (am 0)), (3, .ref o), (4, .int (zI i))]) ⟨rfl, rfl, rfl, rfl, rfl, trivial⟩ ?_
    exact hend
  · refine g_aload_n E dL_law_1614 rfl ?_
    refine g_iconst E dL_law_1615 ?_
    refine g_lald E dL_law_1616 ?_
    refine g_iload E dL_law_1617 rfl ?_
    refine g_i2l E dL_law_1619 ?_
    refine g_lcmp E dL_law_1620 ?_
    refine g_if_eqR (tgt := 1626) E dL_law_1621 (by decide) (fun _ => ?_) (fun z2 => absurd (by rw [(hz z).1, (hz z).2]; simp [lg_cmp]) z2)
    refine g_loc (lv' := [(0, .ref b), (1, .ref (ad 0 8 0)), (2, .ref (am 0)), (3, .ref o), (4, .int (zI i))]) ⟨rfl, rfl, rfl, rfl, rfl, trivial⟩ ?_
    exact hend
set_option maxHeartbeats 1600000 in
set_option maxRecDepth 100000 in
/-- advise -/
theorem case_24 {p : Program} {l : Launch} {e : Env} {s : State} {m : MethodId} {b : Nat} {below : List Frame} {meth : Method} {c : Code} {Q : State → Prop} {D : va_G} {A : Nat → Prop} {cells slots : Nat} {ret0 : Option FieldType} {cA : Nat → ClassId} {ad : Ad} {am : Nat → Nat} {o L : Nat} {xs : Nat → Int32} {σ : Nat → St} {th dd : Int32} {kp : Nat → Nat → Int32} {g : Nat → Int64} {i : Int} (E : GE p s m #[Value.ref b] meth c D (tysX cA) cL_law 9 RL wsL_law ret0) (hl0 : l.stackTraces = false) (Z : gZ A s) (X : gC s) (hX : va_X b L xs s s.heap) (hbl : b < s.heap.size) (hbA : ¬ A b) (hL : L ≤ 2560) (hi : 0 ≤ i ∧ i + 5 ≤ L) (hLI : LI σ dd) (hc : cells + 3 ≤ 601024 ∧ slots + 18 ≤ 7293034) (kk : ∀ (σ' : Nat → St) (th' dd' : Int32) (kp' : Nat → Nat → Int32) (g' : Nat → Int64), LI σ' dd' → GW p l e room_1 s m #[Value.ref b] below meth c Q D A 9 ((wX cA ad σ' ++ oW cA o g') ++ wM cA am (σ' 0) th' dd' kp') (cells + 3) (slots + 18) 1697 [(0, .ref b), (1, .ref (ad 0 8 0)), (2, .ref (am 0)), (3, .ref o), (4, .int (zI i))] []) : GW p l e room_1 s m #[Value.ref b] below meth c Q D A 9 ((wX cA ad σ ++ oW cA o g) ++ wM cA am (σ 0) th dd kp) (cells) (slots) 1629 [(0, .ref b), (1, .ref (ad 0 8 0)), (2, .ref (am 0)), (3, .ref o), (4, .int (zI i))] [] := by
  refine g_aload_n E dL_law_1629 rfl ?_
  refine g_st (ws' := wX cA ad (upY σ 0 (σ 0)) ++ (oW cA o g ++ wM cA am (σ 0) th dd kp)) (by rw [upY_self, List.append_assoc]) rfl rfl ?_
  refine g_fVi (T := TX4) (ci := 4) (n := 0) (As := []) (rest := []) E (c_X4_advise l D cA _ ad σ (σ 0) hLI.1) gL_law_X4_advise rfl ⟨rfl, rfl⟩ (by decide +kernel) ⟨Nat.le_of_ble_eq_true rfl, Nat.le_of_ble_eq_true rfl⟩ (ob_8 mem_8) rfl rfl rfl (Nat.le_of_ble_eq_true rfl) ⟨by show cells + 0 ≤ 601024; omega, by show slots + 0 ≤ 7293034; omega⟩ dL_law_1630 ?_
  rintro r1 ws1 ⟨rfl, rfl⟩
  refine g_st (ws' := (wX cA ad (upY σ 0 (σ 0)) ++ oW cA o g) ++ wM cA am (σ 0) th dd kp) (by rw [List.append_assoc]) rfl rfl ?_
  refine g_aload_n E dL_law_1633 rfl ?_
  refine g_sw ?_
  refine g_fVi (T := TX5) (ci := 5) (n := 0) (As := []) (rest := [_]) E (m_advise l D cA _ am (σ 0) th dd kp hLI.1) gL_law_X5_advise rfl ⟨rfl, rfl⟩ (by decide +kernel) ⟨Nat.le_of_ble_eq_true rfl, Nat.le_of_ble_eq_true rfl⟩ obM rfl rfl rfl (Nat.le_of_ble_eq_true rfl) ⟨by show cells + 0 ≤ 601024; omega, by show slots + 0 ≤ 7293034; omega⟩ dL_law_1634 ?_
  rintro r2 ws2 ⟨rfl, rfl⟩
  refine g_sw ?_
  refine g_wid (k := cells + 3) (n := slots + 18) (by omega) (by omega) ?_
  refine g_icmp_eqR (tgt := 1697) E dL_law_1637 (by decide) (fun _ => ?_) (fun z => absurd rfl z)
  refine g_loc (lv' := [(0, .ref b), (1, .ref (ad 0 8 0)), (2, .ref (am 0)), (3, .ref o), (4, .int (zI i))]) ⟨rfl, rfl, rfl, rfl, rfl, trivial⟩ ?_
  refine g_st (ws' := (wX cA ad σ ++ oW cA o g) ++ wM cA am (σ 0) (zI 0) dd kp) (by rw [upY_self]) rfl rfl ?_
  exact kk σ (zI 0) dd kp g hLI
set_option maxHeartbeats 1600000 in
set_option maxRecDepth 100000 in
/-- mean -/
theorem case_25 {p : Program} {l : Launch} {e : Env} {s : State} {m : MethodId} {b : Nat} {below : List Frame} {meth : Method} {c : Code} {Q : State → Prop} {D : va_G} {A : Nat → Prop} {cells slots : Nat} {ret0 : Option FieldType} {cA : Nat → ClassId} {ad : Ad} {am : Nat → Nat} {o L : Nat} {xs : Nat → Int32} {σ : Nat → St} {th dd : Int32} {kp : Nat → Nat → Int32} {g : Nat → Int64} {i : Int} (E : GE p s m #[Value.ref b] meth c D (tysX cA) cL_law 9 RL wsL_law ret0) (hl0 : l.stackTraces = false) (Z : gZ A s) (X : gC s) (hX : va_X b L xs s s.heap) (hbl : b < s.heap.size) (hbA : ¬ A b) (hL : L ≤ 2560) (hi : 0 ≤ i ∧ i + 5 ≤ L) (hLI : LI σ dd) (hc : cells + 3 ≤ 601024 ∧ slots + 18 ≤ 7293034) (kk : ∀ (σ' : Nat → St) (th' dd' : Int32) (kp' : Nat → Nat → Int32) (g' : Nat → Int64), LI σ' dd' → GW p l e room_1 s m #[Value.ref b] below meth c Q D A 9 ((wX cA ad σ' ++ oW cA o g') ++ wM cA am (σ' 0) th' dd' kp') (cells + 3) (slots + 18) 1697 [(0, .ref b), (1, .ref (ad 0 8 0)), (2, .ref (am 0)), (3, .ref o), (4, .int (zI i))] []) : GW p l e room_1 s m #[Value.ref b] below meth c Q D A 9 ((wX cA ad σ ++ oW cA o g) ++ wM cA am (σ 0) th dd kp) (cells) (slots) 1642 [(0, .ref b), (1, .ref (ad 0 8 0)), (2, .ref (am 0)), (3, .ref o), (4, .int (zI i))] [] := by
  refine g_aload_n E dL_law_1642 rfl ?_
  refine g_st (ws' := wX cA ad (upY σ 0 (σ 0)) ++ (oW cA o g ++ wM cA am (σ 0) th dd kp)) (by rw [upY_self, List.append_assoc]) rfl rfl ?_
  refine g_fVd (T := TX4) (ci := 4) (n := 0) (As := []) (rest := []) E (c_X4_mean l D cA _ ad σ (σ 0) hLI.1) gL_law_X4_mean rfl ⟨rfl, rfl⟩ (by decide +kernel) ⟨Nat.le_of_ble_eq_true rfl, Nat.le_of_ble_eq_true rfl⟩ (ob_8 mem_8) rfl rfl rfl (Nat.le_of_ble_eq_true rfl) ⟨by show cells + 0 ≤ 601024; omega, by show slots + 0 ≤ 7293034; omega⟩ dL_law_1643 ?_
  rintro r1 ws1 ⟨rfl, rfl⟩
  refine g_st (ws' := (wX cA ad (upY σ 0 (σ 0)) ++ oW cA o g) ++ wM cA am (σ 0) th dd kp) (by rw [List.append_assoc]) rfl rfl ?_
  refine g_dstore E dL_law_1646 (by decide) ?_
  refine g_aload_n E dL_law_1648 rfl ?_
  refine g_sw ?_
  refine g_fVd (T := TX5) (ci := 5) (n := 0) (As := []) (rest := []) E (m_mean l D cA _ am (σ 0) th dd kp hLI.1) gL_law_X5_mean rfl ⟨rfl, rfl⟩ (by decide +kernel) ⟨Nat.le_of_ble_eq_true rfl, Nat.le_of_ble_eq_true rfl⟩ obM rfl rfl rfl (Nat.le_of_ble_eq_true rfl) ⟨by show cells + 0 ≤ 601024; omega, by show slots + 0 ≤ 7293034; omega⟩ dL_law_1649 ?_
  rintro r2 ws2 ⟨rfl, rfl⟩
  refine g_sw ?_
  refine g_wid (k := cells + 3) (n := slots + 18) (by omega) (by omega) ?_
  refine g_dstore E dL_law_1652 (by decide) ?_
  refine g_dload E dL_law_1654 rfl ?_
  refine g_dload E dL_law_1656 rfl ?_
  refine g_dcmp E dL_law_1658 ?_
  have hend : GW p l e room_1 s m #[Value.ref b] below meth c Q D A 9 ((wX cA ad (upY σ 0 (σ 0)) ++ oW cA o g) ++ wM cA am (σ 0) (zI 0) dd kp) (cells + 3) (slots + 18) 1680 [(0, .ref b), (1, .ref (ad 0 8 0)), (2, .ref (am 0)), (3, .ref o), (4, .int (zI i))] [] := by
    refine g_goto (tgt := 1697) E dL_law_1680 (by decide) ?_
    refine g_loc (lv' := [(0, .ref b), (1, .ref (ad 0 8 0)), (2, .ref (am 0)), (3, .ref o), (4, .int (zI i))]) ⟨rfl, rfl, rfl, rfl, rfl, trivial⟩ ?_
    refine g_st (ws' := (wX cA ad σ ++ oW cA o g) ++ wM cA am (σ 0) (zI 0) dd kp) (by rw [upY_self]) rfl rfl ?_
    exact kk σ (zI 0) dd kp g hLI
  refine g_if_eqR (tgt := 1680) E dL_law_1659 (by decide) (fun _ => ?_) (fun z => ?_)
  · refine g_loc (lv' := [(0, .ref b), (1, .ref (ad 0 8 0)), (2, .ref (am 0)), (3, .ref o), (4, .int (zI i))]) ⟨rfl, rfl, rfl, rfl, rfl, trivial⟩ ?_
    exact hend
  · refine g_dload E dL_law_1662 rfl ?_
    refine g_dload E dL_law_1664 rfl ?_
    refine g_dcmp E dL_law_1666 ?_
    refine g_if_eqR (tgt := 1678) E dL_law_1667 (by decide) (fun z2 => absurd z2 z) (fun _ => ?_)
    refine g_dload E dL_law_1670 rfl ?_
    refine g_dload E dL_law_1672 rfl ?_
    refine g_dcmp E dL_law_1674 ?_
    refine g_if_neR (tgt := 1680) E dL_law_1675 (by decide) (fun _ => ?_) (fun z3 => absurd z3 z)
    refine g_loc (lv' := [(0, .ref b), (1, .ref (ad 0 8 0)), (2, .ref (am 0)), (3, .ref o), (4, .int (zI i))]) ⟨rfl, rfl, rfl, rfl, rfl, trivial⟩ ?_
    exact hend
set_option maxHeartbeats 1600000 in
set_option maxRecDepth 100000 in
/-- digest -/
theorem case_26 {p : Program} {l : Launch} {e : Env} {s : State} {m : MethodId} {b : Nat} {below : List Frame} {meth : Method} {c : Code} {Q : State → Prop} {D : va_G} {A : Nat → Prop} {cells slots : Nat} {ret0 : Option FieldType} {cA : Nat → ClassId} {ad : Ad} {am : Nat → Nat} {o L : Nat} {xs : Nat → Int32} {σ : Nat → St} {th dd : Int32} {kp : Nat → Nat → Int32} {g : Nat → Int64} {i : Int} (E : GE p s m #[Value.ref b] meth c D (tysX cA) cL_law 9 RL wsL_law ret0) (hl0 : l.stackTraces = false) (Z : gZ A s) (X : gC s) (hX : va_X b L xs s s.heap) (hbl : b < s.heap.size) (hbA : ¬ A b) (hL : L ≤ 2560) (hi : 0 ≤ i ∧ i + 5 ≤ L) (hLI : LI σ dd) (hc : cells + 3 ≤ 601024 ∧ slots + 18 ≤ 7293034) (kk : ∀ (σ' : Nat → St) (th' dd' : Int32) (kp' : Nat → Nat → Int32) (g' : Nat → Int64), LI σ' dd' → GW p l e room_1 s m #[Value.ref b] below meth c Q D A 9 ((wX cA ad σ' ++ oW cA o g') ++ wM cA am (σ' 0) th' dd' kp') (cells + 3) (slots + 18) 1697 [(0, .ref b), (1, .ref (ad 0 8 0)), (2, .ref (am 0)), (3, .ref o), (4, .int (zI i))] []) : GW p l e room_1 s m #[Value.ref b] below meth c Q D A 9 ((wX cA ad σ ++ oW cA o g) ++ wM cA am (σ 0) th dd kp) (cells) (slots) 1683 [(0, .ref b), (1, .ref (ad 0 8 0)), (2, .ref (am 0)), (3, .ref o), (4, .int (zI i))] [] := by
  refine g_aload_n E dL_law_1683 rfl ?_
  refine g_st (ws' := wX cA ad (upY σ 0 (σ 0)) ++ (oW cA o g ++ wM cA am (σ 0) th dd kp)) (by rw [upY_self, List.append_assoc]) rfl rfl ?_
  refine g_fVl (T := TX4) (ci := 4) (n := 0) (As := []) (rest := []) E (c_X4_digest l D cA _ ad σ (σ 0) hLI.1) gL_law_X4_digest rfl ⟨rfl, rfl⟩ (by decide +kernel) ⟨Nat.le_of_ble_eq_true rfl, Nat.le_of_ble_eq_true rfl⟩ (ob_8 mem_8) rfl rfl rfl (Nat.le_of_ble_eq_true rfl) ⟨by show cells + 0 ≤ 601024; omega, by show slots + 0 ≤ 7293034; omega⟩ dL_law_1684 ?_
  rintro r1 ws1 ⟨rfl, rfl⟩
  refine g_st (ws' := (wX cA ad (upY σ 0 (σ 0)) ++ oW cA o g) ++ wM cA am (σ 0) th dd kp) (by rw [List.append_assoc]) rfl rfl ?_
  refine g_aload_n E dL_law_1687 rfl ?_
  refine g_sw ?_
  refine g_fVl (T := TX5) (ci := 5) (n := 0) (As := []) (rest := [_]) E (m_digest l D cA _ am (σ 0) th dd kp hLI.1 hLI.2.2) gL_law_X5_digest rfl ⟨rfl, rfl⟩ (by decide +kernel) ⟨Nat.le_of_ble_eq_true rfl, Nat.le_of_ble_eq_true rfl⟩ obM rfl rfl rfl (Nat.le_of_ble_eq_true rfl) ⟨by show cells + 0 ≤ 601024; omega, by show slots + 0 ≤ 7293034; omega⟩ dL_law_1688 ?_
  rintro r2 ws2 ⟨rfl, rfl⟩
  refine g_sw ?_
  refine g_wid (k := cells + 3) (n := slots + 18) (by omega) (by omega) ?_
  refine g_lcmp E dL_law_1691 ?_
  refine g_if_eqR (tgt := 1697) E dL_law_1692 (by decide) (fun _ => ?_) (fun z => absurd (by simp [lg_cmp]) z)
  refine g_loc (lv' := [(0, .ref b), (1, .ref (ad 0 8 0)), (2, .ref (am 0)), (3, .ref o), (4, .int (zI i))]) ⟨rfl, rfl, rfl, rfl, rfl, trivial⟩ ?_
  refine g_st (ws' := (wX cA ad σ ++ oW cA o g) ++ wM cA am (σ 0) (zI 0) dd kp) (by rw [upY_self]) rfl rfl ?_
  exact kk σ (zI 0) dd kp g hLI
