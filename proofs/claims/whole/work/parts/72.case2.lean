/-! ===== LAW: a call of each kind ===== -/
set_option maxHeartbeats 1600000 in
set_option maxRecDepth 100000 in
/-- scour -/
theorem case_7 {p : Program} {l : Launch} {e : Env} {s : State} {m : MethodId} {b : Nat} {below : List Frame} {meth : Method} {c : Code} {Q : State → Prop} {D : va_G} {A : Nat → Prop} {cells slots : Nat} {ret0 : Option FieldType} {cA : Nat → ClassId} {ad : Ad} {am : Nat → Nat} {o L : Nat} {xs : Nat → Int32} {σ : Nat → St} {th dd : Int32} {kp : Nat → Nat → Int32} {g : Nat → Int64} {i : Int} (E : GE p s m #[Value.ref b] meth c D (tysX cA) cL_law 9 RL wsL_law ret0) (hl0 : l.stackTraces = false) (Z : gZ A s) (X : gC s) (hX : va_X b L xs s s.heap) (hbl : b < s.heap.size) (hbA : ¬ A b) (hL : L ≤ 2560) (hi : 0 ≤ i ∧ i + 5 ≤ L) (hLI : LI σ dd) (hc : cells + 3 ≤ 601024 ∧ slots + 18 ≤ 7293034) (kk : ∀ (σ' : Nat → St) (th' dd' : Int32) (kp' : Nat → Nat → Int32) (g' : Nat → Int64), LI σ' dd' → GW p l e room_1 s m #[Value.ref b] below meth c Q D A 9 ((wX cA ad σ' ++ oW cA o g') ++ wM cA am (σ' 0) th' dd' kp') (cells + 3) (slots + 18) 1697 [(0, .ref b), (1, .ref (ad 0 8 0)), (2, .ref (am 0)), (3, .ref o), (4, .int (zI i))] []) : GW p l e room_1 s m #[Value.ref b] below meth c Q D A 9 ((wX cA ad σ ++ oW cA o g) ++ wM cA am (σ 0) th dd kp) (cells) (slots) 600 [(0, .ref b), (1, .ref (ad 0 8 0)), (2, .ref (am 0)), (3, .ref o), (4, .int (zI i))] [] := by
  refine g_aload_n E dL_law_600 rfl ?_
  refine g_aload_n E dL_law_601 rfl ?_
  refine g_iload E dL_law_602 rfl ?_
  refine g_iconst E dL_law_604 ?_
  refine g_iadd E dL_law_605 ?_
  refine g_sld E hX hbl hbA (by omega) hL dL_law_606 ?_
  refine g_aload_n E dL_law_607 rfl ?_
  refine g_fW (n := 3) (As := [_, _, _]) (rest := []) E Z X (l_scour l hl0 D cA _ ad σ o g hLI.1 hLI.2.1 _ (i32_rng _)) gL_law_L_scour rfl ⟨rfl, rfl⟩ (by decide +kernel) ⟨Nat.le_of_ble_eq_true rfl, Nat.le_of_ble_eq_true rfl⟩ rfl rfl (Nat.le_of_ble_eq_true rfl) ⟨hc.1, hc.2⟩ dL_law_608 ?_
  rintro r1 ws1 hp1
  refine g_istore E dL_law_611 (by decide) ?_
  refine g_aload_n E dL_law_613 rfl ?_
  refine g_aload_n E dL_law_614 rfl ?_
  refine g_iload E dL_law_615 rfl ?_
  refine g_iconst E dL_law_617 ?_
  refine g_iadd E dL_law_618 ?_
  refine g_sld E hX hbl hbA (by omega) hL dL_law_619 ?_
  refine g_sw ?_
  refine g_fVi (T := TX5) (ci := 5) (n := 1) (As := [_]) (rest := []) E (m_scour l D cA _ am (σ 0) th dd kp hLI.1 _ (i32_rng _)) gL_law_X5_scour rfl ⟨rfl, rfl⟩ (by decide +kernel) ⟨Nat.le_of_ble_eq_true rfl, Nat.le_of_ble_eq_true rfl⟩ obM rfl rfl rfl (Nat.le_of_ble_eq_true rfl) ⟨hc.1, hc.2⟩ dL_law_620 ?_
  rintro r2 ws2 hp2
  refine g_sw ?_
  obtain ⟨σ1, g1, dd1, kp1, t1, rfl, rfl, hLI1, hr, hz⟩ := lj2 (by unfold eP; split <;> (try split) <;> (try split) <;> (try split) <;> (try split) <;> omega) hp1 hp2 hLI (fun he => ⟨(scour_g hLI.1 he _).1, hLI.2.2.trans (scour_g hLI.1 he _).2.2.2.symm⟩)
  refine g_istore E dL_law_623 (by decide) ?_
  refine g_aload_n E dL_law_625 rfl ?_
  refine g_sw ?_
  refine g_fVi (T := TX5) (ci := 5) (n := 0) (As := []) (rest := []) E (m_thrown l D cA _ am (σ1 0) t1 dd1 kp1) gL_law_X5_thrown rfl ⟨rfl, rfl⟩ (by decide +kernel) ⟨Nat.le_of_ble_eq_true rfl, Nat.le_of_ble_eq_true rfl⟩ obM rfl rfl rfl (Nat.le_of_ble_eq_true rfl) ⟨hc.1, hc.2⟩ dL_law_626 ?_
  rintro r3 ws3 ⟨h3, rfl⟩
  obtain rfl : t1 = r3 := h3.symm
  refine g_sw ?_
  refine g_iload E dL_law_629 rfl ?_
  refine g_icmp_eqR (tgt := 636) E dL_law_631 (by decide) (fun _ => ?_) (fun z => absurd hr.symm z)
  refine g_iload E dL_law_636 rfl ?_
  have hend : GW p l e room_1 s m #[Value.ref b] below meth c Q D A 9 ((wX cA ad σ1 ++ oW cA o g1) ++ wM cA am (σ1 0) t1 dd1 kp1) (cells + 3) (slots + 18) 653 [(0, .ref b), (1, .ref (ad 0 8 0)), (2, .ref (am 0)), (3, .ref o), (4, .int (zI i))] [] := by
    refine g_goto (tgt := 1697) E dL_law_653 (by decide) ?_
    exact kk σ1 t1 dd1 kp1 g1 hLI1
  refine g_if_neR (tgt := 653) E dL_law_638 (by decide) (fun _ => ?_) (fun z => ?_)
  · refine g_loc (lv' := [(0, .ref b), (1, .ref (ad 0 8 0)), (2, .ref (am 0)), (3, .ref o), (4, .int (zI i))]) ⟨rfl, rfl, rfl, rfl, rfl, trivial⟩ ?_
    exact hend
  · refine g_aload_n E dL_law_641 rfl ?_
    refine g_iconst E dL_law_642 ?_
    refine g_lald E dL_law_643 ?_
    refine g_iload E dL_law_644 rfl ?_
    refine g_i2l E dL_law_646 ?_
    refine g_lcmp E dL_law_647 ?_
    refine g_if_eqR (tgt := 653) E dL_law_648 (by decide) (fun _ => ?_) (fun z2 => absurd (by rw [(hz z).1, (hz z).2]; simp [lg_cmp]) z2)
    refine g_loc (lv' := [(0, .ref b), (1, .ref (ad 0 8 0)), (2, .ref (am 0)), (3, .ref o), (4, .int (zI i))]) ⟨rfl, rfl, rfl, rfl, rfl, trivial⟩ ?_
    exact hend
set_option maxHeartbeats 1600000 in
set_option maxRecDepth 100000 in
/-- inspect -/
theorem case_8 {p : Program} {l : Launch} {e : Env} {s : State} {m : MethodId} {b : Nat} {below : List Frame} {meth : Method} {c : Code} {Q : State → Prop} {D : va_G} {A : Nat → Prop} {cells slots : Nat} {ret0 : Option FieldType} {cA : Nat → ClassId} {ad : Ad} {am : Nat → Nat} {o L : Nat} {xs : Nat → Int32} {σ : Nat → St} {th dd : Int32} {kp : Nat → Nat → Int32} {g : Nat → Int64} {i : Int} (E : GE p s m #[Value.ref b] meth c D (tysX cA) cL_law 9 RL wsL_law ret0) (hl0 : l.stackTraces = false) (Z : gZ A s) (X : gC s) (hX : va_X b L xs s s.heap) (hbl : b < s.heap.size) (hbA : ¬ A b) (hL : L ≤ 2560) (hi : 0 ≤ i ∧ i + 5 ≤ L) (hLI : LI σ dd) (hc : cells + 3 ≤ 601024 ∧ slots + 18 ≤ 7293034) (kk : ∀ (σ' : Nat → St) (th' dd' : Int32) (kp' : Nat → Nat → Int32) (g' : Nat → Int64), LI σ' dd' → GW p l e room_1 s m #[Value.ref b] below meth c Q D A 9 ((wX cA ad σ' ++ oW cA o g') ++ wM cA am (σ' 0) th' dd' kp') (cells + 3) (slots + 18) 1697 [(0, .ref b), (1, .ref (ad 0 8 0)), (2, .ref (am 0)), (3, .ref o), (4, .int (zI i))] []) : GW p l e room_1 s m #[Value.ref b] below meth c Q D A 9 ((wX cA ad σ ++ oW cA o g) ++ wM cA am (σ 0) th dd kp) (cells) (slots) 656 [(0, .ref b), (1, .ref (ad 0 8 0)), (2, .ref (am 0)), (3, .ref o), (4, .int (zI i))] [] := by
  refine g_aload_n E dL_law_656 rfl ?_
  refine g_aload_n E dL_law_657 rfl ?_
  refine g_iload E dL_law_658 rfl ?_
  refine g_iconst E dL_law_660 ?_
  refine g_iadd E dL_law_661 ?_
  refine g_sld E hX hbl hbA (by omega) hL dL_law_662 ?_
  refine g_aload_n E dL_law_663 rfl ?_
  refine g_fW (n := 3) (As := [_, _, _]) (rest := []) E Z X (l_inspect l hl0 D cA _ ad σ o g hLI.1 hLI.2.1 _ (i32_rng _)) gL_law_L_inspect rfl ⟨rfl, rfl⟩ (by decide +kernel) ⟨Nat.le_of_ble_eq_true rfl, Nat.le_of_ble_eq_true rfl⟩ rfl rfl (Nat.le_of_ble_eq_true rfl) ⟨hc.1, hc.2⟩ dL_law_664 ?_
  rintro r1 ws1 hp1
  refine g_istore E dL_law_667 (by decide) ?_
  refine g_aload_n E dL_law_669 rfl ?_
  refine g_aload_n E dL_law_670 rfl ?_
  refine g_iload E dL_law_671 rfl ?_
  refine g_iconst E dL_law_673 ?_
  refine g_iadd E dL_law_674 ?_
  refine g_sld E hX hbl hbA (by omega) hL dL_law_675 ?_
  refine g_sw ?_
  refine g_fVi (T := TX5) (ci := 5) (n := 1) (As := [_]) (rest := []) E (m_inspect l D cA _ am (σ 0) th dd kp hLI.1 _ (i32_rng _)) gL_law_X5_inspect rfl ⟨rfl, rfl⟩ (by decide +kernel) ⟨Nat.le_of_ble_eq_true rfl, Nat.le_of_ble_eq_true rfl⟩ obM rfl rfl rfl (Nat.le_of_ble_eq_true rfl) ⟨hc.1, hc.2⟩ dL_law_676 ?_
  rintro r2 ws2 hp2
  refine g_sw ?_
  obtain ⟨σ1, g1, dd1, kp1, t1, rfl, rfl, hLI1, hr, hz⟩ := lj2 (by unfold eP; split <;> (try split) <;> (try split) <;> (try split) <;> (try split) <;> omega) hp1 hp2 hLI (fun he => ⟨(inspS_g hLI.1 he).1, hLI.2.2.trans (inspS_g hLI.1 he).2.2.2.symm⟩)
  refine g_istore E dL_law_679 (by decide) ?_
  refine g_aload_n E dL_law_681 rfl ?_
  refine g_sw ?_
  refine g_fVi (T := TX5) (ci := 5) (n := 0) (As := []) (rest := []) E (m_thrown l D cA _ am (σ1 0) t1 dd1 kp1) gL_law_X5_thrown rfl ⟨rfl, rfl⟩ (by decide +kernel) ⟨Nat.le_of_ble_eq_true rfl, Nat.le_of_ble_eq_true rfl⟩ obM rfl rfl rfl (Nat.le_of_ble_eq_true rfl) ⟨hc.1, hc.2⟩ dL_law_682 ?_
  rintro r3 ws3 ⟨h3, rfl⟩
  obtain rfl : t1 = r3 := h3.symm
  refine g_sw ?_
  refine g_iload E dL_law_685 rfl ?_
  refine g_icmp_eqR (tgt := 692) E dL_law_687 (by decide) (fun _ => ?_) (fun z => absurd hr.symm z)
  refine g_iload E dL_law_692 rfl ?_
  have hend : GW p l e room_1 s m #[Value.ref b] below meth c Q D A 9 ((wX cA ad σ1 ++ oW cA o g1) ++ wM cA am (σ1 0) t1 dd1 kp1) (cells + 3) (slots + 18) 709 [(0, .ref b), (1, .ref (ad 0 8 0)), (2, .ref (am 0)), (3, .ref o), (4, .int (zI i))] [] := by
    refine g_goto (tgt := 1697) E dL_law_709 (by decide) ?_
    exact kk σ1 t1 dd1 kp1 g1 hLI1
  refine g_if_neR (tgt := 709) E dL_law_694 (by decide) (fun _ => ?_) (fun z => ?_)
  · refine g_loc (lv' := [(0, .ref b), (1, .ref (ad 0 8 0)), (2, .ref (am 0)), (3, .ref o), (4, .int (zI i))]) ⟨rfl, rfl, rfl, rfl, rfl, trivial⟩ ?_
    exact hend
  · refine g_aload_n E dL_law_697 rfl ?_
    refine g_iconst E dL_law_698 ?_
    refine g_lald E dL_law_699 ?_
    refine g_iload E dL_law_700 rfl ?_
    refine g_i2l E dL_law_702 ?_
    refine g_lcmp E dL_law_703 ?_
    refine g_if_eqR (tgt := 709) E dL_law_704 (by decide) (fun _ => ?_) (fun z2 => absurd (by rw [(hz z).1, (hz z).2]; simp [lg_cmp]) z2)
    refine g_loc (lv' := [(0, .ref b), (1, .ref (ad 0 8 0)), (2, .ref (am 0)), (3, .ref o), (4, .int (zI i))]) ⟨rfl, rfl, rfl, rfl, rfl, trivial⟩ ?_
    exact hend
set_option maxHeartbeats 1600000 in
set_option maxRecDepth 100000 in
/-- shift -/
theorem case_9 {p : Program} {l : Launch} {e : Env} {s : State} {m : MethodId} {b : Nat} {below : List Frame} {meth : Method} {c : Code} {Q : State → Prop} {D : va_G} {A : Nat → Prop} {cells slots : Nat} {ret0 : Option FieldType} {cA : Nat → ClassId} {ad : Ad} {am : Nat → Nat} {o L : Nat} {xs : Nat → Int32} {σ : Nat → St} {th dd : Int32} {kp : Nat → Nat → Int32} {g : Nat → Int64} {i : Int} (E : GE p s m #[Value.ref b] meth c D (tysX cA) cL_law 9 RL wsL_law ret0) (hl0 : l.stackTraces = false) (Z : gZ A s) (X : gC s) (hX : va_X b L xs s s.heap) (hbl : b < s.heap.size) (hbA : ¬ A b) (hL : L ≤ 2560) (hi : 0 ≤ i ∧ i + 5 ≤ L) (hLI : LI σ dd) (hc : cells + 3 ≤ 601024 ∧ slots + 18 ≤ 7293034) (kk : ∀ (σ' : Nat → St) (th' dd' : Int32) (kp' : Nat → Nat → Int32) (g' : Nat → Int64), LI σ' dd' → GW p l e room_1 s m #[Value.ref b] below meth c Q D A 9 ((wX cA ad σ' ++ oW cA o g') ++ wM cA am (σ' 0) th' dd' kp') (cells + 3) (slots + 18) 1697 [(0, .ref b), (1, .ref (ad 0 8 0)), (2, .ref (am 0)), (3, .ref o), (4, .int (zI i))] []) : GW p l e room_1 s m #[Value.ref b] below meth c Q D A 9 ((wX cA ad σ ++ oW cA o g) ++ wM cA am (σ 0) th dd kp) (cells) (slots) 712 [(0, .ref b), (1, .ref (ad 0 8 0)), (2, .ref (am 0)), (3, .ref o), (4, .int (zI i))] [] := by
  refine g_aload_n E dL_law_712 rfl ?_
  refine g_aload_n E dL_law_713 rfl ?_
  refine g_iload E dL_law_714 rfl ?_
  refine g_iconst E dL_law_716 ?_
  refine g_iadd E dL_law_717 ?_
  refine g_sld E hX hbl hbA (by omega) hL dL_law_718 ?_
  refine g_aload_n E dL_law_719 rfl ?_
  refine g_iload E dL_law_720 rfl ?_
  refine g_iconst E dL_law_722 ?_
  refine g_iadd E dL_law_723 ?_
  refine g_sld E hX hbl hbA (by omega) hL dL_law_724 ?_
  refine g_aload_n E dL_law_725 rfl ?_
  refine g_fW (n := 4) (As := [_, _, _, _]) (rest := []) E Z X (l_shift l hl0 D cA _ ad σ o g hLI.1 hLI.2.1 _ _ (i32_rng _) (i32_rng _)) gL_law_L_shift rfl ⟨rfl, rfl⟩ (by decide +kernel) ⟨Nat.le_of_ble_eq_true rfl, Nat.le_of_ble_eq_true rfl⟩ rfl rfl (Nat.le_of_ble_eq_true rfl) ⟨hc.1, hc.2⟩ dL_law_726 ?_
  rintro r1 ws1 hp1
  refine g_istore E dL_law_729 (by decide) ?_
  refine g_aload_n E dL_law_731 rfl ?_
  refine g_aload_n E dL_law_732 rfl ?_
  refine g_iload E dL_law_733 rfl ?_
  refine g_iconst E dL_law_735 ?_
  refine g_iadd E dL_law_736 ?_
  refine g_sld E hX hbl hbA (by omega) hL dL_law_737 ?_
  refine g_aload_n E dL_law_738 rfl ?_
  refine g_iload E dL_law_739 rfl ?_
  refine g_iconst E dL_law_741 ?_
  refine g_iadd E dL_law_742 ?_
  refine g_sld E hX hbl hbA (by omega) hL dL_law_743 ?_
  refine g_sw ?_
  refine g_fVi (T := TX5) (ci := 5) (n := 2) (As := [_, _]) (rest := []) E (m_shift l D cA _ am (σ 0) th dd kp hLI.1 _ _ (i32_rng _) (i32_rng _)) gL_law_X5_shift rfl ⟨rfl, rfl⟩ (by decide +kernel) ⟨Nat.le_of_ble_eq_true rfl, Nat.le_of_ble_eq_true rfl⟩ obM rfl rfl rfl (Nat.le_of_ble_eq_true rfl) ⟨hc.1, hc.2⟩ dL_law_744 ?_
  rintro r2 ws2 hp2
  refine g_sw ?_
  obtain ⟨σ1, g1, dd1, kp1, t1, rfl, rfl, hLI1, hr, hz⟩ := lj2 (by unfold eShift; split <;> (try split) <;> (try split) <;> (try split) <;> (try split) <;> omega) hp1 hp2 hLI (fun he => ⟨(shift_g hLI.1 he).1, hLI.2.2.trans (shift_g hLI.1 he).2.2.2.symm⟩)
  refine g_istore E dL_law_747 (by decide) ?_
  refine g_aload_n E dL_law_749 rfl ?_
  refine g_sw ?_
  refine g_fVi (T := TX5) (ci := 5) (n := 0) (As := []) (rest := []) E (m_thrown l D cA _ am (σ1 0) t1 dd1 kp1) gL_law_X5_thrown rfl ⟨rfl, rfl⟩ (by decide +kernel) ⟨Nat.le_of_ble_eq_true rfl, Nat.le_of_ble_eq_true rfl⟩ obM rfl rfl rfl (Nat.le_of_ble_eq_true rfl) ⟨hc.1, hc.2⟩ dL_law_750 ?_
  rintro r3 ws3 ⟨h3, rfl⟩
  obtain rfl : t1 = r3 := h3.symm
  refine g_sw ?_
  refine g_iload E dL_law_753 rfl ?_
  refine g_icmp_eqR (tgt := 760) E dL_law_755 (by decide) (fun _ => ?_) (fun z => absurd hr.symm z)
  refine g_iload E dL_law_760 rfl ?_
  have hend : GW p l e room_1 s m #[Value.ref b] below meth c Q D A 9 ((wX cA ad σ1 ++ oW cA o g1) ++ wM cA am (σ1 0) t1 dd1 kp1) (cells + 3) (slots + 18) 777 [(0, .ref b), (1, .ref (ad 0 8 0)), (2, .ref (am 0)), (3, .ref o), (4, .int (zI i))] [] := by
    refine g_goto (tgt := 1697) E dL_law_777 (by decide) ?_
    exact kk σ1 t1 dd1 kp1 g1 hLI1
  refine g_if_neR (tgt := 777) E dL_law_762 (by decide) (fun _ => ?_) (fun z => ?_)
  · refine g_loc (lv' := [(0, .ref b), (1, .ref (ad 0 8 0)), (2, .ref (am 0)), (3, .ref o), (4, .int (zI i))]) ⟨rfl, rfl, rfl, rfl, rfl, trivial⟩ ?_
    exact hend
  · refine g_aload_n E dL_law_765 rfl ?_
    refine g_iconst E dL_law_766 ?_
    refine g_lald E dL_law_767 ?_
    refine g_iload E dL_law_768 rfl ?_
    refine g_i2l E dL_law_770 ?_
    refine g_lcmp E dL_law_771 ?_
    refine g_if_eqR (tgt := 777) E dL_law_772 (by decide) (fun _ => ?_) (fun z2 => absurd (by rw [(hz z).1, (hz z).2]; simp [lg_cmp]) z2)
    refine g_loc (lv' := [(0, .ref b), (1, .ref (ad 0 8 0)), (2, .ref (am 0)), (3, .ref o), (4, .int (zI i))]) ⟨rfl, rfl, rfl, rfl, rfl, trivial⟩ ?_
    exact hend
set_option maxHeartbeats 1600000 in
set_option maxRecDepth 100000 in
/-- gather -/
theorem case_10 {p : Program} {l : Launch} {e : Env} {s : State} {m : MethodId} {b : Nat} {below : List Frame} {meth : Method} {c : Code} {Q : State → Prop} {D : va_G} {A : Nat → Prop} {cells slots : Nat} {ret0 : Option FieldType} {cA : Nat → ClassId} {ad : Ad} {am : Nat → Nat} {o L : Nat} {xs : Nat → Int32} {σ : Nat → St} {th dd : Int32} {kp : Nat → Nat → Int32} {g : Nat → Int64} {i : Int} (E : GE p s m #[Value.ref b] meth c D (tysX cA) cL_law 9 RL wsL_law ret0) (hl0 : l.stackTraces = false) (Z : gZ A s) (X : gC s) (hX : va_X b L xs s s.heap) (hbl : b < s.heap.size) (hbA : ¬ A b) (hL : L ≤ 2560) (hi : 0 ≤ i ∧ i + 5 ≤ L) (hLI : LI σ dd) (hc : cells + 3 ≤ 601024 ∧ slots + 18 ≤ 7293034) (kk : ∀ (σ' : Nat → St) (th' dd' : Int32) (kp' : Nat → Nat → Int32) (g' : Nat → Int64), LI σ' dd' → GW p l e room_1 s m #[Value.ref b] below meth c Q D A 9 ((wX cA ad σ' ++ oW cA o g') ++ wM cA am (σ' 0) th' dd' kp') (cells + 3) (slots + 18) 1697 [(0, .ref b), (1, .ref (ad 0 8 0)), (2, .ref (am 0)), (3, .ref o), (4, .int (zI i))] []) : GW p l e room_1 s m #[Value.ref b] below meth c Q D A 9 ((wX cA ad σ ++ oW cA o g) ++ wM cA am (σ 0) th dd kp) (cells) (slots) 780 [(0, .ref b), (1, .ref (ad 0 8 0)), (2, .ref (am 0)), (3, .ref o), (4, .int (zI i))] [] := by
  refine g_aload_n E dL_law_780 rfl ?_
  refine g_st (ws' := wX cA ad (upY σ 0 (σ 0)) ++ (oW cA o g ++ wM cA am (σ 0) th dd kp)) (by rw [upY_self, List.append_assoc]) rfl rfl ?_
  refine g_fVi (T := TX4) (ci := 4) (n := 0) (As := []) (rest := []) E (c_X4_gather l D cA _ ad σ (σ 0) hLI.1) gL_law_X4_gather rfl ⟨rfl, rfl⟩ (by decide +kernel) ⟨Nat.le_of_ble_eq_true rfl, Nat.le_of_ble_eq_true rfl⟩ (ob_8 mem_8) rfl rfl rfl (Nat.le_of_ble_eq_true rfl) ⟨by show cells + 0 ≤ 601024; omega, by show slots + 0 ≤ 7293034; omega⟩ dL_law_781 ?_
  rintro r1 ws1 ⟨rfl, rfl⟩
  refine g_st (ws' := (wX cA ad (upY σ 0 ((gaL (σ 0) 5).1)) ++ oW cA o g) ++ wM cA am (σ 0) th dd kp) (by rw [List.append_assoc]) rfl rfl ?_
  refine g_aload_n E dL_law_784 rfl ?_
  refine g_sw ?_
  refine g_fVi (T := TX5) (ci := 5) (n := 0) (As := []) (rest := [_]) E (m_gather l D cA _ am (σ 0) th dd kp) gL_law_X5_gather rfl ⟨rfl, rfl⟩ (by decide +kernel) ⟨Nat.le_of_ble_eq_true rfl, Nat.le_of_ble_eq_true rfl⟩ obM rfl rfl rfl (Nat.le_of_ble_eq_true rfl) ⟨by show cells + 0 ≤ 601024; omega, by show slots + 0 ≤ 7293034; omega⟩ dL_law_785 ?_
  rintro r2 ws2 ⟨rfl, rfl⟩
  refine g_sw ?_
  refine g_wid (k := cells + 3) (n := slots + 18) (by omega) (by omega) ?_
  refine g_icmp_eqR (tgt := 1697) E dL_law_788 (by decide) (fun _ => ?_) (fun z => absurd rfl z)
  refine g_loc (lv' := [(0, .ref b), (1, .ref (ad 0 8 0)), (2, .ref (am 0)), (3, .ref o), (4, .int (zI i))]) ⟨rfl, rfl, rfl, rfl, rfl, trivial⟩ ?_
  refine g_st (ws' := (wX cA ad (upY σ 0 ((gaL (σ 0) 5).1)) ++ oW cA o g) ++ wM cA am ((upY σ 0 ((gaL (σ 0) 5).1)) 0) (zI 0) dd kp) (by rw [upY_s]) rfl rfl ?_
  exact kk (upY σ 0 ((gaL (σ 0) 5).1)) (zI 0) dd kp g ⟨by rw [upY_s]; exact (gaL_g hLI.1 5).1, by rw [upY_s, upY_n (by decide)]; exact (gaL_g hLI.1 5).tr hLI.2.1, by rw [upY_s]; exact hLI.2.2.trans (gaL_g hLI.1 5).2.2.2.symm⟩
set_option maxHeartbeats 1600000 in
set_option maxRecDepth 100000 in
/-- chase -/
theorem case_11 {p : Program} {l : Launch} {e : Env} {s : State} {m : MethodId} {b : Nat} {below : List Frame} {meth : Method} {c : Code} {Q : State → Prop} {D : va_G} {A : Nat → Prop} {cells slots : Nat} {ret0 : Option FieldType} {cA : Nat → ClassId} {ad : Ad} {am : Nat → Nat} {o L : Nat} {xs : Nat → Int32} {σ : Nat → St} {th dd : Int32} {kp : Nat → Nat → Int32} {g : Nat → Int64} {i : Int} (E : GE p s m #[Value.ref b] meth c D (tysX cA) cL_law 9 RL wsL_law ret0) (hl0 : l.stackTraces = false) (Z : gZ A s) (X : gC s) (hX : va_X b L xs s s.heap) (hbl : b < s.heap.size) (hbA : ¬ A b) (hL : L ≤ 2560) (hi : 0 ≤ i ∧ i + 5 ≤ L) (hLI : LI σ dd) (hc : cells + 3 ≤ 601024 ∧ slots + 18 ≤ 7293034) (kk : ∀ (σ' : Nat → St) (th' dd' : Int32) (kp' : Nat → Nat → Int32) (g' : Nat → Int64), LI σ' dd' → GW p l e room_1 s m #[Value.ref b] below meth c Q D A 9 ((wX cA ad σ' ++ oW cA o g') ++ wM cA am (σ' 0) th' dd' kp') (cells + 3) (slots + 18) 1697 [(0, .ref b), (1, .ref (ad 0 8 0)), (2, .ref (am 0)), (3, .ref o), (4, .int (zI i))] []) : GW p l e room_1 s m #[Value.ref b] below meth c Q D A 9 ((wX cA ad σ ++ oW cA o g) ++ wM cA am (σ 0) th dd kp) (cells) (slots) 793 [(0, .ref b), (1, .ref (ad 0 8 0)), (2, .ref (am 0)), (3, .ref o), (4, .int (zI i))] [] := by
  refine g_aload_n E dL_law_793 rfl ?_
  refine g_aload_n E dL_law_794 rfl ?_
  refine g_iload E dL_law_795 rfl ?_
  refine g_iconst E dL_law_797 ?_
  refine g_iadd E dL_law_798 ?_
  refine g_sld E hX hbl hbA (by omega) hL dL_law_799 ?_
  refine g_aload_n E dL_law_800 rfl ?_
  refine g_fW (n := 3) (As := [_, _, _]) (rest := []) E Z X (l_chase l hl0 D cA _ ad σ o g hLI.1 hLI.2.1 _ (i32_rng _)) gL_law_L_chase rfl ⟨rfl, rfl⟩ (by decide +kernel) ⟨Nat.le_of_ble_eq_true rfl, Nat.le_of_ble_eq_true rfl⟩ rfl rfl (Nat.le_of_ble_eq_true rfl) ⟨hc.1, hc.2⟩ dL_law_801 ?_
  rintro r1 ws1 hp1
  refine g_istore E dL_law_804 (by decide) ?_
  refine g_aload_n E dL_law_806 rfl ?_
  refine g_aload_n E dL_law_807 rfl ?_
  refine g_iload E dL_law_808 rfl ?_
  refine g_iconst E dL_law_810 ?_
  refine g_iadd E dL_law_811 ?_
  refine g_sld E hX hbl hbA (by omega) hL dL_law_812 ?_
  refine g_sw ?_
  refine g_fVi (T := TX5) (ci := 5) (n := 1) (As := [_]) (rest := []) E (m_chase l D cA _ am (σ 0) th dd kp hLI.1 _ (i32_rng _)) gL_law_X5_chase rfl ⟨rfl, rfl⟩ (by decide +kernel) ⟨Nat.le_of_ble_eq_true rfl, Nat.le_of_ble_eq_true rfl⟩ obM rfl rfl rfl (Nat.le_of_ble_eq_true rfl) ⟨hc.1, hc.2⟩ dL_law_813 ?_
  rintro r2 ws2 hp2
  refine g_sw ?_
  obtain ⟨σ1, g1, dd1, kp1, t1, rfl, rfl, hLI1, hr, hz⟩ := lj2 (by unfold eC; split <;> (try split) <;> (try split) <;> (try split) <;> (try split) <;> omega) hp1 hp2 hLI (fun he => ⟨(chase_g hLI.1 he).1, hLI.2.2.trans (chase_g hLI.1 he).2.2.2.symm⟩)
  refine g_istore E dL_law_816 (by decide) ?_
  refine g_aload_n E dL_law_818 rfl ?_
  refine g_sw ?_
  refine g_fVi (T := TX5) (ci := 5) (n := 0) (As := []) (rest := []) E (m_thrown l D cA _ am (σ1 0) t1 dd1 kp1) gL_law_X5_thrown rfl ⟨rfl, rfl⟩ (by decide +kernel) ⟨Nat.le_of_ble_eq_true rfl, Nat.le_of_ble_eq_true rfl⟩ obM rfl rfl rfl (Nat.le_of_ble_eq_true rfl) ⟨hc.1, hc.2⟩ dL_law_819 ?_
  rintro r3 ws3 ⟨h3, rfl⟩
  obtain rfl : t1 = r3 := h3.symm
  refine g_sw ?_
  refine g_iload E dL_law_822 rfl ?_
  refine g_icmp_eqR (tgt := 829) E dL_law_824 (by decide) (fun _ => ?_) (fun z => absurd hr.symm z)
  refine g_iload E dL_law_829 rfl ?_
  have hend : GW p l e room_1 s m #[Value.ref b] below meth c Q D A 9 ((wX cA ad σ1 ++ oW cA o g1) ++ wM cA am (σ1 0) t1 dd1 kp1) (cells + 3) (slots + 18) 846 [(0, .ref b), (1, .ref (ad 0 8 0)), (2, .ref (am 0)), (3, .ref o), (4, .int (zI i))] [] := by
    refine g_goto (tgt := 1697) E dL_law_846 (by decide) ?_
    exact kk σ1 t1 dd1 kp1 g1 hLI1
  refine g_if_neR (tgt := 846) E dL_law_831 (by decide) (fun _ => ?_) (fun z => ?_)
  · refine g_loc (lv' := [(0, .ref b), (1, .ref (ad 0 8 0)), (2, .ref (am 0)), (3, .ref o), (4, .int (zI i))]) ⟨rfl, rfl, rfl, rfl, rfl, trivial⟩ ?_
    exact hend
  · refine g_aload_n E dL_law_834 rfl ?_
    refine g_iconst E dL_law_835 ?_
    refine g_lald E dL_law_836 ?_
    refine g_iload E dL_law_837 rfl ?_
    refine g_i2l E dL_law_839 ?_
    refine g_lcmp E dL_law_840 ?_
    refine g_if_eqR (tgt := 846) E dL_law_841 (by decide) (fun _ => ?_) (fun z2 => absurd (by rw [(hz z).1, (hz z).2]; simp [lg_cmp]) z2)
    refine g_loc (lv' := [(0, .ref b), (1, .ref (ad 0 8 0)), (2, .ref (am 0)), (3, .ref o), (4, .int (zI i))]) ⟨rfl, rfl, rfl, rfl, rfl, trivial⟩ ?_
    exact hend
set_option maxHeartbeats 1600000 in
set_option maxRecDepth 100000 in
/-- about -/
theorem case_12 {p : Program} {l : Launch} {e : Env} {s : State} {m : MethodId} {b : Nat} {below : List Frame} {meth : Method} {c : Code} {Q : State → Prop} {D : va_G} {A : Nat → Prop} {cells slots : Nat} {ret0 : Option FieldType} {cA : Nat → ClassId} {ad : Ad} {am : Nat → Nat} {o L : Nat} {xs : Nat → Int32} {σ : Nat → St} {th dd : Int32} {kp : Nat → Nat → Int32} {g : Nat → Int64} {i : Int} (E : GE p s m #[Value.ref b] meth c D (tysX cA) cL_law 9 RL wsL_law ret0) (hl0 : l.stackTraces = false) (Z : gZ A s) (X : gC s) (hX : va_X b L xs s s.heap) (hbl : b < s.heap.size) (hbA : ¬ A b) (hL : L ≤ 2560) (hi : 0 ≤ i ∧ i + 5 ≤ L) (hLI : LI σ dd) (hc : cells + 3 ≤ 601024 ∧ slots + 18 ≤ 7293034) (kk : ∀ (σ' : Nat → St) (th' dd' : Int32) (kp' : Nat → Nat → Int32) (g' : Nat → Int64), LI σ' dd' → GW p l e room_1 s m #[Value.ref b] below meth c Q D A 9 ((wX cA ad σ' ++ oW cA o g') ++ wM cA am (σ' 0) th' dd' kp') (cells + 3) (slots + 18) 1697 [(0, .ref b), (1, .ref (ad 0 8 0)), (2, .ref (am 0)), (3, .ref o), (4, .int (zI i))] []) : GW p l e room_1 s m #[Value.ref b] below meth c Q D A 9 ((wX cA ad σ ++ oW cA o g) ++ wM cA am (σ 0) th dd kp) (cells) (slots) 849 [(0, .ref b), (1, .ref (ad 0 8 0)), (2, .ref (am 0)), (3, .ref o), (4, .int (zI i))] [] := by
  refine g_aload_n E dL_law_849 rfl ?_
  refine g_aload_n E dL_law_850 rfl ?_
  refine g_iload E dL_law_851 rfl ?_
  refine g_iconst E dL_law_853 ?_
  refine g_iadd E dL_law_854 ?_
  refine g_sld E hX hbl hbA (by omega) hL dL_law_855 ?_
  refine g_aload_n E dL_law_856 rfl ?_
  refine g_iload E dL_law_857 rfl ?_
  refine g_iconst E dL_law_859 ?_
  refine g_iadd E dL_law_860 ?_
  refine g_sld E hX hbl hbA (by omega) hL dL_law_861 ?_
  refine g_aload_n E dL_law_862 rfl ?_
  refine g_fW (n := 4) (As := [_, _, _, _]) (rest := []) E Z X (l_about l hl0 D cA _ ad σ o g hLI.1 hLI.2.1 _ _ (i32_rng _) (i32_rng _)) gL_law_L_about rfl ⟨rfl, rfl⟩ (by decide +kernel) ⟨Nat.le_of_ble_eq_true rfl, Nat.le_of_ble_eq_true rfl⟩ rfl rfl (Nat.le_of_ble_eq_true rfl) ⟨hc.1, hc.2⟩ dL_law_863 ?_
  rintro r1 ws1 hp1
  refine g_istore E dL_law_866 (by decide) ?_
  refine g_aload_n E dL_law_868 rfl ?_
  refine g_aload_n E dL_law_869 rfl ?_
  refine g_iload E dL_law_870 rfl ?_
  refine g_iconst E dL_law_872 ?_
  refine g_iadd E dL_law_873 ?_
  refine g_sld E hX hbl hbA (by omega) hL dL_law_874 ?_
  refine g_aload_n E dL_law_875 rfl ?_
  refine g_iload E dL_law_876 rfl ?_
  refine g_iconst E dL_law_878 ?_
  refine g_iadd E dL_law_879 ?_
  refine g_sld E hX hbl hbA (by omega) hL dL_law_880 ?_
  refine g_sw ?_
  refine g_fVi (T := TX5) (ci := 5) (n := 2) (As := [_, _]) (rest := []) E (m_about l D cA _ am (σ 0) th dd kp hLI.1 _ _ (i32_rng _) (i32_rng _)) gL_law_X5_about rfl ⟨rfl, rfl⟩ (by decide +kernel) ⟨Nat.le_of_ble_eq_true rfl, Nat.le_of_ble_eq_true rfl⟩ obM rfl rfl rfl (Nat.le_of_ble_eq_true rfl) ⟨hc.1, hc.2⟩ dL_law_881 ?_
  rintro r2 ws2 hp2
  refine g_sw ?_
  obtain ⟨σ1, g1, dd1, kp1, t1, rfl, rfl, hLI1, hr, hz⟩ := lj2 (by unfold eAbout; split <;> (try split) <;> (try split) <;> (try split) <;> (try split) <;> omega) hp1 hp2 hLI (fun _ => ⟨hLI.1, hLI.2.2⟩)
  refine g_istore E dL_law_884 (by decide) ?_
  refine g_aload_n E dL_law_886 rfl ?_
  refine g_sw ?_
  refine g_fVi (T := TX5) (ci := 5) (n := 0) (As := []) (rest := []) E (m_thrown l D cA _ am (σ1 0) t1 dd1 kp1) gL_law_X5_thrown rfl ⟨rfl, rfl⟩ (by decide +kernel) ⟨Nat.le_of_ble_eq_true rfl, Nat.le_of_ble_eq_true rfl⟩ obM rfl rfl rfl (Nat.le_of_ble_eq_true rfl) ⟨hc.1, hc.2⟩ dL_law_887 ?_
  rintro r3 ws3 ⟨h3, rfl⟩
  obtain rfl : t1 = r3 := h3.symm
  refine g_sw ?_
  refine g_iload E dL_law_890 rfl ?_
  refine g_icmp_eqR (tgt := 897) E dL_law_892 (by decide) (fun _ => ?_) (fun z => absurd hr.symm z)
  refine g_iload E dL_law_897 rfl ?_
  have hend : GW p l e room_1 s m #[Value.ref b] below meth c Q D A 9 ((wX cA ad σ1 ++ oW cA o g1) ++ wM cA am (σ1 0) t1 dd1 kp1) (cells + 3) (slots + 18) 914 [(0, .ref b), (1, .ref (ad 0 8 0)), (2, .ref (am 0)), (3, .ref o), (4, .int (zI i))] [] := by
    refine g_goto (tgt := 1697) E dL_law_914 (by decide) ?_
    exact kk σ1 t1 dd1 kp1 g1 hLI1
  refine g_if_neR (tgt := 914) E dL_law_899 (by decide) (fun _ => ?_) (fun z => ?_)
  · refine g_loc (lv' := [(0, .ref b), (1, .ref (ad 0 8 0)), (2, .ref (am 0)), (3, .ref o), (4, .int (zI i))]) ⟨rfl, rfl, rfl, rfl, rfl, trivial⟩ ?_
    exact hend
  · refine g_aload_n E dL_law_902 rfl ?_
    refine g_iconst E dL_law_903 ?_
    refine g_lald E dL_law_904 ?_
    refine g_iload E dL_law_905 rfl ?_
    refine g_i2l E dL_law_907 ?_
    refine g_lcmp E dL_law_908 ?_
    refine g_if_eqR (tgt := 914) E dL_law_909 (by decide) (fun _ => ?_) (fun z2 => absurd (by rw [(hz z).1, (hz z).2]; simp [lg_cmp]) z2)
    refine g_loc (lv' := [(0, .ref b), (1, .ref (ad 0 8 0)), (2, .ref (am 0)), (3, .ref o), (4, .int (zI i))]) ⟨rfl, rfl, rfl, rfl, rfl, trivial⟩ ?_
    exact hend
set_option maxHeartbeats 1600000 in
set_option maxRecDepth 100000 in
/-- ball -/
theorem case_13 {p : Program} {l : Launch} {e : Env} {s : State} {m : MethodId} {b : Nat} {below : List Frame} {meth : Method} {c : Code} {Q : State → Prop} {D : va_G} {A : Nat → Prop} {cells slots : Nat} {ret0 : Option FieldType} {cA : Nat → ClassId} {ad : Ad} {am : Nat → Nat} {o L : Nat} {xs : Nat → Int32} {σ : Nat → St} {th dd : Int32} {kp : Nat → Nat → Int32} {g : Nat → Int64} {i : Int} (E : GE p s m #[Value.ref b] meth c D (tysX cA) cL_law 9 RL wsL_law ret0) (hl0 : l.stackTraces = false) (Z : gZ A s) (X : gC s) (hX : va_X b L xs s s.heap) (hbl : b < s.heap.size) (hbA : ¬ A b) (hL : L ≤ 2560) (hi : 0 ≤ i ∧ i + 5 ≤ L) (hLI : LI σ dd) (hc : cells + 3 ≤ 601024 ∧ slots + 18 ≤ 7293034) (kk : ∀ (σ' : Nat → St) (th' dd' : Int32) (kp' : Nat → Nat → Int32) (g' : Nat → Int64), LI σ' dd' → GW p l e room_1 s m #[Value.ref b] below meth c Q D A 9 ((wX cA ad σ' ++ oW cA o g') ++ wM cA am (σ' 0) th' dd' kp') (cells + 3) (slots + 18) 1697 [(0, .ref b), (1, .ref (ad 0 8 0)), (2, .ref (am 0)), (3, .ref o), (4, .int (zI i))] []) : GW p l e room_1 s m #[Value.ref b] below meth c Q D A 9 ((wX cA ad σ ++ oW cA o g) ++ wM cA am (σ 0) th dd kp) (cells) (slots) 917 [(0, .ref b), (1, .ref (ad 0 8 0)), (2, .ref (am 0)), (3, .ref o), (4, .int (zI i))] [] := by
  refine g_aload_n E dL_law_917 rfl ?_
  refine g_aload_n E dL_law_918 rfl ?_
  refine g_iload E dL_law_919 rfl ?_
  refine g_iconst E dL_law_921 ?_
  refine g_iadd E dL_law_922 ?_
  refine g_sld E hX hbl hbA (by omega) hL dL_law_923 ?_
  refine g_aload_n E dL_law_924 rfl ?_
  refine g_iload E dL_law_925 rfl ?_
  refine g_iconst E dL_law_927 ?_
  refine g_iadd E dL_law_928 ?_
  refine g_sld E hX hbl hbA (by omega) hL dL_law_929 ?_
  refine g_aload_n E dL_law_930 rfl ?_
  refine g_iload E dL_law_931 rfl ?_
  refine g_iconst E dL_law_933 ?_
  refine g_iadd E dL_law_934 ?_
  refine g_sld E hX hbl hbA (by omega) hL dL_law_935 ?_
  refine g_aload_n E dL_law_936 rfl ?_
  refine g_fW (n := 5) (As := [_, _, _, _, _]) (rest := []) E Z X (l_ball l hl0 D cA _ ad σ o g hLI.1 hLI.2.1 _ _ _ (i32_rng _) (i32_rng _) (i32_rng _)) gL_law_L_ball rfl ⟨rfl, rfl⟩ (by decide +kernel) ⟨Nat.le_of_ble_eq_true rfl, Nat.le_of_ble_eq_true rfl⟩ rfl rfl (Nat.le_of_ble_eq_true rfl) ⟨hc.1, hc.2⟩ dL_law_937 ?_
  rintro r1 ws1 hp1
  refine g_istore E dL_law_940 (by decide) ?_
  refine g_aload_n E dL_law_942 rfl ?_
  refine g_aload_n E dL_law_943 rfl ?_
  refine g_iload E dL_law_944 rfl ?_
  refine g_iconst E dL_law_946 ?_
  refine g_iadd E dL_law_947 ?_
  refine g_sld E hX hbl hbA (by omega) hL dL_law_948 ?_
  refine g_aload_n E dL_law_949 rfl ?_
  refine g_iload E dL_law_950 rfl ?_
  refine g_iconst E dL_law_952 ?_
  refine g_iadd E dL_law_953 ?_
  refine g_sld E hX hbl hbA (by omega) hL dL_law_954 ?_
  refine g_aload_n E dL_law_955 rfl ?_
  refine g_iload E dL_law_956 rfl ?_
  refine g_iconst E dL_law_958 ?_
  refine g_iadd E dL_law_959 ?_
  refine g_sld E hX hbl hbA (by omega) hL dL_law_960 ?_
  refine g_sw ?_
  refine g_fVi (T := TX5) (ci := 5) (n := 3) (As := [_, _, _]) (rest := []) E (m_ball l D cA _ am (σ 0) th dd kp hLI.1 _ _ _ (i32_rng _) (i32_rng _) (i32_rng _)) gL_law_X5_ball rfl ⟨rfl, rfl⟩ (by decide +kernel) ⟨Nat.le_of_ble_eq_true rfl, Nat.le_of_ble_eq_true rfl⟩ obM rfl rfl rfl (Nat.le_of_ble_eq_true rfl) ⟨hc.1, hc.2⟩ dL_law_961 ?_
  rintro r2 ws2 hp2
  refine g_sw ?_
  obtain ⟨σ1, g1, dd1, kp1, t1, rfl, rfl, hLI1, hr, hz⟩ := lj2 (by unfold eBall; split <;> (try split) <;> (try split) <;> (try split) <;> (try split) <;> omega) hp1 hp2 hLI (fun _ => ⟨hLI.1, hLI.2.2⟩)
  refine g_istore E dL_law_964 (by decide) ?_
  refine g_aload_n E dL_law_966 rfl ?_
  refine g_sw ?_
  refine g_fVi (T := TX5) (ci := 5) (n := 0) (As := []) (rest := []) E (m_thrown l D cA _ am (σ1 0) t1 dd1 kp1) gL_law_X5_thrown rfl ⟨rfl, rfl⟩ (by decide +kernel) ⟨Nat.le_of_ble_eq_true rfl, Nat.le_of_ble_eq_true rfl⟩ obM rfl rfl rfl (Nat.le_of_ble_eq_true rfl) ⟨hc.1, hc.2⟩ dL_law_967 ?_
  rintro r3 ws3 ⟨h3, rfl⟩
  obtain rfl : t1 = r3 := h3.symm
  refine g_sw ?_
  refine g_iload E dL_law_970 rfl ?_
  refine g_icmp_eqR (tgt := 977) E dL_law_972 (by decide) (fun _ => ?_) (fun z => absurd hr.symm z)
  refine g_iload E dL_law_977 rfl ?_
  have hend : GW p l e room_1 s m #[Value.ref b] below meth c Q D A 9 ((wX cA ad σ1 ++ oW cA o g1) ++ wM cA am (σ1 0) t1 dd1 kp1) (cells + 3) (slots + 18) 994 [(0, .ref b), (1, .ref (ad 0 8 0)), (2, .ref (am 0)), (3, .ref o), (4, .int (zI i))] [] := by
    refine g_goto (tgt := 1697) E dL_law_994 (by decide) ?_
    exact kk σ1 t1 dd1 kp1 g1 hLI1
  refine g_if_neR (tgt := 994) E dL_law_979 (by decide) (fun _ => ?_) (fun z => ?_)
  · refine g_loc (lv' := [(0, .ref b), (1, .ref (ad 0 8 0)), (2, .ref (am 0)), (3, .ref o), (4, .int (zI i))]) ⟨rfl, rfl, rfl, rfl, rfl, trivial⟩ ?_
    exact hend
  · refine g_aload_n E dL_law_982 rfl ?_
    refine g_iconst E dL_law_983 ?_
    refine g_lald E dL_law_984 ?_
    refine g_iload E dL_law_985 rfl ?_
    refine g_i2l E dL_law_987 ?_
    refine g_lcmp E dL_law_988 ?_
    refine g_if_eqR (tgt := 994) E dL_law_989 (by decide) (fun _ => ?_) (fun z2 => absurd (by rw [(hz z).1, (hz z).2]; simp [lg_cmp]) z2)
    refine g_loc (lv' := [(0, .ref b), (1, .ref (ad 0 8 0)), (2, .ref (am 0)), (3, .ref o), (4, .int (zI i))]) ⟨rfl, rfl, rfl, rfl, rfl, trivial⟩ ?_
    exact hend
