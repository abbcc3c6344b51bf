/-! ===== MODEL: the calls that change ===== -/
theorem up3_same {f : St} {t i j : Nat} {v : Int32} (h : f t i j = v) : up3 f t i j v = f := by
  funext t' i' j'
  rw [up3_e]
  by_cases q : t' = t ∧ i' = i ∧ j' = j
  · rw [if_pos q, q.1, q.2.1, q.2.2, h]
  · rw [if_neg q]
theorem up3_up3 {f : St} {t i j : Nat} {v w : Int32} : up3 (up3 f t i j v) t i j w = up3 f t i j w := by
  funext t' i' j'
  rw [up3_e, up3_e, up3_e]
  by_cases q : t' = t ∧ i' = i ∧ j' = j
  · rw [if_pos q, if_pos q]
  · rw [if_neg q, if_neg q, if_neg q]
theorem up3_comm {f : St} {t i j t2 i2 j2 : Nat} {v w : Int32} (h : ¬ (t = t2 ∧ i = i2 ∧ j = j2)) : up3 (up3 f t i j v) t2 i2 j2 w = up3 (up3 f t2 i2 j2 w) t i j v := by
  funext t' i' j'
  rw [up3_e, up3_e, up3_e, up3_e]
  by_cases q : t' = t ∧ i' = i ∧ j' = j
  · rw [if_neg (show ¬ (t' = t2 ∧ i' = i2 ∧ j' = j2) by omega), if_pos q, if_pos q]
  · rw [if_neg q, if_neg q]
theorem np_s {a : St} {z : Int} (h : -2147483648 ≤ z ∧ z < 2147483648) : np (up3 a 0 0 0 (zI z)) = z := by rw [np, up3_s, zI_toInt h]
theorem nc_s {a : St} {z : Int} (h : -2147483648 ≤ z ∧ z < 2147483648) : nc (up3 a 0 0 1 (zI z)) = z := by rw [nc, up3_s, zI_toInt h]
theorem putS_c {a : St} {p k : Nat} {v w : Int32} : putS (up3 a 5 0 k v) p w = up3 (putS a p w) 5 0 k v := by
  rw [putS, putS, bl_up (by omega), up3_comm (t := 5) (t2 := 2) (by omega), up3_comm (t := 5) (t2 := 1) (by omega)]
theorem putN_c {a : St} {p k : Nat} {v : Int32} : ∀ n : Nat, putN (up3 a 5 0 k v) p n = up3 (putN a p n) 5 0 k v
  | 0 => rfl
  | n + 1 => by rw [putN, putN, putN_c n, putS_c]
theorem stkM (a : St) (p : Nat) (m : Int) : putN (up3 a 5 0 (cal a p).toNat (a 5 0 (cal a p).toNat + -zI m)) p m.toNat = stkS a p m := by
  rw [putN_c, stkS, Int32.sub_eq_add_neg]
theorem putS_t {T : St} {p n : Nat} {v : Int32} (h : n < 1000) : putS (up3 T 1 p 2 (zI (n : Int))) p v = up3 (up3 T 2 p n v) 1 p 2 (zI ((n + 1 : Nat) : Int)) := by
  rw [putS, bl_s (by omega), up3_comm (t := 1) (t2 := 2) (by omega), up3_up3, show ((n : Int)).toNat = n by omega, show ((n + 1 : Nat) : Int) = (n : Int) + 1 by omega]
set_option maxHeartbeats 800000 in
set_option maxRecDepth 100000 in
/-- pile(c, s) -/
theorem m_pile (l : Launch) (D : va_G) (cA : Nat → ClassId) (A : Nat → Prop) (ad : Nat → Nat) (a : St) (th dd : Int32) (kp : Nat → Nat → Int32) (hI : Inv a) (p9 m9 : Int) (hp : R31 p9) (hm : R31 m9) : Met l yX5_pile wsX5_pile ({ frames := 2, cells := 0, slots := 0, locals := 42 }) (PcG D (tysX cA) A (wM cA ad a th dd kp) [.ref (ad 0), .int (zI p9), .int (zI m9)]) (va_Qi (fun (r : Int32) ws' => (ePile a p9 m9 = 0 → r = zI (np a) ∧ ws' = wM cA ad (newP a p9 m9) (zI 0) dd kp) ∧ (¬ ePile a p9 m9 = 0 → ws' = wM cA ad a (zI (ePile a p9 m9)) dd kp)) (gB D A) A) 0 0 A := by
  refine g_met (cc := cX5_pile) (maxL := 3) (ret := (some .int)) (own := RX5) rfl (by decide) rfl (Nat.le_of_ble_eq_true rfl) ?_
  intro p e s m below meth c E
  have hin5 : ∀ w ∈ u_ws RX5 TX5 19, w ∈ wsX5_pile := by decide +kernel
  obtain ⟨⟨hn0, hn6, hc0, hc3⟩, hPI, hCI, hFr⟩ := id hI
  obtain ⟨hp1, hp2⟩ := hp
  obtain ⟨hm1, hm2⟩ := hm
  refine g_loc (lv' := [(0, .ref (ad 0)), (1, .int (zI p9)), (2, .int (zI m9))]) ⟨rfl, rfl, rfl, trivial⟩ ?_
  refine g_aload_n E dX5_pile_0 rfl ?_
  refine g_iconst E dX5_pile_1 ?_
  refine pm_M_thrown E  hin5 (by decide +kernel) dX5_pile_2 ?_
  refine g_iload_n E dX5_pile_5 rfl ?_
  refine g_callTi (n := 1) (As := [_]) (rest := _) E (m_isCalibre l D _ A _ _ (by omega)) gX5_pile_X5_isCalibre rfl ⟨rfl, rfl⟩ (by decide +kernel) ⟨Nat.le_of_ble_eq_true rfl, Nat.le_of_ble_eq_true rfl⟩ rfl rfl (Nat.le_of_ble_eq_true rfl) ⟨Nat.le_of_ble_eq_true rfl, Nat.le_of_ble_eq_true rfl⟩ dX5_pile_6 ?_
  rintro r_6 ws_6 ⟨rfl, rfl⟩
  refine g_if_ne (tgt := 18) E dX5_pile_9 (by decide) (by omega) (fun c_9 => ?_) (fun c_9 => ?_)
  · have hi9 := ite1 c_9
    refine g_iload_n E dX5_pile_18 rfl ?_
    refine g_iconst E dX5_pile_19 ?_
    refine g_bipush E dX5_pile_20 (by decide) ?_
    refine g_callTi (n := 3) (As := [_, _, _]) (rest := _) E (m_isIn l D _ A _ _ _ _ (by omega)) gX5_pile_X5_isIn rfl ⟨rfl, rfl⟩ (by decide +kernel) ⟨Nat.le_of_ble_eq_true rfl, Nat.le_of_ble_eq_true rfl⟩ rfl rfl (Nat.le_of_ble_eq_true rfl) ⟨Nat.le_of_ble_eq_true rfl, Nat.le_of_ble_eq_true rfl⟩ dX5_pile_22 ?_
    rintro r_22 ws_22 ⟨rfl, rfl⟩
    refine g_if_ne (tgt := 34) E dX5_pile_25 (by decide) (by omega) (fun c_25 => ?_) (fun c_25 => ?_)
    · have hi25 := ite1 c_25
      refine g_aload_n E dX5_pile_34 rfl ?_
      refine gm_M_piles E  hin5 (by decide +kernel) dX5_pile_35 ?_
      refine g_bipush E dX5_pile_38 (by decide) ?_
      refine g_icmp_ne (tgt := 49) E dX5_pile_40 (by decide) (by omega) (by omega) (fun c_40 => ?_) (fun c_40 => ?_)
      · refine g_aload_n E dX5_pile_49 rfl ?_
        refine gm_M_calibres E  hin5 (by decide +kernel) dX5_pile_50 ?_
        refine g_aload_n E dX5_pile_53 rfl ?_
        refine gm_M_piles E  hin5 (by decide +kernel) dX5_pile_54 ?_
        refine g_iload_n E dX5_pile_57 rfl ?_
        refine sm_calibres E (by omega) dX5_pile_58 ?_
        refine g_aload_n E dX5_pile_59 rfl ?_
        refine gm_M_sides E  hin5 (by decide +kernel) dX5_pile_60 ?_
        refine g_aload_n E dX5_pile_63 rfl ?_
        refine gm_M_piles E  hin5 (by decide +kernel) dX5_pile_64 ?_
        rw [np_up (by omega)]
        refine g_iload_n E dX5_pile_67 rfl ?_
        refine sm_sides E (by omega) dX5_pile_68 ?_
        refine g_aload_n E dX5_pile_69 rfl ?_
        refine g_dup E dX5_pile_70 rfl ?_
        refine gm_M_piles E  hin5 (by decide +kernel) dX5_pile_71 ?_
        rw [np_up (by omega), np_up (by omega)]
        refine g_iconst E dX5_pile_74 ?_
        refine g_iadd E dX5_pile_75 ?_
        refine pm_M_piles E  hin5 (by decide +kernel) dX5_pile_76 ?_
        have hwe : wM cA ad (up3 (up3 (up3 a 1 (np a).toNat 0 (zI p9)) 1 (np a).toNat 1 (zI m9)) 0 0 0 (zI (np a + 1))) (zI 0) dd kp = wM cA ad (newP a p9 m9) (zI 0) dd kp := by rw [newP, up3_same (t := 1) (i := (np a).toNat) (j := 2) (by rw [up3_n (by omega), up3_n (by omega), (hFr.1 (np a).toNat (by omega) (by omega)).2.2.1, zI_0])]
        refine g_aload_n E dX5_pile_79 rfl ?_
        refine gm_M_piles E  hin5 (by decide +kernel) dX5_pile_80 ?_
        rw [np_s (by omega)]
        refine g_iconst E dX5_pile_83 ?_
        refine g_isub E dX5_pile_84 ?_
        exact g_iret E ((by have hE : ePile a p9 m9 = 0 := (by unfold ePile; repeat (first | rw [if_pos (by omega)] | rw [if_neg (by omega)])); exact ⟨fun _ => ⟨congrArg zI (by omega), hwe⟩, fun z => absurd hE z⟩)) dX5_pile_85
      · refine g_aload_n E dX5_pile_43 rfl ?_
        refine g_iconst E dX5_pile_44 ?_
        refine g_callVi (T := TX5) (ci := 5) (n := 1) (As := [_]) (rest := _) E (m_fail l D cA A ad _ _ _ _ _) gX5_pile_X5_fail rfl ⟨rfl, rfl⟩ (by decide +kernel) ⟨Nat.le_of_ble_eq_true rfl, Nat.le_of_ble_eq_true rfl⟩ obM rfl rfl rfl (Nat.le_of_ble_eq_true rfl) ⟨Nat.le_of_ble_eq_true rfl, Nat.le_of_ble_eq_true rfl⟩ dX5_pile_45 ?_
        rintro r_45 ws_45 ⟨rfl, rfl⟩
        exact g_iret E ((by have hE : ePile a p9 m9 = 3 := (by unfold ePile; repeat (first | rw [if_pos (by omega)] | rw [if_neg (by omega)])); exact ⟨fun z => absurd (hE.symm.trans z) (by decide), fun _ => (by rw [hE])⟩)) dX5_pile_48
    · have hi25 := ite0 c_25
      refine g_aload_n E dX5_pile_28 rfl ?_
      refine g_iconst E dX5_pile_29 ?_
      refine g_callVi (T := TX5) (ci := 5) (n := 1) (As := [_]) (rest := _) E (m_fail l D cA A ad _ _ _ _ _) gX5_pile_X5_fail rfl ⟨rfl, rfl⟩ (by decide +kernel) ⟨Nat.le_of_ble_eq_true rfl, Nat.le_of_ble_eq_true rfl⟩ obM rfl rfl rfl (Nat.le_of_ble_eq_true rfl) ⟨Nat.le_of_ble_eq_true rfl, Nat.le_of_ble_eq_true rfl⟩ dX5_pile_30 ?_
      rintro r_30 ws_30 ⟨rfl, rfl⟩
      exact g_iret E ((by have hE : ePile a p9 m9 = 2 := (by unfold ePile; repeat (first | rw [if_pos (by omega)] | rw [if_neg (by omega)])); exact ⟨fun z => absurd (hE.symm.trans z) (by decide), fun _ => (by rw [hE])⟩)) dX5_pile_33
  · have hi9 := ite0 c_9
    refine g_aload_n E dX5_pile_12 rfl ?_
    refine g_iconst E dX5_pile_13 ?_
    refine g_callVi (T := TX5) (ci := 5) (n := 1) (As := [_]) (rest := _) E (m_fail l D cA A ad _ _ _ _ _) gX5_pile_X5_fail rfl ⟨rfl, rfl⟩ (by decide +kernel) ⟨Nat.le_of_ble_eq_true rfl, Nat.le_of_ble_eq_true rfl⟩ obM rfl rfl rfl (Nat.le_of_ble_eq_true rfl) ⟨Nat.le_of_ble_eq_true rfl, Nat.le_of_ble_eq_true rfl⟩ dX5_pile_14 ?_
    rintro r_14 ws_14 ⟨rfl, rfl⟩
    exact g_iret E ((by have hE : ePile a p9 m9 = 1 := (by unfold ePile; repeat (first | rw [if_pos (by omega)] | rw [if_neg (by omega)])); exact ⟨fun z => absurd (hE.symm.trans z) (by decide), fun _ => (by rw [hE])⟩)) dX5_pile_17
set_option maxHeartbeats 800000 in
set_option maxRecDepth 100000 in
/-- cat(k) -/
theorem m_cat (l : Launch) (D : va_G) (cA : Nat → ClassId) (A : Nat → Prop) (ad : Nat → Nat) (a : St) (th dd : Int32) (kp : Nat → Nat → Int32) (hI : Inv a) (p9 : Int) (hp : R31 p9) : Met l yX5_cat wsX5_cat ({ frames := 1, cells := 0, slots := 0, locals := 22 }) (PcG D (tysX cA) A (wM cA ad a th dd kp) [.ref (ad 0), .int (zI p9)]) (va_Qi (fun (r : Int32) ws' => (eCat a p9 = 0 → r = zI (nc a) ∧ ws' = wM cA ad (newC a p9) (zI 0) dd kp) ∧ (¬ eCat a p9 = 0 → ws' = wM cA ad a (zI (eCat a p9)) dd kp)) (gB D A) A) 0 0 A := by
  refine g_met (cc := cX5_cat) (maxL := 2) (ret := (some .int)) (own := RX5) rfl (by decide) rfl (Nat.le_of_ble_eq_true rfl) ?_
  intro p e s m below meth c E
  have hin5 : ∀ w ∈ u_ws RX5 TX5 19, w ∈ wsX5_cat := by decide +kernel
  obtain ⟨⟨hn0, hn6, hc0, hc3⟩, hPI, hCI, hFr⟩ := id hI
  obtain ⟨hp1, hp2⟩ := hp
  refine g_loc (lv' := [(0, .ref (ad 0)), (1, .int (zI p9))]) ⟨rfl, rfl, trivial⟩ ?_
  refine g_aload_n E dX5_cat_0 rfl ?_
  refine g_iconst E dX5_cat_1 ?_
  refine pm_M_thrown E  hin5 (by decide +kernel) dX5_cat_2 ?_
  refine g_iload_n E dX5_cat_5 rfl ?_
  refine g_iconst E dX5_cat_6 ?_
  refine g_iconst E dX5_cat_7 ?_
  refine g_callTi (n := 3) (As := [_, _, _]) (rest := _) E (m_isIn l D _ A _ _ _ _ (by omega)) gX5_cat_X5_isIn rfl ⟨rfl, rfl⟩ (by decide +kernel) ⟨Nat.le_of_ble_eq_true rfl, Nat.le_of_ble_eq_true rfl⟩ rfl rfl (Nat.le_of_ble_eq_true rfl) ⟨Nat.le_of_ble_eq_true rfl, Nat.le_of_ble_eq_true rfl⟩ dX5_cat_8 ?_
  rintro r_8 ws_8 ⟨rfl, rfl⟩
  refine g_if_ne (tgt := 20) E dX5_cat_11 (by decide) (by omega) (fun c_11 => ?_) (fun c_11 => ?_)
  · have hi11 := ite1 c_11
    refine g_aload_n E dX5_cat_20 rfl ?_
    refine gm_M_cats E  hin5 (by decide +kernel) dX5_cat_21 ?_
    refine g_iconst E dX5_cat_24 ?_
    refine g_icmp_ne (tgt := 34) E dX5_cat_25 (by decide) (by omega) (by omega) (fun c_25 => ?_) (fun c_25 => ?_)
    · have hfc := hFr.2 (nc a).toNat (by omega) (by omega); have hv := zI_ne0 (b := p9) (by omega)
      refine g_aload_n E dX5_cat_34 rfl ?_
      refine gm_M_leaps E  hin5 (by decide +kernel) dX5_cat_35 ?_
      refine g_aload_n E dX5_cat_38 rfl ?_
      refine gm_M_cats E  hin5 (by decide +kernel) dX5_cat_39 ?_
      refine g_iload_n E dX5_cat_42 rfl ?_
      refine sm_leaps E hfc.1 hv (by omega) dX5_cat_43 ?_
      refine g_aload_n E dX5_cat_44 rfl ?_
      refine gm_M_where E  hin5 (by decide +kernel) dX5_cat_45 ?_
      refine g_aload_n E dX5_cat_48 rfl ?_
      refine gm_M_cats E  hin5 (by decide +kernel) dX5_cat_49 ?_
      rw [nc_up (by omega), nc_up (by omega)]
      refine g_iconst E dX5_cat_52 ?_
      first | refine sm_whereN E (by rw [up3_n (by omega), up3_s]; exact hv) (by omega) dX5_cat_53 ?_ | refine sm_where E (by rw [up3_n (by omega), up3_s]; exact hv) (by omega) dX5_cat_53 ?_
      refine g_aload_n E dX5_cat_54 rfl ?_
      refine g_dup E dX5_cat_55 rfl ?_
      refine gm_M_cats E  hin5 (by decide +kernel) dX5_cat_56 ?_
      rw [nc_up (by omega), nc_up (by omega), nc_up (by omega)]
      refine g_iconst E dX5_cat_59 ?_
      refine g_iadd E dX5_cat_60 ?_
      refine pm_M_cats E  hin5 (by decide +kernel) dX5_cat_61 ?_
      have hwe : wM cA ad (up3 (up3 (up3 (up3 a 3 (nc a).toNat 0 (zI p9)) 3 (nc a).toNat 1 0) 3 (nc a).toNat 1 (zI (-1))) 0 0 1 (zI (nc a + 1))) (zI 0) dd kp = wM cA ad (newC a p9) (zI 0) dd kp := by rw [newC, up3_up3, up3_same (t := 3) (i := (nc a).toNat) (j := 1) (by rw [up3_n (by omega)]; exact hfc.2.1)]
      refine g_aload_n E dX5_cat_64 rfl ?_
      refine gm_M_cats E  hin5 (by decide +kernel) dX5_cat_65 ?_
      rw [nc_s (by omega)]
      refine g_iconst E dX5_cat_68 ?_
      refine g_isub E dX5_cat_69 ?_
      exact g_iret E ((by have hE : eCat a p9 = 0 := (by unfold eCat; repeat (first | rw [if_pos (by omega)] | rw [if_neg (by omega)])); exact ⟨fun _ => ⟨congrArg zI (by omega), hwe⟩, fun z => absurd hE z⟩)) dX5_cat_70
    · refine g_aload_n E dX5_cat_28 rfl ?_
      refine g_iconst E dX5_cat_29 ?_
      refine g_callVi (T := TX5) (ci := 5) (n := 1) (As := [_]) (rest := _) E (m_fail l D cA A ad _ _ _ _ _) gX5_cat_X5_fail rfl ⟨rfl, rfl⟩ (by decide +kernel) ⟨Nat.le_of_ble_eq_true rfl, Nat.le_of_ble_eq_true rfl⟩ obM rfl rfl rfl (Nat.le_of_ble_eq_true rfl) ⟨Nat.le_of_ble_eq_true rfl, Nat.le_of_ble_eq_true rfl⟩ dX5_cat_30 ?_
      rintro r_30 ws_30 ⟨rfl, rfl⟩
      exact g_iret E ((by have hE : eCat a p9 = 2 := (by unfold eCat; repeat (first | rw [if_pos (by omega)] | rw [if_neg (by omega)])); exact ⟨fun z => absurd (hE.symm.trans z) (by decide), fun _ => (by rw [hE])⟩)) dX5_cat_33
  · have hi11 := ite0 c_11
    refine g_aload_n E dX5_cat_14 rfl ?_
    refine g_iconst E dX5_cat_15 ?_
    refine g_callVi (T := TX5) (ci := 5) (n := 1) (As := [_]) (rest := _) E (m_fail l D cA A ad _ _ _ _ _) gX5_cat_X5_fail rfl ⟨rfl, rfl⟩ (by decide +kernel) ⟨Nat.le_of_ble_eq_true rfl, Nat.le_of_ble_eq_true rfl⟩ obM rfl rfl rfl (Nat.le_of_ble_eq_true rfl) ⟨Nat.le_of_ble_eq_true rfl, Nat.le_of_ble_eq_true rfl⟩ dX5_cat_16 ?_
    rintro r_16 ws_16 ⟨rfl, rfl⟩
    exact g_iret E ((by have hE : eCat a p9 = 1 := (by unfold eCat; repeat (first | rw [if_pos (by omega)] | rw [if_neg (by omega)])); exact ⟨fun z => absurd (hE.symm.trans z) (by decide), fun _ => (by rw [hE])⟩)) dX5_cat_19
set_option maxHeartbeats 800000 in
set_option maxRecDepth 100000 in
/-- give(c, m) -/
theorem m_give (l : Launch) (D : va_G) (cA : Nat → ClassId) (A : Nat → Prop) (ad : Nat → Nat) (a : St) (th dd : Int32) (kp : Nat → Nat → Int32) (hI : Inv a) (p9 m9 : Int) (hp : R31 p9) (hm : R31 m9) : Met l yX5_give wsX5_give ({ frames := 2, cells := 0, slots := 0, locals := 42 }) (PcG D (tysX cA) A (wM cA ad a th dd kp) [.ref (ad 0), .int (zI p9), .int (zI m9)]) (va_Qi (fun (r : Int32) ws' => (eGive p9 m9 = 0 → r = givS a p9 m9 5 0 p9.toNat ∧ ws' = wM cA ad (givS a p9 m9) (zI 0) dd kp) ∧ (¬ eGive p9 m9 = 0 → ws' = wM cA ad a (zI (eGive p9 m9)) dd kp)) (gB D A) A) 0 0 A := by
  refine g_met (cc := cX5_give) (maxL := 3) (ret := (some .int)) (own := RX5) rfl (by decide) rfl (Nat.le_of_ble_eq_true rfl) ?_
  intro p e s m below meth c E
  have hin5 : ∀ w ∈ u_ws RX5 TX5 19, w ∈ wsX5_give := by decide +kernel
  obtain ⟨⟨hn0, hn6, hc0, hc3⟩, hPI, hCI, hFr⟩ := id hI
  obtain ⟨hp1, hp2⟩ := hp
  obtain ⟨hm1, hm2⟩ := hm
  refine g_loc (lv' := [(0, .ref (ad 0)), (1, .int (zI p9)), (2, .int (zI m9))]) ⟨rfl, rfl, rfl, trivial⟩ ?_
  refine g_aload_n E dX5_give_0 rfl ?_
  refine g_iconst E dX5_give_1 ?_
  refine pm_M_thrown E  hin5 (by decide +kernel) dX5_give_2 ?_
  refine g_iload_n E dX5_give_5 rfl ?_
  refine g_callTi (n := 1) (As := [_]) (rest := _) E (m_isCalibre l D _ A _ _ (by omega)) gX5_give_X5_isCalibre rfl ⟨rfl, rfl⟩ (by decide +kernel) ⟨Nat.le_of_ble_eq_true rfl, Nat.le_of_ble_eq_true rfl⟩ rfl rfl (Nat.le_of_ble_eq_true rfl) ⟨Nat.le_of_ble_eq_true rfl, Nat.le_of_ble_eq_true rfl⟩ dX5_give_6 ?_
  rintro r_6 ws_6 ⟨rfl, rfl⟩
  refine g_if_ne (tgt := 18) E dX5_give_9 (by decide) (by omega) (fun c_9 => ?_) (fun c_9 => ?_)
  · have hi9 := ite1 c_9; obtain ⟨q9, rfl⟩ := Int.eq_ofNat_of_zero_le (show 0 ≤ p9 by omega)
    refine g_iload_n E dX5_give_18 rfl ?_
    refine g_iconst E dX5_give_19 ?_
    refine g_bipush E dX5_give_20 (by decide) ?_
    refine g_callTi (n := 3) (As := [_, _, _]) (rest := _) E (m_isIn l D _ A _ _ _ _ (by omega)) gX5_give_X5_isIn rfl ⟨rfl, rfl⟩ (by decide +kernel) ⟨Nat.le_of_ble_eq_true rfl, Nat.le_of_ble_eq_true rfl⟩ rfl rfl (Nat.le_of_ble_eq_true rfl) ⟨Nat.le_of_ble_eq_true rfl, Nat.le_of_ble_eq_true rfl⟩ dX5_give_22 ?_
    rintro r_22 ws_22 ⟨rfl, rfl⟩
    refine g_if_ne (tgt := 34) E dX5_give_25 (by decide) (by omega) (fun c_25 => ?_) (fun c_25 => ?_)
    · have hi25 := ite1 c_25
      refine g_aload_n E dX5_give_34 rfl ?_
      refine g_iload_n E dX5_give_35 rfl ?_
      refine g_iconst E dX5_give_36 ?_
      refine g_iload_n E dX5_give_37 rfl ?_
      refine g_callVv (T := TX5) (ci := 5) (n := 3) (As := [_, _, _]) (rest := _) E (m_more l D cA A ad _ _ _ _ q9 (by omega) 0 (by decide) (zI m9)) gX5_give_X5_more rfl ⟨rfl, rfl⟩ (by decide +kernel) ⟨Nat.le_of_ble_eq_true rfl, Nat.le_of_ble_eq_true rfl⟩ obM rfl rfl rfl (Nat.le_of_ble_eq_true rfl) ⟨Nat.le_of_ble_eq_true rfl, Nat.le_of_ble_eq_true rfl⟩ dX5_give_38 ?_
      rintro ws_38 rfl
      refine g_aload_n E dX5_give_41 rfl ?_
      refine gm_M_numbers E  hin5 (by decide +kernel) dX5_give_42 ?_
      refine g_iconst E dX5_give_45 ?_
      refine g_iload_n E dX5_give_46 rfl ?_
      refine g_imul E dX5_give_47 ?_
      refine g_iconst E dX5_give_48 ?_
      refine g_iadd E dX5_give_49 ?_
      refine lm_numbers (c9 := q9) (w9 := 0) E ⟨by omega, by omega⟩ (by omega) dX5_give_50 ?_
      exact g_iret E ((by have hE : eGive (q9 : Int) m9 = 0 := (by unfold eGive; repeat (first | rw [if_pos (by omega)] | rw [if_neg (by omega)])); exact ⟨fun _ => ⟨rfl, rfl⟩, fun z => absurd hE z⟩)) dX5_give_51
    · have hi25 := ite0 c_25
      refine g_aload_n E dX5_give_28 rfl ?_
      refine g_iconst E dX5_give_29 ?_
      refine g_callVi (T := TX5) (ci := 5) (n := 1) (As := [_]) (rest := _) E (m_fail l D cA A ad _ _ _ _ _) gX5_give_X5_fail rfl ⟨rfl, rfl⟩ (by decide +kernel) ⟨Nat.le_of_ble_eq_true rfl, Nat.le_of_ble_eq_true rfl⟩ obM rfl rfl rfl (Nat.le_of_ble_eq_true rfl) ⟨Nat.le_of_ble_eq_true rfl, Nat.le_of_ble_eq_true rfl⟩ dX5_give_30 ?_
      rintro r_30 ws_30 ⟨rfl, rfl⟩
      exact g_iret E ((by have hE : eGive (q9 : Int) m9 = 2 := (by unfold eGive; repeat (first | rw [if_pos (by omega)] | rw [if_neg (by omega)])); exact ⟨fun z => absurd (hE.symm.trans z) (by decide), fun _ => (by rw [hE])⟩)) dX5_give_33
  · have hi9 := ite0 c_9
    refine g_aload_n E dX5_give_12 rfl ?_
    refine g_iconst E dX5_give_13 ?_
    refine g_callVi (T := TX5) (ci := 5) (n := 1) (As := [_]) (rest := _) E (m_fail l D cA A ad _ _ _ _ _) gX5_give_X5_fail rfl ⟨rfl, rfl⟩ (by decide +kernel) ⟨Nat.le_of_ble_eq_true rfl, Nat.le_of_ble_eq_true rfl⟩ obM rfl rfl rfl (Nat.le_of_ble_eq_true rfl) ⟨Nat.le_of_ble_eq_true rfl, Nat.le_of_ble_eq_true rfl⟩ dX5_give_14 ?_
    rintro r_14 ws_14 ⟨rfl, rfl⟩
    exact g_iret E ((by have hE : eGive p9 m9 = 1 := (by unfold eGive; repeat (first | rw [if_pos (by omega)] | rw [if_neg (by omega)])); exact ⟨fun z => absurd (hE.symm.trans z) (by decide), fun _ => (by rw [hE])⟩)) dX5_give_17
set_option maxHeartbeats 800000 in
set_option maxRecDepth 100000 in
/-- setRain(v) -/
theorem m_setRain (l : Launch) (D : va_G) (cA : Nat → ClassId) (A : Nat → Prop) (ad : Nat → Nat) (a : St) (th dd : Int32) (kp : Nat → Nat → Int32) (hI : Inv a) (p9 : Int) (hp : R31 p9) : Met l yX5_setRain wsX5_setRain ({ frames := 1, cells := 0, slots := 0, locals := 22 }) (PcG D (tysX cA) A (wM cA ad a th dd kp) [.ref (ad 0), .int (zI p9)]) (va_Qi (fun (r : Int32) ws' => (eIn 0 3 p9 = 0 → r = a 0 0 3 ∧ ws' = wM cA ad (up3 a 0 0 3 (zI p9)) (zI 0) dd kp) ∧ (¬ eIn 0 3 p9 = 0 → ws' = wM cA ad a (zI (eIn 0 3 p9)) dd kp)) (gB D A) A) 0 0 A := by
  refine g_met (cc := cX5_setRain) (maxL := 3) (ret := (some .int)) (own := RX5) rfl (by decide) rfl (Nat.le_of_ble_eq_true rfl) ?_
  intro p e s m below meth c E
  have hin5 : ∀ w ∈ u_ws RX5 TX5 19, w ∈ wsX5_setRain := by decide +kernel
  obtain ⟨⟨hn0, hn6, hc0, hc3⟩, hPI, hCI, hFr⟩ := id hI
  obtain ⟨hp1, hp2⟩ := hp
  refine g_loc (lv' := [(0, .ref (ad 0)), (1, .int (zI p9))]) ⟨rfl, rfl, trivial⟩ ?_
  refine g_aload_n E dX5_setRain_0 rfl ?_
  refine g_iconst E dX5_setRain_1 ?_
  refine pm_M_thrown E  hin5 (by decide +kernel) dX5_setRain_2 ?_
  refine g_iload_n E dX5_setRain_5 rfl ?_
  refine g_iconst E dX5_setRain_6 ?_
  refine g_iconst E dX5_setRain_7 ?_
  refine g_callTi (n := 3) (As := [_, _, _]) (rest := _) E (m_isIn l D _ A _ _ _ _ (by omega)) gX5_setRain_X5_isIn rfl ⟨rfl, rfl⟩ (by decide +kernel) ⟨Nat.le_of_ble_eq_true rfl, Nat.le_of_ble_eq_true rfl⟩ rfl rfl (Nat.le_of_ble_eq_true rfl) ⟨Nat.le_of_ble_eq_true rfl, Nat.le_of_ble_eq_true rfl⟩ dX5_setRain_8 ?_
  rintro r_8 ws_8 ⟨rfl, rfl⟩
  refine g_if_ne (tgt := 20) E dX5_setRain_11 (by decide) (by omega) (fun c_11 => ?_) (fun c_11 => ?_)
  · have hi11 := ite1 c_11
    refine g_aload_n E dX5_setRain_20 rfl ?_
    refine gm_M_rain E  hin5 (by decide +kernel) dX5_setRain_21 ?_
    refine g_istore_n E dX5_setRain_24 (by decide) ?_
    refine g_aload_n E dX5_setRain_25 rfl ?_
    refine g_iload_n E dX5_setRain_26 rfl ?_
    refine pm_M_rain E  hin5 (by decide +kernel) dX5_setRain_27 ?_
    refine g_iload_n E dX5_setRain_30 rfl ?_
    exact g_iret E ((by have hE : eIn 0 3 p9 = 0 := (by unfold eIn; repeat (first | rw [if_pos (by omega)] | rw [if_neg (by omega)])); exact ⟨fun _ => ⟨rfl, rfl⟩, fun z => absurd hE z⟩)) dX5_setRain_31
  · have hi11 := ite0 c_11
    refine g_aload_n E dX5_setRain_14 rfl ?_
    refine g_iconst E dX5_setRain_15 ?_
    refine g_callVi (T := TX5) (ci := 5) (n := 1) (As := [_]) (rest := _) E (m_fail l D cA A ad _ _ _ _ _) gX5_setRain_X5_fail rfl ⟨rfl, rfl⟩ (by decide +kernel) ⟨Nat.le_of_ble_eq_true rfl, Nat.le_of_ble_eq_true rfl⟩ obM rfl rfl rfl (Nat.le_of_ble_eq_true rfl) ⟨Nat.le_of_ble_eq_true rfl, Nat.le_of_ble_eq_true rfl⟩ dX5_setRain_16 ?_
    rintro r_16 ws_16 ⟨rfl, rfl⟩
    exact g_iret E ((by have hE : eIn 0 3 p9 = 1 := (by unfold eIn; repeat (first | rw [if_pos (by omega)] | rw [if_neg (by omega)])); exact ⟨fun z => absurd (hE.symm.trans z) (by decide), fun _ => (by rw [hE])⟩)) dX5_setRain_19
set_option maxHeartbeats 800000 in
set_option maxRecDepth 100000 in
/-- setLimit(v) -/
theorem m_setLimit (l : Launch) (D : va_G) (cA : Nat → ClassId) (A : Nat → Prop) (ad : Nat → Nat) (a : St) (th dd : Int32) (kp : Nat → Nat → Int32) (hI : Inv a) (p9 : Int) (hp : R31 p9) : Met l yX5_setLimit wsX5_setLimit ({ frames := 1, cells := 0, slots := 0, locals := 22 }) (PcG D (tysX cA) A (wM cA ad a th dd kp) [.ref (ad 0), .int (zI p9)]) (va_Qi (fun (r : Int32) ws' => (eIn 1 9 p9 = 0 → r = a 0 0 4 ∧ ws' = wM cA ad (up3 a 0 0 4 (zI p9)) (zI 0) dd kp) ∧ (¬ eIn 1 9 p9 = 0 → ws' = wM cA ad a (zI (eIn 1 9 p9)) dd kp)) (gB D A) A) 0 0 A := by
  refine g_met (cc := cX5_setLimit) (maxL := 3) (ret := (some .int)) (own := RX5) rfl (by decide) rfl (Nat.le_of_ble_eq_true rfl) ?_
  intro p e s m below meth c E
  have hin5 : ∀ w ∈ u_ws RX5 TX5 19, w ∈ wsX5_setLimit := by decide +kernel
  obtain ⟨⟨hn0, hn6, hc0, hc3⟩, hPI, hCI, hFr⟩ := id hI
  obtain ⟨hp1, hp2⟩ := hp
  refine g_loc (lv' := [(0, .ref (ad 0)), (1, .int (zI p9))]) ⟨rfl, rfl, trivial⟩ ?_
  refine g_aload_n E dX5_setLimit_0 rfl ?_
  refine g_iconst E dX5_setLimit_1 ?_
  refine pm_M_thrown E  hin5 (by decide +kernel) dX5_setLimit_2 ?_
  refine g_iload_n E dX5_setLimit_5 rfl ?_
  refine g_iconst E dX5_setLimit_6 ?_
  refine g_bipush E dX5_setLimit_7 (by decide) ?_
  refine g_callTi (n := 3) (As := [_, _, _]) (rest := _) E (m_isIn l D _ A _ _ _ _ (by omega)) gX5_setLimit_X5_isIn rfl ⟨rfl, rfl⟩ (by decide +kernel) ⟨Nat.le_of_ble_eq_true rfl, Nat.le_of_ble_eq_true rfl⟩ rfl rfl (Nat.le_of_ble_eq_true rfl) ⟨Nat.le_of_ble_eq_true rfl, Nat.le_of_ble_eq_true rfl⟩ dX5_setLimit_9 ?_
  rintro r_9 ws_9 ⟨rfl, rfl⟩
  refine g_if_ne (tgt := 21) E dX5_setLimit_12 (by decide) (by omega) (fun c_12 => ?_) (fun c_12 => ?_)
  · have hi12 := ite1 c_12
    refine g_aload_n E dX5_setLimit_21 rfl ?_
    refine gm_M_limit E  hin5 (by decide +kernel) dX5_setLimit_22 ?_
    refine g_istore_n E dX5_setLimit_25 (by decide) ?_
    refine g_aload_n E dX5_setLimit_26 rfl ?_
    refine g_iload_n E dX5_setLimit_27 rfl ?_
    refine pm_M_limit E  hin5 (by decide +kernel) dX5_setLimit_28 ?_
    refine g_iload_n E dX5_setLimit_31 rfl ?_
    exact g_iret E ((by have hE : eIn 1 9 p9 = 0 := (by unfold eIn; repeat (first | rw [if_pos (by omega)] | rw [if_neg (by omega)])); exact ⟨fun _ => ⟨rfl, rfl⟩, fun z => absurd hE z⟩)) dX5_setLimit_32
  · have hi12 := ite0 c_12
    refine g_aload_n E dX5_setLimit_15 rfl ?_
    refine g_iconst E dX5_setLimit_16 ?_
    refine g_callVi (T := TX5) (ci := 5) (n := 1) (As := [_]) (rest := _) E (m_fail l D cA A ad _ _ _ _ _) gX5_setLimit_X5_fail rfl ⟨rfl, rfl⟩ (by decide +kernel) ⟨Nat.le_of_ble_eq_true rfl, Nat.le_of_ble_eq_true rfl⟩ obM rfl rfl rfl (Nat.le_of_ble_eq_true rfl) ⟨Nat.le_of_ble_eq_true rfl, Nat.le_of_ble_eq_true rfl⟩ dX5_setLimit_17 ?_
    rintro r_17 ws_17 ⟨rfl, rfl⟩
    exact g_iret E ((by have hE : eIn 1 9 p9 = 1 := (by unfold eIn; repeat (first | rw [if_pos (by omega)] | rw [if_neg (by omega)])); exact ⟨fun z => absurd (hE.symm.trans z) (by decide), fun _ => (by rw [hE])⟩)) dX5_setLimit_20
set_option maxHeartbeats 800000 in
set_option maxRecDepth 100000 in
/-- stack(p, m) -/
theorem m_stack (l : Launch) (D : va_G) (cA : Nat → ClassId) (A : Nat → Prop) (ad : Nat → Nat) (a : St) (th dd : Int32) (kp : Nat → Nat → Int32) (hI : Inv a) (p9 m9 : Int) (hp : R31 p9) (hm : R31 m9) : Met l yX5_stack wsX5_stack ({ frames := 2, cells := 0, slots := 0, locals := 43 }) (PcG D (tysX cA) A (wM cA ad a th dd kp) [.ref (ad 0), .int (zI p9), .int (zI m9)]) (va_Qi (fun (r : Int32) ws' => (eStack a p9 m9 = 0 → r = zI (bl a p9.toNat + m9) ∧ ws' = wM cA ad (stkS a p9.toNat m9) (zI 0) dd kp) ∧ (¬ eStack a p9 m9 = 0 → ws' = wM cA ad a (zI (eStack a p9 m9)) dd kp)) (gB D A) A) 0 0 A := by
  refine g_met (cc := cX5_stack) (maxL := 4) (ret := (some .int)) (own := RX5) rfl (by decide) rfl (Nat.le_of_ble_eq_true rfl) ?_
  intro p e s m below meth c E
  have hin5 : ∀ w ∈ u_ws RX5 TX5 19, w ∈ wsX5_stack := by decide +kernel
  obtain ⟨⟨hn0, hn6, hc0, hc3⟩, hPI, hCI, hFr⟩ := id hI
  obtain ⟨hp1, hp2⟩ := hp
  obtain ⟨hm1, hm2⟩ := hm
  refine g_loc (lv' := [(0, .ref (ad 0)), (1, .int (zI p9)), (2, .int (zI m9))]) ⟨rfl, rfl, rfl, trivial⟩ ?_
  refine g_aload_n E dX5_stack_0 rfl ?_
  refine g_iconst E dX5_stack_1 ?_
  refine pm_M_thrown E  hin5 (by decide +kernel) dX5_stack_2 ?_
  refine g_aload_n E dX5_stack_5 rfl ?_
  refine g_iload_n E dX5_stack_6 rfl ?_
  refine g_callVi (T := TX5) (ci := 5) (n := 1) (As := [_]) (rest := _) E (m_isPile l D cA A ad _ _ _ _ _ (by omega) (by omega)) gX5_stack_X5_isPile rfl ⟨rfl, rfl⟩ (by decide +kernel) ⟨Nat.le_of_ble_eq_true rfl, Nat.le_of_ble_eq_true rfl⟩ obM rfl rfl rfl (Nat.le_of_ble_eq_true rfl) ⟨Nat.le_of_ble_eq_true rfl, Nat.le_of_ble_eq_true rfl⟩ dX5_stack_7 ?_
  rintro r_7 ws_7 ⟨rfl, rfl⟩
  refine g_if_ne (tgt := 19) E dX5_stack_10 (by decide) (by omega) (fun c_10 => ?_) (fun c_10 => ?_)
  · have hi10 := ite1 c_10; obtain ⟨q9, rfl⟩ := Int.eq_ofNat_of_zero_le (show 0 ≤ p9 by omega); have hPC := hPI q9 (by omega); have hPO := hPC.1; have hcl := hPC.2; have hPb := hPO; unfold PO at hPb; have hsq := sq_le (e := sd a q9) (by omega)
    refine g_iload_n E dX5_stack_19 rfl ?_
    refine g_iconst E dX5_stack_20 ?_
    refine g_bipush E dX5_stack_21 (by decide) ?_
    refine g_callTi (n := 3) (As := [_, _, _]) (rest := _) E (m_isIn l D _ A _ _ _ _ (by omega)) gX5_stack_X5_isIn rfl ⟨rfl, rfl⟩ (by decide +kernel) ⟨Nat.le_of_ble_eq_true rfl, Nat.le_of_ble_eq_true rfl⟩ rfl rfl (Nat.le_of_ble_eq_true rfl) ⟨Nat.le_of_ble_eq_true rfl, Nat.le_of_ble_eq_true rfl⟩ dX5_stack_23 ?_
    rintro r_23 ws_23 ⟨rfl, rfl⟩
    refine g_if_ne (tgt := 35) E dX5_stack_26 (by decide) (by omega) (fun c_26 => ?_) (fun c_26 => ?_)
    · have hi26 := ite1 c_26
      refine g_aload_n E dX5_stack_35 rfl ?_
      refine g_iload_n E dX5_stack_36 rfl ?_
      refine g_iconst E dX5_stack_37 ?_
      refine g_callVi (T := TX5) (ci := 5) (n := 2) (As := [_, _]) (rest := _) E (m_of l D cA A ad _ _ _ _ q9 (by omega) 0 (by decide) (by omega)) gX5_stack_X5_of rfl ⟨rfl, rfl⟩ (by decide +kernel) ⟨Nat.le_of_ble_eq_true rfl, Nat.le_of_ble_eq_true rfl⟩ obM rfl rfl rfl (Nat.le_of_ble_eq_true rfl) ⟨Nat.le_of_ble_eq_true rfl, Nat.le_of_ble_eq_true rfl⟩ dX5_stack_38 ?_
      rintro r_38 ws_38 ⟨rfl, rfl⟩
      refine g_iload_n E dX5_stack_41 rfl ?_
      refine g_icmp_ltR (tgt := 54) E dX5_stack_42 (by decide) (fun c_42 => ?_) (fun c_42 => ?_)
      · refine g_aload_n E dX5_stack_54 rfl ?_
        refine g_iconst E dX5_stack_55 ?_
        refine g_callVi (T := TX5) (ci := 5) (n := 1) (As := [_]) (rest := _) E (m_fail l D cA A ad _ _ _ _ _) gX5_stack_X5_fail rfl ⟨rfl, rfl⟩ (by decide +kernel) ⟨Nat.le_of_ble_eq_true rfl, Nat.le_of_ble_eq_true rfl⟩ obM rfl rfl rfl (Nat.le_of_ble_eq_true rfl) ⟨Nat.le_of_ble_eq_true rfl, Nat.le_of_ble_eq_true rfl⟩ dX5_stack_56 ?_
        rintro r_56 ws_56 ⟨rfl, rfl⟩
        exact g_iret E ((by have hE : eStack a (q9 : Int) m9 = 3 := (by unfold eStack; rw [if_neg (by omega), if_neg (by omega), if_pos (by first | exact Or.inl c_42 | exact Or.inr (by show sq (sd a q9) - bl a q9 < m9; omega))]); exact ⟨fun z => absurd (hE.symm.trans z) (by decide), fun _ => (by rw [hE])⟩)) dX5_stack_59
      · refine g_aload_n E dX5_stack_45 rfl ?_
        refine g_iload_n E dX5_stack_46 rfl ?_
        refine g_callVi (T := TX5) (ci := 5) (n := 1) (As := [_]) (rest := _) E (m_left l D cA A ad _ _ _ _ _ (by omega) hPO) gX5_stack_X5_left rfl ⟨rfl, rfl⟩ (by decide +kernel) ⟨Nat.le_of_ble_eq_true rfl, Nat.le_of_ble_eq_true rfl⟩ obM rfl rfl rfl (Nat.le_of_ble_eq_true rfl) ⟨Nat.le_of_ble_eq_true rfl, Nat.le_of_ble_eq_true rfl⟩ dX5_stack_47 ?_
        rintro r_47 ws_47 ⟨rfl, rfl⟩
        refine g_iload_n E dX5_stack_50 rfl ?_
        refine g_icmp_ge (tgt := 60) E dX5_stack_51 (by decide) (by omega) (by omega) (fun c_51 => ?_) (fun c_51 => ?_)
        · have hIb : Inv (up3 a 5 0 (cal a q9).toNat (a 5 0 (cal a q9).toNat + -zI m9)) := hI.up (by omega) (by decide) (by omega) (by omega) (by omega); have hbb : bl (up3 a 5 0 (cal a q9).toNat (a 5 0 (cal a q9).toNat + -zI m9)) q9 = bl a q9 := bl_up (by omega); have hsb : sd (up3 a 5 0 (cal a q9).toNat (a 5 0 (cal a q9).toNat + -zI m9)) q9 = sd a q9 := sd_up (by omega); have hss : sq (sd (up3 a 5 0 (cal a q9).toNat (a 5 0 (cal a q9).toNat + -zI m9)) q9) = sq (sd a q9) := congrArg sq hsb; have hnb : np (up3 a 5 0 (cal a q9).toNat (a 5 0 (cal a q9).toNat + -zI m9)) = np a := np_up (by omega)
          refine g_aload_n E dX5_stack_60 rfl ?_
          refine g_aload_n E dX5_stack_61 rfl ?_
          refine gm_M_calibres E  hin5 (by decide +kernel) dX5_stack_62 ?_
          refine g_iload_n E dX5_stack_65 rfl ?_
          first | refine lm_calibresN E (by omega) dX5_stack_66 ?_ | refine lm_calibres E (by omega) dX5_stack_66 ?_
          refine g_top (v' := .int (zI ((cal a q9).toNat : Int))) (by rw [show ((cal a q9).toNat : Int) = cal a q9 by omega]) ?_
          refine g_iconst E dX5_stack_67 ?_
          refine g_iload_n E dX5_stack_68 rfl ?_
          refine g_ineg E dX5_stack_69 ?_
          refine g_callVv (T := TX5) (ci := 5) (n := 3) (As := [_, _, _]) (rest := _) E (m_more l D cA A ad _ _ _ _ (cal a q9).toNat (by omega) 0 (by decide) (-zI m9)) gX5_stack_X5_more rfl ⟨rfl, rfl⟩ (by decide +kernel) ⟨Nat.le_of_ble_eq_true rfl, Nat.le_of_ble_eq_true rfl⟩ obM rfl rfl rfl (Nat.le_of_ble_eq_true rfl) ⟨Nat.le_of_ble_eq_true rfl, Nat.le_of_ble_eq_true rfl⟩ dX5_stack_70 ?_
          rintro ws_70 rfl
          refine g_iconst E dX5_stack_73 ?_
          refine g_istore_n E dX5_stack_74 (by decide) ?_
          have key_kk : ∀ (n_kk kk : Nat), (kk : Int) ≤ m9 → m9 + 1 ≤ (kk : Int) + n_kk → GW p l e (headSpec wsX5_stack ({ frames := 2, cells := 0, slots := 0, locals := 43 })).room s m ([.ref (ad 0), .int (zI (q9 : Int)), .int (zI m9)] : List Value).toArray below meth c (MQ below (va_Qi (fun (r : Int32) ws' => (eStack a (q9 : Int) m9 = 0 → r = zI (bl a (q9 : Int).toNat + m9) ∧ ws' = wM cA ad (stkS a (q9 : Int).toNat m9) (zI 0) dd kp) ∧ (¬ eStack a (q9 : Int) m9 = 0 → ws' = wM cA ad a (zI (eStack a (q9 : Int) m9)) dd kp)) (gB D A) A) ([.ref (ad 0), .int (zI (q9 : Int)), .int (zI m9)] : List Value).toArray s 0 0 A) D A 4 (wM cA ad (putN (up3 a 5 0 (cal a q9).toNat (a 5 0 (cal a q9).toNat + -zI m9)) q9 kk) (zI 0) dd kp) 0 0 75 [(0, .ref (ad 0)), (1, .int (zI (q9 : Int))), (2, .int (zI m9)), (3, .int (zI (kk : Int)))] [] := by
            intro n_kk
            induction n_kk with
            | zero => intro kk h1 h2; exact absurd h2 (by omega)
            | succ n_kk ih_kk =>
              intro kk hle_kk hfu_kk
              obtain ⟨k1, k2, k3, k4, k5, k6⟩ := putN_i hIb (p := q9) (by omega) kk (by omega)
              refine g_iload_n E dX5_stack_75 rfl ?_
              refine g_iload_n E dX5_stack_76 rfl ?_
              refine g_icmp_ge (tgt := 92) E dX5_stack_77 (by decide) (by omega) (by omega) (fun c_77 => ?_) (fun c_77 => ?_)
              · obtain rfl : kk = m9.toNat := by omega
                refine g_aload_n E dX5_stack_92 rfl ?_
                refine gm_M_many E  hin5 (by decide +kernel) dX5_stack_93 ?_
                refine g_iload_n E dX5_stack_96 rfl ?_
                first | refine lm_manyN E (by omega) dX5_stack_97 ?_ | refine lm_many E (by omega) dX5_stack_97 ?_
                exact g_iret E ((by have hE : eStack a (q9 : Int) m9 = 0 := (by unfold eStack; rw [if_neg (by omega), if_neg (by omega), if_neg (fun z => z.elim c_42 (fun z2 => absurd (show sq (sd a q9) - bl a q9 < m9 from z2) (by omega)))]); exact ⟨fun _ => ⟨congrArg zI (by show _ = bl a q9 + m9; omega), congrArg (fun q => wM cA ad q (zI 0) dd kp) (stkM a q9 m9)⟩, fun z => absurd hE z⟩)) dX5_stack_98
              · refine g_aload_n E dX5_stack_80 rfl ?_
                refine g_iload_n E dX5_stack_81 rfl ?_
                refine g_iconst E dX5_stack_82 ?_
                refine g_callVv (T := TX5) (ci := 5) (n := 2) (As := [_, _]) (rest := _) E (m_put l D cA A ad (putN (up3 a 5 0 (cal a q9).toNat (a 5 0 (cal a q9).toNat + -zI m9)) q9 kk) _ _ _ q9 (by omega) (k1.2.1 _ (by omega)).1 (zI 0) (by omega)) gX5_stack_X5_put rfl ⟨rfl, rfl⟩ (by decide +kernel) ⟨Nat.le_of_ble_eq_true rfl, Nat.le_of_ble_eq_true rfl⟩ obM rfl rfl rfl (Nat.le_of_ble_eq_true rfl) ⟨Nat.le_of_ble_eq_true rfl, Nat.le_of_ble_eq_true rfl⟩ dX5_stack_83 ?_
                rintro ws_83 rfl
                refine g_iinc E dX5_stack_86 rfl (by decide) ?_
                refine g_goto (tgt := 75) E dX5_stack_89 (by decide) ?_
                refine g_st (ws' := wM cA ad (putN (up3 a 5 0 (cal a q9).toNat (a 5 0 (cal a q9).toNat + -zI m9)) q9 (kk + 1)) (zI 0) dd kp) (rfl) rfl rfl ?_
                refine g_loc (lv' := [(0, .ref (ad 0)), (1, .int (zI (q9 : Int))), (2, .int (zI m9)), (3, .int (zI ((kk + 1) : Int)))]) ⟨rfl, rfl, rfl, rfl, trivial⟩ ?_
                exact ih_kk (kk + 1) (by omega) (by omega)
          refine g_st (ws' := wM cA ad (putN (up3 a 5 0 (cal a q9).toNat (a 5 0 (cal a q9).toNat + -zI m9)) q9 0) (zI 0) dd kp) (rfl) rfl rfl ?_
          refine g_loc (lv' := [(0, .ref (ad 0)), (1, .int (zI (q9 : Int))), (2, .int (zI m9)), (3, .int (zI (0 : Int)))]) ⟨rfl, rfl, rfl, rfl, trivial⟩ ?_
          exact key_kk ((m9) + 1).toNat.succ 0 (by omega) (by omega)
        · refine g_aload_n E dX5_stack_54 rfl ?_
          refine g_iconst E dX5_stack_55 ?_
          refine g_callVi (T := TX5) (ci := 5) (n := 1) (As := [_]) (rest := _) E (m_fail l D cA A ad _ _ _ _ _) gX5_stack_X5_fail rfl ⟨rfl, rfl⟩ (by decide +kernel) ⟨Nat.le_of_ble_eq_true rfl, Nat.le_of_ble_eq_true rfl⟩ obM rfl rfl rfl (Nat.le_of_ble_eq_true rfl) ⟨Nat.le_of_ble_eq_true rfl, Nat.le_of_ble_eq_true rfl⟩ dX5_stack_56 ?_
          rintro r_56 ws_56 ⟨rfl, rfl⟩
          exact g_iret E ((by have hE : eStack a (q9 : Int) m9 = 3 := (by unfold eStack; rw [if_neg (by omega), if_neg (by omega), if_pos (by first | exact Or.inl c_42 | exact Or.inr (by show sq (sd a q9) - bl a q9 < m9; omega))]); exact ⟨fun z => absurd (hE.symm.trans z) (by decide), fun _ => (by rw [hE])⟩)) dX5_stack_59
    · have hi26 := ite0 c_26
      refine g_aload_n E dX5_stack_29 rfl ?_
      refine g_iconst E dX5_stack_30 ?_
      refine g_callVi (T := TX5) (ci := 5) (n := 1) (As := [_]) (rest := _) E (m_fail l D cA A ad _ _ _ _ _) gX5_stack_X5_fail rfl ⟨rfl, rfl⟩ (by decide +kernel) ⟨Nat.le_of_ble_eq_true rfl, Nat.le_of_ble_eq_true rfl⟩ obM rfl rfl rfl (Nat.le_of_ble_eq_true rfl) ⟨Nat.le_of_ble_eq_true rfl, Nat.le_of_ble_eq_true rfl⟩ dX5_stack_31 ?_
      rintro r_31 ws_31 ⟨rfl, rfl⟩
      exact g_iret E ((by have hE : eStack a (q9 : Int) m9 = 2 := (by unfold eStack; repeat (first | rw [if_pos (by omega)] | rw [if_neg (by omega)])); exact ⟨fun z => absurd (hE.symm.trans z) (by decide), fun _ => (by rw [hE])⟩)) dX5_stack_34
  · have hi10 := ite0 c_10
    refine g_aload_n E dX5_stack_13 rfl ?_
    refine g_iconst E dX5_stack_14 ?_
    refine g_callVi (T := TX5) (ci := 5) (n := 1) (As := [_]) (rest := _) E (m_fail l D cA A ad _ _ _ _ _) gX5_stack_X5_fail rfl ⟨rfl, rfl⟩ (by decide +kernel) ⟨Nat.le_of_ble_eq_true rfl, Nat.le_of_ble_eq_true rfl⟩ obM rfl rfl rfl (Nat.le_of_ble_eq_true rfl) ⟨Nat.le_of_ble_eq_true rfl, Nat.le_of_ble_eq_true rfl⟩ dX5_stack_15 ?_
    rintro r_15 ws_15 ⟨rfl, rfl⟩
    exact g_iret E ((by have hE : eStack a p9 m9 = 1 := (by unfold eStack; repeat (first | rw [if_pos (by omega)] | rw [if_neg (by omega)])); exact ⟨fun z => absurd (hE.symm.trans z) (by decide), fun _ => (by rw [hE])⟩)) dX5_stack_18
set_option maxHeartbeats 800000 in
set_option maxRecDepth 100000 in
/-- fire(p, m) -/
theorem m_fire (l : Launch) (D : va_G) (cA : Nat → ClassId) (A : Nat → Prop) (ad : Nat → Nat) (a : St) (th dd : Int32) (kp : Nat → Nat → Int32) (hI : Inv a) (p9 m9 : Int) (hp : R31 p9) (hm : R31 m9) : Met l yX5_fire wsX5_fire ({ frames := 2, cells := 0, slots := 0, locals := 43 }) (PcG D (tysX cA) A (wM cA ad a th dd kp) [.ref (ad 0), .int (zI p9), .int (zI m9)]) (va_Qi (fun (r : Int32) ws' => (eFire a p9 m9 = 0 → r = (firL a p9.toNat m9.toNat).2 ∧ ws' = wM cA ad (firS a p9.toNat m9) (zI 0) dd kp) ∧ (¬ eFire a p9 m9 = 0 → ws' = wM cA ad a (zI (eFire a p9 m9)) dd kp)) (gB D A) A) 0 0 A := by
  refine g_met (cc := cX5_fire) (maxL := 5) (ret := (some .int)) (own := RX5) rfl (by decide) rfl (Nat.le_of_ble_eq_true rfl) ?_
  intro p e s m below meth c E
  have hin5 : ∀ w ∈ u_ws RX5 TX5 19, w ∈ wsX5_fire := by decide +kernel
  obtain ⟨⟨hn0, hn6, hc0, hc3⟩, hPI, hCI, hFr⟩ := id hI
  obtain ⟨hp1, hp2⟩ := hp
  obtain ⟨hm1, hm2⟩ := hm
  refine g_loc (lv' := [(0, .ref (ad 0)), (1, .int (zI p9)), (2, .int (zI m9))]) ⟨rfl, rfl, rfl, trivial⟩ ?_
  refine g_aload_n E dX5_fire_0 rfl ?_
  refine g_iconst E dX5_fire_1 ?_
  refine pm_M_thrown E  hin5 (by decide +kernel) dX5_fire_2 ?_
  refine g_aload_n E dX5_fire_5 rfl ?_
  refine g_iload_n E dX5_fire_6 rfl ?_
  refine g_callVi (T := TX5) (ci := 5) (n := 1) (As := [_]) (rest := _) E (m_isPile l D cA A ad _ _ _ _ _ (by omega) (by omega)) gX5_fire_X5_isPile rfl ⟨rfl, rfl⟩ (by decide +kernel) ⟨Nat.le_of_ble_eq_true rfl, Nat.le_of_ble_eq_true rfl⟩ obM rfl rfl rfl (Nat.le_of_ble_eq_true rfl) ⟨Nat.le_of_ble_eq_true rfl, Nat.le_of_ble_eq_true rfl⟩ dX5_fire_7 ?_
  rintro r_7 ws_7 ⟨rfl, rfl⟩
  refine g_if_ne (tgt := 19) E dX5_fire_10 (by decide) (by omega) (fun c_10 => ?_) (fun c_10 => ?_)
  · have hi10 := ite1 c_10; obtain ⟨q9, rfl⟩ := Int.eq_ofNat_of_zero_le (show 0 ≤ p9 by omega); have hPC := hPI q9 (by omega); have hPO := hPC.1; have hcl := hPC.2; have hPb := hPO; unfold PO at hPb; have hsq := sq_le (e := sd a q9) (by omega)
    refine g_iload_n E dX5_fire_19 rfl ?_
    refine g_iconst E dX5_fire_20 ?_
    refine g_bipush E dX5_fire_21 (by decide) ?_
    refine g_callTi (n := 3) (As := [_, _, _]) (rest := _) E (m_isIn l D _ A _ _ _ _ (by omega)) gX5_fire_X5_isIn rfl ⟨rfl, rfl⟩ (by decide +kernel) ⟨Nat.le_of_ble_eq_true rfl, Nat.le_of_ble_eq_true rfl⟩ rfl rfl (Nat.le_of_ble_eq_true rfl) ⟨Nat.le_of_ble_eq_true rfl, Nat.le_of_ble_eq_true rfl⟩ dX5_fire_23 ?_
    rintro r_23 ws_23 ⟨rfl, rfl⟩
    refine g_if_ne (tgt := 35) E dX5_fire_26 (by decide) (by omega) (fun c_26 => ?_) (fun c_26 => ?_)
    · have hi26 := ite1 c_26
      refine g_aload_n E dX5_fire_35 rfl ?_
      refine gm_M_many E  hin5 (by decide +kernel) dX5_fire_36 ?_
      refine g_iload_n E dX5_fire_39 rfl ?_
      first | refine lm_manyN E (by omega) dX5_fire_40 ?_ | refine lm_many E (by omega) dX5_fire_40 ?_
      refine g_iload_n E dX5_fire_41 rfl ?_
      refine g_icmp_ge (tgt := 51) E dX5_fire_42 (by decide) (by omega) (by omega) (fun c_42 => ?_) (fun c_42 => ?_)
      · refine g_iconst E dX5_fire_51 ?_
        refine g_istore_n E dX5_fire_52 (by decide) ?_
        refine g_iconst E dX5_fire_53 ?_
        refine g_istore E dX5_fire_54 (by decide) ?_
        have key_kk : ∀ (n_kk kk : Nat), (kk : Int) ≤ m9 → m9 + 1 ≤ (kk : Int) + n_kk → GW p l e (headSpec wsX5_fire ({ frames := 2, cells := 0, slots := 0, locals := 43 })).room s m ([.ref (ad 0), .int (zI (q9 : Int)), .int (zI m9)] : List Value).toArray below meth c (MQ below (va_Qi (fun (r : Int32) ws' => (eFire a (q9 : Int) m9 = 0 → r = (firL a (q9 : Int).toNat m9.toNat).2 ∧ ws' = wM cA ad (firS a (q9 : Int).toNat m9) (zI 0) dd kp) ∧ (¬ eFire a (q9 : Int) m9 = 0 → ws' = wM cA ad a (zI (eFire a (q9 : Int) m9)) dd kp)) (gB D A) A) ([.ref (ad 0), .int (zI (q9 : Int)), .int (zI m9)] : List Value).toArray s 0 0 A) D A 5 (wM cA ad ((firL a q9 kk).1) (zI 0) dd kp) 0 0 56 [(0, .ref (ad 0)), (1, .int (zI (q9 : Int))), (2, .int (zI m9)), (3, .int (firL a q9 kk).2), (4, .int (zI (kk : Int)))] [] := by
          intro n_kk
          induction n_kk with
          | zero => intro kk h1 h2; exact absurd h2 (by omega)
          | succ n_kk ih_kk =>
            intro kk hle_kk hfu_kk
            obtain ⟨k1, k2, k3, k4, k5, k6⟩ := firL_i hI (p := q9) (by omega) kk (by omega)
            have k7 := k5 q9
            refine g_iload E dX5_fire_56 rfl ?_
            refine g_iload_n E dX5_fire_58 rfl ?_
            refine g_icmp_ge (tgt := 92) E dX5_fire_59 (by decide) (by omega) (by omega) (fun c_59 => ?_) (fun c_59 => ?_)
            · obtain rfl : kk = m9.toNat := by omega
              refine g_aload_n E dX5_fire_92 rfl ?_
              refine g_aload_n E dX5_fire_93 rfl ?_
              refine gm_M_calibres E  hin5 (by decide +kernel) dX5_fire_94 ?_
              refine g_iload_n E dX5_fire_97 rfl ?_
              first | refine lm_calibresN E (by omega) dX5_fire_98 ?_ | refine lm_calibres E (by omega) dX5_fire_98 ?_
              rw [k7.2]
              refine g_top (v' := .int (zI ((cal a q9).toNat : Int))) (by rw [show ((cal a q9).toNat : Int) = cal a q9 by omega]) ?_
              refine g_iconst E dX5_fire_99 ?_
              refine g_iload_n E dX5_fire_100 rfl ?_
              refine g_callVv (T := TX5) (ci := 5) (n := 3) (As := [_, _, _]) (rest := _) E (m_more l D cA A ad _ _ _ _ (cal a q9).toNat (by omega) 2 (by decide) (zI m9)) gX5_fire_X5_more rfl ⟨rfl, rfl⟩ (by decide +kernel) ⟨Nat.le_of_ble_eq_true rfl, Nat.le_of_ble_eq_true rfl⟩ obM rfl rfl rfl (Nat.le_of_ble_eq_true rfl) ⟨Nat.le_of_ble_eq_true rfl, Nat.le_of_ble_eq_true rfl⟩ dX5_fire_101 ?_
              rintro ws_101 rfl
              have hwe : wM cA ad (up3 (firL a q9 m9.toNat).1 (tagN 2) 0 (cal a q9).toNat ((firL a q9 m9.toNat).1 (tagN 2) 0 (cal a q9).toNat + zI m9)) (zI 0) dd kp = wM cA ad (firS a q9 m9) (zI 0) dd kp := congrArg (fun x : Int32 => wM cA ad (up3 (firL a q9 m9.toNat).1 6 0 (cal a q9).toNat (x + zI m9)) (zI 0) dd kp) (k6 _)
              refine g_iload_n E dX5_fire_104 rfl ?_
              exact g_iret E ((by have hE : eFire a (q9 : Int) m9 = 0 := (by unfold eFire; show (if ¬ iP a (q9 : Int) then (1 : Int) else if ¬ (1 ≤ m9 ∧ m9 ≤ 91) then 2 else if bl a q9 < m9 then 3 else 0) = 0; repeat (first | rw [if_pos (by omega)] | rw [if_neg (by omega)])); exact ⟨fun _ => ⟨rfl, hwe⟩, fun z => absurd hE z⟩)) dX5_fire_105
            · refine g_aload_n E dX5_fire_62 rfl ?_
              refine gm_M_many E  hin5 (by decide +kernel) dX5_fire_63 ?_
              refine g_iload_n E dX5_fire_66 rfl ?_
              refine g_dup2 E dX5_fire_67 rfl rfl ?_
              first | refine lm_manyN E (by omega) dX5_fire_68 ?_ | refine lm_many E (by omega) dX5_fire_68 ?_
              refine g_iconst E dX5_fire_69 ?_
              refine g_isub E dX5_fire_70 ?_
              first | refine sm_manyN E (by omega) dX5_fire_71 ?_ | refine sm_many E (by omega) dX5_fire_71 ?_
              refine g_st (ws' := wM cA ad (topS (firL a q9 kk).1 q9) (zI 0) dd kp) rfl rfl rfl ?_
              refine g_iload_n E dX5_fire_72 rfl ?_
              refine g_aload_n E dX5_fire_73 rfl ?_
              refine g_iload_n E dX5_fire_74 rfl ?_
              refine g_aload_n E dX5_fire_75 rfl ?_
              refine gm_M_many E  hin5 (by decide +kernel) dX5_fire_76 ?_
              refine g_iload_n E dX5_fire_79 rfl ?_
              first | refine lm_manyN E (by omega) dX5_fire_80 ?_ | refine lm_many E (by omega) dX5_fire_80 ?_
              refine g_top (v' := .int (zI ((bl (firL a q9 kk).1 q9 - 1).toNat : Int))) (by rw [topS_bl (by omega), show ((bl (firL a q9 kk).1 q9 - 1).toNat : Int) = bl (firL a q9 kk).1 q9 - 1 by omega]) ?_
              refine g_callVi (T := TX5) (ci := 5) (n := 2) (As := [_, _]) (rest := _) E (m_rustOf l D cA A ad _ _ _ _ _ (by omega) (bl (firL a q9 kk).1 q9 - 1).toNat (by omega)) gX5_fire_X5_rustOf rfl ⟨rfl, rfl⟩ (by decide +kernel) ⟨Nat.le_of_ble_eq_true rfl, Nat.le_of_ble_eq_true rfl⟩ obM rfl rfl rfl (Nat.le_of_ble_eq_true rfl) ⟨Nat.le_of_ble_eq_true rfl, Nat.le_of_ble_eq_true rfl⟩ dX5_fire_81 ?_
              rintro r_81 ws_81 ⟨rfl, rfl⟩
              refine g_top (v' := .int (topV (firL a q9 kk).1 q9)) (congrArg Value.int (topS_o (by omega))) ?_
              refine g_iaddR E dX5_fire_84 ?_
              refine g_istore_n E dX5_fire_85 (by decide) ?_
              refine g_iinc E dX5_fire_86 rfl (by decide) ?_
              refine g_goto (tgt := 56) E dX5_fire_89 (by decide) ?_
              refine g_st (ws' := wM cA ad ((firL a q9 (kk + 1)).1) (zI 0) dd kp) (rfl) rfl rfl ?_
              refine g_loc (lv' := [(0, .ref (ad 0)), (1, .int (zI (q9 : Int))), (2, .int (zI m9)), (3, .int (firL a q9 (kk + 1)).2), (4, .int (zI ((kk + 1) : Int)))]) ⟨rfl, rfl, rfl, rfl, rfl, trivial⟩ ?_
              exact ih_kk (kk + 1) (by omega) (by omega)
        refine g_loc (lv' := [(0, .ref (ad 0)), (1, .int (zI (q9 : Int))), (2, .int (zI m9)), (3, .int (firL a q9 0).2), (4, .int (zI (0 : Int)))]) ⟨rfl, rfl, rfl, rfl, rfl, trivial⟩ ?_
        exact key_kk ((m9) + 1).toNat.succ 0 (by omega) (by omega)
      · refine g_aload_n E dX5_fire_45 rfl ?_
        refine g_iconst E dX5_fire_46 ?_
        refine g_callVi (T := TX5) (ci := 5) (n := 1) (As := [_]) (rest := _) E (m_fail l D cA A ad _ _ _ _ _) gX5_fire_X5_fail rfl ⟨rfl, rfl⟩ (by decide +kernel) ⟨Nat.le_of_ble_eq_true rfl, Nat.le_of_ble_eq_true rfl⟩ obM rfl rfl rfl (Nat.le_of_ble_eq_true rfl) ⟨Nat.le_of_ble_eq_true rfl, Nat.le_of_ble_eq_true rfl⟩ dX5_fire_47 ?_
        rintro r_47 ws_47 ⟨rfl, rfl⟩
        exact g_iret E ((by have hE : eFire a (q9 : Int) m9 = 3 := (by unfold eFire; show (if ¬ iP a (q9 : Int) then (1 : Int) else if ¬ (1 ≤ m9 ∧ m9 ≤ 91) then 2 else if bl a q9 < m9 then 3 else 0) = 3; repeat (first | rw [if_pos (by omega)] | rw [if_neg (by omega)])); exact ⟨fun z => absurd (hE.symm.trans z) (by decide), fun _ => (by rw [hE])⟩)) dX5_fire_50
    · have hi26 := ite0 c_26
      refine g_aload_n E dX5_fire_29 rfl ?_
      refine g_iconst E dX5_fire_30 ?_
      refine g_callVi (T := TX5) (ci := 5) (n := 1) (As := [_]) (rest := _) E (m_fail l D cA A ad _ _ _ _ _) gX5_fire_X5_fail rfl ⟨rfl, rfl⟩ (by decide +kernel) ⟨Nat.le_of_ble_eq_true rfl, Nat.le_of_ble_eq_true rfl⟩ obM rfl rfl rfl (Nat.le_of_ble_eq_true rfl) ⟨Nat.le_of_ble_eq_true rfl, Nat.le_of_ble_eq_true rfl⟩ dX5_fire_31 ?_
      rintro r_31 ws_31 ⟨rfl, rfl⟩
      exact g_iret E ((by have hE : eFire a (q9 : Int) m9 = 2 := (by unfold eFire; repeat (first | rw [if_pos (by omega)] | rw [if_neg (by omega)])); exact ⟨fun z => absurd (hE.symm.trans z) (by decide), fun _ => (by rw [hE])⟩)) dX5_fire_34
  · have hi10 := ite0 c_10
    refine g_aload_n E dX5_fire_13 rfl ?_
    refine g_iconst E dX5_fire_14 ?_
    refine g_callVi (T := TX5) (ci := 5) (n := 1) (As := [_]) (rest := _) E (m_fail l D cA A ad _ _ _ _ _) gX5_fire_X5_fail rfl ⟨rfl, rfl⟩ (by decide +kernel) ⟨Nat.le_of_ble_eq_true rfl, Nat.le_of_ble_eq_true rfl⟩ obM rfl rfl rfl (Nat.le_of_ble_eq_true rfl) ⟨Nat.le_of_ble_eq_true rfl, Nat.le_of_ble_eq_true rfl⟩ dX5_fire_15 ?_
    rintro r_15 ws_15 ⟨rfl, rfl⟩
    exact g_iret E ((by have hE : eFire a p9 m9 = 1 := (by unfold eFire; repeat (first | rw [if_pos (by omega)] | rw [if_neg (by omega)])); exact ⟨fun z => absurd (hE.symm.trans z) (by decide), fun _ => (by rw [hE])⟩)) dX5_fire_18
set_option maxHeartbeats 800000 in
set_option maxRecDepth 100000 in
/-- scour(p) -/
theorem m_scour (l : Launch) (D : va_G) (cA : Nat → ClassId) (A : Nat → Prop) (ad : Nat → Nat) (a : St) (th dd : Int32) (kp : Nat → Nat → Int32) (hI : Inv a) (p9 : Int) (hp : R31 p9) : Met l yX5_scour wsX5_scour ({ frames := 5, cells := 0, slots := 0, locals := 118 }) (PcG D (tysX cA) A (wM cA ad a th dd kp) [.ref (ad 0), .int (zI p9)]) (va_Qi (fun (r : Int32) ws' => (eP a p9 = 0 → r = (scL a p9.toNat (bl a p9.toNat).toNat).2 ∧ ws' = wM cA ad ((scL a p9.toNat (bl a p9.toNat).toNat).1) (zI 0) dd kp) ∧ (¬ eP a p9 = 0 → ws' = wM cA ad a (zI (eP a p9)) dd kp)) (gB D A) A) 0 0 A := by
  refine g_met (cc := cX5_scour) (maxL := 5) (ret := (some .int)) (own := RX5) rfl (by decide) rfl (Nat.le_of_ble_eq_true rfl) ?_
  intro p e s m below meth c E
  have hin5 : ∀ w ∈ u_ws RX5 TX5 19, w ∈ wsX5_scour := by decide +kernel
  obtain ⟨⟨hn0, hn6, hc0, hc3⟩, hPI, hCI, hFr⟩ := id hI
  obtain ⟨hp1, hp2⟩ := hp
  refine g_loc (lv' := [(0, .ref (ad 0)), (1, .int (zI p9))]) ⟨rfl, rfl, trivial⟩ ?_
  refine g_aload_n E dX5_scour_0 rfl ?_
  refine g_iconst E dX5_scour_1 ?_
  refine pm_M_thrown E  hin5 (by decide +kernel) dX5_scour_2 ?_
  refine g_aload_n E dX5_scour_5 rfl ?_
  refine g_iload_n E dX5_scour_6 rfl ?_
  refine g_callVi (T := TX5) (ci := 5) (n := 1) (As := [_]) (rest := _) E (m_isPile l D cA A ad _ _ _ _ _ (by omega) (by omega)) gX5_scour_X5_isPile rfl ⟨rfl, rfl⟩ (by decide +kernel) ⟨Nat.le_of_ble_eq_true rfl, Nat.le_of_ble_eq_true rfl⟩ obM rfl rfl rfl (Nat.le_of_ble_eq_true rfl) ⟨Nat.le_of_ble_eq_true rfl, Nat.le_of_ble_eq_true rfl⟩ dX5_scour_7 ?_
  rintro r_7 ws_7 ⟨rfl, rfl⟩
  refine g_if_ne (tgt := 19) E dX5_scour_10 (by decide) (by omega) (fun c_10 => ?_) (fun c_10 => ?_)
  · have hi10 := ite1 c_10; obtain ⟨q9, rfl⟩ := Int.eq_ofNat_of_zero_le (show 0 ≤ p9 by omega); have hPC := hPI q9 (by omega); have hPO := hPC.1; have hcl := hPC.2; have hPb := hPO; unfold PO at hPb; have hsq := sq_le (e := sd a q9) (by omega)
    refine g_iconst E dX5_scour_19 ?_
    refine g_istore_n E dX5_scour_20 (by decide) ?_
    refine g_iconst E dX5_scour_21 ?_
    refine g_istore_n E dX5_scour_22 (by decide) ?_
    have key_kk : ∀ (n_kk kk : Nat), (kk : Int) ≤ bl a q9 → bl a q9 + 1 ≤ (kk : Int) + n_kk → GW p l e (headSpec wsX5_scour ({ frames := 5, cells := 0, slots := 0, locals := 118 })).room s m ([.ref (ad 0), .int (zI (q9 : Int))] : List Value).toArray below meth c (MQ below (va_Qi (fun (r : Int32) ws' => (eP a (q9 : Int) = 0 → r = (scL a (q9 : Int).toNat (bl a (q9 : Int).toNat).toNat).2 ∧ ws' = wM cA ad ((scL a (q9 : Int).toNat (bl a (q9 : Int).toNat).toNat).1) (zI 0) dd kp) ∧ (¬ eP a (q9 : Int) = 0 → ws' = wM cA ad a (zI (eP a (q9 : Int))) dd kp)) (gB D A) A) ([.ref (ad 0), .int (zI (q9 : Int))] : List Value).toArray s 0 0 A) D A 5 (wM cA ad ((scL a q9 kk).1) (zI 0) dd kp) 0 0 23 [(0, .ref (ad 0)), (1, .int (zI (q9 : Int))), (2, .int (scL a q9 kk).2), (3, .int (zI (kk : Int)))] [] := by
      intro n_kk
      induction n_kk with
      | zero => intro kk h1 h2; exact absurd h2 (by omega)
      | succ n_kk ih_kk =>
        intro kk hle_kk hfu_kk
        have he := sc_e a q9 kk
        have hbk := he.bl (p := q9)
        have hPk := he.po hPO
        obtain ⟨hs1, hs6, hb0, hb1⟩ := id hPk
        have hsq2 := sq_le (e := sd (scL a q9 kk).1 q9) ⟨hs1, hs6⟩
        have honb := onN_b (sd (scL a q9 kk).1 q9) (bl (scL a q9 kk).1 q9) kk
        refine g_iload_n E dX5_scour_23 rfl ?_
        refine g_aload_n E dX5_scour_24 rfl ?_
        refine gm_M_many E  hin5 (by decide +kernel) dX5_scour_25 ?_
        refine g_iload_n E dX5_scour_28 rfl ?_
        first | refine lm_manyN E (by omega) dX5_scour_29 ?_ | refine lm_many E (by omega) dX5_scour_29 ?_
        refine g_icmp_ge (tgt := 84) E dX5_scour_30 (by decide) (by omega) (by omega) (fun c_30 => ?_) (fun c_30 => ?_)
        · refine g_iload_n E dX5_scour_84 rfl ?_
          exact g_iret E ((by have hE : eP a (q9 : Int) = 0 := (by unfold eP; repeat (first | rw [if_pos (by omega)] | rw [if_neg (by omega)])); exact ⟨fun _ => ⟨(by show _ = (scL a q9 (bl a q9).toNat).2; rw [show (bl a q9).toNat = kk by omega]), (by show _ = wM cA ad (scL a q9 (bl a q9).toNat).1 (zI 0) dd kp; rw [show (bl a q9).toNat = kk by omega])⟩, fun z => absurd hE z⟩)) dX5_scour_85
        · refine g_aload_n E dX5_scour_33 rfl ?_
          refine g_iload_n E dX5_scour_34 rfl ?_
          refine g_iload_n E dX5_scour_35 rfl ?_
          refine g_callVi (T := TX5) (ci := 5) (n := 2) (As := [_, _]) (rest := _) E (m_on l D cA A ad _ _ _ _ _ (by omega) (by assumption) _ (by omega)) gX5_scour_X5_on rfl ⟨rfl, rfl⟩ (by decide +kernel) ⟨Nat.le_of_ble_eq_true rfl, Nat.le_of_ble_eq_true rfl⟩ obM rfl rfl rfl (Nat.le_of_ble_eq_true rfl) ⟨Nat.le_of_ble_eq_true rfl, Nat.le_of_ble_eq_true rfl⟩ dX5_scour_36 ?_
          rintro r_36 ws_36 ⟨rfl, rfl⟩
          refine g_if_le (tgt := 45) E dX5_scour_39 (by decide) (by omega) (fun c_39 => ?_) (fun c_39 => ?_)
          · have hst := sc_fM (a := a) (p := q9) (n := kk) ((cv_on0 hPk ⟨by omega, by omega⟩).mp (by omega))
            refine g_iconst E dX5_scour_45 ?_
            refine g_aload_n E dX5_scour_46 rfl ?_
            refine g_iload_n E dX5_scour_47 rfl ?_
            refine g_iload_n E dX5_scour_48 rfl ?_
            refine g_callVi (T := TX5) (ci := 5) (n := 2) (As := [_, _]) (rest := _) E (m_rustOf l D cA A ad _ _ _ _ _ (by omega) _ (by omega)) gX5_scour_X5_rustOf rfl ⟨rfl, rfl⟩ (by decide +kernel) ⟨Nat.le_of_ble_eq_true rfl, Nat.le_of_ble_eq_true rfl⟩ obM rfl rfl rfl (Nat.le_of_ble_eq_true rfl) ⟨Nat.le_of_ble_eq_true rfl, Nat.le_of_ble_eq_true rfl⟩ dX5_scour_49 ?_
            rintro r_49 ws_49 ⟨rfl, rfl⟩
            refine g_mmin E (by decide +kernel) (by decide +kernel) (by decide +kernel) (by decide +kernel) (Nat.le_of_ble_eq_true rfl) (Nat.le_of_ble_eq_true rfl) (Nat.le_of_ble_eq_true rfl) (Nat.le_of_ble_eq_true rfl) dX5_scour_52 ?_
            refine g_istore E dX5_scour_55 (by decide) ?_
            refine g_aload_n E dX5_scour_57 rfl ?_
            refine gm_M_rust E  hin5 (by decide +kernel) dX5_scour_58 ?_
            refine g_bipush E dX5_scour_61 (by decide) ?_
            refine g_iload_n E dX5_scour_63 rfl ?_
            refine g_imul E dX5_scour_64 ?_
            refine g_iload_n E dX5_scour_65 rfl ?_
            refine g_iadd E dX5_scour_66 ?_
            refine g_dup2 E dX5_scour_67 rfl rfl ?_
            refine lm_rust (p9 := q9) (k9 := kk) E ⟨by omega, by omega⟩ (by omega) dX5_scour_68 ?_
            refine g_iload E dX5_scour_69 rfl ?_
            refine g_isubR E dX5_scour_71 ?_
            refine sm_rust (p9 := q9) (k9 := kk) E ⟨by omega, by omega⟩ (by omega) dX5_scour_72 ?_
            refine g_iload_n E dX5_scour_73 rfl ?_
            refine g_iload E dX5_scour_74 rfl ?_
            refine g_iaddR E dX5_scour_76 ?_
            refine g_istore_n E dX5_scour_77 (by decide) ?_
            refine g_iinc E dX5_scour_78 rfl (by decide) ?_
            refine g_goto (tgt := 23) E dX5_scour_81 (by decide) ?_
            refine g_st (ws' := wM cA ad ((scL a q9 (kk + 1)).1) (zI 0) dd kp) (congrArg (fun q : St × Int32 => wM cA ad q.1 (zI 0) dd kp) hst.symm) rfl rfl ?_
            refine g_loc (lv' := [(0, .ref (ad 0)), (1, .int (zI (q9 : Int))), (2, .int (scL a q9 (kk + 1)).2), (3, .int (zI ((kk + 1) : Int)))]) ⟨rfl, rfl, congrArg (fun q : St × Int32 => some (Value.int q.2)) hst.symm, rfl, trivial⟩ ?_
            exact ih_kk (kk + 1) (by omega) (by omega)
          · have hst := sc_t (a := a) (p := q9) (n := kk) ((cv_on hPk ⟨by omega, by omega⟩).mp (by omega))
            refine g_goto (tgt := 78) E dX5_scour_42 (by decide) ?_
            refine g_iinc E dX5_scour_78 rfl (by decide) ?_
            refine g_goto (tgt := 23) E dX5_scour_81 (by decide) ?_
            refine g_st (ws' := wM cA ad ((scL a q9 (kk + 1)).1) (zI 0) dd kp) (congrArg (fun q : St × Int32 => wM cA ad q.1 (zI 0) dd kp) hst.symm) rfl rfl ?_
            refine g_loc (lv' := [(0, .ref (ad 0)), (1, .int (zI (q9 : Int))), (2, .int (scL a q9 (kk + 1)).2), (3, .int (zI ((kk + 1) : Int)))]) ⟨rfl, rfl, congrArg (fun q : St × Int32 => some (Value.int q.2)) hst.symm, rfl, trivial⟩ ?_
            exact ih_kk (kk + 1) (by omega) (by omega)
    refine g_loc (lv' := [(0, .ref (ad 0)), (1, .int (zI (q9 : Int))), (2, .int (scL a q9 0).2), (3, .int (zI (0 : Int)))]) ⟨rfl, rfl, rfl, rfl, trivial⟩ ?_
    exact key_kk ((bl a q9) + 1).toNat.succ 0 (by omega) (by omega)
  · have hi10 := ite0 c_10
    refine g_aload_n E dX5_scour_13 rfl ?_
    refine g_iconst E dX5_scour_14 ?_
    refine g_callVi (T := TX5) (ci := 5) (n := 1) (As := [_]) (rest := _) E (m_fail l D cA A ad _ _ _ _ _) gX5_scour_X5_fail rfl ⟨rfl, rfl⟩ (by decide +kernel) ⟨Nat.le_of_ble_eq_true rfl, Nat.le_of_ble_eq_true rfl⟩ obM rfl rfl rfl (Nat.le_of_ble_eq_true rfl) ⟨Nat.le_of_ble_eq_true rfl, Nat.le_of_ble_eq_true rfl⟩ dX5_scour_15 ?_
    rintro r_15 ws_15 ⟨rfl, rfl⟩
    exact g_iret E ((by have hE : eP a p9 = 1 := (by unfold eP; repeat (first | rw [if_pos (by omega)] | rw [if_neg (by omega)])); exact ⟨fun z => absurd (hE.symm.trans z) (by decide), fun _ => (by rw [hE])⟩)) dX5_scour_18
set_option maxHeartbeats 800000 in
set_option maxRecDepth 100000 in
/-- inspect(p) -/
theorem m_inspect (l : Launch) (D : va_G) (cA : Nat → ClassId) (A : Nat → Prop) (ad : Nat → Nat) (a : St) (th dd : Int32) (kp : Nat → Nat → Int32) (hI : Inv a) (p9 : Int) (hp : R31 p9) : Met l yX5_inspect wsX5_inspect ({ frames := 2, cells := 0, slots := 0, locals := 43 }) (PcG D (tysX cA) A (wM cA ad a th dd kp) [.ref (ad 0), .int (zI p9)]) (va_Qi (fun (r : Int32) ws' => (eP a p9 = 0 → r = zI (insV a p9.toNat (a 0 0 4)) ∧ ws' = wM cA ad (inspS a p9.toNat) (zI 0) dd kp) ∧ (¬ eP a p9 = 0 → ws' = wM cA ad a (zI (eP a p9)) dd kp)) (gB D A) A) 0 0 A := by
  refine g_met (cc := cX5_inspect) (maxL := 4) (ret := (some .int)) (own := RX5) rfl (by decide) rfl (Nat.le_of_ble_eq_true rfl) ?_
  intro p e s m below meth c E
  have hin5 : ∀ w ∈ u_ws RX5 TX5 19, w ∈ wsX5_inspect := by decide +kernel
  obtain ⟨⟨hn0, hn6, hc0, hc3⟩, hPI, hCI, hFr⟩ := id hI
  obtain ⟨hp1, hp2⟩ := hp
  refine g_loc (lv' := [(0, .ref (ad 0)), (1, .int (zI p9))]) ⟨rfl, rfl, trivial⟩ ?_
  refine g_aload_n E dX5_inspect_0 rfl ?_
  refine g_iconst E dX5_inspect_1 ?_
  refine pm_M_thrown E  hin5 (by decide +kernel) dX5_inspect_2 ?_
  refine g_aload_n E dX5_inspect_5 rfl ?_
  refine g_iload_n E dX5_inspect_6 rfl ?_
  refine g_callVi (T := TX5) (ci := 5) (n := 1) (As := [_]) (rest := _) E (m_isPile l D cA A ad _ _ _ _ _ (by omega) (by omega)) gX5_inspect_X5_isPile rfl ⟨rfl, rfl⟩ (by decide +kernel) ⟨Nat.le_of_ble_eq_true rfl, Nat.le_of_ble_eq_true rfl⟩ obM rfl rfl rfl (Nat.le_of_ble_eq_true rfl) ⟨Nat.le_of_ble_eq_true rfl, Nat.le_of_ble_eq_true rfl⟩ dX5_inspect_7 ?_
  rintro r_7 ws_7 ⟨rfl, rfl⟩
  refine g_if_ne (tgt := 19) E dX5_inspect_10 (by decide) (by omega) (fun c_10 => ?_) (fun c_10 => ?_)
  · have hi10 := ite1 c_10; obtain ⟨q9, rfl⟩ := Int.eq_ofNat_of_zero_le (show 0 ≤ p9 by omega); have hPC := hPI q9 (by omega); have hPO := hPC.1; have hcl := hPC.2; have hPb := hPO; unfold PO at hPb; have hsq := sq_le (e := sd a q9) (by omega)
    refine g_aload_n E dX5_inspect_19 rfl ?_
    refine gm_M_many E  hin5 (by decide +kernel) dX5_inspect_20 ?_
    refine g_iload_n E dX5_inspect_23 rfl ?_
    first | refine lm_manyN E (by omega) dX5_inspect_24 ?_ | refine lm_many E (by omega) dX5_inspect_24 ?_
    refine g_istore_n E dX5_inspect_25 (by decide) ?_
    refine g_aload_n E dX5_inspect_26 rfl ?_
    refine gm_M_many E  hin5 (by decide +kernel) dX5_inspect_27 ?_
    refine g_iload_n E dX5_inspect_30 rfl ?_
    refine g_iconst E dX5_inspect_31 ?_
    first | refine sm_manyN E (by omega) dX5_inspect_32 ?_ | refine sm_many E (by omega) dX5_inspect_32 ?_
    refine g_iconst E dX5_inspect_33 ?_
    refine g_istore_n E dX5_inspect_34 (by decide) ?_
    have key_kk : ∀ (n_kk kk : Nat), (kk : Int) ≤ bl a q9 → bl a q9 + 1 ≤ (kk : Int) + n_kk → GW p l e (headSpec wsX5_inspect ({ frames := 2, cells := 0, slots := 0, locals := 43 })).room s m ([.ref (ad 0), .int (zI (q9 : Int))] : List Value).toArray below meth c (MQ below (va_Qi (fun (r : Int32) ws' => (eP a (q9 : Int) = 0 → r = zI (insV a (q9 : Int).toNat (a 0 0 4)) ∧ ws' = wM cA ad (inspS a (q9 : Int).toNat) (zI 0) dd kp) ∧ (¬ eP a (q9 : Int) = 0 → ws' = wM cA ad a (zI (eP a (q9 : Int))) dd kp)) (gB D A) A) ([.ref (ad 0), .int (zI (q9 : Int))] : List Value).toArray s 0 0 A) D A 4 (wM cA ad (up3 (taL a q9 (a 0 0 4) kk).1 1 q9 2 (zI ((taL a q9 (a 0 0 4) kk).2 : Int))) (zI 0) dd kp) 0 0 35 [(0, .ref (ad 0)), (1, .int (zI (q9 : Int))), (2, .int (zI (bl a q9))), (3, .int (zI (kk : Int)))] [] := by
      intro n_kk
      induction n_kk with
      | zero => intro kk h1 h2; exact absurd h2 (by omega)
      | succ n_kk ih_kk =>
        intro kk hle_kk hfu_kk
        obtain ⟨he, hkp⟩ := ta_e a q9 (a 0 0 4) kk
        have hbi : bl (up3 (taL a q9 (a 0 0 4) kk).1 1 q9 2 (zI ((taL a q9 (a 0 0 4) kk).2 : Int))) q9 = ((taL a q9 (a 0 0 4) kk).2 : Int) := bl_s (by omega)
        have hsi : sd (up3 (taL a q9 (a 0 0 4) kk).1 1 q9 2 (zI ((taL a q9 (a 0 0 4) kk).2 : Int))) q9 = sd a q9 := (sd_up (by omega)).trans he.sd
        have hci : cal (up3 (taL a q9 (a 0 0 4) kk).1 1 q9 2 (zI ((taL a q9 (a 0 0 4) kk).2 : Int))) q9 = cal a q9 := (cal_up (by omega)).trans (congrArg Int32.toInt (he 1 q9 0 (by decide)))
        have hli : (up3 (taL a q9 (a 0 0 4) kk).1 1 q9 2 (zI ((taL a q9 (a 0 0 4) kk).2 : Int))) 0 0 4 = a 0 0 4 := (up3_n (by omega)).trans (he 0 0 4 (by decide))
        have hri : (up3 (taL a q9 (a 0 0 4) kk).1 1 q9 2 (zI ((taL a q9 (a 0 0 4) kk).2 : Int))) 2 q9 kk = (taL a q9 (a 0 0 4) kk).1 2 q9 kk := up3_n (by omega)
        have hPi : PO (up3 (taL a q9 (a 0 0 4) kk).1 1 q9 2 (zI ((taL a q9 (a 0 0 4) kk).2 : Int))) q9 := (by unfold PO; rw [hsi, hbi]; omega)
        have h7i : (up3 (taL a q9 (a 0 0 4) kk).1 1 q9 2 (zI ((taL a q9 (a 0 0 4) kk).2 : Int))) 7 0 (cal a q9).toNat = a 7 0 (cal a q9).toNat := (up3_n (by omega)).trans (he 7 0 _ (by decide))
        refine g_iload_n E dX5_inspect_35 rfl ?_
        refine g_iload_n E dX5_inspect_36 rfl ?_
        refine g_icmp_ge (tgt := 70) E dX5_inspect_37 (by decide) (by omega) (by omega) (fun c_37 => ?_) (fun c_37 => ?_)
        · obtain rfl : kk = (bl a q9).toNat := by omega
          refine g_aload_n E dX5_inspect_70 rfl ?_
          refine g_aload_n E dX5_inspect_71 rfl ?_
          refine gm_M_calibres E  hin5 (by decide +kernel) dX5_inspect_72 ?_
          refine g_iload_n E dX5_inspect_75 rfl ?_
          first | refine lm_calibresN E (by omega) dX5_inspect_76 ?_ | refine lm_calibres E (by omega) dX5_inspect_76 ?_
          rw [hci]
          refine g_top (v' := .int (zI ((cal a q9).toNat : Int))) (by rw [show ((cal a q9).toNat : Int) = cal a q9 by omega]) ?_
          refine g_iconst E dX5_inspect_77 ?_
          refine g_iload_n E dX5_inspect_78 rfl ?_
          refine g_aload_n E dX5_inspect_79 rfl ?_
          refine gm_M_many E  hin5 (by decide +kernel) dX5_inspect_80 ?_
          refine g_iload_n E dX5_inspect_83 rfl ?_
          first | refine lm_manyN E (by omega) dX5_inspect_84 ?_ | refine lm_many E (by omega) dX5_inspect_84 ?_
          rw [hbi]
          refine g_isub E dX5_inspect_85 ?_
          refine g_callVv (T := TX5) (ci := 5) (n := 3) (As := [_, _, _]) (rest := _) E (m_more l D cA A ad _ _ _ _ (cal a q9).toNat (by omega) 3 (by decide) _) gX5_inspect_X5_more rfl ⟨rfl, rfl⟩ (by decide +kernel) ⟨Nat.le_of_ble_eq_true rfl, Nat.le_of_ble_eq_true rfl⟩ obM rfl rfl rfl (Nat.le_of_ble_eq_true rfl) ⟨Nat.le_of_ble_eq_true rfl, Nat.le_of_ble_eq_true rfl⟩ dX5_inspect_86 ?_
          rintro ws_86 rfl
          refine g_st (ws' := wM cA ad (inspS a q9) (zI 0) dd kp) (congrArg (fun x : Int32 => wM cA ad (up3 (up3 (taL a q9 (a 0 0 4) (bl a q9).toNat).1 1 q9 2 (zI ((taL a q9 (a 0 0 4) (bl a q9).toNat).2 : Int))) 7 0 (cal a q9).toNat (x + zI (bl a q9 - ((taL a q9 (a 0 0 4) (bl a q9).toNat).2 : Int)))) (zI 0) dd kp) h7i) rfl rfl ?_
          refine g_iload_n E dX5_inspect_89 rfl ?_
          refine g_aload_n E dX5_inspect_90 rfl ?_
          refine gm_M_many E  hin5 (by decide +kernel) dX5_inspect_91 ?_
          refine g_iload_n E dX5_inspect_94 rfl ?_
          first | refine lm_manyN E (by omega) dX5_inspect_95 ?_ | refine lm_many E (by omega) dX5_inspect_95 ?_
          rw [show bl (inspS a q9) q9 = ((taL a q9 (a 0 0 4) (bl a q9).toNat).2 : Int) from (bl_up (by omega)).trans hbi]
          refine g_isub E dX5_inspect_96 ?_
          exact g_iret E ((by have hE : eP a (q9 : Int) = 0 := (by unfold eP; repeat (first | rw [if_pos (by omega)] | rw [if_neg (by omega)])); exact ⟨fun _ => ⟨rfl, rfl⟩, fun z => absurd hE z⟩)) dX5_inspect_97
        · refine g_aload_n E dX5_inspect_40 rfl ?_
          refine g_iload_n E dX5_inspect_41 rfl ?_
          refine g_iload_n E dX5_inspect_42 rfl ?_
          refine g_callVi (T := TX5) (ci := 5) (n := 2) (As := [_, _]) (rest := _) E (m_rustOf l D cA A ad _ _ _ _ _ (by omega) kk (by omega)) gX5_inspect_X5_rustOf rfl ⟨rfl, rfl⟩ (by decide +kernel) ⟨Nat.le_of_ble_eq_true rfl, Nat.le_of_ble_eq_true rfl⟩ obM rfl rfl rfl (Nat.le_of_ble_eq_true rfl) ⟨Nat.le_of_ble_eq_true rfl, Nat.le_of_ble_eq_true rfl⟩ dX5_inspect_43 ?_
          rintro r_43 ws_43 ⟨rfl, rfl⟩
          rw [hri]
          refine g_aload_n E dX5_inspect_46 rfl ?_
          refine gm_M_limit E  hin5 (by decide +kernel) dX5_inspect_47 ?_
          rw [hli]
          refine g_icmp_geR (tgt := 64) E dX5_inspect_50 (by decide) (fun c_50 => ?_) (fun c_50 => ?_)
          · have hst := ta_f (a := a) (p := q9) (n := kk) (lim := a 0 0 4) (Int32.not_lt.mpr c_50); have hwb : wM cA ad (up3 (taL a q9 (a 0 0 4) kk).1 1 q9 2 (zI ((taL a q9 (a 0 0 4) kk).2 : Int))) (zI 0) dd kp = wM cA ad (up3 (taL a q9 (a 0 0 4) (kk + 1)).1 1 q9 2 (zI ((taL a q9 (a 0 0 4) (kk + 1)).2 : Int))) (zI 0) dd kp := (by rw [hst])
            refine g_iinc E dX5_inspect_64 rfl (by decide) ?_
            refine g_goto (tgt := 35) E dX5_inspect_67 (by decide) ?_
            refine g_st (ws' := wM cA ad (up3 (taL a q9 (a 0 0 4) (kk + 1)).1 1 q9 2 (zI ((taL a q9 (a 0 0 4) (kk + 1)).2 : Int))) (zI 0) dd kp) (hwb) rfl rfl ?_
            refine g_loc (lv' := [(0, .ref (ad 0)), (1, .int (zI (q9 : Int))), (2, .int (zI (bl a q9))), (3, .int (zI ((kk + 1) : Int)))]) ⟨rfl, rfl, rfl, rfl, trivial⟩ ?_
            exact ih_kk (kk + 1) (by omega) (by omega)
          · have hst := ta_t (a := a) (p := q9) (n := kk) (lim := a 0 0 4) (Int32.not_le.mp c_50)
            refine g_aload_n E dX5_inspect_53 rfl ?_
            refine g_iload_n E dX5_inspect_54 rfl ?_
            refine g_aload_n E dX5_inspect_55 rfl ?_
            refine g_iload_n E dX5_inspect_56 rfl ?_
            refine g_iload_n E dX5_inspect_57 rfl ?_
            refine g_callVi (T := TX5) (ci := 5) (n := 2) (As := [_, _]) (rest := _) E (m_rustOf l D cA A ad _ _ _ _ _ (by omega) kk (by omega)) gX5_inspect_X5_rustOf rfl ⟨rfl, rfl⟩ (by decide +kernel) ⟨Nat.le_of_ble_eq_true rfl, Nat.le_of_ble_eq_true rfl⟩ obM rfl rfl rfl (Nat.le_of_ble_eq_true rfl) ⟨Nat.le_of_ble_eq_true rfl, Nat.le_of_ble_eq_true rfl⟩ dX5_inspect_58 ?_
            rintro r_58 ws_58 ⟨rfl, rfl⟩
            rw [hri]
            refine g_callVv (T := TX5) (ci := 5) (n := 2) (As := [_, _]) (rest := _) E (m_put l D cA A ad _ _ _ _ q9 (by omega) hPi _ (by omega)) gX5_inspect_X5_put rfl ⟨rfl, rfl⟩ (by decide +kernel) ⟨Nat.le_of_ble_eq_true rfl, Nat.le_of_ble_eq_true rfl⟩ obM rfl rfl rfl (Nat.le_of_ble_eq_true rfl) ⟨Nat.le_of_ble_eq_true rfl, Nat.le_of_ble_eq_true rfl⟩ dX5_inspect_61 ?_
            rintro ws_61 rfl
            have hwb : wM cA ad (putS (up3 (taL a q9 (a 0 0 4) kk).1 1 q9 2 (zI ((taL a q9 (a 0 0 4) kk).2 : Int))) q9 ((taL a q9 (a 0 0 4) kk).1 2 q9 kk)) (zI 0) dd kp = wM cA ad (up3 (taL a q9 (a 0 0 4) (kk + 1)).1 1 q9 2 (zI ((taL a q9 (a 0 0 4) (kk + 1)).2 : Int))) (zI 0) dd kp := (by rw [putS_t (by omega), hst])
            refine g_iinc E dX5_inspect_64 rfl (by decide) ?_
            refine g_goto (tgt := 35) E dX5_inspect_67 (by decide) ?_
            refine g_st (ws' := wM cA ad (up3 (taL a q9 (a 0 0 4) (kk + 1)).1 1 q9 2 (zI ((taL a q9 (a 0 0 4) (kk + 1)).2 : Int))) (zI 0) dd kp) (hwb) rfl rfl ?_
            refine g_loc (lv' := [(0, .ref (ad 0)), (1, .int (zI (q9 : Int))), (2, .int (zI (bl a q9))), (3, .int (zI ((kk + 1) : Int)))]) ⟨rfl, rfl, rfl, rfl, trivial⟩ ?_
            exact ih_kk (kk + 1) (by omega) (by omega)
    refine g_st (ws' := wM cA ad (up3 (taL a q9 (a 0 0 4) 0).1 1 q9 2 (zI ((taL a q9 (a 0 0 4) 0).2 : Int))) (zI 0) dd kp) (rfl) rfl rfl ?_
    refine g_loc (lv' := [(0, .ref (ad 0)), (1, .int (zI (q9 : Int))), (2, .int (zI (bl a q9))), (3, .int (zI (0 : Int)))]) ⟨rfl, rfl, rfl, rfl, trivial⟩ ?_
    exact key_kk ((bl a q9) + 1).toNat.succ 0 (by omega) (by omega)
  · have hi10 := ite0 c_10
    refine g_aload_n E dX5_inspect_13 rfl ?_
    refine g_iconst E dX5_inspect_14 ?_
    refine g_callVi (T := TX5) (ci := 5) (n := 1) (As := [_]) (rest := _) E (m_fail l D cA A ad _ _ _ _ _) gX5_inspect_X5_fail rfl ⟨rfl, rfl⟩ (by decide +kernel) ⟨Nat.le_of_ble_eq_true rfl, Nat.le_of_ble_eq_true rfl⟩ obM rfl rfl rfl (Nat.le_of_ble_eq_true rfl) ⟨Nat.le_of_ble_eq_true rfl, Nat.le_of_ble_eq_true rfl⟩ dX5_inspect_15 ?_
    rintro r_15 ws_15 ⟨rfl, rfl⟩
    exact g_iret E ((by have hE : eP a p9 = 1 := (by unfold eP; repeat (first | rw [if_pos (by omega)] | rw [if_neg (by omega)])); exact ⟨fun z => absurd (hE.symm.trans z) (by decide), fun _ => (by rw [hE])⟩)) dX5_inspect_18
