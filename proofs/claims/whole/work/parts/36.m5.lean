/-! ===== MODEL: the calls that tell ===== -/
theorem minOn {a : St} {p : Nat} (hP : PO a p) {k : Int} (hk : 0 ≤ k ∧ k < bl a p) : min 1 (onN (sd a p) (bl a p) k) = if cv a p k then 1 else 0 := by
  have hb := onN_b (sd a p) (bl a p) k
  cases h : cv a p k with
  | true => have := (cv_on hP hk).mpr h; rw [if_pos rfl]; omega
  | false => have := (cv_on0 hP hk).mpr h; rw [if_neg (by decide)]; omega
theorem bAt_at {a : St} {p : Nat} {k r q : Int} (h : 0 ≤ r ∧ r < sd a p - k ∧ 0 ≤ q ∧ q < sd a p - k) : bAtV (sd a p) (bl a p) k r q = atV a p k r q := by
  unfold atV
  rw [Int.mul_comm r]
  by_cases hc : stz (sd a p) k + (sd a p - k) * r + q < bl a p
  · rw [if_pos hc, bAt_t ⟨h.1, h.2.1, h.2.2.1, h.2.2.2, hc⟩]
  · rw [if_neg hc, bAt_f (fun z => hc z.2.2.2.2)]
theorem i32_ar (x y z : Int32) : x + y + z = x + z + y := by rw [Int32.add_assoc, Int32.add_comm y z, ← Int32.add_assoc]
theorem sum5_add {f g : Nat → Int32} {v : Int32} {c : Nat} (h : ∀ j : Nat, g j = if j = c then f j + v else f j) : ∀ n : Nat, sum5 g n = if c < n then sum5 f n + v else sum5 f n
  | 0 => by rw [if_neg (by omega)]; rfl
  | n + 1 => by
    rw [sum5, sum5, sum5_add h n, h n]
    by_cases h1 : c < n
    · rw [if_pos h1, if_neg (by omega), if_pos (by omega), i32_ar]
    · by_cases h2 : n = c
      · rw [if_neg h1, if_pos h2, if_pos (by omega), Int32.add_assoc]
      · rw [if_neg h1, if_neg h2, if_neg (by omega)]
theorem ljM {a : St} (h : Inv a) {c : Nat} (hc : (c : Int) < nc a) (hn : 0 < np a) : sum5 (ljS a c 4 0) 5 = sum5 (a 4 0) 5 + zI (ljV a c) := by
  have hj := jmpO_b h hc hn
  have hJ := (jmpS_i h hc hn).2.1 (jmpP a c) (by rw [jmpS_np, jmpP]; omega)
  have e0 : ∀ j : Nat, jmpS a c 4 0 j = a 4 0 j := fun j => up3_n (by omega)
  unfold ljS ljV
  by_cases hb : brk (jmpS a c) (jmpP a c) = true
  · rw [if_pos hb, if_pos hb]
    rw [sum5_add (f := a 4 0) (v := zI 1) (c := (cal (jmpS a c) (jmpP a c)).toNat) (fun j => ?_) 5, if_pos (by have := hJ.2; omega)]
    rw [offS, up3_n (by omega), up3_e]
    by_cases hq : j = (cal (jmpS a c) (jmpP a c)).toNat
    · rw [if_pos ⟨rfl, rfl, hq⟩, if_pos hq, e0, hq]
    · rw [if_neg (fun z => hq z.2.2), if_neg hq, topS, up3_n (by omega), e0]
  · rw [if_neg hb, if_neg hb, zI_0, Int32.add_zero]
    exact congrArg (fun f => sum5 f 5) (funext e0)
theorem jumpM {a : St} (h : Inv a) (hn : 0 < np a) : ∀ n : Nat, (n : Int) ≤ nc a → sum5 ((jumpAll a n).1 4 0) 5 = sum5 (a 4 0) 5 + zI (jumpAll a n).2
  | 0, _ => by show sum5 (a 4 0) 5 = _ + zI 0; rw [zI_0, Int32.add_zero]
  | n + 1, hc => by
    obtain ⟨i1, i2, i3⟩ := jumpAll_i h hn n (by omega)
    show sum5 (ljS (jumpAll a n).1 n 4 0) 5 = _ + zI ((jumpAll a n).2 + ljV (jumpAll a n).1 n)
    rw [ljM i1 (by omega) (by omega), jumpM h hn n (by omega), ← zI_add, Int32.add_assoc]
theorem dayVM {a : St} (h : Inv a) : sum5 (dayS a 4 0) 5 = sum5 (a 4 0) 5 + zI (dayV a) := by
  have h1 := raAll_i h (np a).toNat (by have := h.1; omega)
  have e4 : raAll a (np a).toNat 4 0 = a 4 0 := funext (fun j => raAll_e a _ 4 0 j (by decide))
  have ed : dayS a 4 0 = (catsS (raAll a (np a).toNat)).1 4 0 := by
    rw [dayS]
    show upR _ 0 0 _ 4 0 = _
    exact upR_n (by omega)
  rw [ed, dayV, catsS]
  by_cases hn : 0 < np (raAll a (np a).toNat)
  · rw [if_pos hn, jumpM h1 hn _ (by have := h1.1; omega), e4]
  · rw [if_neg hn, zI_0, Int32.add_zero]
    exact congrArg (fun f => sum5 f 5) e4
theorem passVM {a : St} (h : Inv a) : ∀ n : Nat, sum5 ((passL a n).1 4 0) 5 = sum5 (a 4 0) 5 + zI (passL a n).2
  | 0 => by show sum5 (a 4 0) 5 = _ + zI 0; rw [zI_0, Int32.add_zero]
  | n + 1 => by
    show sum5 (dayS (passL a n).1 4 0) 5 = _ + zI ((passL a n).2 + dayV (passL a n).1)
    rw [dayVM (passL_i h n).1, passVM h n, ← zI_add, Int32.add_assoc]
theorem passM {a : St} (h : Inv a) (n : Nat) : allV (passL a n).1 1 - allV a 1 = zI (passL a n).2 := by
  show sum5 ((passL a n).1 4 0) 5 - sum5 (a 4 0) 5 = _
  rw [passVM h n, Int32.add_comm, Int32.add_sub_cancel]
set_option maxHeartbeats 800000 in
set_option maxRecDepth 100000 in
/-- shift(f, t) -/
theorem m_shift (l : Launch) (D : va_G) (cA : Nat → ClassId) (A : Nat → Prop) (ad : Nat → Nat) (a : St) (th dd : Int32) (kp : Nat → Nat → Int32) (hI : Inv a) (p9 m9 : Int) (hp : R31 p9) (hm : R31 m9) : Met l yX5_shift wsX5_shift ({ frames := 2, cells := 0, slots := 0, locals := 43 }) (PcG D (tysX cA) A (wM cA ad a th dd kp) [.ref (ad 0), .int (zI p9), .int (zI m9)]) (va_Qi (fun (r : Int32) ws' => (eShift a p9 m9 = 0 → r = zI (shM a p9.toNat m9.toNat) ∧ ws' = wM cA ad (shN a p9.toNat m9.toNat (shM a p9.toNat m9.toNat).toNat) (zI 0) dd kp) ∧ (¬ eShift a p9 m9 = 0 → ws' = wM cA ad a (zI (eShift a p9 m9)) dd kp)) (gB D A) A) 0 0 A := by
  refine g_met (cc := cX5_shift) (maxL := 4) (ret := (some .int)) (own := RX5) rfl (by decide) rfl (Nat.le_of_ble_eq_true rfl) ?_
  intro p e s m below meth c E
  have hin5 : ∀ w ∈ u_ws RX5 TX5 19, w ∈ wsX5_shift := by decide +kernel
  obtain ⟨⟨hn0, hn6, hc0, hc3⟩, hPI, hCI, hFr⟩ := id hI
  obtain ⟨hp1, hp2⟩ := hp
  obtain ⟨hm1, hm2⟩ := hm
  refine g_loc (lv' := [(0, .ref (ad 0)), (1, .int (zI p9)), (2, .int (zI m9))]) ⟨rfl, rfl, rfl, trivial⟩ ?_
  refine g_aload_n E dX5_shift_0 rfl ?_
  refine g_iconst E dX5_shift_1 ?_
  refine pm_M_thrown E  hin5 (by decide +kernel) dX5_shift_2 ?_
  refine g_aload_n E dX5_shift_5 rfl ?_
  refine g_iload_n E dX5_shift_6 rfl ?_
  refine g_callVi (T := TX5) (ci := 5) (n := 1) (As := [_]) (rest := _) E (m_isPile l D cA A ad _ _ _ _ _ (by omega) (by omega)) gX5_shift_X5_isPile rfl ⟨rfl, rfl⟩ (by decide +kernel) ⟨Nat.le_of_ble_eq_true rfl, Nat.le_of_ble_eq_true rfl⟩ obM rfl rfl rfl (Nat.le_of_ble_eq_true rfl) ⟨Nat.le_of_ble_eq_true rfl, Nat.le_of_ble_eq_true rfl⟩ dX5_shift_7 ?_
  rintro r_7 ws_7 ⟨rfl, rfl⟩
  refine g_if_eq (tgt := 21) E dX5_shift_10 (by decide) (by omega) (fun c_10 => ?_) (fun c_10 => ?_)
  · have hi10 := ite0 c_10
    refine g_aload_n E dX5_shift_21 rfl ?_
    refine g_iconst E dX5_shift_22 ?_
    refine g_callVi (T := TX5) (ci := 5) (n := 1) (As := [_]) (rest := _) E (m_fail l D cA A ad _ _ _ _ _) gX5_shift_X5_fail rfl ⟨rfl, rfl⟩ (by decide +kernel) ⟨Nat.le_of_ble_eq_true rfl, Nat.le_of_ble_eq_true rfl⟩ obM rfl rfl rfl (Nat.le_of_ble_eq_true rfl) ⟨Nat.le_of_ble_eq_true rfl, Nat.le_of_ble_eq_true rfl⟩ dX5_shift_23 ?_
    rintro r_23 ws_23 ⟨rfl, rfl⟩
    exact g_iret E ((by have hE : eShift a p9 m9 = 1 := (by unfold eShift; repeat (first | rw [if_pos (by omega)] | rw [if_neg (by omega)])); exact ⟨fun z => absurd (hE.symm.trans z) (by decide), fun _ => (by rw [hE])⟩)) dX5_shift_26
  · have hi10 := ite1 c_10
    refine g_aload_n E dX5_shift_13 rfl ?_
    refine g_iload_n E dX5_shift_14 rfl ?_
    refine g_callVi (T := TX5) (ci := 5) (n := 1) (As := [_]) (rest := _) E (m_isPile l D cA A ad _ _ _ _ _ (by omega) (by omega)) gX5_shift_X5_isPile rfl ⟨rfl, rfl⟩ (by decide +kernel) ⟨Nat.le_of_ble_eq_true rfl, Nat.le_of_ble_eq_true rfl⟩ obM rfl rfl rfl (Nat.le_of_ble_eq_true rfl) ⟨Nat.le_of_ble_eq_true rfl, Nat.le_of_ble_eq_true rfl⟩ dX5_shift_15 ?_
    rintro r_15 ws_15 ⟨rfl, rfl⟩
    refine g_if_ne (tgt := 27) E dX5_shift_18 (by decide) (by omega) (fun c_18 => ?_) (fun c_18 => ?_)
    · have hi18 := ite1 c_18; obtain ⟨q9, rfl⟩ := Int.eq_ofNat_of_zero_le (show 0 ≤ p9 by omega); have hPC := hPI q9 (by omega); have hPO := hPC.1; have hcl := hPC.2; have hPb := hPO; unfold PO at hPb; have hsq := sq_le (e := sd a q9) (by omega); obtain ⟨u9, rfl⟩ := Int.eq_ofNat_of_zero_le (show 0 ≤ m9 by omega); have hQC := hPI u9 (by omega); have hPQ := hQC.1; have hcu := hQC.2; have hPu := hPQ; unfold PO at hPu; have hsu := sq_le (e := sd a u9) (by omega); have hsm : (shM a q9 u9 = sq (sd a u9) - bl a u9 ∨ shM a q9 u9 = bl a q9) ∧ shM a q9 u9 ≤ bl a q9 ∧ shM a q9 u9 ≤ sq (sd a u9) - bl a u9 := (by unfold shM; split <;> omega)
      refine g_iload_n E dX5_shift_27 rfl ?_
      refine g_iload_n E dX5_shift_28 rfl ?_
      refine g_icmp_eq (tgt := 47) E dX5_shift_29 (by decide) (by omega) (by omega) (fun c_29 => ?_) (fun c_29 => ?_)
      · refine g_aload_n E dX5_shift_47 rfl ?_
        refine g_iconst E dX5_shift_48 ?_
        refine g_callVi (T := TX5) (ci := 5) (n := 1) (As := [_]) (rest := _) E (m_fail l D cA A ad _ _ _ _ _) gX5_shift_X5_fail rfl ⟨rfl, rfl⟩ (by decide +kernel) ⟨Nat.le_of_ble_eq_true rfl, Nat.le_of_ble_eq_true rfl⟩ obM rfl rfl rfl (Nat.le_of_ble_eq_true rfl) ⟨Nat.le_of_ble_eq_true rfl, Nat.le_of_ble_eq_true rfl⟩ dX5_shift_49 ?_
        rintro r_49 ws_49 ⟨rfl, rfl⟩
        exact g_iret E ((by have hE : eShift a (q9 : Int) (u9 : Int) = 2 := (by unfold eShift; show (if ¬ iP a (q9 : Int) then (1 : Int) else if ¬ iP a (u9 : Int) then 1 else if (q9 : Int) = (u9 : Int) then 2 else if ¬ cal a q9 = cal a u9 then 2 else 0) = 2; repeat (first | rw [if_pos (by omega)] | rw [if_neg (by omega)])); exact ⟨fun z => absurd (hE.symm.trans z) (by decide), fun _ => (by rw [hE])⟩)) dX5_shift_52
      · refine g_aload_n E dX5_shift_32 rfl ?_
        refine gm_M_calibres E  hin5 (by decide +kernel) dX5_shift_33 ?_
        refine g_iload_n E dX5_shift_36 rfl ?_
        first | refine lm_calibresN E (by omega) dX5_shift_37 ?_ | refine lm_calibres E (by omega) dX5_shift_37 ?_
        refine g_aload_n E dX5_shift_38 rfl ?_
        refine gm_M_calibres E  hin5 (by decide +kernel) dX5_shift_39 ?_
        refine g_iload_n E dX5_shift_42 rfl ?_
        first | refine lm_calibresN E (by omega) dX5_shift_43 ?_ | refine lm_calibres E (by omega) dX5_shift_43 ?_
        refine g_icmp_eq (tgt := 53) E dX5_shift_44 (by decide) (by omega) (by omega) (fun c_44 => ?_) (fun c_44 => ?_)
        · have hne : ¬ q9 = u9 := (by omega)
          refine g_iconst E dX5_shift_53 ?_
          refine g_istore_n E dX5_shift_54 (by decide) ?_
          have key_kk : ∀ (n_kk kk : Nat), (kk : Int) ≤ (shM a q9 u9) → (shM a q9 u9) + 1 ≤ (kk : Int) + n_kk → GW p l e (headSpec wsX5_shift ({ frames := 2, cells := 0, slots := 0, locals := 43 })).room s m ([.ref (ad 0), .int (zI (q9 : Int)), .int (zI (u9 : Int))] : List Value).toArray below meth c (MQ below (va_Qi (fun (r : Int32) ws' => (eShift a (q9 : Int) (u9 : Int) = 0 → r = zI (shM a (q9 : Int).toNat (u9 : Int).toNat) ∧ ws' = wM cA ad (shN a (q9 : Int).toNat (u9 : Int).toNat (shM a (q9 : Int).toNat (u9 : Int).toNat).toNat) (zI 0) dd kp) ∧ (¬ eShift a (q9 : Int) (u9 : Int) = 0 → ws' = wM cA ad a (zI (eShift a (q9 : Int) (u9 : Int))) dd kp)) (gB D A) A) ([.ref (ad 0), .int (zI (q9 : Int)), .int (zI (u9 : Int))] : List Value).toArray s 0 0 A) D A 4 (wM cA ad ((shN a q9 u9 kk)) (zI 0) dd kp) 0 0 55 [(0, .ref (ad 0)), (1, .int (zI (q9 : Int))), (2, .int (zI (u9 : Int))), (3, .int (zI (kk : Int)))] [] := by
            intro n_kk
            induction n_kk with
            | zero => intro kk h1 h2; exact absurd h2 (by omega)
            | succ n_kk ih_kk =>
              intro kk hle_kk hfu_kk
              obtain ⟨k1, k2, k3, k4, k5, k6⟩ := shN_i hI (f := q9) (t := u9) (by omega) (by omega) hne kk (by omega) (by omega)
              have k7 : sq (sd (shN a q9 u9 kk) u9) = sq (sd a u9) := congrArg sq (k6 u9).1
              have hPt := (k1.2.1 u9 (by omega)).1
              have hPf := (k1.2.1 q9 (by omega)).1
              have hbt : bl (topS (shN a q9 u9 kk) q9) u9 = bl (shN a q9 u9 kk) u9 := topS_bn (fun q => hne q.symm)
              refine g_aload_n E dX5_shift_55 rfl ?_
              refine gm_M_many E  hin5 (by decide +kernel) dX5_shift_56 ?_
              refine g_iload_n E dX5_shift_59 rfl ?_
              first | refine lm_manyN E (by omega) dX5_shift_60 ?_ | refine lm_many E (by omega) dX5_shift_60 ?_
              refine g_if_le (tgt := 104) E dX5_shift_61 (by decide) (by omega) (fun c_61 => ?_) (fun c_61 => ?_)
              · obtain rfl : kk = (shM a q9 u9).toNat := by omega
                refine g_iload_n E dX5_shift_104 rfl ?_
                exact g_iret E ((by have hE : eShift a (q9 : Int) (u9 : Int) = 0 := (by unfold eShift; show (if ¬ iP a (q9 : Int) then (1 : Int) else if ¬ iP a (u9 : Int) then 1 else if (q9 : Int) = (u9 : Int) then 2 else if ¬ cal a q9 = cal a u9 then 2 else 0) = 0; repeat (first | rw [if_pos (by omega)] | rw [if_neg (by omega)])); exact ⟨fun _ => ⟨congrArg zI (by show _ = shM a q9 u9; omega), rfl⟩, fun z => absurd hE z⟩)) dX5_shift_105
              · refine g_aload_n E dX5_shift_64 rfl ?_
                refine g_iload_n E dX5_shift_65 rfl ?_
                refine g_callVi (T := TX5) (ci := 5) (n := 1) (As := [_]) (rest := _) E (m_left l D cA A ad (shN a q9 u9 kk) _ _ _ u9 (by omega) hPt) gX5_shift_X5_left rfl ⟨rfl, rfl⟩ (by decide +kernel) ⟨Nat.le_of_ble_eq_true rfl, Nat.le_of_ble_eq_true rfl⟩ obM rfl rfl rfl (Nat.le_of_ble_eq_true rfl) ⟨Nat.le_of_ble_eq_true rfl, Nat.le_of_ble_eq_true rfl⟩ dX5_shift_66 ?_
                rintro r_66 ws_66 ⟨rfl, rfl⟩
                refine g_if_le (tgt := 104) E dX5_shift_69 (by decide) (by omega) (fun c_69 => ?_) (fun c_69 => ?_)
                · obtain rfl : kk = (shM a q9 u9).toNat := by omega
                  refine g_iload_n E dX5_shift_104 rfl ?_
                  exact g_iret E ((by have hE : eShift a (q9 : Int) (u9 : Int) = 0 := (by unfold eShift; show (if ¬ iP a (q9 : Int) then (1 : Int) else if ¬ iP a (u9 : Int) then 1 else if (q9 : Int) = (u9 : Int) then 2 else if ¬ cal a q9 = cal a u9 then 2 else 0) = 0; repeat (first | rw [if_pos (by omega)] | rw [if_neg (by omega)])); exact ⟨fun _ => ⟨congrArg zI (by show _ = shM a q9 u9; omega), rfl⟩, fun z => absurd hE z⟩)) dX5_shift_105
                · refine g_aload_n E dX5_shift_72 rfl ?_
                  refine gm_M_many E  hin5 (by decide +kernel) dX5_shift_73 ?_
                  refine g_iload_n E dX5_shift_76 rfl ?_
                  refine g_dup2 E dX5_shift_77 rfl rfl ?_
                  first | refine lm_manyN E (by omega) dX5_shift_78 ?_ | refine lm_many E (by omega) dX5_shift_78 ?_
                  refine g_iconst E dX5_shift_79 ?_
                  refine g_isub E dX5_shift_80 ?_
                  first | refine sm_manyN E (by omega) dX5_shift_81 ?_ | refine sm_many E (by omega) dX5_shift_81 ?_
                  refine g_st (ws' := wM cA ad (topS (shN a q9 u9 kk) q9) (zI 0) dd kp) rfl rfl rfl ?_
                  refine g_aload_n E dX5_shift_82 rfl ?_
                  refine g_iload_n E dX5_shift_83 rfl ?_
                  refine g_aload_n E dX5_shift_84 rfl ?_
                  refine g_iload_n E dX5_shift_85 rfl ?_
                  refine g_aload_n E dX5_shift_86 rfl ?_
                  refine gm_M_many E  hin5 (by decide +kernel) dX5_shift_87 ?_
                  refine g_iload_n E dX5_shift_90 rfl ?_
                  first | refine lm_manyN E (by omega) dX5_shift_91 ?_ | refine lm_many E (by omega) dX5_shift_91 ?_
                  refine g_top (v' := .int (zI ((bl (shN a q9 u9 kk) q9 - 1).toNat : Int))) (by rw [topS_bl (by omega), show ((bl (shN a q9 u9 kk) q9 - 1).toNat : Int) = bl (shN a q9 u9 kk) q9 - 1 by omega]) ?_
                  refine g_callVi (T := TX5) (ci := 5) (n := 2) (As := [_, _]) (rest := _) E (m_rustOf l D cA A ad _ _ _ _ _ (by omega) (bl (shN a q9 u9 kk) q9 - 1).toNat (by omega)) gX5_shift_X5_rustOf rfl ⟨rfl, rfl⟩ (by decide +kernel) ⟨Nat.le_of_ble_eq_true rfl, Nat.le_of_ble_eq_true rfl⟩ obM rfl rfl rfl (Nat.le_of_ble_eq_true rfl) ⟨Nat.le_of_ble_eq_true rfl, Nat.le_of_ble_eq_true rfl⟩ dX5_shift_92 ?_
                  rintro r_92 ws_92 ⟨rfl, rfl⟩
                  refine g_top (v' := .int (topV (shN a q9 u9 kk) q9)) (congrArg Value.int (topS_o (by omega))) ?_
                  refine g_callVv (T := TX5) (ci := 5) (n := 2) (As := [_, _]) (rest := _) E (m_put l D cA A ad (topS (shN a q9 u9 kk) q9) _ _ _ u9 (by omega) ((topS_i k1 (by omega) (by omega)).2.1 _ (by rw [topS_np]; omega)).1 _ (by omega)) gX5_shift_X5_put rfl ⟨rfl, rfl⟩ (by decide +kernel) ⟨Nat.le_of_ble_eq_true rfl, Nat.le_of_ble_eq_true rfl⟩ obM rfl rfl rfl (Nat.le_of_ble_eq_true rfl) ⟨Nat.le_of_ble_eq_true rfl, Nat.le_of_ble_eq_true rfl⟩ dX5_shift_95 ?_
                  rintro ws_95 rfl
                  refine g_iinc E dX5_shift_98 rfl (by decide) ?_
                  refine g_goto (tgt := 55) E dX5_shift_101 (by decide) ?_
                  refine g_st (ws' := wM cA ad ((shN a q9 u9 (kk + 1))) (zI 0) dd kp) (rfl) rfl rfl ?_
                  refine g_loc (lv' := [(0, .ref (ad 0)), (1, .int (zI (q9 : Int))), (2, .int (zI (u9 : Int))), (3, .int (zI ((kk + 1) : Int)))]) ⟨rfl, rfl, rfl, rfl, trivial⟩ ?_
                  exact ih_kk (kk + 1) (by omega) (by omega)
          refine g_loc (lv' := [(0, .ref (ad 0)), (1, .int (zI (q9 : Int))), (2, .int (zI (u9 : Int))), (3, .int (zI (0 : Int)))]) ⟨rfl, rfl, rfl, rfl, trivial⟩ ?_
          exact key_kk (((shM a q9 u9)) + 1).toNat.succ 0 (by omega) (by omega)
        · refine g_aload_n E dX5_shift_47 rfl ?_
          refine g_iconst E dX5_shift_48 ?_
          refine g_callVi (T := TX5) (ci := 5) (n := 1) (As := [_]) (rest := _) E (m_fail l D cA A ad _ _ _ _ _) gX5_shift_X5_fail rfl ⟨rfl, rfl⟩ (by decide +kernel) ⟨Nat.le_of_ble_eq_true rfl, Nat.le_of_ble_eq_true rfl⟩ obM rfl rfl rfl (Nat.le_of_ble_eq_true rfl) ⟨Nat.le_of_ble_eq_true rfl, Nat.le_of_ble_eq_true rfl⟩ dX5_shift_49 ?_
          rintro r_49 ws_49 ⟨rfl, rfl⟩
          exact g_iret E ((by have hE : eShift a (q9 : Int) (u9 : Int) = 2 := (by unfold eShift; show (if ¬ iP a (q9 : Int) then (1 : Int) else if ¬ iP a (u9 : Int) then 1 else if (q9 : Int) = (u9 : Int) then 2 else if ¬ cal a q9 = cal a u9 then 2 else 0) = 2; repeat (first | rw [if_pos (by omega)] | rw [if_neg (by omega)])); exact ⟨fun z => absurd (hE.symm.trans z) (by decide), fun _ => (by rw [hE])⟩)) dX5_shift_52
    · have hi18 := ite0 c_18
      refine g_aload_n E dX5_shift_21 rfl ?_
      refine g_iconst E dX5_shift_22 ?_
      refine g_callVi (T := TX5) (ci := 5) (n := 1) (As := [_]) (rest := _) E (m_fail l D cA A ad _ _ _ _ _) gX5_shift_X5_fail rfl ⟨rfl, rfl⟩ (by decide +kernel) ⟨Nat.le_of_ble_eq_true rfl, Nat.le_of_ble_eq_true rfl⟩ obM rfl rfl rfl (Nat.le_of_ble_eq_true rfl) ⟨Nat.le_of_ble_eq_true rfl, Nat.le_of_ble_eq_true rfl⟩ dX5_shift_23 ?_
      rintro r_23 ws_23 ⟨rfl, rfl⟩
      exact g_iret E ((by have hE : eShift a p9 m9 = 1 := (by unfold eShift; repeat (first | rw [if_pos (by omega)] | rw [if_neg (by omega)])); exact ⟨fun z => absurd (hE.symm.trans z) (by decide), fun _ => (by rw [hE])⟩)) dX5_shift_26
set_option maxHeartbeats 800000 in
set_option maxRecDepth 100000 in
/-- gather() -/
theorem m_gather (l : Launch) (D : va_G) (cA : Nat → ClassId) (A : Nat → Prop) (ad : Nat → Nat) (a : St) (th dd : Int32) (kp : Nat → Nat → Int32) : Met l yX5_gather wsX5_gather ({ frames := 1, cells := 0, slots := 0, locals := 23 }) (PcG D (tysX cA) A (wM cA ad a th dd kp) [.ref (ad 0)]) (va_Qi (fun (r : Int32) ws' => r = (gaL a 5).2 ∧ ws' = wM cA ad ((gaL a 5).1) (zI 0) dd kp) (gB D A) A) 0 0 A := by
  refine g_met (cc := cX5_gather) (maxL := 4) (ret := (some .int)) (own := RX5) rfl (by decide) rfl (Nat.le_of_ble_eq_true rfl) ?_
  intro p e s m below meth c E
  have hin5 : ∀ w ∈ u_ws RX5 TX5 19, w ∈ wsX5_gather := by decide +kernel
  refine g_loc (lv' := [(0, .ref (ad 0))]) ⟨rfl, trivial⟩ ?_
  refine g_aload_n E dX5_gather_0 rfl ?_
  refine g_iconst E dX5_gather_1 ?_
  refine pm_M_thrown E  hin5 (by decide +kernel) dX5_gather_2 ?_
  refine g_iconst E dX5_gather_5 ?_
  refine g_istore_n E dX5_gather_6 (by decide) ?_
  refine g_iconst E dX5_gather_7 ?_
  refine g_istore_n E dX5_gather_8 (by decide) ?_
  have key_kk : ∀ (n_kk kk : Nat), (kk : Int) ≤ (5 : Int) → (5 : Int) + 1 ≤ (kk : Int) + n_kk → GW p l e (headSpec wsX5_gather ({ frames := 1, cells := 0, slots := 0, locals := 23 })).room s m ([.ref (ad 0)] : List Value).toArray below meth c (MQ below (va_Qi (fun (r : Int32) ws' => r = (gaL a 5).2 ∧ ws' = wM cA ad ((gaL a 5).1) (zI 0) dd kp) (gB D A) A) ([.ref (ad 0)] : List Value).toArray s 0 0 A) D A 4 (wM cA ad ((gaL a kk).1) (zI 0) dd kp) 0 0 9 [(0, .ref (ad 0)), (1, .int (gaL a kk).2), (2, .int (zI (kk : Int)))] [] := by
    intro n_kk
    induction n_kk with
    | zero => intro kk h1 h2; exact absurd h2 (by omega)
    | succ n_kk ih_kk =>
      intro kk hle_kk hfu_kk
      refine g_iload_n E dX5_gather_9 rfl ?_
      refine g_iconst E dX5_gather_10 ?_
      refine g_icmp_ge (tgt := 50) E dX5_gather_11 (by decide) (by omega) (by omega) (fun c_11 => ?_) (fun c_11 => ?_)
      · refine g_iload_n E dX5_gather_50 rfl ?_
        exact g_iret E (⟨by rw [show kk = 5 by omega], by rw [show kk = 5 by omega]⟩) dX5_gather_51
      · refine g_aload_n E dX5_gather_14 rfl ?_
        refine gm_M_numbers E  hin5 (by decide +kernel) dX5_gather_15 ?_
        refine g_iconst E dX5_gather_18 ?_
        refine g_iload_n E dX5_gather_19 rfl ?_
        refine g_imul E dX5_gather_20 ?_
        refine g_iconst E dX5_gather_21 ?_
        refine g_iadd E dX5_gather_22 ?_
        refine lm_numbers (c9 := kk) (w9 := 1) E ⟨by omega, by omega⟩ (by omega) dX5_gather_23 ?_
        refine g_istore_n E dX5_gather_24 (by decide) ?_
        refine g_aload_n E dX5_gather_25 rfl ?_
        refine g_iload_n E dX5_gather_26 rfl ?_
        refine g_iconst E dX5_gather_27 ?_
        refine g_iload_n E dX5_gather_28 rfl ?_
        refine g_callVv (T := TX5) (ci := 5) (n := 3) (As := [_, _, _]) (rest := _) E (m_more l D cA A ad _ _ _ _ kk (by omega) 0 (by decide) _) gX5_gather_X5_more rfl ⟨rfl, rfl⟩ (by decide +kernel) ⟨Nat.le_of_ble_eq_true rfl, Nat.le_of_ble_eq_true rfl⟩ obM rfl rfl rfl (Nat.le_of_ble_eq_true rfl) ⟨Nat.le_of_ble_eq_true rfl, Nat.le_of_ble_eq_true rfl⟩ dX5_gather_29 ?_
        rintro ws_29 rfl
        refine g_aload_n E dX5_gather_32 rfl ?_
        refine g_iload_n E dX5_gather_33 rfl ?_
        refine g_iconst E dX5_gather_34 ?_
        refine g_iload_n E dX5_gather_35 rfl ?_
        refine g_ineg E dX5_gather_36 ?_
        refine g_callVv (T := TX5) (ci := 5) (n := 3) (As := [_, _, _]) (rest := _) E (m_more l D cA A ad _ _ _ _ kk (by omega) 1 (by decide) _) gX5_gather_X5_more rfl ⟨rfl, rfl⟩ (by decide +kernel) ⟨Nat.le_of_ble_eq_true rfl, Nat.le_of_ble_eq_true rfl⟩ obM rfl rfl rfl (Nat.le_of_ble_eq_true rfl) ⟨Nat.le_of_ble_eq_true rfl, Nat.le_of_ble_eq_true rfl⟩ dX5_gather_37 ?_
        rintro ws_37 rfl
        refine g_iload_n E dX5_gather_40 rfl ?_
        refine g_iload_n E dX5_gather_41 rfl ?_
        refine g_iaddR E dX5_gather_42 ?_
        refine g_istore_n E dX5_gather_43 (by decide) ?_
        have hz : (up3 (gaL a kk).1 5 0 kk ((gaL a kk).1 5 0 kk + (gaL a kk).1 4 0 kk)) 4 0 kk + -((gaL a kk).1 4 0 kk) = zI 0 := (by rw [up3_n (by omega), Int32.add_right_neg, zI_0])
        refine g_iinc E dX5_gather_44 rfl (by decide) ?_
        refine g_goto (tgt := 9) E dX5_gather_47 (by decide) ?_
        refine g_st (ws' := wM cA ad ((gaL a (kk + 1)).1) (zI 0) dd kp) (congrArg (fun x : Int32 => wM cA ad (up3 (up3 (gaL a kk).1 5 0 kk ((gaL a kk).1 5 0 kk + (gaL a kk).1 4 0 kk)) 4 0 kk x) (zI 0) dd kp) hz) rfl rfl ?_
        refine g_loc (lv' := [(0, .ref (ad 0)), (1, .int (gaL a (kk + 1)).2), (2, .int (zI ((kk + 1) : Int)))]) ⟨rfl, rfl, rfl, trivial⟩ ?_
        exact ih_kk (kk + 1) (by omega) (by omega)
  refine g_loc (lv' := [(0, .ref (ad 0)), (1, .int (gaL a 0).2), (2, .int (zI (0 : Int)))]) ⟨rfl, rfl, rfl, trivial⟩ ?_
  exact key_kk (((5 : Int)) + 1).toNat.succ 0 (by omega) (by omega)
set_option maxHeartbeats 800000 in
set_option maxRecDepth 100000 in
/-- chase(c) -/
theorem m_chase (l : Launch) (D : va_G) (cA : Nat → ClassId) (A : Nat → Prop) (ad : Nat → Nat) (a : St) (th dd : Int32) (kp : Nat → Nat → Int32) (hI : Inv a) (p9 : Int) (hp : R31 p9) : Met l yX5_chase wsX5_chase ({ frames := 1, cells := 0, slots := 0, locals := 22 }) (PcG D (tysX cA) A (wM cA ad a th dd kp) [.ref (ad 0), .int (zI p9)]) (va_Qi (fun (r : Int32) ws' => (eC a p9 = 0 → r = zI (on a p9.toNat) ∧ ws' = wM cA ad (up3 a 3 p9.toNat 1 (zI (-1))) (zI 0) dd kp) ∧ (¬ eC a p9 = 0 → ws' = wM cA ad a (zI (eC a p9)) dd kp)) (gB D A) A) 0 0 A := by
  refine g_met (cc := cX5_chase) (maxL := 3) (ret := (some .int)) (own := RX5) rfl (by decide) rfl (Nat.le_of_ble_eq_true rfl) ?_
  intro p e s m below meth c E
  have hin5 : ∀ w ∈ u_ws RX5 TX5 19, w ∈ wsX5_chase := by decide +kernel
  obtain ⟨⟨hn0, hn6, hc0, hc3⟩, hPI, hCI, hFr⟩ := id hI
  obtain ⟨hp1, hp2⟩ := hp
  refine g_loc (lv' := [(0, .ref (ad 0)), (1, .int (zI p9))]) ⟨rfl, rfl, trivial⟩ ?_
  refine g_aload_n E dX5_chase_0 rfl ?_
  refine g_iconst E dX5_chase_1 ?_
  refine pm_M_thrown E  hin5 (by decide +kernel) dX5_chase_2 ?_
  refine g_iload_n E dX5_chase_5 rfl ?_
  refine g_iconst E dX5_chase_6 ?_
  refine g_aload_n E dX5_chase_7 rfl ?_
  refine gm_M_cats E  hin5 (by decide +kernel) dX5_chase_8 ?_
  refine g_iconst E dX5_chase_11 ?_
  refine g_isub E dX5_chase_12 ?_
  refine g_callTi (n := 3) (As := [_, _, _]) (rest := _) E (m_isIn l D _ A _ _ _ _ (by omega)) gX5_chase_X5_isIn rfl ⟨rfl, rfl⟩ (by decide +kernel) ⟨Nat.le_of_ble_eq_true rfl, Nat.le_of_ble_eq_true rfl⟩ rfl rfl (Nat.le_of_ble_eq_true rfl) ⟨Nat.le_of_ble_eq_true rfl, Nat.le_of_ble_eq_true rfl⟩ dX5_chase_13 ?_
  rintro r_13 ws_13 ⟨rfl, rfl⟩
  refine g_if_ne (tgt := 25) E dX5_chase_16 (by decide) (by omega) (fun c_16 => ?_) (fun c_16 => ?_)
  · have hi16 := ite1 c_16; obtain ⟨q9, rfl⟩ := Int.eq_ofNat_of_zero_le (show 0 ≤ p9 by omega); have hci := hCI q9 (by omega); unfold CI at hci; have hlp : ¬ a 3 q9 0 = 0 := fun q => absurd hci.1 (by rw [lp, q]; decide)
    refine g_aload_n E dX5_chase_25 rfl ?_
    refine gm_M_where E  hin5 (by decide +kernel) dX5_chase_26 ?_
    refine g_iload_n E dX5_chase_29 rfl ?_
    first | refine lm_whereN E hlp (by omega) dX5_chase_30 ?_ | refine lm_where E hlp (by omega) dX5_chase_30 ?_
    refine g_istore_n E dX5_chase_31 (by decide) ?_
    refine g_aload_n E dX5_chase_32 rfl ?_
    refine gm_M_where E  hin5 (by decide +kernel) dX5_chase_33 ?_
    refine g_iload_n E dX5_chase_36 rfl ?_
    refine g_iconst E dX5_chase_37 ?_
    first | refine sm_whereN E hlp (by omega) dX5_chase_38 ?_ | refine sm_where E hlp (by omega) dX5_chase_38 ?_
    refine g_iload_n E dX5_chase_39 rfl ?_
    exact g_iret E ((by have hE : eC a (q9 : Int) = 0 := (by unfold eC; repeat (first | rw [if_pos (by omega)] | rw [if_neg (by omega)])); exact ⟨fun _ => ⟨rfl, rfl⟩, fun z => absurd hE z⟩)) dX5_chase_40
  · have hi16 := ite0 c_16
    refine g_aload_n E dX5_chase_19 rfl ?_
    refine g_iconst E dX5_chase_20 ?_
    refine g_callVi (T := TX5) (ci := 5) (n := 1) (As := [_]) (rest := _) E (m_fail l D cA A ad _ _ _ _ _) gX5_chase_X5_fail rfl ⟨rfl, rfl⟩ (by decide +kernel) ⟨Nat.le_of_ble_eq_true rfl, Nat.le_of_ble_eq_true rfl⟩ obM rfl rfl rfl (Nat.le_of_ble_eq_true rfl) ⟨Nat.le_of_ble_eq_true rfl, Nat.le_of_ble_eq_true rfl⟩ dX5_chase_21 ?_
    rintro r_21 ws_21 ⟨rfl, rfl⟩
    exact g_iret E ((by have hE : eC a p9 = 1 := (by unfold eC; repeat (first | rw [if_pos (by omega)] | rw [if_neg (by omega)])); exact ⟨fun z => absurd (hE.symm.trans z) (by decide), fun _ => (by rw [hE])⟩)) dX5_chase_24
set_option maxHeartbeats 800000 in
set_option maxRecDepth 100000 in
/-- about(p, w) -/
theorem m_about (l : Launch) (D : va_G) (cA : Nat → ClassId) (A : Nat → Prop) (ad : Nat → Nat) (a : St) (th dd : Int32) (kp : Nat → Nat → Int32) (hI : Inv a) (p9 m9 : Int) (hp : R31 p9) (hm : R31 m9) : Met l yX5_about wsX5_about ({ frames := 6, cells := 0, slots := 0, locals := 142 }) (PcG D (tysX cA) A (wM cA ad a th dd kp) [.ref (ad 0), .int (zI p9), .int (zI m9)]) (va_Qi (fun (r : Int32) ws' => (eAbout a p9 m9 = 0 → r = abV a p9.toNat m9 ∧ ws' = wM cA ad (a) (zI 0) dd kp) ∧ (¬ eAbout a p9 m9 = 0 → ws' = wM cA ad a (zI (eAbout a p9 m9)) dd kp)) (gB D A) A) 0 0 A := by
  refine g_met (cc := cX5_about) (maxL := 3) (ret := (some .int)) (own := RX5) rfl (by decide) rfl (Nat.le_of_ble_eq_true rfl) ?_
  intro p e s m below meth c E
  have hin5 : ∀ w ∈ u_ws RX5 TX5 19, w ∈ wsX5_about := by decide +kernel
  obtain ⟨⟨hn0, hn6, hc0, hc3⟩, hPI, hCI, hFr⟩ := id hI
  obtain ⟨hp1, hp2⟩ := hp
  obtain ⟨hm1, hm2⟩ := hm
  refine g_loc (lv' := [(0, .ref (ad 0)), (1, .int (zI p9)), (2, .int (zI m9))]) ⟨rfl, rfl, rfl, trivial⟩ ?_
  refine g_aload_n E dX5_about_0 rfl ?_
  refine g_iconst E dX5_about_1 ?_
  refine pm_M_thrown E  hin5 (by decide +kernel) dX5_about_2 ?_
  refine g_aload_n E dX5_about_5 rfl ?_
  refine g_iload_n E dX5_about_6 rfl ?_
  refine g_callVi (T := TX5) (ci := 5) (n := 1) (As := [_]) (rest := _) E (m_isPile l D cA A ad _ _ _ _ _ (by omega) (by omega)) gX5_about_X5_isPile rfl ⟨rfl, rfl⟩ (by decide +kernel) ⟨Nat.le_of_ble_eq_true rfl, Nat.le_of_ble_eq_true rfl⟩ obM rfl rfl rfl (Nat.le_of_ble_eq_true rfl) ⟨Nat.le_of_ble_eq_true rfl, Nat.le_of_ble_eq_true rfl⟩ dX5_about_7 ?_
  rintro r_7 ws_7 ⟨rfl, rfl⟩
  refine g_if_eq (tgt := 32) E dX5_about_10 (by decide) (by omega) (fun c_10 => ?_) (fun c_10 => ?_)
  · have hi10 := ite0 c_10
    refine g_aload_n E dX5_about_32 rfl ?_
    refine g_iconst E dX5_about_33 ?_
    refine g_callVi (T := TX5) (ci := 5) (n := 1) (As := [_]) (rest := _) E (m_fail l D cA A ad _ _ _ _ _) gX5_about_X5_fail rfl ⟨rfl, rfl⟩ (by decide +kernel) ⟨Nat.le_of_ble_eq_true rfl, Nat.le_of_ble_eq_true rfl⟩ obM rfl rfl rfl (Nat.le_of_ble_eq_true rfl) ⟨Nat.le_of_ble_eq_true rfl, Nat.le_of_ble_eq_true rfl⟩ dX5_about_34 ?_
    rintro r_34 ws_34 ⟨rfl, rfl⟩
    have hX : eAbout a p9 m9 = 1 := (by unfold eAbout; repeat (first | rw [if_pos (by omega)] | rw [if_neg (by omega)]))
    exact g_iret E ((by first | exact ⟨fun z => absurd (hX.symm.trans z) (by decide), fun _ => (by rw [hX])⟩ | exact ⟨fun _ => ⟨rfl, rfl⟩, fun z => absurd hX z⟩)) dX5_about_37
  · have hi10 := ite1 c_10
    refine g_iload_n E dX5_about_13 rfl ?_
    refine g_iconst E dX5_about_14 ?_
    refine g_bipush E dX5_about_15 (by decide) ?_
    refine g_callTi (n := 3) (As := [_, _, _]) (rest := _) E (m_isIn l D _ A _ _ _ _ (by omega)) gX5_about_X5_isIn rfl ⟨rfl, rfl⟩ (by decide +kernel) ⟨Nat.le_of_ble_eq_true rfl, Nat.le_of_ble_eq_true rfl⟩ rfl rfl (Nat.le_of_ble_eq_true rfl) ⟨Nat.le_of_ble_eq_true rfl, Nat.le_of_ble_eq_true rfl⟩ dX5_about_17 ?_
    rintro r_17 ws_17 ⟨rfl, rfl⟩
    refine g_if_eq (tgt := 32) E dX5_about_20 (by decide) (by omega) (fun c_20 => ?_) (fun c_20 => ?_)
    · have hi20 := ite0 c_20
      refine g_aload_n E dX5_about_32 rfl ?_
      refine g_iconst E dX5_about_33 ?_
      refine g_callVi (T := TX5) (ci := 5) (n := 1) (As := [_]) (rest := _) E (m_fail l D cA A ad _ _ _ _ _) gX5_about_X5_fail rfl ⟨rfl, rfl⟩ (by decide +kernel) ⟨Nat.le_of_ble_eq_true rfl, Nat.le_of_ble_eq_true rfl⟩ obM rfl rfl rfl (Nat.le_of_ble_eq_true rfl) ⟨Nat.le_of_ble_eq_true rfl, Nat.le_of_ble_eq_true rfl⟩ dX5_about_34 ?_
      rintro r_34 ws_34 ⟨rfl, rfl⟩
      have hX : eAbout a p9 m9 = 1 := (by unfold eAbout; repeat (first | rw [if_pos (by omega)] | rw [if_neg (by omega)]))
      exact g_iret E ((by first | exact ⟨fun z => absurd (hX.symm.trans z) (by decide), fun _ => (by rw [hX])⟩ | exact ⟨fun _ => ⟨rfl, rfl⟩, fun z => absurd hX z⟩)) dX5_about_37
    · have hi20 := ite1 c_20; obtain ⟨q9, rfl⟩ := Int.eq_ofNat_of_zero_le (show 0 ≤ p9 by omega); have hPC := hPI q9 (by omega); have hPO := hPC.1; have hcl := hPC.2; have hPb := hPO; unfold PO at hPb; have hsq := sq_le (e := sd a q9) (by omega)
      refine g_aload_n E dX5_about_23 rfl ?_
      refine g_iload_n E dX5_about_24 rfl ?_
      refine g_iload_n E dX5_about_25 rfl ?_
      refine g_callVi (T := TX5) (ci := 5) (n := 2) (As := [_, _]) (rest := _) E (m_pileTold l D cA A ad _ _ _ _ _ (by omega) (by assumption) _ (by omega)) gX5_about_X5_pileTold rfl ⟨rfl, rfl⟩ (by decide +kernel) ⟨Nat.le_of_ble_eq_true rfl, Nat.le_of_ble_eq_true rfl⟩ obM rfl rfl rfl (Nat.le_of_ble_eq_true rfl) ⟨Nat.le_of_ble_eq_true rfl, Nat.le_of_ble_eq_true rfl⟩ dX5_about_26 ?_
      rintro r_26 ws_26 ⟨rfl, rfl⟩
      have hX : eAbout a (q9 : Int) m9 = 0 := (by unfold eAbout; repeat (first | rw [if_pos (by omega)] | rw [if_neg (by omega)]))
      refine g_goto (tgt := 37) E dX5_about_29 (by decide) ?_
      exact g_iret E ((by first | exact ⟨fun z => absurd (hX.symm.trans z) (by decide), fun _ => (by rw [hX])⟩ | exact ⟨fun _ => ⟨rfl, rfl⟩, fun z => absurd hX z⟩)) dX5_about_37
set_option maxHeartbeats 800000 in
set_option maxRecDepth 100000 in
/-- ball(p, b, w) -/
theorem m_ball (l : Launch) (D : va_G) (cA : Nat → ClassId) (A : Nat → Prop) (ad : Nat → Nat) (a : St) (th dd : Int32) (kp : Nat → Nat → Int32) (hI : Inv a) (p9 b9 m9 : Int) (hp : R31 p9) (hb : R31 b9) (hm : R31 m9) : Met l yX5_ball wsX5_ball ({ frames := 5, cells := 0, slots := 0, locals := 118 }) (PcG D (tysX cA) A (wM cA ad a th dd kp) [.ref (ad 0), .int (zI p9), .int (zI b9), .int (zI m9)]) (va_Qi (fun (r : Int32) ws' => (eBall a p9 b9 m9 = 0 → r = blV a p9.toNat b9 m9 ∧ ws' = wM cA ad (a) (zI 0) dd kp) ∧ (¬ eBall a p9 b9 m9 = 0 → ws' = wM cA ad a (zI (eBall a p9 b9 m9)) dd kp)) (gB D A) A) 0 0 A := by
  refine g_met (cc := cX5_ball) (maxL := 4) (ret := (some .int)) (own := RX5) rfl (by decide) rfl (Nat.le_of_ble_eq_true rfl) ?_
  intro p e s m below meth c E
  have hin5 : ∀ w ∈ u_ws RX5 TX5 19, w ∈ wsX5_ball := by decide +kernel
  obtain ⟨⟨hn0, hn6, hc0, hc3⟩, hPI, hCI, hFr⟩ := id hI
  obtain ⟨hp1, hp2⟩ := hp
  obtain ⟨hm1, hm2⟩ := hm
  obtain ⟨hb1, hb2⟩ := hb
  refine g_loc (lv' := [(0, .ref (ad 0)), (1, .int (zI p9)), (2, .int (zI b9)), (3, .int (zI m9))]) ⟨rfl, rfl, rfl, rfl, trivial⟩ ?_
  refine g_aload_n E dX5_ball_0 rfl ?_
  refine g_iconst E dX5_ball_1 ?_
  refine pm_M_thrown E  hin5 (by decide +kernel) dX5_ball_2 ?_
  refine g_aload_n E dX5_ball_5 rfl ?_
  refine g_iload_n E dX5_ball_6 rfl ?_
  refine g_callVi (T := TX5) (ci := 5) (n := 1) (As := [_]) (rest := _) E (m_isPile l D cA A ad _ _ _ _ _ (by omega) (by omega)) gX5_ball_X5_isPile rfl ⟨rfl, rfl⟩ (by decide +kernel) ⟨Nat.le_of_ble_eq_true rfl, Nat.le_of_ble_eq_true rfl⟩ obM rfl rfl rfl (Nat.le_of_ble_eq_true rfl) ⟨Nat.le_of_ble_eq_true rfl, Nat.le_of_ble_eq_true rfl⟩ dX5_ball_7 ?_
  rintro r_7 ws_7 ⟨rfl, rfl⟩
  refine g_if_eq (tgt := 38) E dX5_ball_10 (by decide) (by omega) (fun c_10 => ?_) (fun c_10 => ?_)
  · have hi10 := ite0 c_10
    refine g_aload_n E dX5_ball_38 rfl ?_
    refine g_iconst E dX5_ball_39 ?_
    refine g_callVi (T := TX5) (ci := 5) (n := 1) (As := [_]) (rest := _) E (m_fail l D cA A ad _ _ _ _ _) gX5_ball_X5_fail rfl ⟨rfl, rfl⟩ (by decide +kernel) ⟨Nat.le_of_ble_eq_true rfl, Nat.le_of_ble_eq_true rfl⟩ obM rfl rfl rfl (Nat.le_of_ble_eq_true rfl) ⟨Nat.le_of_ble_eq_true rfl, Nat.le_of_ble_eq_true rfl⟩ dX5_ball_40 ?_
    rintro r_40 ws_40 ⟨rfl, rfl⟩
    exact g_iret E ((by have hE : eBall a p9 b9 m9 = 1 := (by unfold eBall; repeat (first | rw [if_pos (by omega)] | rw [if_neg (by omega)])); exact ⟨fun z => absurd (hE.symm.trans z) (by decide), fun _ => (by rw [hE])⟩)) dX5_ball_43
  · have hi10 := ite1 c_10; have hPp := (hPI p9.toNat (by omega)).1; unfold PO at hPp; have hsp := sq_le (e := sd a p9.toNat) (by omega)
    refine g_iload_n E dX5_ball_13 rfl ?_
    refine g_iconst E dX5_ball_14 ?_
    refine g_aload_n E dX5_ball_15 rfl ?_
    refine gm_M_many E  hin5 (by decide +kernel) dX5_ball_16 ?_
    refine g_iload_n E dX5_ball_19 rfl ?_
    first | refine lm_manyN E (by omega) dX5_ball_20 ?_ | refine lm_many E (by omega) dX5_ball_20 ?_
    refine g_iconst E dX5_ball_21 ?_
    refine g_isub E dX5_ball_22 ?_
    refine g_callTi (n := 3) (As := [_, _, _]) (rest := _) E (m_isIn l D _ A _ _ _ _ (by omega)) gX5_ball_X5_isIn rfl ⟨rfl, rfl⟩ (by decide +kernel) ⟨Nat.le_of_ble_eq_true rfl, Nat.le_of_ble_eq_true rfl⟩ rfl rfl (Nat.le_of_ble_eq_true rfl) ⟨Nat.le_of_ble_eq_true rfl, Nat.le_of_ble_eq_true rfl⟩ dX5_ball_23 ?_
    rintro r_23 ws_23 ⟨rfl, rfl⟩
    refine g_if_eq (tgt := 38) E dX5_ball_26 (by decide) (by omega) (fun c_26 => ?_) (fun c_26 => ?_)
    · have hi26 := ite0 c_26
      refine g_aload_n E dX5_ball_38 rfl ?_
      refine g_iconst E dX5_ball_39 ?_
      refine g_callVi (T := TX5) (ci := 5) (n := 1) (As := [_]) (rest := _) E (m_fail l D cA A ad _ _ _ _ _) gX5_ball_X5_fail rfl ⟨rfl, rfl⟩ (by decide +kernel) ⟨Nat.le_of_ble_eq_true rfl, Nat.le_of_ble_eq_true rfl⟩ obM rfl rfl rfl (Nat.le_of_ble_eq_true rfl) ⟨Nat.le_of_ble_eq_true rfl, Nat.le_of_ble_eq_true rfl⟩ dX5_ball_40 ?_
      rintro r_40 ws_40 ⟨rfl, rfl⟩
      exact g_iret E ((by have hE : eBall a p9 b9 m9 = 1 := (by unfold eBall; repeat (first | rw [if_pos (by omega)] | rw [if_neg (by omega)])); exact ⟨fun z => absurd (hE.symm.trans z) (by decide), fun _ => (by rw [hE])⟩)) dX5_ball_43
    · have hi26 := ite1 c_26
      refine g_iload_n E dX5_ball_29 rfl ?_
      refine g_iconst E dX5_ball_30 ?_
      refine g_iconst E dX5_ball_31 ?_
      refine g_callTi (n := 3) (As := [_, _, _]) (rest := _) E (m_isIn l D _ A _ _ _ _ (by omega)) gX5_ball_X5_isIn rfl ⟨rfl, rfl⟩ (by decide +kernel) ⟨Nat.le_of_ble_eq_true rfl, Nat.le_of_ble_eq_true rfl⟩ rfl rfl (Nat.le_of_ble_eq_true rfl) ⟨Nat.le_of_ble_eq_true rfl, Nat.le_of_ble_eq_true rfl⟩ dX5_ball_32 ?_
      rintro r_32 ws_32 ⟨rfl, rfl⟩
      refine g_if_ne (tgt := 44) E dX5_ball_35 (by decide) (by omega) (fun c_35 => ?_) (fun c_35 => ?_)
      · have hi35 := ite1 c_35; obtain ⟨q9, rfl⟩ := Int.eq_ofNat_of_zero_le (show 0 ≤ p9 by omega); have hPC := hPI q9 (by omega); have hPO := hPC.1; have hcl := hPC.2; have hPb := hPO; unfold PO at hPb; have hsq := sq_le (e := sd a q9) (by omega); obtain ⟨b8, rfl⟩ := Int.eq_ofNat_of_zero_le (show 0 ≤ b9 by omega); have hi26b : 0 ≤ (b8 : Int) ∧ (b8 : Int) ≤ bl a q9 - 1 := hi26; have honb := onN_b (sd a q9) (bl a q9) b8
        refine g_iload_n E dX5_ball_44 rfl ?_
        refine g_if_ne (tgt := 57) E dX5_ball_45 (by decide) (by omega) (fun c_45 => ?_) (fun c_45 => ?_)
        · refine g_iload_n E dX5_ball_57 rfl ?_
          refine g_iconst E dX5_ball_58 ?_
          refine g_icmp_ge (tgt := 74) E dX5_ball_59 (by decide) (by omega) (by omega) (fun c_59 => ?_) (fun c_59 => ?_)
          · refine g_iload_n E dX5_ball_74 rfl ?_
            refine g_iconst E dX5_ball_75 ?_
            refine g_icmp_ne (tgt := 92) E dX5_ball_76 (by decide) (by omega) (by omega) (fun c_76 => ?_) (fun c_76 => ?_)
            · refine g_aload_n E dX5_ball_92 rfl ?_
              refine g_iload_n E dX5_ball_93 rfl ?_
              refine g_iload_n E dX5_ball_94 rfl ?_
              refine g_callVi (T := TX5) (ci := 5) (n := 2) (As := [_, _]) (rest := _) E (m_on l D cA A ad _ _ _ _ _ (by omega) (by assumption) _ (by omega)) gX5_ball_X5_on rfl ⟨rfl, rfl⟩ (by decide +kernel) ⟨Nat.le_of_ble_eq_true rfl, Nat.le_of_ble_eq_true rfl⟩ obM rfl rfl rfl (Nat.le_of_ble_eq_true rfl) ⟨Nat.le_of_ble_eq_true rfl, Nat.le_of_ble_eq_true rfl⟩ dX5_ball_95 ?_
              rintro r_95 ws_95 ⟨rfl, rfl⟩
              exact g_iret E ((by have hE : eBall a (q9 : Int) (b8 : Int) m9 = 0 := (by unfold eBall; show (if ¬ (0 ≤ (q9 : Int) ∧ (q9 : Int) < np a) then (1 : Int) else if ¬ (0 ≤ (b8 : Int) ∧ (b8 : Int) < bl a q9) then 1 else if ¬ (0 ≤ m9 ∧ m9 ≤ 5) then 1 else 0) = 0; repeat (first | rw [if_pos (by omega)] | rw [if_neg (by omega)])); exact ⟨fun _ => ⟨(by rcases (show m9 = 0 ∨ m9 = 1 ∨ m9 = 2 ∨ m9 = 3 ∨ m9 = 4 ∨ m9 = 5 by omega) with rfl | rfl | rfl | rfl | rfl | rfl <;> first | omega | rfl), rfl⟩, fun z => absurd hE z⟩)) dX5_ball_98
            · refine g_iconst E dX5_ball_79 ?_
              refine g_aload_n E dX5_ball_80 rfl ?_
              refine g_iload_n E dX5_ball_81 rfl ?_
              refine g_iload_n E dX5_ball_82 rfl ?_
              refine g_callVi (T := TX5) (ci := 5) (n := 2) (As := [_, _]) (rest := _) E (m_on l D cA A ad _ _ _ _ _ (by omega) (by assumption) _ (by omega)) gX5_ball_X5_on rfl ⟨rfl, rfl⟩ (by decide +kernel) ⟨Nat.le_of_ble_eq_true rfl, Nat.le_of_ble_eq_true rfl⟩ obM rfl rfl rfl (Nat.le_of_ble_eq_true rfl) ⟨Nat.le_of_ble_eq_true rfl, Nat.le_of_ble_eq_true rfl⟩ dX5_ball_83 ?_
              rintro r_83 ws_83 ⟨rfl, rfl⟩
              refine g_mmin E (by decide +kernel) (by decide +kernel) (by decide +kernel) (by decide +kernel) (Nat.le_of_ble_eq_true rfl) (Nat.le_of_ble_eq_true rfl) (Nat.le_of_ble_eq_true rfl) (Nat.le_of_ble_eq_true rfl) dX5_ball_86 ?_
              refine g_top (v' := .int (zI (if cv a q9 b8 then 1 else 0))) (congrArg Value.int ((mnz (by omega) (by omega)).trans (congrArg zI (minOn hPO ⟨by omega, by omega⟩)))) ?_
              refine g_goto (tgt := 98) E dX5_ball_89 (by decide) ?_
              exact g_iret E ((by have hE : eBall a (q9 : Int) (b8 : Int) m9 = 0 := (by unfold eBall; show (if ¬ (0 ≤ (q9 : Int) ∧ (q9 : Int) < np a) then (1 : Int) else if ¬ (0 ≤ (b8 : Int) ∧ (b8 : Int) < bl a q9) then 1 else if ¬ (0 ≤ m9 ∧ m9 ≤ 5) then 1 else 0) = 0; repeat (first | rw [if_pos (by omega)] | rw [if_neg (by omega)])); exact ⟨fun _ => ⟨(by rcases (show m9 = 0 ∨ m9 = 1 ∨ m9 = 2 ∨ m9 = 3 ∨ m9 = 4 ∨ m9 = 5 by omega) with rfl | rfl | rfl | rfl | rfl | rfl <;> first | omega | rfl), rfl⟩, fun z => absurd hE z⟩)) dX5_ball_98
          · refine g_aload_n E dX5_ball_62 rfl ?_
            refine g_iload_n E dX5_ball_63 rfl ?_
            refine g_iload_n E dX5_ball_64 rfl ?_
            refine g_iload_n E dX5_ball_65 rfl ?_
            refine g_iconst E dX5_ball_66 ?_
            refine g_isub E dX5_ball_67 ?_
            refine g_callVi (T := TX5) (ci := 5) (n := 3) (As := [_, _, _]) (rest := _) E (m_lies l D cA A ad _ _ _ _ _ (by omega) (by assumption) _ (by omega) _ (by omega)) gX5_ball_X5_lies rfl ⟨rfl, rfl⟩ (by decide +kernel) ⟨Nat.le_of_ble_eq_true rfl, Nat.le_of_ble_eq_true rfl⟩ obM rfl rfl rfl (Nat.le_of_ble_eq_true rfl) ⟨Nat.le_of_ble_eq_true rfl, Nat.le_of_ble_eq_true rfl⟩ dX5_ball_68 ?_
            rintro r_68 ws_68 ⟨rfl, rfl⟩
            refine g_goto (tgt := 98) E dX5_ball_71 (by decide) ?_
            exact g_iret E ((by have hE : eBall a (q9 : Int) (b8 : Int) m9 = 0 := (by unfold eBall; show (if ¬ (0 ≤ (q9 : Int) ∧ (q9 : Int) < np a) then (1 : Int) else if ¬ (0 ≤ (b8 : Int) ∧ (b8 : Int) < bl a q9) then 1 else if ¬ (0 ≤ m9 ∧ m9 ≤ 5) then 1 else 0) = 0; repeat (first | rw [if_pos (by omega)] | rw [if_neg (by omega)])); exact ⟨fun _ => ⟨(by rcases (show m9 = 0 ∨ m9 = 1 ∨ m9 = 2 ∨ m9 = 3 ∨ m9 = 4 ∨ m9 = 5 by omega) with rfl | rfl | rfl | rfl | rfl | rfl <;> first | omega | rfl), rfl⟩, fun z => absurd hE z⟩)) dX5_ball_98
        · refine g_aload_n E dX5_ball_48 rfl ?_
          refine g_iload_n E dX5_ball_49 rfl ?_
          refine g_iload_n E dX5_ball_50 rfl ?_
          refine g_callVi (T := TX5) (ci := 5) (n := 2) (As := [_, _]) (rest := _) E (m_rustOf l D cA A ad _ _ _ _ _ (by omega) b8 (by omega)) gX5_ball_X5_rustOf rfl ⟨rfl, rfl⟩ (by decide +kernel) ⟨Nat.le_of_ble_eq_true rfl, Nat.le_of_ble_eq_true rfl⟩ obM rfl rfl rfl (Nat.le_of_ble_eq_true rfl) ⟨Nat.le_of_ble_eq_true rfl, Nat.le_of_ble_eq_true rfl⟩ dX5_ball_51 ?_
          rintro r_51 ws_51 ⟨rfl, rfl⟩
          refine g_goto (tgt := 98) E dX5_ball_54 (by decide) ?_
          exact g_iret E ((by have hE : eBall a (q9 : Int) (b8 : Int) m9 = 0 := (by unfold eBall; show (if ¬ (0 ≤ (q9 : Int) ∧ (q9 : Int) < np a) then (1 : Int) else if ¬ (0 ≤ (b8 : Int) ∧ (b8 : Int) < bl a q9) then 1 else if ¬ (0 ≤ m9 ∧ m9 ≤ 5) then 1 else 0) = 0; repeat (first | rw [if_pos (by omega)] | rw [if_neg (by omega)])); exact ⟨fun _ => ⟨(by rcases (show m9 = 0 ∨ m9 = 1 ∨ m9 = 2 ∨ m9 = 3 ∨ m9 = 4 ∨ m9 = 5 by omega) with rfl | rfl | rfl | rfl | rfl | rfl <;> first | omega | rfl), rfl⟩, fun z => absurd hE z⟩)) dX5_ball_98
      · have hi35 := ite0 c_35
        refine g_aload_n E dX5_ball_38 rfl ?_
        refine g_iconst E dX5_ball_39 ?_
        refine g_callVi (T := TX5) (ci := 5) (n := 1) (As := [_]) (rest := _) E (m_fail l D cA A ad _ _ _ _ _) gX5_ball_X5_fail rfl ⟨rfl, rfl⟩ (by decide +kernel) ⟨Nat.le_of_ble_eq_true rfl, Nat.le_of_ble_eq_true rfl⟩ obM rfl rfl rfl (Nat.le_of_ble_eq_true rfl) ⟨Nat.le_of_ble_eq_true rfl, Nat.le_of_ble_eq_true rfl⟩ dX5_ball_40 ?_
        rintro r_40 ws_40 ⟨rfl, rfl⟩
        exact g_iret E ((by have hE : eBall a p9 b9 m9 = 1 := (by unfold eBall; repeat (first | rw [if_pos (by omega)] | rw [if_neg (by omega)])); exact ⟨fun z => absurd (hE.symm.trans z) (by decide), fun _ => (by rw [hE])⟩)) dX5_ball_43
set_option maxHeartbeats 800000 in
set_option maxRecDepth 100000 in
/-- at(p, k, r, q) -/
theorem m_at (l : Launch) (D : va_G) (cA : Nat → ClassId) (A : Nat → Prop) (ad : Nat → Nat) (a : St) (th dd : Int32) (kp : Nat → Nat → Int32) (hI : Inv a) (p9 k9 r9 c9 : Int) (hp : R31 p9) (hk : R31 k9) (hr : R31 r9) (hc : R31 c9) : Met l yX5_at wsX5_at ({ frames := 3, cells := 0, slots := 0, locals := 68 }) (PcG D (tysX cA) A (wM cA ad a th dd kp) [.ref (ad 0), .int (zI p9), .int (zI k9), .int (zI r9), .int (zI c9)]) (va_Qi (fun (r : Int32) ws' => (eAt a p9 k9 r9 c9 = 0 → r = zI (atV a p9.toNat k9 r9 c9) ∧ ws' = wM cA ad (a) (zI 0) dd kp) ∧ (¬ eAt a p9 k9 r9 c9 = 0 → ws' = wM cA ad a (zI (eAt a p9 k9 r9 c9)) dd kp)) (gB D A) A) 0 0 A := by
  refine g_met (cc := cX5_at) (maxL := 6) (ret := (some .int)) (own := RX5) rfl (by decide) rfl (Nat.le_of_ble_eq_true rfl) ?_
  intro p e s m below meth c E
  have hin5 : ∀ w ∈ u_ws RX5 TX5 19, w ∈ wsX5_at := by decide +kernel
  obtain ⟨⟨hn0, hn6, hc0, hc3⟩, hPI, hCI, hFr⟩ := id hI
  obtain ⟨hp1, hp2⟩ := hp
  obtain ⟨hk1, hk2⟩ := hk
  obtain ⟨hr1, hr2⟩ := hr
  obtain ⟨hc1, hc2⟩ := hc
  refine g_loc (lv' := [(0, .ref (ad 0)), (1, .int (zI p9)), (2, .int (zI k9)), (3, .int (zI r9)), (4, .int (zI c9))]) ⟨rfl, rfl, rfl, rfl, rfl, trivial⟩ ?_
  refine g_aload_n E dX5_at_0 rfl ?_
  refine g_iconst E dX5_at_1 ?_
  refine pm_M_thrown E  hin5 (by decide +kernel) dX5_at_2 ?_
  refine g_aload_n E dX5_at_5 rfl ?_
  refine g_iload_n E dX5_at_6 rfl ?_
  refine g_callVi (T := TX5) (ci := 5) (n := 1) (As := [_]) (rest := _) E (m_isPile l D cA A ad _ _ _ _ _ (by omega) (by omega)) gX5_at_X5_isPile rfl ⟨rfl, rfl⟩ (by decide +kernel) ⟨Nat.le_of_ble_eq_true rfl, Nat.le_of_ble_eq_true rfl⟩ obM rfl rfl rfl (Nat.le_of_ble_eq_true rfl) ⟨Nat.le_of_ble_eq_true rfl, Nat.le_of_ble_eq_true rfl⟩ dX5_at_7 ?_
  rintro r_7 ws_7 ⟨rfl, rfl⟩
  refine g_if_eq (tgt := 29) E dX5_at_10 (by decide) (by omega) (fun c_10 => ?_) (fun c_10 => ?_)
  · have hi10 := ite0 c_10
    refine g_aload_n E dX5_at_29 rfl ?_
    refine g_iconst E dX5_at_30 ?_
    refine g_callVi (T := TX5) (ci := 5) (n := 1) (As := [_]) (rest := _) E (m_fail l D cA A ad _ _ _ _ _) gX5_at_X5_fail rfl ⟨rfl, rfl⟩ (by decide +kernel) ⟨Nat.le_of_ble_eq_true rfl, Nat.le_of_ble_eq_true rfl⟩ obM rfl rfl rfl (Nat.le_of_ble_eq_true rfl) ⟨Nat.le_of_ble_eq_true rfl, Nat.le_of_ble_eq_true rfl⟩ dX5_at_31 ?_
    rintro r_31 ws_31 ⟨rfl, rfl⟩
    exact g_iret E ((by have hE : eAt a p9 k9 r9 c9 = 1 := (by unfold eAt; repeat (first | rw [if_pos (by omega)] | rw [if_neg (by omega)])); exact ⟨fun z => absurd (hE.symm.trans z) (by decide), fun _ => (by rw [hE])⟩)) dX5_at_34
  · have hi10 := ite1 c_10; have hPp := (hPI p9.toNat (by omega)).1; unfold PO at hPp; have hsp := sq_le (e := sd a p9.toNat) (by omega)
    refine g_iload_n E dX5_at_13 rfl ?_
    refine g_iconst E dX5_at_14 ?_
    refine g_aload_n E dX5_at_15 rfl ?_
    refine gm_M_sides E  hin5 (by decide +kernel) dX5_at_16 ?_
    refine g_iload_n E dX5_at_19 rfl ?_
    first | refine lm_sidesN E (by omega) dX5_at_20 ?_ | refine lm_sides E (by omega) dX5_at_20 ?_
    refine g_iconst E dX5_at_21 ?_
    refine g_isub E dX5_at_22 ?_
    refine g_callTi (n := 3) (As := [_, _, _]) (rest := _) E (m_isIn l D _ A _ _ _ _ (by omega)) gX5_at_X5_isIn rfl ⟨rfl, rfl⟩ (by decide +kernel) ⟨Nat.le_of_ble_eq_true rfl, Nat.le_of_ble_eq_true rfl⟩ rfl rfl (Nat.le_of_ble_eq_true rfl) ⟨Nat.le_of_ble_eq_true rfl, Nat.le_of_ble_eq_true rfl⟩ dX5_at_23 ?_
    rintro r_23 ws_23 ⟨rfl, rfl⟩
    refine g_if_ne (tgt := 35) E dX5_at_26 (by decide) (by omega) (fun c_26 => ?_) (fun c_26 => ?_)
    · have hi26 := ite1 c_26
      refine g_aload_n E dX5_at_35 rfl ?_
      refine gm_M_sides E  hin5 (by decide +kernel) dX5_at_36 ?_
      refine g_iload_n E dX5_at_39 rfl ?_
      first | refine lm_sidesN E (by omega) dX5_at_40 ?_ | refine lm_sides E (by omega) dX5_at_40 ?_
      refine g_iload_n E dX5_at_41 rfl ?_
      refine g_isub E dX5_at_42 ?_
      refine g_istore E dX5_at_43 (by decide) ?_
      refine g_iload_n E dX5_at_45 rfl ?_
      refine g_iconst E dX5_at_46 ?_
      refine g_iload E dX5_at_47 rfl ?_
      refine g_iconst E dX5_at_49 ?_
      refine g_isub E dX5_at_50 ?_
      refine g_callTi (n := 3) (As := [_, _, _]) (rest := _) E (m_isIn l D _ A _ _ _ _ (by omega)) gX5_at_X5_isIn rfl ⟨rfl, rfl⟩ (by decide +kernel) ⟨Nat.le_of_ble_eq_true rfl, Nat.le_of_ble_eq_true rfl⟩ rfl rfl (Nat.le_of_ble_eq_true rfl) ⟨Nat.le_of_ble_eq_true rfl, Nat.le_of_ble_eq_true rfl⟩ dX5_at_51 ?_
      rintro r_51 ws_51 ⟨rfl, rfl⟩
      refine g_if_eq (tgt := 82) E dX5_at_54 (by decide) (by omega) (fun c_54 => ?_) (fun c_54 => ?_)
      · have hi54 := ite0 c_54
        refine g_aload_n E dX5_at_82 rfl ?_
        refine g_iconst E dX5_at_83 ?_
        refine g_callVi (T := TX5) (ci := 5) (n := 1) (As := [_]) (rest := _) E (m_fail l D cA A ad _ _ _ _ _) gX5_at_X5_fail rfl ⟨rfl, rfl⟩ (by decide +kernel) ⟨Nat.le_of_ble_eq_true rfl, Nat.le_of_ble_eq_true rfl⟩ obM rfl rfl rfl (Nat.le_of_ble_eq_true rfl) ⟨Nat.le_of_ble_eq_true rfl, Nat.le_of_ble_eq_true rfl⟩ dX5_at_84 ?_
        rintro r_84 ws_84 ⟨rfl, rfl⟩
        have hX : eAt a p9 k9 r9 c9 = 1 := (by unfold eAt; repeat (first | rw [if_pos (by omega)] | rw [if_neg (by omega)]))
        exact g_iret E ((by first | exact ⟨fun z => absurd (hX.symm.trans z) (by decide), fun _ => (by rw [hX])⟩ | exact ⟨fun _ => ⟨congrArg zI (bAt_at (by omega)), rfl⟩, fun z => absurd hX z⟩)) dX5_at_87
      · have hi54 := ite1 c_54
        refine g_iload E dX5_at_57 rfl ?_
        refine g_iconst E dX5_at_59 ?_
        refine g_iload E dX5_at_60 rfl ?_
        refine g_iconst E dX5_at_62 ?_
        refine g_isub E dX5_at_63 ?_
        refine g_callTi (n := 3) (As := [_, _, _]) (rest := _) E (m_isIn l D _ A _ _ _ _ (by omega)) gX5_at_X5_isIn rfl ⟨rfl, rfl⟩ (by decide +kernel) ⟨Nat.le_of_ble_eq_true rfl, Nat.le_of_ble_eq_true rfl⟩ rfl rfl (Nat.le_of_ble_eq_true rfl) ⟨Nat.le_of_ble_eq_true rfl, Nat.le_of_ble_eq_true rfl⟩ dX5_at_64 ?_
        rintro r_64 ws_64 ⟨rfl, rfl⟩
        refine g_if_eq (tgt := 82) E dX5_at_67 (by decide) (by omega) (fun c_67 => ?_) (fun c_67 => ?_)
        · have hi67 := ite0 c_67
          refine g_aload_n E dX5_at_82 rfl ?_
          refine g_iconst E dX5_at_83 ?_
          refine g_callVi (T := TX5) (ci := 5) (n := 1) (As := [_]) (rest := _) E (m_fail l D cA A ad _ _ _ _ _) gX5_at_X5_fail rfl ⟨rfl, rfl⟩ (by decide +kernel) ⟨Nat.le_of_ble_eq_true rfl, Nat.le_of_ble_eq_true rfl⟩ obM rfl rfl rfl (Nat.le_of_ble_eq_true rfl) ⟨Nat.le_of_ble_eq_true rfl, Nat.le_of_ble_eq_true rfl⟩ dX5_at_84 ?_
          rintro r_84 ws_84 ⟨rfl, rfl⟩
          have hX : eAt a p9 k9 r9 c9 = 1 := (by unfold eAt; repeat (first | rw [if_pos (by omega)] | rw [if_neg (by omega)]))
          exact g_iret E ((by first | exact ⟨fun z => absurd (hX.symm.trans z) (by decide), fun _ => (by rw [hX])⟩ | exact ⟨fun _ => ⟨congrArg zI (bAt_at (by omega)), rfl⟩, fun z => absurd hX z⟩)) dX5_at_87
        · have hi67 := ite1 c_67; obtain ⟨q9, rfl⟩ := Int.eq_ofNat_of_zero_le (show 0 ≤ p9 by omega); have hPC := hPI q9 (by omega); have hPO := hPC.1; have hcl := hPC.2; have hPb := hPO; unfold PO at hPb; have hsq := sq_le (e := sd a q9) (by omega); have hi26b : 0 ≤ k9 ∧ k9 ≤ sd a q9 - 1 := hi26; have hi54b : 0 ≤ r9 ∧ r9 ≤ sd a q9 - k9 - 1 := hi54; have hi67b : 0 ≤ c9 ∧ c9 ≤ sd a q9 - k9 - 1 := hi67
          refine g_aload_n E dX5_at_70 rfl ?_
          refine g_iload_n E dX5_at_71 rfl ?_
          refine g_iload_n E dX5_at_72 rfl ?_
          refine g_iload_n E dX5_at_73 rfl ?_
          refine g_iload E dX5_at_74 rfl ?_
          refine g_callVi (T := TX5) (ci := 5) (n := 4) (As := [_, _, _, _]) (rest := _) E (m_ballAt l D cA A ad _ _ _ _ _ (by omega) (by assumption) _ _ _ (by omega)) gX5_at_X5_ballAt rfl ⟨rfl, rfl⟩ (by decide +kernel) ⟨Nat.le_of_ble_eq_true rfl, Nat.le_of_ble_eq_true rfl⟩ obM rfl rfl rfl (Nat.le_of_ble_eq_true rfl) ⟨Nat.le_of_ble_eq_true rfl, Nat.le_of_ble_eq_true rfl⟩ dX5_at_76 ?_
          rintro r_76 ws_76 ⟨rfl, rfl⟩
          have hX : eAt a (q9 : Int) k9 r9 c9 = 0 := (by unfold eAt; show (if ¬ (0 ≤ (q9 : Int) ∧ (q9 : Int) < np a) then (1 : Int) else if ¬ (0 ≤ k9 ∧ k9 < sd a q9) then 1 else if ¬ (0 ≤ r9 ∧ r9 < sd a q9 - k9) then 1 else if ¬ (0 ≤ c9 ∧ c9 < sd a q9 - k9) then 1 else 0) = 0; repeat (first | rw [if_pos (by omega)] | rw [if_neg (by omega)]))
          refine g_goto (tgt := 87) E dX5_at_79 (by decide) ?_
          exact g_iret E ((by first | exact ⟨fun z => absurd (hX.symm.trans z) (by decide), fun _ => (by rw [hX])⟩ | exact ⟨fun _ => ⟨congrArg zI (bAt_at (by omega)), rfl⟩, fun z => absurd hX z⟩)) dX5_at_87
    · have hi26 := ite0 c_26
      refine g_aload_n E dX5_at_29 rfl ?_
      refine g_iconst E dX5_at_30 ?_
      refine g_callVi (T := TX5) (ci := 5) (n := 1) (As := [_]) (rest := _) E (m_fail l D cA A ad _ _ _ _ _) gX5_at_X5_fail rfl ⟨rfl, rfl⟩ (by decide +kernel) ⟨Nat.le_of_ble_eq_true rfl, Nat.le_of_ble_eq_true rfl⟩ obM rfl rfl rfl (Nat.le_of_ble_eq_true rfl) ⟨Nat.le_of_ble_eq_true rfl, Nat.le_of_ble_eq_true rfl⟩ dX5_at_31 ?_
      rintro r_31 ws_31 ⟨rfl, rfl⟩
      exact g_iret E ((by have hE : eAt a p9 k9 r9 c9 = 1 := (by unfold eAt; repeat (first | rw [if_pos (by omega)] | rw [if_neg (by omega)])); exact ⟨fun z => absurd (hE.symm.trans z) (by decide), fun _ => (by rw [hE])⟩)) dX5_at_34
set_option maxHeartbeats 800000 in
set_option maxRecDepth 100000 in
/-- told(c, w) -/
theorem m_told (l : Launch) (D : va_G) (cA : Nat → ClassId) (A : Nat → Prop) (ad : Nat → Nat) (a : St) (th dd : Int32) (kp : Nat → Nat → Int32) (hI : Inv a) (p9 m9 : Int) (hp : R31 p9) (hm : R31 m9) : Met l yX5_told wsX5_told ({ frames := 2, cells := 0, slots := 0, locals := 45 }) (PcG D (tysX cA) A (wM cA ad a th dd kp) [.ref (ad 0), .int (zI p9), .int (zI m9)]) (va_Qi (fun (r : Int32) ws' => (eTold p9 m9 = 0 → r = toV a p9 m9 ∧ ws' = wM cA ad (a) (zI 0) dd kp) ∧ (¬ eTold p9 m9 = 0 → ws' = wM cA ad a (zI (eTold p9 m9)) dd kp)) (gB D A) A) 0 0 A := by
  refine g_met (cc := cX5_told) (maxL := 3) (ret := (some .int)) (own := RX5) rfl (by decide) rfl (Nat.le_of_ble_eq_true rfl) ?_
  intro p e s m below meth c E
  have hin5 : ∀ w ∈ u_ws RX5 TX5 19, w ∈ wsX5_told := by decide +kernel
  obtain ⟨⟨hn0, hn6, hc0, hc3⟩, hPI, hCI, hFr⟩ := id hI
  obtain ⟨hp1, hp2⟩ := hp
  obtain ⟨hm1, hm2⟩ := hm
  refine g_loc (lv' := [(0, .ref (ad 0)), (1, .int (zI p9)), (2, .int (zI m9))]) ⟨rfl, rfl, rfl, trivial⟩ ?_
  refine g_aload_n E dX5_told_0 rfl ?_
  refine g_iconst E dX5_told_1 ?_
  refine pm_M_thrown E  hin5 (by decide +kernel) dX5_told_2 ?_
  refine g_iload_n E dX5_told_5 rfl ?_
  refine g_callTi (n := 1) (As := [_]) (rest := _) E (m_isCalibre l D _ A _ _ (by omega)) gX5_told_X5_isCalibre rfl ⟨rfl, rfl⟩ (by decide +kernel) ⟨Nat.le_of_ble_eq_true rfl, Nat.le_of_ble_eq_true rfl⟩ rfl rfl (Nat.le_of_ble_eq_true rfl) ⟨Nat.le_of_ble_eq_true rfl, Nat.le_of_ble_eq_true rfl⟩ dX5_told_6 ?_
  rintro r_6 ws_6 ⟨rfl, rfl⟩
  refine g_if_eq (tgt := 30) E dX5_told_9 (by decide) (by omega) (fun c_9 => ?_) (fun c_9 => ?_)
  · have hi9 := ite0 c_9
    refine g_aload_n E dX5_told_30 rfl ?_
    refine g_iconst E dX5_told_31 ?_
    refine g_callVi (T := TX5) (ci := 5) (n := 1) (As := [_]) (rest := _) E (m_fail l D cA A ad _ _ _ _ _) gX5_told_X5_fail rfl ⟨rfl, rfl⟩ (by decide +kernel) ⟨Nat.le_of_ble_eq_true rfl, Nat.le_of_ble_eq_true rfl⟩ obM rfl rfl rfl (Nat.le_of_ble_eq_true rfl) ⟨Nat.le_of_ble_eq_true rfl, Nat.le_of_ble_eq_true rfl⟩ dX5_told_32 ?_
    rintro r_32 ws_32 ⟨rfl, rfl⟩
    have hX : eTold p9 m9 = 1 := (by unfold eTold; repeat (first | rw [if_pos (by omega)] | rw [if_neg (by omega)]))
    exact g_iret E ((by first | exact ⟨fun z => absurd (hX.symm.trans z) (by decide), fun _ => (by rw [hX])⟩ | exact ⟨fun _ => ⟨rfl, rfl⟩, fun z => absurd hX z⟩)) dX5_told_35
  · have hi9 := ite1 c_9
    refine g_iload_n E dX5_told_12 rfl ?_
    refine g_iconst E dX5_told_13 ?_
    refine g_iconst E dX5_told_14 ?_
    refine g_callTi (n := 3) (As := [_, _, _]) (rest := _) E (m_isIn l D _ A _ _ _ _ (by omega)) gX5_told_X5_isIn rfl ⟨rfl, rfl⟩ (by decide +kernel) ⟨Nat.le_of_ble_eq_true rfl, Nat.le_of_ble_eq_true rfl⟩ rfl rfl (Nat.le_of_ble_eq_true rfl) ⟨Nat.le_of_ble_eq_true rfl, Nat.le_of_ble_eq_true rfl⟩ dX5_told_15 ?_
    rintro r_15 ws_15 ⟨rfl, rfl⟩
    refine g_if_eq (tgt := 30) E dX5_told_18 (by decide) (by omega) (fun c_18 => ?_) (fun c_18 => ?_)
    · have hi18 := ite0 c_18
      refine g_aload_n E dX5_told_30 rfl ?_
      refine g_iconst E dX5_told_31 ?_
      refine g_callVi (T := TX5) (ci := 5) (n := 1) (As := [_]) (rest := _) E (m_fail l D cA A ad _ _ _ _ _) gX5_told_X5_fail rfl ⟨rfl, rfl⟩ (by decide +kernel) ⟨Nat.le_of_ble_eq_true rfl, Nat.le_of_ble_eq_true rfl⟩ obM rfl rfl rfl (Nat.le_of_ble_eq_true rfl) ⟨Nat.le_of_ble_eq_true rfl, Nat.le_of_ble_eq_true rfl⟩ dX5_told_32 ?_
      rintro r_32 ws_32 ⟨rfl, rfl⟩
      have hX : eTold p9 m9 = 1 := (by unfold eTold; repeat (first | rw [if_pos (by omega)] | rw [if_neg (by omega)]))
      exact g_iret E ((by first | exact ⟨fun z => absurd (hX.symm.trans z) (by decide), fun _ => (by rw [hX])⟩ | exact ⟨fun _ => ⟨rfl, rfl⟩, fun z => absurd hX z⟩)) dX5_told_35
    · have hi18 := ite1 c_18; obtain ⟨q9, rfl⟩ := Int.eq_ofNat_of_zero_le (show 0 ≤ p9 by omega)
      refine g_aload_n E dX5_told_21 rfl ?_
      refine g_iload_n E dX5_told_22 rfl ?_
      refine g_iload_n E dX5_told_23 rfl ?_
      refine g_callVi (T := TX5) (ci := 5) (n := 2) (As := [_, _]) (rest := _) E (m_calibreTold l D cA A ad _ _ _ _ (by assumption) _ (by omega) _ (by omega)) gX5_told_X5_calibreTold rfl ⟨rfl, rfl⟩ (by decide +kernel) ⟨Nat.le_of_ble_eq_true rfl, Nat.le_of_ble_eq_true rfl⟩ obM rfl rfl rfl (Nat.le_of_ble_eq_true rfl) ⟨Nat.le_of_ble_eq_true rfl, Nat.le_of_ble_eq_true rfl⟩ dX5_told_24 ?_
      rintro r_24 ws_24 ⟨rfl, rfl⟩
      have hX : eTold (q9 : Int) m9 = 0 := (by unfold eTold; repeat (first | rw [if_pos (by omega)] | rw [if_neg (by omega)]))
      refine g_goto (tgt := 35) E dX5_told_27 (by decide) ?_
      exact g_iret E ((by first | exact ⟨fun z => absurd (hX.symm.trans z) (by decide), fun _ => (by rw [hX])⟩ | exact ⟨fun _ => ⟨rfl, rfl⟩, fun z => absurd hX z⟩)) dX5_told_35
set_option maxHeartbeats 800000 in
set_option maxRecDepth 100000 in
/-- mouser(c, w) -/
theorem m_mouser (l : Launch) (D : va_G) (cA : Nat → ClassId) (A : Nat → Prop) (ad : Nat → Nat) (a : St) (th dd : Int32) (kp : Nat → Nat → Int32) (hI : Inv a) (p9 m9 : Int) (hp : R31 p9) (hm : R31 m9) : Met l yX5_mouser wsX5_mouser ({ frames := 1, cells := 0, slots := 0, locals := 22 }) (PcG D (tysX cA) A (wM cA ad a th dd kp) [.ref (ad 0), .int (zI p9), .int (zI m9)]) (va_Qi (fun (r : Int32) ws' => (eMou a p9 m9 = 0 → r = moV a p9.toNat m9 ∧ ws' = wM cA ad (a) (zI 0) dd kp) ∧ (¬ eMou a p9 m9 = 0 → ws' = wM cA ad a (zI (eMou a p9 m9)) dd kp)) (gB D A) A) 0 0 A := by
  refine g_met (cc := cX5_mouser) (maxL := 3) (ret := (some .int)) (own := RX5) rfl (by decide) rfl (Nat.le_of_ble_eq_true rfl) ?_
  intro p e s m below meth c E
  have hin5 : ∀ w ∈ u_ws RX5 TX5 19, w ∈ wsX5_mouser := by decide +kernel
  obtain ⟨⟨hn0, hn6, hc0, hc3⟩, hPI, hCI, hFr⟩ := id hI
  obtain ⟨hp1, hp2⟩ := hp
  obtain ⟨hm1, hm2⟩ := hm
  refine g_loc (lv' := [(0, .ref (ad 0)), (1, .int (zI p9)), (2, .int (zI m9))]) ⟨rfl, rfl, rfl, trivial⟩ ?_
  refine g_aload_n E dX5_mouser_0 rfl ?_
  refine g_iconst E dX5_mouser_1 ?_
  refine pm_M_thrown E  hin5 (by decide +kernel) dX5_mouser_2 ?_
  refine g_iload_n E dX5_mouser_5 rfl ?_
  refine g_iconst E dX5_mouser_6 ?_
  refine g_aload_n E dX5_mouser_7 rfl ?_
  refine gm_M_cats E  hin5 (by decide +kernel) dX5_mouser_8 ?_
  refine g_iconst E dX5_mouser_11 ?_
  refine g_isub E dX5_mouser_12 ?_
  refine g_callTi (n := 3) (As := [_, _, _]) (rest := _) E (m_isIn l D _ A _ _ _ _ (by omega)) gX5_mouser_X5_isIn rfl ⟨rfl, rfl⟩ (by decide +kernel) ⟨Nat.le_of_ble_eq_true rfl, Nat.le_of_ble_eq_true rfl⟩ rfl rfl (Nat.le_of_ble_eq_true rfl) ⟨Nat.le_of_ble_eq_true rfl, Nat.le_of_ble_eq_true rfl⟩ dX5_mouser_13 ?_
  rintro r_13 ws_13 ⟨rfl, rfl⟩
  refine g_if_eq (tgt := 37) E dX5_mouser_16 (by decide) (by omega) (fun c_16 => ?_) (fun c_16 => ?_)
  · have hi16 := ite0 c_16
    refine g_aload_n E dX5_mouser_37 rfl ?_
    refine g_iconst E dX5_mouser_38 ?_
    refine g_callVi (T := TX5) (ci := 5) (n := 1) (As := [_]) (rest := _) E (m_fail l D cA A ad _ _ _ _ _) gX5_mouser_X5_fail rfl ⟨rfl, rfl⟩ (by decide +kernel) ⟨Nat.le_of_ble_eq_true rfl, Nat.le_of_ble_eq_true rfl⟩ obM rfl rfl rfl (Nat.le_of_ble_eq_true rfl) ⟨Nat.le_of_ble_eq_true rfl, Nat.le_of_ble_eq_true rfl⟩ dX5_mouser_39 ?_
    rintro r_39 ws_39 ⟨rfl, rfl⟩
    have hX : eMou a p9 m9 = 1 := (by unfold eMou; repeat (first | rw [if_pos (by omega)] | rw [if_neg (by omega)]))
    exact g_iret E ((by first | exact ⟨fun z => absurd (hX.symm.trans z) (by decide), fun _ => (by rw [hX])⟩ | exact ⟨fun _ => ⟨rfl, rfl⟩, fun z => absurd hX z⟩)) dX5_mouser_42
  · have hi16 := ite1 c_16
    refine g_iload_n E dX5_mouser_19 rfl ?_
    refine g_iconst E dX5_mouser_20 ?_
    refine g_iconst E dX5_mouser_21 ?_
    refine g_callTi (n := 3) (As := [_, _, _]) (rest := _) E (m_isIn l D _ A _ _ _ _ (by omega)) gX5_mouser_X5_isIn rfl ⟨rfl, rfl⟩ (by decide +kernel) ⟨Nat.le_of_ble_eq_true rfl, Nat.le_of_ble_eq_true rfl⟩ rfl rfl (Nat.le_of_ble_eq_true rfl) ⟨Nat.le_of_ble_eq_true rfl, Nat.le_of_ble_eq_true rfl⟩ dX5_mouser_22 ?_
    rintro r_22 ws_22 ⟨rfl, rfl⟩
    refine g_if_eq (tgt := 37) E dX5_mouser_25 (by decide) (by omega) (fun c_25 => ?_) (fun c_25 => ?_)
    · have hi25 := ite0 c_25
      refine g_aload_n E dX5_mouser_37 rfl ?_
      refine g_iconst E dX5_mouser_38 ?_
      refine g_callVi (T := TX5) (ci := 5) (n := 1) (As := [_]) (rest := _) E (m_fail l D cA A ad _ _ _ _ _) gX5_mouser_X5_fail rfl ⟨rfl, rfl⟩ (by decide +kernel) ⟨Nat.le_of_ble_eq_true rfl, Nat.le_of_ble_eq_true rfl⟩ obM rfl rfl rfl (Nat.le_of_ble_eq_true rfl) ⟨Nat.le_of_ble_eq_true rfl, Nat.le_of_ble_eq_true rfl⟩ dX5_mouser_39 ?_
      rintro r_39 ws_39 ⟨rfl, rfl⟩
      have hX : eMou a p9 m9 = 1 := (by unfold eMou; repeat (first | rw [if_pos (by omega)] | rw [if_neg (by omega)]))
      exact g_iret E ((by first | exact ⟨fun z => absurd (hX.symm.trans z) (by decide), fun _ => (by rw [hX])⟩ | exact ⟨fun _ => ⟨rfl, rfl⟩, fun z => absurd hX z⟩)) dX5_mouser_42
    · have hi25 := ite1 c_25; obtain ⟨q9, rfl⟩ := Int.eq_ofNat_of_zero_le (show 0 ≤ p9 by omega); have hci := hCI q9 (by omega); unfold CI at hci; have hlp : ¬ a 3 q9 0 = 0 := fun q => absurd hci.1 (by rw [lp, q]; decide)
      refine g_aload_n E dX5_mouser_28 rfl ?_
      refine g_iload_n E dX5_mouser_29 rfl ?_
      refine g_iload_n E dX5_mouser_30 rfl ?_
      refine g_callVi (T := TX5) (ci := 5) (n := 2) (As := [_, _]) (rest := _) E (m_catTold l D cA A ad _ _ _ _ _ (by omega) (by assumption) _ (by omega)) gX5_mouser_X5_catTold rfl ⟨rfl, rfl⟩ (by decide +kernel) ⟨Nat.le_of_ble_eq_true rfl, Nat.le_of_ble_eq_true rfl⟩ obM rfl rfl rfl (Nat.le_of_ble_eq_true rfl) ⟨Nat.le_of_ble_eq_true rfl, Nat.le_of_ble_eq_true rfl⟩ dX5_mouser_31 ?_
      rintro r_31 ws_31 ⟨rfl, rfl⟩
      have hX : eMou a (q9 : Int) m9 = 0 := (by unfold eMou; repeat (first | rw [if_pos (by omega)] | rw [if_neg (by omega)]))
      refine g_goto (tgt := 42) E dX5_mouser_34 (by decide) ?_
      exact g_iret E ((by first | exact ⟨fun z => absurd (hX.symm.trans z) (by decide), fun _ => (by rw [hX])⟩ | exact ⟨fun _ => ⟨rfl, rfl⟩, fun z => absurd hX z⟩)) dX5_mouser_42
set_option maxHeartbeats 800000 in
set_option maxRecDepth 100000 in
/-- count(w) -/
theorem m_count (l : Launch) (D : va_G) (cA : Nat → ClassId) (A : Nat → Prop) (ad : Nat → Nat) (a : St) (th dd : Int32) (kp : Nat → Nat → Int32) (hI : Inv a) (hdd : dd = a 0 0 2) (p9 : Int) (hp : R31 p9) : Met l yX5_count wsX5_count ({ frames := 4, cells := 0, slots := 0, locals := 91 }) (PcG D (tysX cA) A (wM cA ad a th dd kp) [.ref (ad 0), .int (zI p9)]) (va_Qi (fun (r : Int32) ws' => (eCnt p9 = 0 → r = coV a p9 ∧ ws' = wM cA ad (a) (zI 0) dd kp) ∧ (¬ eCnt p9 = 0 → ws' = wM cA ad a (zI (eCnt p9)) dd kp)) (gB D A) A) 0 0 A := by
  refine g_met (cc := cX5_count) (maxL := 2) (ret := (some .int)) (own := RX5) rfl (by decide) rfl (Nat.le_of_ble_eq_true rfl) ?_
  intro p e s m below meth c E
  have hin5 : ∀ w ∈ u_ws RX5 TX5 19, w ∈ wsX5_count := by decide +kernel
  obtain ⟨⟨hn0, hn6, hc0, hc3⟩, hPI, hCI, hFr⟩ := id hI
  obtain ⟨hp1, hp2⟩ := hp
  refine g_loc (lv' := [(0, .ref (ad 0)), (1, .int (zI p9))]) ⟨rfl, rfl, trivial⟩ ?_
  refine g_aload_n E dX5_count_0 rfl ?_
  refine g_iconst E dX5_count_1 ?_
  refine pm_M_thrown E  hin5 (by decide +kernel) dX5_count_2 ?_
  refine g_iload_n E dX5_count_5 rfl ?_
  refine g_iconst E dX5_count_6 ?_
  refine g_bipush E dX5_count_7 (by decide) ?_
  refine g_callTi (n := 3) (As := [_, _, _]) (rest := _) E (m_isIn l D _ A _ _ _ _ (by omega)) gX5_count_X5_isIn rfl ⟨rfl, rfl⟩ (by decide +kernel) ⟨Nat.le_of_ble_eq_true rfl, Nat.le_of_ble_eq_true rfl⟩ rfl rfl (Nat.le_of_ble_eq_true rfl) ⟨Nat.le_of_ble_eq_true rfl, Nat.le_of_ble_eq_true rfl⟩ dX5_count_9 ?_
  rintro r_9 ws_9 ⟨rfl, rfl⟩
  refine g_if_eq (tgt := 23) E dX5_count_12 (by decide) (by omega) (fun c_12 => ?_) (fun c_12 => ?_)
  · have hi12 := ite0 c_12
    refine g_aload_n E dX5_count_23 rfl ?_
    refine g_iconst E dX5_count_24 ?_
    refine g_callVi (T := TX5) (ci := 5) (n := 1) (As := [_]) (rest := _) E (m_fail l D cA A ad _ _ _ _ _) gX5_count_X5_fail rfl ⟨rfl, rfl⟩ (by decide +kernel) ⟨Nat.le_of_ble_eq_true rfl, Nat.le_of_ble_eq_true rfl⟩ obM rfl rfl rfl (Nat.le_of_ble_eq_true rfl) ⟨Nat.le_of_ble_eq_true rfl, Nat.le_of_ble_eq_true rfl⟩ dX5_count_25 ?_
    rintro r_25 ws_25 ⟨rfl, rfl⟩
    have hX : eCnt p9 = 1 := (by unfold eCnt; repeat (first | rw [if_pos (by omega)] | rw [if_neg (by omega)]))
    exact g_iret E ((by first | exact ⟨fun z => absurd (hX.symm.trans z) (by decide), fun _ => (by rw [hX])⟩ | exact ⟨fun _ => ⟨rfl, rfl⟩, fun z => absurd hX z⟩)) dX5_count_28
  · have hi12 := ite1 c_12
    refine g_aload_n E dX5_count_15 rfl ?_
    refine g_iload_n E dX5_count_16 rfl ?_
    have hX : eCnt p9 = 0 := (by unfold eCnt; repeat (first | rw [if_pos (by omega)] | rw [if_neg (by omega)]))
    refine g_callVi (T := TX5) (ci := 5) (n := 1) (As := [_]) (rest := _) E (m_counted l D cA A ad _ _ _ _ (by assumption) _ (by omega) (fun _ => hdd)) gX5_count_X5_counted rfl ⟨rfl, rfl⟩ (by decide +kernel) ⟨Nat.le_of_ble_eq_true rfl, Nat.le_of_ble_eq_true rfl⟩ obM rfl rfl rfl (Nat.le_of_ble_eq_true rfl) ⟨Nat.le_of_ble_eq_true rfl, Nat.le_of_ble_eq_true rfl⟩ dX5_count_17 ?_
    rintro r_17 ws_17 ⟨rfl, rfl⟩
    have hX : eCnt p9 = 0 := (by unfold eCnt; repeat (first | rw [if_pos (by omega)] | rw [if_neg (by omega)]))
    refine g_goto (tgt := 28) E dX5_count_20 (by decide) ?_
    exact g_iret E ((by first | exact ⟨fun z => absurd (hX.symm.trans z) (by decide), fun _ => (by rw [hX])⟩ | exact ⟨fun _ => ⟨rfl, rfl⟩, fun z => absurd hX z⟩)) dX5_count_28
set_option maxHeartbeats 800000 in
set_option maxRecDepth 100000 in
/-- room(side) -/
theorem m_room_ (l : Launch) (D : va_G) (cA : Nat → ClassId) (A : Nat → Prop) (ad : Nat → Nat) (a : St) (th dd : Int32) (kp : Nat → Nat → Int32) (hI : Inv a) (p9 : Int) (hp : R31 p9) : Met l yX5_room_ wsX5_room_ ({ frames := 1, cells := 0, slots := 0, locals := 22 }) (PcG D (tysX cA) A (wM cA ad a th dd kp) [.ref (ad 0), .int (zI p9)]) (va_Qi (fun (r : Int32) ws' => (eIn 1 20 p9 = 0 → r = zI (sq p9) ∧ ws' = wM cA ad (a) (zI 0) dd kp) ∧ (¬ eIn 1 20 p9 = 0 → ws' = wM cA ad a (zI (eIn 1 20 p9)) dd kp)) (gB D A) A) 0 0 A := by
  refine g_met (cc := cX5_room_) (maxL := 2) (ret := (some .int)) (own := RX5) rfl (by decide) rfl (Nat.le_of_ble_eq_true rfl) ?_
  intro p e s m below meth c E
  have hin5 : ∀ w ∈ u_ws RX5 TX5 19, w ∈ wsX5_room_ := by decide +kernel
  obtain ⟨⟨hn0, hn6, hc0, hc3⟩, hPI, hCI, hFr⟩ := id hI
  obtain ⟨hp1, hp2⟩ := hp
  refine g_loc (lv' := [(0, .ref (ad 0)), (1, .int (zI p9))]) ⟨rfl, rfl, trivial⟩ ?_
  refine g_aload_n E dX5_room__0 rfl ?_
  refine g_iconst E dX5_room__1 ?_
  refine pm_M_thrown E  hin5 (by decide +kernel) dX5_room__2 ?_
  refine g_iload_n E dX5_room__5 rfl ?_
  refine g_iconst E dX5_room__6 ?_
  refine g_bipush E dX5_room__7 (by decide) ?_
  refine g_callTi (n := 3) (As := [_, _, _]) (rest := _) E (m_isIn l D _ A _ _ _ _ (by omega)) gX5_room__X5_isIn rfl ⟨rfl, rfl⟩ (by decide +kernel) ⟨Nat.le_of_ble_eq_true rfl, Nat.le_of_ble_eq_true rfl⟩ rfl rfl (Nat.le_of_ble_eq_true rfl) ⟨Nat.le_of_ble_eq_true rfl, Nat.le_of_ble_eq_true rfl⟩ dX5_room__9 ?_
  rintro r_9 ws_9 ⟨rfl, rfl⟩
  refine g_if_eq (tgt := 22) E dX5_room__12 (by decide) (by omega) (fun c_12 => ?_) (fun c_12 => ?_)
  · have hi12 := ite0 c_12
    refine g_aload_n E dX5_room__22 rfl ?_
    refine g_iconst E dX5_room__23 ?_
    refine g_callVi (T := TX5) (ci := 5) (n := 1) (As := [_]) (rest := _) E (m_fail l D cA A ad _ _ _ _ _) gX5_room__X5_fail rfl ⟨rfl, rfl⟩ (by decide +kernel) ⟨Nat.le_of_ble_eq_true rfl, Nat.le_of_ble_eq_true rfl⟩ obM rfl rfl rfl (Nat.le_of_ble_eq_true rfl) ⟨Nat.le_of_ble_eq_true rfl, Nat.le_of_ble_eq_true rfl⟩ dX5_room__24 ?_
    rintro r_24 ws_24 ⟨rfl, rfl⟩
    have hX : eIn 1 20 p9 = 1 := (by unfold eIn; repeat (first | rw [if_pos (by omega)] | rw [if_neg (by omega)]))
    exact g_iret E ((by first | exact ⟨fun z => absurd (hX.symm.trans z) (by decide), fun _ => (by rw [hX])⟩ | exact ⟨fun _ => ⟨rfl, rfl⟩, fun z => absurd hX z⟩)) dX5_room__27
  · have hi12 := ite1 c_12
    refine g_iload_n E dX5_room__15 rfl ?_
    refine g_callTi (n := 1) (As := [_]) (rest := _) E (m_roomOf l D _ A _ _ (by omega)) gX5_room__X5_roomOf rfl ⟨rfl, rfl⟩ (by decide +kernel) ⟨Nat.le_of_ble_eq_true rfl, Nat.le_of_ble_eq_true rfl⟩ rfl rfl (Nat.le_of_ble_eq_true rfl) ⟨Nat.le_of_ble_eq_true rfl, Nat.le_of_ble_eq_true rfl⟩ dX5_room__16 ?_
    rintro r_16 ws_16 ⟨rfl, rfl⟩
    have hX : eIn 1 20 p9 = 0 := (by unfold eIn; repeat (first | rw [if_pos (by omega)] | rw [if_neg (by omega)]))
    refine g_goto (tgt := 27) E dX5_room__19 (by decide) ?_
    exact g_iret E ((by first | exact ⟨fun z => absurd (hX.symm.trans z) (by decide), fun _ => (by rw [hX])⟩ | exact ⟨fun _ => ⟨rfl, rfl⟩, fun z => absurd hX z⟩)) dX5_room__27
set_option maxHeartbeats 800000 in
set_option maxRecDepth 100000 in
/-- side(m) -/
theorem m_side (l : Launch) (D : va_G) (cA : Nat → ClassId) (A : Nat → Prop) (ad : Nat → Nat) (a : St) (th dd : Int32) (kp : Nat → Nat → Int32) (hI : Inv a) (p9 : Int) (hp : R31 p9) : Met l yX5_side wsX5_side ({ frames := 1, cells := 0, slots := 0, locals := 22 }) (PcG D (tysX cA) A (wM cA ad a th dd kp) [.ref (ad 0), .int (zI p9)]) (va_Qi (fun (r : Int32) ws' => (eIn 1 2870 p9 = 0 → r = zI (sideV p9) ∧ ws' = wM cA ad (a) (zI 0) dd kp) ∧ (¬ eIn 1 2870 p9 = 0 → ws' = wM cA ad a (zI (eIn 1 2870 p9)) dd kp)) (gB D A) A) 0 0 A := by
  refine g_met (cc := cX5_side) (maxL := 3) (ret := (some .int)) (own := RX5) rfl (by decide) rfl (Nat.le_of_ble_eq_true rfl) ?_
  intro p e s m below meth c E
  have hin5 : ∀ w ∈ u_ws RX5 TX5 19, w ∈ wsX5_side := by decide +kernel
  obtain ⟨⟨hn0, hn6, hc0, hc3⟩, hPI, hCI, hFr⟩ := id hI
  obtain ⟨hp1, hp2⟩ := hp
  refine g_loc (lv' := [(0, .ref (ad 0)), (1, .int (zI p9))]) ⟨rfl, rfl, trivial⟩ ?_
  refine g_aload_n E dX5_side_0 rfl ?_
  refine g_iconst E dX5_side_1 ?_
  refine pm_M_thrown E  hin5 (by decide +kernel) dX5_side_2 ?_
  refine g_iload_n E dX5_side_5 rfl ?_
  refine g_iconst E dX5_side_6 ?_
  refine g_bipush E dX5_side_7 (by decide) ?_
  refine g_callTi (n := 1) (As := [_]) (rest := _) E (m_roomOf l D _ A _ _ (by omega)) gX5_side_X5_roomOf rfl ⟨rfl, rfl⟩ (by decide +kernel) ⟨Nat.le_of_ble_eq_true rfl, Nat.le_of_ble_eq_true rfl⟩ rfl rfl (Nat.le_of_ble_eq_true rfl) ⟨Nat.le_of_ble_eq_true rfl, Nat.le_of_ble_eq_true rfl⟩ dX5_side_9 ?_
  rintro r_9 ws_9 ⟨rfl, rfl⟩
  rw [show sq 20 = 2870 from by decide]
  refine g_callTi (n := 3) (As := [_, _, _]) (rest := _) E (m_isIn l D _ A _ _ _ _ (by omega)) gX5_side_X5_isIn rfl ⟨rfl, rfl⟩ (by decide +kernel) ⟨Nat.le_of_ble_eq_true rfl, Nat.le_of_ble_eq_true rfl⟩ rfl rfl (Nat.le_of_ble_eq_true rfl) ⟨Nat.le_of_ble_eq_true rfl, Nat.le_of_ble_eq_true rfl⟩ dX5_side_12 ?_
  rintro r_12 ws_12 ⟨rfl, rfl⟩
  refine g_if_ne (tgt := 24) E dX5_side_15 (by decide) (by omega) (fun c_15 => ?_) (fun c_15 => ?_)
  · have hi15 := ite1 c_15
    refine g_iconst E dX5_side_24 ?_
    refine g_istore_n E dX5_side_25 (by decide) ?_
    have key_kk : ∀ (n_kk kk : Nat), (kk : Int) ≤ (20 : Int) → (20 : Int) + 1 ≤ (kk : Int) + n_kk → (sdA p9 (20 - kk) kk = sideV p9) → GW p l e (headSpec wsX5_side ({ frames := 1, cells := 0, slots := 0, locals := 22 })).room s m ([.ref (ad 0), .int (zI p9)] : List Value).toArray below meth c (MQ below (va_Qi (fun (r : Int32) ws' => (eIn 1 2870 p9 = 0 → r = zI (sideV p9) ∧ ws' = wM cA ad (a) (zI 0) dd kp) ∧ (¬ eIn 1 2870 p9 = 0 → ws' = wM cA ad a (zI (eIn 1 2870 p9)) dd kp)) (gB D A) A) ([.ref (ad 0), .int (zI p9)] : List Value).toArray s 0 0 A) D A 3 (wM cA ad (a) (zI 0) dd kp) 0 0 26 [(0, .ref (ad 0)), (1, .int (zI p9)), (2, .int (zI (kk : Int)))] [] := by
      intro n_kk
      induction n_kk with
      | zero => intro kk h1 h2; exact absurd h2 (by omega)
      | succ n_kk ih_kk =>
        intro kk hle_kk hfu_kk hi0_kk
        have hsb := sq_b2 kk (by omega)
        have hk20 : (kk : Int) = 20 → sq (kk : Int) = 2870 := fun h => (by rw [h]; decide)
        refine g_iload_n E dX5_side_26 rfl ?_
        refine g_callTi (n := 1) (As := [_]) (rest := _) E (m_roomOf l D _ A _ _ (by omega)) gX5_side_X5_roomOf rfl ⟨rfl, rfl⟩ (by decide +kernel) ⟨Nat.le_of_ble_eq_true rfl, Nat.le_of_ble_eq_true rfl⟩ rfl rfl (Nat.le_of_ble_eq_true rfl) ⟨Nat.le_of_ble_eq_true rfl, Nat.le_of_ble_eq_true rfl⟩ dX5_side_27 ?_
        rintro r_27 ws_27 ⟨rfl, rfl⟩
        refine g_iload_n E dX5_side_30 rfl ?_
        refine g_icmp_ge (tgt := 40) E dX5_side_31 (by decide) (by omega) (by omega) (fun c_31 => ?_) (fun c_31 => ?_)
        · refine g_iload_n E dX5_side_40 rfl ?_
          exact g_iret E ((by have hE : eIn 1 2870 p9 = 0 := (by unfold eIn; repeat (first | rw [if_pos (by omega)] | rw [if_neg (by omega)])); exact ⟨fun _ => ⟨congrArg zI (by rw [← hi0_kk]; rcases Nat.lt_or_ge kk 20 with h | h; rw [sdA_s (by omega), if_neg (by omega)]; rw [show 20 - kk = 0 by omega]; rfl), rfl⟩, fun z => absurd hE z⟩)) dX5_side_41
        · refine g_iinc E dX5_side_34 rfl (by decide) ?_
          refine g_goto (tgt := 26) E dX5_side_37 (by decide) ?_
          refine g_loc (lv' := [(0, .ref (ad 0)), (1, .int (zI p9)), (2, .int (zI ((kk + 1) : Int)))]) ⟨rfl, rfl, rfl, trivial⟩ ?_
          exact ih_kk (kk + 1) (by omega) (by omega) (by rw [← hi0_kk, sdA_s (by omega) (n := 20 - kk), if_pos (by omega)]; rfl)
    refine g_loc (lv' := [(0, .ref (ad 0)), (1, .int (zI p9)), (2, .int (zI (1 : Int)))]) ⟨rfl, rfl, rfl, trivial⟩ ?_
    exact key_kk (((20 : Int)) + 1).toNat.succ 1 (by omega) (by omega) (rfl)
  · have hi15 := ite0 c_15
    refine g_aload_n E dX5_side_18 rfl ?_
    refine g_iconst E dX5_side_19 ?_
    refine g_callVi (T := TX5) (ci := 5) (n := 1) (As := [_]) (rest := _) E (m_fail l D cA A ad _ _ _ _ _) gX5_side_X5_fail rfl ⟨rfl, rfl⟩ (by decide +kernel) ⟨Nat.le_of_ble_eq_true rfl, Nat.le_of_ble_eq_true rfl⟩ obM rfl rfl rfl (Nat.le_of_ble_eq_true rfl) ⟨Nat.le_of_ble_eq_true rfl, Nat.le_of_ble_eq_true rfl⟩ dX5_side_20 ?_
    rintro r_20 ws_20 ⟨rfl, rfl⟩
    exact g_iret E ((by have hE : eIn 1 2870 p9 = 1 := (by unfold eIn; repeat (first | rw [if_pos (by omega)] | rw [if_neg (by omega)])); exact ⟨fun z => absurd (hE.symm.trans z) (by decide), fun _ => (by rw [hE])⟩)) dX5_side_23
set_option maxHeartbeats 800000 in
set_option maxRecDepth 100000 in
/-- pass(d) -/
theorem m_pass (l : Launch) (D : va_G) (cA : Nat → ClassId) (A : Nat → Prop) (ad : Nat → Nat) (a : St) (th dd : Int32) (kp : Nat → Nat → Int32) (hI : Inv a) (p9 : Int) (hp : R31 p9) : Met l yX5_pass wsX5_pass ({ frames := 6, cells := 0, slots := 0, locals := 141 }) (PcG D (tysX cA) A (wM cA ad a th dd kp) [.ref (ad 0), .int (zI p9)]) (va_Qi (fun (r : Int32) ws' => (eIn 1 60 p9 = 0 → r = zI (passL a p9.toNat).2 ∧ ws' = wM cA ad ((passL a p9.toNat).1) (zI 0) (dd + zI p9) kp) ∧ (¬ eIn 1 60 p9 = 0 → ws' = wM cA ad a (zI (eIn 1 60 p9)) dd kp)) (gB D A) A) 0 0 A := by
  refine g_met (cc := cX5_pass) (maxL := 4) (ret := (some .int)) (own := RX5) rfl (by decide) rfl (Nat.le_of_ble_eq_true rfl) ?_
  intro p e s m below meth c E
  have hin5 : ∀ w ∈ u_ws RX5 TX5 19, w ∈ wsX5_pass := by decide +kernel
  obtain ⟨⟨hn0, hn6, hc0, hc3⟩, hPI, hCI, hFr⟩ := id hI
  obtain ⟨hp1, hp2⟩ := hp
  refine g_loc (lv' := [(0, .ref (ad 0)), (1, .int (zI p9))]) ⟨rfl, rfl, trivial⟩ ?_
  refine g_aload_n E dX5_pass_0 rfl ?_
  refine g_iconst E dX5_pass_1 ?_
  refine pm_M_thrown E  hin5 (by decide +kernel) dX5_pass_2 ?_
  refine g_iload_n E dX5_pass_5 rfl ?_
  refine g_iconst E dX5_pass_6 ?_
  refine g_bipush E dX5_pass_7 (by decide) ?_
  refine g_callTi (n := 3) (As := [_, _, _]) (rest := _) E (m_isIn l D _ A _ _ _ _ (by omega)) gX5_pass_X5_isIn rfl ⟨rfl, rfl⟩ (by decide +kernel) ⟨Nat.le_of_ble_eq_true rfl, Nat.le_of_ble_eq_true rfl⟩ rfl rfl (Nat.le_of_ble_eq_true rfl) ⟨Nat.le_of_ble_eq_true rfl, Nat.le_of_ble_eq_true rfl⟩ dX5_pass_9 ?_
  rintro r_9 ws_9 ⟨rfl, rfl⟩
  refine g_if_ne (tgt := 21) E dX5_pass_12 (by decide) (by omega) (fun c_12 => ?_) (fun c_12 => ?_)
  · have hi12 := ite1 c_12
    refine g_aload_n E dX5_pass_21 rfl ?_
    refine g_iconst E dX5_pass_22 ?_
    refine g_callVi (T := TX5) (ci := 5) (n := 1) (As := [_]) (rest := _) E (m_all l D cA A ad a _ _ _ hI 1 (by decide)) gX5_pass_X5_all rfl ⟨rfl, rfl⟩ (by decide +kernel) ⟨Nat.le_of_ble_eq_true rfl, Nat.le_of_ble_eq_true rfl⟩ obM rfl rfl rfl (Nat.le_of_ble_eq_true rfl) ⟨Nat.le_of_ble_eq_true rfl, Nat.le_of_ble_eq_true rfl⟩ dX5_pass_23 ?_
    rintro r_23 ws_23 ⟨rfl, rfl⟩
    refine g_istore_n E dX5_pass_26 (by decide) ?_
    refine g_iconst E dX5_pass_27 ?_
    refine g_istore_n E dX5_pass_28 (by decide) ?_
    have key_kk : ∀ (n_kk kk : Nat), (kk : Int) ≤ p9 → p9 + 1 ≤ (kk : Int) + n_kk → GW p l e (headSpec wsX5_pass ({ frames := 6, cells := 0, slots := 0, locals := 141 })).room s m ([.ref (ad 0), .int (zI p9)] : List Value).toArray below meth c (MQ below (va_Qi (fun (r : Int32) ws' => (eIn 1 60 p9 = 0 → r = zI (passL a p9.toNat).2 ∧ ws' = wM cA ad ((passL a p9.toNat).1) (zI 0) (dd + zI p9) kp) ∧ (¬ eIn 1 60 p9 = 0 → ws' = wM cA ad a (zI (eIn 1 60 p9)) dd kp)) (gB D A) A) ([.ref (ad 0), .int (zI p9)] : List Value).toArray s 0 0 A) D A 4 (wM cA ad ((passL a kk).1) (zI 0) dd kp) 0 0 29 [(0, .ref (ad 0)), (1, .int (zI p9)), (2, .int (allV a 1)), (3, .int (zI (kk : Int)))] [] := by
      intro n_kk
      induction n_kk with
      | zero => intro kk h1 h2; exact absurd h2 (by omega)
      | succ n_kk ih_kk =>
        intro kk hle_kk hfu_kk
        obtain ⟨k1, k2, k3⟩ := passL_i hI kk
        refine g_iload_n E dX5_pass_29 rfl ?_
        refine g_iload_n E dX5_pass_30 rfl ?_
        refine g_icmp_ge (tgt := 44) E dX5_pass_31 (by decide) (by omega) (by omega) (fun c_31 => ?_) (fun c_31 => ?_)
        · obtain rfl : kk = p9.toNat := by omega
          refine g_aload_n E dX5_pass_44 rfl ?_
          refine g_dup E dX5_pass_45 rfl ?_
          refine gm_M_day E  hin5 (by decide +kernel) dX5_pass_46 ?_
          refine g_iload_n E dX5_pass_49 rfl ?_
          refine g_iaddR E dX5_pass_50 ?_
          refine pm_M_day E  hin5 (by decide +kernel) dX5_pass_51 ?_
          refine g_aload_n E dX5_pass_54 rfl ?_
          refine g_iconst E dX5_pass_55 ?_
          refine g_callVi (T := TX5) (ci := 5) (n := 1) (As := [_]) (rest := _) E (m_all l D cA A ad (passL a p9.toNat).1 _ _ _ k1 1 (by decide)) gX5_pass_X5_all rfl ⟨rfl, rfl⟩ (by decide +kernel) ⟨Nat.le_of_ble_eq_true rfl, Nat.le_of_ble_eq_true rfl⟩ obM rfl rfl rfl (Nat.le_of_ble_eq_true rfl) ⟨Nat.le_of_ble_eq_true rfl, Nat.le_of_ble_eq_true rfl⟩ dX5_pass_56 ?_
          rintro r_56 ws_56 ⟨rfl, rfl⟩
          refine g_iload_n E dX5_pass_59 rfl ?_
          refine g_isubR E dX5_pass_60 ?_
          exact g_iret E ((by have hE : eIn 1 60 p9 = 0 := (by unfold eIn; repeat (first | rw [if_pos (by omega)] | rw [if_neg (by omega)])); exact ⟨fun _ => ⟨passM hI p9.toNat, rfl⟩, fun z => absurd hE z⟩)) dX5_pass_61
        · refine g_aload_n E dX5_pass_34 rfl ?_
          refine g_callVv (T := TX5) (ci := 5) (n := 0) (As := []) (rest := _) E (m_dayOn l D cA A ad (passL a kk).1 _ _ _ k1) gX5_pass_X5_dayOn rfl ⟨rfl, rfl⟩ (by decide +kernel) ⟨Nat.le_of_ble_eq_true rfl, Nat.le_of_ble_eq_true rfl⟩ obM rfl rfl rfl (Nat.le_of_ble_eq_true rfl) ⟨Nat.le_of_ble_eq_true rfl, Nat.le_of_ble_eq_true rfl⟩ dX5_pass_35 ?_
          rintro ws_35 rfl
          refine g_iinc E dX5_pass_38 rfl (by decide) ?_
          refine g_goto (tgt := 29) E dX5_pass_41 (by decide) ?_
          refine g_st (ws' := wM cA ad ((passL a (kk + 1)).1) (zI 0) dd kp) (rfl) rfl rfl ?_
          refine g_loc (lv' := [(0, .ref (ad 0)), (1, .int (zI p9)), (2, .int (allV a 1)), (3, .int (zI ((kk + 1) : Int)))]) ⟨rfl, rfl, rfl, rfl, trivial⟩ ?_
          exact ih_kk (kk + 1) (by omega) (by omega)
    refine g_loc (lv' := [(0, .ref (ad 0)), (1, .int (zI p9)), (2, .int (allV a 1)), (3, .int (zI (0 : Int)))]) ⟨rfl, rfl, rfl, rfl, trivial⟩ ?_
    exact key_kk ((p9) + 1).toNat.succ 0 (by omega) (by omega)
  · have hi12 := ite0 c_12
    refine g_aload_n E dX5_pass_15 rfl ?_
    refine g_iconst E dX5_pass_16 ?_
    refine g_callVi (T := TX5) (ci := 5) (n := 1) (As := [_]) (rest := _) E (m_fail l D cA A ad _ _ _ _ _) gX5_pass_X5_fail rfl ⟨rfl, rfl⟩ (by decide +kernel) ⟨Nat.le_of_ble_eq_true rfl, Nat.le_of_ble_eq_true rfl⟩ obM rfl rfl rfl (Nat.le_of_ble_eq_true rfl) ⟨Nat.le_of_ble_eq_true rfl, Nat.le_of_ble_eq_true rfl⟩ dX5_pass_17 ?_
    rintro r_17 ws_17 ⟨rfl, rfl⟩
    exact g_iret E ((by have hE : eIn 1 60 p9 = 1 := (by unfold eIn; repeat (first | rw [if_pos (by omega)] | rw [if_neg (by omega)])); exact ⟨fun z => absurd (hE.symm.trans z) (by decide), fun _ => (by rw [hE])⟩)) dX5_pass_20
set_option maxHeartbeats 800000 in
set_option maxRecDepth 100000 in
/-- until(p) -/
theorem m_until (l : Launch) (D : va_G) (cA : Nat → ClassId) (A : Nat → Prop) (ad : Nat → Nat) (a : St) (th dd : Int32) (kp : Nat → Nat → Int32) (hI : Inv a) (p9 : Int) (hp : R31 p9) : Met l yX5_until wsX5_until ({ frames := 6, cells := 0, slots := 0, locals := 141 }) (PcG D (tysX cA) A (wM cA ad a th dd kp) [.ref (ad 0), .int (zI p9)]) (va_Qi (fun (r : Int32) ws' => (eP a p9 = 0 → r = zI (unV a p9.toNat) ∧ ws' = wM cA ad (a) (zI 0) dd (kpU a kp 5)) ∧ (¬ eP a p9 = 0 → ws' = wM cA ad a (zI (eP a p9)) dd kp)) (gB D A) A) 0 0 A := by
  refine g_met (cc := cX5_until) (maxL := 3) (ret := (some .int)) (own := RX5) rfl (by decide) rfl (Nat.le_of_ble_eq_true rfl) ?_
  intro p e s m below meth c E
  have hin5 : ∀ w ∈ u_ws RX5 TX5 19, w ∈ wsX5_until := by decide +kernel
  obtain ⟨⟨hn0, hn6, hc0, hc3⟩, hPI, hCI, hFr⟩ := id hI
  obtain ⟨hp1, hp2⟩ := hp
  refine g_loc (lv' := [(0, .ref (ad 0)), (1, .int (zI p9))]) ⟨rfl, rfl, trivial⟩ ?_
  refine g_aload_n E dX5_until_0 rfl ?_
  refine g_iconst E dX5_until_1 ?_
  refine pm_M_thrown E  hin5 (by decide +kernel) dX5_until_2 ?_
  refine g_aload_n E dX5_until_5 rfl ?_
  refine g_iload_n E dX5_until_6 rfl ?_
  refine g_callVi (T := TX5) (ci := 5) (n := 1) (As := [_]) (rest := _) E (m_isPile l D cA A ad _ _ _ _ _ (by omega) (by omega)) gX5_until_X5_isPile rfl ⟨rfl, rfl⟩ (by decide +kernel) ⟨Nat.le_of_ble_eq_true rfl, Nat.le_of_ble_eq_true rfl⟩ obM rfl rfl rfl (Nat.le_of_ble_eq_true rfl) ⟨Nat.le_of_ble_eq_true rfl, Nat.le_of_ble_eq_true rfl⟩ dX5_until_7 ?_
  rintro r_7 ws_7 ⟨rfl, rfl⟩
  refine g_if_ne (tgt := 19) E dX5_until_10 (by decide) (by omega) (fun c_10 => ?_) (fun c_10 => ?_)
  · have hi10 := ite1 c_10; obtain ⟨q9, rfl⟩ := Int.eq_ofNat_of_zero_le (show 0 ≤ p9 by omega); have hPC := hPI q9 (by omega); have hPO := hPC.1; have hcl := hPC.2; have hPb := hPO; unfold PO at hPb; have hsq := sq_le (e := sd a q9) (by omega)
    refine g_aload_n E dX5_until_19 rfl ?_
    refine g_callVv (T := TX5) (ci := 5) (n := 0) (As := []) (rest := _) E (m_keep l D cA A ad _ _ _ _) gX5_until_X5_keep rfl ⟨rfl, rfl⟩ (by decide +kernel) ⟨Nat.le_of_ble_eq_true rfl, Nat.le_of_ble_eq_true rfl⟩ obM rfl rfl rfl (Nat.le_of_ble_eq_true rfl) ⟨Nat.le_of_ble_eq_true rfl, Nat.le_of_ble_eq_true rfl⟩ dX5_until_20 ?_
    rintro ws_20 rfl
    refine g_iconst E dX5_until_23 ?_
    refine g_istore_n E dX5_until_24 (by decide) ?_
    have key_kk : ∀ (n_kk kk : Nat), (kk : Int) ≤ (41 : Int) → (41 : Int) + 1 ≤ (kk : Int) + n_kk → (unA a q9 (41 - kk) kk = unV a q9) → GW p l e (headSpec wsX5_until ({ frames := 6, cells := 0, slots := 0, locals := 141 })).room s m ([.ref (ad 0), .int (zI (q9 : Int))] : List Value).toArray below meth c (MQ below (va_Qi (fun (r : Int32) ws' => (eP a (q9 : Int) = 0 → r = zI (unV a (q9 : Int).toNat) ∧ ws' = wM cA ad (a) (zI 0) dd (kpU a kp 5)) ∧ (¬ eP a (q9 : Int) = 0 → ws' = wM cA ad a (zI (eP a (q9 : Int))) dd kp)) (gB D A) A) ([.ref (ad 0), .int (zI (q9 : Int))] : List Value).toArray s 0 0 A) D A 3 (wM cA ad ((passL a kk).1) (zI 0) dd (kpU a kp 5)) 0 0 25 [(0, .ref (ad 0)), (1, .int (zI (q9 : Int))), (2, .int (zI (kk : Int)))] [] := by
      intro n_kk
      induction n_kk with
      | zero => intro kk h1 h2; exact absurd h2 (by omega)
      | succ n_kk ih_kk =>
        intro kk hle_kk hfu_kk hi0_kk
        obtain ⟨k1, k2, k3⟩ := passL_i hI kk
        have hPk := (k1.2.1 q9 (by omega)).1
        have hPk2 := hPk
        unfold PO at hPk2
        have hsk := sq_le (e := sd (passL a kk).1 q9) (by omega)
        have hru := rusty_b (passL a kk).1 q9 ((passL a kk).1 0 0 4) (bl (passL a kk).1 q9).toNat
        refine g_iload_n E dX5_until_25 rfl ?_
        refine g_bipush E dX5_until_26 (by decide) ?_
        refine g_icmp_gt (tgt := 49) E dX5_until_28 (by decide) (by omega) (by omega) (fun c_28 => ?_) (fun c_28 => ?_)
        · refine g_aload_n E dX5_until_49 rfl ?_
          refine g_callVv (T := TX5) (ci := 5) (n := 0) (As := []) (rest := _) E (m_bringBack l D cA A ad a _ _ kp (passL a kk).1 (passL_same a kk)) gX5_until_X5_bringBack rfl ⟨rfl, rfl⟩ (by decide +kernel) ⟨Nat.le_of_ble_eq_true rfl, Nat.le_of_ble_eq_true rfl⟩ obM rfl rfl rfl (Nat.le_of_ble_eq_true rfl) ⟨Nat.le_of_ble_eq_true rfl, Nat.le_of_ble_eq_true rfl⟩ dX5_until_50 ?_
          rintro ws_50 rfl
          refine g_iload_n E dX5_until_53 rfl ?_
          refine g_bipush E dX5_until_54 (by decide) ?_
          refine g_icmp_le (tgt := 63) E dX5_until_56 (by decide) (by omega) (by omega) (fun c_56 => ?_) (fun c_56 => ?_)
          · refine g_iload_n E dX5_until_63 rfl ?_
            exact g_iret E ((by have hE : eP a (q9 : Int) = 0 := (by first | omega | (unfold eP; repeat (first | rw [if_pos (by omega)] | rw [if_neg (by omega)]))); exact ⟨fun _ => ⟨(by first | omega | exact congrArg zI (show (kk : Int) = unV a q9 by rw [← hi0_kk, unA_s (by omega), if_pos (by omega)]) | exact congrArg zI (show (-1 : Int) = unV a q9 by rw [← hi0_kk, show 41 - kk = 0 by omega]; rfl)), rfl⟩, fun z => absurd hE z⟩)) dX5_until_64
          · refine g_iconst E dX5_until_59 ?_
            refine g_goto (tgt := 64) E dX5_until_60 (by decide) ?_
            exact g_iret E ((by have hE : eP a (q9 : Int) = 0 := (by first | omega | (unfold eP; repeat (first | rw [if_pos (by omega)] | rw [if_neg (by omega)]))); exact ⟨fun _ => ⟨(by first | omega | exact congrArg zI (show (kk : Int) = unV a q9 by rw [← hi0_kk, unA_s (by omega), if_pos (by omega)]) | exact congrArg zI (show (-1 : Int) = unV a q9 by rw [← hi0_kk, show 41 - kk = 0 by omega]; rfl)), rfl⟩, fun z => absurd hE z⟩)) dX5_until_64
        · refine g_aload_n E dX5_until_31 rfl ?_
          refine g_iload_n E dX5_until_32 rfl ?_
          refine g_callVi (T := TX5) (ci := 5) (n := 1) (As := [_]) (rest := _) E (m_rusty l D cA A ad (passL a kk).1 _ _ _ _ (by omega) hPk) gX5_until_X5_rusty rfl ⟨rfl, rfl⟩ (by decide +kernel) ⟨Nat.le_of_ble_eq_true rfl, Nat.le_of_ble_eq_true rfl⟩ obM rfl rfl rfl (Nat.le_of_ble_eq_true rfl) ⟨Nat.le_of_ble_eq_true rfl, Nat.le_of_ble_eq_true rfl⟩ dX5_until_33 ?_
          rintro r_33 ws_33 ⟨rfl, rfl⟩
          refine g_if_ne (tgt := 49) E dX5_until_36 (by decide) (by omega) (fun c_36 => ?_) (fun c_36 => ?_)
          · refine g_aload_n E dX5_until_49 rfl ?_
            refine g_callVv (T := TX5) (ci := 5) (n := 0) (As := []) (rest := _) E (m_bringBack l D cA A ad a _ _ kp (passL a kk).1 (passL_same a kk)) gX5_until_X5_bringBack rfl ⟨rfl, rfl⟩ (by decide +kernel) ⟨Nat.le_of_ble_eq_true rfl, Nat.le_of_ble_eq_true rfl⟩ obM rfl rfl rfl (Nat.le_of_ble_eq_true rfl) ⟨Nat.le_of_ble_eq_true rfl, Nat.le_of_ble_eq_true rfl⟩ dX5_until_50 ?_
            rintro ws_50 rfl
            refine g_iload_n E dX5_until_53 rfl ?_
            refine g_bipush E dX5_until_54 (by decide) ?_
            refine g_icmp_le (tgt := 63) E dX5_until_56 (by decide) (by omega) (by omega) (fun c_56 => ?_) (fun c_56 => ?_)
            · refine g_iload_n E dX5_until_63 rfl ?_
              exact g_iret E ((by have hE : eP a (q9 : Int) = 0 := (by first | omega | (unfold eP; repeat (first | rw [if_pos (by omega)] | rw [if_neg (by omega)]))); exact ⟨fun _ => ⟨(by first | omega | exact congrArg zI (show (kk : Int) = unV a q9 by rw [← hi0_kk, unA_s (by omega), if_pos (by omega)]) | exact congrArg zI (show (-1 : Int) = unV a q9 by rw [← hi0_kk, show 41 - kk = 0 by omega]; rfl)), rfl⟩, fun z => absurd hE z⟩)) dX5_until_64
            · refine g_iconst E dX5_until_59 ?_
              refine g_goto (tgt := 64) E dX5_until_60 (by decide) ?_
              exact g_iret E ((by have hE : eP a (q9 : Int) = 0 := (by first | omega | (unfold eP; repeat (first | rw [if_pos (by omega)] | rw [if_neg (by omega)]))); exact ⟨fun _ => ⟨(by first | omega | exact congrArg zI (show (kk : Int) = unV a q9 by rw [← hi0_kk, unA_s (by omega), if_pos (by omega)]) | exact congrArg zI (show (-1 : Int) = unV a q9 by rw [← hi0_kk, show 41 - kk = 0 by omega]; rfl)), rfl⟩, fun z => absurd hE z⟩)) dX5_until_64
          · refine g_aload_n E dX5_until_39 rfl ?_
            refine g_callVv (T := TX5) (ci := 5) (n := 0) (As := []) (rest := _) E (m_dayOn l D cA A ad (passL a kk).1 _ _ _ k1) gX5_until_X5_dayOn rfl ⟨rfl, rfl⟩ (by decide +kernel) ⟨Nat.le_of_ble_eq_true rfl, Nat.le_of_ble_eq_true rfl⟩ obM rfl rfl rfl (Nat.le_of_ble_eq_true rfl) ⟨Nat.le_of_ble_eq_true rfl, Nat.le_of_ble_eq_true rfl⟩ dX5_until_40 ?_
            rintro ws_40 rfl
            refine g_iinc E dX5_until_43 rfl (by decide) ?_
            refine g_goto (tgt := 25) E dX5_until_46 (by decide) ?_
            refine g_st (ws' := wM cA ad ((passL a (kk + 1)).1) (zI 0) dd (kpU a kp 5)) (rfl) rfl rfl ?_
            refine g_loc (lv' := [(0, .ref (ad 0)), (1, .int (zI (q9 : Int))), (2, .int (zI ((kk + 1) : Int)))]) ⟨rfl, rfl, rfl, trivial⟩ ?_
            exact ih_kk (kk + 1) (by omega) (by omega) (by rw [← hi0_kk, unA_s (by omega) (n := 41 - kk), if_neg (by omega)]; rfl)
    refine g_st (ws' := wM cA ad ((passL a 0).1) (zI 0) dd (kpU a kp 5)) (rfl) rfl rfl ?_
    refine g_loc (lv' := [(0, .ref (ad 0)), (1, .int (zI (q9 : Int))), (2, .int (zI (0 : Int)))]) ⟨rfl, rfl, rfl, trivial⟩ ?_
    exact key_kk (((41 : Int)) + 1).toNat.succ 0 (by omega) (by omega) (rfl)
  · have hi10 := ite0 c_10
    refine g_aload_n E dX5_until_13 rfl ?_
    refine g_iconst E dX5_until_14 ?_
    refine g_callVi (T := TX5) (ci := 5) (n := 1) (As := [_]) (rest := _) E (m_fail l D cA A ad _ _ _ _ _) gX5_until_X5_fail rfl ⟨rfl, rfl⟩ (by decide +kernel) ⟨Nat.le_of_ble_eq_true rfl, Nat.le_of_ble_eq_true rfl⟩ obM rfl rfl rfl (Nat.le_of_ble_eq_true rfl) ⟨Nat.le_of_ble_eq_true rfl, Nat.le_of_ble_eq_true rfl⟩ dX5_until_15 ?_
    rintro r_15 ws_15 ⟨rfl, rfl⟩
    exact g_iret E ((by have hE : eP a p9 = 1 := (by unfold eP; repeat (first | rw [if_pos (by omega)] | rw [if_neg (by omega)])); exact ⟨fun z => absurd (hE.symm.trans z) (by decide), fun _ => (by rw [hE])⟩)) dX5_until_18
set_option maxHeartbeats 800000 in
set_option maxRecDepth 100000 in
/-- foresee(d, w) -/
theorem m_foresee (l : Launch) (D : va_G) (cA : Nat → ClassId) (A : Nat → Prop) (ad : Nat → Nat) (a : St) (th dd : Int32) (kp : Nat → Nat → Int32) (hI : Inv a) (p9 m9 : Int) (hp : R31 p9) (hm : R31 m9) : Met l yX5_foresee wsX5_foresee ({ frames := 6, cells := 0, slots := 0, locals := 141 }) (PcG D (tysX cA) A (wM cA ad a th dd kp) [.ref (ad 0), .int (zI p9), .int (zI m9)]) (va_Qi (fun (r : Int32) ws' => (eFor p9 m9 = 0 → r = cntV (passL a p9.toNat).1 m9 ∧ ws' = wM cA ad (a) (zI 0) dd (kpU a kp 5)) ∧ (¬ eFor p9 m9 = 0 → ws' = wM cA ad a (zI (eFor p9 m9)) dd kp)) (gB D A) A) 0 0 A := by
  refine g_met (cc := cX5_foresee) (maxL := 4) (ret := (some .int)) (own := RX5) rfl (by decide) rfl (Nat.le_of_ble_eq_true rfl) ?_
  intro p e s m below meth c E
  have hin5 : ∀ w ∈ u_ws RX5 TX5 19, w ∈ wsX5_foresee := by decide +kernel
  obtain ⟨⟨hn0, hn6, hc0, hc3⟩, hPI, hCI, hFr⟩ := id hI
  obtain ⟨hp1, hp2⟩ := hp
  obtain ⟨hm1, hm2⟩ := hm
  refine g_loc (lv' := [(0, .ref (ad 0)), (1, .int (zI p9)), (2, .int (zI m9))]) ⟨rfl, rfl, rfl, trivial⟩ ?_
  refine g_aload_n E dX5_foresee_0 rfl ?_
  refine g_iconst E dX5_foresee_1 ?_
  refine pm_M_thrown E  hin5 (by decide +kernel) dX5_foresee_2 ?_
  refine g_iload_n E dX5_foresee_5 rfl ?_
  refine g_iconst E dX5_foresee_6 ?_
  refine g_bipush E dX5_foresee_7 (by decide) ?_
  refine g_callTi (n := 3) (As := [_, _, _]) (rest := _) E (m_isIn l D _ A _ _ _ _ (by omega)) gX5_foresee_X5_isIn rfl ⟨rfl, rfl⟩ (by decide +kernel) ⟨Nat.le_of_ble_eq_true rfl, Nat.le_of_ble_eq_true rfl⟩ rfl rfl (Nat.le_of_ble_eq_true rfl) ⟨Nat.le_of_ble_eq_true rfl, Nat.le_of_ble_eq_true rfl⟩ dX5_foresee_9 ?_
  rintro r_9 ws_9 ⟨rfl, rfl⟩
  refine g_if_ne (tgt := 21) E dX5_foresee_12 (by decide) (by omega) (fun c_12 => ?_) (fun c_12 => ?_)
  · have hi12 := ite1 c_12
    refine g_iload_n E dX5_foresee_21 rfl ?_
    refine g_iconst E dX5_foresee_22 ?_
    refine g_bipush E dX5_foresee_23 (by decide) ?_
    refine g_callTi (n := 3) (As := [_, _, _]) (rest := _) E (m_isIn l D _ A _ _ _ _ (by omega)) gX5_foresee_X5_isIn rfl ⟨rfl, rfl⟩ (by decide +kernel) ⟨Nat.le_of_ble_eq_true rfl, Nat.le_of_ble_eq_true rfl⟩ rfl rfl (Nat.le_of_ble_eq_true rfl) ⟨Nat.le_of_ble_eq_true rfl, Nat.le_of_ble_eq_true rfl⟩ dX5_foresee_25 ?_
    rintro r_25 ws_25 ⟨rfl, rfl⟩
    refine g_if_ne (tgt := 37) E dX5_foresee_28 (by decide) (by omega) (fun c_28 => ?_) (fun c_28 => ?_)
    · have hi28 := ite1 c_28
      refine g_aload_n E dX5_foresee_37 rfl ?_
      refine g_callVv (T := TX5) (ci := 5) (n := 0) (As := []) (rest := _) E (m_keep l D cA A ad _ _ _ _) gX5_foresee_X5_keep rfl ⟨rfl, rfl⟩ (by decide +kernel) ⟨Nat.le_of_ble_eq_true rfl, Nat.le_of_ble_eq_true rfl⟩ obM rfl rfl rfl (Nat.le_of_ble_eq_true rfl) ⟨Nat.le_of_ble_eq_true rfl, Nat.le_of_ble_eq_true rfl⟩ dX5_foresee_38 ?_
      rintro ws_38 rfl
      refine g_iconst E dX5_foresee_41 ?_
      refine g_istore_n E dX5_foresee_42 (by decide) ?_
      have key_kk : ∀ (n_kk kk : Nat), (kk : Int) ≤ p9 → p9 + 1 ≤ (kk : Int) + n_kk → GW p l e (headSpec wsX5_foresee ({ frames := 6, cells := 0, slots := 0, locals := 141 })).room s m ([.ref (ad 0), .int (zI p9), .int (zI m9)] : List Value).toArray below meth c (MQ below (va_Qi (fun (r : Int32) ws' => (eFor p9 m9 = 0 → r = cntV (passL a p9.toNat).1 m9 ∧ ws' = wM cA ad (a) (zI 0) dd (kpU a kp 5)) ∧ (¬ eFor p9 m9 = 0 → ws' = wM cA ad a (zI (eFor p9 m9)) dd kp)) (gB D A) A) ([.ref (ad 0), .int (zI p9), .int (zI m9)] : List Value).toArray s 0 0 A) D A 4 (wM cA ad ((passL a kk).1) (zI 0) dd (kpU a kp 5)) 0 0 43 [(0, .ref (ad 0)), (1, .int (zI p9)), (2, .int (zI m9)), (3, .int (zI (kk : Int)))] [] := by
        intro n_kk
        induction n_kk with
        | zero => intro kk h1 h2; exact absurd h2 (by omega)
        | succ n_kk ih_kk =>
          intro kk hle_kk hfu_kk
          obtain ⟨k1, k2, k3⟩ := passL_i hI kk
          refine g_iload_n E dX5_foresee_43 rfl ?_
          refine g_iload_n E dX5_foresee_44 rfl ?_
          refine g_icmp_ge (tgt := 58) E dX5_foresee_45 (by decide) (by omega) (by omega) (fun c_45 => ?_) (fun c_45 => ?_)
          · obtain rfl : kk = p9.toNat := by omega
            refine g_aload_n E dX5_foresee_58 rfl ?_
            refine g_iload_n E dX5_foresee_59 rfl ?_
            refine g_callVi (T := TX5) (ci := 5) (n := 1) (As := [_]) (rest := _) E (m_counted l D cA A ad (passL a p9.toNat).1 _ _ _ k1 _ (by omega) (fun h => absurd h (by omega))) gX5_foresee_X5_counted rfl ⟨rfl, rfl⟩ (by decide +kernel) ⟨Nat.le_of_ble_eq_true rfl, Nat.le_of_ble_eq_true rfl⟩ obM rfl rfl rfl (Nat.le_of_ble_eq_true rfl) ⟨Nat.le_of_ble_eq_true rfl, Nat.le_of_ble_eq_true rfl⟩ dX5_foresee_60 ?_
            rintro r_60 ws_60 ⟨rfl, rfl⟩
            refine g_top (v' := .int (cntV (passL a p9.toNat).1 m9)) (by rcases (show m9 = 4 ∨ m9 = 5 ∨ m9 = 6 by omega) with rfl | rfl | rfl <;> rfl) ?_
            refine g_istore_n E dX5_foresee_63 (by decide) ?_
            refine g_aload_n E dX5_foresee_64 rfl ?_
            refine g_callVv (T := TX5) (ci := 5) (n := 0) (As := []) (rest := _) E (m_bringBack l D cA A ad a _ _ kp (passL a p9.toNat).1 (passL_same a p9.toNat)) gX5_foresee_X5_bringBack rfl ⟨rfl, rfl⟩ (by decide +kernel) ⟨Nat.le_of_ble_eq_true rfl, Nat.le_of_ble_eq_true rfl⟩ obM rfl rfl rfl (Nat.le_of_ble_eq_true rfl) ⟨Nat.le_of_ble_eq_true rfl, Nat.le_of_ble_eq_true rfl⟩ dX5_foresee_65 ?_
            rintro ws_65 rfl
            refine g_iload_n E dX5_foresee_68 rfl ?_
            exact g_iret E ((by have hE : eFor p9 m9 = 0 := (by unfold eFor; repeat (first | rw [if_pos (by omega)] | rw [if_neg (by omega)])); exact ⟨fun _ => ⟨rfl, rfl⟩, fun z => absurd hE z⟩)) dX5_foresee_69
          · refine g_aload_n E dX5_foresee_48 rfl ?_
            refine g_callVv (T := TX5) (ci := 5) (n := 0) (As := []) (rest := _) E (m_dayOn l D cA A ad (passL a kk).1 _ _ _ k1) gX5_foresee_X5_dayOn rfl ⟨rfl, rfl⟩ (by decide +kernel) ⟨Nat.le_of_ble_eq_true rfl, Nat.le_of_ble_eq_true rfl⟩ obM rfl rfl rfl (Nat.le_of_ble_eq_true rfl) ⟨Nat.le_of_ble_eq_true rfl, Nat.le_of_ble_eq_true rfl⟩ dX5_foresee_49 ?_
            rintro ws_49 rfl
            refine g_iinc E dX5_foresee_52 rfl (by decide) ?_
            refine g_goto (tgt := 43) E dX5_foresee_55 (by decide) ?_
            refine g_st (ws' := wM cA ad ((passL a (kk + 1)).1) (zI 0) dd (kpU a kp 5)) (rfl) rfl rfl ?_
            refine g_loc (lv' := [(0, .ref (ad 0)), (1, .int (zI p9)), (2, .int (zI m9)), (3, .int (zI ((kk + 1) : Int)))]) ⟨rfl, rfl, rfl, rfl, trivial⟩ ?_
            exact ih_kk (kk + 1) (by omega) (by omega)
      refine g_st (ws' := wM cA ad ((passL a 0).1) (zI 0) dd (kpU a kp 5)) (rfl) rfl rfl ?_
      refine g_loc (lv' := [(0, .ref (ad 0)), (1, .int (zI p9)), (2, .int (zI m9)), (3, .int (zI (0 : Int)))]) ⟨rfl, rfl, rfl, rfl, trivial⟩ ?_
      exact key_kk ((p9) + 1).toNat.succ 0 (by omega) (by omega)
    · have hi28 := ite0 c_28
      refine g_aload_n E dX5_foresee_31 rfl ?_
      refine g_iconst E dX5_foresee_32 ?_
      refine g_callVi (T := TX5) (ci := 5) (n := 1) (As := [_]) (rest := _) E (m_fail l D cA A ad _ _ _ _ _) gX5_foresee_X5_fail rfl ⟨rfl, rfl⟩ (by decide +kernel) ⟨Nat.le_of_ble_eq_true rfl, Nat.le_of_ble_eq_true rfl⟩ obM rfl rfl rfl (Nat.le_of_ble_eq_true rfl) ⟨Nat.le_of_ble_eq_true rfl, Nat.le_of_ble_eq_true rfl⟩ dX5_foresee_33 ?_
      rintro r_33 ws_33 ⟨rfl, rfl⟩
      exact g_iret E ((by have hE : eFor p9 m9 = 2 := (by unfold eFor; repeat (first | rw [if_pos (by omega)] | rw [if_neg (by omega)])); exact ⟨fun z => absurd (hE.symm.trans z) (by decide), fun _ => (by rw [hE])⟩)) dX5_foresee_36
  · have hi12 := ite0 c_12
    refine g_aload_n E dX5_foresee_15 rfl ?_
    refine g_iconst E dX5_foresee_16 ?_
    refine g_callVi (T := TX5) (ci := 5) (n := 1) (As := [_]) (rest := _) E (m_fail l D cA A ad _ _ _ _ _) gX5_foresee_X5_fail rfl ⟨rfl, rfl⟩ (by decide +kernel) ⟨Nat.le_of_ble_eq_true rfl, Nat.le_of_ble_eq_true rfl⟩ obM rfl rfl rfl (Nat.le_of_ble_eq_true rfl) ⟨Nat.le_of_ble_eq_true rfl, Nat.le_of_ble_eq_true rfl⟩ dX5_foresee_17 ?_
    rintro r_17 ws_17 ⟨rfl, rfl⟩
    exact g_iret E ((by have hE : eFor p9 m9 = 1 := (by unfold eFor; repeat (first | rw [if_pos (by omega)] | rw [if_neg (by omega)])); exact ⟨fun z => absurd (hE.symm.trans z) (by decide), fun _ => (by rw [hE])⟩)) dX5_foresee_20
set_option maxHeartbeats 800000 in
set_option maxRecDepth 100000 in
/-- would(p) -/
theorem m_would (l : Launch) (D : va_G) (cA : Nat → ClassId) (A : Nat → Prop) (ad : Nat → Nat) (a : St) (th dd : Int32) (kp : Nat → Nat → Int32) (hI : Inv a) (p9 : Int) (hp : R31 p9) : Met l yX5_would wsX5_would ({ frames := 3, cells := 0, slots := 0, locals := 65 }) (PcG D (tysX cA) A (wM cA ad a th dd kp) [.ref (ad 0), .int (zI p9)]) (va_Qi (fun (r : Int32) ws' => (eP a p9 = 0 → r = zI (lb (sd a p9.toNat) (bl a p9.toNat - rustyN a p9.toNat (a 0 0 4) (bl a p9.toNat).toNat)) ∧ ws' = wM cA ad (a) (zI 0) dd kp) ∧ (¬ eP a p9 = 0 → ws' = wM cA ad a (zI (eP a p9)) dd kp)) (gB D A) A) 0 0 A := by
  refine g_met (cc := cX5_would) (maxL := 2) (ret := (some .int)) (own := RX5) rfl (by decide) rfl (Nat.le_of_ble_eq_true rfl) ?_
  intro p e s m below meth c E
  have hin5 : ∀ w ∈ u_ws RX5 TX5 19, w ∈ wsX5_would := by decide +kernel
  obtain ⟨⟨hn0, hn6, hc0, hc3⟩, hPI, hCI, hFr⟩ := id hI
  obtain ⟨hp1, hp2⟩ := hp
  refine g_loc (lv' := [(0, .ref (ad 0)), (1, .int (zI p9))]) ⟨rfl, rfl, trivial⟩ ?_
  refine g_aload_n E dX5_would_0 rfl ?_
  refine g_iconst E dX5_would_1 ?_
  refine pm_M_thrown E  hin5 (by decide +kernel) dX5_would_2 ?_
  refine g_aload_n E dX5_would_5 rfl ?_
  refine g_iload_n E dX5_would_6 rfl ?_
  refine g_callVi (T := TX5) (ci := 5) (n := 1) (As := [_]) (rest := _) E (m_isPile l D cA A ad _ _ _ _ _ (by omega) (by omega)) gX5_would_X5_isPile rfl ⟨rfl, rfl⟩ (by decide +kernel) ⟨Nat.le_of_ble_eq_true rfl, Nat.le_of_ble_eq_true rfl⟩ obM rfl rfl rfl (Nat.le_of_ble_eq_true rfl) ⟨Nat.le_of_ble_eq_true rfl, Nat.le_of_ble_eq_true rfl⟩ dX5_would_7 ?_
  rintro r_7 ws_7 ⟨rfl, rfl⟩
  refine g_if_eq (tgt := 33) E dX5_would_10 (by decide) (by omega) (fun c_10 => ?_) (fun c_10 => ?_)
  · have hi10 := ite0 c_10
    refine g_aload_n E dX5_would_33 rfl ?_
    refine g_iconst E dX5_would_34 ?_
    refine g_callVi (T := TX5) (ci := 5) (n := 1) (As := [_]) (rest := _) E (m_fail l D cA A ad _ _ _ _ _) gX5_would_X5_fail rfl ⟨rfl, rfl⟩ (by decide +kernel) ⟨Nat.le_of_ble_eq_true rfl, Nat.le_of_ble_eq_true rfl⟩ obM rfl rfl rfl (Nat.le_of_ble_eq_true rfl) ⟨Nat.le_of_ble_eq_true rfl, Nat.le_of_ble_eq_true rfl⟩ dX5_would_35 ?_
    rintro r_35 ws_35 ⟨rfl, rfl⟩
    have hX : eP a p9 = 1 := (by unfold eP; repeat (first | rw [if_pos (by omega)] | rw [if_neg (by omega)]))
    exact g_iret E ((by first | exact ⟨fun z => absurd (hX.symm.trans z) (by decide), fun _ => (by rw [hX])⟩ | exact ⟨fun _ => ⟨rfl, rfl⟩, fun z => absurd hX z⟩)) dX5_would_38
  · have hi10 := ite1 c_10; obtain ⟨q9, rfl⟩ := Int.eq_ofNat_of_zero_le (show 0 ≤ p9 by omega); have hPC := hPI q9 (by omega); have hPO := hPC.1; have hcl := hPC.2; have hPb := hPO; unfold PO at hPb; have hsq := sq_le (e := sd a q9) (by omega); have hru := rusty_b a q9 (a 0 0 4) (bl a q9).toNat
    refine g_aload_n E dX5_would_13 rfl ?_
    refine g_iload_n E dX5_would_14 rfl ?_
    refine g_aload_n E dX5_would_15 rfl ?_
    refine gm_M_many E  hin5 (by decide +kernel) dX5_would_16 ?_
    refine g_iload_n E dX5_would_19 rfl ?_
    first | refine lm_manyN E (by omega) dX5_would_20 ?_ | refine lm_many E (by omega) dX5_would_20 ?_
    refine g_aload_n E dX5_would_21 rfl ?_
    refine g_iload_n E dX5_would_22 rfl ?_
    refine g_callVi (T := TX5) (ci := 5) (n := 1) (As := [_]) (rest := _) E (m_rusty l D cA A ad _ _ _ _ _ (by omega) (by assumption)) gX5_would_X5_rusty rfl ⟨rfl, rfl⟩ (by decide +kernel) ⟨Nat.le_of_ble_eq_true rfl, Nat.le_of_ble_eq_true rfl⟩ obM rfl rfl rfl (Nat.le_of_ble_eq_true rfl) ⟨Nat.le_of_ble_eq_true rfl, Nat.le_of_ble_eq_true rfl⟩ dX5_would_23 ?_
    rintro r_23 ws_23 ⟨rfl, rfl⟩
    refine g_isub E dX5_would_26 ?_
    refine g_callVi (T := TX5) (ci := 5) (n := 2) (As := [_, _]) (rest := _) E (m_layers l D cA A ad _ _ _ _ _ (by omega) (by assumption) _ (by omega)) gX5_would_X5_layers rfl ⟨rfl, rfl⟩ (by decide +kernel) ⟨Nat.le_of_ble_eq_true rfl, Nat.le_of_ble_eq_true rfl⟩ obM rfl rfl rfl (Nat.le_of_ble_eq_true rfl) ⟨Nat.le_of_ble_eq_true rfl, Nat.le_of_ble_eq_true rfl⟩ dX5_would_27 ?_
    rintro r_27 ws_27 ⟨rfl, rfl⟩
    have hX : eP a (q9 : Int) = 0 := (by unfold eP; repeat (first | rw [if_pos (by omega)] | rw [if_neg (by omega)]))
    refine g_goto (tgt := 38) E dX5_would_30 (by decide) ?_
    exact g_iret E ((by first | exact ⟨fun z => absurd (hX.symm.trans z) (by decide), fun _ => (by rw [hX])⟩ | exact ⟨fun _ => ⟨rfl, rfl⟩, fun z => absurd hX z⟩)) dX5_would_38
set_option maxHeartbeats 800000 in
set_option maxRecDepth 100000 in
/-- advise() -/
theorem m_advise (l : Launch) (D : va_G) (cA : Nat → ClassId) (A : Nat → Prop) (ad : Nat → Nat) (a : St) (th dd : Int32) (kp : Nat → Nat → Int32) (hI : Inv a) : Met l yX5_advise wsX5_advise ({ frames := 2, cells := 0, slots := 0, locals := 45 }) (PcG D (tysX cA) A (wM cA ad a th dd kp) [.ref (ad 0)]) (va_Qi (fun (r : Int32) ws' => r = zI (adL a (np a).toNat).1.1 ∧ ws' = wM cA ad (a) (zI 0) dd kp) (gB D A) A) 0 0 A := by
  refine g_met (cc := cX5_advise) (maxL := 5) (ret := (some .int)) (own := RX5) rfl (by decide) rfl (Nat.le_of_ble_eq_true rfl) ?_
  intro p e s m below meth c E
  have hin5 : ∀ w ∈ u_ws RX5 TX5 19, w ∈ wsX5_advise := by decide +kernel
  obtain ⟨⟨hn0, hn6, hc0, hc3⟩, hPI, hCI, hFr⟩ := id hI
  refine g_loc (lv' := [(0, .ref (ad 0))]) ⟨rfl, trivial⟩ ?_
  refine g_aload_n E dX5_advise_0 rfl ?_
  refine g_iconst E dX5_advise_1 ?_
  refine pm_M_thrown E  hin5 (by decide +kernel) dX5_advise_2 ?_
  refine g_iconst E dX5_advise_5 ?_
  refine g_istore_n E dX5_advise_6 (by decide) ?_
  refine g_iconst E dX5_advise_7 ?_
  refine g_istore_n E dX5_advise_8 (by decide) ?_
  refine g_iconst E dX5_advise_9 ?_
  refine g_istore_n E dX5_advise_10 (by decide) ?_
  have key_kk : ∀ (n_kk kk : Nat), (kk : Int) ≤ np a → np a + 1 ≤ (kk : Int) + n_kk → GW p l e (headSpec wsX5_advise ({ frames := 2, cells := 0, slots := 0, locals := 45 })).room s m ([.ref (ad 0)] : List Value).toArray below meth c (MQ below (va_Qi (fun (r : Int32) ws' => r = zI (adL a (np a).toNat).1.1 ∧ ws' = wM cA ad (a) (zI 0) dd kp) (gB D A) A) ([.ref (ad 0)] : List Value).toArray s 0 0 A) D A 5 (wM cA ad (a) (zI 0) dd kp) 0 0 11 [(0, .ref (ad 0)), (1, .int (zI (adL a kk).1.1)), (2, .int (zI (adL a kk).1.2)), (3, .int (zI (kk : Int)))] [] := by
    intro n_kk
    induction n_kk with
    | zero => intro kk h1 h2; exact absurd h2 (by omega)
    | succ n_kk ih_kk =>
      intro kk hle_kk hfu_kk
      have hab := adL_b hI kk (by omega)
      obtain ⟨hab1, hab2, hab3, hab4⟩ := hab
      have hpk : (kk : Int) < np a → PO a kk := fun h => (hPI kk h).1
      refine g_iload_n E dX5_advise_11 rfl ?_
      refine g_aload_n E dX5_advise_12 rfl ?_
      refine gm_M_piles E  hin5 (by decide +kernel) dX5_advise_13 ?_
      refine g_icmp_ge (tgt := 72) E dX5_advise_16 (by decide) (by omega) (by omega) (fun c_16 => ?_) (fun c_16 => ?_)
      · refine g_iload_n E dX5_advise_72 rfl ?_
        exact g_iret E (⟨by rw [show (np a).toNat = kk by omega], rfl⟩) dX5_advise_73
      · have hPO := hpk (by omega); have hPk2 := hPO; unfold PO at hPk2; have hsq := sq_le (e := sd a kk) (by omega); have hrb := rusty_b a kk (a 0 0 4) (bl a kk).toNat
        refine g_aload_n E dX5_advise_19 rfl ?_
        refine g_iload_n E dX5_advise_20 rfl ?_
        refine g_callVi (T := TX5) (ci := 5) (n := 1) (As := [_]) (rest := _) E (m_rusty l D cA A ad _ _ _ _ _ (by omega) (by assumption)) gX5_advise_X5_rusty rfl ⟨rfl, rfl⟩ (by decide +kernel) ⟨Nat.le_of_ble_eq_true rfl, Nat.le_of_ble_eq_true rfl⟩ obM rfl rfl rfl (Nat.le_of_ble_eq_true rfl) ⟨Nat.le_of_ble_eq_true rfl, Nat.le_of_ble_eq_true rfl⟩ dX5_advise_21 ?_
        rintro r_21 ws_21 ⟨rfl, rfl⟩
        refine g_istore E dX5_advise_24 (by decide) ?_
        refine g_iload E dX5_advise_26 rfl ?_
        refine g_if_eq (tgt := 66) E dX5_advise_28 (by decide) (by omega) (fun c_28 => ?_) (fun c_28 => ?_)
        · have hst := ad_f (a := a) (n := kk) (by omega)
          refine g_iinc E dX5_advise_66 rfl (by decide) ?_
          refine g_goto (tgt := 11) E dX5_advise_69 (by decide) ?_
          refine g_loc (lv' := [(0, .ref (ad 0)), (1, .int (zI (adL a (kk + 1)).1.1)), (2, .int (zI (adL a (kk + 1)).1.2)), (3, .int (zI ((kk + 1) : Int)))]) ⟨rfl, congrArg (fun z => some (Value.int (zI z))) (congrArg (fun q : (Int × Int) × Int => q.1.1) hst).symm, congrArg (fun z => some (Value.int (zI z))) (congrArg (fun q : (Int × Int) × Int => q.1.2) hst).symm, rfl, trivial⟩ ?_
          exact ih_kk (kk + 1) (by omega) (by omega)
        · refine g_iload E dX5_advise_31 rfl ?_
          refine g_iload_n E dX5_advise_33 rfl ?_
          refine g_icmp_lt (tgt := 66) E dX5_advise_34 (by decide) (by omega) (by omega) (fun c_34 => ?_) (fun c_34 => ?_)
          · have hst := ad_f (a := a) (n := kk) (by omega)
            refine g_iinc E dX5_advise_66 rfl (by decide) ?_
            refine g_goto (tgt := 11) E dX5_advise_69 (by decide) ?_
            refine g_loc (lv' := [(0, .ref (ad 0)), (1, .int (zI (adL a (kk + 1)).1.1)), (2, .int (zI (adL a (kk + 1)).1.2)), (3, .int (zI ((kk + 1) : Int)))]) ⟨rfl, congrArg (fun z => some (Value.int (zI z))) (congrArg (fun q : (Int × Int) × Int => q.1.1) hst).symm, congrArg (fun z => some (Value.int (zI z))) (congrArg (fun q : (Int × Int) × Int => q.1.2) hst).symm, rfl, trivial⟩ ?_
            exact ih_kk (kk + 1) (by omega) (by omega)
          · refine g_iload E dX5_advise_37 rfl ?_
            refine g_iload_n E dX5_advise_39 rfl ?_
            refine g_icmp_ne (tgt := 61) E dX5_advise_40 (by decide) (by omega) (by omega) (fun c_40 => ?_) (fun c_40 => ?_)
            · have hst := ad_t (a := a) (n := kk) (by omega)
              refine g_iload_n E dX5_advise_61 rfl ?_
              refine g_istore_n E dX5_advise_62 (by decide) ?_
              refine g_iload E dX5_advise_63 rfl ?_
              refine g_istore_n E dX5_advise_65 (by decide) ?_
              refine g_iinc E dX5_advise_66 rfl (by decide) ?_
              refine g_goto (tgt := 11) E dX5_advise_69 (by decide) ?_
              refine g_loc (lv' := [(0, .ref (ad 0)), (1, .int (zI (adL a (kk + 1)).1.1)), (2, .int (zI (adL a (kk + 1)).1.2)), (3, .int (zI ((kk + 1) : Int)))]) ⟨rfl, congrArg (fun z => some (Value.int (zI z))) (congrArg (fun q : (Int × Int) × Int => q.1.1) hst).symm, congrArg (fun z => some (Value.int (zI z))) (congrArg (fun q : (Int × Int) × Int => q.1.2) hst).symm, rfl, trivial⟩ ?_
              exact ih_kk (kk + 1) (by omega) (by omega)
            · have hb4 := hab4 (by omega); have hPb := (hPI (adL a kk).1.1.toNat (by omega)).1; unfold PO at hPb; have hsqb := sq_le (e := sd a (adL a kk).1.1.toNat) (by omega)
              refine g_aload_n E dX5_advise_43 rfl ?_
              refine gm_M_many E  hin5 (by decide +kernel) dX5_advise_44 ?_
              refine g_iload_n E dX5_advise_47 rfl ?_
              first | refine lm_manyN E (by omega) dX5_advise_48 ?_ | refine lm_many E (by omega) dX5_advise_48 ?_
              refine g_aload_n E dX5_advise_49 rfl ?_
              refine gm_M_many E  hin5 (by decide +kernel) dX5_advise_50 ?_
              refine g_iload_n E dX5_advise_53 rfl ?_
              first | refine lm_manyN E (by omega) dX5_advise_54 ?_ | refine lm_many E (by omega) dX5_advise_54 ?_
              refine g_icmp_lt (tgt := 61) E dX5_advise_55 (by decide) (by omega) (by omega) (fun c_55 => ?_) (fun c_55 => ?_)
              · have hst := ad_t (a := a) (n := kk) (by omega)
                refine g_iload_n E dX5_advise_61 rfl ?_
                refine g_istore_n E dX5_advise_62 (by decide) ?_
                refine g_iload E dX5_advise_63 rfl ?_
                refine g_istore_n E dX5_advise_65 (by decide) ?_
                refine g_iinc E dX5_advise_66 rfl (by decide) ?_
                refine g_goto (tgt := 11) E dX5_advise_69 (by decide) ?_
                refine g_loc (lv' := [(0, .ref (ad 0)), (1, .int (zI (adL a (kk + 1)).1.1)), (2, .int (zI (adL a (kk + 1)).1.2)), (3, .int (zI ((kk + 1) : Int)))]) ⟨rfl, congrArg (fun z => some (Value.int (zI z))) (congrArg (fun q : (Int × Int) × Int => q.1.1) hst).symm, congrArg (fun z => some (Value.int (zI z))) (congrArg (fun q : (Int × Int) × Int => q.1.2) hst).symm, rfl, trivial⟩ ?_
                exact ih_kk (kk + 1) (by omega) (by omega)
              · have hst := ad_f (a := a) (n := kk) (by omega)
                refine g_goto (tgt := 66) E dX5_advise_58 (by decide) ?_
                refine g_iinc E dX5_advise_66 rfl (by decide) ?_
                refine g_goto (tgt := 11) E dX5_advise_69 (by decide) ?_
                refine g_loc (lv' := [(0, .ref (ad 0)), (1, .int (zI (adL a (kk + 1)).1.1)), (2, .int (zI (adL a (kk + 1)).1.2)), (3, .int (zI ((kk + 1) : Int)))]) ⟨rfl, congrArg (fun z => some (Value.int (zI z))) (congrArg (fun q : (Int × Int) × Int => q.1.1) hst).symm, congrArg (fun z => some (Value.int (zI z))) (congrArg (fun q : (Int × Int) × Int => q.1.2) hst).symm, rfl, trivial⟩ ?_
                exact ih_kk (kk + 1) (by omega) (by omega)
  refine g_loc (lv' := [(0, .ref (ad 0)), (1, .int (zI (adL a 0).1.1)), (2, .int (zI (adL a 0).1.2)), (3, .int (zI (0 : Int)))]) ⟨rfl, rfl, rfl, rfl, trivial⟩ ?_
  exact key_kk ((np a) + 1).toNat.succ 0 (by omega) (by omega)
set_option maxHeartbeats 800000 in
set_option maxRecDepth 100000 in
/-- digest() -/
theorem m_digest (l : Launch) (D : va_G) (cA : Nat → ClassId) (A : Nat → Prop) (ad : Nat → Nat) (a : St) (th dd : Int32) (kp : Nat → Nat → Int32) (hI : Inv a) (hdd : dd = a 0 0 2) : Met l yX5_digest wsX5_digest ({ frames := 6, cells := 0, slots := 0, locals := 142 }) (PcG D (tysX cA) A (wM cA ad a th dd kp) [.ref (ad 0)]) (va_Ql (fun (r : Int64) ws' => r = digV a ∧ ws' = wM cA ad (a) (zI 0) dd kp) (gB D A) A) 0 0 A := by
  refine g_met (cc := cX5_digest) (maxL := 5) (ret := (some .long)) (own := RX5) rfl (by decide) rfl (Nat.le_of_ble_eq_true rfl) ?_
  intro p e s m below meth c E
  have hin5 : ∀ w ∈ u_ws RX5 TX5 19, w ∈ wsX5_digest := by decide +kernel
  obtain ⟨⟨hn0, hn6, hc0, hc3⟩, hPI, hCI, hFr⟩ := id hI
  refine g_loc (lv' := [(0, .ref (ad 0))]) ⟨rfl, trivial⟩ ?_
  refine g_aload_n E dX5_digest_0 rfl ?_
  refine g_iconst E dX5_digest_1 ?_
  refine pm_M_thrown E  hin5 (by decide +kernel) dX5_digest_2 ?_
  refine g_ldc2 (v := 1811) E dX5_digest_5 (by decide +kernel) ?_
  refine g_lstore_n E dX5_digest_8 (by decide) ?_
  refine g_iconst E dX5_digest_9 ?_
  refine g_istore_n E dX5_digest_10 (by decide) ?_
  have key_kk : ∀ (n_kk kk : Nat), (kk : Int) ≤ (11 : Int) → (11 : Int) + 1 ≤ (kk : Int) + n_kk → GW p l e (headSpec wsX5_digest ({ frames := 6, cells := 0, slots := 0, locals := 142 })).room s m ([.ref (ad 0)] : List Value).toArray below meth c (MQ below (va_Ql (fun (r : Int64) ws' => r = digV a ∧ ws' = wM cA ad (a) (zI 0) dd kp) (gB D A) A) ([.ref (ad 0)] : List Value).toArray s 0 0 A) D A 5 (wM cA ad (a) (zI 0) dd kp) 0 0 11 [(0, .ref (ad 0)), (1, .long (dgN (fun w => coV a w) 1811 kk)), (3, .int (zI (kk : Int)))] [] := by
    intro n_kk
    induction n_kk with
    | zero => intro kk h1 h2; exact absurd h2 (by omega)
    | succ n_kk ih_kk =>
      intro kk hle_kk hfu_kk
      refine g_iload_n E dX5_digest_11 rfl ?_
      refine g_bipush E dX5_digest_12 (by decide) ?_
      refine g_icmp_ge (tgt := 36) E dX5_digest_14 (by decide) (by omega) (by omega) (fun c_14 => ?_) (fun c_14 => ?_)
      · obtain rfl : kk = 11 := by omega
        refine g_iconst E dX5_digest_36 ?_
        refine g_istore_n E dX5_digest_37 (by decide) ?_
        have key_cc2 : ∀ (n_cc2 cc2 : Nat), (cc2 : Int) ≤ (5 : Int) → (5 : Int) + 1 ≤ (cc2 : Int) + n_cc2 → GW p l e (headSpec wsX5_digest ({ frames := 6, cells := 0, slots := 0, locals := 142 })).room s m ([.ref (ad 0)] : List Value).toArray below meth c (MQ below (va_Ql (fun (r : Int64) ws' => r = digV a ∧ ws' = wM cA ad (a) (zI 0) dd kp) (gB D A) A) ([.ref (ad 0)] : List Value).toArray s 0 0 A) D A 5 (wM cA ad (a) (zI 0) dd kp) 0 0 38 [(0, .ref (ad 0)), (1, .long (dgF (fun c d => dgN (fun w => toV a c w) d 5) (dgN (fun w => coV a w) 1811 11) cc2)), (3, .int (zI (cc2 : Int)))] [] := by
          intro n_cc2
          induction n_cc2 with
          | zero => intro cc2 h1 h2; exact absurd h2 (by omega)
          | succ n_cc2 ih_cc2 =>
            intro cc2 hle_cc2 hfu_cc2
            refine g_iload_n E dX5_digest_38 rfl ?_
            refine g_iconst E dX5_digest_39 ?_
            refine g_icmp_ge (tgt := 79) E dX5_digest_40 (by decide) (by omega) (by omega) (fun c_40 => ?_) (fun c_40 => ?_)
            · obtain rfl : cc2 = 5 := by omega
              refine g_iconst E dX5_digest_79 ?_
              refine g_istore_n E dX5_digest_80 (by decide) ?_
              have key_pp3 : ∀ (n_pp3 pp3 : Nat), (pp3 : Int) ≤ np a → np a + 1 ≤ (pp3 : Int) + n_pp3 → GW p l e (headSpec wsX5_digest ({ frames := 6, cells := 0, slots := 0, locals := 142 })).room s m ([.ref (ad 0)] : List Value).toArray below meth c (MQ below (va_Ql (fun (r : Int64) ws' => r = digV a ∧ ws' = wM cA ad (a) (zI 0) dd kp) (gB D A) A) ([.ref (ad 0)] : List Value).toArray s 0 0 A) D A 5 (wM cA ad (a) (zI 0) dd kp) 0 0 81 [(0, .ref (ad 0)), (1, .long (dgF (fun p d => dgP a p d) (dgF (fun c d => dgN (fun w => toV a c w) d 5) (dgN (fun w => coV a w) 1811 11) 5) pp3)), (3, .int (zI (pp3 : Int)))] [] := by
                intro n_pp3
                induction n_pp3 with
                | zero => intro pp3 h1 h2; exact absurd h2 (by omega)
                | succ n_pp3 ih_pp3 =>
                  intro pp3 hle_pp3 hfu_pp3
                  refine g_iload_n E dX5_digest_81 rfl ?_
                  refine g_aload_n E dX5_digest_82 rfl ?_
                  refine gm_M_piles E  hin5 (by decide +kernel) dX5_digest_83 ?_
                  refine g_icmp_ge (tgt := 161) E dX5_digest_86 (by decide) (by omega) (by omega) (fun c_86 => ?_) (fun c_86 => ?_)
                  · obtain rfl : pp3 = (np a).toNat := by omega
                    refine g_iconst E dX5_digest_161 ?_
                    refine g_istore_n E dX5_digest_162 (by decide) ?_
                    have key_cc4 : ∀ (n_cc4 cc4 : Nat), (cc4 : Int) ≤ nc a → nc a + 1 ≤ (cc4 : Int) + n_cc4 → GW p l e (headSpec wsX5_digest ({ frames := 6, cells := 0, slots := 0, locals := 142 })).room s m ([.ref (ad 0)] : List Value).toArray below meth c (MQ below (va_Ql (fun (r : Int64) ws' => r = digV a ∧ ws' = wM cA ad (a) (zI 0) dd kp) (gB D A) A) ([.ref (ad 0)] : List Value).toArray s 0 0 A) D A 5 (wM cA ad (a) (zI 0) dd kp) 0 0 163 [(0, .ref (ad 0)), (1, .long (dgF (fun c d => dgN (fun w => moV a c w) d 3) (dgF (fun p d => dgP a p d) (dgF (fun c d => dgN (fun w => toV a c w) d 5) (dgN (fun w => coV a w) 1811 11) 5) (np a).toNat) cc4)), (3, .int (zI (cc4 : Int)))] [] := by
                      intro n_cc4
                      induction n_cc4 with
                      | zero => intro cc4 h1 h2; exact absurd h2 (by omega)
                      | succ n_cc4 ih_cc4 =>
                        intro cc4 hle_cc4 hfu_cc4
                        refine g_iload_n E dX5_digest_163 rfl ?_
                        refine g_aload_n E dX5_digest_164 rfl ?_
                        refine gm_M_cats E  hin5 (by decide +kernel) dX5_digest_165 ?_
                        refine g_icmp_ge (tgt := 207) E dX5_digest_168 (by decide) (by omega) (by omega) (fun c_168 => ?_) (fun c_168 => ?_)
                        · refine g_lload_n E dX5_digest_207 rfl ?_
                          exact g_lret E (⟨by rw [digV, show (nc a).toNat = cc4 by omega], rfl⟩) dX5_digest_208
                        · have hci := hCI cc4 (by omega); unfold CI at hci; have hlp : ¬ a 3 cc4 0 = 0 := fun q => absurd hci.1 (by rw [lp, q]; decide)
                          refine g_iconst E dX5_digest_171 ?_
                          refine g_istore E dX5_digest_172 (by decide) ?_
                          have key_jj4 : ∀ (n_jj4 jj4 : Nat), (jj4 : Int) ≤ (3 : Int) → (3 : Int) + 1 ≤ (jj4 : Int) + n_jj4 → GW p l e (headSpec wsX5_digest ({ frames := 6, cells := 0, slots := 0, locals := 142 })).room s m ([.ref (ad 0)] : List Value).toArray below meth c (MQ below (va_Ql (fun (r : Int64) ws' => r = digV a ∧ ws' = wM cA ad (a) (zI 0) dd kp) (gB D A) A) ([.ref (ad 0)] : List Value).toArray s 0 0 A) D A 5 (wM cA ad (a) (zI 0) dd kp) 0 0 174 [(0, .ref (ad 0)), (1, .long (dgN (fun w => moV a cc4 w) (dgF (fun c d => dgN (fun w => moV a c w) d 3) (dgF (fun p d => dgP a p d) (dgF (fun c d => dgN (fun w => toV a c w) d 5) (dgN (fun w => coV a w) 1811 11) 5) (np a).toNat) cc4) jj4)), (3, .int (zI (cc4 : Int))), (4, .int (zI (jj4 : Int)))] [] := by
                            intro n_jj4
                            induction n_jj4 with
                            | zero => intro jj4 h1 h2; exact absurd h2 (by omega)
                            | succ n_jj4 ih_jj4 =>
                              intro jj4 hle_jj4 hfu_jj4
                              refine g_iload E dX5_digest_174 rfl ?_
                              refine g_iconst E dX5_digest_176 ?_
                              refine g_icmp_ge (tgt := 201) E dX5_digest_177 (by decide) (by omega) (by omega) (fun c_177 => ?_) (fun c_177 => ?_)
                              · obtain rfl : jj4 = 3 := by omega
                                refine g_iinc E dX5_digest_201 rfl (by decide) ?_
                                refine g_goto (tgt := 163) E dX5_digest_204 (by decide) ?_
                                refine g_loc (lv' := [(0, .ref (ad 0)), (1, .long (dgF (fun c d => dgN (fun w => moV a c w) d 3) (dgF (fun p d => dgP a p d) (dgF (fun c d => dgN (fun w => toV a c w) d 5) (dgN (fun w => coV a w) 1811 11) 5) (np a).toNat) (cc4 + 1))), (3, .int (zI ((cc4 + 1) : Int)))]) ⟨rfl, rfl, rfl, trivial⟩ ?_
                                exact ih_cc4 (cc4 + 1) (by omega) (by omega)
                              · refine g_lload_n E dX5_digest_180 rfl ?_
                                refine g_ldc2 (v := 31) E dX5_digest_181 (by decide +kernel) ?_
                                refine g_lmul E dX5_digest_184 ?_
                                refine g_aload_n E dX5_digest_185 rfl ?_
                                refine g_iload_n E dX5_digest_186 rfl ?_
                                refine g_iload E dX5_digest_187 rfl ?_
                                refine g_callVi (T := TX5) (ci := 5) (n := 2) (As := [_, _]) (rest := _) E (m_catTold l D cA A ad _ _ _ _ _ (by omega) (by assumption) _ (by omega)) gX5_digest_X5_catTold rfl ⟨rfl, rfl⟩ (by decide +kernel) ⟨Nat.le_of_ble_eq_true rfl, Nat.le_of_ble_eq_true rfl⟩ obM rfl rfl rfl (Nat.le_of_ble_eq_true rfl) ⟨Nat.le_of_ble_eq_true rfl, Nat.le_of_ble_eq_true rfl⟩ dX5_digest_189 ?_
                                rintro r_189 ws_189 ⟨rfl, rfl⟩
                                refine g_i2l E dX5_digest_192 ?_
                                refine g_ladd E dX5_digest_193 ?_
                                refine g_lstore_n E dX5_digest_194 (by decide) ?_
                                refine g_iinc E dX5_digest_195 rfl (by decide) ?_
                                refine g_goto (tgt := 174) E dX5_digest_198 (by decide) ?_
                                refine g_loc (lv' := [(0, .ref (ad 0)), (1, .long (dgN (fun w => moV a cc4 w) (dgF (fun c d => dgN (fun w => moV a c w) d 3) (dgF (fun p d => dgP a p d) (dgF (fun c d => dgN (fun w => toV a c w) d 5) (dgN (fun w => coV a w) 1811 11) 5) (np a).toNat) cc4) (jj4 + 1))), (3, .int (zI (cc4 : Int))), (4, .int (zI ((jj4 + 1) : Int)))]) ⟨rfl, rfl, rfl, rfl, trivial⟩ ?_
                                exact ih_jj4 (jj4 + 1) (by omega) (by omega)
                          refine g_loc (lv' := [(0, .ref (ad 0)), (1, .long (dgN (fun w => moV a cc4 w) (dgF (fun c d => dgN (fun w => moV a c w) d 3) (dgF (fun p d => dgP a p d) (dgF (fun c d => dgN (fun w => toV a c w) d 5) (dgN (fun w => coV a w) 1811 11) 5) (np a).toNat) cc4) 0)), (3, .int (zI (cc4 : Int))), (4, .int (zI (0 : Int)))]) ⟨rfl, rfl, rfl, rfl, trivial⟩ ?_
                          exact key_jj4 (((3 : Int)) + 1).toNat.succ 0 (by omega) (by omega)
                    refine g_loc (lv' := [(0, .ref (ad 0)), (1, .long (dgF (fun c d => dgN (fun w => moV a c w) d 3) (dgF (fun p d => dgP a p d) (dgF (fun c d => dgN (fun w => toV a c w) d 5) (dgN (fun w => coV a w) 1811 11) 5) (np a).toNat) 0)), (3, .int (zI (0 : Int)))]) ⟨rfl, rfl, rfl, trivial⟩ ?_
                    exact key_cc4 ((nc a) + 1).toNat.succ 0 (by omega) (by omega)
                  · have hPO := (hPI pp3 (by omega)).1; have hPb := hPO; unfold PO at hPb; have hsq := sq_le (e := sd a pp3) (by omega)
                    refine g_iconst E dX5_digest_89 ?_
                    refine g_istore E dX5_digest_90 (by decide) ?_
                    have key_jj3 : ∀ (n_jj3 jj3 : Nat), (jj3 : Int) ≤ (10 : Int) → (10 : Int) + 1 ≤ (jj3 : Int) + n_jj3 → GW p l e (headSpec wsX5_digest ({ frames := 6, cells := 0, slots := 0, locals := 142 })).room s m ([.ref (ad 0)] : List Value).toArray below meth c (MQ below (va_Ql (fun (r : Int64) ws' => r = digV a ∧ ws' = wM cA ad (a) (zI 0) dd kp) (gB D A) A) ([.ref (ad 0)] : List Value).toArray s 0 0 A) D A 5 (wM cA ad (a) (zI 0) dd kp) 0 0 92 [(0, .ref (ad 0)), (1, .long (dgN (fun w => abV a pp3 w) (dgF (fun p d => dgP a p d) (dgF (fun c d => dgN (fun w => toV a c w) d 5) (dgN (fun w => coV a w) 1811 11) 5) pp3) jj3)), (3, .int (zI (pp3 : Int))), (4, .int (zI (jj3 : Int)))] [] := by
                      intro n_jj3
                      induction n_jj3 with
                      | zero => intro jj3 h1 h2; exact absurd h2 (by omega)
                      | succ n_jj3 ih_jj3 =>
                        intro jj3 hle_jj3 hfu_jj3
                        refine g_iload E dX5_digest_92 rfl ?_
                        refine g_bipush E dX5_digest_94 (by decide) ?_
                        refine g_icmp_ge (tgt := 120) E dX5_digest_96 (by decide) (by omega) (by omega) (fun c_96 => ?_) (fun c_96 => ?_)
                        · obtain rfl : jj3 = 10 := by omega
                          refine g_iconst E dX5_digest_120 ?_
                          refine g_istore E dX5_digest_121 (by decide) ?_
                          have key_kk3 : ∀ (n_kk3 kk3 : Nat), (kk3 : Int) ≤ bl a pp3 → bl a pp3 + 1 ≤ (kk3 : Int) + n_kk3 → GW p l e (headSpec wsX5_digest ({ frames := 6, cells := 0, slots := 0, locals := 142 })).room s m ([.ref (ad 0)] : List Value).toArray below meth c (MQ below (va_Ql (fun (r : Int64) ws' => r = digV a ∧ ws' = wM cA ad (a) (zI 0) dd kp) (gB D A) A) ([.ref (ad 0)] : List Value).toArray s 0 0 A) D A 5 (wM cA ad (a) (zI 0) dd kp) 0 0 123 [(0, .ref (ad 0)), (1, .long (dgN (fun k => a 2 pp3 k) (dgN (fun w => abV a pp3 w) (dgF (fun p d => dgP a p d) (dgF (fun c d => dgN (fun w => toV a c w) d 5) (dgN (fun w => coV a w) 1811 11) 5) pp3) 10) kk3)), (3, .int (zI (pp3 : Int))), (4, .int (zI (kk3 : Int)))] [] := by
                            intro n_kk3
                            induction n_kk3 with
                            | zero => intro kk3 h1 h2; exact absurd h2 (by omega)
                            | succ n_kk3 ih_kk3 =>
                              intro kk3 hle_kk3 hfu_kk3
                              refine g_iload E dX5_digest_123 rfl ?_
                              refine g_aload_n E dX5_digest_125 rfl ?_
                              refine gm_M_many E  hin5 (by decide +kernel) dX5_digest_126 ?_
                              refine g_iload_n E dX5_digest_129 rfl ?_
                              first | refine lm_manyN E (by omega) dX5_digest_130 ?_ | refine lm_many E (by omega) dX5_digest_130 ?_
                              refine g_icmp_ge (tgt := 155) E dX5_digest_131 (by decide) (by omega) (by omega) (fun c_131 => ?_) (fun c_131 => ?_)
                              · obtain rfl : kk3 = (bl a pp3).toNat := by omega
                                refine g_iinc E dX5_digest_155 rfl (by decide) ?_
                                refine g_goto (tgt := 81) E dX5_digest_158 (by decide) ?_
                                refine g_loc (lv' := [(0, .ref (ad 0)), (1, .long (dgF (fun p d => dgP a p d) (dgF (fun c d => dgN (fun w => toV a c w) d 5) (dgN (fun w => coV a w) 1811 11) 5) (pp3 + 1))), (3, .int (zI ((pp3 + 1) : Int)))]) ⟨rfl, rfl, rfl, trivial⟩ ?_
                                exact ih_pp3 (pp3 + 1) (by omega) (by omega)
                              · refine g_lload_n E dX5_digest_134 rfl ?_
                                refine g_ldc2 (v := 31) E dX5_digest_135 (by decide +kernel) ?_
                                refine g_lmul E dX5_digest_138 ?_
                                refine g_aload_n E dX5_digest_139 rfl ?_
                                refine g_iload_n E dX5_digest_140 rfl ?_
                                refine g_iload E dX5_digest_141 rfl ?_
                                refine g_callVi (T := TX5) (ci := 5) (n := 2) (As := [_, _]) (rest := _) E (m_rustOf l D cA A ad _ _ _ _ _ (by omega) _ (by omega)) gX5_digest_X5_rustOf rfl ⟨rfl, rfl⟩ (by decide +kernel) ⟨Nat.le_of_ble_eq_true rfl, Nat.le_of_ble_eq_true rfl⟩ obM rfl rfl rfl (Nat.le_of_ble_eq_true rfl) ⟨Nat.le_of_ble_eq_true rfl, Nat.le_of_ble_eq_true rfl⟩ dX5_digest_143 ?_
                                rintro r_143 ws_143 ⟨rfl, rfl⟩
                                refine g_i2l E dX5_digest_146 ?_
                                refine g_ladd E dX5_digest_147 ?_
                                refine g_lstore_n E dX5_digest_148 (by decide) ?_
                                refine g_iinc E dX5_digest_149 rfl (by decide) ?_
                                refine g_goto (tgt := 123) E dX5_digest_152 (by decide) ?_
                                refine g_loc (lv' := [(0, .ref (ad 0)), (1, .long (dgN (fun k => a 2 pp3 k) (dgN (fun w => abV a pp3 w) (dgF (fun p d => dgP a p d) (dgF (fun c d => dgN (fun w => toV a c w) d 5) (dgN (fun w => coV a w) 1811 11) 5) pp3) 10) (kk3 + 1))), (3, .int (zI (pp3 : Int))), (4, .int (zI ((kk3 + 1) : Int)))]) ⟨rfl, rfl, rfl, rfl, trivial⟩ ?_
                                exact ih_kk3 (kk3 + 1) (by omega) (by omega)
                          refine g_loc (lv' := [(0, .ref (ad 0)), (1, .long (dgN (fun k => a 2 pp3 k) (dgN (fun w => abV a pp3 w) (dgF (fun p d => dgP a p d) (dgF (fun c d => dgN (fun w => toV a c w) d 5) (dgN (fun w => coV a w) 1811 11) 5) pp3) 10) 0)), (3, .int (zI (pp3 : Int))), (4, .int (zI (0 : Int)))]) ⟨rfl, rfl, rfl, rfl, trivial⟩ ?_
                          exact key_kk3 ((bl a pp3) + 1).toNat.succ 0 (by omega) (by omega)
                        · refine g_lload_n E dX5_digest_99 rfl ?_
                          refine g_ldc2 (v := 31) E dX5_digest_100 (by decide +kernel) ?_
                          refine g_lmul E dX5_digest_103 ?_
                          refine g_aload_n E dX5_digest_104 rfl ?_
                          refine g_iload_n E dX5_digest_105 rfl ?_
                          refine g_iload E dX5_digest_106 rfl ?_
                          refine g_callVi (T := TX5) (ci := 5) (n := 2) (As := [_, _]) (rest := _) E (m_pileTold l D cA A ad _ _ _ _ _ (by omega) (by assumption) _ (by omega)) gX5_digest_X5_pileTold rfl ⟨rfl, rfl⟩ (by decide +kernel) ⟨Nat.le_of_ble_eq_true rfl, Nat.le_of_ble_eq_true rfl⟩ obM rfl rfl rfl (Nat.le_of_ble_eq_true rfl) ⟨Nat.le_of_ble_eq_true rfl, Nat.le_of_ble_eq_true rfl⟩ dX5_digest_108 ?_
                          rintro r_108 ws_108 ⟨rfl, rfl⟩
                          refine g_i2l E dX5_digest_111 ?_
                          refine g_ladd E dX5_digest_112 ?_
                          refine g_lstore_n E dX5_digest_113 (by decide) ?_
                          refine g_iinc E dX5_digest_114 rfl (by decide) ?_
                          refine g_goto (tgt := 92) E dX5_digest_117 (by decide) ?_
                          refine g_loc (lv' := [(0, .ref (ad 0)), (1, .long (dgN (fun w => abV a pp3 w) (dgF (fun p d => dgP a p d) (dgF (fun c d => dgN (fun w => toV a c w) d 5) (dgN (fun w => coV a w) 1811 11) 5) pp3) (jj3 + 1))), (3, .int (zI (pp3 : Int))), (4, .int (zI ((jj3 + 1) : Int)))]) ⟨rfl, rfl, rfl, rfl, trivial⟩ ?_
                          exact ih_jj3 (jj3 + 1) (by omega) (by omega)
                    refine g_loc (lv' := [(0, .ref (ad 0)), (1, .long (dgN (fun w => abV a pp3 w) (dgF (fun p d => dgP a p d) (dgF (fun c d => dgN (fun w => toV a c w) d 5) (dgN (fun w => coV a w) 1811 11) 5) pp3) 0)), (3, .int (zI (pp3 : Int))), (4, .int (zI (0 : Int)))]) ⟨rfl, rfl, rfl, rfl, trivial⟩ ?_
                    exact key_jj3 (((10 : Int)) + 1).toNat.succ 0 (by omega) (by omega)
              refine g_loc (lv' := [(0, .ref (ad 0)), (1, .long (dgF (fun p d => dgP a p d) (dgF (fun c d => dgN (fun w => toV a c w) d 5) (dgN (fun w => coV a w) 1811 11) 5) 0)), (3, .int (zI (0 : Int)))]) ⟨rfl, rfl, rfl, trivial⟩ ?_
              exact key_pp3 ((np a) + 1).toNat.succ 0 (by omega) (by omega)
            · refine g_iconst E dX5_digest_43 ?_
              refine g_istore E dX5_digest_44 (by decide) ?_
              have key_jj2 : ∀ (n_jj2 jj2 : Nat), (jj2 : Int) ≤ (5 : Int) → (5 : Int) + 1 ≤ (jj2 : Int) + n_jj2 → GW p l e (headSpec wsX5_digest ({ frames := 6, cells := 0, slots := 0, locals := 142 })).room s m ([.ref (ad 0)] : List Value).toArray below meth c (MQ below (va_Ql (fun (r : Int64) ws' => r = digV a ∧ ws' = wM cA ad (a) (zI 0) dd kp) (gB D A) A) ([.ref (ad 0)] : List Value).toArray s 0 0 A) D A 5 (wM cA ad (a) (zI 0) dd kp) 0 0 46 [(0, .ref (ad 0)), (1, .long (dgN (fun w => toV a cc2 w) (dgF (fun c d => dgN (fun w => toV a c w) d 5) (dgN (fun w => coV a w) 1811 11) cc2) jj2)), (3, .int (zI (cc2 : Int))), (4, .int (zI (jj2 : Int)))] [] := by
                intro n_jj2
                induction n_jj2 with
                | zero => intro jj2 h1 h2; exact absurd h2 (by omega)
                | succ n_jj2 ih_jj2 =>
                  intro jj2 hle_jj2 hfu_jj2
                  refine g_iload E dX5_digest_46 rfl ?_
                  refine g_iconst E dX5_digest_48 ?_
                  refine g_icmp_ge (tgt := 73) E dX5_digest_49 (by decide) (by omega) (by omega) (fun c_49 => ?_) (fun c_49 => ?_)
                  · obtain rfl : jj2 = 5 := by omega
                    refine g_iinc E dX5_digest_73 rfl (by decide) ?_
                    refine g_goto (tgt := 38) E dX5_digest_76 (by decide) ?_
                    refine g_loc (lv' := [(0, .ref (ad 0)), (1, .long (dgF (fun c d => dgN (fun w => toV a c w) d 5) (dgN (fun w => coV a w) 1811 11) (cc2 + 1))), (3, .int (zI ((cc2 + 1) : Int)))]) ⟨rfl, rfl, rfl, trivial⟩ ?_
                    exact ih_cc2 (cc2 + 1) (by omega) (by omega)
                  · refine g_lload_n E dX5_digest_52 rfl ?_
                    refine g_ldc2 (v := 31) E dX5_digest_53 (by decide +kernel) ?_
                    refine g_lmul E dX5_digest_56 ?_
                    refine g_aload_n E dX5_digest_57 rfl ?_
                    refine g_iload_n E dX5_digest_58 rfl ?_
                    refine g_iload E dX5_digest_59 rfl ?_
                    refine g_callVi (T := TX5) (ci := 5) (n := 2) (As := [_, _]) (rest := _) E (m_calibreTold l D cA A ad _ _ _ _ (by assumption) _ (by omega) _ (by omega)) gX5_digest_X5_calibreTold rfl ⟨rfl, rfl⟩ (by decide +kernel) ⟨Nat.le_of_ble_eq_true rfl, Nat.le_of_ble_eq_true rfl⟩ obM rfl rfl rfl (Nat.le_of_ble_eq_true rfl) ⟨Nat.le_of_ble_eq_true rfl, Nat.le_of_ble_eq_true rfl⟩ dX5_digest_61 ?_
                    rintro r_61 ws_61 ⟨rfl, rfl⟩
                    refine g_i2l E dX5_digest_64 ?_
                    refine g_ladd E dX5_digest_65 ?_
                    refine g_lstore_n E dX5_digest_66 (by decide) ?_
                    refine g_iinc E dX5_digest_67 rfl (by decide) ?_
                    refine g_goto (tgt := 46) E dX5_digest_70 (by decide) ?_
                    refine g_loc (lv' := [(0, .ref (ad 0)), (1, .long (dgN (fun w => toV a cc2 w) (dgF (fun c d => dgN (fun w => toV a c w) d 5) (dgN (fun w => coV a w) 1811 11) cc2) (jj2 + 1))), (3, .int (zI (cc2 : Int))), (4, .int (zI ((jj2 + 1) : Int)))]) ⟨rfl, rfl, rfl, rfl, trivial⟩ ?_
                    exact ih_jj2 (jj2 + 1) (by omega) (by omega)
              refine g_loc (lv' := [(0, .ref (ad 0)), (1, .long (dgN (fun w => toV a cc2 w) (dgF (fun c d => dgN (fun w => toV a c w) d 5) (dgN (fun w => coV a w) 1811 11) cc2) 0)), (3, .int (zI (cc2 : Int))), (4, .int (zI (0 : Int)))]) ⟨rfl, rfl, rfl, rfl, trivial⟩ ?_
              exact key_jj2 (((5 : Int)) + 1).toNat.succ 0 (by omega) (by omega)
        refine g_loc (lv' := [(0, .ref (ad 0)), (1, .long (dgF (fun c d => dgN (fun w => toV a c w) d 5) (dgN (fun w => coV a w) 1811 11) 0)), (3, .int (zI (0 : Int)))]) ⟨rfl, rfl, rfl, trivial⟩ ?_
        exact key_cc2 (((5 : Int)) + 1).toNat.succ 0 (by omega) (by omega)
      · refine g_lload_n E dX5_digest_17 rfl ?_
        refine g_ldc2 (v := 31) E dX5_digest_18 (by decide +kernel) ?_
        refine g_lmul E dX5_digest_21 ?_
        refine g_aload_n E dX5_digest_22 rfl ?_
        refine g_iload_n E dX5_digest_23 rfl ?_
        refine g_callVi (T := TX5) (ci := 5) (n := 1) (As := [_]) (rest := _) E (m_counted l D cA A ad _ _ _ _ (by assumption) _ (by omega) (fun _ => hdd)) gX5_digest_X5_counted rfl ⟨rfl, rfl⟩ (by decide +kernel) ⟨Nat.le_of_ble_eq_true rfl, Nat.le_of_ble_eq_true rfl⟩ obM rfl rfl rfl (Nat.le_of_ble_eq_true rfl) ⟨Nat.le_of_ble_eq_true rfl, Nat.le_of_ble_eq_true rfl⟩ dX5_digest_24 ?_
        rintro r_24 ws_24 ⟨rfl, rfl⟩
        refine g_i2l E dX5_digest_27 ?_
        refine g_ladd E dX5_digest_28 ?_
        refine g_lstore_n E dX5_digest_29 (by decide) ?_
        refine g_iinc E dX5_digest_30 rfl (by decide) ?_
        refine g_goto (tgt := 11) E dX5_digest_33 (by decide) ?_
        refine g_loc (lv' := [(0, .ref (ad 0)), (1, .long (dgN (fun w => coV a w) 1811 (kk + 1))), (3, .int (zI ((kk + 1) : Int)))]) ⟨rfl, rfl, rfl, trivial⟩ ?_
        exact ih_kk (kk + 1) (by omega) (by omega)
  refine g_loc (lv' := [(0, .ref (ad 0)), (1, .long (dgN (fun w => coV a w) 1811 0)), (3, .int (zI (0 : Int)))]) ⟨rfl, rfl, rfl, trivial⟩ ?_
  exact key_kk (((11 : Int)) + 1).toNat.succ 0 (by omega) (by omega)
