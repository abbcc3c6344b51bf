/-! ===== YARD ===== -/
set_option maxHeartbeats 800000 in
set_option maxRecDepth 100000 in
/-- CannonStacks.sum(row) -/
theorem c_X4_sum (l : Launch) (D : va_G) (cA : Nat → ClassId) (A : Nat → Prop) (ws : va_W) (b : Nat) (f : Nat → Int32) (hq : ∃ q0 : Nat, ws[q0]? = some (b, .inl (cA 0, 5, .inl f))) : Met l yX4_sum wsX4_sum ({ frames := 0, cells := 0, slots := 0, locals := 0 }) (PcG D (tysX cA) A (ws) [.ref b]) (va_Qi (fun (r : Int32) ws' => r = sum5 f 5 ∧ ws' = ws) (gB D A) A) 0 0 A := by
  refine g_met (cc := cX4_sum) (maxL := 3) (ret := (some .int)) (own := RX4) rfl (by decide) rfl (Nat.le_of_ble_eq_true rfl) ?_
  intro p e s m below meth c E
  refine g_loc (lv' := [(0, .ref b)]) ⟨rfl, trivial⟩ ?_
  refine g_iconst E dX4_sum_0 ?_
  refine g_istore_n E dX4_sum_1 (by decide) ?_
  refine g_iconst E dX4_sum_2 ?_
  refine g_istore_n E dX4_sum_3 (by decide) ?_
  have key_kk : ∀ (n_kk kk : Nat), (kk : Int) ≤ (5 : Int) → (5 : Int) + 1 ≤ (kk : Int) + n_kk → GW p l e (headSpec wsX4_sum ({ frames := 0, cells := 0, slots := 0, locals := 0 })).room s m ([.ref b] : List Value).toArray below meth c (MQ below (va_Qi (fun (r : Int32) ws' => r = sum5 f 5 ∧ ws' = ws) (gB D A) A) ([.ref b] : List Value).toArray s 0 0 A) D A 3 (ws) 0 0 4 [(0, .ref b), (1, .int (sum5 f kk)), (2, .int (zI (kk : Int)))] [] := by
    intro n_kk
    induction n_kk with
    | zero => intro kk h1 h2; exact absurd h2 (by omega)
    | succ n_kk ih_kk =>
      intro kk hle_kk hfu_kk
      refine g_iload_n E dX4_sum_4 rfl ?_
      refine g_aload_n E dX4_sum_5 rfl ?_
      refine g_alen E 0 rfl hq dX4_sum_6 ?_
      refine g_top (show _ = Value.int (zI 5) from rfl) ?_
      refine g_icmp_ge (tgt := 22) E dX4_sum_7 (by decide) (by omega) (by omega) (fun c_7 => ?_) (fun c_7 => ?_)
      · refine g_iload_n E dX4_sum_22 rfl ?_
        exact g_iret E (⟨by rw [show kk = 5 by omega], rfl⟩) dX4_sum_23
      · refine g_iload_n E dX4_sum_10 rfl ?_
        refine g_aload_n E dX4_sum_11 rfl ?_
        refine g_iload_n E dX4_sum_12 rfl ?_
        refine g_iald E 0 rfl hq (by omega) (by decide) rfl dX4_sum_13 ?_
        refine g_iaddR E dX4_sum_14 ?_
        refine g_istore_n E dX4_sum_15 (by decide) ?_
        refine g_iinc E dX4_sum_16 rfl (by decide) ?_
        refine g_goto (tgt := 4) E dX4_sum_19 (by decide) ?_
        refine g_loc (lv' := [(0, .ref b), (1, .int (sum5 f (kk + 1))), (2, .int (zI ((kk + 1) : Int)))]) ⟨rfl, rfl, rfl, trivial⟩ ?_
        exact ih_kk (kk + 1) (by omega) (by omega)
  refine g_loc (lv' := [(0, .ref b), (1, .int (sum5 f 0)), (2, .int (zI (0 : Int)))]) ⟨rfl, rfl, rfl, trivial⟩ ?_
  exact key_kk (((5 : Int)) + 1).toNat.succ 0 (by omega) (by omega)
set_option maxHeartbeats 800000 in
set_option maxRecDepth 100000 in
/-- Cat.jump(piles) -/
theorem c_X0_jump (l : Launch) (D : va_G) (cA : Nat → ClassId) (A : Nat → Prop) (ad : Ad) (σ : Nat → St) (y : Nat) (a : St) (hy : y < 2) (hI : Inv a) (c9 : Nat) (hc : (c9 : Int) < nc a) (hn : 0 < np a) : Met l yX0_jump wsX0_jump ({ frames := 0, cells := 0, slots := 0, locals := 0 }) (PcG D (tysX cA) A (wX cA ad (upY σ y a)) [.ref (ad y 3 c9), .int (zI (np a))]) (va_Qv (fun ws' => ws' = wX cA ad (upY σ y (jmpS a c9))) (gB D A) A) 0 0 A := by
  refine g_met (cc := cX0_jump) (maxL := 2) (ret := none) (own := RX0) rfl (by decide) rfl (Nat.le_of_ble_eq_true rfl) ?_
  intro p e s m below meth c E
  have hin0 : ∀ w ∈ u_ws RX0 TX0 3, w ∈ wsX0_jump := by decide +kernel
  obtain ⟨⟨hn0, hn6, hc0, hc3⟩, hPI, hCI, hFr⟩ := id hI
  have hci := hCI c9 hc
  unfold CI at hci
  refine g_loc (lv' := [(0, .ref (ad y 3 c9)), (1, .int (zI (np a)))]) ⟨rfl, rfl, trivial⟩ ?_
  refine g_aload_n E dX0_jump_0 rfl ?_
  refine gx_Cat_on' E (mem_3 _ (by omega) _ (by omega)) hin0 (by decide +kernel) dX0_jump_1 ?_
  refine g_iconst E dX0_jump_4 ?_
  refine g_icmp_eq (tgt := 13) E dX0_jump_5 (by decide) (by omega) (by omega) (fun c_5 => ?_) (fun c_5 => ?_)
  · refine g_aload_n E dX0_jump_13 rfl ?_
    refine g_iconst E dX0_jump_14 ?_
    refine px_Cat_on' E (mem_3 _ (by omega) _ (by omega)) hin0 (by decide +kernel) dX0_jump_15 ?_
    refine g_goto (tgt := 36) E dX0_jump_18 (by decide) ?_
    exact g_vret E (by first | rw [jmpS, jmpO, if_pos (Or.inl c_5)] | rw [jmpS, jmpO, if_neg (by omega)]) dX0_jump_36
  · refine g_iload_n E dX0_jump_8 rfl ?_
    refine g_iconst E dX0_jump_9 ?_
    refine g_icmp_ge (tgt := 21) E dX0_jump_10 (by decide) (by omega) (by omega) (fun c_10 => ?_) (fun c_10 => ?_)
    · refine g_aload_n E dX0_jump_21 rfl ?_
      refine g_aload_n E dX0_jump_22 rfl ?_
      refine gx_Cat_on' E (mem_3 _ (by omega) _ (by omega)) hin0 (by decide +kernel) dX0_jump_23 ?_
      refine g_aload_n E dX0_jump_26 rfl ?_
      refine gx_Cat_leap' E (mem_3 _ (by omega) _ (by omega)) hin0 (by decide +kernel) dX0_jump_27 ?_
      refine g_iadd E dX0_jump_30 ?_
      refine g_iload_n E dX0_jump_31 rfl ?_
      refine g_irem E dX0_jump_32 (by omega) (by omega) ?_
      refine px_Cat_on' E (mem_3 _ (by omega) _ (by omega)) hin0 (by decide +kernel) dX0_jump_33 ?_
      exact g_vret E (by first | rw [jmpS, jmpO, if_pos (Or.inl c_5)] | rw [jmpS, jmpO, if_neg (by omega)]) dX0_jump_36
    · exact absurd hn (by omega)
set_option maxHeartbeats 800000 in
set_option maxRecDepth 100000 in
/-- Yard.letJump(cat) -/
theorem c_X3_letJump (l : Launch) (D : va_G) (cA : Nat → ClassId) (A : Nat → Prop) (ad : Ad) (σ : Nat → St) (y : Nat) (a : St) (hy : y < 2) (hI : Inv a) (c9 : Nat) (hc : (c9 : Int) < nc a) (hn : 0 < np a) : Met l yX3_letJump wsX3_letJump ({ frames := 2, cells := 0, slots := 0, locals := 42 }) (PcG D (tysX cA) A (wX cA ad (upY σ y a)) [.ref (ad y 0 0), .ref (ad y 3 c9)]) (va_Qi (fun (r : Int32) ws' => r = zI (ljV a c9) ∧ ws' = wX cA ad (upY σ y (ljS a c9))) (gB D A) A) 0 0 A := by
  refine g_met (cc := cX3_letJump) (maxL := 3) (ret := (some .int)) (own := RX3) rfl (by decide) rfl (Nat.le_of_ble_eq_true rfl) ?_
  intro p e s m below meth c E
  have hin0 : ∀ w ∈ u_ws RX0 TX0 3, w ∈ wsX3_letJump := by decide +kernel
  have hin1 : ∀ w ∈ u_ws RX1 TX1 4, w ∈ wsX3_letJump := by decide +kernel
  have hin3 : ∀ w ∈ u_ws RX3 TX3 8, w ∈ wsX3_letJump := by decide +kernel
  obtain ⟨⟨hn0, hn6, hc0, hc3⟩, hPI, hCI, hFr⟩ := id hI
  have hj := jmpO_b hI hc hn
  have hjI := jmpS_i hI hc hn
  have hjP : (jmpP a c9 : Int) = jmpO a c9 := by rw [jmpP]; omega
  have hPI2 := hjI.2.1 (jmpP a c9) (by rw [jmpS_np]; omega)
  have hPj := hPI2.1
  have hcl := hPI2.2
  have hon : on (jmpS a c9) c9 = jmpO a c9 := on_s (by omega)
  have hcal : cal (topS (jmpS a c9) (jmpP a c9)) (jmpP a c9) = cal (jmpS a c9) (jmpP a c9) := cal_up (by omega)
  have hx1 : ∀ k : Nat, topS (jmpS a c9) (jmpP a c9) 4 0 k = jmpS a c9 4 0 k := fun k => up3_n (by omega)
  have hx2 : ∀ (k : Nat) (v : Int32), up3 (topS (jmpS a c9) (jmpP a c9)) 4 0 k v 3 c9 2 = jmpS a c9 3 c9 2 := fun k v => by rw [up3_n (by omega), topS, up3_n (by omega)]
  refine g_loc (lv' := [(0, .ref (ad y 0 0)), (1, .ref (ad y 3 c9))]) ⟨rfl, rfl, trivial⟩ ?_
  refine g_aload_n E dX3_letJump_0 rfl ?_
  refine g_aload_n E dX3_letJump_1 rfl ?_
  refine gx_Yard_pileCount' E (mem_y _ (by omega)) hin3 (by decide +kernel) dX3_letJump_2 ?_
  refine g_callVv (T := TX0) (ci := 0) (n := 1) (As := [_]) (rest := _) E (c_X0_jump l D cA A ad _ _ _ (by omega) hI c9 (by omega) (by omega)) gX3_letJump_X0_jump rfl ⟨rfl, rfl⟩ (by decide +kernel) ⟨Nat.le_of_ble_eq_true rfl, Nat.le_of_ble_eq_true rfl⟩ (ob_3 (mem_3 _ (by omega) _ (by omega))) rfl rfl rfl (Nat.le_of_ble_eq_true rfl) ⟨Nat.le_of_ble_eq_true rfl, Nat.le_of_ble_eq_true rfl⟩ dX3_letJump_5 ?_
  rintro ws_5 rfl
  refine g_aload_n E dX3_letJump_8 rfl ?_
  refine gx_Yard_piles' E (mem_y _ (by omega)) hin3 (by decide +kernel) dX3_letJump_9 ?_
  refine g_aload_n E dX3_letJump_12 rfl ?_
  refine gx_Cat_on' E (mem_3 _ (by omega) _ (by omega)) hin0 (by decide +kernel) dX3_letJump_13 ?_
  rw [hon]
  refine lx_10' E (mem_10 _ (by omega)) (by omega) dX3_letJump_16 ?_
  refine g_top (v' := .ref (ad y 1 (jmpP a c9))) rfl ?_
  refine g_astore_n E dX3_letJump_17 (by decide) ?_
  refine g_aload_n E dX3_letJump_18 rfl ?_
  refine g_callVi (T := TX1) (ci := 1) (n := 0) (As := []) (rest := _) E (c_X1_hasBrokenLayer l D cA A ad σ y (jmpP a c9) (jmpS a c9) (by omega) (by omega) (by assumption)) gX3_letJump_X1_hasBrokenLayer rfl ⟨rfl, rfl⟩ (by decide +kernel) ⟨Nat.le_of_ble_eq_true rfl, Nat.le_of_ble_eq_true rfl⟩ (ob_1 (mem_1 _ (by omega) _ (by omega))) rfl rfl rfl (Nat.le_of_ble_eq_true rfl) ⟨Nat.le_of_ble_eq_true rfl, Nat.le_of_ble_eq_true rfl⟩ dX3_letJump_19 ?_
  rintro r_19 ws_19 ⟨rfl, rfl⟩
  refine g_if_ne (tgt := 27) E dX3_letJump_22 (by decide) (by omega) (fun c_22 => ?_) (fun c_22 => ?_)
  · have hbr : brk (jmpS a c9) (jmpP a c9) = true := ite1 c_22
    refine g_aload_n E dX3_letJump_27 rfl ?_
    refine g_callVi (T := TX1) (ci := 1) (n := 0) (As := []) (rest := _) E (c_X1_takeTop l D cA A ad σ y (jmpP a c9) (jmpS a c9) (by omega) (by omega) (by assumption) (brk_b hPj hbr)) gX3_letJump_X1_takeTop rfl ⟨rfl, rfl⟩ (by decide +kernel) ⟨Nat.le_of_ble_eq_true rfl, Nat.le_of_ble_eq_true rfl⟩ (ob_1 (mem_1 _ (by omega) _ (by omega))) rfl rfl rfl (Nat.le_of_ble_eq_true rfl) ⟨Nat.le_of_ble_eq_true rfl, Nat.le_of_ble_eq_true rfl⟩ dX3_letJump_28 ?_
    rintro r_28 ws_28 ⟨rfl, rfl⟩
    refine g_pop E dX3_letJump_31 rfl ?_
    refine g_aload_n E dX3_letJump_32 rfl ?_
    refine gx_Yard_loose' E (mem_y _ (by omega)) hin3 (by decide +kernel) dX3_letJump_33 ?_
    refine g_aload_n E dX3_letJump_36 rfl ?_
    refine gx_Pile_calibre' E (mem_1 _ (by omega) _ (by omega)) hin1 (by decide +kernel) dX3_letJump_37 ?_
    rw [hcal]
    refine g_dup2 E dX3_letJump_40 rfl rfl ?_
    refine lx_4' E (mem_4 _ (by omega)) (by omega) dX3_letJump_41 ?_
    refine g_iconst E dX3_letJump_42 ?_
    refine g_iaddR E dX3_letJump_43 ?_
    refine sx_4' E (mem_4 _ (by omega)) (by omega) dX3_letJump_44 ?_
    refine g_aload_n E dX3_letJump_45 rfl ?_
    refine g_dup E dX3_letJump_46 rfl ?_
    refine gx_Cat_rolledOff' E (mem_3 _ (by omega) _ (by omega)) hin0 (by decide +kernel) dX3_letJump_47 ?_
    refine g_iconst E dX3_letJump_50 ?_
    refine g_iaddR E dX3_letJump_51 ?_
    refine px_Cat_rolledOff' E (mem_3 _ (by omega) _ (by omega)) hin0 (by decide +kernel) dX3_letJump_52 ?_
    refine g_iconst E dX3_letJump_55 ?_
    exact g_iret E (⟨by rw [ljV, if_pos hbr], by rw [ljS, if_pos hbr]; simp only [offS, hx1, hx2]⟩) dX3_letJump_56
  · have hbr : ¬ brk (jmpS a c9) (jmpP a c9) = true := ite0 c_22
    refine g_iconst E dX3_letJump_25 ?_
    exact g_iret E (⟨by rw [ljV, if_neg hbr], by rw [ljS, if_neg hbr]⟩) dX3_letJump_26
set_option maxHeartbeats 800000 in
set_option maxRecDepth 100000 in
/-- Yard.passOneDay() -/
theorem c_X3_passOneDay (l : Launch) (D : va_G) (cA : Nat → ClassId) (A : Nat → Prop) (ad : Ad) (σ : Nat → St) (y : Nat) (a : St) (hy : y < 2) (hI : Inv a) : Met l yX3_passOneDay wsX3_passOneDay ({ frames := 3, cells := 0, slots := 0, locals := 65 }) (PcG D (tysX cA) A (wX cA ad (upY σ y a)) [.ref (ad y 0 0)]) (va_Qi (fun (r : Int32) ws' => r = zI (dayV a) ∧ ws' = wX cA ad (upY σ y (dayS a))) (gB D A) A) 0 0 A := by
  refine g_met (cc := cX3_passOneDay) (maxL := 3) (ret := (some .int)) (own := RX3) rfl (by decide) rfl (Nat.le_of_ble_eq_true rfl) ?_
  intro p e s m below meth c E
  have hin3 : ∀ w ∈ u_ws RX3 TX3 8, w ∈ wsX3_passOneDay := by decide +kernel
  obtain ⟨⟨hn0, hn6, hc0, hc3⟩, hPI, hCI, hFr⟩ := id hI
  refine g_loc (lv' := [(0, .ref (ad y 0 0))]) ⟨rfl, trivial⟩ ?_
  refine g_iconst E dX3_passOneDay_0 ?_
  refine g_istore_n E dX3_passOneDay_1 (by decide) ?_
  have key_kk : ∀ (n_kk kk : Nat), (kk : Int) ≤ np a → np a + 1 ≤ (kk : Int) + n_kk → GW p l e (headSpec wsX3_passOneDay ({ frames := 3, cells := 0, slots := 0, locals := 65 })).room s m ([.ref (ad y 0 0)] : List Value).toArray below meth c (MQ below (va_Qi (fun (r : Int32) ws' => r = zI (dayV a) ∧ ws' = wX cA ad (upY σ y (dayS a))) (gB D A) A) ([.ref (ad y 0 0)] : List Value).toArray s 0 0 A) D A 3 (wX cA ad (upY σ y (raAll a kk))) 0 0 2 [(0, .ref (ad y 0 0)), (1, .int (zI (kk : Int)))] [] := by
    intro n_kk
    induction n_kk with
    | zero => intro kk h1 h2; exact absurd h2 (by omega)
    | succ n_kk ih_kk =>
      intro kk hle_kk hfu_kk
      have hik := raAll_i hI kk hle_kk
      have hek := raAll_e a kk
      have hnk : np (raAll a kk) = np a := congrArg Int32.toInt (hek 0 0 0 (by decide))
      have hck : nc (raAll a kk) = nc a := congrArg Int32.toInt (hek 0 0 1 (by decide))
      refine g_iload_n E dX3_passOneDay_2 rfl ?_
      refine g_aload_n E dX3_passOneDay_3 rfl ?_
      refine gx_Yard_pileCount' E (mem_y _ (by omega)) hin3 (by decide +kernel) dX3_passOneDay_4 ?_
      refine g_icmp_ge (tgt := 29) E dX3_passOneDay_7 (by decide) (by omega) (by omega) (fun c_7 => ?_) (fun c_7 => ?_)
      · obtain rfl : kk = (np a).toNat := by omega
        refine g_iconst E dX3_passOneDay_29 ?_
        refine g_istore_n E dX3_passOneDay_30 (by decide) ?_
        refine g_aload_n E dX3_passOneDay_31 rfl ?_
        refine gx_Yard_pileCount' E (mem_y _ (by omega)) hin3 (by decide +kernel) dX3_passOneDay_32 ?_
        refine g_if_le (tgt := 67) E dX3_passOneDay_35 (by decide) (by omega) (fun c_35 => ?_) (fun c_35 => ?_)
        · refine g_aload_n E dX3_passOneDay_67 rfl ?_
          refine g_dup E dX3_passOneDay_68 rfl ?_
          refine gx_Yard_day' E (mem_y _ (by omega)) hin3 (by decide +kernel) dX3_passOneDay_69 ?_
          refine g_iconst E dX3_passOneDay_72 ?_
          refine g_iaddR E dX3_passOneDay_73 ?_
          refine px_Yard_day' E (mem_y _ (by omega)) hin3 (by decide +kernel) dX3_passOneDay_74 ?_
          refine g_iload_n E dX3_passOneDay_77 rfl ?_
          exact g_iret E (⟨by rw [dayV, catsS]; first | rw [if_pos (by omega), show (nc (raAll a (np a).toNat)).toNat = cc9 by omega] | rw [if_neg (by omega)], by rw [dayS, catsS]; first | rw [if_pos (by omega), show (nc (raAll a (np a).toNat)).toNat = cc9 by omega] | rw [if_neg (by omega)]⟩) dX3_passOneDay_78
        · refine g_iconst E dX3_passOneDay_38 ?_
          refine g_istore_n E dX3_passOneDay_39 (by decide) ?_
          have key_cc9 : ∀ (n_cc9 cc9 : Nat), (cc9 : Int) ≤ nc a → nc a + 1 ≤ (cc9 : Int) + n_cc9 → GW p l e (headSpec wsX3_passOneDay ({ frames := 3, cells := 0, slots := 0, locals := 65 })).room s m ([.ref (ad y 0 0)] : List Value).toArray below meth c (MQ below (va_Qi (fun (r : Int32) ws' => r = zI (dayV a) ∧ ws' = wX cA ad (upY σ y (dayS a))) (gB D A) A) ([.ref (ad y 0 0)] : List Value).toArray s 0 0 A) D A 3 (wX cA ad (upY σ y ((jumpAll (raAll a (np a).toNat) cc9).1))) 0 0 40 [(0, .ref (ad y 0 0)), (1, .int (zI (jumpAll (raAll a (np a).toNat) cc9).2)), (2, .int (zI (cc9 : Int)))] [] := by
            intro n_cc9
            induction n_cc9 with
            | zero => intro cc9 h1 h2; exact absurd h2 (by omega)
            | succ n_cc9 ih_cc9 =>
              intro cc9 hle_cc9 hfu_cc9
              obtain ⟨hji, hjn, hjc⟩ := jumpAll_i hik (by omega) cc9 (by omega)
              refine g_iload_n E dX3_passOneDay_40 rfl ?_
              refine g_aload_n E dX3_passOneDay_41 rfl ?_
              refine gx_Yard_catCount' E (mem_y _ (by omega)) hin3 (by decide +kernel) dX3_passOneDay_42 ?_
              refine g_icmp_ge (tgt := 67) E dX3_passOneDay_45 (by decide) (by omega) (by omega) (fun c_45 => ?_) (fun c_45 => ?_)
              · refine g_aload_n E dX3_passOneDay_67 rfl ?_
                refine g_dup E dX3_passOneDay_68 rfl ?_
                refine gx_Yard_day' E (mem_y _ (by omega)) hin3 (by decide +kernel) dX3_passOneDay_69 ?_
                refine g_iconst E dX3_passOneDay_72 ?_
                refine g_iaddR E dX3_passOneDay_73 ?_
                refine px_Yard_day' E (mem_y _ (by omega)) hin3 (by decide +kernel) dX3_passOneDay_74 ?_
                refine g_iload_n E dX3_passOneDay_77 rfl ?_
                exact g_iret E (⟨by rw [dayV, catsS]; first | rw [if_pos (by omega), show (nc (raAll a (np a).toNat)).toNat = cc9 by omega] | rw [if_neg (by omega)], by rw [dayS, catsS]; first | rw [if_pos (by omega), show (nc (raAll a (np a).toNat)).toNat = cc9 by omega] | rw [if_neg (by omega)]⟩) dX3_passOneDay_78
              · refine g_iload_n E dX3_passOneDay_48 rfl ?_
                refine g_aload_n E dX3_passOneDay_49 rfl ?_
                refine g_aload_n E dX3_passOneDay_50 rfl ?_
                refine gx_Yard_cats' E (mem_y _ (by omega)) hin3 (by decide +kernel) dX3_passOneDay_51 ?_
                refine g_iload_n E dX3_passOneDay_54 rfl ?_
                refine lx_11' E (mem_11 _ (by omega)) (by omega) dX3_passOneDay_55 ?_
                refine g_callVi (T := TX3) (ci := 3) (n := 1) (As := [_]) (rest := _) E (c_X3_letJump l D cA A ad _ _ _ (by omega) (by assumption) cc9 (by omega) (by omega)) gX3_passOneDay_X3_letJump rfl ⟨rfl, rfl⟩ (by decide +kernel) ⟨Nat.le_of_ble_eq_true rfl, Nat.le_of_ble_eq_true rfl⟩ (ob_0 (mem_y _ (by omega))) rfl rfl rfl (Nat.le_of_ble_eq_true rfl) ⟨Nat.le_of_ble_eq_true rfl, Nat.le_of_ble_eq_true rfl⟩ dX3_passOneDay_56 ?_
                rintro r_56 ws_56 ⟨rfl, rfl⟩
                refine g_iadd E dX3_passOneDay_59 ?_
                refine g_istore_n E dX3_passOneDay_60 (by decide) ?_
                refine g_iinc E dX3_passOneDay_61 rfl (by decide) ?_
                refine g_goto (tgt := 40) E dX3_passOneDay_64 (by decide) ?_
                refine g_st (ws' := wX cA ad (upY σ y ((jumpAll (raAll a (np a).toNat) (cc9 + 1)).1))) (rfl) rfl rfl ?_
                refine g_loc (lv' := [(0, .ref (ad y 0 0)), (1, .int (zI (jumpAll (raAll a (np a).toNat) (cc9 + 1)).2)), (2, .int (zI ((cc9 + 1) : Int)))]) ⟨rfl, rfl, rfl, trivial⟩ ?_
                exact ih_cc9 (cc9 + 1) (by omega) (by omega)
          refine g_loc (lv' := [(0, .ref (ad y 0 0)), (1, .int (zI (jumpAll (raAll a (np a).toNat) 0).2)), (2, .int (zI (0 : Int)))]) ⟨rfl, rfl, rfl, trivial⟩ ?_
          exact key_cc9 ((nc a) + 1).toNat.succ 0 (by omega) (by omega)
      · refine g_aload_n E dX3_passOneDay_10 rfl ?_
        refine gx_Yard_piles' E (mem_y _ (by omega)) hin3 (by decide +kernel) dX3_passOneDay_11 ?_
        refine g_iload_n E dX3_passOneDay_14 rfl ?_
        refine lx_10' E (mem_10 _ (by omega)) (by omega) dX3_passOneDay_15 ?_
        refine g_aload_n E dX3_passOneDay_16 rfl ?_
        refine gx_Yard_rain' E (mem_y _ (by omega)) hin3 (by decide +kernel) dX3_passOneDay_17 ?_
        refine g_callVv (T := TX1) (ci := 1) (n := 1) (As := [_]) (rest := _) E (c_X1_rustForADay l D cA A ad σ y kk (raAll a kk) (by omega) (by omega) (hik.2.1 kk (by omega)).1 _) gX3_passOneDay_X1_rustForADay rfl ⟨rfl, rfl⟩ (by decide +kernel) ⟨Nat.le_of_ble_eq_true rfl, Nat.le_of_ble_eq_true rfl⟩ (ob_1 (mem_1 _ (by omega) _ (by omega))) rfl rfl rfl (Nat.le_of_ble_eq_true rfl) ⟨Nat.le_of_ble_eq_true rfl, Nat.le_of_ble_eq_true rfl⟩ dX3_passOneDay_20 ?_
        rintro ws_20 rfl
        refine g_iinc E dX3_passOneDay_23 rfl (by decide) ?_
        refine g_goto (tgt := 2) E dX3_passOneDay_26 (by decide) ?_
        refine g_st (ws' := wX cA ad (upY σ y (raAll a (kk + 1)))) (rfl) rfl rfl ?_
        refine g_loc (lv' := [(0, .ref (ad y 0 0)), (1, .int (zI ((kk + 1) : Int)))]) ⟨rfl, rfl, trivial⟩ ?_
        exact ih_kk (kk + 1) (by omega) (by omega)
  refine g_loc (lv' := [(0, .ref (ad y 0 0)), (1, .int (zI (0 : Int)))]) ⟨rfl, rfl, trivial⟩ ?_
  exact key_kk ((np a) + 1).toNat.succ 0 (by omega) (by omega)
set_option maxHeartbeats 800000 in
set_option maxRecDepth 100000 in
/-- Yard.passDays(days) -/
theorem c_X3_passDays (l : Launch) (D : va_G) (cA : Nat → ClassId) (A : Nat → Prop) (ad : Ad) (σ : Nat → St) (y : Nat) (a : St) (hy : y < 2) (hI : Inv a) (d9 : Int) (hd : 0 ≤ d9 ∧ d9 ≤ 1000) : Met l yX3_passDays wsX3_passDays ({ frames := 4, cells := 0, slots := 0, locals := 87 }) (PcG D (tysX cA) A (wX cA ad (upY σ y a)) [.ref (ad y 0 0), .int (zI d9)]) (va_Qi (fun (r : Int32) ws' => r = zI (passL a d9.toNat).2 ∧ ws' = wX cA ad (upY σ y ((passL a d9.toNat).1))) (gB D A) A) 0 0 A := by
  refine g_met (cc := cX3_passDays) (maxL := 4) (ret := (some .int)) (own := RX3) rfl (by decide) rfl (Nat.le_of_ble_eq_true rfl) ?_
  intro p e s m below meth c E
  have hin3 : ∀ w ∈ u_ws RX3 TX3 8, w ∈ wsX3_passDays := by decide +kernel
  refine g_loc (lv' := [(0, .ref (ad y 0 0)), (1, .int (zI d9))]) ⟨rfl, rfl, trivial⟩ ?_
  refine g_iconst E dX3_passDays_0 ?_
  refine g_istore_n E dX3_passDays_1 (by decide) ?_
  refine g_iconst E dX3_passDays_2 ?_
  refine g_istore_n E dX3_passDays_3 (by decide) ?_
  have key_kk : ∀ (n_kk kk : Nat), (kk : Int) ≤ d9 → d9 + 1 ≤ (kk : Int) + n_kk → GW p l e (headSpec wsX3_passDays ({ frames := 4, cells := 0, slots := 0, locals := 87 })).room s m ([.ref (ad y 0 0), .int (zI d9)] : List Value).toArray below meth c (MQ below (va_Qi (fun (r : Int32) ws' => r = zI (passL a d9.toNat).2 ∧ ws' = wX cA ad (upY σ y ((passL a d9.toNat).1))) (gB D A) A) ([.ref (ad y 0 0), .int (zI d9)] : List Value).toArray s 0 0 A) D A 4 (wX cA ad (upY σ y ((passL a kk).1))) 0 0 4 [(0, .ref (ad y 0 0)), (1, .int (zI d9)), (2, .int (zI (passL a kk).2)), (3, .int (zI (kk : Int)))] [] := by
    intro n_kk
    induction n_kk with
    | zero => intro kk h1 h2; exact absurd h2 (by omega)
    | succ n_kk ih_kk =>
      intro kk hle_kk hfu_kk
      obtain ⟨hik, hnk, hck⟩ := passL_i hI kk
      refine g_iload_n E dX3_passDays_4 rfl ?_
      refine g_iload_n E dX3_passDays_5 rfl ?_
      refine g_icmp_ge (tgt := 22) E dX3_passDays_6 (by decide) (by omega) (by omega) (fun c_6 => ?_) (fun c_6 => ?_)
      · refine g_iload_n E dX3_passDays_22 rfl ?_
        exact g_iret E (⟨by rw [show d9.toNat = kk by omega], by rw [show d9.toNat = kk by omega]⟩) dX3_passDays_23
      · refine g_iload_n E dX3_passDays_9 rfl ?_
        refine g_aload_n E dX3_passDays_10 rfl ?_
        refine g_callVi (T := TX3) (ci := 3) (n := 0) (As := []) (rest := _) E (c_X3_passOneDay l D cA A ad _ _ _ (by omega) (by assumption)) gX3_passDays_X3_passOneDay rfl ⟨rfl, rfl⟩ (by decide +kernel) ⟨Nat.le_of_ble_eq_true rfl, Nat.le_of_ble_eq_true rfl⟩ (ob_0 (mem_y _ (by omega))) rfl rfl rfl (Nat.le_of_ble_eq_true rfl) ⟨Nat.le_of_ble_eq_true rfl, Nat.le_of_ble_eq_true rfl⟩ dX3_passDays_11 ?_
        rintro r_11 ws_11 ⟨rfl, rfl⟩
        refine g_iadd E dX3_passDays_14 ?_
        refine g_istore_n E dX3_passDays_15 (by decide) ?_
        refine g_iinc E dX3_passDays_16 rfl (by decide) ?_
        refine g_goto (tgt := 4) E dX3_passDays_19 (by decide) ?_
        refine g_st (ws' := wX cA ad (upY σ y ((passL a (kk + 1)).1))) (rfl) rfl rfl ?_
        refine g_loc (lv' := [(0, .ref (ad y 0 0)), (1, .int (zI d9)), (2, .int (zI (passL a (kk + 1)).2)), (3, .int (zI ((kk + 1) : Int)))]) ⟨rfl, rfl, rfl, rfl, trivial⟩ ?_
        exact ih_kk (kk + 1) (by omega) (by omega)
  refine g_loc (lv' := [(0, .ref (ad y 0 0)), (1, .int (zI d9)), (2, .int (zI (passL a 0).2)), (3, .int (zI (0 : Int)))]) ⟨rfl, rfl, rfl, rfl, trivial⟩ ?_
  exact key_kk ((d9) + 1).toNat.succ 0 (by omega) (by omega)
set_option maxHeartbeats 800000 in
set_option maxRecDepth 100000 in
/-- Yard.ballsOfCalibre(c) -/
theorem c_X3_ballsOfCalibre (l : Launch) (D : va_G) (cA : Nat → ClassId) (A : Nat → Prop) (ad : Ad) (σ : Nat → St) (y : Nat) (a : St) (hy : y < 2) (hI : Inv a) (q9 : Int) (hq : 0 ≤ q9 ∧ q9 ≤ 4) : Met l yX3_ballsOfCalibre wsX3_ballsOfCalibre ({ frames := 0, cells := 0, slots := 0, locals := 0 }) (PcG D (tysX cA) A (wX cA ad (upY σ y a)) [.ref (ad y 0 0), .int (zI q9)]) (va_Qi (fun (r : Int32) ws' => r = zI (ofCal a q9 (np a).toNat) ∧ ws' = wX cA ad (upY σ y a)) (gB D A) A) 0 0 A := by
  refine g_met (cc := cX3_ballsOfCalibre) (maxL := 4) (ret := (some .int)) (own := RX3) rfl (by decide) rfl (Nat.le_of_ble_eq_true rfl) ?_
  intro p e s m below meth c E
  have hin1 : ∀ w ∈ u_ws RX1 TX1 4, w ∈ wsX3_ballsOfCalibre := by decide +kernel
  have hin3 : ∀ w ∈ u_ws RX3 TX3 8, w ∈ wsX3_ballsOfCalibre := by decide +kernel
  obtain ⟨⟨hn0, hn6, hc0, hc3⟩, hPI, hCI, hFr⟩ := id hI
  refine g_loc (lv' := [(0, .ref (ad y 0 0)), (1, .int (zI q9))]) ⟨rfl, rfl, trivial⟩ ?_
  refine g_iconst E dX3_ballsOfCalibre_0 ?_
  refine g_istore_n E dX3_ballsOfCalibre_1 (by decide) ?_
  refine g_iconst E dX3_ballsOfCalibre_2 ?_
  refine g_istore_n E dX3_ballsOfCalibre_3 (by decide) ?_
  have key_kk : ∀ (n_kk kk : Nat), (kk : Int) ≤ np a → np a + 1 ≤ (kk : Int) + n_kk → GW p l e (headSpec wsX3_ballsOfCalibre ({ frames := 0, cells := 0, slots := 0, locals := 0 })).room s m ([.ref (ad y 0 0), .int (zI q9)] : List Value).toArray below meth c (MQ below (va_Qi (fun (r : Int32) ws' => r = zI (ofCal a q9 (np a).toNat) ∧ ws' = wX cA ad (upY σ y a)) (gB D A) A) ([.ref (ad y 0 0), .int (zI q9)] : List Value).toArray s 0 0 A) D A 4 (wX cA ad (upY σ y a)) 0 0 4 [(0, .ref (ad y 0 0)), (1, .int (zI q9)), (2, .int (zI (ofCal a q9 kk))), (3, .int (zI (kk : Int)))] [] := by
    intro n_kk
    induction n_kk with
    | zero => intro kk h1 h2; exact absurd h2 (by omega)
    | succ n_kk ih_kk =>
      intro kk hle_kk hfu_kk
      have hck : (kk : Int) < np a → 0 ≤ cal a kk ∧ cal a kk ≤ 4 := fun h => (hPI kk h).2
      refine g_iload_n E dX3_ballsOfCalibre_4 rfl ?_
      refine g_aload_n E dX3_ballsOfCalibre_5 rfl ?_
      refine gx_Yard_pileCount' E (mem_y _ (by omega)) hin3 (by decide +kernel) dX3_ballsOfCalibre_6 ?_
      refine g_icmp_ge (tgt := 43) E dX3_ballsOfCalibre_9 (by decide) (by omega) (by omega) (fun c_9 => ?_) (fun c_9 => ?_)
      · refine g_iload_n E dX3_ballsOfCalibre_43 rfl ?_
        exact g_iret E (⟨by rw [show (np a).toNat = kk by omega], rfl⟩) dX3_ballsOfCalibre_44
      · refine g_aload_n E dX3_ballsOfCalibre_12 rfl ?_
        refine gx_Yard_piles' E (mem_y _ (by omega)) hin3 (by decide +kernel) dX3_ballsOfCalibre_13 ?_
        refine g_iload_n E dX3_ballsOfCalibre_16 rfl ?_
        refine lx_10' E (mem_10 _ (by omega)) (by omega) dX3_ballsOfCalibre_17 ?_
        refine g_top (v' := .ref (ad y 1 kk)) rfl ?_
        refine gx_Pile_calibre' E (mem_1 _ (by omega) _ (by omega)) hin1 (by decide +kernel) dX3_ballsOfCalibre_18 ?_
        refine g_iload_n E dX3_ballsOfCalibre_21 rfl ?_
        refine g_icmp_ne (tgt := 37) E dX3_ballsOfCalibre_22 (by decide) (by omega) (by omega) (fun c_22 => ?_) (fun c_22 => ?_)
        · have hst : ofCal a q9 (kk + 1) = ofCal a q9 kk := if_neg c_22
          refine g_iinc E dX3_ballsOfCalibre_37 rfl (by decide) ?_
          refine g_goto (tgt := 4) E dX3_ballsOfCalibre_40 (by decide) ?_
          refine g_loc (lv' := [(0, .ref (ad y 0 0)), (1, .int (zI q9)), (2, .int (zI (ofCal a q9 (kk + 1)))), (3, .int (zI ((kk + 1) : Int)))]) ⟨rfl, rfl, congrArg (fun z => some (Value.int (zI z))) hst.symm, rfl, trivial⟩ ?_
          exact ih_kk (kk + 1) (by omega) (by omega)
        · have hst : ofCal a q9 (kk + 1) = ofCal a q9 kk + bl a kk := if_pos c_22
          refine g_iload_n E dX3_ballsOfCalibre_25 rfl ?_
          refine g_aload_n E dX3_ballsOfCalibre_26 rfl ?_
          refine gx_Yard_piles' E (mem_y _ (by omega)) hin3 (by decide +kernel) dX3_ballsOfCalibre_27 ?_
          refine g_iload_n E dX3_ballsOfCalibre_30 rfl ?_
          refine lx_10' E (mem_10 _ (by omega)) (by omega) dX3_ballsOfCalibre_31 ?_
          refine gx_Pile_balls' E (mem_1 _ (by omega) _ (by omega)) hin1 (by decide +kernel) dX3_ballsOfCalibre_32 ?_
          refine g_iadd E dX3_ballsOfCalibre_35 ?_
          refine g_istore_n E dX3_ballsOfCalibre_36 (by decide) ?_
          refine g_iinc E dX3_ballsOfCalibre_37 rfl (by decide) ?_
          refine g_goto (tgt := 4) E dX3_ballsOfCalibre_40 (by decide) ?_
          refine g_loc (lv' := [(0, .ref (ad y 0 0)), (1, .int (zI q9)), (2, .int (zI (ofCal a q9 (kk + 1)))), (3, .int (zI ((kk + 1) : Int)))]) ⟨rfl, rfl, congrArg (fun z => some (Value.int (zI z))) hst.symm, rfl, trivial⟩ ?_
          exact ih_kk (kk + 1) (by omega) (by omega)
  refine g_loc (lv' := [(0, .ref (ad y 0 0)), (1, .int (zI q9)), (2, .int (zI (ofCal a q9 0))), (3, .int (zI (0 : Int)))]) ⟨rfl, rfl, rfl, rfl, trivial⟩ ?_
  exact key_kk ((np a) + 1).toNat.succ 0 (by omega) (by omega)
set_option maxHeartbeats 800000 in
set_option maxRecDepth 100000 in
/-- Yard.ballCount(what) -/
theorem c_X3_ballCount (l : Launch) (D : va_G) (cA : Nat → ClassId) (A : Nat → Prop) (ad : Ad) (σ : Nat → St) (y : Nat) (a : St) (hy : y < 2) (hI : Inv a) (w9 : Int) (hw : w9 = 4 ∨ w9 = 5 ∨ w9 = 6) : Met l yX3_ballCount wsX3_ballCount ({ frames := 1, cells := 0, slots := 0, locals := 23 }) (PcG D (tysX cA) A (wX cA ad (upY σ y a)) [.ref (ad y 0 0), .int (zI w9)]) (va_Qi (fun (r : Int32) ws' => r = cntV a w9 ∧ ws' = wX cA ad (upY σ y a)) (gB D A) A) 0 0 A := by
  refine g_met (cc := cX3_ballCount) (maxL := 4) (ret := (some .int)) (own := RX3) rfl (by decide) rfl (Nat.le_of_ble_eq_true rfl) ?_
  intro p e s m below meth c E
  have hin1 : ∀ w ∈ u_ws RX1 TX1 4, w ∈ wsX3_ballCount := by decide +kernel
  have hin3 : ∀ w ∈ u_ws RX3 TX3 8, w ∈ wsX3_ballCount := by decide +kernel
  obtain ⟨⟨hn0, hn6, hc0, hc3⟩, hPI, hCI, hFr⟩ := id hI
  have hs4 : ∃ q0 : Nat, (wX cA ad (upY σ y a))[q0]? = some (ad y 4 0, .inl (cA 0, 5, .inl (a 4 0))) := by have h := wX_at (cA := cA) (ad := ad) (σ := upY σ y a) (mem_4 y hy); rw [upY_s] at h; exact h
  refine g_loc (lv' := [(0, .ref (ad y 0 0)), (1, .int (zI w9))]) ⟨rfl, rfl, trivial⟩ ?_
  refine g_iload_n E dX3_ballCount_0 rfl ?_
  refine g_iconst E dX3_ballCount_1 ?_
  refine g_icmp_ne (tgt := 13) E dX3_ballCount_2 (by decide) (by omega) (by omega) (fun c_2 => ?_) (fun c_2 => ?_)
  · refine g_iconst E dX3_ballCount_13 ?_
    refine g_istore_n E dX3_ballCount_14 (by decide) ?_
    refine g_iconst E dX3_ballCount_15 ?_
    refine g_istore_n E dX3_ballCount_16 (by decide) ?_
    have key_kk : ∀ (n_kk kk : Nat), (kk : Int) ≤ np a → np a + 1 ≤ (kk : Int) + n_kk → GW p l e (headSpec wsX3_ballCount ({ frames := 1, cells := 0, slots := 0, locals := 23 })).room s m ([.ref (ad y 0 0), .int (zI w9)] : List Value).toArray below meth c (MQ below (va_Qi (fun (r : Int32) ws' => r = cntV a w9 ∧ ws' = wX cA ad (upY σ y a)) (gB D A) A) ([.ref (ad y 0 0), .int (zI w9)] : List Value).toArray s 0 0 A) D A 4 (wX cA ad (upY σ y a)) 0 0 17 [(0, .ref (ad y 0 0)), (1, .int (zI w9)), (2, .int (zI (if w9 = 6 then ruAll a kk else blAll a kk))), (3, .int (zI (kk : Int)))] [] := by
      intro n_kk
      induction n_kk with
      | zero => intro kk h1 h2; exact absurd h2 (by omega)
      | succ n_kk ih_kk =>
        intro kk hle_kk hfu_kk
        refine g_iload_n E dX3_ballCount_17 rfl ?_
        refine g_aload_n E dX3_ballCount_18 rfl ?_
        refine gx_Yard_pileCount' E (mem_y _ (by omega)) hin3 (by decide +kernel) dX3_ballCount_19 ?_
        refine g_icmp_ge (tgt := 65) E dX3_ballCount_22 (by decide) (by omega) (by omega) (fun c_22 => ?_) (fun c_22 => ?_)
        · refine g_iload_n E dX3_ballCount_65 rfl ?_
          exact g_iret E (⟨by rw [cntV, if_neg c_2, show (np a).toNat = kk by omega]; split <;> rfl, rfl⟩) dX3_ballCount_66
        · refine g_iload_n E dX3_ballCount_25 rfl ?_
          refine g_iload_n E dX3_ballCount_26 rfl ?_
          refine g_bipush E dX3_ballCount_27 (by decide) ?_
          refine g_icmp_ne (tgt := 48) E dX3_ballCount_29 (by decide) (by omega) (by omega) (fun c_29 => ?_) (fun c_29 => ?_)
          · have hst : (if w9 = 6 then ruAll a (kk + 1) else blAll a (kk + 1)) = (if w9 = 6 then ruAll a kk else blAll a kk) + bl a kk := by rw [if_neg c_29, if_neg c_29]; rfl
            refine g_aload_n E dX3_ballCount_48 rfl ?_
            refine gx_Yard_piles' E (mem_y _ (by omega)) hin3 (by decide +kernel) dX3_ballCount_49 ?_
            refine g_iload_n E dX3_ballCount_52 rfl ?_
            refine lx_10' E (mem_10 _ (by omega)) (by omega) dX3_ballCount_53 ?_
            refine gx_Pile_balls' E (mem_1 _ (by omega) _ (by omega)) hin1 (by decide +kernel) dX3_ballCount_54 ?_
            refine g_iadd E dX3_ballCount_57 ?_
            refine g_istore_n E dX3_ballCount_58 (by decide) ?_
            refine g_iinc E dX3_ballCount_59 rfl (by decide) ?_
            refine g_goto (tgt := 17) E dX3_ballCount_62 (by decide) ?_
            refine g_loc (lv' := [(0, .ref (ad y 0 0)), (1, .int (zI w9)), (2, .int (zI (if w9 = 6 then ruAll a (kk + 1) else blAll a (kk + 1)))), (3, .int (zI ((kk + 1) : Int)))]) ⟨rfl, rfl, congrArg (fun z => some (Value.int (zI z))) hst.symm, rfl, trivial⟩ ?_
            exact ih_kk (kk + 1) (by omega) (by omega)
          · have hst : (if w9 = 6 then ruAll a (kk + 1) else blAll a (kk + 1)) = (if w9 = 6 then ruAll a kk else blAll a kk) + rustyN a kk (a 0 0 4) (bl a kk).toNat := by rw [if_pos c_29, if_pos c_29]; rfl
            refine g_aload_n E dX3_ballCount_32 rfl ?_
            refine gx_Yard_piles' E (mem_y _ (by omega)) hin3 (by decide +kernel) dX3_ballCount_33 ?_
            refine g_iload_n E dX3_ballCount_36 rfl ?_
            refine lx_10' E (mem_10 _ (by omega)) (by omega) dX3_ballCount_37 ?_
            refine g_aload_n E dX3_ballCount_38 rfl ?_
            refine gx_Yard_limit' E (mem_y _ (by omega)) hin3 (by decide +kernel) dX3_ballCount_39 ?_
            refine g_callVi (T := TX1) (ci := 1) (n := 1) (As := [_]) (rest := _) E (c_X1_rustyBalls l D cA A ad σ y kk a (by omega) (by omega) (hPI kk (by omega)).1 _) gX3_ballCount_X1_rustyBalls rfl ⟨rfl, rfl⟩ (by decide +kernel) ⟨Nat.le_of_ble_eq_true rfl, Nat.le_of_ble_eq_true rfl⟩ (ob_1 (mem_1 _ (by omega) _ (by omega))) rfl rfl rfl (Nat.le_of_ble_eq_true rfl) ⟨Nat.le_of_ble_eq_true rfl, Nat.le_of_ble_eq_true rfl⟩ dX3_ballCount_42 ?_
            rintro r_42 ws_42 ⟨rfl, rfl⟩
            refine g_goto (tgt := 57) E dX3_ballCount_45 (by decide) ?_
            refine g_iadd E dX3_ballCount_57 ?_
            refine g_istore_n E dX3_ballCount_58 (by decide) ?_
            refine g_iinc E dX3_ballCount_59 rfl (by decide) ?_
            refine g_goto (tgt := 17) E dX3_ballCount_62 (by decide) ?_
            refine g_loc (lv' := [(0, .ref (ad y 0 0)), (1, .int (zI w9)), (2, .int (zI (if w9 = 6 then ruAll a (kk + 1) else blAll a (kk + 1)))), (3, .int (zI ((kk + 1) : Int)))]) ⟨rfl, rfl, congrArg (fun z => some (Value.int (zI z))) hst.symm, rfl, trivial⟩ ?_
            exact ih_kk (kk + 1) (by omega) (by omega)
    refine g_loc (lv' := [(0, .ref (ad y 0 0)), (1, .int (zI w9)), (2, .int (zI (if w9 = 6 then ruAll a 0 else blAll a 0))), (3, .int (zI (0 : Int)))]) ⟨rfl, rfl, congrArg (fun z => some (Value.int (zI z))) (by split <;> rfl), rfl, trivial⟩ ?_
    exact key_kk ((np a) + 1).toNat.succ 0 (by omega) (by omega)
  · refine g_aload_n E dX3_ballCount_5 rfl ?_
    refine gx_Yard_loose' E (mem_y _ (by omega)) hin3 (by decide +kernel) dX3_ballCount_6 ?_
    refine g_callNi (n := 1) (As := [_]) (rest := _) E (c_X4_sum l D cA A _ _ (a 4 0) hs4) gX3_ballCount_X4_sum_n94 E.2.2.2.2.2.1.2 (by decide +kernel) (by decide +kernel) rfl ⟨rfl, rfl⟩ (by decide +kernel) ⟨Nat.le_of_ble_eq_true rfl, Nat.le_of_ble_eq_true rfl⟩ rfl rfl (Nat.le_of_ble_eq_true rfl) ⟨Nat.le_of_ble_eq_true rfl, Nat.le_of_ble_eq_true rfl⟩ dX3_ballCount_9 ?_
    rintro r_9 ws_9 ⟨rfl, rfl⟩
    exact g_iret E (⟨by rw [cntV, if_pos c_2], rfl⟩) dX3_ballCount_12
