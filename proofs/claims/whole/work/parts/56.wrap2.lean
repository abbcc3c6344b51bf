/-! ===== LAW: the wrappers ===== -/
set_option maxHeartbeats 800000 in
set_option maxRecDepth 100000 in
/-- the law: ball, or the number of what it throws -/
theorem l_ball (l : Launch) (hl0 : l.stackTraces = false) (D : va_G) (cA : Nat → ClassId) (A : Nat → Prop) (ad : Ad) (σ : Nat → St) (o : Nat) (g : Nat → Int64) (hI : Inv (σ 0)) (hT : TrI (σ 0) (σ 1)) (p9 b9 w9 : Int) (h0 : R31 p9) (h1 : R31 b9) (h2 : R31 w9) : Met l yL_ball wsL_ball ({ frames := 8, cells := 3, slots := 18, locals := 131 }) (PcL D (tysX cA) A (wX cA ad σ ++ oW cA o g) [.ref (ad 0 8 0), .int (zI p9), .int (zI b9), .int (zI w9), .ref o]) (va_Qi (wP cA ad σ o g (eBall (σ 0) p9 b9 w9) (blV (σ 0) p9.toNat b9 w9) ((σ 0))) (gB D A) A) 3 18 A := by
  refine g_metL (cc := cL_ball) (maxL := 6) (ret := (some .int)) (own := RL) (hh := [(0, 12, 15, 13)]) rfl (by decide) rfl (Nat.le_of_ble_eq_true rfl) ?_
  intro p e s m below meth c E Z X ht
  refine g_loc (lv' := [(0, .ref (ad 0 8 0)), (1, .int (zI p9)), (2, .int (zI b9)), (3, .int (zI w9)), (4, .ref o)]) ⟨rfl, rfl, rfl, rfl, rfl, trivial⟩ ?_
  refine g_st (ws' := wX cA ad (upY σ 0 (σ 0)) ++ oW cA o g) (by rw [upY_self]) rfl rfl ?_
  refine g_aload E dL_ball_0 rfl ?_
  refine g_iconst E dL_ball_2 ?_
  refine g_aload_n E dL_ball_3 rfl ?_
  refine g_iload_n E dL_ball_4 rfl ?_
  refine g_iload_n E dL_ball_5 rfl ?_
  refine g_iload_n E dL_ball_6 rfl ?_
  refine g_tryV (T := TX4) (ci := 4) (n := 3) (As := [_, _, _]) (rest := _) E Z (c_X4_ball l hl0 D cA _ ad σ (σ 0) hI p9 b9 w9 h0 h1 h2) gL_ball_X4_ball rfl ⟨rfl, rfl⟩ (by decide +kernel) ⟨Nat.le_of_ble_eq_true rfl, Nat.le_of_ble_eq_true rfl⟩ (ob_8 mem_8) rfl rfl rfl (Nat.le_of_ble_eq_true rfl) ⟨Nat.le_of_ble_eq_true rfl, Nat.le_of_ble_eq_true rfl⟩ dL_ball_7 (fun E9 hE => ?_) ?_
  · obtain ⟨rfl, hk⟩ := exn1 hE
    refine ⟨[], ⟨0, 12, 15, 13⟩, [], by rw [ht]; rfl, (fun z hz => nomatch hz), by decide, by decide, E.2.2.2.2.1 _ (by decide +kernel), cst Z cstI, fun q => ?_⟩
    refine g_astore E dL_ball_15 (by decide) ?_
    refine g_iconst E dL_ball_17 ?_
    refine g_wid (k := 3) (n := 18) (Nat.le_of_ble_eq_true rfl) (Nat.le_of_ble_eq_true rfl) ?_
    exact g_iret E ⟨by rw [hk], fun z => absurd (hk.symm.trans z) (by decide), fun _ => by rw [upY_self]⟩ dL_ball_18
  · rintro r w' ⟨he, rfl, rfl⟩
    refine g_i2l E dL_ball_10 ?_
    refine g_last E dL_ball_11 (fun g2 hg2 => ?_)
    refine g_goto (tgt := 19) E dL_ball_12 (by decide) ?_
    refine g_iconst E dL_ball_19 ?_
    refine g_wid (k := 3) (n := 18) (Nat.le_of_ble_eq_true rfl) (Nat.le_of_ble_eq_true rfl) ?_
    exact g_iret E ⟨by rw [he], fun _ => ⟨upY σ 0 (σ 0), g2, upY_s, by rw [upY_n (by decide)]; exact hT, hg2, rfl⟩, fun z => absurd he z⟩ dL_ball_20

set_option maxHeartbeats 800000 in
set_option maxRecDepth 100000 in
/-- the law: at, or the number of what it throws -/
theorem l_at (l : Launch) (hl0 : l.stackTraces = false) (D : va_G) (cA : Nat → ClassId) (A : Nat → Prop) (ad : Ad) (σ : Nat → St) (o : Nat) (g : Nat → Int64) (hI : Inv (σ 0)) (hT : TrI (σ 0) (σ 1)) (p9 k9 r9 q9 : Int) (h0 : R31 p9) (h1 : R31 k9) (h2 : R31 r9) (h3 : R31 q9) : Met l yL_at wsL_at ({ frames := 8, cells := 3, slots := 18, locals := 134 }) (PcL D (tysX cA) A (wX cA ad σ ++ oW cA o g) [.ref (ad 0 8 0), .int (zI p9), .int (zI k9), .int (zI r9), .int (zI q9), .ref o]) (va_Qi (wP cA ad σ o g (eAt (σ 0) p9 k9 r9 q9) (zI (atV (σ 0) p9.toNat k9 r9 q9)) ((σ 0))) (gB D A) A) 3 18 A := by
  refine g_metL (cc := cL_at) (maxL := 7) (ret := (some .int)) (own := RL) (hh := [(0, 14, 17, 13)]) rfl (by decide) rfl (Nat.le_of_ble_eq_true rfl) ?_
  intro p e s m below meth c E Z X ht
  refine g_loc (lv' := [(0, .ref (ad 0 8 0)), (1, .int (zI p9)), (2, .int (zI k9)), (3, .int (zI r9)), (4, .int (zI q9)), (5, .ref o)]) ⟨rfl, rfl, rfl, rfl, rfl, rfl, trivial⟩ ?_
  refine g_st (ws' := wX cA ad (upY σ 0 (σ 0)) ++ oW cA o g) (by rw [upY_self]) rfl rfl ?_
  refine g_aload E dL_at_0 rfl ?_
  refine g_iconst E dL_at_2 ?_
  refine g_aload_n E dL_at_3 rfl ?_
  refine g_iload_n E dL_at_4 rfl ?_
  refine g_iload_n E dL_at_5 rfl ?_
  refine g_iload_n E dL_at_6 rfl ?_
  refine g_iload E dL_at_7 rfl ?_
  refine g_tryV (T := TX4) (ci := 4) (n := 4) (As := [_, _, _, _]) (rest := _) E Z (c_X4_at l hl0 D cA _ ad σ (σ 0) hI p9 k9 r9 q9 h0 h1 h2 h3) gL_at_X4_at rfl ⟨rfl, rfl⟩ (by decide +kernel) ⟨Nat.le_of_ble_eq_true rfl, Nat.le_of_ble_eq_true rfl⟩ (ob_8 mem_8) rfl rfl rfl (Nat.le_of_ble_eq_true rfl) ⟨Nat.le_of_ble_eq_true rfl, Nat.le_of_ble_eq_true rfl⟩ dL_at_9 (fun E9 hE => ?_) ?_
  · obtain ⟨rfl, hk⟩ := exn1 hE
    refine ⟨[], ⟨0, 14, 17, 13⟩, [], by rw [ht]; rfl, (fun z hz => nomatch hz), by decide, by decide, E.2.2.2.2.1 _ (by decide +kernel), cst Z cstI, fun q => ?_⟩
    refine g_astore E dL_at_17 (by decide) ?_
    refine g_iconst E dL_at_19 ?_
    refine g_wid (k := 3) (n := 18) (Nat.le_of_ble_eq_true rfl) (Nat.le_of_ble_eq_true rfl) ?_
    exact g_iret E ⟨by rw [hk], fun z => absurd (hk.symm.trans z) (by decide), fun _ => by rw [upY_self]⟩ dL_at_20
  · rintro r w' ⟨he, rfl, rfl⟩
    refine g_i2l E dL_at_12 ?_
    refine g_last E dL_at_13 (fun g2 hg2 => ?_)
    refine g_goto (tgt := 21) E dL_at_14 (by decide) ?_
    refine g_iconst E dL_at_21 ?_
    refine g_wid (k := 3) (n := 18) (Nat.le_of_ble_eq_true rfl) (Nat.le_of_ble_eq_true rfl) ?_
    exact g_iret E ⟨by rw [he], fun _ => ⟨upY σ 0 (σ 0), g2, upY_s, by rw [upY_n (by decide)]; exact hT, hg2, rfl⟩, fun z => absurd he z⟩ dL_at_22

set_option maxHeartbeats 800000 in
set_option maxRecDepth 100000 in
/-- the law: told, or the number of what it throws -/
theorem l_told (l : Launch) (hl0 : l.stackTraces = false) (D : va_G) (cA : Nat → ClassId) (A : Nat → Prop) (ad : Ad) (σ : Nat → St) (o : Nat) (g : Nat → Int64) (hI : Inv (σ 0)) (hT : TrI (σ 0) (σ 1)) (p9 w9 : Int) (h0 : R31 p9) (h1 : R31 w9) : Met l yL_told wsL_told ({ frames := 8, cells := 3, slots := 18, locals := 128 }) (PcL D (tysX cA) A (wX cA ad σ ++ oW cA o g) [.ref (ad 0 8 0), .int (zI p9), .int (zI w9), .ref o]) (va_Qi (wP cA ad σ o g (eTold p9 w9) (toV (σ 0) p9 w9) ((σ 0))) (gB D A) A) 3 18 A := by
  refine g_metL (cc := cL_told) (maxL := 5) (ret := (some .int)) (own := RL) (hh := [(0, 10, 13, 13)]) rfl (by decide) rfl (Nat.le_of_ble_eq_true rfl) ?_
  intro p e s m below meth c E Z X ht
  refine g_loc (lv' := [(0, .ref (ad 0 8 0)), (1, .int (zI p9)), (2, .int (zI w9)), (3, .ref o)]) ⟨rfl, rfl, rfl, rfl, trivial⟩ ?_
  refine g_st (ws' := wX cA ad (upY σ 0 (σ 0)) ++ oW cA o g) (by rw [upY_self]) rfl rfl ?_
  refine g_aload_n E dL_told_0 rfl ?_
  refine g_iconst E dL_told_1 ?_
  refine g_aload_n E dL_told_2 rfl ?_
  refine g_iload_n E dL_told_3 rfl ?_
  refine g_iload_n E dL_told_4 rfl ?_
  refine g_tryV (T := TX4) (ci := 4) (n := 2) (As := [_, _]) (rest := _) E Z (c_X4_told l hl0 D cA _ ad σ (σ 0) hI p9 w9 h0 h1) gL_told_X4_told rfl ⟨rfl, rfl⟩ (by decide +kernel) ⟨Nat.le_of_ble_eq_true rfl, Nat.le_of_ble_eq_true rfl⟩ (ob_8 mem_8) rfl rfl rfl (Nat.le_of_ble_eq_true rfl) ⟨Nat.le_of_ble_eq_true rfl, Nat.le_of_ble_eq_true rfl⟩ dL_told_5 (fun E9 hE => ?_) ?_
  · obtain ⟨rfl, hk⟩ := exn1 hE
    refine ⟨[], ⟨0, 10, 13, 13⟩, [], by rw [ht]; rfl, (fun z hz => nomatch hz), by decide, by decide, E.2.2.2.2.1 _ (by decide +kernel), cst Z cstI, fun q => ?_⟩
    refine g_astore E dL_told_13 (by decide) ?_
    refine g_iconst E dL_told_15 ?_
    refine g_wid (k := 3) (n := 18) (Nat.le_of_ble_eq_true rfl) (Nat.le_of_ble_eq_true rfl) ?_
    exact g_iret E ⟨by rw [hk], fun z => absurd (hk.symm.trans z) (by decide), fun _ => by rw [upY_self]⟩ dL_told_16
  · rintro r w' ⟨he, rfl, rfl⟩
    refine g_i2l E dL_told_8 ?_
    refine g_last E dL_told_9 (fun g2 hg2 => ?_)
    refine g_goto (tgt := 17) E dL_told_10 (by decide) ?_
    refine g_iconst E dL_told_17 ?_
    refine g_wid (k := 3) (n := 18) (Nat.le_of_ble_eq_true rfl) (Nat.le_of_ble_eq_true rfl) ?_
    exact g_iret E ⟨by rw [he], fun _ => ⟨upY σ 0 (σ 0), g2, upY_s, by rw [upY_n (by decide)]; exact hT, hg2, rfl⟩, fun z => absurd he z⟩ dL_told_18

set_option maxHeartbeats 800000 in
set_option maxRecDepth 100000 in
/-- the law: mouser, or the number of what it throws -/
theorem l_mouser (l : Launch) (hl0 : l.stackTraces = false) (D : va_G) (cA : Nat → ClassId) (A : Nat → Prop) (ad : Ad) (σ : Nat → St) (o : Nat) (g : Nat → Int64) (hI : Inv (σ 0)) (hT : TrI (σ 0) (σ 1)) (p9 w9 : Int) (h0 : R31 p9) (h1 : R31 w9) : Met l yL_mouser wsL_mouser ({ frames := 8, cells := 3, slots := 18, locals := 130 }) (PcL D (tysX cA) A (wX cA ad σ ++ oW cA o g) [.ref (ad 0 8 0), .int (zI p9), .int (zI w9), .ref o]) (va_Qi (wP cA ad σ o g (eMou (σ 0) p9 w9) (moV (σ 0) p9.toNat w9) ((σ 0))) (gB D A) A) 3 18 A := by
  refine g_metL (cc := cL_mouser) (maxL := 5) (ret := (some .int)) (own := RL) (hh := [(0, 10, 13, 13)]) rfl (by decide) rfl (Nat.le_of_ble_eq_true rfl) ?_
  intro p e s m below meth c E Z X ht
  refine g_loc (lv' := [(0, .ref (ad 0 8 0)), (1, .int (zI p9)), (2, .int (zI w9)), (3, .ref o)]) ⟨rfl, rfl, rfl, rfl, trivial⟩ ?_
  refine g_st (ws' := wX cA ad (upY σ 0 (σ 0)) ++ oW cA o g) (by rw [upY_self]) rfl rfl ?_
  refine g_aload_n E dL_mouser_0 rfl ?_
  refine g_iconst E dL_mouser_1 ?_
  refine g_aload_n E dL_mouser_2 rfl ?_
  refine g_iload_n E dL_mouser_3 rfl ?_
  refine g_iload_n E dL_mouser_4 rfl ?_
  refine g_tryV (T := TX4) (ci := 4) (n := 2) (As := [_, _]) (rest := _) E Z (c_X4_mouser l hl0 D cA _ ad σ (σ 0) hI p9 w9 h0 h1) gL_mouser_X4_mouser rfl ⟨rfl, rfl⟩ (by decide +kernel) ⟨Nat.le_of_ble_eq_true rfl, Nat.le_of_ble_eq_true rfl⟩ (ob_8 mem_8) rfl rfl rfl (Nat.le_of_ble_eq_true rfl) ⟨Nat.le_of_ble_eq_true rfl, Nat.le_of_ble_eq_true rfl⟩ dL_mouser_5 (fun E9 hE => ?_) ?_
  · obtain ⟨rfl, hk⟩ := exn1 hE
    refine ⟨[], ⟨0, 10, 13, 13⟩, [], by rw [ht]; rfl, (fun z hz => nomatch hz), by decide, by decide, E.2.2.2.2.1 _ (by decide +kernel), cst Z cstI, fun q => ?_⟩
    refine g_astore E dL_mouser_13 (by decide) ?_
    refine g_iconst E dL_mouser_15 ?_
    refine g_wid (k := 3) (n := 18) (Nat.le_of_ble_eq_true rfl) (Nat.le_of_ble_eq_true rfl) ?_
    exact g_iret E ⟨by rw [hk], fun z => absurd (hk.symm.trans z) (by decide), fun _ => by rw [upY_self]⟩ dL_mouser_16
  · rintro r w' ⟨he, rfl, rfl⟩
    refine g_i2l E dL_mouser_8 ?_
    refine g_last E dL_mouser_9 (fun g2 hg2 => ?_)
    refine g_goto (tgt := 17) E dL_mouser_10 (by decide) ?_
    refine g_iconst E dL_mouser_17 ?_
    refine g_wid (k := 3) (n := 18) (Nat.le_of_ble_eq_true rfl) (Nat.le_of_ble_eq_true rfl) ?_
    exact g_iret E ⟨by rw [he], fun _ => ⟨upY σ 0 (σ 0), g2, upY_s, by rw [upY_n (by decide)]; exact hT, hg2, rfl⟩, fun z => absurd he z⟩ dL_mouser_18

set_option maxHeartbeats 800000 in
set_option maxRecDepth 100000 in
/-- the law: count, or the number of what it throws -/
theorem l_count (l : Launch) (hl0 : l.stackTraces = false) (D : va_G) (cA : Nat → ClassId) (A : Nat → Prop) (ad : Ad) (σ : Nat → St) (o : Nat) (g : Nat → Int64) (hI : Inv (σ 0)) (hT : TrI (σ 0) (σ 1)) (w9 : Int) (h0 : R31 w9) : Met l yL_count wsL_count ({ frames := 7, cells := 3, slots := 18, locals := 107 }) (PcL D (tysX cA) A (wX cA ad σ ++ oW cA o g) [.ref (ad 0 8 0), .int (zI w9), .ref o]) (va_Qi (wP cA ad σ o g (eCnt w9) (coV (σ 0) w9) ((σ 0))) (gB D A) A) 3 18 A := by
  refine g_metL (cc := cL_count) (maxL := 4) (ret := (some .int)) (own := RL) (hh := [(0, 9, 12, 13)]) rfl (by decide) rfl (Nat.le_of_ble_eq_true rfl) ?_
  intro p e s m below meth c E Z X ht
  refine g_loc (lv' := [(0, .ref (ad 0 8 0)), (1, .int (zI w9)), (2, .ref o)]) ⟨rfl, rfl, rfl, trivial⟩ ?_
  refine g_st (ws' := wX cA ad (upY σ 0 (σ 0)) ++ oW cA o g) (by rw [upY_self]) rfl rfl ?_
  refine g_aload_n E dL_count_0 rfl ?_
  refine g_iconst E dL_count_1 ?_
  refine g_aload_n E dL_count_2 rfl ?_
  refine g_iload_n E dL_count_3 rfl ?_
  refine g_tryV (T := TX4) (ci := 4) (n := 1) (As := [_]) (rest := _) E Z (c_X4_count l hl0 D cA _ ad σ (σ 0) hI w9 h0) gL_count_X4_count rfl ⟨rfl, rfl⟩ (by decide +kernel) ⟨Nat.le_of_ble_eq_true rfl, Nat.le_of_ble_eq_true rfl⟩ (ob_8 mem_8) rfl rfl rfl (Nat.le_of_ble_eq_true rfl) ⟨Nat.le_of_ble_eq_true rfl, Nat.le_of_ble_eq_true rfl⟩ dL_count_4 (fun E9 hE => ?_) ?_
  · obtain ⟨rfl, hk⟩ := exn1 hE
    refine ⟨[], ⟨0, 9, 12, 13⟩, [], by rw [ht]; rfl, (fun z hz => nomatch hz), by decide, by decide, E.2.2.2.2.1 _ (by decide +kernel), cst Z cstI, fun q => ?_⟩
    refine g_astore_n E dL_count_12 (by decide) ?_
    refine g_iconst E dL_count_13 ?_
    refine g_wid (k := 3) (n := 18) (Nat.le_of_ble_eq_true rfl) (Nat.le_of_ble_eq_true rfl) ?_
    exact g_iret E ⟨by rw [hk], fun z => absurd (hk.symm.trans z) (by decide), fun _ => by rw [upY_self]⟩ dL_count_14
  · rintro r w' ⟨he, rfl, rfl⟩
    refine g_i2l E dL_count_7 ?_
    refine g_last E dL_count_8 (fun g2 hg2 => ?_)
    refine g_goto (tgt := 15) E dL_count_9 (by decide) ?_
    refine g_iconst E dL_count_15 ?_
    refine g_wid (k := 3) (n := 18) (Nat.le_of_ble_eq_true rfl) (Nat.le_of_ble_eq_true rfl) ?_
    exact g_iret E ⟨by rw [he], fun _ => ⟨upY σ 0 (σ 0), g2, upY_s, by rw [upY_n (by decide)]; exact hT, hg2, rfl⟩, fun z => absurd he z⟩ dL_count_16

set_option maxHeartbeats 800000 in
set_option maxRecDepth 100000 in
/-- the law: room, or the number of what it throws -/
theorem l_room (l : Launch) (hl0 : l.stackTraces = false) (D : va_G) (cA : Nat → ClassId) (A : Nat → Prop) (ad : Ad) (σ : Nat → St) (o : Nat) (g : Nat → Int64) (hI : Inv (σ 0)) (hT : TrI (σ 0) (σ 1)) (p9 : Int) (h0 : R31 p9) : Met l yL_room wsL_room ({ frames := 8, cells := 3, slots := 18, locals := 129 }) (PcL D (tysX cA) A (wX cA ad σ ++ oW cA o g) [.ref (ad 0 8 0), .int (zI p9), .ref o]) (va_Qi (wP cA ad σ o g (eIn 1 20 p9) (zI (sq p9)) ((σ 0))) (gB D A) A) 3 18 A := by
  refine g_metL (cc := cL_room) (maxL := 4) (ret := (some .int)) (own := RL) (hh := [(0, 9, 12, 15)]) rfl (by decide) rfl (Nat.le_of_ble_eq_true rfl) ?_
  intro p e s m below meth c E Z X ht
  refine g_loc (lv' := [(0, .ref (ad 0 8 0)), (1, .int (zI p9)), (2, .ref o)]) ⟨rfl, rfl, rfl, trivial⟩ ?_
  refine g_st (ws' := wX cA ad (upY σ 0 (σ 0)) ++ oW cA o g) (by rw [upY_self]) rfl rfl ?_
  refine g_aload_n E dL_room_0 rfl ?_
  refine g_iconst E dL_room_1 ?_
  refine g_aload_n E dL_room_2 rfl ?_
  refine g_iload_n E dL_room_3 rfl ?_
  refine g_tryV (T := TX4) (ci := 4) (n := 1) (As := [_]) (rest := _) E Z (c_X4_room l hl0 D cA _ ad σ (σ 0) hI p9 h0) gL_room_X4_room rfl ⟨rfl, rfl⟩ (by decide +kernel) ⟨Nat.le_of_ble_eq_true rfl, Nat.le_of_ble_eq_true rfl⟩ (ob_8 mem_8) rfl rfl rfl (Nat.le_of_ble_eq_true rfl) ⟨Nat.le_of_ble_eq_true rfl, Nat.le_of_ble_eq_true rfl⟩ dL_room_4 (fun E9 hE => ?_) ?_
  · obtain ⟨rfl, hk⟩ := exn1 hE
    refine ⟨[], ⟨0, 9, 12, 15⟩, [], by rw [ht]; rfl, (fun z hz => nomatch hz), by decide, by decide, E.2.2.2.2.1 _ (by decide +kernel), cst Z cstA, fun q => ?_⟩
    refine g_astore_n E dL_room_12 (by decide) ?_
    refine g_iconst E dL_room_13 ?_
    refine g_wid (k := 3) (n := 18) (Nat.le_of_ble_eq_true rfl) (Nat.le_of_ble_eq_true rfl) ?_
    exact g_iret E ⟨by rw [hk], fun z => absurd (hk.symm.trans z) (by decide), fun _ => by rw [upY_self]⟩ dL_room_14
  · rintro r w' ⟨he, rfl, rfl⟩
    refine g_i2l E dL_room_7 ?_
    refine g_last E dL_room_8 (fun g2 hg2 => ?_)
    refine g_goto (tgt := 15) E dL_room_9 (by decide) ?_
    refine g_iconst E dL_room_15 ?_
    refine g_wid (k := 3) (n := 18) (Nat.le_of_ble_eq_true rfl) (Nat.le_of_ble_eq_true rfl) ?_
    exact g_iret E ⟨by rw [he], fun _ => ⟨upY σ 0 (σ 0), g2, upY_s, by rw [upY_n (by decide)]; exact hT, hg2, rfl⟩, fun z => absurd he z⟩ dL_room_16

set_option maxHeartbeats 800000 in
set_option maxRecDepth 100000 in
/-- the law: side, or the number of what it throws -/
theorem l_side (l : Launch) (hl0 : l.stackTraces = false) (D : va_G) (cA : Nat → ClassId) (A : Nat → Prop) (ad : Ad) (σ : Nat → St) (o : Nat) (g : Nat → Int64) (hI : Inv (σ 0)) (hT : TrI (σ 0) (σ 1)) (p9 : Int) (h0 : R31 p9) : Met l yL_side wsL_side ({ frames := 8, cells := 3, slots := 18, locals := 130 }) (PcL D (tysX cA) A (wX cA ad σ ++ oW cA o g) [.ref (ad 0 8 0), .int (zI p9), .ref o]) (va_Qi (wP cA ad σ o g (eIn 1 2870 p9) (zI (sideV p9)) ((σ 0))) (gB D A) A) 3 18 A := by
  refine g_metL (cc := cL_side) (maxL := 4) (ret := (some .int)) (own := RL) (hh := [(0, 9, 12, 15)]) rfl (by decide) rfl (Nat.le_of_ble_eq_true rfl) ?_
  intro p e s m below meth c E Z X ht
  refine g_loc (lv' := [(0, .ref (ad 0 8 0)), (1, .int (zI p9)), (2, .ref o)]) ⟨rfl, rfl, rfl, trivial⟩ ?_
  refine g_st (ws' := wX cA ad (upY σ 0 (σ 0)) ++ oW cA o g) (by rw [upY_self]) rfl rfl ?_
  refine g_aload_n E dL_side_0 rfl ?_
  refine g_iconst E dL_side_1 ?_
  refine g_aload_n E dL_side_2 rfl ?_
  refine g_iload_n E dL_side_3 rfl ?_
  refine g_tryV (T := TX4) (ci := 4) (n := 1) (As := [_]) (rest := _) E Z (c_X4_side l hl0 D cA _ ad σ (σ 0) hI p9 h0) gL_side_X4_side rfl ⟨rfl, rfl⟩ (by decide +kernel) ⟨Nat.le_of_ble_eq_true rfl, Nat.le_of_ble_eq_true rfl⟩ (ob_8 mem_8) rfl rfl rfl (Nat.le_of_ble_eq_true rfl) ⟨Nat.le_of_ble_eq_true rfl, Nat.le_of_ble_eq_true rfl⟩ dL_side_4 (fun E9 hE => ?_) ?_
  · obtain ⟨rfl, hk⟩ := exn1 hE
    refine ⟨[], ⟨0, 9, 12, 15⟩, [], by rw [ht]; rfl, (fun z hz => nomatch hz), by decide, by decide, E.2.2.2.2.1 _ (by decide +kernel), cst Z cstA, fun q => ?_⟩
    refine g_astore_n E dL_side_12 (by decide) ?_
    refine g_iconst E dL_side_13 ?_
    refine g_wid (k := 3) (n := 18) (Nat.le_of_ble_eq_true rfl) (Nat.le_of_ble_eq_true rfl) ?_
    exact g_iret E ⟨by rw [hk], fun z => absurd (hk.symm.trans z) (by decide), fun _ => by rw [upY_self]⟩ dL_side_14
  · rintro r w' ⟨he, rfl, rfl⟩
    refine g_i2l E dL_side_7 ?_
    refine g_last E dL_side_8 (fun g2 hg2 => ?_)
    refine g_goto (tgt := 15) E dL_side_9 (by decide) ?_
    refine g_iconst E dL_side_15 ?_
    refine g_wid (k := 3) (n := 18) (Nat.le_of_ble_eq_true rfl) (Nat.le_of_ble_eq_true rfl) ?_
    exact g_iret E ⟨by rw [he], fun _ => ⟨upY σ 0 (σ 0), g2, upY_s, by rw [upY_n (by decide)]; exact hT, hg2, rfl⟩, fun z => absurd he z⟩ dL_side_16

set_option maxHeartbeats 800000 in
set_option maxRecDepth 100000 in
/-- the law: pass, or the number of what it throws -/
theorem l_pass (l : Launch) (hl0 : l.stackTraces = false) (D : va_G) (cA : Nat → ClassId) (A : Nat → Prop) (ad : Ad) (σ : Nat → St) (o : Nat) (g : Nat → Int64) (hI : Inv (σ 0)) (hT : TrI (σ 0) (σ 1)) (p9 : Int) (h0 : R31 p9) : Met l yL_pass wsL_pass ({ frames := 8, cells := 3, slots := 18, locals := 131 }) (PcL D (tysX cA) A (wX cA ad σ ++ oW cA o g) [.ref (ad 0 8 0), .int (zI p9), .ref o]) (va_Qi (wP cA ad σ o g (eIn 1 60 p9) (zI (passL (σ 0) p9.toNat).2) (((passL (σ 0) p9.toNat).1))) (gB D A) A) 3 18 A := by
  refine g_metL (cc := cL_pass) (maxL := 4) (ret := (some .int)) (own := RL) (hh := [(0, 9, 12, 15)]) rfl (by decide) rfl (Nat.le_of_ble_eq_true rfl) ?_
  intro p e s m below meth c E Z X ht
  refine g_loc (lv' := [(0, .ref (ad 0 8 0)), (1, .int (zI p9)), (2, .ref o)]) ⟨rfl, rfl, rfl, trivial⟩ ?_
  refine g_st (ws' := wX cA ad (upY σ 0 (σ 0)) ++ oW cA o g) (by rw [upY_self]) rfl rfl ?_
  refine g_aload_n E dL_pass_0 rfl ?_
  refine g_iconst E dL_pass_1 ?_
  refine g_aload_n E dL_pass_2 rfl ?_
  refine g_iload_n E dL_pass_3 rfl ?_
  refine g_tryV (T := TX4) (ci := 4) (n := 1) (As := [_]) (rest := _) E Z (c_X4_pass l hl0 D cA _ ad σ (σ 0) hI p9 h0) gL_pass_X4_pass rfl ⟨rfl, rfl⟩ (by decide +kernel) ⟨Nat.le_of_ble_eq_true rfl, Nat.le_of_ble_eq_true rfl⟩ (ob_8 mem_8) rfl rfl rfl (Nat.le_of_ble_eq_true rfl) ⟨Nat.le_of_ble_eq_true rfl, Nat.le_of_ble_eq_true rfl⟩ dL_pass_4 (fun E9 hE => ?_) ?_
  · obtain ⟨rfl, hk⟩ := exn1 hE
    refine ⟨[], ⟨0, 9, 12, 15⟩, [], by rw [ht]; rfl, (fun z hz => nomatch hz), by decide, by decide, E.2.2.2.2.1 _ (by decide +kernel), cst Z cstA, fun q => ?_⟩
    refine g_astore_n E dL_pass_12 (by decide) ?_
    refine g_iconst E dL_pass_13 ?_
    refine g_wid (k := 3) (n := 18) (Nat.le_of_ble_eq_true rfl) (Nat.le_of_ble_eq_true rfl) ?_
    exact g_iret E ⟨by rw [hk], fun z => absurd (hk.symm.trans z) (by decide), fun _ => by rw [upY_self]⟩ dL_pass_14
  · rintro r w' ⟨he, rfl, rfl⟩
    refine g_i2l E dL_pass_7 ?_
    refine g_last E dL_pass_8 (fun g2 hg2 => ?_)
    refine g_goto (tgt := 15) E dL_pass_9 (by decide) ?_
    refine g_iconst E dL_pass_15 ?_
    refine g_wid (k := 3) (n := 18) (Nat.le_of_ble_eq_true rfl) (Nat.le_of_ble_eq_true rfl) ?_
    exact g_iret E ⟨by rw [he], fun _ => ⟨upY σ 0 ((passL (σ 0) p9.toNat).1), g2, upY_s, ⟨hT.1, by rw [upY_n (by decide)]; have q1 := (pass_g hI he).2.1; have q2 := hT.2.1; omega, by rw [upY_n (by decide)]; have q1 := (pass_g hI he).2.2.1; have q2 := hT.2.2; omega⟩, hg2, rfl⟩, fun z => absurd he z⟩ dL_pass_16

set_option maxHeartbeats 800000 in
set_option maxRecDepth 100000 in
/-- the law: until, or the number of what it throws -/
theorem l_until (l : Launch) (hl0 : l.stackTraces = false) (D : va_G) (cA : Nat → ClassId) (A : Nat → Prop) (ad : Ad) (σ : Nat → St) (o : Nat) (g : Nat → Int64) (hI : Inv (σ 0)) (hT : TrI (σ 0) (σ 1)) (p9 : Int) (h0 : R31 p9) : Met l yL_until wsL_until ({ frames := 8, cells := 3, slots := 18, locals := 132 }) (PcL D (tysX cA) A (wX cA ad σ ++ oW cA o g) [.ref (ad 0 8 0), .int (zI p9), .ref o]) (va_Qi (wP cA ad σ o g (eP (σ 0) p9) (zI (unV (σ 0) p9.toNat)) ((σ 0))) (gB D A) A) 3 18 A := by
  refine g_metL (cc := cL_until) (maxL := 4) (ret := (some .int)) (own := RL) (hh := [(0, 9, 12, 13)]) rfl (by decide) rfl (Nat.le_of_ble_eq_true rfl) ?_
  intro p e s m below meth c E Z X ht
  refine g_loc (lv' := [(0, .ref (ad 0 8 0)), (1, .int (zI p9)), (2, .ref o)]) ⟨rfl, rfl, rfl, trivial⟩ ?_
  refine g_st (ws' := wX cA ad (upY σ 0 (σ 0)) ++ oW cA o g) (by rw [upY_self]) rfl rfl ?_
  refine g_aload_n E dL_until_0 rfl ?_
  refine g_iconst E dL_until_1 ?_
  refine g_aload_n E dL_until_2 rfl ?_
  refine g_iload_n E dL_until_3 rfl ?_
  refine g_tryV (T := TX4) (ci := 4) (n := 1) (As := [_]) (rest := _) E Z (c_X4_until l hl0 D cA _ ad σ (σ 0) hI hT p9 h0) gL_until_X4_until rfl ⟨rfl, rfl⟩ (by decide +kernel) ⟨Nat.le_of_ble_eq_true rfl, Nat.le_of_ble_eq_true rfl⟩ (ob_8 mem_8) rfl rfl rfl (Nat.le_of_ble_eq_true rfl) ⟨Nat.le_of_ble_eq_true rfl, Nat.le_of_ble_eq_true rfl⟩ dL_until_4 (fun E9 hE => ?_) ?_
  · obtain ⟨rfl, hk⟩ := exn1 hE
    refine ⟨[], ⟨0, 9, 12, 13⟩, [], by rw [ht]; rfl, (fun z hz => nomatch hz), by decide, by decide, E.2.2.2.2.1 _ (by decide +kernel), cst Z cstI, fun q => ?_⟩
    refine g_astore_n E dL_until_12 (by decide) ?_
    refine g_iconst E dL_until_13 ?_
    refine g_wid (k := 3) (n := 18) (Nat.le_of_ble_eq_true rfl) (Nat.le_of_ble_eq_true rfl) ?_
    exact g_iret E ⟨by rw [hk], fun z => absurd (hk.symm.trans z) (by decide), fun _ => by rw [upY_self]⟩ dL_until_14
  · rintro r w' ⟨he, rfl, b9, hb9, rfl⟩
    refine g_i2l E dL_until_7 ?_
    refine g_last E dL_until_8 (fun g2 hg2 => ?_)
    refine g_goto (tgt := 15) E dL_until_9 (by decide) ?_
    refine g_iconst E dL_until_15 ?_
    refine g_wid (k := 3) (n := 18) (Nat.le_of_ble_eq_true rfl) (Nat.le_of_ble_eq_true rfl) ?_
    exact g_iret E ⟨by rw [he], fun _ => ⟨upY (upY σ 0 (σ 0)) 1 b9, g2, by rw [upY_n (by decide), upY_s], by rw [upY_s]; exact hb9, hg2, rfl⟩, fun z => absurd he z⟩ dL_until_16

set_option maxHeartbeats 800000 in
set_option maxRecDepth 100000 in
/-- the law: foresee, or the number of what it throws -/
theorem l_foresee (l : Launch) (hl0 : l.stackTraces = false) (D : va_G) (cA : Nat → ClassId) (A : Nat → Prop) (ad : Ad) (σ : Nat → St) (o : Nat) (g : Nat → Int64) (hI : Inv (σ 0)) (hT : TrI (σ 0) (σ 1)) (p9 w9 : Int) (h0 : R31 p9) (h1 : R31 w9) : Met l yL_foresee wsL_foresee ({ frames := 8, cells := 3, slots := 18, locals := 132 }) (PcL D (tysX cA) A (wX cA ad σ ++ oW cA o g) [.ref (ad 0 8 0), .int (zI p9), .int (zI w9), .ref o]) (va_Qi (wP cA ad σ o g (eFor p9 w9) (cntV (passL (σ 0) p9.toNat).1 w9) ((σ 0))) (gB D A) A) 3 18 A := by
  refine g_metL (cc := cL_foresee) (maxL := 5) (ret := (some .int)) (own := RL) (hh := [(0, 10, 13, 15), (0, 10, 17, 13)]) rfl (by decide) rfl (Nat.le_of_ble_eq_true rfl) ?_
  intro p e s m below meth c E Z X ht
  refine g_loc (lv' := [(0, .ref (ad 0 8 0)), (1, .int (zI p9)), (2, .int (zI w9)), (3, .ref o)]) ⟨rfl, rfl, rfl, rfl, trivial⟩ ?_
  refine g_st (ws' := wX cA ad (upY σ 0 (σ 0)) ++ oW cA o g) (by rw [upY_self]) rfl rfl ?_
  refine g_aload_n E dL_foresee_0 rfl ?_
  refine g_iconst E dL_foresee_1 ?_
  refine g_aload_n E dL_foresee_2 rfl ?_
  refine g_iload_n E dL_foresee_3 rfl ?_
  refine g_iload_n E dL_foresee_4 rfl ?_
  refine g_tryV (T := TX4) (ci := 4) (n := 2) (As := [_, _]) (rest := _) E Z (c_X4_foresee l hl0 D cA _ ad σ (σ 0) hI hT p9 w9 h0 h1) gL_foresee_X4_foresee rfl ⟨rfl, rfl⟩ (by decide +kernel) ⟨Nat.le_of_ble_eq_true rfl, Nat.le_of_ble_eq_true rfl⟩ (ob_8 mem_8) rfl rfl rfl (Nat.le_of_ble_eq_true rfl) ⟨Nat.le_of_ble_eq_true rfl, Nat.le_of_ble_eq_true rfl⟩ dL_foresee_5 (fun E9 hE => ?_) ?_
  · rcases exn2 hE with ⟨rfl, hk⟩ | ⟨rfl, hk⟩
    · refine ⟨[], ⟨0, 10, 13, 15⟩, [⟨0, 10, 17, 13⟩], by rw [ht]; rfl, (fun z hz => nomatch hz), by decide, by decide, E.2.2.2.2.1 _ (by decide +kernel), cst Z cstA, fun q => ?_⟩
      refine g_astore E dL_foresee_13 (by decide) ?_
      refine g_iconst E dL_foresee_15 ?_
      refine g_wid (k := 3) (n := 18) (Nat.le_of_ble_eq_true rfl) (Nat.le_of_ble_eq_true rfl) ?_
      exact g_iret E ⟨by rw [hk], fun z => absurd (hk.symm.trans z) (by decide), fun _ => by rw [upY_self]⟩ dL_foresee_16
    · refine ⟨[⟨0, 10, 13, 15⟩], ⟨0, 10, 17, 13⟩, [], by rw [ht]; rfl, (fun z hz => by rw [List.mem_singleton.mp hz]; exact Or.inr ⟨by decide, xA, E.2.2.2.2.1 _ (by decide +kernel), X.2.2.2⟩), by decide, by decide, E.2.2.2.2.1 _ (by decide +kernel), cst Z cstI, fun q => ?_⟩
      refine g_astore E dL_foresee_17 (by decide) ?_
      refine g_iconst E dL_foresee_19 ?_
      refine g_wid (k := 3) (n := 18) (Nat.le_of_ble_eq_true rfl) (Nat.le_of_ble_eq_true rfl) ?_
      exact g_iret E ⟨by rw [hk], fun z => absurd (hk.symm.trans z) (by decide), fun _ => by rw [upY_self]⟩ dL_foresee_20
  · rintro r w' ⟨he, rfl, b9, hb9, rfl⟩
    refine g_i2l E dL_foresee_8 ?_
    refine g_last E dL_foresee_9 (fun g2 hg2 => ?_)
    refine g_goto (tgt := 21) E dL_foresee_10 (by decide) ?_
    refine g_iconst E dL_foresee_21 ?_
    refine g_wid (k := 3) (n := 18) (Nat.le_of_ble_eq_true rfl) (Nat.le_of_ble_eq_true rfl) ?_
    exact g_iret E ⟨by rw [he], fun _ => ⟨upY (upY σ 0 (σ 0)) 1 b9, g2, by rw [upY_n (by decide), upY_s], by rw [upY_s]; exact hb9, hg2, rfl⟩, fun z => absurd he z⟩ dL_foresee_22

set_option maxHeartbeats 800000 in
set_option maxRecDepth 100000 in
/-- the law: would, or the number of what it throws -/
theorem l_would (l : Launch) (hl0 : l.stackTraces = false) (D : va_G) (cA : Nat → ClassId) (A : Nat → Prop) (ad : Ad) (σ : Nat → St) (o : Nat) (g : Nat → Int64) (hI : Inv (σ 0)) (hT : TrI (σ 0) (σ 1)) (p9 : Int) (h0 : R31 p9) : Met l yL_would wsL_would ({ frames := 8, cells := 3, slots := 18, locals := 129 }) (PcL D (tysX cA) A (wX cA ad σ ++ oW cA o g) [.ref (ad 0 8 0), .int (zI p9), .ref o]) (va_Qi (wP cA ad σ o g (eP (σ 0) p9) (zI (lb (sd (σ 0) p9.toNat) (bl (σ 0) p9.toNat - rustyN (σ 0) p9.toNat ((σ 0) 0 0 4) (bl (σ 0) p9.toNat).toNat))) ((σ 0))) (gB D A) A) 3 18 A := by
  refine g_metL (cc := cL_would) (maxL := 4) (ret := (some .int)) (own := RL) (hh := [(0, 9, 12, 13)]) rfl (by decide) rfl (Nat.le_of_ble_eq_true rfl) ?_
  intro p e s m below meth c E Z X ht
  refine g_loc (lv' := [(0, .ref (ad 0 8 0)), (1, .int (zI p9)), (2, .ref o)]) ⟨rfl, rfl, rfl, trivial⟩ ?_
  refine g_st (ws' := wX cA ad (upY σ 0 (σ 0)) ++ oW cA o g) (by rw [upY_self]) rfl rfl ?_
  refine g_aload_n E dL_would_0 rfl ?_
  refine g_iconst E dL_would_1 ?_
  refine g_aload_n E dL_would_2 rfl ?_
  refine g_iload_n E dL_would_3 rfl ?_
  refine g_tryV (T := TX4) (ci := 4) (n := 1) (As := [_]) (rest := _) E Z (c_X4_would l hl0 D cA _ ad σ (σ 0) hI p9 h0) gL_would_X4_would rfl ⟨rfl, rfl⟩ (by decide +kernel) ⟨Nat.le_of_ble_eq_true rfl, Nat.le_of_ble_eq_true rfl⟩ (ob_8 mem_8) rfl rfl rfl (Nat.le_of_ble_eq_true rfl) ⟨Nat.le_of_ble_eq_true rfl, Nat.le_of_ble_eq_true rfl⟩ dL_would_4 (fun E9 hE => ?_) ?_
  · obtain ⟨rfl, hk⟩ := exn1 hE
    refine ⟨[], ⟨0, 9, 12, 13⟩, [], by rw [ht]; rfl, (fun z hz => nomatch hz), by decide, by decide, E.2.2.2.2.1 _ (by decide +kernel), cst Z cstI, fun q => ?_⟩
    refine g_astore_n E dL_would_12 (by decide) ?_
    refine g_iconst E dL_would_13 ?_
    refine g_wid (k := 3) (n := 18) (Nat.le_of_ble_eq_true rfl) (Nat.le_of_ble_eq_true rfl) ?_
    exact g_iret E ⟨by rw [hk], fun z => absurd (hk.symm.trans z) (by decide), fun _ => by rw [upY_self]⟩ dL_would_14
  · rintro r w' ⟨he, rfl, rfl⟩
    refine g_i2l E dL_would_7 ?_
    refine g_last E dL_would_8 (fun g2 hg2 => ?_)
    refine g_goto (tgt := 15) E dL_would_9 (by decide) ?_
    refine g_iconst E dL_would_15 ?_
    refine g_wid (k := 3) (n := 18) (Nat.le_of_ble_eq_true rfl) (Nat.le_of_ble_eq_true rfl) ?_
    exact g_iret E ⟨by rw [he], fun _ => ⟨upY σ 0 (σ 0), g2, upY_s, by rw [upY_n (by decide)]; exact hT, hg2, rfl⟩, fun z => absurd he z⟩ dL_would_16
