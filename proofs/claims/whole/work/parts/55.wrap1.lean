/-! ===== LAW: the wrappers ===== -/
set_option maxHeartbeats 800000 in
set_option maxRecDepth 100000 in
/-- the law: pile, or the number of what it throws -/
theorem l_pile (l : Launch) (hl0 : l.stackTraces = false) (D : va_G) (cA : Nat → ClassId) (A : Nat → Prop) (ad : Ad) (σ : Nat → St) (o : Nat) (g : Nat → Int64) (hI : Inv (σ 0)) (hT : TrI (σ 0) (σ 1)) (p9 s9 : Int) (h0 : R31 p9) (h1 : R31 s9) : Met l yL_pile wsL_pile ({ frames := 8, cells := 3, slots := 18, locals := 131 }) (PcL D (tysX cA) A (wX cA ad σ ++ oW cA o g) [.ref (ad 0 8 0), .int (zI p9), .int (zI s9), .ref o]) (va_Qi (wP cA ad σ o g (ePile (σ 0) p9 s9) (zI (np (σ 0))) ((newP (σ 0) p9 s9))) (gB D A) A) 3 18 A := by
  refine g_metL (cc := cL_pile) (maxL := 5) (ret := (some .int)) (own := RL) (hh := [(0, 10, 13, 13), (0, 10, 17, 15), (0, 10, 21, 17)]) rfl (by decide) rfl (Nat.le_of_ble_eq_true rfl) ?_
  intro p e s m below meth c E Z X ht
  refine g_loc (lv' := [(0, .ref (ad 0 8 0)), (1, .int (zI p9)), (2, .int (zI s9)), (3, .ref o)]) ⟨rfl, rfl, rfl, rfl, trivial⟩ ?_
  refine g_st (ws' := wX cA ad (upY σ 0 (σ 0)) ++ oW cA o g) (by rw [upY_self]) rfl rfl ?_
  refine g_aload_n E dL_pile_0 rfl ?_
  refine g_iconst E dL_pile_1 ?_
  refine g_aload_n E dL_pile_2 rfl ?_
  refine g_iload_n E dL_pile_3 rfl ?_
  refine g_iload_n E dL_pile_4 rfl ?_
  refine g_tryV (T := TX4) (ci := 4) (n := 2) (As := [_, _]) (rest := _) E Z (c_X4_pile l hl0 D cA _ ad σ (σ 0) hI p9 s9 h0 h1) gL_pile_X4_pile rfl ⟨rfl, rfl⟩ (by decide +kernel) ⟨Nat.le_of_ble_eq_true rfl, Nat.le_of_ble_eq_true rfl⟩ (ob_8 mem_8) rfl rfl rfl (Nat.le_of_ble_eq_true rfl) ⟨Nat.le_of_ble_eq_true rfl, Nat.le_of_ble_eq_true rfl⟩ dL_pile_5 (fun E9 hE => ?_) ?_
  · rcases exn3 hE with ⟨rfl, hk⟩ | ⟨rfl, hk⟩ | ⟨rfl, hk⟩
    · refine ⟨[], ⟨0, 10, 13, 13⟩, [⟨0, 10, 17, 15⟩, ⟨0, 10, 21, 17⟩], by rw [ht]; rfl, (fun z hz => nomatch hz), by decide, by decide, E.2.2.2.2.1 _ (by decide +kernel), cst Z cstI, fun q => ?_⟩
      refine g_astore E dL_pile_13 (by decide) ?_
      refine g_iconst E dL_pile_15 ?_
      refine g_wid (k := 3) (n := 18) (Nat.le_of_ble_eq_true rfl) (Nat.le_of_ble_eq_true rfl) ?_
      exact g_iret E ⟨by rw [hk], fun z => absurd (hk.symm.trans z) (by decide), fun _ => by rw [upY_self]⟩ dL_pile_16
    · refine ⟨[⟨0, 10, 13, 13⟩], ⟨0, 10, 17, 15⟩, [⟨0, 10, 21, 17⟩], by rw [ht]; rfl, (fun z hz => by rw [List.mem_singleton.mp hz]; exact Or.inr ⟨by decide, xI, E.2.2.2.2.1 _ (by decide +kernel), X.1⟩), by decide, by decide, E.2.2.2.2.1 _ (by decide +kernel), cst Z cstA, fun q => ?_⟩
      refine g_astore E dL_pile_17 (by decide) ?_
      refine g_iconst E dL_pile_19 ?_
      refine g_wid (k := 3) (n := 18) (Nat.le_of_ble_eq_true rfl) (Nat.le_of_ble_eq_true rfl) ?_
      exact g_iret E ⟨by rw [hk], fun z => absurd (hk.symm.trans z) (by decide), fun _ => by rw [upY_self]⟩ dL_pile_20
    · refine ⟨[⟨0, 10, 13, 13⟩, ⟨0, 10, 17, 15⟩], ⟨0, 10, 21, 17⟩, [], by rw [ht]; rfl, (fun z hz => (List.mem_cons.mp hz).elim (fun h => by rw [h]; exact Or.inr ⟨by decide, xI, E.2.2.2.2.1 _ (by decide +kernel), X.2.1⟩) (fun h => by rw [List.mem_singleton.mp h]; exact Or.inr ⟨by decide, xA, E.2.2.2.2.1 _ (by decide +kernel), X.2.2.1⟩)), by decide, by decide, E.2.2.2.2.1 _ (by decide +kernel), cst Z cstS, fun q => ?_⟩
      refine g_astore E dL_pile_21 (by decide) ?_
      refine g_iconst E dL_pile_23 ?_
      refine g_wid (k := 3) (n := 18) (Nat.le_of_ble_eq_true rfl) (Nat.le_of_ble_eq_true rfl) ?_
      exact g_iret E ⟨by rw [hk], fun z => absurd (hk.symm.trans z) (by decide), fun _ => by rw [upY_self]⟩ dL_pile_24
  · rintro r w' ⟨he, rfl, rfl⟩
    refine g_i2l E dL_pile_8 ?_
    refine g_last E dL_pile_9 (fun g2 hg2 => ?_)
    refine g_goto (tgt := 25) E dL_pile_10 (by decide) ?_
    refine g_iconst E dL_pile_25 ?_
    refine g_wid (k := 3) (n := 18) (Nat.le_of_ble_eq_true rfl) (Nat.le_of_ble_eq_true rfl) ?_
    exact g_iret E ⟨by rw [he], fun _ => ⟨upY σ 0 (newP (σ 0) p9 s9), g2, upY_s, by rw [upY_n (by decide)]; exact (newP_g hI he).tr hT, hg2, rfl⟩, fun z => absurd he z⟩ dL_pile_26

set_option maxHeartbeats 800000 in
set_option maxRecDepth 100000 in
/-- the law: cat, or the number of what it throws -/
theorem l_cat (l : Launch) (hl0 : l.stackTraces = false) (D : va_G) (cA : Nat → ClassId) (A : Nat → Prop) (ad : Ad) (σ : Nat → St) (o : Nat) (g : Nat → Int64) (hI : Inv (σ 0)) (hT : TrI (σ 0) (σ 1)) (p9 : Int) (h0 : R31 p9) : Met l yL_cat wsL_cat ({ frames := 8, cells := 3, slots := 18, locals := 130 }) (PcL D (tysX cA) A (wX cA ad σ ++ oW cA o g) [.ref (ad 0 8 0), .int (zI p9), .ref o]) (va_Qi (wP cA ad σ o g (eCat (σ 0) p9) (zI (nc (σ 0))) ((newC (σ 0) p9))) (gB D A) A) 3 18 A := by
  refine g_metL (cc := cL_cat) (maxL := 4) (ret := (some .int)) (own := RL) (hh := [(0, 9, 12, 15), (0, 9, 15, 17)]) rfl (by decide) rfl (Nat.le_of_ble_eq_true rfl) ?_
  intro p e s m below meth c E Z X ht
  refine g_loc (lv' := [(0, .ref (ad 0 8 0)), (1, .int (zI p9)), (2, .ref o)]) ⟨rfl, rfl, rfl, trivial⟩ ?_
  refine g_st (ws' := wX cA ad (upY σ 0 (σ 0)) ++ oW cA o g) (by rw [upY_self]) rfl rfl ?_
  refine g_aload_n E dL_cat_0 rfl ?_
  refine g_iconst E dL_cat_1 ?_
  refine g_aload_n E dL_cat_2 rfl ?_
  refine g_iload_n E dL_cat_3 rfl ?_
  refine g_tryV (T := TX4) (ci := 4) (n := 1) (As := [_]) (rest := _) E Z (c_X4_cat l hl0 D cA _ ad σ (σ 0) hI p9 h0) gL_cat_X4_cat rfl ⟨rfl, rfl⟩ (by decide +kernel) ⟨Nat.le_of_ble_eq_true rfl, Nat.le_of_ble_eq_true rfl⟩ (ob_8 mem_8) rfl rfl rfl (Nat.le_of_ble_eq_true rfl) ⟨Nat.le_of_ble_eq_true rfl, Nat.le_of_ble_eq_true rfl⟩ dL_cat_4 (fun E9 hE => ?_) ?_
  · rcases exn2 hE with ⟨rfl, hk⟩ | ⟨rfl, hk⟩
    · refine ⟨[], ⟨0, 9, 12, 15⟩, [⟨0, 9, 15, 17⟩], by rw [ht]; rfl, (fun z hz => nomatch hz), by decide, by decide, E.2.2.2.2.1 _ (by decide +kernel), cst Z cstA, fun q => ?_⟩
      refine g_astore_n E dL_cat_12 (by decide) ?_
      refine g_iconst E dL_cat_13 ?_
      refine g_wid (k := 3) (n := 18) (Nat.le_of_ble_eq_true rfl) (Nat.le_of_ble_eq_true rfl) ?_
      exact g_iret E ⟨by rw [hk], fun z => absurd (hk.symm.trans z) (by decide), fun _ => by rw [upY_self]⟩ dL_cat_14
    · refine ⟨[⟨0, 9, 12, 15⟩], ⟨0, 9, 15, 17⟩, [], by rw [ht]; rfl, (fun z hz => by rw [List.mem_singleton.mp hz]; exact Or.inr ⟨by decide, xA, E.2.2.2.2.1 _ (by decide +kernel), X.2.2.1⟩), by decide, by decide, E.2.2.2.2.1 _ (by decide +kernel), cst Z cstS, fun q => ?_⟩
      refine g_astore_n E dL_cat_15 (by decide) ?_
      refine g_iconst E dL_cat_16 ?_
      refine g_wid (k := 3) (n := 18) (Nat.le_of_ble_eq_true rfl) (Nat.le_of_ble_eq_true rfl) ?_
      exact g_iret E ⟨by rw [hk], fun z => absurd (hk.symm.trans z) (by decide), fun _ => by rw [upY_self]⟩ dL_cat_17
  · rintro r w' ⟨he, rfl, rfl⟩
    refine g_i2l E dL_cat_7 ?_
    refine g_last E dL_cat_8 (fun g2 hg2 => ?_)
    refine g_goto (tgt := 18) E dL_cat_9 (by decide) ?_
    refine g_iconst E dL_cat_18 ?_
    refine g_wid (k := 3) (n := 18) (Nat.le_of_ble_eq_true rfl) (Nat.le_of_ble_eq_true rfl) ?_
    exact g_iret E ⟨by rw [he], fun _ => ⟨upY σ 0 (newC (σ 0) p9), g2, upY_s, by rw [upY_n (by decide)]; exact (newC_g hI he).tr hT, hg2, rfl⟩, fun z => absurd he z⟩ dL_cat_19

set_option maxHeartbeats 800000 in
set_option maxRecDepth 100000 in
/-- the law: give, or the number of what it throws -/
theorem l_give (l : Launch) (hl0 : l.stackTraces = false) (D : va_G) (cA : Nat → ClassId) (A : Nat → Prop) (ad : Ad) (σ : Nat → St) (o : Nat) (g : Nat → Int64) (hI : Inv (σ 0)) (hT : TrI (σ 0) (σ 1)) (p9 m9 : Int) (h0 : R31 p9) (h1 : R31 m9) : Met l yL_give wsL_give ({ frames := 8, cells := 3, slots := 18, locals := 130 }) (PcL D (tysX cA) A (wX cA ad σ ++ oW cA o g) [.ref (ad 0 8 0), .int (zI p9), .int (zI m9), .ref o]) (va_Qi (wP cA ad σ o g (eGive p9 m9) (givS (σ 0) p9 m9 5 0 p9.toNat) ((givS (σ 0) p9 m9))) (gB D A) A) 3 18 A := by
  refine g_metL (cc := cL_give) (maxL := 5) (ret := (some .int)) (own := RL) (hh := [(0, 10, 13, 13), (0, 10, 17, 15)]) rfl (by decide) rfl (Nat.le_of_ble_eq_true rfl) ?_
  intro p e s m below meth c E Z X ht
  refine g_loc (lv' := [(0, .ref (ad 0 8 0)), (1, .int (zI p9)), (2, .int (zI m9)), (3, .ref o)]) ⟨rfl, rfl, rfl, rfl, trivial⟩ ?_
  refine g_st (ws' := wX cA ad (upY σ 0 (σ 0)) ++ oW cA o g) (by rw [upY_self]) rfl rfl ?_
  refine g_aload_n E dL_give_0 rfl ?_
  refine g_iconst E dL_give_1 ?_
  refine g_aload_n E dL_give_2 rfl ?_
  refine g_iload_n E dL_give_3 rfl ?_
  refine g_iload_n E dL_give_4 rfl ?_
  refine g_tryV (T := TX4) (ci := 4) (n := 2) (As := [_, _]) (rest := _) E Z (c_X4_give l hl0 D cA _ ad σ (σ 0) hI p9 m9 h0 h1) gL_give_X4_give rfl ⟨rfl, rfl⟩ (by decide +kernel) ⟨Nat.le_of_ble_eq_true rfl, Nat.le_of_ble_eq_true rfl⟩ (ob_8 mem_8) rfl rfl rfl (Nat.le_of_ble_eq_true rfl) ⟨Nat.le_of_ble_eq_true rfl, Nat.le_of_ble_eq_true rfl⟩ dL_give_5 (fun E9 hE => ?_) ?_
  · rcases exn2 hE with ⟨rfl, hk⟩ | ⟨rfl, hk⟩
    · refine ⟨[], ⟨0, 10, 13, 13⟩, [⟨0, 10, 17, 15⟩], by rw [ht]; rfl, (fun z hz => nomatch hz), by decide, by decide, E.2.2.2.2.1 _ (by decide +kernel), cst Z cstI, fun q => ?_⟩
      refine g_astore E dL_give_13 (by decide) ?_
      refine g_iconst E dL_give_15 ?_
      refine g_wid (k := 3) (n := 18) (Nat.le_of_ble_eq_true rfl) (Nat.le_of_ble_eq_true rfl) ?_
      exact g_iret E ⟨by rw [hk], fun z => absurd (hk.symm.trans z) (by decide), fun _ => by rw [upY_self]⟩ dL_give_16
    · refine ⟨[⟨0, 10, 13, 13⟩], ⟨0, 10, 17, 15⟩, [], by rw [ht]; rfl, (fun z hz => by rw [List.mem_singleton.mp hz]; exact Or.inr ⟨by decide, xI, E.2.2.2.2.1 _ (by decide +kernel), X.1⟩), by decide, by decide, E.2.2.2.2.1 _ (by decide +kernel), cst Z cstA, fun q => ?_⟩
      refine g_astore E dL_give_17 (by decide) ?_
      refine g_iconst E dL_give_19 ?_
      refine g_wid (k := 3) (n := 18) (Nat.le_of_ble_eq_true rfl) (Nat.le_of_ble_eq_true rfl) ?_
      exact g_iret E ⟨by rw [hk], fun z => absurd (hk.symm.trans z) (by decide), fun _ => by rw [upY_self]⟩ dL_give_20
  · rintro r w' ⟨he, rfl, rfl⟩
    refine g_i2l E dL_give_8 ?_
    refine g_last E dL_give_9 (fun g2 hg2 => ?_)
    refine g_goto (tgt := 21) E dL_give_10 (by decide) ?_
    refine g_iconst E dL_give_21 ?_
    refine g_wid (k := 3) (n := 18) (Nat.le_of_ble_eq_true rfl) (Nat.le_of_ble_eq_true rfl) ?_
    exact g_iret E ⟨by rw [he], fun _ => ⟨upY σ 0 (givS (σ 0) p9 m9), g2, upY_s, by rw [upY_n (by decide)]; exact (givS_g hI).tr hT, hg2, rfl⟩, fun z => absurd he z⟩ dL_give_22

set_option maxHeartbeats 800000 in
set_option maxRecDepth 100000 in
/-- the law: setRain, or the number of what it throws -/
theorem l_setRain (l : Launch) (hl0 : l.stackTraces = false) (D : va_G) (cA : Nat → ClassId) (A : Nat → Prop) (ad : Ad) (σ : Nat → St) (o : Nat) (g : Nat → Int64) (hI : Inv (σ 0)) (hT : TrI (σ 0) (σ 1)) (p9 : Int) (h0 : R31 p9) : Met l yL_setRain wsL_setRain ({ frames := 8, cells := 3, slots := 18, locals := 130 }) (PcL D (tysX cA) A (wX cA ad σ ++ oW cA o g) [.ref (ad 0 8 0), .int (zI p9), .ref o]) (va_Qi (wP cA ad σ o g (eIn 0 3 p9) ((σ 0) 0 0 3) ((up3 (σ 0) 0 0 3 (zI p9)))) (gB D A) A) 3 18 A := by
  refine g_metL (cc := cL_setRain) (maxL := 4) (ret := (some .int)) (own := RL) (hh := [(0, 9, 12, 15)]) rfl (by decide) rfl (Nat.le_of_ble_eq_true rfl) ?_
  intro p e s m below meth c E Z X ht
  refine g_loc (lv' := [(0, .ref (ad 0 8 0)), (1, .int (zI p9)), (2, .ref o)]) ⟨rfl, rfl, rfl, trivial⟩ ?_
  refine g_st (ws' := wX cA ad (upY σ 0 (σ 0)) ++ oW cA o g) (by rw [upY_self]) rfl rfl ?_
  refine g_aload_n E dL_setRain_0 rfl ?_
  refine g_iconst E dL_setRain_1 ?_
  refine g_aload_n E dL_setRain_2 rfl ?_
  refine g_iload_n E dL_setRain_3 rfl ?_
  refine g_tryV (T := TX4) (ci := 4) (n := 1) (As := [_]) (rest := _) E Z (c_X4_setRain l hl0 D cA _ ad σ (σ 0) hI p9 h0) gL_setRain_X4_setRain rfl ⟨rfl, rfl⟩ (by decide +kernel) ⟨Nat.le_of_ble_eq_true rfl, Nat.le_of_ble_eq_true rfl⟩ (ob_8 mem_8) rfl rfl rfl (Nat.le_of_ble_eq_true rfl) ⟨Nat.le_of_ble_eq_true rfl, Nat.le_of_ble_eq_true rfl⟩ dL_setRain_4 (fun E9 hE => ?_) ?_
  · obtain ⟨rfl, hk⟩ := exn1 hE
    refine ⟨[], ⟨0, 9, 12, 15⟩, [], by rw [ht]; rfl, (fun z hz => nomatch hz), by decide, by decide, E.2.2.2.2.1 _ (by decide +kernel), cst Z cstA, fun q => ?_⟩
    refine g_astore_n E dL_setRain_12 (by decide) ?_
    refine g_iconst E dL_setRain_13 ?_
    refine g_wid (k := 3) (n := 18) (Nat.le_of_ble_eq_true rfl) (Nat.le_of_ble_eq_true rfl) ?_
    exact g_iret E ⟨by rw [hk], fun z => absurd (hk.symm.trans z) (by decide), fun _ => by rw [upY_self]⟩ dL_setRain_14
  · rintro r w' ⟨he, rfl, rfl⟩
    refine g_i2l E dL_setRain_7 ?_
    refine g_last E dL_setRain_8 (fun g2 hg2 => ?_)
    refine g_goto (tgt := 15) E dL_setRain_9 (by decide) ?_
    refine g_iconst E dL_setRain_15 ?_
    refine g_wid (k := 3) (n := 18) (Nat.le_of_ble_eq_true rfl) (Nat.le_of_ble_eq_true rfl) ?_
    exact g_iret E ⟨by rw [he], fun _ => ⟨upY σ 0 (up3 (σ 0) 0 0 3 (zI p9)), g2, upY_s, by rw [upY_n (by decide)]; exact (rain_g hI).tr hT, hg2, rfl⟩, fun z => absurd he z⟩ dL_setRain_16

set_option maxHeartbeats 800000 in
set_option maxRecDepth 100000 in
/-- the law: setLimit, or the number of what it throws -/
theorem l_setLimit (l : Launch) (hl0 : l.stackTraces = false) (D : va_G) (cA : Nat → ClassId) (A : Nat → Prop) (ad : Ad) (σ : Nat → St) (o : Nat) (g : Nat → Int64) (hI : Inv (σ 0)) (hT : TrI (σ 0) (σ 1)) (p9 : Int) (h0 : R31 p9) : Met l yL_setLimit wsL_setLimit ({ frames := 8, cells := 3, slots := 18, locals := 130 }) (PcL D (tysX cA) A (wX cA ad σ ++ oW cA o g) [.ref (ad 0 8 0), .int (zI p9), .ref o]) (va_Qi (wP cA ad σ o g (eIn 1 9 p9) ((σ 0) 0 0 4) ((up3 (σ 0) 0 0 4 (zI p9)))) (gB D A) A) 3 18 A := by
  refine g_metL (cc := cL_setLimit) (maxL := 4) (ret := (some .int)) (own := RL) (hh := [(0, 9, 12, 15)]) rfl (by decide) rfl (Nat.le_of_ble_eq_true rfl) ?_
  intro p e s m below meth c E Z X ht
  refine g_loc (lv' := [(0, .ref (ad 0 8 0)), (1, .int (zI p9)), (2, .ref o)]) ⟨rfl, rfl, rfl, trivial⟩ ?_
  refine g_st (ws' := wX cA ad (upY σ 0 (σ 0)) ++ oW cA o g) (by rw [upY_self]) rfl rfl ?_
  refine g_aload_n E dL_setLimit_0 rfl ?_
  refine g_iconst E dL_setLimit_1 ?_
  refine g_aload_n E dL_setLimit_2 rfl ?_
  refine g_iload_n E dL_setLimit_3 rfl ?_
  refine g_tryV (T := TX4) (ci := 4) (n := 1) (As := [_]) (rest := _) E Z (c_X4_setLimit l hl0 D cA _ ad σ (σ 0) hI p9 h0) gL_setLimit_X4_setLimit rfl ⟨rfl, rfl⟩ (by decide +kernel) ⟨Nat.le_of_ble_eq_true rfl, Nat.le_of_ble_eq_true rfl⟩ (ob_8 mem_8) rfl rfl rfl (Nat.le_of_ble_eq_true rfl) ⟨Nat.le_of_ble_eq_true rfl, Nat.le_of_ble_eq_true rfl⟩ dL_setLimit_4 (fun E9 hE => ?_) ?_
  · obtain ⟨rfl, hk⟩ := exn1 hE
    refine ⟨[], ⟨0, 9, 12, 15⟩, [], by rw [ht]; rfl, (fun z hz => nomatch hz), by decide, by decide, E.2.2.2.2.1 _ (by decide +kernel), cst Z cstA, fun q => ?_⟩
    refine g_astore_n E dL_setLimit_12 (by decide) ?_
    refine g_iconst E dL_setLimit_13 ?_
    refine g_wid (k := 3) (n := 18) (Nat.le_of_ble_eq_true rfl) (Nat.le_of_ble_eq_true rfl) ?_
    exact g_iret E ⟨by rw [hk], fun z => absurd (hk.symm.trans z) (by decide), fun _ => by rw [upY_self]⟩ dL_setLimit_14
  · rintro r w' ⟨he, rfl, rfl⟩
    refine g_i2l E dL_setLimit_7 ?_
    refine g_last E dL_setLimit_8 (fun g2 hg2 => ?_)
    refine g_goto (tgt := 15) E dL_setLimit_9 (by decide) ?_
    refine g_iconst E dL_setLimit_15 ?_
    refine g_wid (k := 3) (n := 18) (Nat.le_of_ble_eq_true rfl) (Nat.le_of_ble_eq_true rfl) ?_
    exact g_iret E ⟨by rw [he], fun _ => ⟨upY σ 0 (up3 (σ 0) 0 0 4 (zI p9)), g2, upY_s, by rw [upY_n (by decide)]; exact (limit_g hI).tr hT, hg2, rfl⟩, fun z => absurd he z⟩ dL_setLimit_16

set_option maxHeartbeats 800000 in
set_option maxRecDepth 100000 in
/-- the law: stack, or the number of what it throws -/
theorem l_stack (l : Launch) (hl0 : l.stackTraces = false) (D : va_G) (cA : Nat → ClassId) (A : Nat → Prop) (ad : Ad) (σ : Nat → St) (o : Nat) (g : Nat → Int64) (hI : Inv (σ 0)) (hT : TrI (σ 0) (σ 1)) (p9 m9 : Int) (h0 : R31 p9) (h1 : R31 m9) : Met l yL_stack wsL_stack ({ frames := 8, cells := 3, slots := 18, locals := 132 }) (PcL D (tysX cA) A (wX cA ad σ ++ oW cA o g) [.ref (ad 0 8 0), .int (zI p9), .int (zI m9), .ref o]) (va_Qi (wP cA ad σ o g (eStack (σ 0) p9 m9) (zI (bl (σ 0) p9.toNat + m9)) ((stkS (σ 0) p9.toNat m9))) (gB D A) A) 3 18 A := by
  refine g_metL (cc := cL_stack) (maxL := 5) (ret := (some .int)) (own := RL) (hh := [(0, 10, 13, 13), (0, 10, 17, 15), (0, 10, 21, 17)]) rfl (by decide) rfl (Nat.le_of_ble_eq_true rfl) ?_
  intro p e s m below meth c E Z X ht
  refine g_loc (lv' := [(0, .ref (ad 0 8 0)), (1, .int (zI p9)), (2, .int (zI m9)), (3, .ref o)]) ⟨rfl, rfl, rfl, rfl, trivial⟩ ?_
  refine g_st (ws' := wX cA ad (upY σ 0 (σ 0)) ++ oW cA o g) (by rw [upY_self]) rfl rfl ?_
  refine g_aload_n E dL_stack_0 rfl ?_
  refine g_iconst E dL_stack_1 ?_
  refine g_aload_n E dL_stack_2 rfl ?_
  refine g_iload_n E dL_stack_3 rfl ?_
  refine g_iload_n E dL_stack_4 rfl ?_
  refine g_tryV (T := TX4) (ci := 4) (n := 2) (As := [_, _]) (rest := _) E Z (c_X4_stack l hl0 D cA _ ad σ (σ 0) hI p9 m9 h0 h1) gL_stack_X4_stack rfl ⟨rfl, rfl⟩ (by decide +kernel) ⟨Nat.le_of_ble_eq_true rfl, Nat.le_of_ble_eq_true rfl⟩ (ob_8 mem_8) rfl rfl rfl (Nat.le_of_ble_eq_true rfl) ⟨Nat.le_of_ble_eq_true rfl, Nat.le_of_ble_eq_true rfl⟩ dL_stack_5 (fun E9 hE => ?_) ?_
  · rcases exn3 hE with ⟨rfl, hk⟩ | ⟨rfl, hk⟩ | ⟨rfl, hk⟩
    · refine ⟨[], ⟨0, 10, 13, 13⟩, [⟨0, 10, 17, 15⟩, ⟨0, 10, 21, 17⟩], by rw [ht]; rfl, (fun z hz => nomatch hz), by decide, by decide, E.2.2.2.2.1 _ (by decide +kernel), cst Z cstI, fun q => ?_⟩
      refine g_astore E dL_stack_13 (by decide) ?_
      refine g_iconst E dL_stack_15 ?_
      refine g_wid (k := 3) (n := 18) (Nat.le_of_ble_eq_true rfl) (Nat.le_of_ble_eq_true rfl) ?_
      exact g_iret E ⟨by rw [hk], fun z => absurd (hk.symm.trans z) (by decide), fun _ => by rw [upY_self]⟩ dL_stack_16
    · refine ⟨[⟨0, 10, 13, 13⟩], ⟨0, 10, 17, 15⟩, [⟨0, 10, 21, 17⟩], by rw [ht]; rfl, (fun z hz => by rw [List.mem_singleton.mp hz]; exact Or.inr ⟨by decide, xI, E.2.2.2.2.1 _ (by decide +kernel), X.1⟩), by decide, by decide, E.2.2.2.2.1 _ (by decide +kernel), cst Z cstA, fun q => ?_⟩
      refine g_astore E dL_stack_17 (by decide) ?_
      refine g_iconst E dL_stack_19 ?_
      refine g_wid (k := 3) (n := 18) (Nat.le_of_ble_eq_true rfl) (Nat.le_of_ble_eq_true rfl) ?_
      exact g_iret E ⟨by rw [hk], fun z => absurd (hk.symm.trans z) (by decide), fun _ => by rw [upY_self]⟩ dL_stack_20
    · refine ⟨[⟨0, 10, 13, 13⟩, ⟨0, 10, 17, 15⟩], ⟨0, 10, 21, 17⟩, [], by rw [ht]; rfl, (fun z hz => (List.mem_cons.mp hz).elim (fun h => by rw [h]; exact Or.inr ⟨by decide, xI, E.2.2.2.2.1 _ (by decide +kernel), X.2.1⟩) (fun h => by rw [List.mem_singleton.mp h]; exact Or.inr ⟨by decide, xA, E.2.2.2.2.1 _ (by decide +kernel), X.2.2.1⟩)), by decide, by decide, E.2.2.2.2.1 _ (by decide +kernel), cst Z cstS, fun q => ?_⟩
      refine g_astore E dL_stack_21 (by decide) ?_
      refine g_iconst E dL_stack_23 ?_
      refine g_wid (k := 3) (n := 18) (Nat.le_of_ble_eq_true rfl) (Nat.le_of_ble_eq_true rfl) ?_
      exact g_iret E ⟨by rw [hk], fun z => absurd (hk.symm.trans z) (by decide), fun _ => by rw [upY_self]⟩ dL_stack_24
  · rintro r w' ⟨he, rfl, rfl⟩
    refine g_i2l E dL_stack_8 ?_
    refine g_last E dL_stack_9 (fun g2 hg2 => ?_)
    refine g_goto (tgt := 25) E dL_stack_10 (by decide) ?_
    refine g_iconst E dL_stack_25 ?_
    refine g_wid (k := 3) (n := 18) (Nat.le_of_ble_eq_true rfl) (Nat.le_of_ble_eq_true rfl) ?_
    exact g_iret E ⟨by rw [he], fun _ => ⟨upY σ 0 (stkS (σ 0) p9.toNat m9), g2, upY_s, by rw [upY_n (by decide)]; exact (stkS_g hI he).tr hT, hg2, rfl⟩, fun z => absurd he z⟩ dL_stack_26

set_option maxHeartbeats 800000 in
set_option maxRecDepth 100000 in
/-- the law: fire, or the number of what it throws -/
theorem l_fire (l : Launch) (hl0 : l.stackTraces = false) (D : va_G) (cA : Nat → ClassId) (A : Nat → Prop) (ad : Ad) (σ : Nat → St) (o : Nat) (g : Nat → Int64) (hI : Inv (σ 0)) (hT : TrI (σ 0) (σ 1)) (p9 m9 : Int) (h0 : R31 p9) (h1 : R31 m9) : Met l yL_fire wsL_fire ({ frames := 8, cells := 3, slots := 18, locals := 133 }) (PcL D (tysX cA) A (wX cA ad σ ++ oW cA o g) [.ref (ad 0 8 0), .int (zI p9), .int (zI m9), .ref o]) (va_Qi (wP cA ad σ o g (eFire (σ 0) p9 m9) ((firL (σ 0) p9.toNat m9.toNat).2) ((firS (σ 0) p9.toNat m9))) (gB D A) A) 3 18 A := by
  refine g_metL (cc := cL_fire) (maxL := 5) (ret := (some .int)) (own := RL) (hh := [(0, 10, 13, 13), (0, 10, 17, 15), (0, 10, 21, 17)]) rfl (by decide) rfl (Nat.le_of_ble_eq_true rfl) ?_
  intro p e s m below meth c E Z X ht
  refine g_loc (lv' := [(0, .ref (ad 0 8 0)), (1, .int (zI p9)), (2, .int (zI m9)), (3, .ref o)]) ⟨rfl, rfl, rfl, rfl, trivial⟩ ?_
  refine g_st (ws' := wX cA ad (upY σ 0 (σ 0)) ++ oW cA o g) (by rw [upY_self]) rfl rfl ?_
  refine g_aload_n E dL_fire_0 rfl ?_
  refine g_iconst E dL_fire_1 ?_
  refine g_aload_n E dL_fire_2 rfl ?_
  refine g_iload_n E dL_fire_3 rfl ?_
  refine g_iload_n E dL_fire_4 rfl ?_
  refine g_tryV (T := TX4) (ci := 4) (n := 2) (As := [_, _]) (rest := _) E Z (c_X4_fire l hl0 D cA _ ad σ (σ 0) hI p9 m9 h0 h1) gL_fire_X4_fire rfl ⟨rfl, rfl⟩ (by decide +kernel) ⟨Nat.le_of_ble_eq_true rfl, Nat.le_of_ble_eq_true rfl⟩ (ob_8 mem_8) rfl rfl rfl (Nat.le_of_ble_eq_true rfl) ⟨Nat.le_of_ble_eq_true rfl, Nat.le_of_ble_eq_true rfl⟩ dL_fire_5 (fun E9 hE => ?_) ?_
  · rcases exn3 hE with ⟨rfl, hk⟩ | ⟨rfl, hk⟩ | ⟨rfl, hk⟩
    · refine ⟨[], ⟨0, 10, 13, 13⟩, [⟨0, 10, 17, 15⟩, ⟨0, 10, 21, 17⟩], by rw [ht]; rfl, (fun z hz => nomatch hz), by decide, by decide, E.2.2.2.2.1 _ (by decide +kernel), cst Z cstI, fun q => ?_⟩
      refine g_astore E dL_fire_13 (by decide) ?_
      refine g_iconst E dL_fire_15 ?_
      refine g_wid (k := 3) (n := 18) (Nat.le_of_ble_eq_true rfl) (Nat.le_of_ble_eq_true rfl) ?_
      exact g_iret E ⟨by rw [hk], fun z => absurd (hk.symm.trans z) (by decide), fun _ => by rw [upY_self]⟩ dL_fire_16
    · refine ⟨[⟨0, 10, 13, 13⟩], ⟨0, 10, 17, 15⟩, [⟨0, 10, 21, 17⟩], by rw [ht]; rfl, (fun z hz => by rw [List.mem_singleton.mp hz]; exact Or.inr ⟨by decide, xI, E.2.2.2.2.1 _ (by decide +kernel), X.1⟩), by decide, by decide, E.2.2.2.2.1 _ (by decide +kernel), cst Z cstA, fun q => ?_⟩
      refine g_astore E dL_fire_17 (by decide) ?_
      refine g_iconst E dL_fire_19 ?_
      refine g_wid (k := 3) (n := 18) (Nat.le_of_ble_eq_true rfl) (Nat.le_of_ble_eq_true rfl) ?_
      exact g_iret E ⟨by rw [hk], fun z => absurd (hk.symm.trans z) (by decide), fun _ => by rw [upY_self]⟩ dL_fire_20
    · refine ⟨[⟨0, 10, 13, 13⟩, ⟨0, 10, 17, 15⟩], ⟨0, 10, 21, 17⟩, [], by rw [ht]; rfl, (fun z hz => (List.mem_cons.mp hz).elim (fun h => by rw [h]; exact Or.inr ⟨by decide, xI, E.2.2.2.2.1 _ (by decide +kernel), X.2.1⟩) (fun h => by rw [List.mem_singleton.mp h]; exact Or.inr ⟨by decide, xA, E.2.2.2.2.1 _ (by decide +kernel), X.2.2.1⟩)), by decide, by decide, E.2.2.2.2.1 _ (by decide +kernel), cst Z cstS, fun q => ?_⟩
      refine g_astore E dL_fire_21 (by decide) ?_
      refine g_iconst E dL_fire_23 ?_
      refine g_wid (k := 3) (n := 18) (Nat.le_of_ble_eq_true rfl) (Nat.le_of_ble_eq_true rfl) ?_
      exact g_iret E ⟨by rw [hk], fun z => absurd (hk.symm.trans z) (by decide), fun _ => by rw [upY_self]⟩ dL_fire_24
  · rintro r w' ⟨he, rfl, rfl⟩
    refine g_i2l E dL_fire_8 ?_
    refine g_last E dL_fire_9 (fun g2 hg2 => ?_)
    refine g_goto (tgt := 25) E dL_fire_10 (by decide) ?_
    refine g_iconst E dL_fire_25 ?_
    refine g_wid (k := 3) (n := 18) (Nat.le_of_ble_eq_true rfl) (Nat.le_of_ble_eq_true rfl) ?_
    exact g_iret E ⟨by rw [he], fun _ => ⟨upY σ 0 (firS (σ 0) p9.toNat m9), g2, upY_s, by rw [upY_n (by decide)]; exact (firS_g hI he).tr hT, hg2, rfl⟩, fun z => absurd he z⟩ dL_fire_26

set_option maxHeartbeats 800000 in
set_option maxRecDepth 100000 in
/-- the law: scour, or the number of what it throws -/
theorem l_scour (l : Launch) (hl0 : l.stackTraces = false) (D : va_G) (cA : Nat → ClassId) (A : Nat → Prop) (ad : Ad) (σ : Nat → St) (o : Nat) (g : Nat → Int64) (hI : Inv (σ 0)) (hT : TrI (σ 0) (σ 1)) (p9 : Int) (h0 : R31 p9) : Met l yL_scour wsL_scour ({ frames := 8, cells := 3, slots := 18, locals := 128 }) (PcL D (tysX cA) A (wX cA ad σ ++ oW cA o g) [.ref (ad 0 8 0), .int (zI p9), .ref o]) (va_Qi (wP cA ad σ o g (eP (σ 0) p9) ((scL (σ 0) p9.toNat (bl (σ 0) p9.toNat).toNat).2) (((scL (σ 0) p9.toNat (bl (σ 0) p9.toNat).toNat).1))) (gB D A) A) 3 18 A := by
  refine g_metL (cc := cL_scour) (maxL := 4) (ret := (some .int)) (own := RL) (hh := [(0, 9, 12, 13)]) rfl (by decide) rfl (Nat.le_of_ble_eq_true rfl) ?_
  intro p e s m below meth c E Z X ht
  refine g_loc (lv' := [(0, .ref (ad 0 8 0)), (1, .int (zI p9)), (2, .ref o)]) ⟨rfl, rfl, rfl, trivial⟩ ?_
  refine g_st (ws' := wX cA ad (upY σ 0 (σ 0)) ++ oW cA o g) (by rw [upY_self]) rfl rfl ?_
  refine g_aload_n E dL_scour_0 rfl ?_
  refine g_iconst E dL_scour_1 ?_
  refine g_aload_n E dL_scour_2 rfl ?_
  refine g_iload_n E dL_scour_3 rfl ?_
  refine g_tryV (T := TX4) (ci := 4) (n := 1) (As := [_]) (rest := _) E Z (c_X4_scour l hl0 D cA _ ad σ (σ 0) hI p9 h0) gL_scour_X4_scour rfl ⟨rfl, rfl⟩ (by decide +kernel) ⟨Nat.le_of_ble_eq_true rfl, Nat.le_of_ble_eq_true rfl⟩ (ob_8 mem_8) rfl rfl rfl (Nat.le_of_ble_eq_true rfl) ⟨Nat.le_of_ble_eq_true rfl, Nat.le_of_ble_eq_true rfl⟩ dL_scour_4 (fun E9 hE => ?_) ?_
  · obtain ⟨rfl, hk⟩ := exn1 hE
    refine ⟨[], ⟨0, 9, 12, 13⟩, [], by rw [ht]; rfl, (fun z hz => nomatch hz), by decide, by decide, E.2.2.2.2.1 _ (by decide +kernel), cst Z cstI, fun q => ?_⟩
    refine g_astore_n E dL_scour_12 (by decide) ?_
    refine g_iconst E dL_scour_13 ?_
    refine g_wid (k := 3) (n := 18) (Nat.le_of_ble_eq_true rfl) (Nat.le_of_ble_eq_true rfl) ?_
    exact g_iret E ⟨by rw [hk], fun z => absurd (hk.symm.trans z) (by decide), fun _ => by rw [upY_self]⟩ dL_scour_14
  · rintro r w' ⟨he, rfl, rfl⟩
    refine g_i2l E dL_scour_7 ?_
    refine g_last E dL_scour_8 (fun g2 hg2 => ?_)
    refine g_goto (tgt := 15) E dL_scour_9 (by decide) ?_
    refine g_iconst E dL_scour_15 ?_
    refine g_wid (k := 3) (n := 18) (Nat.le_of_ble_eq_true rfl) (Nat.le_of_ble_eq_true rfl) ?_
    exact g_iret E ⟨by rw [he], fun _ => ⟨upY σ 0 ((scL (σ 0) p9.toNat (bl (σ 0) p9.toNat).toNat).1), g2, upY_s, by rw [upY_n (by decide)]; exact (scour_g hI he _).tr hT, hg2, rfl⟩, fun z => absurd he z⟩ dL_scour_16

set_option maxHeartbeats 800000 in
set_option maxRecDepth 100000 in
/-- the law: inspect, or the number of what it throws -/
theorem l_inspect (l : Launch) (hl0 : l.stackTraces = false) (D : va_G) (cA : Nat → ClassId) (A : Nat → Prop) (ad : Ad) (σ : Nat → St) (o : Nat) (g : Nat → Int64) (hI : Inv (σ 0)) (hT : TrI (σ 0) (σ 1)) (p9 : Int) (h0 : R31 p9) : Met l yL_inspect wsL_inspect ({ frames := 8, cells := 3, slots := 18, locals := 130 }) (PcL D (tysX cA) A (wX cA ad σ ++ oW cA o g) [.ref (ad 0 8 0), .int (zI p9), .ref o]) (va_Qi (wP cA ad σ o g (eP (σ 0) p9) (zI (insV (σ 0) p9.toNat ((σ 0) 0 0 4))) ((inspS (σ 0) p9.toNat))) (gB D A) A) 3 18 A := by
  refine g_metL (cc := cL_inspect) (maxL := 4) (ret := (some .int)) (own := RL) (hh := [(0, 9, 12, 13)]) rfl (by decide) rfl (Nat.le_of_ble_eq_true rfl) ?_
  intro p e s m below meth c E Z X ht
  refine g_loc (lv' := [(0, .ref (ad 0 8 0)), (1, .int (zI p9)), (2, .ref o)]) ⟨rfl, rfl, rfl, trivial⟩ ?_
  refine g_st (ws' := wX cA ad (upY σ 0 (σ 0)) ++ oW cA o g) (by rw [upY_self]) rfl rfl ?_
  refine g_aload_n E dL_inspect_0 rfl ?_
  refine g_iconst E dL_inspect_1 ?_
  refine g_aload_n E dL_inspect_2 rfl ?_
  refine g_iload_n E dL_inspect_3 rfl ?_
  refine g_tryV (T := TX4) (ci := 4) (n := 1) (As := [_]) (rest := _) E Z (c_X4_inspect l hl0 D cA _ ad σ (σ 0) hI p9 h0) gL_inspect_X4_inspect rfl ⟨rfl, rfl⟩ (by decide +kernel) ⟨Nat.le_of_ble_eq_true rfl, Nat.le_of_ble_eq_true rfl⟩ (ob_8 mem_8) rfl rfl rfl (Nat.le_of_ble_eq_true rfl) ⟨Nat.le_of_ble_eq_true rfl, Nat.le_of_ble_eq_true rfl⟩ dL_inspect_4 (fun E9 hE => ?_) ?_
  · obtain ⟨rfl, hk⟩ := exn1 hE
    refine ⟨[], ⟨0, 9, 12, 13⟩, [], by rw [ht]; rfl, (fun z hz => nomatch hz), by decide, by decide, E.2.2.2.2.1 _ (by decide +kernel), cst Z cstI, fun q => ?_⟩
    refine g_astore_n E dL_inspect_12 (by decide) ?_
    refine g_iconst E dL_inspect_13 ?_
    refine g_wid (k := 3) (n := 18) (Nat.le_of_ble_eq_true rfl) (Nat.le_of_ble_eq_true rfl) ?_
    exact g_iret E ⟨by rw [hk], fun z => absurd (hk.symm.trans z) (by decide), fun _ => by rw [upY_self]⟩ dL_inspect_14
  · rintro r w' ⟨he, rfl, rfl⟩
    refine g_i2l E dL_inspect_7 ?_
    refine g_last E dL_inspect_8 (fun g2 hg2 => ?_)
    refine g_goto (tgt := 15) E dL_inspect_9 (by decide) ?_
    refine g_iconst E dL_inspect_15 ?_
    refine g_wid (k := 3) (n := 18) (Nat.le_of_ble_eq_true rfl) (Nat.le_of_ble_eq_true rfl) ?_
    exact g_iret E ⟨by rw [he], fun _ => ⟨upY σ 0 (inspS (σ 0) p9.toNat), g2, upY_s, by rw [upY_n (by decide)]; exact (inspS_g hI he).tr hT, hg2, rfl⟩, fun z => absurd he z⟩ dL_inspect_16

set_option maxHeartbeats 800000 in
set_option maxRecDepth 100000 in
/-- the law: shift, or the number of what it throws -/
theorem l_shift (l : Launch) (hl0 : l.stackTraces = false) (D : va_G) (cA : Nat → ClassId) (A : Nat → Prop) (ad : Ad) (σ : Nat → St) (o : Nat) (g : Nat → Int64) (hI : Inv (σ 0)) (hT : TrI (σ 0) (σ 1)) (p9 m9 : Int) (h0 : R31 p9) (h1 : R31 m9) : Met l yL_shift wsL_shift ({ frames := 8, cells := 3, slots := 18, locals := 133 }) (PcL D (tysX cA) A (wX cA ad σ ++ oW cA o g) [.ref (ad 0 8 0), .int (zI p9), .int (zI m9), .ref o]) (va_Qi (wP cA ad σ o g (eShift (σ 0) p9 m9) (zI (shM (σ 0) p9.toNat m9.toNat)) ((shN (σ 0) p9.toNat m9.toNat (shM (σ 0) p9.toNat m9.toNat).toNat))) (gB D A) A) 3 18 A := by
  refine g_metL (cc := cL_shift) (maxL := 5) (ret := (some .int)) (own := RL) (hh := [(0, 10, 13, 13), (0, 10, 17, 15)]) rfl (by decide) rfl (Nat.le_of_ble_eq_true rfl) ?_
  intro p e s m below meth c E Z X ht
  refine g_loc (lv' := [(0, .ref (ad 0 8 0)), (1, .int (zI p9)), (2, .int (zI m9)), (3, .ref o)]) ⟨rfl, rfl, rfl, rfl, trivial⟩ ?_
  refine g_st (ws' := wX cA ad (upY σ 0 (σ 0)) ++ oW cA o g) (by rw [upY_self]) rfl rfl ?_
  refine g_aload_n E dL_shift_0 rfl ?_
  refine g_iconst E dL_shift_1 ?_
  refine g_aload_n E dL_shift_2 rfl ?_
  refine g_iload_n E dL_shift_3 rfl ?_
  refine g_iload_n E dL_shift_4 rfl ?_
  refine g_tryV (T := TX4) (ci := 4) (n := 2) (As := [_, _]) (rest := _) E Z (c_X4_shift l hl0 D cA _ ad σ (σ 0) hI p9 m9 h0 h1) gL_shift_X4_shift rfl ⟨rfl, rfl⟩ (by decide +kernel) ⟨Nat.le_of_ble_eq_true rfl, Nat.le_of_ble_eq_true rfl⟩ (ob_8 mem_8) rfl rfl rfl (Nat.le_of_ble_eq_true rfl) ⟨Nat.le_of_ble_eq_true rfl, Nat.le_of_ble_eq_true rfl⟩ dL_shift_5 (fun E9 hE => ?_) ?_
  · rcases exn2 hE with ⟨rfl, hk⟩ | ⟨rfl, hk⟩
    · refine ⟨[], ⟨0, 10, 13, 13⟩, [⟨0, 10, 17, 15⟩], by rw [ht]; rfl, (fun z hz => nomatch hz), by decide, by decide, E.2.2.2.2.1 _ (by decide +kernel), cst Z cstI, fun q => ?_⟩
      refine g_astore E dL_shift_13 (by decide) ?_
      refine g_iconst E dL_shift_15 ?_
      refine g_wid (k := 3) (n := 18) (Nat.le_of_ble_eq_true rfl) (Nat.le_of_ble_eq_true rfl) ?_
      exact g_iret E ⟨by rw [hk], fun z => absurd (hk.symm.trans z) (by decide), fun _ => by rw [upY_self]⟩ dL_shift_16
    · refine ⟨[⟨0, 10, 13, 13⟩], ⟨0, 10, 17, 15⟩, [], by rw [ht]; rfl, (fun z hz => by rw [List.mem_singleton.mp hz]; exact Or.inr ⟨by decide, xI, E.2.2.2.2.1 _ (by decide +kernel), X.1⟩), by decide, by decide, E.2.2.2.2.1 _ (by decide +kernel), cst Z cstA, fun q => ?_⟩
      refine g_astore E dL_shift_17 (by decide) ?_
      refine g_iconst E dL_shift_19 ?_
      refine g_wid (k := 3) (n := 18) (Nat.le_of_ble_eq_true rfl) (Nat.le_of_ble_eq_true rfl) ?_
      exact g_iret E ⟨by rw [hk], fun z => absurd (hk.symm.trans z) (by decide), fun _ => by rw [upY_self]⟩ dL_shift_20
  · rintro r w' ⟨he, rfl, rfl⟩
    refine g_i2l E dL_shift_8 ?_
    refine g_last E dL_shift_9 (fun g2 hg2 => ?_)
    refine g_goto (tgt := 21) E dL_shift_10 (by decide) ?_
    refine g_iconst E dL_shift_21 ?_
    refine g_wid (k := 3) (n := 18) (Nat.le_of_ble_eq_true rfl) (Nat.le_of_ble_eq_true rfl) ?_
    exact g_iret E ⟨by rw [he], fun _ => ⟨upY σ 0 (shN (σ 0) p9.toNat m9.toNat (shM (σ 0) p9.toNat m9.toNat).toNat), g2, upY_s, by rw [upY_n (by decide)]; exact (shift_g hI he).tr hT, hg2, rfl⟩, fun z => absurd he z⟩ dL_shift_22

set_option maxHeartbeats 800000 in
set_option maxRecDepth 100000 in
/-- the law: chase, or the number of what it throws -/
theorem l_chase (l : Launch) (hl0 : l.stackTraces = false) (D : va_G) (cA : Nat → ClassId) (A : Nat → Prop) (ad : Ad) (σ : Nat → St) (o : Nat) (g : Nat → Int64) (hI : Inv (σ 0)) (hT : TrI (σ 0) (σ 1)) (p9 : Int) (h0 : R31 p9) : Met l yL_chase wsL_chase ({ frames := 8, cells := 3, slots := 18, locals := 130 }) (PcL D (tysX cA) A (wX cA ad σ ++ oW cA o g) [.ref (ad 0 8 0), .int (zI p9), .ref o]) (va_Qi (wP cA ad σ o g (eC (σ 0) p9) (zI (on (σ 0) p9.toNat)) ((up3 (σ 0) 3 p9.toNat 1 (zI (-1))))) (gB D A) A) 3 18 A := by
  refine g_metL (cc := cL_chase) (maxL := 4) (ret := (some .int)) (own := RL) (hh := [(0, 9, 12, 13)]) rfl (by decide) rfl (Nat.le_of_ble_eq_true rfl) ?_
  intro p e s m below meth c E Z X ht
  refine g_loc (lv' := [(0, .ref (ad 0 8 0)), (1, .int (zI p9)), (2, .ref o)]) ⟨rfl, rfl, rfl, trivial⟩ ?_
  refine g_st (ws' := wX cA ad (upY σ 0 (σ 0)) ++ oW cA o g) (by rw [upY_self]) rfl rfl ?_
  refine g_aload_n E dL_chase_0 rfl ?_
  refine g_iconst E dL_chase_1 ?_
  refine g_aload_n E dL_chase_2 rfl ?_
  refine g_iload_n E dL_chase_3 rfl ?_
  refine g_tryV (T := TX4) (ci := 4) (n := 1) (As := [_]) (rest := _) E Z (c_X4_chase l hl0 D cA _ ad σ (σ 0) hI p9 h0) gL_chase_X4_chase rfl ⟨rfl, rfl⟩ (by decide +kernel) ⟨Nat.le_of_ble_eq_true rfl, Nat.le_of_ble_eq_true rfl⟩ (ob_8 mem_8) rfl rfl rfl (Nat.le_of_ble_eq_true rfl) ⟨Nat.le_of_ble_eq_true rfl, Nat.le_of_ble_eq_true rfl⟩ dL_chase_4 (fun E9 hE => ?_) ?_
  · obtain ⟨rfl, hk⟩ := exn1 hE
    refine ⟨[], ⟨0, 9, 12, 13⟩, [], by rw [ht]; rfl, (fun z hz => nomatch hz), by decide, by decide, E.2.2.2.2.1 _ (by decide +kernel), cst Z cstI, fun q => ?_⟩
    refine g_astore_n E dL_chase_12 (by decide) ?_
    refine g_iconst E dL_chase_13 ?_
    refine g_wid (k := 3) (n := 18) (Nat.le_of_ble_eq_true rfl) (Nat.le_of_ble_eq_true rfl) ?_
    exact g_iret E ⟨by rw [hk], fun z => absurd (hk.symm.trans z) (by decide), fun _ => by rw [upY_self]⟩ dL_chase_14
  · rintro r w' ⟨he, rfl, rfl⟩
    refine g_i2l E dL_chase_7 ?_
    refine g_last E dL_chase_8 (fun g2 hg2 => ?_)
    refine g_goto (tgt := 15) E dL_chase_9 (by decide) ?_
    refine g_iconst E dL_chase_15 ?_
    refine g_wid (k := 3) (n := 18) (Nat.le_of_ble_eq_true rfl) (Nat.le_of_ble_eq_true rfl) ?_
    exact g_iret E ⟨by rw [he], fun _ => ⟨upY σ 0 (up3 (σ 0) 3 p9.toNat 1 (zI (-1))), g2, upY_s, by rw [upY_n (by decide)]; exact (chase_g hI he).tr hT, hg2, rfl⟩, fun z => absurd he z⟩ dL_chase_16

set_option maxHeartbeats 800000 in
set_option maxRecDepth 100000 in
/-- the law: about, or the number of what it throws -/
theorem l_about (l : Launch) (hl0 : l.stackTraces = false) (D : va_G) (cA : Nat → ClassId) (A : Nat → Prop) (ad : Ad) (σ : Nat → St) (o : Nat) (g : Nat → Int64) (hI : Inv (σ 0)) (hT : TrI (σ 0) (σ 1)) (p9 w9 : Int) (h0 : R31 p9) (h1 : R31 w9) : Met l yL_about wsL_about ({ frames := 8, cells := 3, slots := 18, locals := 130 }) (PcL D (tysX cA) A (wX cA ad σ ++ oW cA o g) [.ref (ad 0 8 0), .int (zI p9), .int (zI w9), .ref o]) (va_Qi (wP cA ad σ o g (eAbout (σ 0) p9 w9) (abV (σ 0) p9.toNat w9) ((σ 0))) (gB D A) A) 3 18 A := by
  refine g_metL (cc := cL_about) (maxL := 5) (ret := (some .int)) (own := RL) (hh := [(0, 10, 13, 13)]) rfl (by decide) rfl (Nat.le_of_ble_eq_true rfl) ?_
  intro p e s m below meth c E Z X ht
  refine g_loc (lv' := [(0, .ref (ad 0 8 0)), (1, .int (zI p9)), (2, .int (zI w9)), (3, .ref o)]) ⟨rfl, rfl, rfl, rfl, trivial⟩ ?_
  refine g_st (ws' := wX cA ad (upY σ 0 (σ 0)) ++ oW cA o g) (by rw [upY_self]) rfl rfl ?_
  refine g_aload_n E dL_about_0 rfl ?_
  refine g_iconst E dL_about_1 ?_
  refine g_aload_n E dL_about_2 rfl ?_
  refine g_iload_n E dL_about_3 rfl ?_
  refine g_iload_n E dL_about_4 rfl ?_
  refine g_tryV (T := TX4) (ci := 4) (n := 2) (As := [_, _]) (rest := _) E Z (c_X4_about l hl0 D cA _ ad σ (σ 0) hI p9 w9 h0 h1) gL_about_X4_about rfl ⟨rfl, rfl⟩ (by decide +kernel) ⟨Nat.le_of_ble_eq_true rfl, Nat.le_of_ble_eq_true rfl⟩ (ob_8 mem_8) rfl rfl rfl (Nat.le_of_ble_eq_true rfl) ⟨Nat.le_of_ble_eq_true rfl, Nat.le_of_ble_eq_true rfl⟩ dL_about_5 (fun E9 hE => ?_) ?_
  · obtain ⟨rfl, hk⟩ := exn1 hE
    refine ⟨[], ⟨0, 10, 13, 13⟩, [], by rw [ht]; rfl, (fun z hz => nomatch hz), by decide, by decide, E.2.2.2.2.1 _ (by decide +kernel), cst Z cstI, fun q => ?_⟩
    refine g_astore E dL_about_13 (by decide) ?_
    refine g_iconst E dL_about_15 ?_
    refine g_wid (k := 3) (n := 18) (Nat.le_of_ble_eq_true rfl) (Nat.le_of_ble_eq_true rfl) ?_
    exact g_iret E ⟨by rw [hk], fun z => absurd (hk.symm.trans z) (by decide), fun _ => by rw [upY_self]⟩ dL_about_16
  · rintro r w' ⟨he, rfl, rfl⟩
    refine g_i2l E dL_about_8 ?_
    refine g_last E dL_about_9 (fun g2 hg2 => ?_)
    refine g_goto (tgt := 17) E dL_about_10 (by decide) ?_
    refine g_iconst E dL_about_17 ?_
    refine g_wid (k := 3) (n := 18) (Nat.le_of_ble_eq_true rfl) (Nat.le_of_ble_eq_true rfl) ?_
    exact g_iret E ⟨by rw [he], fun _ => ⟨upY σ 0 (σ 0), g2, upY_s, by rw [upY_n (by decide)]; exact hT, hg2, rfl⟩, fun z => absurd he z⟩ dL_about_18
