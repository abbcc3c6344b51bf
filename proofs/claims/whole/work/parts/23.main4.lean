/-! ===== MAIN: copies, pyramids, what would be ===== -/
def sdA (m : Int) : Nat → Int → Int
  | 0, k => k
  | n + 1, k => if sq k < m then sdA m n (k + 1) else k
def sideV (m : Int) : Int := sdA m 19 1
theorem sdA_s {m k : Int} {n : Nat} (h : 0 < n) : sdA m n k = if sq k < m then sdA m (n - 1) (k + 1) else k := by
  obtain ⟨j, rfl⟩ : ∃ j, n = j + 1 := ⟨n - 1, by omega⟩
  rfl
theorem sq_b2 : ∀ n : Nat, n ≤ 20 → 0 ≤ sq n ∧ sq n ≤ 2870 := by decide +kernel
theorem unA_s {a : St} {p n d : Nat} (h : 0 < n) : unA a p n d = if 0 < rustyN (passL a d).1 p ((passL a d).1 0 0 4) (bl (passL a d).1 p).toNat then (d : Int) else unA a p (n - 1) (d + 1) := by
  obtain ⟨j, rfl⟩ : ∃ j, n = j + 1 := ⟨n - 1, by omega⟩
  rfl
/-- the pile that had best be inspected, its rusty balls, its balls -/
def adL (a : St) : Nat → (Int × Int) × Int
  | 0 => ((-1, 0), 0)
  | n + 1 => if (adL a n).1.2 < rustyN a n (a 0 0 4) (bl a n).toNat ∨ (0 < rustyN a n (a 0 0 4) (bl a n).toNat ∧ rustyN a n (a 0 0 4) (bl a n).toNat = (adL a n).1.2 ∧ bl a n < (adL a n).2) then (((n : Int), rustyN a n (a 0 0 4) (bl a n).toNat), bl a n) else adL a n
theorem ad_t {a : St} {n : Nat} (h : (adL a n).1.2 < rustyN a n (a 0 0 4) (bl a n).toNat ∨ (0 < rustyN a n (a 0 0 4) (bl a n).toNat ∧ rustyN a n (a 0 0 4) (bl a n).toNat = (adL a n).1.2 ∧ bl a n < (adL a n).2)) : adL a (n + 1) = (((n : Int), rustyN a n (a 0 0 4) (bl a n).toNat), bl a n) := if_pos h
theorem ad_f {a : St} {n : Nat} (h : ¬ ((adL a n).1.2 < rustyN a n (a 0 0 4) (bl a n).toNat ∨ (0 < rustyN a n (a 0 0 4) (bl a n).toNat ∧ rustyN a n (a 0 0 4) (bl a n).toNat = (adL a n).1.2 ∧ bl a n < (adL a n).2))) : adL a (n + 1) = adL a n := if_neg h
theorem adL_b {a : St} (h : Inv a) : ∀ n : Nat, (n : Int) ≤ np a → (-1 ≤ (adL a n).1.1 ∧ (adL a n).1.1 < n) ∧ (0 ≤ (adL a n).1.2 ∧ (adL a n).1.2 ≤ 91) ∧ (0 ≤ (adL a n).2 ∧ (adL a n).2 ≤ 91) ∧ (0 < (adL a n).1.2 → 0 ≤ (adL a n).1.1 ∧ (adL a n).2 = bl a (adL a n).1.1.toNat)
  | 0, _ => ⟨⟨(by decide : (-1 : Int) ≤ -1), (by decide : (-1 : Int) < 0)⟩, ⟨(by decide : (0 : Int) ≤ 0), (by decide : (0 : Int) ≤ 91)⟩, ⟨(by decide : (0 : Int) ≤ 0), (by decide : (0 : Int) ≤ 91)⟩, fun q => absurd q (by decide : ¬ (0 : Int) < 0)⟩
  | n + 1, hn => by
    have ih := adL_b h n (by omega)
    have hP := (h.2.1 n (by omega)).1
    unfold PO at hP
    have hs := sq_le (e := sd a n) ⟨hP.1, hP.2.1⟩
    have hr := rusty_b a n (a 0 0 4) (bl a n).toNat
    by_cases hc : (adL a n).1.2 < rustyN a n (a 0 0 4) (bl a n).toNat ∨ (0 < rustyN a n (a 0 0 4) (bl a n).toNat ∧ rustyN a n (a 0 0 4) (bl a n).toNat = (adL a n).1.2 ∧ bl a n < (adL a n).2)
    · rw [ad_t hc]
      exact ⟨⟨by show -1 ≤ (n : Int); omega, by show (n : Int) < _; omega⟩, ⟨by show 0 ≤ rustyN _ _ _ _; omega, by show rustyN _ _ _ _ ≤ 91; omega⟩, ⟨by show 0 ≤ bl _ _; omega, by show bl _ _ ≤ 91; omega⟩, fun _ => ⟨by show 0 ≤ (n : Int); omega, rfl⟩⟩
    · rw [ad_f hc]
      exact ⟨⟨ih.1.1, by have := ih.1.2; omega⟩, ih.2⟩
set_option maxHeartbeats 800000 in
set_option maxRecDepth 100000 in
/-- Pile.copyFrom(other): from the yard to the trial -/
theorem c_X1_copyFrom (l : Launch) (D : va_G) (cA : Nat → ClassId) (A : Nat → Prop) (ad : Ad) (σ : Nat → St) (b : St) (p9 : Nat) (hp : p9 < 6) (hs : 1 ≤ sd (σ 0) p9 ∧ sd (σ 0) p9 ≤ 6) : Met l yX1_copyFrom wsX1_copyFrom ({ frames := 1, cells := 0, slots := 0, locals := 60 }) (PcG D (tysX cA) A (wX cA ad (upY σ 1 (b))) [.ref (ad 1 1 p9), .ref (ad 0 1 p9)]) (va_Qv (fun ws' => ws' = wX cA ad (upY σ 1 (cpP (σ 0) b p9))) (gB D A) A) 0 0 A := by
  refine g_met (cc := cX1_copyFrom) (maxL := 2) (ret := none) (own := RX1) rfl (by decide) rfl (Nat.le_of_ble_eq_true rfl) ?_
  intro p e s m below meth c E
  have hin1 : ∀ w ∈ u_ws RX1 TX1 4, w ∈ wsX1_copyFrom := by decide +kernel
  have hy0 : ∀ b : St, upY σ 1 b 0 = σ 0 := fun b => upY_n (by decide)
  obtain ⟨hn1, hn7, hpy⟩ := pyN_c (a := σ 0) (p := p9) hs
  refine g_loc (lv' := [(0, .ref (ad 1 1 p9)), (1, .ref (ad 0 1 p9))]) ⟨rfl, rfl, trivial⟩ ?_
  refine g_aload_n E dX1_copyFrom_0 rfl ?_
  refine g_aload_n E dX1_copyFrom_1 rfl ?_
  refine gx_Pile_calibre E (mem_1 _ (by omega) _ (by omega)) hin1 (by decide +kernel) dX1_copyFrom_2 ?_
  rw [hy0]
  refine px_Pile_calibre' E (mem_1 _ (by omega) _ (by omega)) hin1 (by decide +kernel) dX1_copyFrom_5 ?_
  refine g_aload_n E dX1_copyFrom_8 rfl ?_
  refine g_aload_n E dX1_copyFrom_9 rfl ?_
  refine gx_Pile_pyramid E (mem_1 _ (by omega) _ (by omega)) hin1 (by decide +kernel) dX1_copyFrom_10 ?_
  rw [hy0]
  refine px_Pile_pyramid' E (by omega) (mem_1 _ (by omega) _ (by omega)) hin1 (by decide +kernel) dX1_copyFrom_13 ?_
  refine g_aload_n E dX1_copyFrom_16 rfl ?_
  refine g_aload_n E dX1_copyFrom_17 rfl ?_
  refine gx_Pile_balls E (mem_1 _ (by omega) _ (by omega)) hin1 (by decide +kernel) dX1_copyFrom_18 ?_
  rw [hy0]
  refine px_Pile_balls' E (mem_1 _ (by omega) _ (by omega)) hin1 (by decide +kernel) dX1_copyFrom_21 ?_
  refine g_aload_n E dX1_copyFrom_24 rfl ?_
  refine gx_Pile_rust E (mem_1 _ (by omega) _ (by omega)) hin1 (by decide +kernel) dX1_copyFrom_25 ?_
  refine g_iconst E dX1_copyFrom_28 ?_
  refine g_aload_n E dX1_copyFrom_29 rfl ?_
  refine gx_Pile_rust' E (mem_1 _ (by omega) _ (by omega)) hin1 (by decide +kernel) dX1_copyFrom_30 ?_
  refine g_iconst E dX1_copyFrom_33 ?_
  refine g_bipush E dX1_copyFrom_34 (by decide) ?_
  refine g_copy (y0 := 0) (y1 := 1) (t := 2) (n := 91) E (mem_2 _ (by omega) _ (by omega)) (mem_2 _ (by omega) _ (by omega)) (fun _ _ => rfl) (by decide) (by decide +kernel) (by decide +kernel) (by decide +kernel) (by decide +kernel) (Nat.le_of_ble_eq_true rfl) (by decide +kernel) dX1_copyFrom_36 ?_
  rw [upY_upY, upY_s, hy0]
  exact g_vret E (rfl) dX1_copyFrom_39
set_option maxHeartbeats 800000 in
set_option maxRecDepth 100000 in
/-- Cat.copyFrom(other) -/
theorem c_X0_copyFrom (l : Launch) (D : va_G) (cA : Nat → ClassId) (A : Nat → Prop) (ad : Ad) (σ : Nat → St) (b : St) (c9 : Nat) (hc : c9 < 3) : Met l yX0_copyFrom wsX0_copyFrom ({ frames := 0, cells := 0, slots := 0, locals := 0 }) (PcG D (tysX cA) A (wX cA ad (upY σ 1 (b))) [.ref (ad 1 3 c9), .ref (ad 0 3 c9)]) (va_Qv (fun ws' => ws' = wX cA ad (upY σ 1 (cpC (σ 0) b c9))) (gB D A) A) 0 0 A := by
  refine g_met (cc := cX0_copyFrom) (maxL := 2) (ret := none) (own := RX0) rfl (by decide) rfl (Nat.le_of_ble_eq_true rfl) ?_
  intro p e s m below meth c E
  have hin0 : ∀ w ∈ u_ws RX0 TX0 3, w ∈ wsX0_copyFrom := by decide +kernel
  have hy0 : ∀ b : St, upY σ 1 b 0 = σ 0 := fun b => upY_n (by decide)
  refine g_loc (lv' := [(0, .ref (ad 1 3 c9)), (1, .ref (ad 0 3 c9))]) ⟨rfl, rfl, trivial⟩ ?_
  refine g_aload_n E dX0_copyFrom_0 rfl ?_
  refine g_aload_n E dX0_copyFrom_1 rfl ?_
  refine gx_Cat_leap E (mem_3 _ (by omega) _ (by omega)) hin0 (by decide +kernel) dX0_copyFrom_2 ?_
  rw [hy0]
  refine px_Cat_leap' E (mem_3 _ (by omega) _ (by omega)) hin0 (by decide +kernel) dX0_copyFrom_5 ?_
  refine g_aload_n E dX0_copyFrom_8 rfl ?_
  refine g_aload_n E dX0_copyFrom_9 rfl ?_
  refine gx_Cat_on E (mem_3 _ (by omega) _ (by omega)) hin0 (by decide +kernel) dX0_copyFrom_10 ?_
  rw [hy0]
  refine px_Cat_on' E (mem_3 _ (by omega) _ (by omega)) hin0 (by decide +kernel) dX0_copyFrom_13 ?_
  refine g_aload_n E dX0_copyFrom_16 rfl ?_
  refine g_aload_n E dX0_copyFrom_17 rfl ?_
  refine gx_Cat_rolledOff E (mem_3 _ (by omega) _ (by omega)) hin0 (by decide +kernel) dX0_copyFrom_18 ?_
  rw [hy0]
  refine px_Cat_rolledOff' E (mem_3 _ (by omega) _ (by omega)) hin0 (by decide +kernel) dX0_copyFrom_21 ?_
  exact g_vret E (rfl) dX0_copyFrom_24
set_option maxHeartbeats 800000 in
set_option maxRecDepth 100000 in
/-- Tally.copyFrom(other): from the yard to the trial -/
theorem c_X6_copyFrom (l : Launch) (D : va_G) (cA : Nat → ClassId) (A : Nat → Prop) (ad : Ad) (σ : Nat → St) (b : St) : Met l yX6_copyFrom wsX6_copyFrom ({ frames := 1, cells := 0, slots := 0, locals := 60 }) (PcG D (tysX cA) A (wX cA ad (upY σ 1 (b))) [.ref (ad 1 15 0), .ref (ad 0 15 0)]) (va_Qv (fun ws' => ws' = wX cA ad (upY σ 1 (upR b 4 0 (va_cpy (σ 0 4 0) (b 4 0) 0 0 5)))) (gB D A) A) 0 0 A := by
  refine g_met (cc := cX6_copyFrom) (maxL := 2) (ret := none) (own := RX6) rfl (by decide) rfl (Nat.le_of_ble_eq_true rfl) ?_
  intro p e s m below meth c E
  have hin6 : ∀ w ∈ u_ws RX6 TX6 1, w ∈ wsX6_copyFrom := by decide +kernel
  have hy0 : ∀ b : St, upY σ 1 b 0 = σ 0 := fun b => upY_n (by decide)
  refine g_loc (lv' := [(0, .ref (ad 1 15 0)), (1, .ref (ad 0 15 0))]) ⟨rfl, rfl, trivial⟩ ?_
  refine g_aload_n E dX6_copyFrom_0 rfl ?_
  refine gx_Tal_balls E (TY_4 _ (by omega)) hin6 (by decide +kernel) dX6_copyFrom_1 ?_
  refine g_top (v' := .ref (ad 0 4 0)) rfl ?_
  refine g_iconst E dX6_copyFrom_4 ?_
  refine g_aload_n E dX6_copyFrom_5 rfl ?_
  refine gx_Tal_balls E (TY_4 _ (by omega)) hin6 (by decide +kernel) dX6_copyFrom_6 ?_
  refine g_top (v' := .ref (ad 1 4 0)) rfl ?_
  refine g_iconst E dX6_copyFrom_9 ?_
  refine g_iconst E dX6_copyFrom_10 ?_
  refine g_copy (y0 := 0) (y1 := 1) (t := 4) (n := 5) E (mem_4 _ (by omega)) (mem_4 _ (by omega)) (fun _ _ => rfl) (by decide) (by decide +kernel) (by decide +kernel) (by decide +kernel) (by decide +kernel) (Nat.le_of_ble_eq_true rfl) (by decide +kernel) dX6_copyFrom_11 ?_
  rw [upY_upY, upY_s, hy0]
  exact g_vret E (rfl) dX6_copyFrom_14
set_option maxHeartbeats 800000 in
set_option maxRecDepth 100000 in
/-- Yard.copyFrom(other) -/
theorem c_X3_copyFrom (l : Launch) (D : va_G) (cA : Nat → ClassId) (A : Nat → Prop) (ad : Ad) (σ : Nat → St) (b : St) (hI : Inv (σ 0)) (hT : TrI (σ 0) b) : Met l yX3_copyFrom wsX3_copyFrom ({ frames := 2, cells := 0, slots := 0, locals := 81 }) (PcG D (tysX cA) A (wX cA ad (upY σ 1 (b))) [.ref (ad 1 0 0), .ref (ad 0 0 0)]) (va_Qv (fun ws' => ws' = wX cA ad (upY σ 1 (σ 0))) (gB D A) A) 0 0 A := by
  refine g_met (cc := cX3_copyFrom) (maxL := 3) (ret := none) (own := RX3) rfl (by decide) rfl (Nat.le_of_ble_eq_true rfl) ?_
  intro p e s m below meth c E
  have hin1 : ∀ w ∈ u_ws RX1 TX1 4, w ∈ wsX3_copyFrom := by decide +kernel
  have hin3 : ∀ w ∈ u_ws RX3 TX3 8, w ∈ wsX3_copyFrom := by decide +kernel
  have hy0 : ∀ b : St, upY σ 1 b 0 = σ 0 := fun b => upY_n (by decide)
  obtain ⟨⟨hn0, hn6, hc0, hc3⟩, hPI, hCI, hFr⟩ := id hI
  refine g_loc (lv' := [(0, .ref (ad 1 0 0)), (1, .ref (ad 0 0 0))]) ⟨rfl, rfl, trivial⟩ ?_
  refine g_aload_n E dX3_copyFrom_0 rfl ?_
  refine g_aload_n E dX3_copyFrom_1 rfl ?_
  refine gx_Yard_pileCount E (mem_y _ (by omega)) hin3 (by decide +kernel) dX3_copyFrom_2 ?_
  rw [hy0]
  refine px_Yard_pileCount' E (mem_y _ (by omega)) hin3 (by decide +kernel) dX3_copyFrom_5 ?_
  refine g_iconst E dX3_copyFrom_8 ?_
  refine g_istore_n E dX3_copyFrom_9 (by decide) ?_
  have key_kk : ∀ (n_kk kk : Nat), (kk : Int) ≤ np (σ 0) → np (σ 0) + 1 ≤ (kk : Int) + n_kk → GW p l e (headSpec wsX3_copyFrom ({ frames := 2, cells := 0, slots := 0, locals := 81 })).room s m ([.ref (ad 1 0 0), .ref (ad 0 0 0)] : List Value).toArray below meth c (MQ below (va_Qv (fun ws' => ws' = wX cA ad (upY σ 1 (σ 0))) (gB D A) A) ([.ref (ad 1 0 0), .ref (ad 0 0 0)] : List Value).toArray s 0 0 A) D A 3 (wX cA ad (upY σ 1 (cpPs (σ 0) b kk))) 0 0 10 [(0, .ref (ad 1 0 0)), (1, .ref (ad 0 0 0)), (2, .int (zI (kk : Int)))] [] := by
    intro n_kk
    induction n_kk with
    | zero => intro kk h1 h2; exact absurd h2 (by omega)
    | succ n_kk ih_kk =>
      intro kk hle_kk hfu_kk
      have hnk : np (cpPs (σ 0) b kk) = np (σ 0) := congrArg Int32.toInt (cpPs_np kk)
      refine g_iload_n E dX3_copyFrom_10 rfl ?_
      refine g_aload_n E dX3_copyFrom_11 rfl ?_
      refine gx_Yard_pileCount' E (mem_y _ (by omega)) hin3 (by decide +kernel) dX3_copyFrom_12 ?_
      refine g_icmp_ge (tgt := 39) E dX3_copyFrom_15 (by decide) (by omega) (by omega) (fun c_15 => ?_) (fun c_15 => ?_)
      · obtain rfl : kk = (np (σ 0)).toNat := by omega
        refine g_aload_n E dX3_copyFrom_39 rfl ?_
        refine g_aload_n E dX3_copyFrom_40 rfl ?_
        refine gx_Yard_catCount E (mem_y _ (by omega)) hin3 (by decide +kernel) dX3_copyFrom_41 ?_
        rw [hy0]
        refine px_Yard_catCount' E (mem_y _ (by omega)) hin3 (by decide +kernel) dX3_copyFrom_44 ?_
        refine g_iconst E dX3_copyFrom_47 ?_
        refine g_istore_n E dX3_copyFrom_48 (by decide) ?_
        have key_cc9 : ∀ (n_cc9 cc9 : Nat), (cc9 : Int) ≤ nc (σ 0) → nc (σ 0) + 1 ≤ (cc9 : Int) + n_cc9 → GW p l e (headSpec wsX3_copyFrom ({ frames := 2, cells := 0, slots := 0, locals := 81 })).room s m ([.ref (ad 1 0 0), .ref (ad 0 0 0)] : List Value).toArray below meth c (MQ below (va_Qv (fun ws' => ws' = wX cA ad (upY σ 1 (σ 0))) (gB D A) A) ([.ref (ad 1 0 0), .ref (ad 0 0 0)] : List Value).toArray s 0 0 A) D A 3 (wX cA ad (upY σ 1 (cpCs (σ 0) b cc9))) 0 0 49 [(0, .ref (ad 1 0 0)), (1, .ref (ad 0 0 0)), (2, .int (zI (cc9 : Int)))] [] := by
          intro n_cc9
          induction n_cc9 with
          | zero => intro cc9 h1 h2; exact absurd h2 (by omega)
          | succ n_cc9 ih_cc9 =>
            intro cc9 hle_cc9 hfu_cc9
            have hck : nc (cpCs (σ 0) b cc9) = nc (σ 0) := congrArg Int32.toInt (cpCs_nc cc9)
            refine g_iload_n E dX3_copyFrom_49 rfl ?_
            refine g_aload_n E dX3_copyFrom_50 rfl ?_
            refine gx_Yard_catCount' E (mem_y _ (by omega)) hin3 (by decide +kernel) dX3_copyFrom_51 ?_
            refine g_icmp_ge (tgt := 78) E dX3_copyFrom_54 (by decide) (by omega) (by omega) (fun c_54 => ?_) (fun c_54 => ?_)
            · obtain rfl : cc9 = (nc (σ 0)).toNat := by omega
              refine g_aload_n E dX3_copyFrom_78 rfl ?_
              refine gx_Yard_loose' E (mem_y _ (by omega)) hin3 (by decide +kernel) dX3_copyFrom_79 ?_
              refine g_aload_n E dX3_copyFrom_82 rfl ?_
              refine gx_Yard_loose E (mem_y _ (by omega)) hin3 (by decide +kernel) dX3_copyFrom_83 ?_
              refine g_callVv (T := TX6) (ci := 6) (n := 1) (As := [_]) (rest := _) E (c_X6_copyFrom l D cA A ad _ _) gX3_copyFrom_X6_copyFrom rfl ⟨rfl, rfl⟩ (by decide +kernel) ⟨Nat.le_of_ble_eq_true rfl, Nat.le_of_ble_eq_true rfl⟩ (ob_T (TY_4 _ (by omega))) rfl rfl rfl (Nat.le_of_ble_eq_true rfl) ⟨Nat.le_of_ble_eq_true rfl, Nat.le_of_ble_eq_true rfl⟩ dX3_copyFrom_86 ?_
              rintro ws_86 rfl
              refine g_aload_n E dX3_copyFrom_89 rfl ?_
              refine g_aload_n E dX3_copyFrom_90 rfl ?_
              refine gx_Yard_day E (mem_y _ (by omega)) hin3 (by decide +kernel) dX3_copyFrom_91 ?_
              rw [hy0]
              refine px_Yard_day' E (mem_y _ (by omega)) hin3 (by decide +kernel) dX3_copyFrom_94 ?_
              refine g_aload_n E dX3_copyFrom_97 rfl ?_
              refine g_aload_n E dX3_copyFrom_98 rfl ?_
              refine gx_Yard_rain E (mem_y _ (by omega)) hin3 (by decide +kernel) dX3_copyFrom_99 ?_
              rw [hy0]
              refine px_Yard_rain' E (mem_y _ (by omega)) hin3 (by decide +kernel) dX3_copyFrom_102 ?_
              refine g_aload_n E dX3_copyFrom_105 rfl ?_
              refine g_aload_n E dX3_copyFrom_106 rfl ?_
              refine gx_Yard_limit E (mem_y _ (by omega)) hin3 (by decide +kernel) dX3_copyFrom_107 ?_
              rw [hy0]
              refine px_Yard_limit' E (mem_y _ (by omega)) hin3 (by decide +kernel) dX3_copyFrom_110 ?_
              refine g_ext (cpY_vis hI hT) ?_
              exact g_vret E (rfl) dX3_copyFrom_113
            · refine g_aload_n E dX3_copyFrom_57 rfl ?_
              refine gx_Yard_cats' E (mem_y _ (by omega)) hin3 (by decide +kernel) dX3_copyFrom_58 ?_
              refine g_iload_n E dX3_copyFrom_61 rfl ?_
              refine lx_11' E (mem_11 _ (by omega)) (by omega) dX3_copyFrom_62 ?_
              refine g_top (v' := .ref (ad 1 3 cc9)) rfl ?_
              refine g_aload_n E dX3_copyFrom_63 rfl ?_
              refine gx_Yard_cats E (mem_y _ (by omega)) hin3 (by decide +kernel) dX3_copyFrom_64 ?_
              refine g_iload_n E dX3_copyFrom_67 rfl ?_
              refine lx_11 E (mem_11 _ (by omega)) (by omega) dX3_copyFrom_68 ?_
              refine g_top (v' := .ref (ad 0 3 cc9)) rfl ?_
              refine g_callVv (T := TX0) (ci := 0) (n := 1) (As := [_]) (rest := _) E (c_X0_copyFrom l D cA A ad σ (cpCs (σ 0) b cc9) cc9 (by omega)) gX3_copyFrom_X0_copyFrom rfl ⟨rfl, rfl⟩ (by decide +kernel) ⟨Nat.le_of_ble_eq_true rfl, Nat.le_of_ble_eq_true rfl⟩ (ob_3 (mem_3 _ (by omega) _ (by omega))) rfl rfl rfl (Nat.le_of_ble_eq_true rfl) ⟨Nat.le_of_ble_eq_true rfl, Nat.le_of_ble_eq_true rfl⟩ dX3_copyFrom_69 ?_
              rintro ws_69 rfl
              refine g_iinc E dX3_copyFrom_72 rfl (by decide) ?_
              refine g_goto (tgt := 49) E dX3_copyFrom_75 (by decide) ?_
              refine g_st (ws' := wX cA ad (upY σ 1 (cpCs (σ 0) b (cc9 + 1)))) (rfl) rfl rfl ?_
              refine g_loc (lv' := [(0, .ref (ad 1 0 0)), (1, .ref (ad 0 0 0)), (2, .int (zI ((cc9 + 1) : Int)))]) ⟨rfl, rfl, rfl, trivial⟩ ?_
              exact ih_cc9 (cc9 + 1) (by omega) (by omega)
        refine g_st (ws' := wX cA ad (upY σ 1 (cpCs (σ 0) b 0))) (rfl) rfl rfl ?_
        refine g_loc (lv' := [(0, .ref (ad 1 0 0)), (1, .ref (ad 0 0 0)), (2, .int (zI (0 : Int)))]) ⟨rfl, rfl, rfl, trivial⟩ ?_
        exact key_cc9 ((nc (σ 0)) + 1).toNat.succ 0 (by omega) (by omega)
      · refine g_aload_n E dX3_copyFrom_18 rfl ?_
        refine gx_Yard_piles' E (mem_y _ (by omega)) hin3 (by decide +kernel) dX3_copyFrom_19 ?_
        refine g_iload_n E dX3_copyFrom_22 rfl ?_
        refine lx_10' E (mem_10 _ (by omega)) (by omega) dX3_copyFrom_23 ?_
        refine g_top (v' := .ref (ad 1 1 kk)) rfl ?_
        refine g_aload_n E dX3_copyFrom_24 rfl ?_
        refine gx_Yard_piles E (mem_y _ (by omega)) hin3 (by decide +kernel) dX3_copyFrom_25 ?_
        refine g_iload_n E dX3_copyFrom_28 rfl ?_
        refine lx_10 E (mem_10 _ (by omega)) (by omega) dX3_copyFrom_29 ?_
        refine g_top (v' := .ref (ad 0 1 kk)) rfl ?_
        refine g_callVv (T := TX1) (ci := 1) (n := 1) (As := [_]) (rest := _) E (c_X1_copyFrom l D cA A ad σ (cpPs (σ 0) b kk) kk (by omega) (by have := (hPI kk (by omega)).1; exact ⟨this.1, this.2.1⟩)) gX3_copyFrom_X1_copyFrom rfl ⟨rfl, rfl⟩ (by decide +kernel) ⟨Nat.le_of_ble_eq_true rfl, Nat.le_of_ble_eq_true rfl⟩ (ob_1 (mem_1 _ (by omega) _ (by omega))) rfl rfl rfl (Nat.le_of_ble_eq_true rfl) ⟨Nat.le_of_ble_eq_true rfl, Nat.le_of_ble_eq_true rfl⟩ dX3_copyFrom_30 ?_
        rintro ws_30 rfl
        refine g_iinc E dX3_copyFrom_33 rfl (by decide) ?_
        refine g_goto (tgt := 10) E dX3_copyFrom_36 (by decide) ?_
        refine g_st (ws' := wX cA ad (upY σ 1 (cpPs (σ 0) b (kk + 1)))) (rfl) rfl rfl ?_
        refine g_loc (lv' := [(0, .ref (ad 1 0 0)), (1, .ref (ad 0 0 0)), (2, .int (zI ((kk + 1) : Int)))]) ⟨rfl, rfl, rfl, trivial⟩ ?_
        exact ih_kk (kk + 1) (by omega) (by omega)
  refine g_st (ws' := wX cA ad (upY σ 1 (cpPs (σ 0) b 0))) (rfl) rfl rfl ?_
  refine g_loc (lv' := [(0, .ref (ad 1 0 0)), (1, .ref (ad 0 0 0)), (2, .int (zI (0 : Int)))]) ⟨rfl, rfl, rfl, trivial⟩ ?_
  exact key_kk ((np (σ 0)) + 1).toNat.succ 0 (by omega) (by omega)
set_option maxHeartbeats 800000 in
set_option maxRecDepth 100000 in
/-- room(s) -/
theorem c_X4_room (l : Launch) (hl0 : l.stackTraces = false) (D : va_G) (cA : Nat → ClassId) (A : Nat → Prop) (ad : Ad) (σ : Nat → St) (a : St) (hI : Inv a) (p9 : Int) (hp : R31 p9) : vx_Met l yX4_room wsX4_room ({ frames := 7, cells := 1, slots := 6, locals := 108 }) (PcZ D (tysX cA) A (wX cA ad (upY σ 0 a)) [.ref (ad 0 8 0), .int (zI p9)]) (va_Qi (fun (r : Int32) ws' => eIn 1 20 p9 = 0 ∧ r = zI (sq p9) ∧ ws' = wX cA ad (upY σ 0 a)) (gB D A) A) (XQ D A (fun E9 => exn [xA] E9 (eIn 1 20 p9)) (wX cA ad (upY σ 0 a))) 1 6 A := by
  refine g_metx (cc := cX4_room) (maxL := 2) (ret := (some .int)) (own := RX4) hl0 rfl (by decide) rfl (Nat.le_of_ble_eq_true rfl) ?_
  intro p e s m below meth c E Z
  obtain ⟨⟨hn0, hn6, hc0, hc3⟩, hPI, hCI, hFr⟩ := id hI
  obtain ⟨hp1, hp2⟩ := hp
  refine g_loc (lv' := [(0, .ref (ad 0 8 0)), (1, .int (zI p9))]) ⟨rfl, rfl, trivial⟩ ?_
  refine g_iload_n E dX4_room_0 rfl ?_
  refine g_iconst E dX4_room_1 ?_
  refine g_bipush E dX4_room_2 (by decide) ?_
  refine g_xTv (n := 3) (As := [_, _, _]) (rest := _) E Z (c_X4_checkArgument l hl0 D _ A _ _ _ _ (by omega)) gX4_room_X4_checkArgument rfl ⟨rfl, rfl⟩ (by decide +kernel) ⟨Nat.le_of_ble_eq_true rfl, Nat.le_of_ble_eq_true rfl⟩ rfl rfl (Nat.le_of_ble_eq_true rfl) ⟨Nat.le_of_ble_eq_true rfl, Nat.le_of_ble_eq_true rfl⟩ ⟨Nat.le_of_ble_eq_true rfl, Nat.le_of_ble_eq_true rfl⟩ dX4_room_4 (fun E9 hE => ⟨0, if_pos (hE.2), hE.1 ▸ rfl⟩) ?_
  rintro ws_4 ⟨g_4, rfl⟩
  have nb1 : ¬ ¬ (1 ≤ p9 ∧ p9 ≤ 20) := fun q => q g_4
  refine g_iload_n E dX4_room_7 rfl ?_
  refine g_callTi (n := 1) (As := [_]) (rest := _) E (c_X2_squares l D _ A _ _ (by omega)) gX4_room_X2_squares rfl ⟨rfl, rfl⟩ (by decide +kernel) ⟨Nat.le_of_ble_eq_true rfl, Nat.le_of_ble_eq_true rfl⟩ rfl rfl (Nat.le_of_ble_eq_true rfl) ⟨Nat.le_of_ble_eq_true rfl, Nat.le_of_ble_eq_true rfl⟩ dX4_room_8 ?_
  rintro r_8 ws_8 ⟨rfl, rfl⟩
  refine g_wid (k := 1) (n := 6) (Nat.le_of_ble_eq_true rfl) (Nat.le_of_ble_eq_true rfl) ?_
  refine g_xret ?_
  exact g_iret E (⟨if_neg nb1, rfl, rfl⟩) dX4_room_11
set_option maxHeartbeats 800000 in
set_option maxRecDepth 100000 in
/-- side(m) -/
theorem c_X4_side (l : Launch) (hl0 : l.stackTraces = false) (D : va_G) (cA : Nat → ClassId) (A : Nat → Prop) (ad : Ad) (σ : Nat → St) (a : St) (hI : Inv a) (p9 : Int) (hp : R31 p9) : vx_Met l yX4_side wsX4_side ({ frames := 7, cells := 1, slots := 6, locals := 108 }) (PcZ D (tysX cA) A (wX cA ad (upY σ 0 a)) [.ref (ad 0 8 0), .int (zI p9)]) (va_Qi (fun (r : Int32) ws' => eIn 1 2870 p9 = 0 ∧ r = zI (sideV p9) ∧ ws' = wX cA ad (upY σ 0 a)) (gB D A) A) (XQ D A (fun E9 => exn [xA] E9 (eIn 1 2870 p9)) (wX cA ad (upY σ 0 a))) 1 6 A := by
  refine g_metx (cc := cX4_side) (maxL := 3) (ret := (some .int)) (own := RX4) hl0 rfl (by decide) rfl (Nat.le_of_ble_eq_true rfl) ?_
  intro p e s m below meth c E Z
  obtain ⟨⟨hn0, hn6, hc0, hc3⟩, hPI, hCI, hFr⟩ := id hI
  obtain ⟨hp1, hp2⟩ := hp
  refine g_loc (lv' := [(0, .ref (ad 0 8 0)), (1, .int (zI p9))]) ⟨rfl, rfl, trivial⟩ ?_
  refine g_iload_n E dX4_side_0 rfl ?_
  refine g_iconst E dX4_side_1 ?_
  refine g_sipush E dX4_side_2 (by decide) ?_
  refine g_xTv (n := 3) (As := [_, _, _]) (rest := _) E Z (c_X4_checkArgument l hl0 D _ A _ _ _ _ (by omega)) gX4_side_X4_checkArgument rfl ⟨rfl, rfl⟩ (by decide +kernel) ⟨Nat.le_of_ble_eq_true rfl, Nat.le_of_ble_eq_true rfl⟩ rfl rfl (Nat.le_of_ble_eq_true rfl) ⟨Nat.le_of_ble_eq_true rfl, Nat.le_of_ble_eq_true rfl⟩ ⟨Nat.le_of_ble_eq_true rfl, Nat.le_of_ble_eq_true rfl⟩ dX4_side_5 (fun E9 hE => ⟨0, if_pos (hE.2), hE.1 ▸ rfl⟩) ?_
  rintro ws_5 ⟨g_5, rfl⟩
  have nb1 : ¬ ¬ (1 ≤ p9 ∧ p9 ≤ 2870) := fun q => q g_5
  refine g_iconst E dX4_side_8 ?_
  refine g_istore_n E dX4_side_9 (by decide) ?_
  have key_kk : ∀ (n_kk kk : Nat), (kk : Int) ≤ (20 : Int) → (20 : Int) + 1 ≤ (kk : Int) + n_kk → (sdA p9 (20 - kk) kk = sideV p9) → GW p l e (headSpec wsX4_side ({ frames := 7, cells := 1, slots := 6, locals := 108 })).room s m ([.ref (ad 0 8 0), .int (zI p9)] : List Value).toArray below meth c (vx_MQ below (va_Qi (fun (r : Int32) ws' => eIn 1 2870 p9 = 0 ∧ r = zI (sideV p9) ∧ ws' = wX cA ad (upY σ 0 a)) (gB D A) A) (XQ D A (fun E9 => exn [xA] E9 (eIn 1 2870 p9)) (wX cA ad (upY σ 0 a))) ([.ref (ad 0 8 0), .int (zI p9)] : List Value).toArray s 1 6 A) D A 3 (wX cA ad (upY σ 0 a)) 1 6 10 [(0, .ref (ad 0 8 0)), (1, .int (zI p9)), (2, .int (zI (kk : Int)))] [] := by
    intro n_kk
    induction n_kk with
    | zero => intro kk h1 h2; exact absurd h2 (by omega)
    | succ n_kk ih_kk =>
      intro kk hle_kk hfu_kk hi0_kk
      have hsb := sq_b2 kk (by omega)
      refine g_iload_n E dX4_side_10 rfl ?_
      refine g_bipush E dX4_side_11 (by decide) ?_
      refine g_icmp_ge (tgt := 30) E dX4_side_13 (by decide) (by omega) (by omega) (fun c_13 => ?_) (fun c_13 => ?_)
      · refine g_iload_n E dX4_side_30 rfl ?_
        refine g_wid (k := 1) (n := 6) (Nat.le_of_ble_eq_true rfl) (Nat.le_of_ble_eq_true rfl) ?_
        refine g_xret ?_
        exact g_iret E (⟨if_neg nb1, by rw [← hi0_kk]; first | rw [sdA_s (by omega), if_neg (by omega)] | (rw [show 20 - kk = 0 by omega]; rfl), rfl⟩) dX4_side_31
      · refine g_iload_n E dX4_side_16 rfl ?_
        refine g_callTi (n := 1) (As := [_]) (rest := _) E (c_X2_squares l D _ A _ _ (by omega)) gX4_side_X2_squares rfl ⟨rfl, rfl⟩ (by decide +kernel) ⟨Nat.le_of_ble_eq_true rfl, Nat.le_of_ble_eq_true rfl⟩ rfl rfl (Nat.le_of_ble_eq_true rfl) ⟨Nat.le_of_ble_eq_true rfl, Nat.le_of_ble_eq_true rfl⟩ dX4_side_17 ?_
        rintro r_17 ws_17 ⟨rfl, rfl⟩
        refine g_iload_n E dX4_side_20 rfl ?_
        refine g_icmp_ge (tgt := 30) E dX4_side_21 (by decide) (by omega) (by omega) (fun c_21 => ?_) (fun c_21 => ?_)
        · refine g_iload_n E dX4_side_30 rfl ?_
          refine g_wid (k := 1) (n := 6) (Nat.le_of_ble_eq_true rfl) (Nat.le_of_ble_eq_true rfl) ?_
          refine g_xret ?_
          exact g_iret E (⟨if_neg nb1, by rw [← hi0_kk]; first | rw [sdA_s (by omega), if_neg (by omega)] | (rw [show 20 - kk = 0 by omega]; rfl), rfl⟩) dX4_side_31
        · refine g_iinc E dX4_side_24 rfl (by decide) ?_
          refine g_goto (tgt := 10) E dX4_side_27 (by decide) ?_
          refine g_loc (lv' := [(0, .ref (ad 0 8 0)), (1, .int (zI p9)), (2, .int (zI ((kk + 1) : Int)))]) ⟨rfl, rfl, rfl, trivial⟩ ?_
          exact ih_kk (kk + 1) (by omega) (by omega) (by rw [← hi0_kk, sdA_s (by omega) (n := 20 - kk), if_pos (by omega)]; rfl)
  refine g_loc (lv' := [(0, .ref (ad 0 8 0)), (1, .int (zI p9)), (2, .int (zI (1 : Int)))]) ⟨rfl, rfl, rfl, trivial⟩ ?_
  exact key_kk (((20 : Int)) + 1).toNat.succ 1 (by omega) (by omega) (rfl)
set_option maxHeartbeats 800000 in
set_option maxRecDepth 100000 in
/-- pass(d) -/
theorem c_X4_pass (l : Launch) (hl0 : l.stackTraces = false) (D : va_G) (cA : Nat → ClassId) (A : Nat → Prop) (ad : Ad) (σ : Nat → St) (a : St) (hI : Inv a) (p9 : Int) (hp : R31 p9) : vx_Met l yX4_pass wsX4_pass ({ frames := 7, cells := 1, slots := 6, locals := 110 }) (PcZ D (tysX cA) A (wX cA ad (upY σ 0 a)) [.ref (ad 0 8 0), .int (zI p9)]) (va_Qi (fun (r : Int32) ws' => eIn 1 60 p9 = 0 ∧ r = zI (passL a p9.toNat).2 ∧ ws' = wX cA ad (upY σ 0 ((passL a p9.toNat).1))) (gB D A) A) (XQ D A (fun E9 => exn [xA] E9 (eIn 1 60 p9)) (wX cA ad (upY σ 0 a))) 1 6 A := by
  refine g_metx (cc := cX4_pass) (maxL := 2) (ret := (some .int)) (own := RX4) hl0 rfl (by decide) rfl (Nat.le_of_ble_eq_true rfl) ?_
  intro p e s m below meth c E Z
  have hin4 : ∀ w ∈ u_ws RX4 TX4 6, w ∈ wsX4_pass := by decide +kernel
  obtain ⟨⟨hn0, hn6, hc0, hc3⟩, hPI, hCI, hFr⟩ := id hI
  obtain ⟨hp1, hp2⟩ := hp
  refine g_loc (lv' := [(0, .ref (ad 0 8 0)), (1, .int (zI p9))]) ⟨rfl, rfl, trivial⟩ ?_
  refine g_iload_n E dX4_pass_0 rfl ?_
  refine g_iconst E dX4_pass_1 ?_
  refine g_bipush E dX4_pass_2 (by decide) ?_
  refine g_xTv (n := 3) (As := [_, _, _]) (rest := _) E Z (c_X4_checkArgument l hl0 D _ A _ _ _ _ (by omega)) gX4_pass_X4_checkArgument rfl ⟨rfl, rfl⟩ (by decide +kernel) ⟨Nat.le_of_ble_eq_true rfl, Nat.le_of_ble_eq_true rfl⟩ rfl rfl (Nat.le_of_ble_eq_true rfl) ⟨Nat.le_of_ble_eq_true rfl, Nat.le_of_ble_eq_true rfl⟩ ⟨Nat.le_of_ble_eq_true rfl, Nat.le_of_ble_eq_true rfl⟩ dX4_pass_4 (fun E9 hE => ⟨0, if_pos (hE.2), hE.1 ▸ rfl⟩) ?_
  rintro ws_4 ⟨g_4, rfl⟩
  have nb1 : ¬ ¬ (1 ≤ p9 ∧ p9 ≤ 60) := fun q => q g_4
  refine g_aload_n E dX4_pass_7 rfl ?_
  refine gx_Main_yard E mem_8 hin4 (by decide +kernel) dX4_pass_8 ?_
  refine g_iload_n E dX4_pass_11 rfl ?_
  refine g_callVi (T := TX3) (ci := 3) (n := 1) (As := [_]) (rest := _) E (c_X3_passDays l D cA A ad σ 0 a (by omega) hI _ (by omega)) gX4_pass_X3_passDays rfl ⟨rfl, rfl⟩ (by decide +kernel) ⟨Nat.le_of_ble_eq_true rfl, Nat.le_of_ble_eq_true rfl⟩ (ob_0 (mem_y _ (by omega))) rfl rfl rfl (Nat.le_of_ble_eq_true rfl) ⟨Nat.le_of_ble_eq_true rfl, Nat.le_of_ble_eq_true rfl⟩ dX4_pass_12 ?_
  rintro r_12 ws_12 ⟨rfl, rfl⟩
  refine g_wid (k := 1) (n := 6) (Nat.le_of_ble_eq_true rfl) (Nat.le_of_ble_eq_true rfl) ?_
  refine g_xret ?_
  exact g_iret E (⟨if_neg nb1, rfl, rfl⟩) dX4_pass_15
set_option maxHeartbeats 800000 in
set_option maxRecDepth 100000 in
/-- would(p) -/
theorem c_X4_would (l : Launch) (hl0 : l.stackTraces = false) (D : va_G) (cA : Nat → ClassId) (A : Nat → Prop) (ad : Ad) (σ : Nat → St) (a : St) (hI : Inv a) (p9 : Int) (hp : R31 p9) : vx_Met l yX4_would wsX4_would ({ frames := 7, cells := 1, slots := 6, locals := 107 }) (PcZ D (tysX cA) A (wX cA ad (upY σ 0 a)) [.ref (ad 0 8 0), .int (zI p9)]) (va_Qi (fun (r : Int32) ws' => eP a p9 = 0 ∧ r = zI (lb (sd a p9.toNat) (bl a p9.toNat - rustyN a p9.toNat (a 0 0 4) (bl a p9.toNat).toNat)) ∧ ws' = wX cA ad (upY σ 0 a)) (gB D A) A) (XQ D A (fun E9 => exn [xI] E9 (eP a p9)) (wX cA ad (upY σ 0 a))) 1 6 A := by
  refine g_metx (cc := cX4_would) (maxL := 3) (ret := (some .int)) (own := RX4) hl0 rfl (by decide) rfl (Nat.le_of_ble_eq_true rfl) ?_
  intro p e s m below meth c E Z
  have hin1 : ∀ w ∈ u_ws RX1 TX1 4, w ∈ wsX4_would := by decide +kernel
  have hin3 : ∀ w ∈ u_ws RX3 TX3 8, w ∈ wsX4_would := by decide +kernel
  have hin4 : ∀ w ∈ u_ws RX4 TX4 6, w ∈ wsX4_would := by decide +kernel
  obtain ⟨⟨hn0, hn6, hc0, hc3⟩, hPI, hCI, hFr⟩ := id hI
  obtain ⟨hp1, hp2⟩ := hp
  refine g_loc (lv' := [(0, .ref (ad 0 8 0)), (1, .int (zI p9))]) ⟨rfl, rfl, trivial⟩ ?_
  refine g_aload_n E dX4_would_0 rfl ?_
  refine g_iload_n E dX4_would_1 rfl ?_
  refine g_xVv (T := TX4) (ci := 4) (n := 1) (As := [_]) (rest := _) E Z (c_X4_checkPile l hl0 D cA A ad _ _ hI _ (by omega)) gX4_would_X4_checkPile rfl ⟨rfl, rfl⟩ (by decide +kernel) ⟨Nat.le_of_ble_eq_true rfl, Nat.le_of_ble_eq_true rfl⟩ (ob_8 mem_8) rfl rfl rfl (Nat.le_of_ble_eq_true rfl) ⟨Nat.le_of_ble_eq_true rfl, Nat.le_of_ble_eq_true rfl⟩ ⟨Nat.le_of_ble_eq_true rfl, Nat.le_of_ble_eq_true rfl⟩ dX4_would_2 (fun E9 hE => ⟨0, if_pos (hE.2), hE.1 ▸ rfl⟩) ?_
  rintro ws_2 ⟨g_2, rfl⟩
  have nb1 : ¬ ¬ (0 ≤ p9 ∧ p9 < np a) := fun q => q g_2; have hPp := hPI p9.toNat (by omega); have hPo := hPp.1; have hPc := hPp.2; have hPo2 := hPo; unfold PO at hPo2; have hsq := sq_le (e := sd a p9.toNat) (by omega); obtain ⟨hn1, hn7, hpy⟩ := pyN_c (a := a) (p := p9.toNat) (by omega); have hru := rusty_b a p9.toNat (a 0 0 4) (bl a p9.toNat).toNat
  refine g_aload_n E dX4_would_5 rfl ?_
  refine gx_Main_yard E mem_8 hin4 (by decide +kernel) dX4_would_6 ?_
  refine gx_Yard_piles' E (mem_y _ (by omega)) hin3 (by decide +kernel) dX4_would_9 ?_
  refine g_iload_n E dX4_would_12 rfl ?_
  refine lx_10' E (mem_10 _ (by omega)) (by omega) dX4_would_13 ?_
  refine g_astore_n E dX4_would_14 (by decide) ?_
  refine g_aload_n E dX4_would_15 rfl ?_
  refine gx_Pile_pyramid' E (mem_1 _ (by omega) _ (by omega)) hin1 (by decide +kernel) dX4_would_16 ?_
  refine g_aload_n E dX4_would_19 rfl ?_
  refine gx_Pile_balls' E (mem_1 _ (by omega) _ (by omega)) hin1 (by decide +kernel) dX4_would_20 ?_
  refine g_aload_n E dX4_would_23 rfl ?_
  refine g_aload_n E dX4_would_24 rfl ?_
  refine gx_Main_yard E mem_8 hin4 (by decide +kernel) dX4_would_25 ?_
  refine gx_Yard_limit' E (mem_y _ (by omega)) hin3 (by decide +kernel) dX4_would_28 ?_
  refine g_callVi (T := TX1) (ci := 1) (n := 1) (As := [_]) (rest := _) E (c_X1_rustyBalls l D cA A ad σ 0 p9.toNat (a) (by omega) (by omega) hPo _) gX4_would_X1_rustyBalls rfl ⟨rfl, rfl⟩ (by decide +kernel) ⟨Nat.le_of_ble_eq_true rfl, Nat.le_of_ble_eq_true rfl⟩ (ob_1 (mem_1 _ (by omega) _ (by omega))) rfl rfl rfl (Nat.le_of_ble_eq_true rfl) ⟨Nat.le_of_ble_eq_true rfl, Nat.le_of_ble_eq_true rfl⟩ dX4_would_31 ?_
  rintro r_31 ws_31 ⟨rfl, rfl⟩
  refine g_isub E dX4_would_34 ?_
  refine g_callVi (T := TX2) (ci := 2) (n := 1) (As := [_]) (rest := _) E (c_X2_layersBegun l D cA A ad _ _ (by omega) _ hpy _ (by omega)) gX4_would_X2_layersBegun rfl ⟨rfl, rfl⟩ (by decide +kernel) ⟨Nat.le_of_ble_eq_true rfl, Nat.le_of_ble_eq_true rfl⟩ (ob_9 (mem_9 _ (by omega) (by omega))) rfl rfl rfl (Nat.le_of_ble_eq_true rfl) ⟨Nat.le_of_ble_eq_true rfl, Nat.le_of_ble_eq_true rfl⟩ dX4_would_35 ?_
  rintro r_35 ws_35 ⟨rfl, rfl⟩
  refine g_wid (k := 1) (n := 6) (Nat.le_of_ble_eq_true rfl) (Nat.le_of_ble_eq_true rfl) ?_
  refine g_xret ?_
  exact g_iret E (⟨if_neg nb1, rfl, rfl⟩) dX4_would_38
set_option maxHeartbeats 800000 in
set_option maxRecDepth 100000 in
/-- advise() -/
theorem c_X4_advise (l : Launch) (D : va_G) (cA : Nat → ClassId) (A : Nat → Prop) (ad : Ad) (σ : Nat → St) (a : St) (hI : Inv a) : Met l yX4_advise wsX4_advise ({ frames := 2, cells := 0, slots := 0, locals := 44 }) (PcG D (tysX cA) A (wX cA ad (upY σ 0 a)) [.ref (ad 0 8 0)]) (va_Qi (fun (r : Int32) ws' => r = zI (adL a (np a).toNat).1.1 ∧ ws' = wX cA ad (upY σ 0 a)) (gB D A) A) 0 0 A := by
  refine g_met (cc := cX4_advise) (maxL := 7) (ret := (some .int)) (own := RX4) rfl (by decide) rfl (Nat.le_of_ble_eq_true rfl) ?_
  intro p e s m below meth c E
  have hin1 : ∀ w ∈ u_ws RX1 TX1 4, w ∈ wsX4_advise := by decide +kernel
  have hin3 : ∀ w ∈ u_ws RX3 TX3 8, w ∈ wsX4_advise := by decide +kernel
  have hin4 : ∀ w ∈ u_ws RX4 TX4 6, w ∈ wsX4_advise := by decide +kernel
  obtain ⟨⟨hn0, hn6, hc0, hc3⟩, hPI, hCI, hFr⟩ := id hI
  refine g_loc (lv' := [(0, .ref (ad 0 8 0))]) ⟨rfl, trivial⟩ ?_
  refine g_iconst E dX4_advise_0 ?_
  refine g_istore_n E dX4_advise_1 (by decide) ?_
  refine g_iconst E dX4_advise_2 ?_
  refine g_istore_n E dX4_advise_3 (by decide) ?_
  refine g_iconst E dX4_advise_4 ?_
  refine g_istore_n E dX4_advise_5 (by decide) ?_
  refine g_iconst E dX4_advise_6 ?_
  refine g_istore E dX4_advise_7 (by decide) ?_
  have key_kk : ∀ (n_kk kk : Nat), (kk : Int) ≤ np a → np a + 1 ≤ (kk : Int) + n_kk → GW p l e (headSpec wsX4_advise ({ frames := 2, cells := 0, slots := 0, locals := 44 })).room s m ([.ref (ad 0 8 0)] : List Value).toArray below meth c (MQ below (va_Qi (fun (r : Int32) ws' => r = zI (adL a (np a).toNat).1.1 ∧ ws' = wX cA ad (upY σ 0 a)) (gB D A) A) ([.ref (ad 0 8 0)] : List Value).toArray s 0 0 A) D A 7 (wX cA ad (upY σ 0 a)) 0 0 9 [(0, .ref (ad 0 8 0)), (1, .int (zI (adL a kk).1.1)), (2, .int (zI (adL a kk).1.2)), (3, .int (zI (adL a kk).2)), (4, .int (zI (kk : Int)))] [] := by
    intro n_kk
    induction n_kk with
    | zero => intro kk h1 h2; exact absurd h2 (by omega)
    | succ n_kk ih_kk =>
      intro kk hle_kk hfu_kk
      have hab := adL_b hI kk (by omega)
      have hpk : (kk : Int) < np a → PO a kk := fun h => (hPI kk h).1
      refine g_iload E dX4_advise_9 rfl ?_
      refine g_aload_n E dX4_advise_11 rfl ?_
      refine gx_Main_yard E mem_8 hin4 (by decide +kernel) dX4_advise_12 ?_
      refine gx_Yard_pileCount' E (mem_y _ (by omega)) hin3 (by decide +kernel) dX4_advise_15 ?_
      refine g_icmp_ge (tgt := 96) E dX4_advise_18 (by decide) (by omega) (by omega) (fun c_18 => ?_) (fun c_18 => ?_)
      · refine g_iload_n E dX4_advise_96 rfl ?_
        exact g_iret E (⟨by rw [show (np a).toNat = kk by omega], rfl⟩) dX4_advise_97
      · refine g_aload_n E dX4_advise_21 rfl ?_
        refine gx_Main_yard E mem_8 hin4 (by decide +kernel) dX4_advise_22 ?_
        refine gx_Yard_piles' E (mem_y _ (by omega)) hin3 (by decide +kernel) dX4_advise_25 ?_
        refine g_iload E dX4_advise_28 rfl ?_
        refine lx_10' E (mem_10 _ (by omega)) (by omega) dX4_advise_30 ?_
        refine g_top (v' := .ref (ad 0 1 kk)) rfl ?_
        have hPk := hpk (by omega)
        have hPk2 := hPk
        unfold PO at hPk2
        have hsq := sq_le (e := sd a kk) (by omega)
        have hrb := rusty_b a kk (a 0 0 4) (bl a kk).toNat
        refine g_aload_n E dX4_advise_31 rfl ?_
        refine gx_Main_yard E mem_8 hin4 (by decide +kernel) dX4_advise_32 ?_
        refine gx_Yard_limit' E (mem_y _ (by omega)) hin3 (by decide +kernel) dX4_advise_35 ?_
        refine g_callVi (T := TX1) (ci := 1) (n := 1) (As := [_]) (rest := _) E (c_X1_rustyBalls l D cA A ad σ 0 kk a (by omega) (by omega) hPk _) gX4_advise_X1_rustyBalls rfl ⟨rfl, rfl⟩ (by decide +kernel) ⟨Nat.le_of_ble_eq_true rfl, Nat.le_of_ble_eq_true rfl⟩ (ob_1 (mem_1 _ (by omega) _ (by omega))) rfl rfl rfl (Nat.le_of_ble_eq_true rfl) ⟨Nat.le_of_ble_eq_true rfl, Nat.le_of_ble_eq_true rfl⟩ dX4_advise_38 ?_
        rintro r_38 ws_38 ⟨rfl, rfl⟩
        refine g_istore E dX4_advise_41 (by decide) ?_
        refine g_aload_n E dX4_advise_43 rfl ?_
        refine gx_Main_yard E mem_8 hin4 (by decide +kernel) dX4_advise_44 ?_
        refine gx_Yard_piles' E (mem_y _ (by omega)) hin3 (by decide +kernel) dX4_advise_47 ?_
        refine g_iload E dX4_advise_50 rfl ?_
        refine lx_10' E (mem_10 _ (by omega)) (by omega) dX4_advise_52 ?_
        refine g_top (v' := .ref (ad 0 1 kk)) rfl ?_
        refine gx_Pile_balls' E (mem_1 _ (by omega) _ (by omega)) hin1 (by decide +kernel) dX4_advise_53 ?_
        refine g_istore E dX4_advise_56 (by decide) ?_
        refine g_iload E dX4_advise_58 rfl ?_
        refine g_iload_n E dX4_advise_60 rfl ?_
        refine g_icmp_gt (tgt := 81) E dX4_advise_61 (by decide) (by omega) (by omega) (fun c_61 => ?_) (fun c_61 => ?_)
        · have hst := ad_t (a := a) (n := kk) (by omega)
          refine g_iload E dX4_advise_81 rfl ?_
          refine g_istore_n E dX4_advise_83 (by decide) ?_
          refine g_iload E dX4_advise_84 rfl ?_
          refine g_istore_n E dX4_advise_86 (by decide) ?_
          refine g_iload E dX4_advise_87 rfl ?_
          refine g_istore_n E dX4_advise_89 (by decide) ?_
          refine g_iinc E dX4_advise_90 rfl (by decide) ?_
          refine g_goto (tgt := 9) E dX4_advise_93 (by decide) ?_
          refine g_loc (lv' := [(0, .ref (ad 0 8 0)), (1, .int (zI (adL a (kk + 1)).1.1)), (2, .int (zI (adL a (kk + 1)).1.2)), (3, .int (zI (adL a (kk + 1)).2)), (4, .int (zI ((kk + 1) : Int)))]) ⟨rfl, congrArg (fun z => some (Value.int (zI z))) (congrArg (fun q : (Int × Int) × Int => q.1.1) hst).symm, congrArg (fun z => some (Value.int (zI z))) (congrArg (fun q : (Int × Int) × Int => q.1.2) hst).symm, congrArg (fun z => some (Value.int (zI z))) (congrArg (fun q : (Int × Int) × Int => q.2) hst).symm, rfl, trivial⟩ ?_
          exact ih_kk (kk + 1) (by omega) (by omega)
        · refine g_iload E dX4_advise_64 rfl ?_
          refine g_if_le (tgt := 90) E dX4_advise_66 (by decide) (by omega) (fun c_66 => ?_) (fun c_66 => ?_)
          · have hst := ad_f (a := a) (n := kk) (by omega)
            refine g_iinc E dX4_advise_90 rfl (by decide) ?_
            refine g_goto (tgt := 9) E dX4_advise_93 (by decide) ?_
            refine g_loc (lv' := [(0, .ref (ad 0 8 0)), (1, .int (zI (adL a (kk + 1)).1.1)), (2, .int (zI (adL a (kk + 1)).1.2)), (3, .int (zI (adL a (kk + 1)).2)), (4, .int (zI ((kk + 1) : Int)))]) ⟨rfl, congrArg (fun z => some (Value.int (zI z))) (congrArg (fun q : (Int × Int) × Int => q.1.1) hst).symm, congrArg (fun z => some (Value.int (zI z))) (congrArg (fun q : (Int × Int) × Int => q.1.2) hst).symm, congrArg (fun z => some (Value.int (zI z))) (congrArg (fun q : (Int × Int) × Int => q.2) hst).symm, rfl, trivial⟩ ?_
            exact ih_kk (kk + 1) (by omega) (by omega)
          · refine g_iload E dX4_advise_69 rfl ?_
            refine g_iload_n E dX4_advise_71 rfl ?_
            refine g_icmp_ne (tgt := 90) E dX4_advise_72 (by decide) (by omega) (by omega) (fun c_72 => ?_) (fun c_72 => ?_)
            · have hst := ad_f (a := a) (n := kk) (by omega)
              refine g_iinc E dX4_advise_90 rfl (by decide) ?_
              refine g_goto (tgt := 9) E dX4_advise_93 (by decide) ?_
              refine g_loc (lv' := [(0, .ref (ad 0 8 0)), (1, .int (zI (adL a (kk + 1)).1.1)), (2, .int (zI (adL a (kk + 1)).1.2)), (3, .int (zI (adL a (kk + 1)).2)), (4, .int (zI ((kk + 1) : Int)))]) ⟨rfl, congrArg (fun z => some (Value.int (zI z))) (congrArg (fun q : (Int × Int) × Int => q.1.1) hst).symm, congrArg (fun z => some (Value.int (zI z))) (congrArg (fun q : (Int × Int) × Int => q.1.2) hst).symm, congrArg (fun z => some (Value.int (zI z))) (congrArg (fun q : (Int × Int) × Int => q.2) hst).symm, rfl, trivial⟩ ?_
              exact ih_kk (kk + 1) (by omega) (by omega)
            · refine g_iload E dX4_advise_75 rfl ?_
              refine g_iload_n E dX4_advise_77 rfl ?_
              refine g_icmp_ge (tgt := 90) E dX4_advise_78 (by decide) (by omega) (by omega) (fun c_78 => ?_) (fun c_78 => ?_)
              · have hst := ad_f (a := a) (n := kk) (by omega)
                refine g_iinc E dX4_advise_90 rfl (by decide) ?_
                refine g_goto (tgt := 9) E dX4_advise_93 (by decide) ?_
                refine g_loc (lv' := [(0, .ref (ad 0 8 0)), (1, .int (zI (adL a (kk + 1)).1.1)), (2, .int (zI (adL a (kk + 1)).1.2)), (3, .int (zI (adL a (kk + 1)).2)), (4, .int (zI ((kk + 1) : Int)))]) ⟨rfl, congrArg (fun z => some (Value.int (zI z))) (congrArg (fun q : (Int × Int) × Int => q.1.1) hst).symm, congrArg (fun z => some (Value.int (zI z))) (congrArg (fun q : (Int × Int) × Int => q.1.2) hst).symm, congrArg (fun z => some (Value.int (zI z))) (congrArg (fun q : (Int × Int) × Int => q.2) hst).symm, rfl, trivial⟩ ?_
                exact ih_kk (kk + 1) (by omega) (by omega)
              · have hst := ad_t (a := a) (n := kk) (by omega)
                refine g_iload E dX4_advise_81 rfl ?_
                refine g_istore_n E dX4_advise_83 (by decide) ?_
                refine g_iload E dX4_advise_84 rfl ?_
                refine g_istore_n E dX4_advise_86 (by decide) ?_
                refine g_iload E dX4_advise_87 rfl ?_
                refine g_istore_n E dX4_advise_89 (by decide) ?_
                refine g_iinc E dX4_advise_90 rfl (by decide) ?_
                refine g_goto (tgt := 9) E dX4_advise_93 (by decide) ?_
                refine g_loc (lv' := [(0, .ref (ad 0 8 0)), (1, .int (zI (adL a (kk + 1)).1.1)), (2, .int (zI (adL a (kk + 1)).1.2)), (3, .int (zI (adL a (kk + 1)).2)), (4, .int (zI ((kk + 1) : Int)))]) ⟨rfl, congrArg (fun z => some (Value.int (zI z))) (congrArg (fun q : (Int × Int) × Int => q.1.1) hst).symm, congrArg (fun z => some (Value.int (zI z))) (congrArg (fun q : (Int × Int) × Int => q.1.2) hst).symm, congrArg (fun z => some (Value.int (zI z))) (congrArg (fun q : (Int × Int) × Int => q.2) hst).symm, rfl, trivial⟩ ?_
                exact ih_kk (kk + 1) (by omega) (by omega)
  refine g_loc (lv' := [(0, .ref (ad 0 8 0)), (1, .int (zI (adL a 0).1.1)), (2, .int (zI (adL a 0).1.2)), (3, .int (zI (adL a 0).2)), (4, .int (zI (0 : Int)))]) ⟨rfl, rfl, rfl, rfl, rfl, trivial⟩ ?_
  exact key_kk ((np a) + 1).toNat.succ 0 (by omega) (by omega)
set_option maxHeartbeats 800000 in
set_option maxRecDepth 100000 in
/-- until(p) -/
theorem c_X4_until (l : Launch) (hl0 : l.stackTraces = false) (D : va_G) (cA : Nat → ClassId) (A : Nat → Prop) (ad : Ad) (σ : Nat → St) (a : St) (hI : Inv a) (hT : TrI a (σ 1)) (p9 : Int) (hp : R31 p9) : vx_Met l yX4_until wsX4_until ({ frames := 7, cells := 1, slots := 6, locals := 110 }) (PcZ D (tysX cA) A (wX cA ad (upY σ 0 a)) [.ref (ad 0 8 0), .int (zI p9)]) (va_Qi (fun (r : Int32) ws' => eP a p9 = 0 ∧ r = zI (unV a p9.toNat) ∧ ∃ b9 : St, TrI a b9 ∧ ws' = wX cA ad (upY (upY σ 0 a) 1 (b9))) (gB D A) A) (XQ D A (fun E9 => exn [xI] E9 (eP a p9)) (wX cA ad (upY σ 0 a))) 1 6 A := by
  refine g_metx (cc := cX4_until) (maxL := 3) (ret := (some .int)) (own := RX4) hl0 rfl (by decide) rfl (Nat.le_of_ble_eq_true rfl) ?_
  intro p e s m below meth c E Z
  have hin1 : ∀ w ∈ u_ws RX1 TX1 4, w ∈ wsX4_until := by decide +kernel
  have hin3 : ∀ w ∈ u_ws RX3 TX3 8, w ∈ wsX4_until := by decide +kernel
  have hin4 : ∀ w ∈ u_ws RX4 TX4 6, w ∈ wsX4_until := by decide +kernel
  obtain ⟨⟨hn0, hn6, hc0, hc3⟩, hPI, hCI, hFr⟩ := id hI
  have hs0 : upY σ 0 a = upY (upY σ 0 a) 1 (σ 1) := by have h := upY_self (σ := upY σ 0 a) (y := 1); rw [upY_n (σ := σ) (y := 0) (y' := 1) (by decide)] at h; exact h.symm
  have h00 : upY σ 0 a 0 = a := upY_s
  obtain ⟨hp1, hp2⟩ := hp
  refine g_loc (lv' := [(0, .ref (ad 0 8 0)), (1, .int (zI p9))]) ⟨rfl, rfl, trivial⟩ ?_
  refine g_aload_n E dX4_until_0 rfl ?_
  refine g_iload_n E dX4_until_1 rfl ?_
  refine g_xVv (T := TX4) (ci := 4) (n := 1) (As := [_]) (rest := _) E Z (c_X4_checkPile l hl0 D cA A ad _ _ hI _ (by omega)) gX4_until_X4_checkPile rfl ⟨rfl, rfl⟩ (by decide +kernel) ⟨Nat.le_of_ble_eq_true rfl, Nat.le_of_ble_eq_true rfl⟩ (ob_8 mem_8) rfl rfl rfl (Nat.le_of_ble_eq_true rfl) ⟨Nat.le_of_ble_eq_true rfl, Nat.le_of_ble_eq_true rfl⟩ ⟨Nat.le_of_ble_eq_true rfl, Nat.le_of_ble_eq_true rfl⟩ dX4_until_2 (fun E9 hE => ⟨0, if_pos (hE.2), hE.1 ▸ rfl⟩) ?_
  rintro ws_2 ⟨g_2, rfl⟩
  have nb1 : ¬ ¬ (0 ≤ p9 ∧ p9 < np a) := fun q => q g_2
  refine g_st (ws' := wX cA ad (upY (upY σ 0 a) 1 (σ 1))) (congrArg (wX cA ad) hs0) rfl rfl ?_
  refine g_aload_n E dX4_until_5 rfl ?_
  refine gx_Main_trial E mem_8 hin4 (by decide +kernel) dX4_until_6 ?_
  refine g_aload_n E dX4_until_9 rfl ?_
  refine gx_Main_yard E mem_8 hin4 (by decide +kernel) dX4_until_10 ?_
  refine g_callVv (T := TX3) (ci := 3) (n := 1) (As := [_]) (rest := _) E (c_X3_copyFrom l D cA A ad (upY σ 0 a) (σ 1) (by rw [h00]; exact hI) (by rw [h00]; exact hT)) gX4_until_X3_copyFrom rfl ⟨rfl, rfl⟩ (by decide +kernel) ⟨Nat.le_of_ble_eq_true rfl, Nat.le_of_ble_eq_true rfl⟩ (ob_0 (mem_y _ (by omega))) rfl rfl rfl (Nat.le_of_ble_eq_true rfl) ⟨Nat.le_of_ble_eq_true rfl, Nat.le_of_ble_eq_true rfl⟩ dX4_until_13 ?_
  rintro ws_13 rfl
  rw [h00]
  refine g_iconst E dX4_until_16 ?_
  refine g_istore_n E dX4_until_17 (by decide) ?_
  have key_kk : ∀ (n_kk kk : Nat), (kk : Int) ≤ (41 : Int) → (41 : Int) + 1 ≤ (kk : Int) + n_kk → (unA a p9.toNat (41 - kk) kk = unV a p9.toNat) → GW p l e (headSpec wsX4_until ({ frames := 7, cells := 1, slots := 6, locals := 110 })).room s m ([.ref (ad 0 8 0), .int (zI p9)] : List Value).toArray below meth c (vx_MQ below (va_Qi (fun (r : Int32) ws' => eP a p9 = 0 ∧ r = zI (unV a p9.toNat) ∧ ∃ b9 : St, TrI a b9 ∧ ws' = wX cA ad (upY (upY σ 0 a) 1 (b9))) (gB D A) A) (XQ D A (fun E9 => exn [xI] E9 (eP a p9)) (wX cA ad (upY σ 0 a))) ([.ref (ad 0 8 0), .int (zI p9)] : List Value).toArray s 1 6 A) D A 3 (wX cA ad (upY (upY σ 0 a) 1 ((passL a kk).1))) 1 6 18 [(0, .ref (ad 0 8 0)), (1, .int (zI p9)), (2, .int (zI (kk : Int)))] [] := by
    intro n_kk
    induction n_kk with
    | zero => intro kk h1 h2; exact absurd h2 (by omega)
    | succ n_kk ih_kk =>
      intro kk hle_kk hfu_kk hi0_kk
      obtain ⟨j1, j2, j3⟩ := passL_i hI kk
      refine g_iload_n E dX4_until_18 rfl ?_
      refine g_bipush E dX4_until_19 (by decide) ?_
      refine g_icmp_gt (tgt := 63) E dX4_until_21 (by decide) (by omega) (by omega) (fun c_21 => ?_) (fun c_21 => ?_)
      · refine g_iconst E dX4_until_63 ?_
        refine g_wid (k := 1) (n := 6) (Nat.le_of_ble_eq_true rfl) (Nat.le_of_ble_eq_true rfl) ?_
        refine g_xret ?_
        exact g_iret E (⟨if_neg nb1, by rw [← hi0_kk, show 41 - kk = 0 by omega]; rfl, _, j1.tr j2 j3, rfl⟩) dX4_until_64
      · refine g_aload_n E dX4_until_24 rfl ?_
        refine gx_Main_trial E mem_8 hin4 (by decide +kernel) dX4_until_25 ?_
        refine gx_Yard_piles' E (mem_y _ (by omega)) hin3 (by decide +kernel) dX4_until_28 ?_
        refine g_iload_n E dX4_until_31 rfl ?_
        refine lx_10' E (mem_10 _ (by omega)) (by omega) dX4_until_32 ?_
        refine g_top (v' := .ref (ad 1 1 p9.toNat)) rfl ?_
        have hPk := (j1.2.1 p9.toNat (by omega)).1
        have hrb := rusty_b (passL a kk).1 p9.toNat ((passL a kk).1 0 0 4) (bl (passL a kk).1 p9.toNat).toNat
        have hPk2 := hPk
        unfold PO at hPk2
        have hsq := sq_le (e := sd (passL a kk).1 p9.toNat) (by omega)
        refine g_aload_n E dX4_until_33 rfl ?_
        refine gx_Main_trial E mem_8 hin4 (by decide +kernel) dX4_until_34 ?_
        refine gx_Yard_limit' E (mem_y _ (by omega)) hin3 (by decide +kernel) dX4_until_37 ?_
        refine g_callVi (T := TX1) (ci := 1) (n := 1) (As := [_]) (rest := _) E (c_X1_rustyBalls l D cA A ad (upY σ 0 a) 1 p9.toNat (passL a kk).1 (by omega) (by omega) hPk _) gX4_until_X1_rustyBalls rfl ⟨rfl, rfl⟩ (by decide +kernel) ⟨Nat.le_of_ble_eq_true rfl, Nat.le_of_ble_eq_true rfl⟩ (ob_1 (mem_1 _ (by omega) _ (by omega))) rfl rfl rfl (Nat.le_of_ble_eq_true rfl) ⟨Nat.le_of_ble_eq_true rfl, Nat.le_of_ble_eq_true rfl⟩ dX4_until_40 ?_
        rintro r_40 ws_40 ⟨rfl, rfl⟩
        refine g_if_le (tgt := 48) E dX4_until_43 (by decide) (by omega) (fun c_43 => ?_) (fun c_43 => ?_)
        · refine g_aload_n E dX4_until_48 rfl ?_
          refine gx_Main_trial E mem_8 hin4 (by decide +kernel) dX4_until_49 ?_
          refine g_iconst E dX4_until_52 ?_
          refine g_callVi (T := TX3) (ci := 3) (n := 1) (As := [_]) (rest := _) E (c_X3_passDays l D cA A ad (upY σ 0 a) 1 (passL a kk).1 (by omega) j1 _ (by omega)) gX4_until_X3_passDays rfl ⟨rfl, rfl⟩ (by decide +kernel) ⟨Nat.le_of_ble_eq_true rfl, Nat.le_of_ble_eq_true rfl⟩ (ob_0 (mem_y _ (by omega))) rfl rfl rfl (Nat.le_of_ble_eq_true rfl) ⟨Nat.le_of_ble_eq_true rfl, Nat.le_of_ble_eq_true rfl⟩ dX4_until_53 ?_
          rintro r_53 ws_53 ⟨rfl, rfl⟩
          refine g_pop E dX4_until_56 rfl ?_
          refine g_iinc E dX4_until_57 rfl (by decide) ?_
          refine g_goto (tgt := 18) E dX4_until_60 (by decide) ?_
          refine g_st (ws' := wX cA ad (upY (upY σ 0 a) 1 ((passL a (kk + 1)).1))) (rfl) rfl rfl ?_
          refine g_loc (lv' := [(0, .ref (ad 0 8 0)), (1, .int (zI p9)), (2, .int (zI ((kk + 1) : Int)))]) ⟨rfl, rfl, rfl, trivial⟩ ?_
          exact ih_kk (kk + 1) (by omega) (by omega) (by rw [← hi0_kk, unA_s (by omega) (n := 41 - kk), if_neg (by omega)]; rfl)
        · refine g_iload_n E dX4_until_46 rfl ?_
          refine g_wid (k := 1) (n := 6) (Nat.le_of_ble_eq_true rfl) (Nat.le_of_ble_eq_true rfl) ?_
          refine g_xret ?_
          exact g_iret E (⟨if_neg nb1, by rw [← hi0_kk, unA_s (by omega), if_pos (by omega)], _, j1.tr j2 j3, rfl⟩) dX4_until_47
  refine g_loc (lv' := [(0, .ref (ad 0 8 0)), (1, .int (zI p9)), (2, .int (zI (0 : Int)))]) ⟨rfl, rfl, rfl, trivial⟩ ?_
  exact key_kk (((41 : Int)) + 1).toNat.succ 0 (by omega) (by omega) (rfl)
set_option maxHeartbeats 800000 in
set_option maxRecDepth 100000 in
/-- foresee(d, w) -/
theorem c_X4_foresee (l : Launch) (hl0 : l.stackTraces = false) (D : va_G) (cA : Nat → ClassId) (A : Nat → Prop) (ad : Ad) (σ : Nat → St) (a : St) (hI : Inv a) (hT : TrI a (σ 1)) (p9 w9 : Int) (hp : R31 p9) (hm : R31 w9) : vx_Met l yX4_foresee wsX4_foresee ({ frames := 7, cells := 2, slots := 12, locals := 110 }) (PcZ D (tysX cA) A (wX cA ad (upY σ 0 a)) [.ref (ad 0 8 0), .int (zI p9), .int (zI w9)]) (va_Qi (fun (r : Int32) ws' => eFor p9 w9 = 0 ∧ r = cntV (passL a p9.toNat).1 w9 ∧ ∃ b9 : St, TrI a b9 ∧ ws' = wX cA ad (upY (upY σ 0 a) 1 (b9))) (gB D A) A) (XQ D A (fun E9 => exn [xA, xI] E9 (eFor p9 w9)) (wX cA ad (upY σ 0 a))) 2 12 A := by
  refine g_metx (cc := cX4_foresee) (maxL := 3) (ret := (some .int)) (own := RX4) hl0 rfl (by decide) rfl (Nat.le_of_ble_eq_true rfl) ?_
  intro p e s m below meth c E Z
  have hin4 : ∀ w ∈ u_ws RX4 TX4 6, w ∈ wsX4_foresee := by decide +kernel
  obtain ⟨⟨hn0, hn6, hc0, hc3⟩, hPI, hCI, hFr⟩ := id hI
  have hs0 : upY σ 0 a = upY (upY σ 0 a) 1 (σ 1) := by have h := upY_self (σ := upY σ 0 a) (y := 1); rw [upY_n (σ := σ) (y := 0) (y' := 1) (by decide)] at h; exact h.symm
  have h00 : upY σ 0 a 0 = a := upY_s
  obtain ⟨hp1, hp2⟩ := hp
  obtain ⟨hm1, hm2⟩ := hm
  refine g_loc (lv' := [(0, .ref (ad 0 8 0)), (1, .int (zI p9)), (2, .int (zI w9))]) ⟨rfl, rfl, rfl, trivial⟩ ?_
  refine g_iload_n E dX4_foresee_0 rfl ?_
  refine g_iconst E dX4_foresee_1 ?_
  refine g_bipush E dX4_foresee_2 (by decide) ?_
  refine g_xTv (n := 3) (As := [_, _, _]) (rest := _) E Z (c_X4_checkArgument l hl0 D _ A _ _ _ _ (by omega)) gX4_foresee_X4_checkArgument rfl ⟨rfl, rfl⟩ (by decide +kernel) ⟨Nat.le_of_ble_eq_true rfl, Nat.le_of_ble_eq_true rfl⟩ rfl rfl (Nat.le_of_ble_eq_true rfl) ⟨Nat.le_of_ble_eq_true rfl, Nat.le_of_ble_eq_true rfl⟩ ⟨Nat.le_of_ble_eq_true rfl, Nat.le_of_ble_eq_true rfl⟩ dX4_foresee_4 (fun E9 hE => ⟨0, if_pos (hE.2), hE.1 ▸ rfl⟩) ?_
  rintro ws_4 ⟨g_4, rfl⟩
  have nb1 : ¬ ¬ (1 ≤ p9 ∧ p9 ≤ 30) := fun q => q g_4
  refine g_st (ws' := wX cA ad (upY (upY σ 0 a) 1 (σ 1))) (congrArg (wX cA ad) hs0) rfl rfl ?_
  refine g_iload_n E dX4_foresee_7 rfl ?_
  refine g_iconst E dX4_foresee_8 ?_
  refine g_bipush E dX4_foresee_9 (by decide) ?_
  refine g_callTi (n := 3) (As := [_, _, _]) (rest := _) E (c_X4_isOutside l D _ A _ _ _ _ (by omega)) gX4_foresee_X4_isOutside rfl ⟨rfl, rfl⟩ (by decide +kernel) ⟨Nat.le_of_ble_eq_true rfl, Nat.le_of_ble_eq_true rfl⟩ rfl rfl (Nat.le_of_ble_eq_true rfl) ⟨Nat.le_of_ble_eq_true rfl, Nat.le_of_ble_eq_true rfl⟩ dX4_foresee_11 ?_
  rintro r_11 ws_11 ⟨rfl, rfl⟩
  refine g_if_eq (tgt := 27) E dX4_foresee_14 (by decide) (by omega) (fun c_14 => ?_) (fun c_14 => ?_)
  · have hi14 := it0 c_14; have nb2 : ¬ ¬ (4 ≤ w9 ∧ w9 ≤ 6) := fun q => q (by omega); obtain ⟨j1, j2, j3⟩ := passL_i hI p9.toNat
    refine g_aload_n E dX4_foresee_27 rfl ?_
    refine gx_Main_trial E mem_8 hin4 (by decide +kernel) dX4_foresee_28 ?_
    refine g_aload_n E dX4_foresee_31 rfl ?_
    refine gx_Main_yard E mem_8 hin4 (by decide +kernel) dX4_foresee_32 ?_
    refine g_callVv (T := TX3) (ci := 3) (n := 1) (As := [_]) (rest := _) E (c_X3_copyFrom l D cA A ad (upY σ 0 a) (σ 1) (by rw [h00]; exact hI) (by rw [h00]; exact hT)) gX4_foresee_X3_copyFrom rfl ⟨rfl, rfl⟩ (by decide +kernel) ⟨Nat.le_of_ble_eq_true rfl, Nat.le_of_ble_eq_true rfl⟩ (ob_0 (mem_y _ (by omega))) rfl rfl rfl (Nat.le_of_ble_eq_true rfl) ⟨Nat.le_of_ble_eq_true rfl, Nat.le_of_ble_eq_true rfl⟩ dX4_foresee_35 ?_
    rintro ws_35 rfl
    rw [h00]
    refine g_aload_n E dX4_foresee_38 rfl ?_
    refine gx_Main_trial E mem_8 hin4 (by decide +kernel) dX4_foresee_39 ?_
    refine g_iload_n E dX4_foresee_42 rfl ?_
    refine g_callVi (T := TX3) (ci := 3) (n := 1) (As := [_]) (rest := _) E (c_X3_passDays l D cA A ad (upY σ 0 a) 1 a (by omega) hI _ (by omega)) gX4_foresee_X3_passDays rfl ⟨rfl, rfl⟩ (by decide +kernel) ⟨Nat.le_of_ble_eq_true rfl, Nat.le_of_ble_eq_true rfl⟩ (ob_0 (mem_y _ (by omega))) rfl rfl rfl (Nat.le_of_ble_eq_true rfl) ⟨Nat.le_of_ble_eq_true rfl, Nat.le_of_ble_eq_true rfl⟩ dX4_foresee_43 ?_
    rintro r_43 ws_43 ⟨rfl, rfl⟩
    refine g_pop E dX4_foresee_46 rfl ?_
    refine g_aload_n E dX4_foresee_47 rfl ?_
    refine gx_Main_trial E mem_8 hin4 (by decide +kernel) dX4_foresee_48 ?_
    refine g_iload_n E dX4_foresee_51 rfl ?_
    refine g_callVi (T := TX3) (ci := 3) (n := 1) (As := [_]) (rest := _) E (c_X3_ballCount l D cA A ad (upY σ 0 a) 1 (passL a p9.toNat).1 (by omega) j1 _ (by omega)) gX4_foresee_X3_ballCount rfl ⟨rfl, rfl⟩ (by decide +kernel) ⟨Nat.le_of_ble_eq_true rfl, Nat.le_of_ble_eq_true rfl⟩ (ob_0 (mem_y _ (by omega))) rfl rfl rfl (Nat.le_of_ble_eq_true rfl) ⟨Nat.le_of_ble_eq_true rfl, Nat.le_of_ble_eq_true rfl⟩ dX4_foresee_52 ?_
    rintro r_52 ws_52 ⟨rfl, rfl⟩
    refine g_wid (k := 2) (n := 12) (Nat.le_of_ble_eq_true rfl) (Nat.le_of_ble_eq_true rfl) ?_
    refine g_xret ?_
    exact g_iret E (⟨(if_neg nb1).trans (if_neg nb2), rfl, _, j1.tr j2 j3, rfl⟩) dX4_foresee_55
  · exact g_throw (is := 253) E Z (by decide +kernel) (by decide +kernel) (by decide +kernel) rfl (List.mem_of_getElem? (i := 16) rfl) (fun w h => by first | exact List.mem_cons_of_mem _ (List.mem_append_right _ h) | exact List.mem_cons_of_mem _ (List.mem_append_left _ (List.mem_append_right _ h)) | exact List.mem_cons_of_mem _ (List.mem_append_left _ (List.mem_append_left _ (List.mem_append_right _ h)))) nb_xI gd_xI dX4_foresee_17 dX4_foresee_20 dX4_foresee_21 dX4_foresee_23 dX4_foresee_26 (Nat.le_of_ble_eq_true rfl) (Nat.le_of_ble_eq_true rfl) ⟨Nat.le_of_ble_eq_true rfl, Nat.le_of_ble_eq_true rfl⟩ ⟨Nat.le_of_ble_eq_true rfl, Nat.le_of_ble_eq_true rfl⟩ (⟨1, (if_neg nb1).trans (if_pos (fun q => it1 c_14 (by omega))), rfl⟩)
