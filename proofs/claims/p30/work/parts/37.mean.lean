/-! ===== MEAN: a quotient of whole numbers is no NaN where the second is not zero ===== -/
def fp_ok : FP.Core.Datum → Prop
  | .nan => False
  | .inf _ => True
  | .fin _ c q => c < 9007199254740992 ∧ q ≤ 971
theorem fp_enc {d : FP.Core.Datum} (h : fp_ok d) : ∃ s e t : Nat, FP.Core.encode FP.Core.b64 d = (s * 2048 + e) * 4503599627370496 + t ∧ s ≤ 1 ∧ t < 4503599627370496 ∧ (e < 2047 ∨ (e = 2047 ∧ t = 0)) := by
  cases d with
  | nan => exact h.elim
  | inf s => exact ⟨s.toNat, 2047, 0, rfl, by cases s <;> decide, by decide, Or.inr ⟨rfl, rfl⟩⟩
  | fin s c q =>
    obtain ⟨h1, h2⟩ := h
    have hs : s.toNat ≤ 1 := by cases s <;> decide
    by_cases hc : c < 4503599627370496
    · exact ⟨s.toNat, 0, c, if_pos hc, hs, hc, Or.inl (by decide)⟩
    · exact ⟨s.toNat, (q - (-1074)).toNat + 1, c - 4503599627370496, if_neg hc, hs, by omega, Or.inl (by omega)⟩
theorem fp_nn {d : FP.Core.Datum} (h : fp_ok d) : (UInt64.ofNat (FP.Core.encode FP.Core.b64 d) &&& 0x7fffffffffffffff ≤ 0x7ff0000000000000) ∧ FP.Core.decode FP.Core.b64 (UInt64.ofNat (FP.Core.encode FP.Core.b64 d)).toNat ≠ .nan := by
  obtain ⟨s, e, t, hn, hs, ht, he⟩ := fp_enc h
  rw [hn]
  have hlt : (s * 2048 + e) * 4503599627370496 + t < 18446744073709551616 := by omega
  have htn : (UInt64.ofNat ((s * 2048 + e) * 4503599627370496 + t)).toNat = (s * 2048 + e) * 4503599627370496 + t := by
    rw [UInt64.toNat_ofNat']
    exact Nat.mod_eq_of_lt hlt
  constructor
  · rw [UInt64.le_iff_toNat_le, UInt64.toNat_and, htn]
    show ((s * 2048 + e) * 4503599627370496 + t) &&& (2 ^ 63 - 1) ≤ 9218868437227405312
    rw [Nat.and_two_pow_sub_one_eq_mod]
    omega
  · rw [htn]
    have hE : FP.Core.fieldE FP.Core.b64 ((s * 2048 + e) * 4503599627370496 + t) = e := by
      show ((s * 2048 + e) * 4503599627370496 + t) / 4503599627370496 % 2048 = e
      omega
    have hT : FP.Core.fieldT FP.Core.b64 ((s * 2048 + e) * 4503599627370496 + t) = t := by
      show ((s * 2048 + e) * 4503599627370496 + t) % 4503599627370496 = t
      omega
    unfold FP.Core.decode
    rw [hE, hT]
    have hx : FP.Core.b64.exps - 1 = 2047 := rfl
    rw [hx]
    split
    · rw [if_pos (by omega)]; exact fun z => by cases z
    · split <;> exact fun z => by cases z
theorem fp_settle (s : Bool) (c : Nat) (q : Int) : fp_ok (FP.Core.settle FP.Core.b64 s c q) := by
  have hq : FP.Core.b64.qmax = 971 := by decide
  unfold FP.Core.settle FP.Core.bound
  rw [hq]
  split
  · next h1 =>
    split
    · next h2 => exact ⟨h1, h2⟩
    · trivial
  · split
    · next h2 => exact ⟨by decide, h2⟩
    · trivial
theorem fp_ratio (s : Bool) (n d : Nat) (e : Int) : fp_ok (FP.Core.roundRatio FP.Core.b64 s n d e) := by
  unfold FP.Core.roundRatio
  split
  · exact ⟨by decide, by decide⟩
  · exact fp_settle _ _ _
theorem fp_quot {x : FP.Core.Datum} {t : Bool} {d : Nat} {r : Int} (hx : x ≠ .nan) (hd : d ≠ 0) : fp_ok (FP.Core.quotient FP.Core.b64 x (.fin t d r)) := by
  cases x with
  | nan => exact absurd rfl hx
  | inf s => trivial
  | fin s c q =>
    show fp_ok (if d = 0 then _ else _)
    rw [if_neg hd]
    exact fp_ratio _ _ _ _
theorem fp_i2d (x : Int32) : FP.Core.decode FP.Core.b64 (FP.Core.i2d x).toNat ≠ .nan := (fp_nn (d := FP.Core.round FP.Core.b64 (FP.Core.ofInt x.toInt)) (fp_ratio _ _ _ _)).2
def fp_pos (y : UInt64) : Bool := match FP.Core.decode FP.Core.b64 y.toNat with
  | .fin _ d _ => d != 0
  | _ => false
theorem fp_div {x : Int32} {y : UInt64} (hy : fp_pos y = true) : FP.Core.ddiv (FP.Core.i2d x) y &&& 0x7fffffffffffffff ≤ 0x7ff0000000000000 := by
  unfold fp_pos at hy
  have key : fp_ok (FP.Core.quotient FP.Core.b64 (FP.Core.decode FP.Core.b64 (FP.Core.i2d x).toNat) (FP.Core.decode FP.Core.b64 y.toNat)) := by
    cases h : FP.Core.decode FP.Core.b64 y.toNat with
    | nan => rw [h] at hy; cases hy
    | inf s => rw [h] at hy; cases hy
    | fin t d r =>
      rw [h] at hy
      exact fp_quot (fp_i2d x) (by intro z; subst z; cases hy)
  exact (fp_nn key).1
theorem fp_cnt : (List.range 547).all (fun n => n == 0 || fp_pos (FP.Core.i2d (Int32.ofInt n))) = true := by decide +kernel
theorem fp_mean {x : Int32} {n : Int} (h : 1 ≤ n ∧ n ≤ 546) : vf_n64 (FP.ddiv (FP.i2d x) (FP.i2d (zI n))) := by
  obtain ⟨k, rfl⟩ := Int.eq_ofNat_of_zero_le (show 0 ≤ n by omega)
  have t := List.all_eq_true.mp fp_cnt k (List.mem_range.mpr (by omega))
  rw [Bool.or_eq_true] at t
  rcases t with t | t
  · have : k = 0 := eq_of_beq t
    omega
  · exact fp_div t
/-- all rust, the balls of all piles -/
def rsA (a : St) : Nat → Int32
  | 0 => zI 0
  | n + 1 => rsA a n + sumN a n (bl a n).toNat
def meaV (a : St) : UInt64 := if blAll a (np a).toNat = 0 then FP.dconst0 else FP.ddiv (FP.i2d (rsA a (np a).toNat)) (FP.i2d (zI (blAll a (np a).toNat)))
theorem blA_b {a : St} (h : Inv a) : ∀ n : Nat, (n : Int) ≤ np a → 0 ≤ blAll a n ∧ blAll a n ≤ 91 * n
  | 0, _ => ⟨Int.le_refl _, Int.le_refl _⟩
  | n + 1, hn => by
    have ih := blA_b h n (by omega)
    have hP := (h.2.1 n (by omega)).1
    unfold PO at hP
    have hs := sq_le (e := sd a n) ⟨hP.1, hP.2.1⟩
    show 0 ≤ blAll a n + bl a n ∧ blAll a n + bl a n ≤ 91 * ((n + 1 : Nat) : Int)
    omega
section FPR
variable {p : Program} {l : Launch} {e : Env} {R : Room} {s : State} {m : MethodId} {args : Array Value} {below : List Frame} {meth : Method} {c : Code} {Q : State → Prop} {D : va_G} {tys : gT} {A : Nat → Prop} {ws : va_W} {nL : Nat} {cells slots pc : Nat} {lv : List (Nat × Value)} {st : List Value} {cc : ByteArray} {own : String} {Ts : List Cond} {ret : Option FieldType}
theorem g_i2d (E : GE p s m args meth c D tys cc nL own Ts ret) {x : Int32} (hdg : decode cc pc = .ok (.i2d, 1)) (kk : GW p l e R s m args below meth c Q D A nL ws cells slots (pc + 1) lv (.double (FP.i2d x) :: st)) : GW p l e R s m args below meth c Q D A nL ws cells slots pc lv (.int x :: st) :=
  fun H locs ls hP hD hS h => lv_i2d E.1 E.2.1 hdg (kk H locs ls hP hD hS h)
theorem g_dconst0 (E : GE p s m args meth c D tys cc nL own Ts ret) (hdg : decode cc pc = .ok (.dconst 0, 1)) (kk : GW p l e R s m args below meth c Q D A nL ws cells slots (pc + 1) lv (.double FP.dconst0 :: st)) : GW p l e R s m args below meth c Q D A nL ws cells slots pc lv st :=
  fun H locs ls hP hD hS h => lv_dconst0 E.1 E.2.1 hdg (kk H locs ls hP hD hS h)
theorem g_ddiv (E : GE p s m args meth c D tys cc nL own Ts ret) {x y : UInt64} (hne : vf_n64 (FP.ddiv x y)) (hdg : decode cc pc = .ok (.ddiv, 1)) (kk : GW p l e R s m args below meth c Q D A nL ws cells slots (pc + 1) lv (.double (FP.ddiv x y) :: st)) : GW p l e R s m args below meth c Q D A nL ws cells slots pc lv (.double y :: .double x :: st) :=
  fun H locs ls hP hD hS h => lv_ddiv E.1 E.2.1 hdg hne (kk H locs ls hP hD hS h)
theorem g_dret {post : UInt64 → va_W → Prop} {r : UInt64} (E : GE p s m args meth c D tys cc nL own Ts (some .double)) (hq : post r ws) (hdg : decode cc pc = .ok (.dreturn, 1)) : GW p l e R s m args below meth c (MQ below (va_Qd post (gB D A) A) args s cells slots A) D A nL ws cells slots pc lv [.double r] :=
  fun H locs ls hP hD hS h0 => W.dret E.1 E.2.1 E.2.2.2.2.2.2.1 (fun t ht hW => ⟨⟨r, ws, rfl, hq, by rw [ht]; exact hP, hD⟩, hS.F ht⟩) hS.2.2 hdg E.2.2.2.2.2.2.2
end FPR
set_option maxHeartbeats 800000 in
set_option maxRecDepth 100000 in
/-- mean() -/
theorem c_X4_mean (l : Launch) (D : va_G) (cA : Nat → ClassId) (A : Nat → Prop) (ad : Ad) (σ : Nat → St) (a : St) (hI : Inv a) : Met l yX4_mean wsX4_mean ({ frames := 2, cells := 0, slots := 0, locals := 43 }) (PcG D (tysX cA) A (wX cA ad (upY σ 0 a)) [.ref (ad 0 8 0)]) (va_Qd (fun (r : UInt64) ws' => r = meaV a ∧ ws' = wX cA ad (upY σ 0 a)) (gB D A) A) 0 0 A := by
  refine g_met (cc := cX4_mean) (maxL := 4) (ret := (some .double)) (own := RX4) rfl (by decide) rfl (Nat.le_of_ble_eq_true rfl) ?_
  intro p e s m below meth c E
  have hin1 : ∀ w ∈ u_ws RX1 TX1 4, w ∈ wsX4_mean := by decide +kernel
  have hin3 : ∀ w ∈ u_ws RX3 TX3 8, w ∈ wsX4_mean := by decide +kernel
  have hin4 : ∀ w ∈ u_ws RX4 TX4 6, w ∈ wsX4_mean := by decide +kernel
  obtain ⟨⟨hn0, hn6, hc0, hc3⟩, hPI, hCI, hFr⟩ := id hI
  refine g_loc (lv' := [(0, .ref (ad 0 8 0))]) ⟨rfl, trivial⟩ ?_
  refine g_iconst E dX4_mean_0 ?_
  refine g_istore_n E dX4_mean_1 (by decide) ?_
  refine g_iconst E dX4_mean_2 ?_
  refine g_istore_n E dX4_mean_3 (by decide) ?_
  refine g_iconst E dX4_mean_4 ?_
  refine g_istore_n E dX4_mean_5 (by decide) ?_
  have key_kk : ∀ (n_kk kk : Nat), (kk : Int) ≤ np a → np a + 1 ≤ (kk : Int) + n_kk → GW p l e (headSpec wsX4_mean ({ frames := 2, cells := 0, slots := 0, locals := 43 })).room s m ([.ref (ad 0 8 0)] : List Value).toArray below meth c (MQ below (va_Qd (fun (r : UInt64) ws' => r = meaV a ∧ ws' = wX cA ad (upY σ 0 a)) (gB D A) A) ([.ref (ad 0 8 0)] : List Value).toArray s 0 0 A) D A 4 (wX cA ad (upY σ 0 a)) 0 0 6 [(0, .ref (ad 0 8 0)), (1, .int (zI (blAll a kk))), (2, .int (rsA a kk)), (3, .int (zI (kk : Int)))] [] := by
    intro n_kk
    induction n_kk with
    | zero => intro kk h1 h2; exact absurd h2 (by omega)
    | succ n_kk ih_kk =>
      intro kk hle_kk hfu_kk
      have hbb := blA_b hI kk (by omega)
      have hpk : (kk : Int) < np a → PO a kk := fun h => (hPI kk h).1
      refine g_iload_n E dX4_mean_6 rfl ?_
      refine g_aload_n E dX4_mean_7 rfl ?_
      refine gx_Main_yard E mem_8 hin4 (by decide +kernel) dX4_mean_8 ?_
      refine gx_Yard_pileCount' E (mem_y _ (by omega)) hin3 (by decide +kernel) dX4_mean_11 ?_
      refine g_icmp_ge (tgt := 53) E dX4_mean_14 (by decide) (by omega) (by omega) (fun c_14 => ?_) (fun c_14 => ?_)
      · obtain rfl : kk = (np a).toNat := by omega
        refine g_iload_n E dX4_mean_53 rfl ?_
        refine g_if_ne (tgt := 61) E dX4_mean_54 (by decide) (by omega) (fun c_54 => ?_) (fun c_54 => ?_)
        · refine g_iload_n E dX4_mean_61 rfl ?_
          refine g_i2d E dX4_mean_62 ?_
          refine g_iload_n E dX4_mean_63 rfl ?_
          refine g_i2d E dX4_mean_64 ?_
          refine g_ddiv E (fp_mean (by omega)) dX4_mean_65 ?_
          exact g_dret E (⟨by rw [meaV]; first | exact (if_pos (by omega)).symm | exact (if_neg (by omega)).symm, rfl⟩) dX4_mean_66
        · refine g_dconst0 E dX4_mean_57 ?_
          refine g_goto (tgt := 66) E dX4_mean_58 (by decide) ?_
          exact g_dret E (⟨by rw [meaV]; first | exact (if_pos (by omega)).symm | exact (if_neg (by omega)).symm, rfl⟩) dX4_mean_66
      · have hPk := hpk (by omega)
        refine g_iload_n E dX4_mean_17 rfl ?_
        refine g_aload_n E dX4_mean_18 rfl ?_
        refine gx_Main_yard E mem_8 hin4 (by decide +kernel) dX4_mean_19 ?_
        refine gx_Yard_piles' E (mem_y _ (by omega)) hin3 (by decide +kernel) dX4_mean_22 ?_
        refine g_iload_n E dX4_mean_25 rfl ?_
        refine lx_10' E (mem_10 _ (by omega)) (by omega) dX4_mean_26 ?_
        refine g_top (v' := .ref (ad 0 1 kk)) rfl ?_
        refine gx_Pile_balls' E (mem_1 _ (by omega) _ (by omega)) hin1 (by decide +kernel) dX4_mean_27 ?_
        refine g_iadd E dX4_mean_30 ?_
        refine g_istore_n E dX4_mean_31 (by decide) ?_
        refine g_iload_n E dX4_mean_32 rfl ?_
        refine g_aload_n E dX4_mean_33 rfl ?_
        refine gx_Main_yard E mem_8 hin4 (by decide +kernel) dX4_mean_34 ?_
        refine gx_Yard_piles' E (mem_y _ (by omega)) hin3 (by decide +kernel) dX4_mean_37 ?_
        refine g_iload_n E dX4_mean_40 rfl ?_
        refine lx_10' E (mem_10 _ (by omega)) (by omega) dX4_mean_41 ?_
        refine g_top (v' := .ref (ad 0 1 kk)) rfl ?_
        refine g_callVi (T := TX1) (ci := 1) (n := 0) (As := []) (rest := _) E (c_X1_allRust l D cA A ad σ 0 kk a (by omega) (by omega) hPk) gX4_mean_X1_allRust rfl ⟨rfl, rfl⟩ (by decide +kernel) ⟨Nat.le_of_ble_eq_true rfl, Nat.le_of_ble_eq_true rfl⟩ (ob_1 (mem_1 _ (by omega) _ (by omega))) rfl rfl rfl (Nat.le_of_ble_eq_true rfl) ⟨Nat.le_of_ble_eq_true rfl, Nat.le_of_ble_eq_true rfl⟩ dX4_mean_42 ?_
        rintro r_42 ws_42 ⟨rfl, rfl⟩
        refine g_iaddR E dX4_mean_45 ?_
        refine g_istore_n E dX4_mean_46 (by decide) ?_
        refine g_iinc E dX4_mean_47 rfl (by decide) ?_
        refine g_goto (tgt := 6) E dX4_mean_50 (by decide) ?_
        refine g_loc (lv' := [(0, .ref (ad 0 8 0)), (1, .int (zI (blAll a (kk + 1)))), (2, .int (rsA a (kk + 1))), (3, .int (zI ((kk + 1) : Int)))]) ⟨rfl, rfl, rfl, rfl, trivial⟩ ?_
        exact ih_kk (kk + 1) (by omega) (by omega)
  refine g_loc (lv' := [(0, .ref (ad 0 8 0)), (1, .int (zI (blAll a 0))), (2, .int (rsA a 0)), (3, .int (zI (0 : Int)))]) ⟨rfl, rfl, rfl, rfl, trivial⟩ ?_
  exact key_kk ((np a) + 1).toNat.succ 0 (by omega) (by omega)
