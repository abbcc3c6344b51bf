/-! ===== the law's constructors ===== -/
theorem find5 {s : State} {cA : Nat → ClassId} {D : va_G} (hK : va_K D vwCl (tysX cA) s) (cN : ClassId) (h : va_RA s cN (.object RX7)) : cN = cA 5 := by
  obtain ⟨_, _, _, _, _, h1⟩ := h
  obtain ⟨_, _, _, _, _, h0⟩ : va_RA s (cA 5) (.object RX7) := (hK.2 5 (cA 5, .object RX7) rfl).2
  exact Option.some.inj (Eq.trans (Eq.symm h1) h0)
set_option maxHeartbeats 800000 in
set_option maxRecDepth 100000 in
/-- new Pile(c, s) of the law -/
theorem c_X7_init (l : Launch) (D : va_G) (cA : Nat → ClassId) (c9 s9 : Int) (hs : 1 ≤ s9 ∧ s9 ≤ 6) (sz b : Nat) : Met l yX7_init wsX7_init ({ frames := 1, cells := 93, slots := 455, locals := 20 }) (PcM D (tysX cA) sz (b, .inr (7, [.int 0, .int 0, .int 0, .null, .null])) [.ref b, .int (zI c9), .int (zI s9)]) ((va_Qv (fun w => ∃ (q1 q2 : Nat) (tr : Nat → Nat), w = wP cA b c9 s9 q1 q2 (sq s9).toNat tr) (gB D (va_A [(b, .inr (7, [.int 0, .int 0, .int 0, .null, .null]))] sz)) (va_A [(b, .inr (7, [.int 0, .int 0, .int 0, .null, .null]))] sz))) 93 455 (va_A [(b, .inr (7, [.int 0, .int 0, .int 0, .null, .null]))] sz) := by
  refine g_metM (cc := cX7_init) (maxL := 8) (ret := none) (own := RX7) rfl (by decide) rfl rfl (Nat.le_of_ble_eq_true rfl) ?_
  intro p e s m below meth c E hmn hA hO
  obtain ⟨A, hAe⟩ : ∃ A : Nat → Prop, va_A [(b, .inr (7, [.int 0, .int 0, .int 0, .null, .null]))] sz = A := ⟨_, rfl⟩
  rw [hAe] at hA ⊢
  have hin7 : ∀ w ∈ u_ws RX7 TX7 5, w ∈ wsX7_init := by decide +kernel
  have hsq := sq_le hs
  have hz := stz_z s9
  refine g_loc (lv' := [(0, .ref b), (1, .int (zI c9)), (2, .int (zI s9))]) ⟨rfl, rfl, rfl, trivial⟩ ?_
  refine g_aload_n E dX7_init_0 rfl ?_
  refine g_objInit E (by decide +kernel) (by decide +kernel) (by decide +kernel) (Nat.le_of_ble_eq_true rfl) (Nat.le_of_ble_eq_true rfl) dX7_init_1 ?_
  refine g_aload_n E dX7_init_4 rfl ?_
  refine g_iload_n E dX7_init_5 rfl ?_
  refine g_putfF (ty := .int) (k := 0) (ws' := [(b, .inr (7, [.int (zI c9), .int 0, .int 0, .null, .null]))]) E hmn hin7 (T := TX7) tyX7_ok nmX7 rfl (by decide) (by decide +kernel) rfl rfl (by decide +kernel) rfl rfl (Nat.le_of_ble_eq_true rfl) ⟨0, rfl, rfl⟩ dX7_init_6 ?_
  refine g_aload_n E dX7_init_9 rfl ?_
  refine g_iload_n E dX7_init_10 rfl ?_
  refine g_putfF (ty := .int) (k := 1) (ws' := [(b, .inr (7, [.int (zI c9), .int (zI s9), .int 0, .null, .null]))]) E hmn hin7 (T := TX7) tyX7_ok nmX7 rfl (by decide) (by decide +kernel) rfl rfl (by decide +kernel) rfl rfl (Nat.le_of_ble_eq_true rfl) ⟨0, rfl, rfl⟩ dX7_init_11 ?_
  refine g_iconst E dX7_init_14 ?_
  refine g_istore_n E dX7_init_15 (by decide) ?_
  refine g_iconst E dX7_init_16 ?_
  refine g_istore E dX7_init_17 (by decide) ?_
  refine g_wid (k := 0) (n := 0) (by omega) (by omega) ?_
  have key_kk : ∀ (n_kk kk : Nat), (kk : Int) ≤ s9 → s9 + 1 ≤ (kk : Int) + n_kk → GW p l e (headSpec wsX7_init ({ frames := 1, cells := 93, slots := 455, locals := 20 })).room s m ([.ref b, .int (zI c9), .int (zI s9)] : List Value).toArray below meth c (MQ below ((va_Qv (fun w => ∃ (q1 q2 : Nat) (tr : Nat → Nat), w = wP cA b c9 s9 q1 q2 (sq s9).toNat tr) (gB D A) A)) ([.ref b, .int (zI c9), .int (zI s9)] : List Value).toArray s 93 455 A) D A 8 ([(b, .inr (7, [.int (zI c9), .int (zI s9), .int 0, .null, .null]))]) (0) (0) 19 [(0, .ref b), (1, .int (zI c9)), (2, .int (zI s9)), (3, .int (zI (sq (kk : Int)))), (4, .int (zI ((kk : Int) + 1)))] [] := by
    intro n_kk
    induction n_kk with
    | zero => intro kk h1 h2; exact absurd h2 (by omega)
    | succ n_kk ih_kk =>
      intro kk hle_kk hfu_kk
      have hq1 := sq_b3 kk (by omega)
      have hq2 := mul_b (x := (kk : Int) + 1) (y := (kk : Int) + 1) (by omega) (by omega)
      refine g_iload E dX7_init_19 rfl ?_
      refine g_iload_n E dX7_init_21 rfl ?_
      refine g_icmp_gt (tgt := 39) E dX7_init_22 (by decide) (by omega) (by omega) (fun c_22 => ?_) (fun c_22 => ?_)
      · obtain ⟨tr, htr0⟩ : ∃ tr : Nat → Nat, tr = fun _ => 0 := ⟨_, rfl⟩; obtain hke : ((kk : Int)) = s9 := (by omega)
        refine g_aload_n E dX7_init_39 rfl ?_
        refine g_iload_n E dX7_init_40 rfl ?_
        refine g_top (v' := .int (zI (((sq s9).toNat : Nat) : Int))) (by rw [Int.toNat_of_nonneg (by omega), hke]) ?_
        refine g_newa E hA (by decide +kernel) (by omega) (by show (_ : Nat) ≤ 93; omega) (by show (_ : Nat) ≤ 455; omega) dX7_init_41 (fun q1 => ?_)
        refine g_putfF (ty := .array .int) (k := 3) (ws' := [(b, .inr (7, [.int (zI c9), .int (zI s9), .int 0, .ref q1, .null])), (q1, .inl (cA 0, (sq s9).toNat, .inl (fun _ => 0)))]) E hmn hin7 (T := TX7) tyX7_ok nmX7 rfl (by decide) (by decide +kernel) rfl rfl (by decide +kernel) rfl rfl (Nat.le_of_ble_eq_true rfl) ⟨0, rfl, rfl⟩ dX7_init_43 ?_
        refine g_aload_n E dX7_init_46 rfl ?_
        refine g_iload_n E dX7_init_47 rfl ?_
        refine g_top (v' := .int (zI (((sq s9).toNat : Nat) : Int))) (by rw [Int.toNat_of_nonneg (by omega), hke]) ?_
        refine g_newA E hA hO.2 (by decide +kernel) (by omega) (by show (_ : Nat) ≤ 93; omega) (by show (_ : Nat) ≤ 455; omega) dX7_init_48 (fun q2 => ?_)
        refine g_putfF (ty := .array (.array .int)) (k := 4) (ws' := [(b, .inr (7, [.int (zI c9), .int (zI s9), .int 0, .ref q1, .ref q2])), (q1, .inl (cA 0, (sq s9).toNat, .inl (fun _ => 0))), (q2, .inl (cA 6, (sq s9).toNat, .inr (.inr (.inr (.inr (fun _ => none))))))]) E hmn hin7 (T := TX7) tyX7_ok nmX7 rfl (by decide) (by decide +kernel) rfl rfl (by decide +kernel) rfl rfl (Nat.le_of_ble_eq_true rfl) ⟨0, rfl, rfl⟩ dX7_init_51 ?_
        refine g_iconst E dX7_init_54 ?_
        refine g_istore E dX7_init_55 (by decide) ?_
        refine g_iconst E dX7_init_57 ?_
        refine g_istore E dX7_init_58 (by decide) ?_
        refine g_wid (k := 2 + (stz s9 (0 : Int)).toNat) (n := 182 + 3 * (stz s9 (0 : Int)).toNat) (by omega) (by omega) ?_
        have key_ll : ∀ (n_ll ll : Nat), (ll : Int) ≤ s9 → s9 + 1 ≤ (ll : Int) + n_ll → (tr : Nat → Nat) → GW p l e (headSpec wsX7_init ({ frames := 1, cells := 93, slots := 455, locals := 20 })).room s m ([.ref b, .int (zI c9), .int (zI s9)] : List Value).toArray below meth c (MQ below ((va_Qv (fun w => ∃ (q1 q2 : Nat) (tr : Nat → Nat), w = wP cA b c9 s9 q1 q2 (sq s9).toNat tr) (gB D A) A)) ([.ref b, .int (zI c9), .int (zI s9)] : List Value).toArray s 93 455 A) D A 8 (wP cA b c9 s9 q1 q2 (stz s9 (ll : Int)).toNat tr) (2 + (stz s9 (ll : Int)).toNat) (182 + 3 * (stz s9 (ll : Int)).toNat) 60 [(0, .ref b), (1, .int (zI c9)), (2, .int (zI s9)), (3, .int (zI (sq s9))), (4, .int (zI (stz s9 (ll : Int)))), (5, .int (zI (ll : Int)))] [] := by
          intro n_ll
          induction n_ll with
          | zero => intro ll h1 h2; exact absurd h2 (by omega)
          | succ n_ll ih_ll =>
            intro ll hle_ll hfu_ll hi0_ll
            obtain ⟨tr, htr⟩ : ∃ tr : Nat → Nat, tr = hi0_ll := ⟨_, rfl⟩
            subst htr
            have hsl := stz_b (i := s9.toNat) (k := (ll : Int)) (by omega) (by omega)
            rw [Int.toNat_of_nonneg (by omega)] at hsl
            refine g_iload E dX7_init_60 rfl ?_
            refine g_iload_n E dX7_init_62 rfl ?_
            refine g_icmp_ge (tgt := 136) E dX7_init_63 (by decide) (by omega) (by omega) (fun c_63 => ?_) (fun c_63 => ?_)
            · refine g_wid (k := 93) (n := 455) (by omega) (by omega) ?_
              exact g_vret E (⟨q1, q2, tr, by rw [show ((ll : Int)) = s9 by omega, stz_e]⟩) dX7_init_136
            · refine g_iconst E dX7_init_66 ?_
              refine g_istore E dX7_init_67 (by decide) ?_
              refine g_wid (k := 2 + ((stz s9 ll + (s9 - (ll : Int)) * (0 : Int))).toNat) (n := 182 + 3 * ((stz s9 ll + (s9 - (ll : Int)) * (0 : Int))).toNat) (by omega) (by omega) ?_
              have key_rr : ∀ (n_rr rr : Nat), (rr : Int) ≤ (s9 - (ll : Int)) → (s9 - (ll : Int)) + 1 ≤ (rr : Int) + n_rr → (tr : Nat → Nat) → GW p l e (headSpec wsX7_init ({ frames := 1, cells := 93, slots := 455, locals := 20 })).room s m ([.ref b, .int (zI c9), .int (zI s9)] : List Value).toArray below meth c (MQ below ((va_Qv (fun w => ∃ (q1 q2 : Nat) (tr : Nat → Nat), w = wP cA b c9 s9 q1 q2 (sq s9).toNat tr) (gB D A) A)) ([.ref b, .int (zI c9), .int (zI s9)] : List Value).toArray s 93 455 A) D A 8 (wP cA b c9 s9 q1 q2 ((stz s9 ll + (s9 - (ll : Int)) * (rr : Int))).toNat tr) (2 + ((stz s9 ll + (s9 - (ll : Int)) * (rr : Int))).toNat) (182 + 3 * ((stz s9 ll + (s9 - (ll : Int)) * (rr : Int))).toNat) 69 [(0, .ref b), (1, .int (zI c9)), (2, .int (zI s9)), (3, .int (zI (sq s9))), (4, .int (zI (stz s9 ll + (s9 - (ll : Int)) * (rr : Int)))), (5, .int (zI (ll : Int))), (6, .int (zI (rr : Int)))] [] := by
                intro n_rr
                induction n_rr with
                | zero => intro rr h1 h2; exact absurd h2 (by omega)
                | succ n_rr ih_rr =>
                  intro rr hle_rr hfu_rr hi0_rr
                  obtain ⟨tr, htr⟩ : ∃ tr : Nat → Nat, tr = hi0_rr := ⟨_, rfl⟩
                  subst htr
                  have hmr : 0 ≤ (s9 - (ll : Int)) * (rr : Int) ∧ (s9 - (ll : Int)) * (rr : Int) ≤ 49 := mul_b (by omega) (by omega)
                  have hmz : (s9 - (ll : Int)) * (0 : Int) = 0 := Int.mul_zero _
                  refine g_iload E dX7_init_69 rfl ?_
                  refine g_iload_n E dX7_init_71 rfl ?_
                  refine g_iload E dX7_init_72 rfl ?_
                  refine g_isub E dX7_init_74 ?_
                  refine g_icmp_ge (tgt := 130) E dX7_init_75 (by decide) (by omega) (by omega) (fun c_75 => ?_) (fun c_75 => ?_)
                  · have hre : (rr : Int) = s9 - (ll : Int) := (by omega); have hst0 := stz_s hs (l := (ll : Int)) (by omega); have hst1 : (stz s9 ll + (s9 - (ll : Int)) * (rr : Int)) = stz s9 ((ll : Int) + 1) := (by rw [hst0, hre])
                    refine g_iinc E dX7_init_130 rfl (by decide) ?_
                    refine g_goto (tgt := 60) E dX7_init_133 (by decide) ?_
                    refine g_wid (k := 2 + (stz s9 ((ll + 1) : Int)).toNat) (n := 182 + 3 * (stz s9 ((ll + 1) : Int)).toNat) (by omega) (by omega) ?_
                    refine g_st (ws' := wP cA b c9 s9 q1 q2 (stz s9 ((ll + 1) : Int)).toNat tr) (congrArg (fun n : Int => wP cA b c9 s9 q1 q2 n.toNat tr) (hst1)) rfl rfl ?_
                    refine g_loc (lv' := [(0, .ref b), (1, .int (zI c9)), (2, .int (zI s9)), (3, .int (zI (sq s9))), (4, .int (zI (stz s9 ((ll + 1) : Int)))), (5, .int (zI ((ll + 1) : Int)))]) ⟨rfl, rfl, rfl, rfl, congrArg (fun z : Int => some (Value.int (zI z))) hst1, rfl, trivial⟩ ?_
                    exact ih_ll (ll + 1) (by omega) (by omega) (tr)
                  · refine g_iconst E dX7_init_78 ?_
                    refine g_istore E dX7_init_79 (by decide) ?_
                    refine g_wid (k := 2 + ((stz s9 ll + (s9 - (ll : Int)) * (rr : Int) + (0 : Int))).toNat) (n := 182 + 3 * ((stz s9 ll + (s9 - (ll : Int)) * (rr : Int) + (0 : Int))).toNat) (by omega) (by omega) ?_
                    have key_qq : ∀ (n_qq qq : Nat), (qq : Int) ≤ (s9 - (ll : Int)) → (s9 - (ll : Int)) + 1 ≤ (qq : Int) + n_qq → (tr : Nat → Nat) → GW p l e (headSpec wsX7_init ({ frames := 1, cells := 93, slots := 455, locals := 20 })).room s m ([.ref b, .int (zI c9), .int (zI s9)] : List Value).toArray below meth c (MQ below ((va_Qv (fun w => ∃ (q1 q2 : Nat) (tr : Nat → Nat), w = wP cA b c9 s9 q1 q2 (sq s9).toNat tr) (gB D A) A)) ([.ref b, .int (zI c9), .int (zI s9)] : List Value).toArray s 93 455 A) D A 8 (wP cA b c9 s9 q1 q2 ((stz s9 ll + (s9 - (ll : Int)) * (rr : Int) + (qq : Int))).toNat tr) (2 + ((stz s9 ll + (s9 - (ll : Int)) * (rr : Int) + (qq : Int))).toNat) (182 + 3 * ((stz s9 ll + (s9 - (ll : Int)) * (rr : Int) + (qq : Int))).toNat) 81 [(0, .ref b), (1, .int (zI c9)), (2, .int (zI s9)), (3, .int (zI (sq s9))), (4, .int (zI (stz s9 ll + (s9 - (ll : Int)) * (rr : Int) + (qq : Int)))), (5, .int (zI (ll : Int))), (6, .int (zI (rr : Int))), (7, .int (zI (qq : Int)))] [] := by
                      intro n_qq
                      induction n_qq with
                      | zero => intro qq h1 h2; exact absurd h2 (by omega)
                      | succ n_qq ih_qq =>
                        intro qq hle_qq hfu_qq hi0_qq
                        obtain ⟨tr, htr⟩ : ∃ tr : Nat → Nat, tr = hi0_qq := ⟨_, rfl⟩
                        subst htr
                        refine g_iload E dX7_init_81 rfl ?_
                        refine g_iload_n E dX7_init_83 rfl ?_
                        refine g_iload E dX7_init_84 rfl ?_
                        refine g_isub E dX7_init_86 ?_
                        refine g_icmp_ge (tgt := 124) E dX7_init_87 (by decide) (by omega) (by omega) (fun c_87 => ?_) (fun c_87 => ?_)
                        · obtain ⟨hqe, -⟩ : (qq : Int) = s9 - (ll : Int) ∧ True := ⟨by omega, trivial⟩; have hmu : (s9 - (ll : Int)) * ((rr : Int) + 1) = (s9 - (ll : Int)) * (rr : Int) + (s9 - (ll : Int)) := (by rw [Int.mul_add, Int.mul_one]); have hrt1 : (stz s9 ll + (s9 - (ll : Int)) * (rr : Int) + (qq : Int)) = stz s9 ll + (s9 - (ll : Int)) * ((rr : Int) + 1) := (by omega)
                          refine g_iinc E dX7_init_124 rfl (by decide) ?_
                          refine g_goto (tgt := 69) E dX7_init_127 (by decide) ?_
                          refine g_wid (k := 2 + ((stz s9 ll + (s9 - (ll : Int)) * ((rr + 1) : Int))).toNat) (n := 182 + 3 * ((stz s9 ll + (s9 - (ll : Int)) * ((rr + 1) : Int))).toNat) (by omega) (by omega) ?_
                          refine g_st (ws' := wP cA b c9 s9 q1 q2 ((stz s9 ll + (s9 - (ll : Int)) * ((rr + 1) : Int))).toNat tr) (congrArg (fun n : Int => wP cA b c9 s9 q1 q2 n.toNat tr) hrt1) rfl rfl ?_
                          refine g_loc (lv' := [(0, .ref b), (1, .int (zI c9)), (2, .int (zI s9)), (3, .int (zI (sq s9))), (4, .int (zI (stz s9 ll + (s9 - (ll : Int)) * ((rr + 1) : Int)))), (5, .int (zI (ll : Int))), (6, .int (zI ((rr + 1) : Int)))]) ⟨rfl, rfl, rfl, rfl, congrArg (fun z : Int => some (Value.int (zI z))) hrt1, rfl, rfl, trivial⟩ ?_
                          exact ih_rr (rr + 1) (by omega) (by omega) (tr)
                        · have hm := num_c hs (l := (ll : Int)) (r := (rr : Int)) (q := (qq : Int)) (by omega) (by omega) (by omega)
                          refine g_aload_n E dX7_init_90 rfl ?_
                          refine g_getf E hin7 (T := TX7) rfl ⟨0, rfl⟩ 4 (by decide) (by decide +kernel) rfl rfl dX7_init_91 ?_
                          refine g_iload E dX7_init_94 rfl ?_
                          refine g_iconst E dX7_init_96 ?_
                          refine g_top (v' := .int (zI ((3 : Nat) : Int))) rfl ?_
                          refine g_newa E hA (by decide +kernel) (by omega) (by show (_ : Nat) ≤ 93; omega) (by show (_ : Nat) ≤ 455; omega) dX7_init_97 (fun q3 => ?_)
                          refine g_dup E dX7_init_99 rfl ?_
                          refine g_iconst E dX7_init_100 ?_
                          refine g_iload E dX7_init_101 rfl ?_
                          refine g_iast E 0 rfl (by omega) (by omega) (se_r (se_i 0 rfl rfl)) dX7_init_103 ?_
                          refine g_dup E dX7_init_104 rfl ?_
                          refine g_iconst E dX7_init_105 ?_
                          refine g_iload E dX7_init_106 rfl ?_
                          refine g_iast E 0 rfl (by omega) (by omega) (se_r (se_i 0 rfl rfl)) dX7_init_108 ?_
                          refine g_dup E dX7_init_109 rfl ?_
                          refine g_iconst E dX7_init_110 ?_
                          refine g_iload E dX7_init_111 rfl ?_
                          refine g_iast E 0 rfl (by omega) (by omega) (se_r (se_i 0 rfl rfl)) dX7_init_113 ?_
                          refine g_aastA E hO.2 ⟨(_, _), rfl⟩ (at_r (at_i 0 rfl)) (by omega) (by omega) (se_l (se_i 2 rfl rfl)) dX7_init_114 ?_
                          refine g_st (ws' := wP cA b c9 s9 q1 q2 ((stz s9 ll + (s9 - (ll : Int)) * (rr : Int) + (qq : Int)).toNat + 1) (va_up tr (stz s9 ll + (s9 - (ll : Int)) * (rr : Int) + (qq : Int)).toNat q3)) (wP_s cA b c9 s9 q1 q2 _ q3 tr (by rw [Int.toNat_of_nonneg hm.1]; exact hm.2.2.1) (by rw [Int.toNat_of_nonneg hm.1]; exact hm.2.2.2.1) (by rw [Int.toNat_of_nonneg hm.1]; exact hm.2.2.2.2)) rfl rfl ?_
                          obtain ⟨tr, htr⟩ : ∃ tr9 : Nat → Nat, va_up tr (stz s9 ll + (s9 - (ll : Int)) * (rr : Int) + (qq : Int)).toNat q3 = tr9 := ⟨_, rfl⟩
                          rw [htr]
                          refine g_iinc E dX7_init_115 rfl (by decide) ?_
                          refine g_iinc E dX7_init_118 rfl (by decide) ?_
                          refine g_goto (tgt := 81) E dX7_init_121 (by decide) ?_
                          refine g_wid (k := 2 + ((stz s9 ll + (s9 - (ll : Int)) * (rr : Int) + ((qq + 1) : Int))).toNat) (n := 182 + 3 * ((stz s9 ll + (s9 - (ll : Int)) * (rr : Int) + ((qq + 1) : Int))).toNat) (by omega) (by omega) ?_
                          refine g_st (ws' := wP cA b c9 s9 q1 q2 ((stz s9 ll + (s9 - (ll : Int)) * (rr : Int) + ((qq + 1) : Int))).toNat tr) (congrArg (fun n : Nat => wP cA b c9 s9 q1 q2 n tr) (by omega)) rfl rfl ?_
                          refine g_loc (lv' := [(0, .ref b), (1, .int (zI c9)), (2, .int (zI s9)), (3, .int (zI (sq s9))), (4, .int (zI (stz s9 ll + (s9 - (ll : Int)) * (rr : Int) + ((qq + 1) : Int)))), (5, .int (zI (ll : Int))), (6, .int (zI (rr : Int))), (7, .int (zI ((qq + 1) : Int)))]) ⟨rfl, rfl, rfl, rfl, congrArg (fun z : Int => some (Value.int (zI z))) (by omega), rfl, rfl, rfl, trivial⟩ ?_
                          exact ih_qq (qq + 1) (by omega) (by omega) (tr)
                    refine g_st (ws' := wP cA b c9 s9 q1 q2 ((stz s9 ll + (s9 - (ll : Int)) * (rr : Int) + (0 : Int))).toNat tr) (congrArg (fun n : Int => wP cA b c9 s9 q1 q2 n.toNat tr) (by omega)) rfl rfl ?_
                    refine g_loc (lv' := [(0, .ref b), (1, .int (zI c9)), (2, .int (zI s9)), (3, .int (zI (sq s9))), (4, .int (zI (stz s9 ll + (s9 - (ll : Int)) * (rr : Int) + (0 : Int)))), (5, .int (zI (ll : Int))), (6, .int (zI (rr : Int))), (7, .int (zI (0 : Int)))]) ⟨rfl, rfl, rfl, rfl, congrArg (fun z : Int => some (Value.int (zI z))) (by omega), rfl, rfl, rfl, trivial⟩ ?_
                    exact key_qq (((s9 - (ll : Int))) + 1).toNat.succ 0 (by omega) (by omega) (tr)
              refine g_st (ws' := wP cA b c9 s9 q1 q2 ((stz s9 ll + (s9 - (ll : Int)) * (0 : Int))).toNat tr) (congrArg (fun n : Int => wP cA b c9 s9 q1 q2 n.toNat tr) (by have hmz : (s9 - (ll : Int)) * (0 : Int) = 0 := Int.mul_zero _; omega)) rfl rfl ?_
              refine g_loc (lv' := [(0, .ref b), (1, .int (zI c9)), (2, .int (zI s9)), (3, .int (zI (sq s9))), (4, .int (zI (stz s9 ll + (s9 - (ll : Int)) * (0 : Int)))), (5, .int (zI (ll : Int))), (6, .int (zI (0 : Int)))]) ⟨rfl, rfl, rfl, rfl, congrArg (fun z : Int => some (Value.int (zI z))) (by have hmz : (s9 - (ll : Int)) * (0 : Int) = 0 := Int.mul_zero _; omega), rfl, rfl, trivial⟩ ?_
              exact key_rr (((s9 - (ll : Int))) + 1).toNat.succ 0 (by omega) (by omega) (tr)
        refine g_st (ws' := wP cA b c9 s9 q1 q2 (stz s9 (0 : Int)).toNat tr) (by rw [show (stz s9 (0 : Int)).toNat = 0 by rw [hz]; rfl]; exact wP_0 cA b c9 s9 q1 q2 tr) rfl rfl ?_
        refine g_loc (lv' := [(0, .ref b), (1, .int (zI c9)), (2, .int (zI s9)), (3, .int (zI (sq s9))), (4, .int (zI (stz s9 (0 : Int)))), (5, .int (zI (0 : Int)))]) ⟨rfl, rfl, rfl, by rw [← hke]; rfl, by rw [hz]; rfl, rfl, trivial⟩ ?_
        exact key_ll ((s9) + 1).toNat.succ 0 (by omega) (by omega) (tr)
      · refine g_iload_n E dX7_init_25 rfl ?_
        refine g_iload E dX7_init_26 rfl ?_
        refine g_iload E dX7_init_28 rfl ?_
        refine g_imul E dX7_init_30 ?_
        refine g_iadd E dX7_init_31 ?_
        refine g_istore_n E dX7_init_32 (by decide) ?_
        refine g_iinc E dX7_init_33 rfl (by decide) ?_
        refine g_goto (tgt := 19) E dX7_init_36 (by decide) ?_
        refine g_wid (k := 0) (n := 0) (by omega) (by omega) ?_
        refine g_loc (lv' := [(0, .ref b), (1, .int (zI c9)), (2, .int (zI s9)), (3, .int (zI (sq ((kk + 1) : Int)))), (4, .int (zI (((kk + 1) : Int) + 1)))]) ⟨rfl, rfl, rfl, congrArg (fun z : Int => some (Value.int (zI z))) ((sq_s kk (by omega)).symm), rfl, trivial⟩ ?_
        exact ih_kk (kk + 1) (by omega) (by omega)
  refine g_loc (lv' := [(0, .ref b), (1, .int (zI c9)), (2, .int (zI s9)), (3, .int (zI (sq (0 : Int)))), (4, .int (zI ((0 : Int) + 1)))]) ⟨rfl, rfl, rfl, rfl, rfl, trivial⟩ ?_
  exact key_kk ((s9) + 1).toNat.succ 0 (by omega) (by omega)
set_option maxHeartbeats 800000 in
set_option maxRecDepth 100000 in
/-- new Sim() -/
theorem c_X5_init (l : Launch) (D : va_G) (cA : Nat → ClassId) (sz b : Nat) : Met l yX5_init wsX5_init ({ frames := 1, cells := 6, slots := 20, locals := 20 }) (PcM D (tysX cA) sz (b, .inr (5, [.int 0, .int 0, .int 0, .null, .null, .null, .null, .null, .null])) [.ref b]) ((va_Qv (fun w => ∃ (q1 q2 q3 q4 q5 q6 : Nat), w = [(b, .inr (5, [.int 0, .int 0, .int (zI 6), .ref q1, .ref q2, .ref q3, .ref q4, .ref q5, .ref q6])), (q1, .inl (cA 0, 5, .inl (fun _ => 0))), (q2, .inl (cA 0, 5, .inl (fun _ => 0))), (q3, .inl (cA 0, 5, .inl (fun _ => 0))), (q4, .inl (cA 0, 5, .inl (fun _ => 0))), (q5, .inl (cA 5, 0, .inr (.inr (.inr (.inr (fun _ => none)))))), (q6, .inl (cA 6, 0, .inr (.inr (.inr (.inr (fun _ => none))))))]) (gB D (va_A [(b, .inr (5, [.int 0, .int 0, .int 0, .null, .null, .null, .null, .null, .null]))] sz)) (va_A [(b, .inr (5, [.int 0, .int 0, .int 0, .null, .null, .null, .null, .null, .null]))] sz))) 6 20 (va_A [(b, .inr (5, [.int 0, .int 0, .int 0, .null, .null, .null, .null, .null, .null]))] sz) := by
  refine g_metM (cc := cX5_init) (maxL := 1) (ret := none) (own := RX5) rfl (by decide) rfl rfl (Nat.le_of_ble_eq_true rfl) ?_
  intro p e s m below meth c E hmn hA hO
  obtain ⟨A, hAe⟩ : ∃ A : Nat → Prop, va_A [(b, .inr (5, [.int 0, .int 0, .int 0, .null, .null, .null, .null, .null, .null]))] sz = A := ⟨_, rfl⟩
  rw [hAe] at hA ⊢
  have hin5 : ∀ w ∈ u_ws RX5 TX5 9, w ∈ wsX5_init := by decide +kernel
  refine g_loc (lv' := [(0, .ref b)]) ⟨rfl, trivial⟩ ?_
  refine g_aload_n E dX5_init_0 rfl ?_
  refine g_objInit E (by decide +kernel) (by decide +kernel) (by decide +kernel) (Nat.le_of_ble_eq_true rfl) (Nat.le_of_ble_eq_true rfl) dX5_init_1 ?_
  refine g_aload_n E dX5_init_4 rfl ?_
  refine g_bipush E dX5_init_5 (by decide) ?_
  refine g_putf (ty := .int) (k := 2) (ws' := [(b, .inr (5, [.int 0, .int 0, .int (zI 6), .null, .null, .null, .null, .null, .null]))]) E hin5 (T := TX5) tyX5_ok nmX5 rfl (by decide) (by decide +kernel) rfl rfl (by decide +kernel) rfl rfl (Nat.le_of_ble_eq_true rfl) ⟨0, rfl, rfl⟩ dX5_init_7 ?_
  refine g_aload_n E dX5_init_10 rfl ?_
  refine g_iconst E dX5_init_11 ?_
  refine g_top (v' := .int (zI ((5 : Nat) : Int))) rfl ?_
  refine g_newa E hA (by decide +kernel) (by omega) (by show (_ : Nat) ≤ 6; omega) (by show (_ : Nat) ≤ 20; omega) dX5_init_12 (fun q1 => ?_)
  refine g_putf (ty := .array .int) (k := 3) (ws' := [(b, .inr (5, [.int 0, .int 0, .int (zI 6), .ref q1, .null, .null, .null, .null, .null])), (q1, .inl (cA 0, 5, .inl (fun _ => 0)))]) E hin5 (T := TX5) tyX5_ok nmX5 rfl (by decide) (by decide +kernel) rfl rfl (by decide +kernel) rfl rfl (Nat.le_of_ble_eq_true rfl) ⟨0, rfl, rfl⟩ dX5_init_14 ?_
  refine g_aload_n E dX5_init_17 rfl ?_
  refine g_iconst E dX5_init_18 ?_
  refine g_top (v' := .int (zI ((5 : Nat) : Int))) rfl ?_
  refine g_newa E hA (by decide +kernel) (by omega) (by show (_ : Nat) ≤ 6; omega) (by show (_ : Nat) ≤ 20; omega) dX5_init_19 (fun q2 => ?_)
  refine g_putf (ty := .array .int) (k := 4) (ws' := [(b, .inr (5, [.int 0, .int 0, .int (zI 6), .ref q1, .ref q2, .null, .null, .null, .null])), (q1, .inl (cA 0, 5, .inl (fun _ => 0))), (q2, .inl (cA 0, 5, .inl (fun _ => 0)))]) E hin5 (T := TX5) tyX5_ok nmX5 rfl (by decide) (by decide +kernel) rfl rfl (by decide +kernel) rfl rfl (Nat.le_of_ble_eq_true rfl) ⟨0, rfl, rfl⟩ dX5_init_21 ?_
  refine g_aload_n E dX5_init_24 rfl ?_
  refine g_iconst E dX5_init_25 ?_
  refine g_top (v' := .int (zI ((5 : Nat) : Int))) rfl ?_
  refine g_newa E hA (by decide +kernel) (by omega) (by show (_ : Nat) ≤ 6; omega) (by show (_ : Nat) ≤ 20; omega) dX5_init_26 (fun q3 => ?_)
  refine g_putf (ty := .array .int) (k := 5) (ws' := [(b, .inr (5, [.int 0, .int 0, .int (zI 6), .ref q1, .ref q2, .ref q3, .null, .null, .null])), (q1, .inl (cA 0, 5, .inl (fun _ => 0))), (q2, .inl (cA 0, 5, .inl (fun _ => 0))), (q3, .inl (cA 0, 5, .inl (fun _ => 0)))]) E hin5 (T := TX5) tyX5_ok nmX5 rfl (by decide) (by decide +kernel) rfl rfl (by decide +kernel) rfl rfl (Nat.le_of_ble_eq_true rfl) ⟨0, rfl, rfl⟩ dX5_init_28 ?_
  refine g_aload_n E dX5_init_31 rfl ?_
  refine g_iconst E dX5_init_32 ?_
  refine g_top (v' := .int (zI ((5 : Nat) : Int))) rfl ?_
  refine g_newa E hA (by decide +kernel) (by omega) (by show (_ : Nat) ≤ 6; omega) (by show (_ : Nat) ≤ 20; omega) dX5_init_33 (fun q4 => ?_)
  refine g_putf (ty := .array .int) (k := 6) (ws' := [(b, .inr (5, [.int 0, .int 0, .int (zI 6), .ref q1, .ref q2, .ref q3, .ref q4, .null, .null])), (q1, .inl (cA 0, 5, .inl (fun _ => 0))), (q2, .inl (cA 0, 5, .inl (fun _ => 0))), (q3, .inl (cA 0, 5, .inl (fun _ => 0))), (q4, .inl (cA 0, 5, .inl (fun _ => 0)))]) E hin5 (T := TX5) tyX5_ok nmX5 rfl (by decide) (by decide +kernel) rfl rfl (by decide +kernel) rfl rfl (Nat.le_of_ble_eq_true rfl) ⟨0, rfl, rfl⟩ dX5_init_35 ?_
  refine g_aload_n E dX5_init_38 rfl ?_
  refine g_iconst E dX5_init_39 ?_
  refine g_top (v' := .int (zI ((0 : Nat) : Int))) rfl ?_
  refine g_newq E hA (by decide +kernel) hO.1 (find5 E.2.2.2.2.2.1.1) (by omega) (by show (_ : Nat) ≤ 6; omega) (by show (_ : Nat) ≤ 20; omega) dX5_init_40 (fun q5 => ?_)
  refine g_putf (ty := .array (.object "CannonStacksLaw$Pile")) (k := 7) (ws' := [(b, .inr (5, [.int 0, .int 0, .int (zI 6), .ref q1, .ref q2, .ref q3, .ref q4, .ref q5, .null])), (q1, .inl (cA 0, 5, .inl (fun _ => 0))), (q2, .inl (cA 0, 5, .inl (fun _ => 0))), (q3, .inl (cA 0, 5, .inl (fun _ => 0))), (q4, .inl (cA 0, 5, .inl (fun _ => 0))), (q5, .inl (cA 5, 0, .inr (.inr (.inr (.inr (fun _ => none))))))]) E hin5 (T := TX5) tyX5_ok nmX5 rfl (by decide) (by decide +kernel) rfl rfl (by decide +kernel) rfl rfl (Nat.le_of_ble_eq_true rfl) ⟨0, rfl, rfl⟩ dX5_init_43 ?_
  refine g_aload_n E dX5_init_46 rfl ?_
  refine g_iconst E dX5_init_47 ?_
  refine g_top (v' := .int (zI ((0 : Nat) : Int))) (rfl) ?_
  refine g_newA E hA hO.2 (by decide +kernel) (by omega) (by show (_ : Nat) ≤ 6; omega) (by show (_ : Nat) ≤ 20; omega) dX5_init_48 (fun q6 => ?_)
  refine g_putf (ty := .array (.array .int)) (k := 8) (ws' := [(b, .inr (5, [.int 0, .int 0, .int (zI 6), .ref q1, .ref q2, .ref q3, .ref q4, .ref q5, .ref q6])), (q1, .inl (cA 0, 5, .inl (fun _ => 0))), (q2, .inl (cA 0, 5, .inl (fun _ => 0))), (q3, .inl (cA 0, 5, .inl (fun _ => 0))), (q4, .inl (cA 0, 5, .inl (fun _ => 0))), (q5, .inl (cA 5, 0, .inr (.inr (.inr (.inr (fun _ => none)))))), (q6, .inl (cA 6, 0, .inr (.inr (.inr (.inr (fun _ => none))))))]) E hin5 (T := TX5) tyX5_ok nmX5 rfl (by decide) (by decide +kernel) rfl rfl (by decide +kernel) rfl rfl (Nat.le_of_ble_eq_true rfl) ⟨0, rfl, rfl⟩ dX5_init_51 ?_
  refine g_wid (k := 6) (n := 20) (by omega) (by omega) ?_
  exact g_vret E (⟨q1, q2, q3, q4, q5, q6, rfl⟩) dX5_init_54
