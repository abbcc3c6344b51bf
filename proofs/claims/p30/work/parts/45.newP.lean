/-! ===== NEW: a pyramid ===== -/
def idxB (e k r q : Nat) : Bool := decide (0 ≤ stz e k + (r : Int) * ((e : Int) - k) + q) && decide (stz e k + (r : Int) * ((e : Int) - k) + q < sq e)
theorem idxB_1 : (List.range 7).all (fun e => (List.range e).all (fun k => (List.range (e - k)).all (fun r => (List.range (e - k)).all (fun q => idxB e k r q)))) = true := by decide +kernel
theorem idx_krq {e k r q : Nat} (he : e < 7) (hk : k < e) (hr : r < e - k) (hq : q < e - k) : 0 ≤ stz e k + (r : Int) * ((e : Int) - k) + q ∧ stz e k + (r : Int) * ((e : Int) - k) + q < sq e := by
  have t := List.all_eq_true.mp idxB_1 e (List.mem_range.mpr he)
  have t := List.all_eq_true.mp t k (List.mem_range.mpr hk)
  have t := List.all_eq_true.mp t r (List.mem_range.mpr hr)
  have t := List.all_eq_true.mp t q (List.mem_range.mpr hq)
  simp only [idxB, Bool.and_eq_true, decide_eq_true_eq] at t
  exact t
theorem stz_00 {e : Int} : stz e 0 = 0 := by
  rw [stz, Int.sub_zero]
  omega
theorem stz_ee {e : Int} : stz e e = sq e := by
  rw [stz, Int.sub_self, show sq 0 = 0 by decide]
  omega
set_option maxHeartbeats 4000000 in
set_option maxRecDepth 100000 in
/-- new Pyramid(edge) -/
theorem c_X2_init (l : Launch) (D : va_G) (cA : Nat → ClassId) (i : Nat) (hi : 1 ≤ i ∧ i < 7) (sz b : Nat) : Met l yX2_init wsX2_init ({ frames := 1, cells := 2, slots := 98, locals := 23 }) (PcN D (tysX cA) sz (b, .inr (2, [.int 0, .int 0, .null, .null])) [.ref b, .int (zI (i : Int))]) (va_Qv (fun w => ∃ q1 q2 : Nat, w = [(b, .inr (2, [.int (zI (i : Int)), .int (zI (sq i)), .ref q1, .ref q2])), (q1, .inl (cA 0, i + 1, .inl (stF i (i + 1)))), (q2, .inl (cA 0, (sq i).toNat, .inl (cvF i (sq i))))]) (gB D (va_A [(b, .inr (2, [.int 0, .int 0, .null, .null]))] sz)) (va_A [(b, .inr (2, [.int 0, .int 0, .null, .null]))] sz)) 2 98 (va_A [(b, .inr (2, [.int 0, .int 0, .null, .null]))] sz) := by
  refine g_metN (cc := cX2_init) (maxL := 6) (ret := none) (own := RX2) rfl (by decide) rfl rfl (Nat.le_of_ble_eq_true rfl) ?_
  intro p e s m below meth c E hmn hA hO
  have hin2 : ∀ w ∈ u_ws RX2 TX2 4, w ∈ wsX2_init := by decide +kernel
  have hs := sq_le (e := i) (by omega)
  refine g_loc (lv' := [(0, .ref b), (1, .int (zI (i : Int)))]) ⟨rfl, rfl, trivial⟩ ?_
  refine g_aload_n E dX2_init_0 rfl ?_
  refine g_objInit E (by decide +kernel) (by decide +kernel) (by decide +kernel) (Nat.le_of_ble_eq_true rfl) (Nat.le_of_ble_eq_true rfl) dX2_init_1 ?_
  refine g_aload_n E dX2_init_4 rfl ?_
  refine g_iload_n E dX2_init_5 rfl ?_
  refine g_putfF (ty := .int) (k := 0) (ws' := [(b, .inr (2, [.int (zI (i : Int)), .int 0, .null, .null]))]) E hmn hin2 (T := TX2) tyX2_ok nmX2 rfl (by decide) (by decide +kernel) rfl rfl (by decide +kernel) rfl rfl (Nat.le_of_ble_eq_true rfl) ⟨0, rfl, rfl⟩ dX2_init_6 ?_
  refine g_aload_n E dX2_init_9 rfl ?_
  refine g_iload_n E dX2_init_10 rfl ?_
  refine g_callTi (n := 1) (As := [_]) (rest := _) E (c_X2_squares l D _ _ _ _ (by omega)) gX2_init_X2_squares rfl ⟨rfl, rfl⟩ (by decide +kernel) ⟨Nat.le_of_ble_eq_true rfl, Nat.le_of_ble_eq_true rfl⟩ rfl rfl (Nat.le_of_ble_eq_true rfl) ⟨by show _ ≤ 2; omega, by show _ ≤ 98; omega⟩ dX2_init_11 ?_
  rintro r_11 ws_11 ⟨rfl, rfl⟩
  refine g_putfF (ty := .int) (k := 1) (ws' := [(b, .inr (2, [.int (zI (i : Int)), .int (zI (sq i)), .null, .null]))]) E hmn hin2 (T := TX2) tyX2_ok nmX2 rfl (by decide) (by decide +kernel) rfl rfl (by decide +kernel) rfl rfl (Nat.le_of_ble_eq_true rfl) ⟨0, rfl, rfl⟩ dX2_init_14 ?_
  refine g_aload_n E dX2_init_17 rfl ?_
  refine g_iload_n E dX2_init_18 rfl ?_
  refine g_iconst E dX2_init_19 ?_
  refine g_iadd E dX2_init_20 ?_
  refine g_top (v' := .int (zI ((i + 1 : Nat) : Int))) (by rw [show ((i + 1 : Nat) : Int) = (i : Int) + 1 by omega]) ?_
  refine g_newa (n := i + 1) E hA (by decide +kernel) (by omega) (Nat.le_of_ble_eq_true rfl) (by show _ ≤ 98; omega) dX2_init_21 (fun q1 => ?_)
  refine g_putfF (ty := .array .int) (k := 2) (ws' := [(b, .inr (2, [.int (zI (i : Int)), .int (zI (sq i)), .ref q1, .null])), (q1, .inl (cA 0, i + 1, .inl (fun _ => 0)))]) E hmn hin2 (T := TX2) tyX2_ok nmX2 rfl (by decide) (by decide +kernel) rfl rfl (by decide +kernel) rfl rfl (Nat.le_of_ble_eq_true rfl) ⟨0, rfl, rfl⟩ dX2_init_23 ?_
  refine g_iconst E dX2_init_26 ?_
  refine g_istore_n E dX2_init_27 (by decide) ?_
  have key_kk : ∀ (n_kk kk : Nat), (kk : Int) ≤ (i : Int) + 1 → (i : Int) + 1 + 1 ≤ (kk : Int) + n_kk → GW p l e (headSpec wsX2_init ({ frames := 1, cells := 2, slots := 98, locals := 23 })).room s m ([.ref b, .int (zI (i : Int))] : List Value).toArray below meth c (MQ below (va_Qv (fun w => ∃ q1 q2 : Nat, w = [(b, .inr (2, [.int (zI (i : Int)), .int (zI (sq i)), .ref q1, .ref q2])), (q1, .inl (cA 0, i + 1, .inl (stF i (i + 1)))), (q2, .inl (cA 0, (sq i).toNat, .inl (cvF i (sq i))))]) (gB D (va_A [(b, .inr (2, [.int 0, .int 0, .null, .null]))] sz)) (va_A [(b, .inr (2, [.int 0, .int 0, .null, .null]))] sz)) ([.ref b, .int (zI (i : Int))] : List Value).toArray s 2 98 (va_A [(b, .inr (2, [.int 0, .int 0, .null, .null]))] sz)) D (va_A [(b, .inr (2, [.int 0, .int 0, .null, .null]))] sz) 6 ([(b, .inr (2, [.int (zI (i : Int)), .int (zI (sq i)), .ref q1, .null])), (q1, .inl (cA 0, i + 1, .inl (stF i kk)))]) (0 + 1) (0 + (i + 1)) 28 [(0, .ref b), (1, .int (zI (i : Int))), (2, .int (zI (kk : Int)))] [] := by
    intro n_kk
    induction n_kk with
    | zero => intro kk h1 h2; exact absurd h2 (by omega)
    | succ n_kk ih_kk =>
      intro kk hle_kk hfu_kk
      refine g_iload_n E dX2_init_28 rfl ?_
      refine g_iload_n E dX2_init_29 rfl ?_
      refine g_icmp_gt (tgt := 56) E dX2_init_30 (by decide) (by omega) (by omega) (fun c_30 => ?_) (fun c_30 => ?_)
      · obtain rfl : kk = i + 1 := by omega
        refine g_aload_n E dX2_init_56 rfl ?_
        refine g_aload_n E dX2_init_57 rfl ?_
        refine g_getf E hin2 (T := TX2) rfl ⟨0, rfl⟩ 1 (by decide) (by decide +kernel) rfl rfl dX2_init_58 ?_
        refine g_top (v' := .int (zI (((sq i).toNat : Nat) : Int))) (by rw [show (((sq i).toNat : Nat) : Int) = sq i by omega]) ?_
        refine g_newa (n := (sq i).toNat) E hA (by decide +kernel) (by omega) (Nat.le_of_ble_eq_true rfl) (by show _ ≤ 98; omega) dX2_init_61 (fun q2 => ?_)
        refine g_putfF (ty := .array .int) (k := 3) (ws' := [(b, .inr (2, [.int (zI (i : Int)), .int (zI (sq i)), .ref q1, .ref q2])), (q1, .inl (cA 0, i + 1, .inl (stF i (i + 1)))), (q2, .inl (cA 0, (sq i).toNat, .inl (fun _ => 0)))]) E hmn hin2 (T := TX2) tyX2_ok nmX2 rfl (by decide) (by decide +kernel) rfl rfl (by decide +kernel) rfl rfl (Nat.le_of_ble_eq_true rfl) ⟨0, rfl, rfl⟩ dX2_init_63 ?_
        refine g_iconst E dX2_init_66 ?_
        refine g_istore_n E dX2_init_67 (by decide) ?_
        have key_kk : ∀ (n_kk kk : Nat), (kk : Int) ≤ (i : Int) → (i : Int) + 1 ≤ (kk : Int) + n_kk → GW p l e (headSpec wsX2_init ({ frames := 1, cells := 2, slots := 98, locals := 23 })).room s m ([.ref b, .int (zI (i : Int))] : List Value).toArray below meth c (MQ below (va_Qv (fun w => ∃ q1 q2 : Nat, w = [(b, .inr (2, [.int (zI (i : Int)), .int (zI (sq i)), .ref q1, .ref q2])), (q1, .inl (cA 0, i + 1, .inl (stF i (i + 1)))), (q2, .inl (cA 0, (sq i).toNat, .inl (cvF i (sq i))))]) (gB D (va_A [(b, .inr (2, [.int 0, .int 0, .null, .null]))] sz)) (va_A [(b, .inr (2, [.int 0, .int 0, .null, .null]))] sz)) ([.ref b, .int (zI (i : Int))] : List Value).toArray s 2 98 (va_A [(b, .inr (2, [.int 0, .int 0, .null, .null]))] sz)) D (va_A [(b, .inr (2, [.int 0, .int 0, .null, .null]))] sz) 6 ([(b, .inr (2, [.int (zI (i : Int)), .int (zI (sq i)), .ref q1, .ref q2])), (q1, .inl (cA 0, i + 1, .inl (stF i (i + 1)))), (q2, .inl (cA 0, (sq i).toNat, .inl (cvF i (stz i kk))))]) (0 + 1 + 1) (0 + (i + 1) + (sq i).toNat) 68 [(0, .ref b), (1, .int (zI (i : Int))), (2, .int (zI (kk : Int)))] [] := by
          intro n_kk
          induction n_kk with
          | zero => intro kk h1 h2; exact absurd h2 (by omega)
          | succ n_kk ih_kk =>
            intro kk hle_kk hfu_kk
            refine g_iload_n E dX2_init_68 rfl ?_
            refine g_iload_n E dX2_init_69 rfl ?_
            refine g_icmp_ge (tgt := 162) E dX2_init_70 (by decide) (by omega) (by omega) (fun c_70 => ?_) (fun c_70 => ?_)
            · refine g_wid (k := 2) (n := 98) (Nat.le_of_ble_eq_true rfl) (by omega) ?_
              exact g_vret E ⟨q1, q2, by rw [show (kk : Int) = (i : Int) by omega, stz_ee]⟩ dX2_init_162
            · refine g_iload_n E dX2_init_73 rfl ?_
              refine g_iload_n E dX2_init_74 rfl ?_
              refine g_isub E dX2_init_75 ?_
              refine g_istore_n E dX2_init_76 (by decide) ?_
              refine g_iconst E dX2_init_77 ?_
              refine g_istore E dX2_init_78 (by decide) ?_
              have key_rr : ∀ (n_rr rr : Nat), (rr : Int) ≤ (i : Int) - kk → (i : Int) - kk + 1 ≤ (rr : Int) + n_rr → GW p l e (headSpec wsX2_init ({ frames := 1, cells := 2, slots := 98, locals := 23 })).room s m ([.ref b, .int (zI (i : Int))] : List Value).toArray below meth c (MQ below (va_Qv (fun w => ∃ q1 q2 : Nat, w = [(b, .inr (2, [.int (zI (i : Int)), .int (zI (sq i)), .ref q1, .ref q2])), (q1, .inl (cA 0, i + 1, .inl (stF i (i + 1)))), (q2, .inl (cA 0, (sq i).toNat, .inl (cvF i (sq i))))]) (gB D (va_A [(b, .inr (2, [.int 0, .int 0, .null, .null]))] sz)) (va_A [(b, .inr (2, [.int 0, .int 0, .null, .null]))] sz)) ([.ref b, .int (zI (i : Int))] : List Value).toArray s 2 98 (va_A [(b, .inr (2, [.int 0, .int 0, .null, .null]))] sz)) D (va_A [(b, .inr (2, [.int 0, .int 0, .null, .null]))] sz) 6 ([(b, .inr (2, [.int (zI (i : Int)), .int (zI (sq i)), .ref q1, .ref q2])), (q1, .inl (cA 0, i + 1, .inl (stF i (i + 1)))), (q2, .inl (cA 0, (sq i).toNat, .inl (cvF i (stz i kk + (rr : Int) * ((i : Int) - kk)))))]) (0 + 1 + 1) (0 + (i + 1) + (sq i).toNat) 80 [(0, .ref b), (1, .int (zI (i : Int))), (2, .int (zI (kk : Int))), (3, .int (zI ((i : Int) - kk))), (4, .int (zI (rr : Int)))] [] := by
                intro n_rr
                induction n_rr with
                | zero => intro rr h1 h2; exact absurd h2 (by omega)
                | succ n_rr ih_rr =>
                  intro rr hle_rr hfu_rr
                  refine g_iload E dX2_init_80 rfl ?_
                  refine g_iload_n E dX2_init_82 rfl ?_
                  refine g_icmp_ge (tgt := 156) E dX2_init_83 (by decide) (by omega) (by omega) (fun c_83 => ?_) (fun c_83 => ?_)
                  · refine g_iinc E dX2_init_156 rfl (by decide) ?_
                    refine g_goto (tgt := 68) E dX2_init_159 (by decide) ?_
                    refine g_st (ws' := [(b, .inr (2, [.int (zI (i : Int)), .int (zI (sq i)), .ref q1, .ref q2])), (q1, .inl (cA 0, i + 1, .inl (stF i (i + 1)))), (q2, .inl (cA 0, (sq i).toNat, .inl (cvF i (stz i (kk + 1)))))]) (by rw [show (rr : Int) = (i : Int) - kk by omega, stz_n i (by omega) kk (by omega)]) rfl rfl ?_
                    refine g_loc (lv' := [(0, .ref b), (1, .int (zI (i : Int))), (2, .int (zI ((kk + 1) : Int)))]) ⟨rfl, rfl, rfl, trivial⟩ ?_
                    exact ih_kk (kk + 1) (by omega) (by omega)
                  · refine g_iconst E dX2_init_86 ?_
                    refine g_istore E dX2_init_87 (by decide) ?_
                    have key_qq : ∀ (n_qq qq : Nat), (qq : Int) ≤ (i : Int) - kk → (i : Int) - kk + 1 ≤ (qq : Int) + n_qq → GW p l e (headSpec wsX2_init ({ frames := 1, cells := 2, slots := 98, locals := 23 })).room s m ([.ref b, .int (zI (i : Int))] : List Value).toArray below meth c (MQ below (va_Qv (fun w => ∃ q1 q2 : Nat, w = [(b, .inr (2, [.int (zI (i : Int)), .int (zI (sq i)), .ref q1, .ref q2])), (q1, .inl (cA 0, i + 1, .inl (stF i (i + 1)))), (q2, .inl (cA 0, (sq i).toNat, .inl (cvF i (sq i))))]) (gB D (va_A [(b, .inr (2, [.int 0, .int 0, .null, .null]))] sz)) (va_A [(b, .inr (2, [.int 0, .int 0, .null, .null]))] sz)) ([.ref b, .int (zI (i : Int))] : List Value).toArray s 2 98 (va_A [(b, .inr (2, [.int 0, .int 0, .null, .null]))] sz)) D (va_A [(b, .inr (2, [.int 0, .int 0, .null, .null]))] sz) 6 ([(b, .inr (2, [.int (zI (i : Int)), .int (zI (sq i)), .ref q1, .ref q2])), (q1, .inl (cA 0, i + 1, .inl (stF i (i + 1)))), (q2, .inl (cA 0, (sq i).toNat, .inl (cvF i (stz i kk + (rr : Int) * ((i : Int) - kk) + qq))))]) (0 + 1 + 1) (0 + (i + 1) + (sq i).toNat) 89 [(0, .ref b), (1, .int (zI (i : Int))), (2, .int (zI (kk : Int))), (3, .int (zI ((i : Int) - kk))), (4, .int (zI (rr : Int))), (5, .int (zI (qq : Int)))] [] := by
                      intro n_qq
                      induction n_qq with
                      | zero => intro qq h1 h2; exact absurd h2 (by omega)
                      | succ n_qq ih_qq =>
                        intro qq hle_qq hfu_qq
                        refine g_iload E dX2_init_89 rfl ?_
                        refine g_iload_n E dX2_init_91 rfl ?_
                        refine g_icmp_ge (tgt := 150) E dX2_init_92 (by decide) (by omega) (by omega) (fun c_92 => ?_) (fun c_92 => ?_)
                        · refine g_iinc E dX2_init_150 rfl (by decide) ?_
                          refine g_goto (tgt := 80) E dX2_init_153 (by decide) ?_
                          refine g_st (ws' := [(b, .inr (2, [.int (zI (i : Int)), .int (zI (sq i)), .ref q1, .ref q2])), (q1, .inl (cA 0, i + 1, .inl (stF i (i + 1)))), (q2, .inl (cA 0, (sq i).toNat, .inl (cvF i (stz i kk + ((rr + 1) : Int) * ((i : Int) - kk)))))]) (by rw [show stz i kk + (rr : Int) * ((i : Int) - kk) + qq = stz i kk + ((rr : Int) + 1) * ((i : Int) - kk) by rw [Int.add_mul]; omega]) rfl rfl ?_
                          refine g_loc (lv' := [(0, .ref b), (1, .int (zI (i : Int))), (2, .int (zI (kk : Int))), (3, .int (zI ((i : Int) - kk))), (4, .int (zI ((rr + 1) : Int)))]) ⟨rfl, rfl, rfl, rfl, rfl, trivial⟩ ?_
                          exact ih_rr (rr + 1) (by omega) (by omega)
                        · have hcov := cov_krq (e := i) (k := kk) (r := rr) (q := qq) (by omega) (by omega) (by omega) (by omega)
                          have hidx := idx_krq (e := i) (k := kk) (r := rr) (q := qq) (by omega) (by omega) (by omega) (by omega)
                          have hst104 : stF i (i + 1) ((kk : Int)).toNat = zI (stz i kk) := if_pos (show kk < i + 1 by omega)
                          have hst120 : stF i (i + 1) ((kk : Int) + 1).toNat = zI (stz i ((kk : Int) + 1)) := if_pos (show kk + 1 < i + 1 by omega)
                          refine g_aload_n E dX2_init_95 rfl ?_
                          refine g_getf E hin2 (T := TX2) rfl ⟨0, rfl⟩ 3 (by decide) (by decide +kernel) rfl rfl dX2_init_96 ?_
                          refine g_aload_n E dX2_init_99 rfl ?_
                          refine g_getf E hin2 (T := TX2) rfl ⟨0, rfl⟩ 2 (by decide) (by decide +kernel) rfl rfl dX2_init_100 ?_
                          refine g_iload_n E dX2_init_103 rfl ?_
                          refine g_iald E 0 rfl ⟨1, rfl⟩ (n := i + 1) (by omega) (by omega) hst104 dX2_init_104 ?_
                          refine g_iload E dX2_init_105 rfl ?_
                          refine g_iload_n E dX2_init_107 rfl ?_
                          refine g_imul E dX2_init_108 ?_
                          refine g_iadd E dX2_init_109 ?_
                          refine g_iload E dX2_init_110 rfl ?_
                          refine g_iadd E dX2_init_112 ?_
                          refine g_aload_n E dX2_init_113 rfl ?_
                          refine g_getf E hin2 (T := TX2) rfl ⟨0, rfl⟩ 2 (by decide) (by decide +kernel) rfl rfl dX2_init_114 ?_
                          refine g_iload_n E dX2_init_117 rfl ?_
                          refine g_iconst E dX2_init_118 ?_
                          refine g_iadd E dX2_init_119 ?_
                          refine g_iald E 0 rfl ⟨1, rfl⟩ (n := i + 1) (by omega) (by omega) hst120 dX2_init_120 ?_
                          refine g_iload E dX2_init_121 rfl ?_
                          refine g_iconst E dX2_init_123 ?_
                          refine g_isub E dX2_init_124 ?_
                          refine g_iconst E dX2_init_125 ?_
                          refine g_mmax E (by decide +kernel) (by decide +kernel) (by decide +kernel) (by decide +kernel) (Nat.le_of_ble_eq_true rfl) (Nat.le_of_ble_eq_true rfl) (Nat.le_of_ble_eq_true rfl) (by show _ ≤ 98; omega) dX2_init_126 ?_
                          refine g_top (congrArg Value.int (mxz (by omega) (by omega))) ?_
                          refine g_iload_n E dX2_init_129 rfl ?_
                          refine g_iconst E dX2_init_130 ?_
                          refine g_isub E dX2_init_131 ?_
                          refine g_imul E dX2_init_132 ?_
                          refine g_iadd E dX2_init_133 ?_
                          refine g_iload E dX2_init_134 rfl ?_
                          refine g_iconst E dX2_init_136 ?_
                          refine g_isub E dX2_init_137 ?_
                          refine g_iconst E dX2_init_138 ?_
                          refine g_mmax E (by decide +kernel) (by decide +kernel) (by decide +kernel) (by decide +kernel) (Nat.le_of_ble_eq_true rfl) (Nat.le_of_ble_eq_true rfl) (Nat.le_of_ble_eq_true rfl) (by show _ ≤ 98; omega) dX2_init_139 ?_
                          refine g_top (congrArg Value.int (mxz (by omega) (by omega))) ?_
                          refine g_iadd E dX2_init_142 ?_
                          refine g_iast E 0 rfl (n := (sq i).toNat) (ws' := [(b, .inr (2, [.int (zI (i : Int)), .int (zI (sq i)), .ref q1, .ref q2])), (q1, .inl (cA 0, i + 1, .inl (stF i (i + 1)))), (q2, .inl (cA 0, (sq i).toNat, .inl (cvF i (stz i kk + (rr : Int) * ((i : Int) - kk) + qq + 1))))]) (by omega) (by omega) ⟨2, rfl, congrArg (fun f9 : Nat → Int32 => ([(b, .inr (2, [.int (zI (i : Int)), .int (zI (sq i)), .ref q1, .ref q2])), (q1, .inl (cA 0, i + 1, .inl (stF i (i + 1)))), (q2, .inl (cA 0, (sq i).toNat, .inl (f9)))] : va_W)) (cvF_s (e := i) (n := stz i kk + (rr : Int) * ((i : Int) - kk) + qq) (by omega) (congrArg zI hcov.symm))⟩ dX2_init_143 ?_
                          refine g_iinc E dX2_init_144 rfl (by decide) ?_
                          refine g_goto (tgt := 89) E dX2_init_147 (by decide) ?_
                          refine g_st (ws' := [(b, .inr (2, [.int (zI (i : Int)), .int (zI (sq i)), .ref q1, .ref q2])), (q1, .inl (cA 0, i + 1, .inl (stF i (i + 1)))), (q2, .inl (cA 0, (sq i).toNat, .inl (cvF i (stz i kk + (rr : Int) * ((i : Int) - kk) + (qq + 1)))))]) (by rw [show stz i kk + (rr : Int) * ((i : Int) - kk) + qq + 1 = stz i kk + (rr : Int) * ((i : Int) - kk) + ((qq : Int) + 1) by omega]) rfl rfl ?_
                          refine g_loc (lv' := [(0, .ref b), (1, .int (zI (i : Int))), (2, .int (zI (kk : Int))), (3, .int (zI ((i : Int) - kk))), (4, .int (zI (rr : Int))), (5, .int (zI ((qq + 1) : Int)))]) ⟨rfl, rfl, rfl, rfl, rfl, rfl, trivial⟩ ?_
                          exact ih_qq (qq + 1) (by omega) (by omega)
                    refine g_st (ws' := [(b, .inr (2, [.int (zI (i : Int)), .int (zI (sq i)), .ref q1, .ref q2])), (q1, .inl (cA 0, i + 1, .inl (stF i (i + 1)))), (q2, .inl (cA 0, (sq i).toNat, .inl (cvF i (stz i kk + (rr : Int) * ((i : Int) - kk) + 0))))]) (by rw [show stz i kk + (rr : Int) * ((i : Int) - kk) + (0 : Int) = stz i kk + (rr : Int) * ((i : Int) - kk) by omega]) rfl rfl ?_
                    refine g_loc (lv' := [(0, .ref b), (1, .int (zI (i : Int))), (2, .int (zI (kk : Int))), (3, .int (zI ((i : Int) - kk))), (4, .int (zI (rr : Int))), (5, .int (zI (0 : Int)))]) ⟨rfl, rfl, rfl, rfl, rfl, rfl, trivial⟩ ?_
                    exact key_qq (((i : Int) - kk) + 1).toNat.succ 0 (by omega) (by omega)
              refine g_st (ws' := [(b, .inr (2, [.int (zI (i : Int)), .int (zI (sq i)), .ref q1, .ref q2])), (q1, .inl (cA 0, i + 1, .inl (stF i (i + 1)))), (q2, .inl (cA 0, (sq i).toNat, .inl (cvF i (stz i kk + (0 : Int) * ((i : Int) - kk)))))]) (by rw [show stz i kk + (0 : Int) * ((i : Int) - kk) = stz i kk by omega]) rfl rfl ?_
              refine g_loc (lv' := [(0, .ref b), (1, .int (zI (i : Int))), (2, .int (zI (kk : Int))), (3, .int (zI ((i : Int) - kk))), (4, .int (zI (0 : Int)))]) ⟨rfl, rfl, rfl, rfl, rfl, trivial⟩ ?_
              exact key_rr (((i : Int) - kk) + 1).toNat.succ 0 (by omega) (by omega)
        refine g_st (ws' := [(b, .inr (2, [.int (zI (i : Int)), .int (zI (sq i)), .ref q1, .ref q2])), (q1, .inl (cA 0, i + 1, .inl (stF i (i + 1)))), (q2, .inl (cA 0, (sq i).toNat, .inl (cvF i (stz i 0))))]) (by rw [show stz i (0 : Int) = 0 from stz_00, cvF_0]) rfl rfl ?_
        refine g_loc (lv' := [(0, .ref b), (1, .int (zI (i : Int))), (2, .int (zI (0 : Int)))]) ⟨rfl, rfl, rfl, trivial⟩ ?_
        exact key_kk (((i : Int)) + 1).toNat.succ 0 (by omega) (by omega)
      · refine g_aload_n E dX2_init_33 rfl ?_
        refine g_getf E hin2 (T := TX2) rfl ⟨0, rfl⟩ 2 (by decide) (by decide +kernel) rfl rfl dX2_init_34 ?_
        refine g_iload_n E dX2_init_37 rfl ?_
        refine g_aload_n E dX2_init_38 rfl ?_
        refine g_getf E hin2 (T := TX2) rfl ⟨0, rfl⟩ 1 (by decide) (by decide +kernel) rfl rfl dX2_init_39 ?_
        refine g_iload_n E dX2_init_42 rfl ?_
        refine g_iload_n E dX2_init_43 rfl ?_
        refine g_isub E dX2_init_44 ?_
        refine g_callTi (n := 1) (As := [_]) (rest := _) E (c_X2_squares l D _ _ _ _ (by omega)) gX2_init_X2_squares rfl ⟨rfl, rfl⟩ (by decide +kernel) ⟨Nat.le_of_ble_eq_true rfl, Nat.le_of_ble_eq_true rfl⟩ rfl rfl (Nat.le_of_ble_eq_true rfl) ⟨by show _ ≤ 2; omega, by show _ ≤ 98; omega⟩ dX2_init_45 ?_
        rintro r_45 ws_45 ⟨rfl, rfl⟩
        refine g_isub E dX2_init_48 ?_
        refine g_iast E 0 rfl (n := i + 1) (ws' := [(b, .inr (2, [.int (zI (i : Int)), .int (zI (sq i)), .ref q1, .null])), (q1, .inl (cA 0, i + 1, .inl (stF i (kk + 1))))]) (by omega) (by omega) ⟨1, rfl, congrArg (fun f9 : Nat → Int32 => ([(b, .inr (2, [.int (zI (i : Int)), .int (zI (sq i)), .ref q1, .null])), (q1, .inl (cA 0, i + 1, .inl (f9)))] : va_W)) (stF_s (e := i) (n := kk))⟩ dX2_init_49 ?_
        refine g_iinc E dX2_init_50 rfl (by decide) ?_
        refine g_goto (tgt := 28) E dX2_init_53 (by decide) ?_
        refine g_loc (lv' := [(0, .ref b), (1, .int (zI (i : Int))), (2, .int (zI ((kk + 1) : Int)))]) ⟨rfl, rfl, rfl, trivial⟩ ?_
        exact ih_kk (kk + 1) (by omega) (by omega)
  refine g_st (ws' := [(b, .inr (2, [.int (zI (i : Int)), .int (zI (sq i)), .ref q1, .null])), (q1, .inl (cA 0, i + 1, .inl (stF i 0)))]) (by rw [stF_0]) rfl rfl ?_
  refine g_loc (lv' := [(0, .ref b), (1, .int (zI (i : Int))), (2, .int (zI (0 : Int)))]) ⟨rfl, rfl, rfl, trivial⟩ ?_
  exact key_kk (((i : Int) + 1) + 1).toNat.succ 0 (by omega) (by omega)
