/-! ===== MODEL: a new one ===== -/
def al0 : St := fun t i j => if t = 3 ∧ j = 1 then zI (-1) else if t = 0 ∧ i = 0 ∧ j = 4 then zI 6 else 0
theorem al0_0 {t i j : Nat} (h : ¬ (t = 3 ∧ j = 1)) (h2 : ¬ (t = 0 ∧ i = 0 ∧ j = 4)) : al0 t i j = 0 := by rw [al0, if_neg h, if_neg h2]
theorem rowM_al0 {t : Nat} (ht : 0 < t) : rowM al0 (fun _ _ => 0) t = fun _ => 0 := by
  funext k
  have h4 := tagN_4 (k % 4)
  unfold rowM
  split
  · exact al0_0 (by omega) (by omega)
  · exact al0_0 (by omega) (by omega)
  · exact al0_0 (by omega) (by omega)
  · exact al0_0 (by omega) (by omega)
  · exact al0_0 (by omega) (by omega)
  · exact al0_0 (by omega) (by omega)
  · rw [if_pos (al0_0 (by omega) (by omega))]
  · exact al0_0 (by omega) (by omega)
  all_goals rfl
theorem wM_0 {cA : Nat → ClassId} {ad : Nat → Nat} : wM cA ad al0 0 0 (fun _ _ => 0) = [(ad 0, .inr (5, [.int 0, .int 0, .int 0, .int (zI 6), .int 0, .int 0, .ref (ad 1), .ref (ad 2), .ref (ad 3), .ref (ad 4), .ref (ad 5), .ref (ad 6), .ref (ad 7), .ref (ad 8), .ref (ad 9), .ref (ad 10), .ref (ad 11), .ref (ad 12), .ref (ad 13)])), (ad 1, .inl (cA 0, 6, .inl (fun _ => 0))), (ad 2, .inl (cA 0, 6, .inl (fun _ => 0))), (ad 3, .inl (cA 0, 3, .inl (fun _ => 0))), (ad 4, .inl (cA 0, 6, .inl (fun _ => 0))), (ad 5, .inl (cA 0, 546, .inl (fun _ => 0))), (ad 6, .inl (cA 0, 20, .inl (fun _ => 0))), (ad 7, .inl (cA 0, 3, .inl (fun _ => 0))), (ad 8, .inl (cA 0, 3, .inl (fun _ => 0))), (ad 9, .inl (cA 0, 6, .inl (fun _ => 0))), (ad 10, .inl (cA 0, 546, .inl (fun _ => 0))), (ad 11, .inl (cA 0, 20, .inl (fun _ => 0))), (ad 12, .inl (cA 0, 3, .inl (fun _ => 0))), (ad 13, .inl (cA 0, 3, .inl (fun _ => 0)))] := by
  show [(ad 0, mM cA ad al0 0 0 (fun _ _ => 0) 0), (ad 1, .inl (cA 0, lenM 1, .inl (rowM al0 (fun _ _ => 0) 1))), (ad 2, .inl (cA 0, lenM 2, .inl (rowM al0 (fun _ _ => 0) 2))), (ad 3, .inl (cA 0, lenM 3, .inl (rowM al0 (fun _ _ => 0) 3))), (ad 4, .inl (cA 0, lenM 4, .inl (rowM al0 (fun _ _ => 0) 4))), (ad 5, .inl (cA 0, lenM 5, .inl (rowM al0 (fun _ _ => 0) 5))), (ad 6, .inl (cA 0, lenM 6, .inl (rowM al0 (fun _ _ => 0) 6))), (ad 7, .inl (cA 0, lenM 7, .inl (rowM al0 (fun _ _ => 0) 7))), (ad 8, .inl (cA 0, lenM 8, .inl (rowM al0 (fun _ _ => 0) 8))), (ad 9, .inl (cA 0, lenM 9, .inl (rowM al0 (fun _ _ => 0) 9))), (ad 10, .inl (cA 0, lenM 10, .inl (rowM al0 (fun _ _ => 0) 10))), (ad 11, .inl (cA 0, lenM 11, .inl (rowM al0 (fun _ _ => 0) 11))), (ad 12, .inl (cA 0, lenM 12, .inl (rowM al0 (fun _ _ => 0) 12))), (ad 13, .inl (cA 0, lenM 13, .inl (rowM al0 (fun _ _ => 0) 13)))] = _
  rw [rowM_al0 (t := 1) (by decide), rowM_al0 (t := 2) (by decide), rowM_al0 (t := 3) (by decide), rowM_al0 (t := 4) (by decide), rowM_al0 (t := 5) (by decide), rowM_al0 (t := 6) (by decide), rowM_al0 (t := 7) (by decide), rowM_al0 (t := 8) (by decide), rowM_al0 (t := 9) (by decide), rowM_al0 (t := 10) (by decide), rowM_al0 (t := 11) (by decide), rowM_al0 (t := 12) (by decide), rowM_al0 (t := 13) (by decide)]
  rfl
set_option maxHeartbeats 2000000 in
set_option maxRecDepth 100000 in
/-- new CannonStacksModel() -/
theorem m_init (l : Launch) (D : va_G) (cA : Nat → ClassId) (sz b : Nat) : Met l yX5_init wsX5_init ({ frames := 1, cells := 13, slots := 1171, locals := 40 }) (PcN D (tysX cA) sz (b, .inr (5, [.int 0, .int 0, .int 0, .int 0, .int 0, .int 0, .null, .null, .null, .null, .null, .null, .null, .null, .null, .null, .null, .null, .null])) [.ref b]) (va_Qv (fun w => ∃ ad : Nat → Nat, ad 0 = b ∧ w = wM cA ad al0 0 0 (fun _ _ => 0)) (gB D (va_A [(b, .inr (5, [.int 0, .int 0, .int 0, .int 0, .int 0, .int 0, .null, .null, .null, .null, .null, .null, .null, .null, .null, .null, .null, .null, .null]))] sz)) (va_A [(b, .inr (5, [.int 0, .int 0, .int 0, .int 0, .int 0, .int 0, .null, .null, .null, .null, .null, .null, .null, .null, .null, .null, .null, .null, .null]))] sz)) 13 1171 (va_A [(b, .inr (5, [.int 0, .int 0, .int 0, .int 0, .int 0, .int 0, .null, .null, .null, .null, .null, .null, .null, .null, .null, .null, .null, .null, .null]))] sz) := by
  refine g_metN (cc := cX5_init) (maxL := 1) (ret := none) (own := RX5) rfl (by decide) rfl rfl (Nat.le_of_ble_eq_true rfl) ?_
  intro p e s m below meth c E hmn hA hO
  have hin5 : ∀ w ∈ u_ws RX5 TX5 19, w ∈ wsX5_init := by decide +kernel
  refine g_loc (lv' := [(0, .ref b)]) ⟨rfl, trivial⟩ ?_
  refine g_aload_n E dX5_init_0 rfl ?_
  refine g_objInit E (by decide +kernel) (by decide +kernel) (by decide +kernel) (Nat.le_of_ble_eq_true rfl) (Nat.le_of_ble_eq_true rfl) dX5_init_1 ?_
  refine g_aload_n E dX5_init_4 rfl ?_
  refine g_bipush E dX5_init_5 (by decide) ?_
  refine g_putf (ty := .int) (k := 3) (ws' := [(b, .inr (5, [.int 0, .int 0, .int 0, .int (zI 6), .int 0, .int 0, .null, .null, .null, .null, .null, .null, .null, .null, .null, .null, .null, .null, .null]))]) E hin5 (T := TX5) tyX5_ok nmX5 rfl (by decide) (by decide +kernel) rfl rfl (by decide +kernel) rfl rfl (Nat.le_of_ble_eq_true rfl) ⟨0, rfl, rfl⟩ dX5_init_7 ?_
  refine g_aload_n E dX5_init_10 rfl ?_
  refine g_bipush E dX5_init_11 (by decide) ?_
  refine g_newa (n := 6) E hA (by decide +kernel) (by decide) (Nat.le_of_ble_eq_true rfl) (Nat.le_of_ble_eq_true rfl) dX5_init_13 (fun q1 => ?_)
  refine g_putfF (ty := .array .int) (k := 6) (ws' := [(b, .inr (5, [.int 0, .int 0, .int 0, .int (zI 6), .int 0, .int 0, .ref q1, .null, .null, .null, .null, .null, .null, .null, .null, .null, .null, .null, .null])), (q1, .inl (cA 0, 6, .inl (fun _ => 0)))]) E hmn hin5 (T := TX5) tyX5_ok nmX5 rfl (by decide) (by decide +kernel) rfl rfl (by decide +kernel) rfl rfl (Nat.le_of_ble_eq_true rfl) ⟨0, rfl, rfl⟩ dX5_init_15 ?_
  refine g_aload_n E dX5_init_18 rfl ?_
  refine g_bipush E dX5_init_19 (by decide) ?_
  refine g_newa (n := 6) E hA (by decide +kernel) (by decide) (Nat.le_of_ble_eq_true rfl) (Nat.le_of_ble_eq_true rfl) dX5_init_21 (fun q2 => ?_)
  refine g_putfF (ty := .array .int) (k := 7) (ws' := [(b, .inr (5, [.int 0, .int 0, .int 0, .int (zI 6), .int 0, .int 0, .ref q1, .ref q2, .null, .null, .null, .null, .null, .null, .null, .null, .null, .null, .null])), (q1, .inl (cA 0, 6, .inl (fun _ => 0))), (q2, .inl (cA 0, 6, .inl (fun _ => 0)))]) E hmn hin5 (T := TX5) tyX5_ok nmX5 rfl (by decide) (by decide +kernel) rfl rfl (by decide +kernel) rfl rfl (Nat.le_of_ble_eq_true rfl) ⟨0, rfl, rfl⟩ dX5_init_23 ?_
  refine g_aload_n E dX5_init_26 rfl ?_
  refine g_iconst E dX5_init_27 ?_
  refine g_newa (n := 3) E hA (by decide +kernel) (by decide) (Nat.le_of_ble_eq_true rfl) (Nat.le_of_ble_eq_true rfl) dX5_init_28 (fun q3 => ?_)
  refine g_putfF (ty := .array .int) (k := 8) (ws' := [(b, .inr (5, [.int 0, .int 0, .int 0, .int (zI 6), .int 0, .int 0, .ref q1, .ref q2, .ref q3, .null, .null, .null, .null, .null, .null, .null, .null, .null, .null])), (q1, .inl (cA 0, 6, .inl (fun _ => 0))), (q2, .inl (cA 0, 6, .inl (fun _ => 0))), (q3, .inl (cA 0, 3, .inl (fun _ => 0)))]) E hmn hin5 (T := TX5) tyX5_ok nmX5 rfl (by decide) (by decide +kernel) rfl rfl (by decide +kernel) rfl rfl (Nat.le_of_ble_eq_true rfl) ⟨0, rfl, rfl⟩ dX5_init_30 ?_
  refine g_aload_n E dX5_init_33 rfl ?_
  refine g_bipush E dX5_init_34 (by decide) ?_
  refine g_newa (n := 6) E hA (by decide +kernel) (by decide) (Nat.le_of_ble_eq_true rfl) (Nat.le_of_ble_eq_true rfl) dX5_init_36 (fun q4 => ?_)
  refine g_putfF (ty := .array .int) (k := 9) (ws' := [(b, .inr (5, [.int 0, .int 0, .int 0, .int (zI 6), .int 0, .int 0, .ref q1, .ref q2, .ref q3, .ref q4, .null, .null, .null, .null, .null, .null, .null, .null, .null])), (q1, .inl (cA 0, 6, .inl (fun _ => 0))), (q2, .inl (cA 0, 6, .inl (fun _ => 0))), (q3, .inl (cA 0, 3, .inl (fun _ => 0))), (q4, .inl (cA 0, 6, .inl (fun _ => 0)))]) E hmn hin5 (T := TX5) tyX5_ok nmX5 rfl (by decide) (by decide +kernel) rfl rfl (by decide +kernel) rfl rfl (Nat.le_of_ble_eq_true rfl) ⟨0, rfl, rfl⟩ dX5_init_38 ?_
  refine g_aload_n E dX5_init_41 rfl ?_
  refine g_sipush E dX5_init_42 (by decide) ?_
  refine g_newa (n := 546) E hA (by decide +kernel) (by decide) (Nat.le_of_ble_eq_true rfl) (Nat.le_of_ble_eq_true rfl) dX5_init_45 (fun q5 => ?_)
  refine g_putfF (ty := .array .int) (k := 10) (ws' := [(b, .inr (5, [.int 0, .int 0, .int 0, .int (zI 6), .int 0, .int 0, .ref q1, .ref q2, .ref q3, .ref q4, .ref q5, .null, .null, .null, .null, .null, .null, .null, .null])), (q1, .inl (cA 0, 6, .inl (fun _ => 0))), (q2, .inl (cA 0, 6, .inl (fun _ => 0))), (q3, .inl (cA 0, 3, .inl (fun _ => 0))), (q4, .inl (cA 0, 6, .inl (fun _ => 0))), (q5, .inl (cA 0, 546, .inl (fun _ => 0)))]) E hmn hin5 (T := TX5) tyX5_ok nmX5 rfl (by decide) (by decide +kernel) rfl rfl (by decide +kernel) rfl rfl (Nat.le_of_ble_eq_true rfl) ⟨0, rfl, rfl⟩ dX5_init_47 ?_
  refine g_aload_n E dX5_init_50 rfl ?_
  refine g_bipush E dX5_init_51 (by decide) ?_
  refine g_newa (n := 20) E hA (by decide +kernel) (by decide) (Nat.le_of_ble_eq_true rfl) (Nat.le_of_ble_eq_true rfl) dX5_init_53 (fun q6 => ?_)
  refine g_putfF (ty := .array .int) (k := 11) (ws' := [(b, .inr (5, [.int 0, .int 0, .int 0, .int (zI 6), .int 0, .int 0, .ref q1, .ref q2, .ref q3, .ref q4, .ref q5, .ref q6, .null, .null, .null, .null, .null, .null, .null])), (q1, .inl (cA 0, 6, .inl (fun _ => 0))), (q2, .inl (cA 0, 6, .inl (fun _ => 0))), (q3, .inl (cA 0, 3, .inl (fun _ => 0))), (q4, .inl (cA 0, 6, .inl (fun _ => 0))), (q5, .inl (cA 0, 546, .inl (fun _ => 0))), (q6, .inl (cA 0, 20, .inl (fun _ => 0)))]) E hmn hin5 (T := TX5) tyX5_ok nmX5 rfl (by decide) (by decide +kernel) rfl rfl (by decide +kernel) rfl rfl (Nat.le_of_ble_eq_true rfl) ⟨0, rfl, rfl⟩ dX5_init_55 ?_
  refine g_aload_n E dX5_init_58 rfl ?_
  refine g_iconst E dX5_init_59 ?_
  refine g_newa (n := 3) E hA (by decide +kernel) (by decide) (Nat.le_of_ble_eq_true rfl) (Nat.le_of_ble_eq_true rfl) dX5_init_60 (fun q7 => ?_)
  refine g_putfF (ty := .array .int) (k := 12) (ws' := [(b, .inr (5, [.int 0, .int 0, .int 0, .int (zI 6), .int 0, .int 0, .ref q1, .ref q2, .ref q3, .ref q4, .ref q5, .ref q6, .ref q7, .null, .null, .null, .null, .null, .null])), (q1, .inl (cA 0, 6, .inl (fun _ => 0))), (q2, .inl (cA 0, 6, .inl (fun _ => 0))), (q3, .inl (cA 0, 3, .inl (fun _ => 0))), (q4, .inl (cA 0, 6, .inl (fun _ => 0))), (q5, .inl (cA 0, 546, .inl (fun _ => 0))), (q6, .inl (cA 0, 20, .inl (fun _ => 0))), (q7, .inl (cA 0, 3, .inl (fun _ => 0)))]) E hmn hin5 (T := TX5) tyX5_ok nmX5 rfl (by decide) (by decide +kernel) rfl rfl (by decide +kernel) rfl rfl (Nat.le_of_ble_eq_true rfl) ⟨0, rfl, rfl⟩ dX5_init_62 ?_
  refine g_aload_n E dX5_init_65 rfl ?_
  refine g_iconst E dX5_init_66 ?_
  refine g_newa (n := 3) E hA (by decide +kernel) (by decide) (Nat.le_of_ble_eq_true rfl) (Nat.le_of_ble_eq_true rfl) dX5_init_67 (fun q8 => ?_)
  refine g_putfF (ty := .array .int) (k := 13) (ws' := [(b, .inr (5, [.int 0, .int 0, .int 0, .int (zI 6), .int 0, .int 0, .ref q1, .ref q2, .ref q3, .ref q4, .ref q5, .ref q6, .ref q7, .ref q8, .null, .null, .null, .null, .null])), (q1, .inl (cA 0, 6, .inl (fun _ => 0))), (q2, .inl (cA 0, 6, .inl (fun _ => 0))), (q3, .inl (cA 0, 3, .inl (fun _ => 0))), (q4, .inl (cA 0, 6, .inl (fun _ => 0))), (q5, .inl (cA 0, 546, .inl (fun _ => 0))), (q6, .inl (cA 0, 20, .inl (fun _ => 0))), (q7, .inl (cA 0, 3, .inl (fun _ => 0))), (q8, .inl (cA 0, 3, .inl (fun _ => 0)))]) E hmn hin5 (T := TX5) tyX5_ok nmX5 rfl (by decide) (by decide +kernel) rfl rfl (by decide +kernel) rfl rfl (Nat.le_of_ble_eq_true rfl) ⟨0, rfl, rfl⟩ dX5_init_69 ?_
  refine g_aload_n E dX5_init_72 rfl ?_
  refine g_bipush E dX5_init_73 (by decide) ?_
  refine g_newa (n := 6) E hA (by decide +kernel) (by decide) (Nat.le_of_ble_eq_true rfl) (Nat.le_of_ble_eq_true rfl) dX5_init_75 (fun q9 => ?_)
  refine g_putfF (ty := .array .int) (k := 14) (ws' := [(b, .inr (5, [.int 0, .int 0, .int 0, .int (zI 6), .int 0, .int 0, .ref q1, .ref q2, .ref q3, .ref q4, .ref q5, .ref q6, .ref q7, .ref q8, .ref q9, .null, .null, .null, .null])), (q1, .inl (cA 0, 6, .inl (fun _ => 0))), (q2, .inl (cA 0, 6, .inl (fun _ => 0))), (q3, .inl (cA 0, 3, .inl (fun _ => 0))), (q4, .inl (cA 0, 6, .inl (fun _ => 0))), (q5, .inl (cA 0, 546, .inl (fun _ => 0))), (q6, .inl (cA 0, 20, .inl (fun _ => 0))), (q7, .inl (cA 0, 3, .inl (fun _ => 0))), (q8, .inl (cA 0, 3, .inl (fun _ => 0))), (q9, .inl (cA 0, 6, .inl (fun _ => 0)))]) E hmn hin5 (T := TX5) tyX5_ok nmX5 rfl (by decide) (by decide +kernel) rfl rfl (by decide +kernel) rfl rfl (Nat.le_of_ble_eq_true rfl) ⟨0, rfl, rfl⟩ dX5_init_77 ?_
  refine g_aload_n E dX5_init_80 rfl ?_
  refine g_sipush E dX5_init_81 (by decide) ?_
  refine g_newa (n := 546) E hA (by decide +kernel) (by decide) (Nat.le_of_ble_eq_true rfl) (Nat.le_of_ble_eq_true rfl) dX5_init_84 (fun q10 => ?_)
  refine g_putfF (ty := .array .int) (k := 15) (ws' := [(b, .inr (5, [.int 0, .int 0, .int 0, .int (zI 6), .int 0, .int 0, .ref q1, .ref q2, .ref q3, .ref q4, .ref q5, .ref q6, .ref q7, .ref q8, .ref q9, .ref q10, .null, .null, .null])), (q1, .inl (cA 0, 6, .inl (fun _ => 0))), (q2, .inl (cA 0, 6, .inl (fun _ => 0))), (q3, .inl (cA 0, 3, .inl (fun _ => 0))), (q4, .inl (cA 0, 6, .inl (fun _ => 0))), (q5, .inl (cA 0, 546, .inl (fun _ => 0))), (q6, .inl (cA 0, 20, .inl (fun _ => 0))), (q7, .inl (cA 0, 3, .inl (fun _ => 0))), (q8, .inl (cA 0, 3, .inl (fun _ => 0))), (q9, .inl (cA 0, 6, .inl (fun _ => 0))), (q10, .inl (cA 0, 546, .inl (fun _ => 0)))]) E hmn hin5 (T := TX5) tyX5_ok nmX5 rfl (by decide) (by decide +kernel) rfl rfl (by decide +kernel) rfl rfl (Nat.le_of_ble_eq_true rfl) ⟨0, rfl, rfl⟩ dX5_init_86 ?_
  refine g_aload_n E dX5_init_89 rfl ?_
  refine g_bipush E dX5_init_90 (by decide) ?_
  refine g_newa (n := 20) E hA (by decide +kernel) (by decide) (Nat.le_of_ble_eq_true rfl) (Nat.le_of_ble_eq_true rfl) dX5_init_92 (fun q11 => ?_)
  refine g_putfF (ty := .array .int) (k := 16) (ws' := [(b, .inr (5, [.int 0, .int 0, .int 0, .int (zI 6), .int 0, .int 0, .ref q1, .ref q2, .ref q3, .ref q4, .ref q5, .ref q6, .ref q7, .ref q8, .ref q9, .ref q10, .ref q11, .null, .null])), (q1, .inl (cA 0, 6, .inl (fun _ => 0))), (q2, .inl (cA 0, 6, .inl (fun _ => 0))), (q3, .inl (cA 0, 3, .inl (fun _ => 0))), (q4, .inl (cA 0, 6, .inl (fun _ => 0))), (q5, .inl (cA 0, 546, .inl (fun _ => 0))), (q6, .inl (cA 0, 20, .inl (fun _ => 0))), (q7, .inl (cA 0, 3, .inl (fun _ => 0))), (q8, .inl (cA 0, 3, .inl (fun _ => 0))), (q9, .inl (cA 0, 6, .inl (fun _ => 0))), (q10, .inl (cA 0, 546, .inl (fun _ => 0))), (q11, .inl (cA 0, 20, .inl (fun _ => 0)))]) E hmn hin5 (T := TX5) tyX5_ok nmX5 rfl (by decide) (by decide +kernel) rfl rfl (by decide +kernel) rfl rfl (Nat.le_of_ble_eq_true rfl) ⟨0, rfl, rfl⟩ dX5_init_94 ?_
  refine g_aload_n E dX5_init_97 rfl ?_
  refine g_iconst E dX5_init_98 ?_
  refine g_newa (n := 3) E hA (by decide +kernel) (by decide) (Nat.le_of_ble_eq_true rfl) (Nat.le_of_ble_eq_true rfl) dX5_init_99 (fun q12 => ?_)
  refine g_putfF (ty := .array .int) (k := 17) (ws' := [(b, .inr (5, [.int 0, .int 0, .int 0, .int (zI 6), .int 0, .int 0, .ref q1, .ref q2, .ref q3, .ref q4, .ref q5, .ref q6, .ref q7, .ref q8, .ref q9, .ref q10, .ref q11, .ref q12, .null])), (q1, .inl (cA 0, 6, .inl (fun _ => 0))), (q2, .inl (cA 0, 6, .inl (fun _ => 0))), (q3, .inl (cA 0, 3, .inl (fun _ => 0))), (q4, .inl (cA 0, 6, .inl (fun _ => 0))), (q5, .inl (cA 0, 546, .inl (fun _ => 0))), (q6, .inl (cA 0, 20, .inl (fun _ => 0))), (q7, .inl (cA 0, 3, .inl (fun _ => 0))), (q8, .inl (cA 0, 3, .inl (fun _ => 0))), (q9, .inl (cA 0, 6, .inl (fun _ => 0))), (q10, .inl (cA 0, 546, .inl (fun _ => 0))), (q11, .inl (cA 0, 20, .inl (fun _ => 0))), (q12, .inl (cA 0, 3, .inl (fun _ => 0)))]) E hmn hin5 (T := TX5) tyX5_ok nmX5 rfl (by decide) (by decide +kernel) rfl rfl (by decide +kernel) rfl rfl (Nat.le_of_ble_eq_true rfl) ⟨0, rfl, rfl⟩ dX5_init_101 ?_
  refine g_aload_n E dX5_init_104 rfl ?_
  refine g_iconst E dX5_init_105 ?_
  refine g_newa (n := 3) E hA (by decide +kernel) (by decide) (Nat.le_of_ble_eq_true rfl) (Nat.le_of_ble_eq_true rfl) dX5_init_106 (fun q13 => ?_)
  refine g_putfF (ty := .array .int) (k := 18) (ws' := [(b, .inr (5, [.int 0, .int 0, .int 0, .int (zI 6), .int 0, .int 0, .ref q1, .ref q2, .ref q3, .ref q4, .ref q5, .ref q6, .ref q7, .ref q8, .ref q9, .ref q10, .ref q11, .ref q12, .ref q13])), (q1, .inl (cA 0, 6, .inl (fun _ => 0))), (q2, .inl (cA 0, 6, .inl (fun _ => 0))), (q3, .inl (cA 0, 3, .inl (fun _ => 0))), (q4, .inl (cA 0, 6, .inl (fun _ => 0))), (q5, .inl (cA 0, 546, .inl (fun _ => 0))), (q6, .inl (cA 0, 20, .inl (fun _ => 0))), (q7, .inl (cA 0, 3, .inl (fun _ => 0))), (q8, .inl (cA 0, 3, .inl (fun _ => 0))), (q9, .inl (cA 0, 6, .inl (fun _ => 0))), (q10, .inl (cA 0, 546, .inl (fun _ => 0))), (q11, .inl (cA 0, 20, .inl (fun _ => 0))), (q12, .inl (cA 0, 3, .inl (fun _ => 0))), (q13, .inl (cA 0, 3, .inl (fun _ => 0)))]) E hmn hin5 (T := TX5) tyX5_ok nmX5 rfl (by decide) (by decide +kernel) rfl rfl (by decide +kernel) rfl rfl (Nat.le_of_ble_eq_true rfl) ⟨0, rfl, rfl⟩ dX5_init_108 ?_
  refine g_wid (k := 13) (n := 1171) (Nat.le_of_ble_eq_true rfl) (Nat.le_of_ble_eq_true rfl) ?_
  exact g_vret E ⟨fun t => ([b, q1, q2, q3, q4, q5, q6, q7, q8, q9, q10, q11, q12, q13] : List Nat).getD t 0, rfl, (wM_0 (ad := fun t => ([b, q1, q2, q3, q4, q5, q6, q7, q8, q9, q10, q11, q12, q13] : List Nat).getD t 0)).symm⟩ dX5_init_111
