/-! ===== NEW: a cat, a pile ===== -/
set_option maxHeartbeats 800000 in
set_option maxRecDepth 100000 in
/-- new Cat() -/
theorem c_X0_init (l : Launch) (D : va_G) (cA : Nat → ClassId) (sz b : Nat) : Met l yX0_init wsX0_init ({ frames := 1, cells := 0, slots := 0, locals := 40 }) (PcN D (tysX cA) sz (b, .inr (0, [.int 0, .int 0, .int 0])) [.ref b]) (va_Qv (fun w => w = [(b, .inr (0, [.int 0, .int (zI (-1)), .int 0]))]) (gB D (va_A [(b, .inr (0, [.int 0, .int 0, .int 0]))] sz)) (va_A [(b, .inr (0, [.int 0, .int 0, .int 0]))] sz)) 0 0 (va_A [(b, .inr (0, [.int 0, .int 0, .int 0]))] sz) := by
  refine g_metN (cc := cX0_init) (maxL := 1) (ret := none) (own := RX0) rfl (by decide) rfl rfl (Nat.le_of_ble_eq_true rfl) ?_
  intro p e s m below meth c E hmn hA hO
  have hin0 : ∀ w ∈ u_ws RX0 TX0 3, w ∈ wsX0_init := by decide +kernel
  refine g_loc (lv' := [(0, .ref b)]) ⟨rfl, trivial⟩ ?_
  refine g_aload_n E dX0_init_0 rfl ?_
  refine g_objInit E (by decide +kernel) (by decide +kernel) (by decide +kernel) (Nat.le_of_ble_eq_true rfl) (Nat.le_of_ble_eq_true rfl) dX0_init_1 ?_
  refine g_aload_n E dX0_init_4 rfl ?_
  refine g_iconst E dX0_init_5 ?_
  refine g_putf (ty := .int) (k := 1) (ws' := [(b, .inr (0, [.int 0, .int (zI (-1)), .int 0]))]) E hin0 (T := TX0) tyX0_ok nmX0 rfl (by decide) (by decide +kernel) rfl rfl (by decide +kernel) rfl rfl (Nat.le_of_ble_eq_true rfl) ⟨0, rfl, rfl⟩ dX0_init_6 ?_
  exact g_vret E rfl dX0_init_9
set_option maxHeartbeats 800000 in
set_option maxRecDepth 100000 in
/-- new Pile(pyramid) -/
theorem c_X1_init (l : Launch) (D : va_G) (cA : Nat → ClassId) (v sz b : Nat) : Met l yX1_init wsX1_init ({ frames := 1, cells := 1, slots := 91, locals := 40 }) (PcN D (tysX cA) sz (b, .inr (1, [.int 0, .null, .int 0, .null])) [.ref b, .ref v]) (va_Qv (fun w => ∃ q : Nat, w = [(b, .inr (1, [.int 0, .ref v, .int 0, .ref q])), (q, .inl (cA 0, 91, .inl (fun _ => 0)))]) (gB D (va_A [(b, .inr (1, [.int 0, .null, .int 0, .null]))] sz)) (va_A [(b, .inr (1, [.int 0, .null, .int 0, .null]))] sz)) 1 91 (va_A [(b, .inr (1, [.int 0, .null, .int 0, .null]))] sz) := by
  refine g_metN (cc := cX1_init) (maxL := 2) (ret := none) (own := RX1) rfl (by decide) rfl rfl (Nat.le_of_ble_eq_true rfl) ?_
  intro p e s m below meth c E hmn hA hO
  have hin1 : ∀ w ∈ u_ws RX1 TX1 4, w ∈ wsX1_init := by decide +kernel
  refine g_loc (lv' := [(0, .ref b), (1, .ref v)]) ⟨rfl, rfl, trivial⟩ ?_
  refine g_aload_n E dX1_init_0 rfl ?_
  refine g_objInit E (by decide +kernel) (by decide +kernel) (by decide +kernel) (Nat.le_of_ble_eq_true rfl) (Nat.le_of_ble_eq_true rfl) dX1_init_1 ?_
  refine g_aload_n E dX1_init_4 rfl ?_
  refine g_aload_n E dX1_init_5 rfl ?_
  refine g_putf (ty := .object "CannonStacks$Pyramid") (k := 1) (ws' := [(b, .inr (1, [.int 0, .ref v, .int 0, .null]))]) E hin1 (T := TX1) tyX1_ok nmX1 rfl (by decide) (by decide +kernel) rfl rfl (by decide +kernel) rfl rfl (Nat.le_of_ble_eq_true rfl) ⟨0, rfl, rfl⟩ dX1_init_6 ?_
  refine g_aload_n E dX1_init_9 rfl ?_
  refine g_bipush E dX1_init_10 (by decide) ?_
  refine g_newa (n := 91) E hA (by decide +kernel) (by decide) (Nat.le_of_ble_eq_true rfl) (Nat.le_of_ble_eq_true rfl) dX1_init_12 (fun q => ?_)
  refine g_putfF (ty := .array .int) (k := 3) (ws' := [(b, .inr (1, [.int 0, .ref v, .int 0, .ref q])), (q, .inl (cA 0, 91, .inl (fun _ => 0)))]) E hmn hin1 (T := TX1) tyX1_ok nmX1 rfl (by decide) (by decide +kernel) rfl rfl (by decide +kernel) rfl rfl (Nat.le_of_ble_eq_true rfl) ⟨0, rfl, rfl⟩ dX1_init_14 ?_
  refine g_wid (k := 1) (n := 91) (Nat.le_of_ble_eq_true rfl) (Nat.le_of_ble_eq_true rfl) ?_
  exact g_vret E ⟨q, rfl⟩ dX1_init_17
set_option maxHeartbeats 800000 in
set_option maxRecDepth 100000 in
/-- new Tally() -/
theorem c_X6_init (l : Launch) (D : va_G) (cA : Nat → ClassId) (sz b : Nat) : Met l yX6_init wsX6_init ({ frames := 1, cells := 1, slots := 5, locals := 40 }) (PcN D (tysX cA) sz (b, .inr (6, [.null])) [.ref b]) (va_Qv (fun w => ∃ q : Nat, w = [(b, .inr (6, [.ref q])), (q, .inl (cA 0, 5, .inl (fun _ => 0)))]) (gB D (va_A [(b, .inr (6, [.null]))] sz)) (va_A [(b, .inr (6, [.null]))] sz)) 1 5 (va_A [(b, .inr (6, [.null]))] sz) := by
  refine g_metN (cc := cX6_init) (maxL := 1) (ret := none) (own := RX6) rfl (by decide) rfl rfl (Nat.le_of_ble_eq_true rfl) ?_
  intro p e s m below meth c E hmn hA hO
  have hin6 : ∀ w ∈ u_ws RX6 TX6 1, w ∈ wsX6_init := by decide +kernel
  refine g_loc (lv' := [(0, .ref b)]) ⟨rfl, trivial⟩ ?_
  refine g_aload_n E dX6_init_0 rfl ?_
  refine g_objInit E (by decide +kernel) (by decide +kernel) (by decide +kernel) (Nat.le_of_ble_eq_true rfl) (Nat.le_of_ble_eq_true rfl) dX6_init_1 ?_
  refine g_aload_n E dX6_init_4 rfl ?_
  refine g_iconst E dX6_init_5 ?_
  refine g_newa (n := 5) E hA (by decide +kernel) (by decide) (Nat.le_of_ble_eq_true rfl) (Nat.le_of_ble_eq_true rfl) dX6_init_6 (fun q => ?_)
  refine g_putfF (ty := .array .int) (k := 0) (ws' := [(b, .inr (6, [.ref q])), (q, .inl (cA 0, 5, .inl (fun _ => 0)))]) E hmn hin6 (T := TX6) tyX6_ok nmX6 rfl (by decide) (by decide +kernel) rfl rfl (by decide +kernel) rfl rfl (Nat.le_of_ble_eq_true rfl) ⟨0, rfl, rfl⟩ dX6_init_8 ?_
  refine g_wid (k := 1) (n := 5) (Nat.le_of_ble_eq_true rfl) (Nat.le_of_ble_eq_true rfl) ?_
  exact g_vret E ⟨q, rfl⟩ dX6_init_11
