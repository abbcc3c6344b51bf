/-! ===== LAW: the loop ===== -/
set_option maxHeartbeats 1600000 in
set_option maxRecDepth 100000 in
theorem law_sw {p : Program} {l : Launch} {e : Env} {s : State} {m : MethodId} {b : Nat} {below : List Frame} {meth : Method} {c : Code} {Q : State → Prop} {D : va_G} {A : Nat → Prop} {cells slots : Nat} {ret0 : Option FieldType} {cA : Nat → ClassId} {ad : Ad} {am : Nat → Nat} {o L : Nat} {xs : Nat → Int32} {σ : Nat → St} {th dd : Int32} {kp : Nat → Nat → Int32} {g : Nat → Int64} {i : Int} (E : GE p s m #[Value.ref b] meth c D (tysX cA) cL_law 9 RL wsL_law ret0) (hl0 : l.stackTraces = false) (Z : gZ A s) (X : gC s) (hX : va_X b L xs s s.heap) (hbl : b < s.heap.size) (hbA : ¬ A b) (hL : L ≤ 2560) (hi : 0 ≤ i ∧ i + 5 ≤ L) (hLI : LI σ dd) (hc : cells + 3 ≤ 601024 ∧ slots + 18 ≤ 7293034) (kk : ∀ (σ' : Nat → St) (th' dd' : Int32) (kp' : Nat → Nat → Int32) (g' : Nat → Int64), LI σ' dd' → GW p l e room_1 s m #[Value.ref b] below meth c Q D A 9 ((wX cA ad σ' ++ oW cA o g') ++ wM cA am (σ' 0) th' dd' kp') (cells + 3) (slots + 18) 1697 [(0, .ref b), (1, .ref (ad 0 8 0)), (2, .ref (am 0)), (3, .ref o), (4, .int (zI i))] []) : GW p l e room_1 s m #[Value.ref b] below meth c Q D A 9 ((wX cA ad σ ++ oW cA o g) ++ wM cA am (σ 0) th dd kp) (cells) (slots) 32 [(0, .ref b), (1, .ref (ad 0 8 0)), (2, .ref (am 0)), (3, .ref o), (4, .int (zI i))] [] := by
  refine g_aload_n E dL_law_32 rfl ?_
  refine g_iload E dL_law_33 rfl ?_
  refine g_sld E hX hbl hbA (by omega) hL dL_law_35 ?_
  refine g_bipush E dL_law_36 (by decide) ?_
  refine g_iand E dL_law_38 ?_
  obtain ⟨w1, w2⟩ := and31 (xs i.toNat)
  refine g_top (v' := .int (zI ((xs i.toNat) &&& 31).toInt)) (by rw [zI_self, zI_self, show zI 31 = (31 : Int32) by decide]) ?_
  generalize ((xs i.toNat) &&& 31).toInt = w at w1 w2 ⊢
  rcases (show w = 0 ∨ w = 1 ∨ w = 2 ∨ w = 3 ∨ w = 4 ∨ w = 5 ∨ w = 6 ∨ w = 7 ∨ w = 8 ∨ w = 9 ∨ w = 10 ∨ w = 11 ∨ w = 12 ∨ w = 13 ∨ w = 14 ∨ w = 15 ∨ w = 16 ∨ w = 17 ∨ w = 18 ∨ w = 19 ∨ w = 20 ∨ w = 21 ∨ w = 22 ∨ w = 23 ∨ w = 24 ∨ w = 25 ∨ w = 26 ∨ 27 ≤ w by omega) with rfl | rfl | rfl | rfl | rfl | rfl | rfl | rfl | rfl | rfl | rfl | rfl | rfl | rfl | rfl | rfl | rfl | rfl | rfl | rfl | rfl | rfl | rfl | rfl | rfl | rfl | rfl | hw
  · refine g_tab (tgt := 160) E dL_law_39 (by decide) (by decide) (by decide) rfl (by decide) ?_
    exact case_0 E hl0 Z X hX hbl hbA hL hi hLI hc kk
  · refine g_tab (tgt := 228) E dL_law_39 (by decide) (by decide) (by decide) rfl (by decide) ?_
    exact case_1 E hl0 Z X hX hbl hbA hL hi hLI hc kk
  · refine g_tab (tgt := 284) E dL_law_39 (by decide) (by decide) (by decide) rfl (by decide) ?_
    exact case_2 E hl0 Z X hX hbl hbA hL hi hLI hc kk
  · refine g_tab (tgt := 352) E dL_law_39 (by decide) (by decide) (by decide) rfl (by decide) ?_
    exact case_3 E hl0 Z X hX hbl hbA hL hi hLI hc kk
  · refine g_tab (tgt := 408) E dL_law_39 (by decide) (by decide) (by decide) rfl (by decide) ?_
    exact case_4 E hl0 Z X hX hbl hbA hL hi hLI hc kk
  · refine g_tab (tgt := 464) E dL_law_39 (by decide) (by decide) (by decide) rfl (by decide) ?_
    exact case_5 E hl0 Z X hX hbl hbA hL hi hLI hc kk
  · refine g_tab (tgt := 532) E dL_law_39 (by decide) (by decide) (by decide) rfl (by decide) ?_
    exact case_6 E hl0 Z X hX hbl hbA hL hi hLI hc kk
  · refine g_tab (tgt := 600) E dL_law_39 (by decide) (by decide) (by decide) rfl (by decide) ?_
    exact case_7 E hl0 Z X hX hbl hbA hL hi hLI hc kk
  · refine g_tab (tgt := 656) E dL_law_39 (by decide) (by decide) (by decide) rfl (by decide) ?_
    exact case_8 E hl0 Z X hX hbl hbA hL hi hLI hc kk
  · refine g_tab (tgt := 712) E dL_law_39 (by decide) (by decide) (by decide) rfl (by decide) ?_
    exact case_9 E hl0 Z X hX hbl hbA hL hi hLI hc kk
  · refine g_tab (tgt := 780) E dL_law_39 (by decide) (by decide) (by decide) rfl (by decide) ?_
    exact case_10 E hl0 Z X hX hbl hbA hL hi hLI hc kk
  · refine g_tab (tgt := 793) E dL_law_39 (by decide) (by decide) (by decide) rfl (by decide) ?_
    exact case_11 E hl0 Z X hX hbl hbA hL hi hLI hc kk
  · refine g_tab (tgt := 849) E dL_law_39 (by decide) (by decide) (by decide) rfl (by decide) ?_
    exact case_12 E hl0 Z X hX hbl hbA hL hi hLI hc kk
  · refine g_tab (tgt := 917) E dL_law_39 (by decide) (by decide) (by decide) rfl (by decide) ?_
    exact case_13 E hl0 Z X hX hbl hbA hL hi hLI hc kk
  · refine g_tab (tgt := 997) E dL_law_39 (by decide) (by decide) (by decide) rfl (by decide) ?_
    exact case_14 E hl0 Z X hX hbl hbA hL hi hLI hc kk
  · refine g_tab (tgt := 1089) E dL_law_39 (by decide) (by decide) (by decide) rfl (by decide) ?_
    exact case_15 E hl0 Z X hX hbl hbA hL hi hLI hc kk
  · refine g_tab (tgt := 1157) E dL_law_39 (by decide) (by decide) (by decide) rfl (by decide) ?_
    exact case_16 E hl0 Z X hX hbl hbA hL hi hLI hc kk
  · refine g_tab (tgt := 1225) E dL_law_39 (by decide) (by decide) (by decide) rfl (by decide) ?_
    exact case_17 E hl0 Z X hX hbl hbA hL hi hLI hc kk
  · refine g_tab (tgt := 1281) E dL_law_39 (by decide) (by decide) (by decide) rfl (by decide) ?_
    exact case_18 E hl0 Z X hX hbl hbA hL hi hLI hc kk
  · refine g_tab (tgt := 1337) E dL_law_39 (by decide) (by decide) (by decide) rfl (by decide) ?_
    exact case_19 E hl0 Z X hX hbl hbA hL hi hLI hc kk
  · refine g_tab (tgt := 1393) E dL_law_39 (by decide) (by decide) (by decide) rfl (by decide) ?_
    exact case_20 E hl0 Z X hX hbl hbA hL hi hLI hc kk
  · refine g_tab (tgt := 1449) E dL_law_39 (by decide) (by decide) (by decide) rfl (by decide) ?_
    exact case_21 E hl0 Z X hX hbl hbA hL hi hLI hc kk
  · refine g_tab (tgt := 1505) E dL_law_39 (by decide) (by decide) (by decide) rfl (by decide) ?_
    exact case_22 E hl0 Z X hX hbl hbA hL hi hLI hc kk
  · refine g_tab (tgt := 1573) E dL_law_39 (by decide) (by decide) (by decide) rfl (by decide) ?_
    exact case_23 E hl0 Z X hX hbl hbA hL hi hLI hc kk
  · refine g_tab (tgt := 1629) E dL_law_39 (by decide) (by decide) (by decide) rfl (by decide) ?_
    exact case_24 E hl0 Z X hX hbl hbA hL hi hLI hc kk
  · refine g_tab (tgt := 1642) E dL_law_39 (by decide) (by decide) (by decide) rfl (by decide) ?_
    exact case_25 E hl0 Z X hX hbl hbA hL hi hLI hc kk
  · refine g_tab (tgt := 1683) E dL_law_39 (by decide) (by decide) (by decide) rfl (by decide) ?_
    exact case_26 E hl0 Z X hX hbl hbA hL hi hLI hc kk
  · refine g_tabOut (tgt := 1697) E dL_law_39 (by omega) (by omega) (by decide) ?_
    refine g_wid (k := cells + 3) (n := slots + 18) (by omega) (by omega) ?_
    exact kk σ th dd kp g hLI
set_option maxHeartbeats 1600000 in
set_option maxRecDepth 100000 in
theorem law_loop {p : Program} {l : Launch} {e : Env} {s : State} {m : MethodId} {b : Nat} {below : List Frame} {meth : Method} {c : Code} {Q : State → Prop} {D : va_G} {A : Nat → Prop} {ret0 : Option FieldType} {cA : Nat → ClassId} {ad : Ad} {am : Nat → Nat} {o L : Nat} {xs : Nat → Int32} (E : GE p s m #[Value.ref b] meth c D (tysX cA) cL_law 9 RL wsL_law ret0) (hl0 : l.stackTraces = false) (Z : gZ A s) (X : gC s) (hX : va_X b L xs s s.heap) (hbl : b < s.heap.size) (hbA : ¬ A b) (hL : L ≤ 2560) (kend : ∀ (ws : va_W) (cells slots : Nat) (lv : List (Nat × Value)), cells ≤ 601024 → slots ≤ 7293034 → GW p l e room_1 s m #[Value.ref b] below meth c Q D A 9 ws cells slots 1703 lv []) : ∀ (n : Nat) (i : Int) (σ : Nat → St) (th dd : Int32) (kp : Nat → Nat → Int32) (g : Nat → Int64) (cells slots : Nat), LI σ dd → 0 ≤ i → i + 5 * n ≤ 5000 → (L : Int) ≤ i + 5 * n + 4 → cells + 3 * n ≤ 601024 → slots + 18 * n ≤ 7293034 → GW p l e room_1 s m #[Value.ref b] below meth c Q D A 9 ((wX cA ad σ ++ oW cA o g) ++ wM cA am (σ 0) th dd kp) (cells) (slots) 23 [(0, .ref b), (1, .ref (ad 0 8 0)), (2, .ref (am 0)), (3, .ref o), (4, .int (zI i))] [] := by
  intro n
  induction n with
  | zero =>
    intro i σ th dd kp g cells slots hLI h0 h1 h2 h3 h4
    refine g_iload E dL_law_23 rfl ?_
    refine g_aload_n E dL_law_25 rfl ?_
    refine g_slen E hX hbl hbA dL_law_26 ?_
    refine g_iconst E dL_law_27 ?_
    refine g_isub E dL_law_28 ?_
    refine g_icmp_gt (tgt := 1703) E dL_law_29 (by decide) (by omega) (by omega) (fun c29 => ?_) (fun c29 => ?_)
    · exact kend _ _ _ _ (by omega) (by omega)
    · exact absurd (by omega) c29
  | succ n ih =>
    intro i σ th dd kp g cells slots hLI h0 h1 h2 h3 h4
    refine g_iload E dL_law_23 rfl ?_
    refine g_aload_n E dL_law_25 rfl ?_
    refine g_slen E hX hbl hbA dL_law_26 ?_
    refine g_iconst E dL_law_27 ?_
    refine g_isub E dL_law_28 ?_
    refine g_icmp_gt (tgt := 1703) E dL_law_29 (by decide) (by omega) (by omega) (fun c29 => ?_) (fun c29 => ?_)
    · exact kend _ _ _ _ (by omega) (by omega)
    · refine law_sw E hl0 Z X hX hbl hbA hL (by omega) hLI ⟨by omega, by omega⟩ (fun σ' th' dd' kp' g' hLI' => ?_)
      refine g_iinc E dL_law_1697 rfl (by decide) ?_
      refine g_goto (tgt := 23) E dL_law_1700 (by decide) ?_
      refine g_loc (lv' := [(0, .ref b), (1, .ref (ad 0 8 0)), (2, .ref (am 0)), (3, .ref o), (4, .int (zI (i + 5)))]) ⟨rfl, rfl, rfl, rfl, rfl, trivial⟩ ?_
      exact ih (i + 5) σ' th' dd' kp' g' (cells + 3) (slots + 18) hLI' (by omega) (by omega) (by omega) (by omega) (by omega)
