/-! ===== LAW: a call of each kind ===== -/
set_option maxHeartbeats 1600000 in
set_option maxRecDepth 100000 in
/-- at -/
theorem case_14 {p : Program} {l : Launch} {e : Env} {s : State} {m : MethodId} {b : Nat} {below : List Frame} {meth : Method} {c : Code} {Q : State → Prop} {D : va_G} {A : Nat → Prop} {cells slots : Nat} {ret0 : Option FieldType} {cA : Nat → ClassId} {ad : Ad} {am : Nat → Nat} {o L : Nat} {xs : Nat → Int32} {σ : Nat → St} {th dd : Int32} {kp : Nat → Nat → Int32} {g : Nat → Int64} {i : Int} (E : GE p s m #[Value.ref b] meth c D (tysX cA) cL_law 9 RL wsL_law ret0) (hl0 : l.stackTraces = false) (Z : gZ A s) (X : gC s) (hX : va_X b L xs s s.heap) (hbl : b < s.heap.size) (hbA : ¬ A b) (hL : L ≤ 2560) (hi : 0 ≤ i ∧ i + 5 ≤ L) (hLI : LI σ dd) (hc : cells + 3 ≤ 601024 ∧ slots + 18 ≤ 7293034) (kk : ∀ (σ' : Nat → St) (th' dd' : Int32) (kp' : Nat → Nat → Int32) (g' : Nat → Int64), LI σ' dd' → GW p l e room_1 s m #[Value.ref b] below meth c Q D A 9 ((wX cA ad σ' ++ oW cA o g') ++ wM cA am (σ' 0) th' dd' kp') (cells + 3) (slots + 18) 1697 [(0, .ref b), (1, .ref (ad 0 8 0)), (2, .ref (am 0)), (3, .ref o), (4, .int (zI i))] []) : GW p l e room_1 s m #[Value.ref b] below meth c Q D A 9 ((wX cA ad σ ++ oW cA o g) ++ wM cA am (σ 0) th dd kp) (cells) (slots) 997 [(0, .ref b), (1, .ref (ad 0 8 0)), (2, .ref (am 0)), (3, .ref o), (4, .int (zI i))] [] := by
  refine g_aload_n E dL_law_997 rfl ?_
  refine g_aload_n E dL_law_998 rfl ?_
  refine g_iload E dL_law_999 rfl ?_
  refine g_iconst E dL_law_1001 ?_
  refine g_iadd E dL_law_1002 ?_
  refine g_sld E hX hbl hbA (by omega) hL dL_law_1003 ?_
  refine g_aload_n E dL_law_1004 rfl ?_
  refine g_iload E dL_law_1005 rfl ?_
  refine g_iconst E dL_law_1007 ?_
  refine g_iadd E dL_law_1008 ?_
  refine g_sld E hX hbl hbA (by omega) hL dL_law_1009 ?_
  refine g_aload_n E dL_law_1010 rfl ?_
  refine g_iload E dL_law_1011 rfl ?_
  refine g_iconst E dL_law_1013 ?_
  refine g_iadd E dL_law_1014 ?_
  refine g_sld E hX hbl hbA (by omega) hL dL_law_1015 ?_
  refine g_aload_n E dL_law_1016 rfl ?_
  refine g_iload E dL_law_1017 rfl ?_
  refine g_iconst E dL_law_1019 ?_
  refine g_iadd E dL_law_1020 ?_
  refine g_sld E hX hbl hbA (by omega) hL dL_law_1021 ?_
  refine g_aload_n E dL_law_1022 rfl ?_
  refine g_fW (n := 6) (As := [_, _, _, _, _, _]) (rest := []) E Z X (l_at l hl0 D cA _ ad σ o g hLI.1 hLI.2.1 _ _ _ _ (i32_rng _) (i32_rng _) (i32_rng _) (i32_rng _)) gL_law_L_at rfl ⟨rfl, rfl⟩ (by decide +kernel) ⟨Nat.le_of_ble_eq_true rfl, Nat.le_of_ble_eq_true rfl⟩ rfl rfl (Nat.le_of_ble_eq_true rfl) ⟨hc.1, hc.2⟩ dL_law_1023 ?_
  rintro r1 ws1 hp1
  refine g_istore E dL_law_1026 (by decide) ?_
  refine g_aload_n E dL_law_1028 rfl ?_
  refine g_aload_n E dL_law_1029 rfl ?_
  refine g_iload E dL_law_1030 rfl ?_
  refine g_iconst E dL_law_1032 ?_
  refine g_iadd E dL_law_1033 ?_
  refine g_sld E hX hbl hbA (by omega) hL dL_law_1034 ?_
  refine g_aload_n E dL_law_1035 rfl ?_
  refine g_iload E dL_law_1036 rfl ?_
  refine g_iconst E dL_law_1038 ?_
  refine g_iadd E dL_law_1039 ?_
  refine g_sld E hX hbl hbA (by omega) hL dL_law_1040 ?_
  refine g_aload_n E dL_law_1041 rfl ?_
  refine g_iload E dL_law_1042 rfl ?_
  refine g_iconst E dL_law_1044 ?_
  refine g_iadd E dL_law_1045 ?_
  refine g_sld E hX hbl hbA (by omega) hL dL_law_1046 ?_
  refine g_aload_n E dL_law_1047 rfl ?_
  refine g_iload E dL_law_1048 rfl ?_
  refine g_iconst E dL_law_1050 ?_
  refine g_iadd E dL_law_1051 ?_
  refine g_sld E hX hbl hbA (by omega) hL dL_law_1052 ?_
  refine g_sw ?_
  refine g_fVi (T := TX5) (ci := 5) (n := 4) (As := [_, _, _, _]) (rest := []) E (m_at l D cA _ am (σ 0) th dd kp hLI.1 _ _ _ _ (i32_rng _) (i32_rng _) (i32_rng _) (i32_rng _)) gL_law_X5_at rfl ⟨rfl, rfl⟩ (by decide +kernel) ⟨Nat.le_of_ble_eq_true rfl, Nat.le_of_ble_eq_true rfl⟩ obM rfl rfl rfl (Nat.le_of_ble_eq_true rfl) ⟨hc.1, hc.2⟩ dL_law_1053 ?_
  rintro r2 ws2 hp2
  refine g_sw ?_
  obtain ⟨σ1, g1, dd1, kp1, t1, rfl, rfl, hLI1, hr, hz⟩ := lj2 (by unfold eAt; split <;> (try split) <;> (try split) <;> (try split) <;> (try split) <;> omega) hp1 hp2 hLI (fun _ => ⟨hLI.1, hLI.2.2⟩)
  refine g_istore E dL_law_1056 (by decide) ?_
  refine g_aload_n E dL_law_1058 rfl ?_
  refine g_sw ?_
  refine g_fVi (T := TX5) (ci := 5) (n := 0) (As := []) (rest := []) E (m_thrown l D cA _ am (σ1 0) t1 dd1 kp1) gL_law_X5_thrown rfl ⟨rfl, rfl⟩ (by decide +kernel) ⟨Nat.le_of_ble_eq_true rfl, Nat.le_of_ble_eq_true rfl⟩ obM rfl rfl rfl (Nat.le_of_ble_eq_true rfl) ⟨hc.1, hc.2⟩ dL_law_1059 ?_
  rintro r3 ws3 ⟨h3, rfl⟩
  obtain rfl : t1 = r3 := h3.symm
  refine g_sw ?_
  refine g_iload E dL_law_1062 rfl ?_
  refine g_icmp_eqR (tgt := 1069) E dL_law_1064 (by decide) (fun _ => ?_) (fun z => absurd hr.symm z)
  refine g_iload E dL_law_1069 rfl ?_
  have hend : GW p l e room_1 s m #[Value.ref b] below meth c Q D A 9 ((wX cA ad σ1 ++ oW cA o g1) ++ wM cA am (σ1 0) t1 dd1 kp1) (cells + 3) (slots + 18) 1086 [(0, .ref b), (1, .ref (ad 0 8 0)), (2, .ref (am 0)), (3, .ref o), (4, .int (zI i))] [] := by
    refine g_goto (tgt := 1697) E dL_law_1086 (by decide) ?_
    exact kk σ1 t1 dd1 kp1 g1 hLI1
  refine g_if_neR (tgt := 1086) E dL_law_1071 (by decide) (fun _ => ?_) (fun z => ?_)
  · refine g_loc (lv' := [(0, .ref b), (1, .ref (ad 0 8 0)), (2, .ref (am 0)), (3, .ref o), (4, .int (zI i))]) ⟨rfl, rfl, rfl, rfl, rfl, trivial⟩ ?_
    exact hend
  · refine g_aload_n E dL_law_1074 rfl ?_
    refine g_iconst E dL_law_1075 ?_
    refine g_lald E dL_law_1076 ?_
    refine g_iload E dL_law_1077 rfl ?_
    refine g_i2l E dL_law_1079 ?_
    refine g_lcmp E dL_law_1080 ?_
    refine g_if_eqR (tgt := 1086) E dL_law_1081 (by decide) (fun _ => ?_) (fun z2 => absurd (by rw [(hz z).1, (hz z).2]; simp [lg_cmp]) z2)
    refine g_loc (lv' := [(0, .ref b), (1, .ref (ad 0 8 0)), (2, .ref (am 0)), (3, .ref o), (4, .int (zI i))]) ⟨rfl, rfl, rfl, rfl, rfl, trivial⟩ ?_
    exact hend
set_option maxHeartbeats 1600000 in
set_option maxRecDepth 100000 in
/-- told -/
theorem case_15 {p : Program} {l : Launch} {e : Env} {s : State} {m : MethodId} {b : Nat} {below : List Frame} {meth : Method} {c : Code} {Q : State → Prop} {D : va_G} {A : Nat → Prop} {cells slots : Nat} {ret0 : Option FieldType} {cA : Nat → ClassId} {ad : Ad} {am : Nat → Nat} {o L : Nat} {xs : Nat → Int32} {σ : Nat → St} {th dd : Int32} {kp : Nat → Nat → Int32} {g : Nat → Int64} {i : Int} (E : GE p s m #[Value.ref b] meth c D (tysX cA) cL_law 9 RL wsL_law ret0) (hl0 : l.stackTraces = false) (Z : gZ A s) (X : gC s) (hX : va_X b L xs s s.heap) (hbl : b < s.heap.size) (hbA : ¬ A b) (hL : L ≤ 2560) (hi : 0 ≤ i ∧ i + 5 ≤ L) (hLI : LI σ dd) (hc : cells + 3 ≤ 601024 ∧ slots + 18 ≤ 7293034) (kk : ∀ (σ' : Nat → St) (th' dd' : Int32) (kp' : Nat → Nat → Int32) (g' : Nat → Int64), LI σ' dd' → GW p l e room_1 s m #[Value.ref b] below meth c Q D A 9 ((wX cA ad σ' ++ oW cA o g') ++ wM cA am (σ' 0) th' dd' kp') (cells + 3) (slots + 18) 1697 [(0, .ref b), (1, .ref (ad 0 8 0)), (2, .ref (am 0)), (3, .ref o), (4, .int (zI i))] []) : GW p l e room_1 s m #[Value.ref b] below meth c Q D A 9 ((wX cA ad σ ++ oW cA o g) ++ wM cA am (σ 0) th dd kp) (cells) (slots) 1089 [(0, .ref b), (1, .ref (ad 0 8 0)), (2, .ref (am 0)), (3, .ref o), (4, .int (zI i))] [] := by
  refine g_aload_n E dL_law_1089 rfl ?_
  refine g_aload_n E dL_law_1090 rfl ?_
  refine g_iload E dL_law_1091 rfl ?_
  refine g_iconst E dL_law_1093 ?_
  refine g_iadd E dL_law_1094 ?_
  refine g_sld E hX hbl hbA (by omega) hL dL_law_1095 ?_
  refine g_aload_n E dL_law_1096 rfl ?_
  refine g_iload E dL_law_1097 rfl ?_
  refine g_iconst E dL_law_1099 ?_
  refine g_iadd E dL_law_1100 ?_
  refine g_sld E hX hbl hbA (by omega) hL dL_law_1101 ?_
  refine g_aload_n E dL_law_1102 rfl ?_
  refine g_fW (n := 4) (As := [_, _, _, _]) (rest := []) E Z X (l_told l hl0 D cA _ ad σ o g hLI.1 hLI.2.1 _ _ (i32_rng _) (i32_rng _)) gL_law_L_told rfl ⟨rfl, rfl⟩ (by decide +kernel) ⟨Nat.le_of_ble_eq_true rfl, Nat.le_of_ble_eq_true rfl⟩ rfl rfl (Nat.le_of_ble_eq_true rfl) ⟨hc.1, hc.2⟩ dL_law_1103 ?_
  rintro r1 ws1 hp1
  refine g_istore E dL_law_1106 (by decide) ?_
  refine g_aload_n E dL_law_1108 rfl ?_
  refine g_aload_n E dL_law_1109 rfl ?_
  refine g_iload E dL_law_1110 rfl ?_
  refine g_iconst E dL_law_1112 ?_
  refine g_iadd E dL_law_1113 ?_
  refine g_sld E hX hbl hbA (by omega) hL dL_law_1114 ?_
  refine g_aload_n E dL_law_1115 rfl ?_
  refine g_iload E dL_law_1116 rfl ?_
  refine g_iconst E dL_law_1118 ?_
  refine g_iadd E dL_law_1119 ?_
  refine g_sld E hX hbl hbA (by omega) hL dL_law_1120 ?_
  refine g_sw ?_
  refine g_fVi (T := TX5) (ci := 5) (n := 2) (As := [_, _]) (rest := []) E (m_told l D cA _ am (σ 0) th dd kp hLI.1 _ _ (i32_rng _) (i32_rng _)) gL_law_X5_told rfl ⟨rfl, rfl⟩ (by decide +kernel) ⟨Nat.le_of_ble_eq_true rfl, Nat.le_of_ble_eq_true rfl⟩ obM rfl rfl rfl (Nat.le_of_ble_eq_true rfl) ⟨hc.1, hc.2⟩ dL_law_1121 ?_
  rintro r2 ws2 hp2
  refine g_sw ?_
  obtain ⟨σ1, g1, dd1, kp1, t1, rfl, rfl, hLI1, hr, hz⟩ := lj2 (by unfold eTold; split <;> (try split) <;> (try split) <;> (try split) <;> (try split) <;> omega) hp1 hp2 hLI (fun _ => ⟨hLI.1, hLI.2.2⟩)
  refine g_istore E dL_law_1124 (by decide) ?_
  refine g_aload_n E dL_law_1126 rfl ?_
  refine g_sw ?_
  refine g_fVi (T := TX5) (ci := 5) (n := 0) (As := []) (rest := []) E (m_thrown l D cA _ am (σ1 0) t1 dd1 kp1) gL_law_X5_thrown rfl ⟨rfl, rfl⟩ (by decide +kernel) ⟨Nat.le_of_ble_eq_true rfl, Nat.le_of_ble_eq_true rfl⟩ obM rfl rfl rfl (Nat.le_of_ble_eq_true rfl) ⟨hc.1, hc.2⟩ dL_law_1127 ?_
  rintro r3 ws3 ⟨h3, rfl⟩
  obtain rfl : t1 = r3 := h3.symm
  refine g_sw ?_
  refine g_iload E dL_law_1130 rfl ?_
  refine g_icmp_eqR (tgt := 1137) E dL_law_1132 (by decide) (fun _ => ?_) (fun z => absurd hr.symm z)
  refine g_iload E dL_law_1137 rfl ?_
  have hend : GW p l e room_1 s m #[Value.ref b] below meth c Q D A 9 ((wX cA ad σ1 ++ oW cA o g1) ++ wM cA am (σ1 0) t1 dd1 kp1) (cells + 3) (slots + 18) 1154 [(0, .ref b), (1, .ref (ad 0 8 0)), (2, .ref (am 0)), (3, .ref o), (4, .int (zI i))] [] := by
    refine g_goto (tgt := 1697) E dL_law_1154 (by decide) ?_
    exact kk σ1 t1 dd1 kp1 g1 hLI1
  refine g_if_neR (tgt := 1154) E dL_law_1139 (by decide) (fun _ => ?_) (fun z => ?_)
  · refine g_loc (lv' := [(0, .ref b), (1, .ref (ad 0 8 0)), (2, .ref (am 0)), (3, .ref o), (4, .int (zI i))]) ⟨rfl, rfl, rfl, rfl, rfl, trivial⟩ ?_
    exact hend
  · refine g_aload_n E dL_law_1142 rfl ?_
    refine g_iconst E dL_law_1143 ?_
    refine g_lald E dL_law_1144 ?_
    refine g_iload E dL_law_1145 rfl ?_
    refine g_i2l E dL_law_1147 ?_
    refine g_lcmp E dL_law_1148 ?_
    refine g_if_eqR (tgt := 1154) E dL_law_1149 (by decide) (fun _ => ?_) (fun z2 => absurd (by rw [(hz z).1, (hz z).2]; simp [lg_cmp]) z2)
    refine g_loc (lv' := [(0, .ref b), (1, .ref (ad 0 8 0)), (2, .ref (am 0)), (3, .ref o), (4, .int (zI i))]) ⟨rfl, rfl, rfl, rfl, rfl, trivial⟩ ?_
    exact hend
set_option maxHeartbeats 1600000 in
set_option maxRecDepth 100000 in
/-- mouser -/
theorem case_16 {p : Program} {l : Launch} {e : Env} {s : State} {m : MethodId} {b : Nat} {below : List Frame} {meth : Method} {c : Code} {Q : State → Prop} {D : va_G} {A : Nat → Prop} {cells slots : Nat} {ret0 : Option FieldType} {cA : Nat → ClassId} {ad : Ad} {am : Nat → Nat} {o L : Nat} {xs : Nat → Int32} {σ : Nat → St} {th dd : Int32} {kp : Nat → Nat → Int32} {g : Nat → Int64} {i : Int} (E : GE p s m #[Value.ref b] meth c D (tysX cA) cL_law 9 RL wsL_law ret0) (hl0 : l.stackTraces = false) (Z : gZ A s) (X : gC s) (hX : va_X b L xs s s.heap) (hbl : b < s.heap.size) (hbA : ¬ A b) (hL : L ≤ 2560) (hi : 0 ≤ i ∧ i + 5 ≤ L) (hLI : LI σ dd) (hc : cells + 3 ≤ 601024 ∧ slots + 18 ≤ 7293034) (kk : ∀ (σ' : Nat → St) (th' dd' : Int32) (kp' : Nat → Nat → Int32) (g' : Nat → Int64), LI σ' dd' → GW p l e room_1 s m #[Value.ref b] below meth c Q D A 9 ((wX cA ad σ' ++ oW cA o g') ++ wM cA am (σ' 0) th' dd' kp') (cells + 3) (slots + 18) 1697 [(0, .ref b), (1, .ref (ad 0 8 0)), (2, .ref (am 0)), (3, .ref o), (4, .int (zI i))] []) : GW p l e room_1 s m #[Value.ref b] below meth c Q D A 9 ((wX cA ad σ ++ oW cA o g) ++ wM cA am (σ 0) th dd kp) (cells) (slots) 1157 [(0, .ref b), (1, .ref (ad 0 8 0)), (2, .ref (am 0)), (3, .ref o), (4, .int (zI i))] [] := by
  refine g_aload_n E dL_law_1157 rfl ?_
  refine g_aload_n E dL_law_1158 rfl ?_
  refine g_iload E dL_law_1159 rfl ?_
  refine g_iconst E dL_law_1161 ?_
  refine g_iadd E dL_law_1162 ?_
  refine g_sld E hX hbl hbA (by omega) hL dL_law_1163 ?_
  refine g_aload_n E dL_law_1164 rfl ?_
  refine g_iload E dL_law_1165 rfl ?_
  refine g_iconst E dL_law_1167 ?_
  refine g_iadd E dL_law_1168 ?_
  refine g_sld E hX hbl hbA (by omega) hL dL_law_1169 ?_
  refine g_aload_n E dL_law_1170 rfl ?_
  refine g_fW (n := 4) (As := [_, _, _, _]) (rest := []) E Z X (l_mouser l hl0 D cA _ ad σ o g hLI.1 hLI.2.1 _ _ (i32_rng _) (i32_rng _)) gL_law_L_mouser rfl ⟨rfl, rfl⟩ (by decide +kernel) ⟨Nat.le_of_ble_eq_true rfl, Nat.le_of_ble_eq_true rfl⟩ rfl rfl (Nat.le_of_ble_eq_true rfl) ⟨hc.1, hc.2⟩ dL_law_1171 ?_
  rintro r1 ws1 hp1
  refine g_istore E dL_law_1174 (by decide) ?_
  refine g_aload_n E dL_law_1176 rfl ?_
  refine g_aload_n E dL_law_1177 rfl ?_
  refine g_iload E dL_law_1178 rfl ?_
  refine g_iconst E dL_law_1180 ?_
  refine g_iadd E dL_law_1181 ?_
  refine g_sld E hX hbl hbA (by omega) hL dL_law_1182 ?_
  refine g_aload_n E dL_law_1183 rfl ?_
  refine g_iload E dL_law_1184 rfl ?_
  refine g_iconst E dL_law_1186 ?_
  refine g_iadd E dL_law_1187 ?_
  refine g_sld E hX hbl hbA (by omega) hL dL_law_1188 ?_
  refine g_sw ?_
  refine g_fVi (T := TX5) (ci := 5) (n := 2) (As := [_, _]) (rest := []) E (m_mouser l D cA _ am (σ 0) th dd kp hLI.1 _ _ (i32_rng _) (i32_rng _)) gL_law_X5_mouser rfl ⟨rfl, rfl⟩ (by decide +kernel) ⟨Nat.le_of_ble_eq_true rfl, Nat.le_of_ble_eq_true rfl⟩ obM rfl rfl rfl (Nat.le_of_ble_eq_true rfl) ⟨hc.1, hc.2⟩ dL_law_1189 ?_
  rintro r2 ws2 hp2
  refine g_sw ?_
  obtain ⟨σ1, g1, dd1, kp1, t1, rfl, rfl, hLI1, hr, hz⟩ := lj2 (by unfold eMou; split <;> (try split) <;> (try split) <;> (try split) <;> (try split) <;> omega) hp1 hp2 hLI (fun _ => ⟨hLI.1, hLI.2.2⟩)
  refine g_istore E dL_law_1192 (by decide) ?_
  refine g_aload_n E dL_law_1194 rfl ?_
  refine g_sw ?_
  refine g_fVi (T := TX5) (ci := 5) (n := 0) (As := []) (rest := []) E (m_thrown l D cA _ am (σ1 0) t1 dd1 kp1) gL_law_X5_thrown rfl ⟨rfl, rfl⟩ (by decide +kernel) ⟨Nat.le_of_ble_eq_true rfl, Nat.le_of_ble_eq_true rfl⟩ obM rfl rfl rfl (Nat.le_of_ble_eq_true rfl) ⟨hc.1, hc.2⟩ dL_law_1195 ?_
  rintro r3 ws3 ⟨h3, rfl⟩
  obtain rfl : t1 = r3 := h3.symm
  refine g_sw ?_
  refine g_iload E dL_law_1198 rfl ?_
  refine g_icmp_eqR (tgt := 1205) E dL_law_1200 (by decide) (fun _ => ?_) (fun z => absurd hr.symm z)
  refine g_iload E dL_law_1205 rfl ?_
  have hend : GW p l e room_1 s m #[Value.ref b] below meth c Q D A 9 ((wX cA ad σ1 ++ oW cA o g1) ++ wM cA am (σ1 0) t1 dd1 kp1) (cells + 3) (slots + 18) 1222 [(0, .ref b), (1, .ref (ad 0 8 0)), (2, .ref (am 0)), (3, .ref o), (4, .int (zI i))] [] := by
    refine g_goto (tgt := 1697) E dL_law_1222 (by decide) ?_
    exact kk σ1 t1 dd1 kp1 g1 hLI1
  refine g_if_neR (tgt := 1222) E dL_law_1207 (by decide) (fun _ => ?_) (fun z => ?_)
  · refine g_loc (lv' := [(0, .ref b), (1, .ref (ad 0 8 0)), (2, .ref (am 0)), (3, .ref o), (4, .int (zI i))]) ⟨rfl, rfl, rfl, rfl, rfl, trivial⟩ ?_
    exact hend
  · refine g_aload_n E dL_law_1210 rfl ?_
    refine g_iconst E dL_law_1211 ?_
    refine g_lald E dL_law_1212 ?_
    refine g_iload E dL_law_1213 rfl ?_
    refine g_i2l E dL_law_1215 ?_
    refine g_lcmp E dL_law_1216 ?_
    refine g_if_eqR (tgt := 1222) E dL_law_1217 (by decide) (fun _ => ?_) (fun z2 => absurd (by rw [(hz z).1, (hz z).2]; simp [lg_cmp]) z2)
    refine g_loc (lv' := [(0, .ref b), (1, .ref (ad 0 8 0)), (2, .ref (am 0)), (3, .ref o), (4, .int (zI i))]) ⟨rfl, rfl, rfl, rfl, rfl, trivial⟩ ?_
    exact hend
set_option maxHeartbeats 1600000 in
set_option maxRecDepth 100000 in
/-- count -/
theorem case_17 {p : Program} {l : Launch} {e : Env} {s : State} {m : MethodId} {b : Nat} {below : List Frame} {meth : Method} {c : Code} {Q : State → Prop} {D : va_G} {A : Nat → Prop} {cells slots : Nat} {ret0 : Option FieldType} {cA : Nat → ClassId} {ad : Ad} {am : Nat → Nat} {o L : Nat} {xs : Nat → Int32} {σ : Nat → St} {th dd : Int32} {kp : Nat → Nat → Int32} {g : Nat → Int64} {i : Int} (E : GE p s m #[Value.ref b] meth c D (tysX cA) cL_law 9 RL wsL_law ret0) (hl0 : l.stackTraces = false) (Z : gZ A s) (X : gC s) (hX : va_X b L xs s s.heap) (hbl : b < s.heap.size) (hbA : ¬ A b) (hL : L ≤ 2560) (hi : 0 ≤ i ∧ i + 5 ≤ L) (hLI : LI σ dd) (hc : cells + 3 ≤ 601024 ∧ slots + 18 ≤ 7293034) (kk : ∀ (σ' : Nat → St) (th' dd' : Int32) (kp' : Nat → Nat → Int32) (g' : Nat → Int64), LI σ' dd' → GW p l e room_1 s m #[Value.ref b] below meth c Q D A 9 ((wX cA ad σ' ++ oW cA o g') ++ wM cA am (σ' 0) th' dd' kp') (cells + 3) (slots + 18) 1697 [(0, .ref b), (1, .ref (ad 0 8 0)), (2, .ref (am 0)), (3, .ref o), (4, .int (zI i))] []) : GW p l e room_1 s m #[Value.ref b] below meth c Q D A 9 ((wX cA ad σ ++ oW cA o g) ++ wM cA am (σ 0) th dd kp) (cells) (slots) 1225 [(0, .ref b), (1, .ref (ad 0 8 0)), (2, .ref (am 0)), (3, .ref o), (4, .int (zI i))] [] := by
  refine g_aload_n E dL_law_1225 rfl ?_
  refine g_aload_n E dL_law_1226 rfl ?_
  refine g_iload E dL_law_1227 rfl ?_
  refine g_iconst E dL_law_1229 ?_
  refine g_iadd E dL_law_1230 ?_
  refine g_sld E hX hbl hbA (by omega) hL dL_law_1231 ?_
  refine g_aload_n E dL_law_1232 rfl ?_
  refine g_fW (n := 3) (As := [_, _, _]) (rest := []) E Z X (l_count l hl0 D cA _ ad σ o g hLI.1 hLI.2.1 _ (i32_rng _)) gL_law_L_count rfl ⟨rfl, rfl⟩ (by decide +kernel) ⟨Nat.le_of_ble_eq_true rfl, Nat.le_of_ble_eq_true rfl⟩ rfl rfl (Nat.le_of_ble_eq_true rfl) ⟨hc.1, hc.2⟩ dL_law_1233 ?_
  rintro r1 ws1 hp1
  refine g_istore E dL_law_1236 (by decide) ?_
  refine g_aload_n E dL_law_1238 rfl ?_
  refine g_aload_n E dL_law_1239 rfl ?_
  refine g_iload E dL_law_1240 rfl ?_
  refine g_iconst E dL_law_1242 ?_
  refine g_iadd E dL_law_1243 ?_
  refine g_sld E hX hbl hbA (by omega) hL dL_law_1244 ?_
  refine g_sw ?_
  refine g_fVi (T := TX5) (ci := 5) (n := 1) (As := [_]) (rest := []) E (m_count l D cA _ am (σ 0) th dd kp hLI.1 hLI.2.2 _ (i32_rng _)) gL_law_X5_count rfl ⟨rfl, rfl⟩ (by decide +kernel) ⟨Nat.le_of_ble_eq_true rfl, Nat.le_of_ble_eq_true rfl⟩ obM rfl rfl rfl (Nat.le_of_ble_eq_true rfl) ⟨hc.1, hc.2⟩ dL_law_1245 ?_
  rintro r2 ws2 hp2
  refine g_sw ?_
  obtain ⟨σ1, g1, dd1, kp1, t1, rfl, rfl, hLI1, hr, hz⟩ := lj2 (by unfold eCnt; split <;> (try split) <;> (try split) <;> (try split) <;> (try split) <;> omega) hp1 hp2 hLI (fun _ => ⟨hLI.1, hLI.2.2⟩)
  refine g_istore E dL_law_1248 (by decide) ?_
  refine g_aload_n E dL_law_1250 rfl ?_
  refine g_sw ?_
  refine g_fVi (T := TX5) (ci := 5) (n := 0) (As := []) (rest := []) E (m_thrown l D cA _ am (σ1 0) t1 dd1 kp1) gL_law_X5_thrown rfl ⟨rfl, rfl⟩ (by decide +kernel) ⟨Nat.le_of_ble_eq_true rfl, Nat.le_of_ble_eq_true rfl⟩ obM rfl rfl rfl (Nat.le_of_ble_eq_true rfl) ⟨hc.1, hc.2⟩ dL_law_1251 ?_
  rintro r3 ws3 ⟨h3, rfl⟩
  obtain rfl : t1 = r3 := h3.symm
  refine g_sw ?_
  refine g_iload E dL_law_1254 rfl ?_
  refine g_icmp_eqR (tgt := 1261) E dL_law_1256 (by decide) (fun _ => ?_) (fun z => absurd hr.symm z)
  refine g_iload E dL_law_1261 rfl ?_
  have hend : GW p l e room_1 s m #[Value.ref b] below meth c Q D A 9 ((wX cA ad σ1 ++ oW cA o g1) ++ wM cA am (σ1 0) t1 dd1 kp1) (cells + 3) (slots + 18) 1278 [(0, .ref b), (1, .ref (ad 0 8 0)), (2, .ref (am 0)), (3, .ref o), (4, .int (zI i))] [] := by
    refine g_goto (tgt := 1697) E dL_law_1278 (by decide) ?_
    exact kk σ1 t1 dd1 kp1 g1 hLI1
  refine g_if_neR (tgt := 1278) E dL_law_1263 (by decide) (fun _ => ?_) (fun z => ?_)
  · refine g_loc (lv' := [(0, .ref b), (1, .ref (ad 0 8 0)), (2, .ref (am 0)), (3, .ref o), (4, .int (zI i))]) ⟨rfl, rfl, rfl, rfl, rfl, trivial⟩ ?_
    exact hend
  · refine g_aload_n E dL_law_1266 rfl ?_
    refine g_iconst E dL_law_1267 ?_
    refine g_lald E dL_law_1268 ?_
    refine g_iload E dL_law_1269 rfl ?_
    refine g_i2l E dL_law_1271 ?_
    refine g_lcmp E dL_law_1272 ?_
    refine g_if_eqR (tgt := 1278) E dL_law_1273 (by decide) (fun _ => ?_) (fun z2 => absurd (by rw [(hz z).1, (hz z).2]; simp [lg_cmp]) z2)
    refine g_loc (lv' := [(0, .ref b), (1, .ref (ad 0 8 0)), (2, .ref (am 0)), (3, .ref o), (4, .int (zI i))]) ⟨rfl, rfl, rfl, rfl, rfl, trivial⟩ ?_
    exact hend
set_option maxHeartbeats 1600000 in
set_option maxRecDepth 100000 in
/-- room -/
theorem case_18 {p : Program} {l : Launch} {e : Env} {s : State} {m : MethodId} {b : Nat} {below : List Frame} {meth : Method} {c : Code} {Q : State → Prop} {D : va_G} {A : Nat → Prop} {cells slots : Nat} {ret0 : Option FieldType} {cA : Nat → ClassId} {ad : Ad} {am : Nat → Nat} {o L : Nat} {xs : Nat → Int32} {σ : Nat → St} {th dd : Int32} {kp : Nat → Nat → Int32} {g : Nat → Int64} {i : Int} (E : GE p s m #[Value.ref b] meth c D (tysX cA) cL_law 9 RL wsL_law ret0) (hl0 : l.stackTraces = false) (Z : gZ A s) (X : gC s) (hX : va_X b L xs s s.heap) (hbl : b < s.heap.size) (hbA : ¬ A b) (hL : L ≤ 2560) (hi : 0 ≤ i ∧ i + 5 ≤ L) (hLI : LI σ dd) (hc : cells + 3 ≤ 601024 ∧ slots + 18 ≤ 7293034) (kk : ∀ (σ' : Nat → St) (th' dd' : Int32) (kp' : Nat → Nat → Int32) (g' : Nat → Int64), LI σ' dd' → GW p l e room_1 s m #[Value.ref b] below meth c Q D A 9 ((wX cA ad σ' ++ oW cA o g') ++ wM cA am (σ' 0) th' dd' kp') (cells + 3) (slots + 18) 1697 [(0, .ref b), (1, .ref (ad 0 8 0)), (2, .ref (am 0)), (3, .ref o), (4, .int (zI i))] []) : GW p l e room_1 s m #[Value.ref b] below meth c Q D A 9 ((wX cA ad σ ++ oW cA o g) ++ wM cA am (σ 0) th dd kp) (cells) (slots) 1281 [(0, .ref b), (1, .ref (ad 0 8 0)), (2, .ref (am 0)), (3, .ref o), (4, .int (zI i))] [] := by
  refine g_aload_n E dL_law_1281 rfl ?_
  refine g_aload_n E dL_law_1282 rfl ?_
  refine g_iload E dL_law_1283 rfl ?_
  refine g_iconst E dL_law_1285 ?_
  refine g_iadd E dL_law_1286 ?_
  refine g_sld E hX hbl hbA (by omega) hL dL_law_1287 ?_
  refine g_aload_n E dL_law_1288 rfl ?_
  refine g_fW (n := 3) (As := [_, _, _]) (rest := []) E Z X (l_room l hl0 D cA _ ad σ o g hLI.1 hLI.2.1 _ (i32_rng _)) gL_law_L_room rfl ⟨rfl, rfl⟩ (by decide +kernel) ⟨Nat.le_of_ble_eq_true rfl, Nat.le_of_ble_eq_true rfl⟩ rfl rfl (Nat.le_of_ble_eq_true rfl) ⟨hc.1, hc.2⟩ dL_law_1289 ?_
  rintro r1 ws1 hp1
  refine g_istore E dL_law_1292 (by decide) ?_
  refine g_aload_n E dL_law_1294 rfl ?_
  refine g_aload_n E dL_law_1295 rfl ?_
  refine g_iload E dL_law_1296 rfl ?_
  refine g_iconst E dL_law_1298 ?_
  refine g_iadd E dL_law_1299 ?_
  refine g_sld E hX hbl hbA (by omega) hL dL_law_1300 ?_
  refine g_sw ?_
  refine g_fVi (T := TX5) (ci := 5) (n := 1) (As := [_]) (rest := []) E (m_room_ l D cA _ am (σ 0) th dd kp hLI.1 _ (i32_rng _)) gL_law_X5_room_ rfl ⟨rfl, rfl⟩ (by decide +kernel) ⟨Nat.le_of_ble_eq_true rfl, Nat.le_of_ble_eq_true rfl⟩ obM rfl rfl rfl (Nat.le_of_ble_eq_true rfl) ⟨hc.1, hc.2⟩ dL_law_1301 ?_
  rintro r2 ws2 hp2
  refine g_sw ?_
  obtain ⟨σ1, g1, dd1, kp1, t1, rfl, rfl, hLI1, hr, hz⟩ := lj2 (by unfold eIn; split <;> (try split) <;> (try split) <;> (try split) <;> (try split) <;> omega) hp1 hp2 hLI (fun _ => ⟨hLI.1, hLI.2.2⟩)
  refine g_istore E dL_law_1304 (by decide) ?_
  refine g_aload_n E dL_law_1306 rfl ?_
  refine g_sw ?_
  refine g_fVi (T := TX5) (ci := 5) (n := 0) (As := []) (rest := []) E (m_thrown l D cA _ am (σ1 0) t1 dd1 kp1) gL_law_X5_thrown rfl ⟨rfl, rfl⟩ (by decide +kernel) ⟨Nat.le_of_ble_eq_true rfl, Nat.le_of_ble_eq_true rfl⟩ obM rfl rfl rfl (Nat.le_of_ble_eq_true rfl) ⟨hc.1, hc.2⟩ dL_law_1307 ?_
  rintro r3 ws3 ⟨h3, rfl⟩
  obtain rfl : t1 = r3 := h3.symm
  refine g_sw ?_
  refine g_iload E dL_law_1310 rfl ?_
  refine g_icmp_eqR (tgt := 1317) E dL_law_1312 (by decide) (fun _ => ?_) (fun z => absurd hr.symm z)
  refine g_iload E dL_law_1317 rfl ?_
  have hend : GW p l e room_1 s m #[Value.ref b] below meth c Q D A 9 ((wX cA ad σ1 ++ oW cA o g1) ++ wM cA am (σ1 0) t1 dd1 kp1) (cells + 3) (slots + 18) 1334 [(0, .ref b), (1, .ref (ad 0 8 0)), (2, .ref (am 0)), (3, .ref o), (4, .int (zI i))] [] := by
    refine g_goto (tgt := 1697) E dL_law_1334 (by decide) ?_
    exact kk σ1 t1 dd1 kp1 g1 hLI1
  refine g_if_neR (tgt := 1334) E dL_law_1319 (by decide) (fun _ => ?_) (fun z => ?_)
  · refine g_loc (lv' := [(0, .ref b), (1, .ref (ad 0 8 0)), (2, .ref (am 0)), (3, .ref o), (4, .int (zI i))]) ⟨rfl, rfl, rfl, rfl, rfl, trivial⟩ ?_
    exact hend
  · refine g_aload_n E dL_law_1322 rfl ?_
    refine g_iconst E dL_law_1323 ?_
    refine g_lald E dL_law_1324 ?_
    refine g_iload E dL_law_1325 rfl ?_
    refine g_i2l E dL_law_1327 ?_
    refine g_lcmp E dL_law_1328 ?_
    refine g_if_eqR (tgt := 1334) E dL_law_1329 (by decide) (fun _ => ?_) (fun z2 => absurd (by rw [(hz z).1, (hz z).2]; simp [lg_cmp]) z2)
    refine g_loc (lv' := [(0, .ref b), (1, .ref (ad 0 8 0)), (2, .ref (am 0)), (3, .ref o), (4, .int (zI i))]) ⟨rfl, rfl, rfl, rfl, rfl, trivial⟩ ?_
    exact hend
set_option maxHeartbeats 1600000 in
set_option maxRecDepth 100000 in
/-- side -/
theorem case_19 {p : Program} {l : Launch} {e : Env} {s : State} {m : MethodId} {b : Nat} {below : List Frame} {meth : Method} {c : Code} {Q : State → Prop} {D : va_G} {A : Nat → Prop} {cells slots : Nat} {ret0 : Option FieldType} {cA : Nat → ClassId} {ad : Ad} {am : Nat → Nat} {o L : Nat} {xs : Nat → Int32} {σ : Nat → St} {th dd : Int32} {kp : Nat → Nat → Int32} {g : Nat → Int64} {i : Int} (E : GE p s m #[Value.ref b] meth c D (tysX cA) cL_law 9 RL wsL_law ret0) (hl0 : l.stackTraces = false) (Z : gZ A s) (X : gC s) (hX : va_X b L xs s s.heap) (hbl : b < s.heap.size) (hbA : ¬ A b) (hL : L ≤ 2560) (hi : 0 ≤ i ∧ i + 5 ≤ L) (hLI : LI σ dd) (hc : cells + 3 ≤ 601024 ∧ slots + 18 ≤ 7293034) (kk : ∀ (σ' : Nat → St) (th' dd' : Int32) (kp' : Nat → Nat → Int32) (g' : Nat → Int64), LI σ' dd' → GW p l e room_1 s m #[Value.ref b] below meth c Q D A 9 ((wX cA ad σ' ++ oW cA o g') ++ wM cA am (σ' 0) th' dd' kp') (cells + 3) (slots + 18) 1697 [(0, .ref b), (1, .ref (ad 0 8 0)), (2, .ref (am 0)), (3, .ref o), (4, .int (zI i))] []) : GW p l e room_1 s m #[Value.ref b] below meth c Q D A 9 ((wX cA ad σ ++ oW cA o g) ++ wM cA am (σ 0) th dd kp) (cells) (slots) 1337 [(0, .ref b), (1, .ref (ad 0 8 0)), (2, .ref (am 0)), (3, .ref o), (4, .int (zI i))] [] := by
  refine g_aload_n E dL_law_1337 rfl ?_
  refine g_aload_n E dL_law_1338 rfl ?_
  refine g_iload E dL_law_1339 rfl ?_
  refine g_iconst E dL_law_1341 ?_
  refine g_iadd E dL_law_1342 ?_
  refine g_sld E hX hbl hbA (by omega) hL dL_law_1343 ?_
  refine g_aload_n E dL_law_1344 rfl ?_
  refine g_fW (n := 3) (As := [_, _, _]) (rest := []) E Z X (l_side l hl0 D cA _ ad σ o g hLI.1 hLI.2.1 _ (i32_rng _)) gL_law_L_side rfl ⟨rfl, rfl⟩ (by decide +kernel) ⟨Nat.le_of_ble_eq_true rfl, Nat.le_of_ble_eq_true rfl⟩ rfl rfl (Nat.le_of_ble_eq_true rfl) ⟨hc.1, hc.2⟩ dL_law_1345 ?_
  rintro r1 ws1 hp1
  refine g_istore E dL_law_1348 (by decide) ?_
  refine g_aload_n E dL_law_1350 rfl ?_
  refine g_aload_n E dL_law_1351 rfl ?_
  refine g_iload E dL_law_1352 rfl ?_
  refine g_iconst E dL_law_1354 ?_
  refine g_iadd E dL_law_1355 ?_
  refine g_sld E hX hbl hbA (by omega) hL dL_law_1356 ?_
  refine g_sw ?_
  refine g_fVi (T := TX5) (ci := 5) (n := 1) (As := [_]) (rest := []) E (m_side l D cA _ am (σ 0) th dd kp hLI.1 _ (i32_rng _)) gL_law_X5_side rfl ⟨rfl, rfl⟩ (by decide +kernel) ⟨Nat.le_of_ble_eq_true rfl, Nat.le_of_ble_eq_true rfl⟩ obM rfl rfl rfl (Nat.le_of_ble_eq_true rfl) ⟨hc.1, hc.2⟩ dL_law_1357 ?_
  rintro r2 ws2 hp2
  refine g_sw ?_
  obtain ⟨σ1, g1, dd1, kp1, t1, rfl, rfl, hLI1, hr, hz⟩ := lj2 (by unfold eIn; split <;> (try split) <;> (try split) <;> (try split) <;> (try split) <;> omega) hp1 hp2 hLI (fun _ => ⟨hLI.1, hLI.2.2⟩)
  refine g_istore E dL_law_1360 (by decide) ?_
  refine g_aload_n E dL_law_1362 rfl ?_
  refine g_sw ?_
  refine g_fVi (T := TX5) (ci := 5) (n := 0) (As := []) (rest := []) E (m_thrown l D cA _ am (σ1 0) t1 dd1 kp1) gL_law_X5_thrown rfl ⟨rfl, rfl⟩ (by decide +kernel) ⟨Nat.le_of_ble_eq_true rfl, Nat.le_of_ble_eq_true rfl⟩ obM rfl rfl rfl (Nat.le_of_ble_eq_true rfl) ⟨hc.1, hc.2⟩ dL_law_1363 ?_
  rintro r3 ws3 ⟨h3, rfl⟩
  obtain rfl : t1 = r3 := h3.symm
  refine g_sw ?_
  refine g_iload E dL_law_1366 rfl ?_
  refine g_icmp_eqR (tgt := 1373) E dL_law_1368 (by decide) (fun _ => ?_) (fun z => absurd hr.symm z)
  refine g_iload E dL_law_1373 rfl ?_
  have hend : GW p l e room_1 s m #[Value.ref b] below meth c Q D A 9 ((wX cA ad σ1 ++ oW cA o g1) ++ wM cA am (σ1 0) t1 dd1 kp1) (cells + 3) (slots + 18) 1390 [(0, .ref b), (1, .ref (ad 0 8 0)), (2, .ref (am 0)), (3, .ref o), (4, .int (zI i))] [] := by
    refine g_goto (tgt := 1697) E dL_law_1390 (by decide) ?_
    exact kk σ1 t1 dd1 kp1 g1 hLI1
  refine g_if_neR (tgt := 1390) E dL_law_1375 (by decide) (fun _ => ?_) (fun z => ?_)
  · refine g_loc (lv' := [(0, .ref b), (1, .ref (ad 0 8 0)), (2, .ref (am 0)), (3, .ref o), (4, .int (zI i))]) ⟨rfl, rfl, rfl, rfl, rfl, trivial⟩ ?_
    exact hend
  · refine g_aload_n E dL_law_1378 rfl ?_
    refine g_iconst E dL_law_1379 ?_
    refine g_lald E dL_law_1380 ?_
    refine g_iload E dL_law_1381 rfl ?_
    refine g_i2l E dL_law_1383 ?_
    refine g_lcmp E dL_law_1384 ?_
    refine g_if_eqR (tgt := 1390) E dL_law_1385 (by decide) (fun _ => ?_) (fun z2 => absurd (by rw [(hz z).1, (hz z).2]; simp [lg_cmp]) z2)
    refine g_loc (lv' := [(0, .ref b), (1, .ref (ad 0 8 0)), (2, .ref (am 0)), (3, .ref o), (4, .int (zI i))]) ⟨rfl, rfl, rfl, rfl, rfl, trivial⟩ ?_
    exact hend
set_option maxHeartbeats 1600000 in
set_option maxRecDepth 100000 in
/-- pass -/
theorem case_20 {p : Program} {l : Launch} {e : Env} {s : State} {m : MethodId} {b : Nat} {below : List Frame} {meth : Method} {c : Code} {Q : State → Prop} {D : va_G} {A : Nat → Prop} {cells slots : Nat} {ret0 : Option FieldType} {cA : Nat → ClassId} {ad : Ad} {am : Nat → Nat} {o L : Nat} {xs : Nat → Int32} {σ : Nat → St} {th dd : Int32} {kp : Nat → Nat → Int32} {g : Nat → Int64} {i : Int} (E : GE p s m #[Value.ref b] meth c D (tysX cA) cL_law 9 RL wsL_law ret0) (hl0 : l.stackTraces = false) (Z : gZ A s) (X : gC s) (hX : va_X b L xs s s.heap) (hbl : b < s.heap.size) (hbA : ¬ A b) (hL : L ≤ 2560) (hi : 0 ≤ i ∧ i + 5 ≤ L) (hLI : LI σ dd) (hc : cells + 3 ≤ 601024 ∧ slots + 18 ≤ 7293034) (kk : ∀ (σ' : Nat → St) (th' dd' : Int32) (kp' : Nat → Nat → Int32) (g' : Nat → Int64), LI σ' dd' → GW p l e room_1 s m #[Value.ref b] below meth c Q D A 9 ((wX cA ad σ' ++ oW cA o g') ++ wM cA am (σ' 0) th' dd' kp') (cells + 3) (slots + 18) 1697 [(0, .ref b), (1, .ref (ad 0 8 0)), (2, .ref (am 0)), (3, .ref o), (4, .int (zI i))] []) : GW p l e room_1 s m #[Value.ref b] below meth c Q D A 9 ((wX cA ad σ ++ oW cA o g) ++ wM cA am (σ 0) th dd kp) (cells) (slots) 1393 [(0, .ref b), (1, .ref (ad 0 8 0)), (2, .ref (am 0)), (3, .ref o), (4, .int (zI i))] [] := by
  refine g_aload_n E dL_law_1393 rfl ?_
  refine g_aload_n E dL_law_1394 rfl ?_
  refine g_iload E dL_law_1395 rfl ?_
  refine g_iconst E dL_law_1397 ?_
  refine g_iadd E dL_law_1398 ?_
  refine g_sld E hX hbl hbA (by omega) hL dL_law_1399 ?_
  refine g_aload_n E dL_law_1400 rfl ?_
  refine g_fW (n := 3) (As := [_, _, _]) (rest := []) E Z X (l_pass l hl0 D cA _ ad σ o g hLI.1 hLI.2.1 _ (i32_rng _)) gL_law_L_pass rfl ⟨rfl, rfl⟩ (by decide +kernel) ⟨Nat.le_of_ble_eq_true rfl, Nat.le_of_ble_eq_true rfl⟩ rfl rfl (Nat.le_of_ble_eq_true rfl) ⟨hc.1, hc.2⟩ dL_law_1401 ?_
  rintro r1 ws1 hp1
  refine g_istore E dL_law_1404 (by decide) ?_
  refine g_aload_n E dL_law_1406 rfl ?_
  refine g_aload_n E dL_law_1407 rfl ?_
  refine g_iload E dL_law_1408 rfl ?_
  refine g_iconst E dL_law_1410 ?_
  refine g_iadd E dL_law_1411 ?_
  refine g_sld E hX hbl hbA (by omega) hL dL_law_1412 ?_
  refine g_sw ?_
  refine g_fVi (T := TX5) (ci := 5) (n := 1) (As := [_]) (rest := []) E (m_pass l D cA _ am (σ 0) th dd kp hLI.1 _ (i32_rng _)) gL_law_X5_pass rfl ⟨rfl, rfl⟩ (by decide +kernel) ⟨Nat.le_of_ble_eq_true rfl, Nat.le_of_ble_eq_true rfl⟩ obM rfl rfl rfl (Nat.le_of_ble_eq_true rfl) ⟨hc.1, hc.2⟩ dL_law_1413 ?_
  rintro r2 ws2 hp2
  refine g_sw ?_
  obtain ⟨σ1, g1, dd1, kp1, t1, rfl, rfl, hLI1, hr, hz⟩ := lj2 (by unfold eIn; split <;> (try split) <;> (try split) <;> (try split) <;> (try split) <;> omega) hp1 hp2 hLI (fun he => ⟨(pass_g hLI.1 he).1, by rw [hLI.2.2]; exact (pass_g hLI.1 he).2.2.2.symm⟩)
  refine g_istore E dL_law_1416 (by decide) ?_
  refine g_aload_n E dL_law_1418 rfl ?_
  refine g_sw ?_
  refine g_fVi (T := TX5) (ci := 5) (n := 0) (As := []) (rest := []) E (m_thrown l D cA _ am (σ1 0) t1 dd1 kp1) gL_law_X5_thrown rfl ⟨rfl, rfl⟩ (by decide +kernel) ⟨Nat.le_of_ble_eq_true rfl, Nat.le_of_ble_eq_true rfl⟩ obM rfl rfl rfl (Nat.le_of_ble_eq_true rfl) ⟨hc.1, hc.2⟩ dL_law_1419 ?_
  rintro r3 ws3 ⟨h3, rfl⟩
  obtain rfl : t1 = r3 := h3.symm
  refine g_sw ?_
  refine g_iload E dL_law_1422 rfl ?_
  refine g_icmp_eqR (tgt := 1429) E dL_law_1424 (by decide) (fun _ => ?_) (fun z => absurd hr.symm z)
  refine g_iload E dL_law_1429 rfl ?_
  have hend : GW p l e room_1 s m #[Value.ref b] below meth c Q D A 9 ((wX cA ad σ1 ++ oW cA o g1) ++ wM cA am (σ1 0) t1 dd1 kp1) (cells + 3) (slots + 18) 1446 [(0, .ref b), (1, .ref (ad 0 8 0)), (2, .ref (am 0)), (3, .ref o), (4, .int (zI i))] [] := by
    refine g_goto (tgt := 1697) E dL_law_1446 (by decide) ?_
    exact kk σ1 t1 dd1 kp1 g1 hLI1
  refine g_if_neR (tgt := 1446) E dL_law_1431 (by decide) (fun _ => ?_) (fun z => ?_)
  · refine g_loc (lv' := [(0, .ref b), (1, .ref (ad 0 8 0)), (2, .ref (am 0)), (3, .ref o), (4, .int (zI i))]) ⟨rfl, rfl, rfl, rfl, rfl, trivial⟩ ?_
    exact hend
  · refine g_aload_n E dL_law_1434 rfl ?_
    refine g_iconst E dL_law_1435 ?_
    refine g_lald E dL_law_1436 ?_
    refine g_iload E dL_law_1437 rfl ?_
    refine g_i2l E dL_law_1439 ?_
    refine g_lcmp E dL_law_1440 ?_
    refine g_if_eqR (tgt := 1446) E dL_law_1441 (by decide) (fun _ => ?_) (fun z2 => absurd (by rw [(hz z).1, (hz z).2]; simp [lg_cmp]) z2)
    refine g_loc (lv' := [(0, .ref b), (1, .ref (ad 0 8 0)), (2, .ref (am 0)), (3, .ref o), (4, .int (zI i))]) ⟨rfl, rfl, rfl, rfl, rfl, trivial⟩ ?_
    exact hend
