/-! ===== the law's bastion: counted ===== -/
set_option maxHeartbeats 800000 in
set_option maxRecDepth 100000 in
/-- counted(what) -/
theorem c_X5_counted (l : Launch) (D : va_G) (cA : Nat → ClassId) (A : Nat → Prop) (am : Ad) (L : List Id3) (w2 : va_W) (a : St) (hS : SH L a) (hI : Inv a) (w9 : Int) (hw : 0 ≤ w9 ∧ w9 < 11) : Met l yX5_counted wsX5_counted ({ frames := 1, cells := 2, slots := 16, locals := 23 }) (PcZ D (tysX cA) A (wS cA am L a ++ w2) [.ref (am 0 0 0), .int (zI w9)]) (va_Qi (fun (r : Int32) ws' => r = coV a w9 ∧ ws' = wS cA am L a ++ w2) (gB D A) A) 2 16 A := by
  refine g_metZ (cc := cX5_counted) (maxL := 8) (ret := (some .int)) (own := RX5) rfl (by decide) rfl (Nat.le_of_ble_eq_true rfl) ?_
  intro p e s m below meth c E Z
  have hA : ∀ q, s.heap.size ≤ q → A q := Z.2.1
  have hin5 : ∀ w ∈ u_ws RX5 TX5 9, w ∈ wsX5_counted := by decide +kernel
  have hin7 : ∀ w ∈ u_ws RX7 TX7 5, w ∈ wsX5_counted := by decide +kernel
  obtain ⟨hL, hB, hPm, hCm, -, -⟩ := id hS
  obtain ⟨⟨hn0, hn6, hc0, hc3⟩, hPI, hCI, hFr⟩ := id hI
  refine g_loc (lv' := [(0, .ref (am 0 0 0)), (1, .int (zI w9))]) ⟨rfl, rfl, trivial⟩ ?_
  refine g_iconst E dX5_counted_0 ?_
  refine g_top (v' := .int (zI ((5 : Nat) : Int))) (rfl) ?_
  refine g_newa E hA (by decide +kernel) (by omega) (by show (_ : Nat) ≤ 2; omega) (by show (_ : Nat) ≤ 16; omega) dX5_counted_1 (fun q1 => ?_)
  refine g_asc ?_
  refine g_astore_n E dX5_counted_3 (by decide) ?_
  refine g_iconst E dX5_counted_4 ?_
  refine g_istore_n E dX5_counted_5 (by decide) ?_
  refine g_wid (k := 1) (n := 5) (by omega) (by omega) ?_
  have key_kk : ∀ (n_kk kk : Nat), (kk : Int) ≤ (5 : Int) → (5 : Int) + 1 ≤ (kk : Int) + n_kk → GW p l e (headSpec wsX5_counted ({ frames := 1, cells := 2, slots := 16, locals := 23 })).room s m ([.ref (am 0 0 0), .int (zI w9)] : List Value).toArray below meth c (MQ below (va_Qi (fun (r : Int32) ws' => r = coV a w9 ∧ ws' = wS cA am L a ++ w2) (gB D A) A) ([.ref (am 0 0 0), .int (zI w9)] : List Value).toArray s 2 16 A) D A 8 (wS cA am L a ++ (w2 ++ [(q1, .inl (cA 0, 5, .inl (sumsF a kk 0)))])) 1 5 6 [(0, .ref (am 0 0 0)), (1, .int (zI w9)), (2, .ref q1), (3, .int (zI (kk : Int)))] [] := by
    intro n_kk
    induction n_kk with
    | zero => intro kk h1 h2; exact absurd h2 (by omega)
    | succ n_kk ih_kk =>
      intro kk hle_kk hfu_kk
      refine g_iload_n E dX5_counted_6 rfl ?_
      refine g_iconst E dX5_counted_7 ?_
      refine g_icmp_ge (tgt := 65) E dX5_counted_8 (by decide) (by omega) (by omega) (fun c_8 => ?_) (fun c_8 => ?_)
      · obtain rfl : kk = 5 := by omega
        refine g_iconst E dX5_counted_65 ?_
        refine g_istore_n E dX5_counted_66 (by decide) ?_
        refine g_aload_n E dX5_counted_67 rfl ?_
        refine gs_Sim_piles E hB.1 hin5 (by decide +kernel) dX5_counted_68 ?_
        refine g_astore E dX5_counted_71 (by decide) ?_
        refine g_aload E dX5_counted_73 rfl ?_
        refine ns_10 E hB.2.2.2.2.2.1 (by omega) dX5_counted_75 ?_
        refine g_istore E dX5_counted_76 (by decide) ?_
        refine g_iconst E dX5_counted_78 ?_
        refine g_istore E dX5_counted_79 (by decide) ?_
        refine g_wid (k := 1) (n := 5) (by omega) (by omega) ?_
        have key_kk2 : ∀ (n_kk2 kk2 : Nat), (kk2 : Int) ≤ np a → np a + 1 ≤ (kk2 : Int) + n_kk2 → GW p l e (headSpec wsX5_counted ({ frames := 1, cells := 2, slots := 16, locals := 23 })).room s m ([.ref (am 0 0 0), .int (zI w9)] : List Value).toArray below meth c (MQ below (va_Qi (fun (r : Int32) ws' => r = coV a w9 ∧ ws' = wS cA am L a ++ w2) (gB D A) A) ([.ref (am 0 0 0), .int (zI w9)] : List Value).toArray s 2 16 A) D A 8 (wS cA am L a ++ (w2 ++ [(q1, .inl (cA 0, 5, .inl (sumsF a 5 kk2)))])) 1 5 81 [(0, .ref (am 0 0 0)), (1, .int (zI w9)), (2, .ref q1), (3, .int (zI (ruAll a kk2))), (4, .ref (am 10 0 0)), (5, .int (zI (np a))), (6, .int (zI (kk2 : Int)))] [] := by
          intro n_kk2
          induction n_kk2 with
          | zero => intro kk2 h1 h2; exact absurd h2 (by omega)
          | succ n_kk2 ih_kk2 =>
            intro kk2 hle_kk2 hfu_kk2
            have hpk : (kk2 : Int) < np a → PO a kk2 := fun h => (hPI kk2 h).1
            refine g_iload E dX5_counted_81 rfl ?_
            refine g_iload E dX5_counted_83 rfl ?_
            refine g_icmp_ge (tgt := 124) E dX5_counted_85 (by decide) (by omega) (by omega) (fun c_85 => ?_) (fun c_85 => ?_)
            · obtain rfl : kk2 = (np a).toNat := by omega
              refine g_bipush E dX5_counted_124 (by decide) ?_
              refine g_top (v' := .int (zI ((11 : Nat) : Int))) (rfl) ?_
              refine g_newa E hA (by decide +kernel) (by omega) (by show (_ : Nat) ≤ 2; omega) (by show (_ : Nat) ≤ 16; omega) dX5_counted_126 (fun q2 => ?_)
              refine g_asc2 ?_
              refine g_st (ws' := wS cA am L a ++ (w2 ++ [(q1, .inl (cA 0, 5, .inl (sumsF a 5 (np a).toNat))), (q2, .inl (cA 0, 11, .inl (fun _ => 0)))])) rfl rfl rfl ?_
              refine g_dup E dX5_counted_128 rfl ?_
              refine g_iconst E dX5_counted_129 ?_
              refine g_aload_n E dX5_counted_130 rfl ?_
              refine gs_Sim_day E hB.1 hin5 (by decide +kernel) dX5_counted_131 ?_
              refine g_iast E 0 rfl (by omega) (by omega) (se_r (se_r (se_i 1 rfl rfl))) dX5_counted_134 ?_
              refine g_dup E dX5_counted_135 rfl ?_
              refine g_iconst E dX5_counted_136 ?_
              refine g_aload_n E dX5_counted_137 rfl ?_
              refine gs_Sim_piles E hB.1 hin5 (by decide +kernel) dX5_counted_138 ?_
              refine ns_10 E hB.2.2.2.2.2.1 (by omega) dX5_counted_141 ?_
              refine g_iast E 0 rfl (by omega) (by omega) (se_r (se_r (se_i 1 rfl rfl))) dX5_counted_142 ?_
              refine g_dup E dX5_counted_143 rfl ?_
              refine g_iconst E dX5_counted_144 ?_
              refine g_aload_n E dX5_counted_145 rfl ?_
              refine gs_Sim_cats E hB.1 hin5 (by decide +kernel) dX5_counted_146 ?_
              refine ns_11 E hB.2.2.2.2.2.2 (by omega) dX5_counted_149 ?_
              refine g_iast E 0 rfl (by omega) (by omega) (se_r (se_r (se_i 1 rfl rfl))) dX5_counted_150 ?_
              refine g_dup E dX5_counted_151 rfl ?_
              refine g_iconst E dX5_counted_152 ?_
              refine g_aload_n E dX5_counted_153 rfl ?_
              refine g_iconst E dX5_counted_154 ?_
              refine g_iald E 0 rfl (at_r (at_r (at_i 0 rfl))) (by omega) (by omega) rfl dX5_counted_155 ?_
              refine g_top (v' := .int (sum5 (a 5 0) 5)) rfl ?_
              refine g_iast E 0 rfl (by omega) (by omega) (se_r (se_r (se_i 1 rfl rfl))) dX5_counted_156 ?_
              refine g_dup E dX5_counted_157 rfl ?_
              refine g_iconst E dX5_counted_158 ?_
              refine g_aload_n E dX5_counted_159 rfl ?_
              refine g_iconst E dX5_counted_160 ?_
              refine g_iald E 0 rfl (at_r (at_r (at_i 0 rfl))) (by omega) (by omega) rfl dX5_counted_161 ?_
              refine g_top (v' := .int (sum5 (a 4 0) 5)) rfl ?_
              refine g_iast E 0 rfl (by omega) (by omega) (se_r (se_r (se_i 1 rfl rfl))) dX5_counted_162 ?_
              refine g_dup E dX5_counted_163 rfl ?_
              refine g_iconst E dX5_counted_164 ?_
              refine g_aload_n E dX5_counted_165 rfl ?_
              refine g_iconst E dX5_counted_166 ?_
              refine g_iald E 0 rfl (at_r (at_r (at_i 0 rfl))) (by omega) (by omega) rfl dX5_counted_167 ?_
              refine g_top (v' := .int (zI (blAll a (np a).toNat))) rfl ?_
              refine g_iast E 0 rfl (by omega) (by omega) (se_r (se_r (se_i 1 rfl rfl))) dX5_counted_168 ?_
              refine g_dup E dX5_counted_169 rfl ?_
              refine g_bipush E dX5_counted_170 (by decide) ?_
              refine g_iload_n E dX5_counted_172 rfl ?_
              refine g_iast E 0 rfl (by omega) (by omega) (se_r (se_r (se_i 1 rfl rfl))) dX5_counted_173 ?_
              refine g_dup E dX5_counted_174 rfl ?_
              refine g_bipush E dX5_counted_175 (by decide) ?_
              refine g_aload_n E dX5_counted_177 rfl ?_
              refine g_iconst E dX5_counted_178 ?_
              refine g_iald E 0 rfl (at_r (at_r (at_i 0 rfl))) (by omega) (by omega) rfl dX5_counted_179 ?_
              refine g_top (v' := .int (sum5 (a 6 0) 5)) rfl ?_
              refine g_iast E 0 rfl (by omega) (by omega) (se_r (se_r (se_i 1 rfl rfl))) dX5_counted_180 ?_
              refine g_dup E dX5_counted_181 rfl ?_
              refine g_bipush E dX5_counted_182 (by decide) ?_
              refine g_aload_n E dX5_counted_184 rfl ?_
              refine g_iconst E dX5_counted_185 ?_
              refine g_iald E 0 rfl (at_r (at_r (at_i 0 rfl))) (by omega) (by omega) rfl dX5_counted_186 ?_
              refine g_top (v' := .int (sum5 (a 7 0) 5)) rfl ?_
              refine g_iast E 0 rfl (by omega) (by omega) (se_r (se_r (se_i 1 rfl rfl))) dX5_counted_187 ?_
              refine g_dup E dX5_counted_188 rfl ?_
              refine g_bipush E dX5_counted_189 (by decide) ?_
              refine g_aload_n E dX5_counted_191 rfl ?_
              refine gs_Sim_rain E hB.1 hin5 (by decide +kernel) dX5_counted_192 ?_
              refine g_iast E 0 rfl (by omega) (by omega) (se_r (se_r (se_i 1 rfl rfl))) dX5_counted_195 ?_
              refine g_dup E dX5_counted_196 rfl ?_
              refine g_bipush E dX5_counted_197 (by decide) ?_
              refine g_aload_n E dX5_counted_199 rfl ?_
              refine gs_Sim_limit E hB.1 hin5 (by decide +kernel) dX5_counted_200 ?_
              refine g_iast E 0 rfl (by omega) (by omega) (se_r (se_r (se_i 1 rfl rfl))) dX5_counted_203 ?_
              refine g_astore E dX5_counted_204 (by decide) ?_
              refine g_aload E dX5_counted_206 rfl ?_
              refine g_iload_n E dX5_counted_208 rfl ?_
              refine g_iald E 0 rfl (at_r (at_r (at_i 1 rfl))) (by omega) (by omega) rfl dX5_counted_209 ?_
              refine g_wid (k := 2) (n := 16) (by omega) (by omega) ?_
              refine g_drop2 ?_
              exact g_iret E (⟨by obtain ⟨w, rfl⟩ := Int.eq_ofNat_of_zero_le hw.1; exact all_c (by omega), rfl⟩) dX5_counted_210
            · have hPk := hpk (by omega)
              refine g_aload E dX5_counted_88 rfl ?_
              refine g_iload E dX5_counted_90 rfl ?_
              refine ls_10 E hB.2.2.2.2.2.1 (by omega) dX5_counted_92 ?_
              refine g_top (v' := .ref (am 1 kk2 0)) (rfl) ?_
              refine g_astore E dX5_counted_93 (by decide) ?_
              refine g_aload_n E dX5_counted_95 rfl ?_
              refine g_iconst E dX5_counted_96 ?_
              refine g_dup2 E dX5_counted_97 rfl rfl ?_
              refine g_iald E 0 rfl (at_r (at_r (at_i 0 rfl))) (by omega) (by omega) rfl dX5_counted_98 ?_
              refine g_top (v' := .int (zI (blAll a kk2))) rfl ?_
              refine g_aload E dX5_counted_99 rfl ?_
              refine gs_LP_many E (hPm kk2 (by omega)).1 hin7 (by decide +kernel) dX5_counted_101 ?_
              refine g_iadd E dX5_counted_104 ?_
              refine g_iast E 0 rfl (by omega) (by omega) (se_r (se_r (se_i 0 rfl rfl))) dX5_counted_105 ?_
              refine g_iload_n E dX5_counted_106 rfl ?_
              refine g_aload E dX5_counted_107 rfl ?_
              refine g_aload_n E dX5_counted_109 rfl ?_
              refine gs_Sim_limit E hB.1 hin5 (by decide +kernel) dX5_counted_110 ?_
              refine g_callVi (T := TX7) (ci := 7) (n := 1) (As := [_]) (rest := _) E (c_X7_rusty l D cA A am L _ a hS kk2 (by omega) hPk _) gX5_counted_X7_rusty rfl ⟨rfl, rfl⟩ (by decide +kernel) ⟨Nat.le_of_ble_eq_true rfl, Nat.le_of_ble_eq_true rfl⟩ (os_7 (hPm kk2 (by omega)).1) rfl rfl rfl (Nat.le_of_ble_eq_true rfl) ⟨by show (_ : Nat) ≤ 2; omega, by show (_ : Nat) ≤ 16; omega⟩ dX5_counted_113 ?_
              rintro r_113 ws_113 ⟨rfl, rfl⟩
              refine g_iadd E dX5_counted_116 ?_
              refine g_istore_n E dX5_counted_117 (by decide) ?_
              refine g_iinc E dX5_counted_118 rfl (by decide) ?_
              refine g_goto (tgt := 81) E dX5_counted_121 (by decide) ?_
              refine g_wid (k := 1) (n := 5) (by omega) (by omega) ?_
              refine g_st (ws' := wS cA am L a ++ (w2 ++ [(q1, .inl (cA 0, 5, .inl (sumsF a 5 (kk2 + 1))))])) (congrArg (fun f => wS cA am L a ++ (w2 ++ [(q1, .inl (cA 0, 5, .inl f))])) (sums_p a kk2)) rfl rfl ?_
              refine g_loc (lv' := [(0, .ref (am 0 0 0)), (1, .int (zI w9)), (2, .ref q1), (3, .int (zI (ruAll a (kk2 + 1)))), (4, .ref (am 10 0 0)), (5, .int (zI (np a))), (6, .int (zI ((kk2 + 1) : Int)))]) ⟨rfl, rfl, rfl, rfl, rfl, rfl, rfl, trivial⟩ ?_
              exact ih_kk2 (kk2 + 1) (by omega) (by omega)
        refine g_st (ws' := wS cA am L a ++ (w2 ++ [(q1, .inl (cA 0, 5, .inl (sumsF a 5 0)))])) (rfl) rfl rfl ?_
        refine g_loc (lv' := [(0, .ref (am 0 0 0)), (1, .int (zI w9)), (2, .ref q1), (3, .int (zI (ruAll a 0))), (4, .ref (am 10 0 0)), (5, .int (zI (np a))), (6, .int (zI (0 : Int)))]) ⟨rfl, rfl, rfl, rfl, rfl, rfl, rfl, trivial⟩ ?_
        exact key_kk2 ((np a) + 1).toNat.succ 0 (by omega) (by omega)
      · refine g_aload_n E dX5_counted_11 rfl ?_
        refine g_iconst E dX5_counted_12 ?_
        refine g_dup2 E dX5_counted_13 rfl rfl ?_
        refine g_iald E 0 rfl (at_r (at_r (at_i 0 rfl))) (by omega) (by omega) rfl dX5_counted_14 ?_
        refine g_top (v' := .int (sum5 (a 5 0) kk)) rfl ?_
        refine g_aload_n E dX5_counted_15 rfl ?_
        refine gs_Sim_store E hB.1 hin5 (by decide +kernel) dX5_counted_16 ?_
        refine g_iload_n E dX5_counted_19 rfl ?_
        refine ls_5 E hB.2.2.1 (by omega) rfl dX5_counted_20 ?_
        refine g_top (v' := .int (a 5 0 kk)) rfl ?_
        refine g_iaddR E dX5_counted_21 ?_
        refine g_iast E 0 rfl (by omega) (by omega) (se_r (se_r (se_i 0 rfl rfl))) dX5_counted_22 ?_
        refine g_aload_n E dX5_counted_23 rfl ?_
        refine g_iconst E dX5_counted_24 ?_
        refine g_dup2 E dX5_counted_25 rfl rfl ?_
        refine g_iald E 0 rfl (at_r (at_r (at_i 0 rfl))) (by omega) (by omega) rfl dX5_counted_26 ?_
        refine g_top (v' := .int (sum5 (a 4 0) kk)) rfl ?_
        refine g_aload_n E dX5_counted_27 rfl ?_
        refine gs_Sim_loose E hB.1 hin5 (by decide +kernel) dX5_counted_28 ?_
        refine g_iload_n E dX5_counted_31 rfl ?_
        refine ls_4 E hB.2.1 (by omega) rfl dX5_counted_32 ?_
        refine g_top (v' := .int (a 4 0 kk)) rfl ?_
        refine g_iaddR E dX5_counted_33 ?_
        refine g_iast E 0 rfl (by omega) (by omega) (se_r (se_r (se_i 0 rfl rfl))) dX5_counted_34 ?_
        refine g_aload_n E dX5_counted_35 rfl ?_
        refine g_iconst E dX5_counted_36 ?_
        refine g_dup2 E dX5_counted_37 rfl rfl ?_
        refine g_iald E 0 rfl (at_r (at_r (at_i 0 rfl))) (by omega) (by omega) rfl dX5_counted_38 ?_
        refine g_top (v' := .int (sum5 (a 6 0) kk)) rfl ?_
        refine g_aload_n E dX5_counted_39 rfl ?_
        refine gs_Sim_fired E hB.1 hin5 (by decide +kernel) dX5_counted_40 ?_
        refine g_iload_n E dX5_counted_43 rfl ?_
        refine ls_6 E hB.2.2.2.1 (by omega) rfl dX5_counted_44 ?_
        refine g_top (v' := .int (a 6 0 kk)) rfl ?_
        refine g_iaddR E dX5_counted_45 ?_
        refine g_iast E 0 rfl (by omega) (by omega) (se_r (se_r (se_i 0 rfl rfl))) dX5_counted_46 ?_
        refine g_aload_n E dX5_counted_47 rfl ?_
        refine g_iconst E dX5_counted_48 ?_
        refine g_dup2 E dX5_counted_49 rfl rfl ?_
        refine g_iald E 0 rfl (at_r (at_r (at_i 0 rfl))) (by omega) (by omega) rfl dX5_counted_50 ?_
        refine g_top (v' := .int (sum5 (a 7 0) kk)) rfl ?_
        refine g_aload_n E dX5_counted_51 rfl ?_
        refine gs_Sim_gone E hB.1 hin5 (by decide +kernel) dX5_counted_52 ?_
        refine g_iload_n E dX5_counted_55 rfl ?_
        refine ls_7 E hB.2.2.2.2.1 (by omega) rfl dX5_counted_56 ?_
        refine g_top (v' := .int (a 7 0 kk)) rfl ?_
        refine g_iaddR E dX5_counted_57 ?_
        refine g_iast E 0 rfl (by omega) (by omega) (se_r (se_r (se_i 0 rfl rfl))) dX5_counted_58 ?_
        refine g_iinc E dX5_counted_59 rfl (by decide) ?_
        refine g_goto (tgt := 6) E dX5_counted_62 (by decide) ?_
        refine g_wid (k := 1) (n := 5) (by omega) (by omega) ?_
        refine g_st (ws' := wS cA am L a ++ (w2 ++ [(q1, .inl (cA 0, 5, .inl (sumsF a (kk + 1) 0)))])) (congrArg (fun f => wS cA am L a ++ (w2 ++ [(q1, .inl (cA 0, 5, .inl f))])) (sums_s a kk)) rfl rfl ?_
        refine g_loc (lv' := [(0, .ref (am 0 0 0)), (1, .int (zI w9)), (2, .ref q1), (3, .int (zI ((kk + 1) : Int)))]) ⟨rfl, rfl, rfl, rfl, trivial⟩ ?_
        exact ih_kk (kk + 1) (by omega) (by omega)
  refine g_st (ws' := wS cA am L a ++ (w2 ++ [(q1, .inl (cA 0, 5, .inl (sumsF a 0 0)))])) (congrArg (fun f => wS cA am L a ++ (w2 ++ [(q1, .inl (cA 0, 5, .inl f))])) (sums_0 a)) rfl rfl ?_
  refine g_loc (lv' := [(0, .ref (am 0 0 0)), (1, .int (zI w9)), (2, .ref q1), (3, .int (zI (0 : Int)))]) ⟨rfl, rfl, rfl, rfl, trivial⟩ ?_
  exact key_kk (((5 : Int)) + 1).toNat.succ 0 (by omega) (by omega)
