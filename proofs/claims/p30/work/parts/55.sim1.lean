/-! ===== the law's bastion: counted, pass, behind ===== -/
set_option maxHeartbeats 800000 in
set_option maxRecDepth 100000 in
/-- counted(what) -/
theorem c_X5_counted (l : Launch) (D : va_G) (cA : Nat → ClassId) (A : Nat → Prop) (am : Ad) (L : List Id3) (w2 : va_W) (a : St) (hS : SH L a) (hI : Inv a) (w9 : Int) (hw : 0 ≤ w9 ∧ w9 < 11) : Met l yX5_counted wsX5_counted ({ frames := 1, cells := 2, slots := 16, locals := 23 }) (PcZ D (tysX cA) A (wS cA am L a ++ w2) [.ref (am 0 0 0), .int (zI w9)]) (va_Qi (fun (r : Int32) ws' => r = coV a w9 ∧ ws' = wS cA am L a ++ w2) (gB D A) A) 2 16 A := by
  refine g_metZ (cc := cX5_counted) (maxL := 8) (ret := (some .int)) (own := RX5) rfl (by decide) rfl (Nat.le_of_ble_eq_true rfl) ?_
  intro p e s m below meth c E Z
  have hA : ∀ q, s.heap.size ≤ q → A q := Z.2.1
  have hin5 : ∀ w ∈ u_ws RX5 TX5 9, w ∈ wsX5_counted := by decide +kernel
  have hin7 : ∀ w ∈ u_ws RX7 TX7 5, w ∈ wsX5_counted := by decide +kernel
  obtain ⟨hL, hB, hPm, hCm, -, -⟩ := id hS
  obtain ⟨⟨hn0, hn6, hc0, hc3⟩, hPI, hCI, hFr⟩ := id hI
  refine g_loc (lv' := [(0, .ref (am 0 0 0)), (1, .int (zI w9))]) ⟨rfl, rfl, trivial⟩ ?_
  refine g_iconst E dX5_counted_0 ?_
  refine g_top (v' := .int (zI ((5 : Nat) : Int))) (rfl) ?_
  refine g_newa E hA (by decide +kernel) (by omega) (by show (_ : Nat) ≤ 2; omega) (by show (_ : Nat) ≤ 16; omega) dX5_counted_1 (fun q1 => ?_)
  refine g_asc ?_
  refine g_astore_n E dX5_counted_3 (by decide) ?_
  refine g_iconst E dX5_counted_4 ?_
  refine g_istore_n E dX5_counted_5 (by decide) ?_
  refine g_wid (k := 1) (n := 5) (by omega) (by omega) ?_
  have key_kk : ∀ (n_kk kk : Nat), (kk : Int) ≤ (5 : Int) → (5 : Int) + 1 ≤ (kk : Int) + n_kk → GW p l e (headSpec wsX5_counted ({ frames := 1, cells := 2, slots := 16, locals := 23 })).room s m ([.ref (am 0 0 0), .int (zI w9)] : List Value).toArray below meth c (MQ below (va_Qi (fun (r : Int32) ws' => r = coV a w9 ∧ ws' = wS cA am L a ++ w2) (gB D A) A) ([.ref (am 0 0 0), .int (zI w9)] : List Value).toArray s 2 16 A) D A 8 (wS cA am L a ++ (w2 ++ [(q1, .inl (cA 0, 5, .inl (sumsF a kk 0)))])) (1) (5) 6 [(0, .ref (am 0 0 0)), (1, .int (zI w9)), (2, .ref q1), (3, .int (zI (kk : Int)))] [] := by
    intro n_kk
    induction n_kk with
    | zero => intro kk h1 h2; exact absurd h2 (by omega)
    | succ n_kk ih_kk =>
      intro kk hle_kk hfu_kk
      refine g_iload_n E dX5_counted_6 rfl ?_
      refine g_iconst E dX5_counted_7 ?_
      refine g_icmp_ge (tgt := 65) E dX5_counted_8 (by decide) (by omega) (by omega) (fun c_8 => ?_) (fun c_8 => ?_)
      · obtain rfl : kk = 5 := by omega
        refine g_iconst E dX5_counted_65 ?_
        refine g_istore_n E dX5_counted_66 (by decide) ?_
        refine g_aload_n E dX5_counted_67 rfl ?_
        refine gs_Sim_piles E hB.1 hin5 (by decide +kernel) dX5_counted_68 ?_
        refine g_astore E dX5_counted_71 (by decide) ?_
        refine g_aload E dX5_counted_73 rfl ?_
        refine ns_10 E hB.2.2.2.2.2.1 (by omega) dX5_counted_75 ?_
        refine g_istore E dX5_counted_76 (by decide) ?_
        refine g_iconst E dX5_counted_78 ?_
        refine g_istore E dX5_counted_79 (by decide) ?_
        refine g_wid (k := 1) (n := 5) (by omega) (by omega) ?_
        have key_kk2 : ∀ (n_kk2 kk2 : Nat), (kk2 : Int) ≤ np a → np a + 1 ≤ (kk2 : Int) + n_kk2 → GW p l e (headSpec wsX5_counted ({ frames := 1, cells := 2, slots := 16, locals := 23 })).room s m ([.ref (am 0 0 0), .int (zI w9)] : List Value).toArray below meth c (MQ below (va_Qi (fun (r : Int32) ws' => r = coV a w9 ∧ ws' = wS cA am L a ++ w2) (gB D A) A) ([.ref (am 0 0 0), .int (zI w9)] : List Value).toArray s 2 16 A) D A 8 (wS cA am L a ++ (w2 ++ [(q1, .inl (cA 0, 5, .inl (sumsF a 5 kk2)))])) (1) (5) 81 [(0, .ref (am 0 0 0)), (1, .int (zI w9)), (2, .ref q1), (3, .int (zI (ruAll a kk2))), (4, .ref (am 10 0 0)), (5, .int (zI (np a))), (6, .int (zI (kk2 : Int)))] [] := by
          intro n_kk2
          induction n_kk2 with
          | zero => intro kk2 h1 h2; exact absurd h2 (by omega)
          | succ n_kk2 ih_kk2 =>
            intro kk2 hle_kk2 hfu_kk2
            have hpk : (kk2 : Int) < np a → PO a kk2 := fun h => (hPI kk2 h).1
            refine g_iload E dX5_counted_81 rfl ?_
            refine g_iload E dX5_counted_83 rfl ?_
            refine g_icmp_ge (tgt := 124) E dX5_counted_85 (by decide) (by omega) (by omega) (fun c_85 => ?_) (fun c_85 => ?_)
            · obtain rfl : kk2 = (np a).toNat := by omega
              refine g_bipush E dX5_counted_124 (by decide) ?_
              refine g_top (v' := .int (zI ((11 : Nat) : Int))) (rfl) ?_
              refine g_newa E hA (by decide +kernel) (by omega) (by show (_ : Nat) ≤ 2; omega) (by show (_ : Nat) ≤ 16; omega) dX5_counted_126 (fun q2 => ?_)
              refine g_asc2 ?_
              refine g_st (ws' := wS cA am L a ++ (w2 ++ [(q1, .inl (cA 0, 5, .inl (sumsF a 5 (np a).toNat))), (q2, .inl (cA 0, 11, .inl (fun _ => 0)))])) rfl rfl rfl ?_
              refine g_dup E dX5_counted_128 rfl ?_
              refine g_iconst E dX5_counted_129 ?_
              refine g_aload_n E dX5_counted_130 rfl ?_
              refine gs_Sim_day E hB.1 hin5 (by decide +kernel) dX5_counted_131 ?_
              refine g_iast E 0 rfl (by omega) (by omega) (se_r (se_r (se_i 1 rfl rfl))) dX5_counted_134 ?_
              refine g_dup E dX5_counted_135 rfl ?_
              refine g_iconst E dX5_counted_136 ?_
              refine g_aload_n E dX5_counted_137 rfl ?_
              refine gs_Sim_piles E hB.1 hin5 (by decide +kernel) dX5_counted_138 ?_
              refine ns_10 E hB.2.2.2.2.2.1 (by omega) dX5_counted_141 ?_
              refine g_iast E 0 rfl (by omega) (by omega) (se_r (se_r (se_i 1 rfl rfl))) dX5_counted_142 ?_
              refine g_dup E dX5_counted_143 rfl ?_
              refine g_iconst E dX5_counted_144 ?_
              refine g_aload_n E dX5_counted_145 rfl ?_
              refine gs_Sim_cats E hB.1 hin5 (by decide +kernel) dX5_counted_146 ?_
              refine ns_11 E hB.2.2.2.2.2.2 (by omega) dX5_counted_149 ?_
              refine g_iast E 0 rfl (by omega) (by omega) (se_r (se_r (se_i 1 rfl rfl))) dX5_counted_150 ?_
              refine g_dup E dX5_counted_151 rfl ?_
              refine g_iconst E dX5_counted_152 ?_
              refine g_aload_n E dX5_counted_153 rfl ?_
              refine g_iconst E dX5_counted_154 ?_
              refine g_iald E 0 rfl (at_r (at_r (at_i 0 rfl))) (by omega) (by omega) rfl dX5_counted_155 ?_
              refine g_top (v' := .int (sum5 (a 5 0) 5)) rfl ?_
              refine g_iast E 0 rfl (by omega) (by omega) (se_r (se_r (se_i 1 rfl rfl))) dX5_counted_156 ?_
              refine g_dup E dX5_counted_157 rfl ?_
              refine g_iconst E dX5_counted_158 ?_
              refine g_aload_n E dX5_counted_159 rfl ?_
              refine g_iconst E dX5_counted_160 ?_
              refine g_iald E 0 rfl (at_r (at_r (at_i 0 rfl))) (by omega) (by omega) rfl dX5_counted_161 ?_
              refine g_top (v' := .int (sum5 (a 4 0) 5)) rfl ?_
              refine g_iast E 0 rfl (by omega) (by omega) (se_r (se_r (se_i 1 rfl rfl))) dX5_counted_162 ?_
              refine g_dup E dX5_counted_163 rfl ?_
              refine g_iconst E dX5_counted_164 ?_
              refine g_aload_n E dX5_counted_165 rfl ?_
              refine g_iconst E dX5_counted_166 ?_
              refine g_iald E 0 rfl (at_r (at_r (at_i 0 rfl))) (by omega) (by omega) rfl dX5_counted_167 ?_
              refine g_top (v' := .int (zI (blAll a (np a).toNat))) rfl ?_
              refine g_iast E 0 rfl (by omega) (by omega) (se_r (se_r (se_i 1 rfl rfl))) dX5_counted_168 ?_
              refine g_dup E dX5_counted_169 rfl ?_
              refine g_bipush E dX5_counted_170 (by decide) ?_
              refine g_iload_n E dX5_counted_172 rfl ?_
              refine g_iast E 0 rfl (by omega) (by omega) (se_r (se_r (se_i 1 rfl rfl))) dX5_counted_173 ?_
              refine g_dup E dX5_counted_174 rfl ?_
              refine g_bipush E dX5_counted_175 (by decide) ?_
              refine g_aload_n E dX5_counted_177 rfl ?_
              refine g_iconst E dX5_counted_178 ?_
              refine g_iald E 0 rfl (at_r (at_r (at_i 0 rfl))) (by omega) (by omega) rfl dX5_counted_179 ?_
              refine g_top (v' := .int (sum5 (a 6 0) 5)) rfl ?_
              refine g_iast E 0 rfl (by omega) (by omega) (se_r (se_r (se_i 1 rfl rfl))) dX5_counted_180 ?_
              refine g_dup E dX5_counted_181 rfl ?_
              refine g_bipush E dX5_counted_182 (by decide) ?_
              refine g_aload_n E dX5_counted_184 rfl ?_
              refine g_iconst E dX5_counted_185 ?_
              refine g_iald E 0 rfl (at_r (at_r (at_i 0 rfl))) (by omega) (by omega) rfl dX5_counted_186 ?_
              refine g_top (v' := .int (sum5 (a 7 0) 5)) rfl ?_
              refine g_iast E 0 rfl (by omega) (by omega) (se_r (se_r (se_i 1 rfl rfl))) dX5_counted_187 ?_
              refine g_dup E dX5_counted_188 rfl ?_
              refine g_bipush E dX5_counted_189 (by decide) ?_
              refine g_aload_n E dX5_counted_191 rfl ?_
              refine gs_Sim_rain E hB.1 hin5 (by decide +kernel) dX5_counted_192 ?_
              refine g_iast E 0 rfl (by omega) (by omega) (se_r (se_r (se_i 1 rfl rfl))) dX5_counted_195 ?_
              refine g_dup E dX5_counted_196 rfl ?_
              refine g_bipush E dX5_counted_197 (by decide) ?_
              refine g_aload_n E dX5_counted_199 rfl ?_
              refine gs_Sim_limit E hB.1 hin5 (by decide +kernel) dX5_counted_200 ?_
              refine g_iast E 0 rfl (by omega) (by omega) (se_r (se_r (se_i 1 rfl rfl))) dX5_counted_203 ?_
              refine g_astore E dX5_counted_204 (by decide) ?_
              refine g_aload E dX5_counted_206 rfl ?_
              refine g_iload_n E dX5_counted_208 rfl ?_
              refine g_iald E 0 rfl (at_r (at_r (at_i 1 rfl))) (by omega) (by omega) rfl dX5_counted_209 ?_
              refine g_wid (k := 2) (n := 16) (by omega) (by omega) ?_
              refine g_drop2 ?_
              exact g_iret E (⟨by obtain ⟨w, rfl⟩ := Int.eq_ofNat_of_zero_le hw.1; exact all_c (by omega), rfl⟩) dX5_counted_210
            · have hPk := hpk (by omega)
              refine g_aload E dX5_counted_88 rfl ?_
              refine g_iload E dX5_counted_90 rfl ?_
              refine ls_10 E hB.2.2.2.2.2.1 (by omega) dX5_counted_92 ?_
              refine g_top (v' := .ref (am 1 kk2 0)) (rfl) ?_
              refine g_astore E dX5_counted_93 (by decide) ?_
              refine g_aload_n E dX5_counted_95 rfl ?_
              refine g_iconst E dX5_counted_96 ?_
              refine g_dup2 E dX5_counted_97 rfl rfl ?_
              refine g_iald E 0 rfl (at_r (at_r (at_i 0 rfl))) (by omega) (by omega) rfl dX5_counted_98 ?_
              refine g_top (v' := .int (zI (blAll a kk2))) rfl ?_
              refine g_aload E dX5_counted_99 rfl ?_
              refine gs_LP_many E (hPm kk2 (by omega)).1 hin7 (by decide +kernel) dX5_counted_101 ?_
              refine g_iadd E dX5_counted_104 ?_
              refine g_iast E 0 rfl (by omega) (by omega) (se_r (se_r (se_i 0 rfl rfl))) dX5_counted_105 ?_
              refine g_iload_n E dX5_counted_106 rfl ?_
              refine g_aload E dX5_counted_107 rfl ?_
              refine g_aload_n E dX5_counted_109 rfl ?_
              refine gs_Sim_limit E hB.1 hin5 (by decide +kernel) dX5_counted_110 ?_
              refine g_callVi (T := TX7) (ci := 7) (n := 1) (As := [_]) (rest := _) E (c_X7_rusty l D cA A am L _ a hS kk2 (by omega) hPk _) gX5_counted_X7_rusty rfl ⟨rfl, rfl⟩ (by decide +kernel) ⟨Nat.le_of_ble_eq_true rfl, Nat.le_of_ble_eq_true rfl⟩ (os_7 (hPm kk2 (by omega)).1) rfl rfl rfl (Nat.le_of_ble_eq_true rfl) ⟨by show (_ : Nat) ≤ 2; omega, by show (_ : Nat) ≤ 16; omega⟩ dX5_counted_113 ?_
              rintro r_113 ws_113 ⟨rfl, rfl⟩
              refine g_iadd E dX5_counted_116 ?_
              refine g_istore_n E dX5_counted_117 (by decide) ?_
              refine g_iinc E dX5_counted_118 rfl (by decide) ?_
              refine g_goto (tgt := 81) E dX5_counted_121 (by decide) ?_
              refine g_wid (k := 1) (n := 5) (by omega) (by omega) ?_
              refine g_st (ws' := wS cA am L a ++ (w2 ++ [(q1, .inl (cA 0, 5, .inl (sumsF a 5 (kk2 + 1))))])) (congrArg (fun f => wS cA am L a ++ (w2 ++ [(q1, .inl (cA 0, 5, .inl f))])) (sums_p a kk2)) rfl rfl ?_
              refine g_loc (lv' := [(0, .ref (am 0 0 0)), (1, .int (zI w9)), (2, .ref q1), (3, .int (zI (ruAll a (kk2 + 1)))), (4, .ref (am 10 0 0)), (5, .int (zI (np a))), (6, .int (zI ((kk2 + 1) : Int)))]) ⟨rfl, rfl, rfl, rfl, rfl, rfl, rfl, trivial⟩ ?_
              exact ih_kk2 (kk2 + 1) (by omega) (by omega)
        refine g_st (ws' := wS cA am L a ++ (w2 ++ [(q1, .inl (cA 0, 5, .inl (sumsF a 5 0)))])) (rfl) rfl rfl ?_
        refine g_loc (lv' := [(0, .ref (am 0 0 0)), (1, .int (zI w9)), (2, .ref q1), (3, .int (zI (ruAll a 0))), (4, .ref (am 10 0 0)), (5, .int (zI (np a))), (6, .int (zI (0 : Int)))]) ⟨rfl, rfl, rfl, rfl, rfl, rfl, rfl, trivial⟩ ?_
        exact key_kk2 ((np a) + 1).toNat.succ 0 (by omega) (by omega)
      · refine g_aload_n E dX5_counted_11 rfl ?_
        refine g_iconst E dX5_counted_12 ?_
        refine g_dup2 E dX5_counted_13 rfl rfl ?_
        refine g_iald E 0 rfl (at_r (at_r (at_i 0 rfl))) (by omega) (by omega) rfl dX5_counted_14 ?_
        refine g_top (v' := .int (sum5 (a 5 0) kk)) rfl ?_
        refine g_aload_n E dX5_counted_15 rfl ?_
        refine gs_Sim_store E hB.1 hin5 (by decide +kernel) dX5_counted_16 ?_
        refine g_iload_n E dX5_counted_19 rfl ?_
        refine ls_5 E hB.2.2.1 (by omega) rfl dX5_counted_20 ?_
        refine g_top (v' := .int (a 5 0 kk)) rfl ?_
        refine g_iaddR E dX5_counted_21 ?_
        refine g_iast E 0 rfl (by omega) (by omega) (se_r (se_r (se_i 0 rfl rfl))) dX5_counted_22 ?_
        refine g_aload_n E dX5_counted_23 rfl ?_
        refine g_iconst E dX5_counted_24 ?_
        refine g_dup2 E dX5_counted_25 rfl rfl ?_
        refine g_iald E 0 rfl (at_r (at_r (at_i 0 rfl))) (by omega) (by omega) rfl dX5_counted_26 ?_
        refine g_top (v' := .int (sum5 (a 4 0) kk)) rfl ?_
        refine g_aload_n E dX5_counted_27 rfl ?_
        refine gs_Sim_loose E hB.1 hin5 (by decide +kernel) dX5_counted_28 ?_
        refine g_iload_n E dX5_counted_31 rfl ?_
        refine ls_4 E hB.2.1 (by omega) rfl dX5_counted_32 ?_
        refine g_top (v' := .int (a 4 0 kk)) rfl ?_
        refine g_iaddR E dX5_counted_33 ?_
        refine g_iast E 0 rfl (by omega) (by omega) (se_r (se_r (se_i 0 rfl rfl))) dX5_counted_34 ?_
        refine g_aload_n E dX5_counted_35 rfl ?_
        refine g_iconst E dX5_counted_36 ?_
        refine g_dup2 E dX5_counted_37 rfl rfl ?_
        refine g_iald E 0 rfl (at_r (at_r (at_i 0 rfl))) (by omega) (by omega) rfl dX5_counted_38 ?_
        refine g_top (v' := .int (sum5 (a 6 0) kk)) rfl ?_
        refine g_aload_n E dX5_counted_39 rfl ?_
        refine gs_Sim_fired E hB.1 hin5 (by decide +kernel) dX5_counted_40 ?_
        refine g_iload_n E dX5_counted_43 rfl ?_
        refine ls_6 E hB.2.2.2.1 (by omega) rfl dX5_counted_44 ?_
        refine g_top (v' := .int (a 6 0 kk)) rfl ?_
        refine g_iaddR E dX5_counted_45 ?_
        refine g_iast E 0 rfl (by omega) (by omega) (se_r (se_r (se_i 0 rfl rfl))) dX5_counted_46 ?_
        refine g_aload_n E dX5_counted_47 rfl ?_
        refine g_iconst E dX5_counted_48 ?_
        refine g_dup2 E dX5_counted_49 rfl rfl ?_
        refine g_iald E 0 rfl (at_r (at_r (at_i 0 rfl))) (by omega) (by omega) rfl dX5_counted_50 ?_
        refine g_top (v' := .int (sum5 (a 7 0) kk)) rfl ?_
        refine g_aload_n E dX5_counted_51 rfl ?_
        refine gs_Sim_gone E hB.1 hin5 (by decide +kernel) dX5_counted_52 ?_
        refine g_iload_n E dX5_counted_55 rfl ?_
        refine ls_7 E hB.2.2.2.2.1 (by omega) rfl dX5_counted_56 ?_
        refine g_top (v' := .int (a 7 0 kk)) rfl ?_
        refine g_iaddR E dX5_counted_57 ?_
        refine g_iast E 0 rfl (by omega) (by omega) (se_r (se_r (se_i 0 rfl rfl))) dX5_counted_58 ?_
        refine g_iinc E dX5_counted_59 rfl (by decide) ?_
        refine g_goto (tgt := 6) E dX5_counted_62 (by decide) ?_
        refine g_wid (k := 1) (n := 5) (by omega) (by omega) ?_
        refine g_st (ws' := wS cA am L a ++ (w2 ++ [(q1, .inl (cA 0, 5, .inl (sumsF a (kk + 1) 0)))])) (congrArg (fun f => wS cA am L a ++ (w2 ++ [(q1, .inl (cA 0, 5, .inl f))])) (sums_s a kk)) rfl rfl ?_
        refine g_loc (lv' := [(0, .ref (am 0 0 0)), (1, .int (zI w9)), (2, .ref q1), (3, .int (zI ((kk + 1) : Int)))]) ⟨rfl, rfl, rfl, rfl, trivial⟩ ?_
        exact ih_kk (kk + 1) (by omega) (by omega)
  refine g_st (ws' := wS cA am L a ++ (w2 ++ [(q1, .inl (cA 0, 5, .inl (sumsF a 0 0)))])) (congrArg (fun f => wS cA am L a ++ (w2 ++ [(q1, .inl (cA 0, 5, .inl f))])) (sums_0 a)) rfl rfl ?_
  refine g_loc (lv' := [(0, .ref (am 0 0 0)), (1, .int (zI w9)), (2, .ref q1), (3, .int (zI (0 : Int)))]) ⟨rfl, rfl, rfl, rfl, trivial⟩ ?_
  exact key_kk (((5 : Int)) + 1).toNat.succ 0 (by omega) (by omega)
set_option maxHeartbeats 1600000 in
set_option maxRecDepth 100000 in
/-- pass() -/
theorem c_X5_pass (l : Launch) (D : va_G) (cA : Nat → ClassId) (A : Nat → Prop) (am : Ad) (L : List Id3) (w2 : va_W) (a : St) (hS : SH L a) (hI : Inv a) : Met l yX5_pass wsX5_pass ({ frames := 2, cells := 6, slots := 546, locals := 49 }) (PcZ D (tysX cA) A (wS cA am L a ++ w2) [.ref (am 0 0 0)]) (va_Qv (fun ws' => ws' = wS cA am L (dayS a) ++ w2) (gB D A) A) 6 546 A := by
  refine g_metZ (cc := cX5_pass) (maxL := 8) (ret := none) (own := RX5) rfl (by decide) rfl (Nat.le_of_ble_eq_true rfl) ?_
  intro p e s m below meth c E Z
  have hA : ∀ q, s.heap.size ≤ q → A q := Z.2.1
  have hin5 : ∀ w ∈ u_ws RX5 TX5 9, w ∈ wsX5_pass := by decide +kernel
  have hin7 : ∀ w ∈ u_ws RX7 TX7 5, w ∈ wsX5_pass := by decide +kernel
  obtain ⟨hL, hB, hPm, hCm, -, -⟩ := id hS
  obtain ⟨⟨hn0, hn6, hc0, hc3⟩, hPI, hCI, hFr⟩ := id hI
  refine g_loc (lv' := [(0, .ref (am 0 0 0))]) ⟨rfl, trivial⟩ ?_
  refine g_aload_n E dX5_pass_0 rfl ?_
  refine gs_Sim_piles E hB.1 hin5 (by decide +kernel) dX5_pass_1 ?_
  refine g_astore_n E dX5_pass_4 (by decide) ?_
  refine g_aload_n E dX5_pass_5 rfl ?_
  refine ns_10 E hB.2.2.2.2.2.1 (by omega) dX5_pass_6 ?_
  refine g_istore_n E dX5_pass_7 (by decide) ?_
  refine g_iconst E dX5_pass_8 ?_
  refine g_istore_n E dX5_pass_9 (by decide) ?_
  refine g_wid (k := 0) (n := 91 * 0) (by omega) (by omega) ?_
  have key_kk : ∀ (n_kk kk : Nat), (kk : Int) ≤ np a → np a + 1 ≤ (kk : Int) + n_kk → GW p l e (headSpec wsX5_pass ({ frames := 2, cells := 6, slots := 546, locals := 49 })).room s m ([.ref (am 0 0 0)] : List Value).toArray below meth c (MQ below (va_Qv (fun ws' => ws' = wS cA am L (dayS a) ++ w2) (gB D A) A) ([.ref (am 0 0 0)] : List Value).toArray s 6 546 A) D A 8 (wS cA am L (raAll a kk) ++ w2) (kk) (91 * kk) 10 [(0, .ref (am 0 0 0)), (1, .ref (am 10 0 0)), (2, .int (zI (np a))), (3, .int (zI (kk : Int)))] [] := by
    intro n_kk
    induction n_kk with
    | zero => intro kk h1 h2; exact absurd h2 (by omega)
    | succ n_kk ih_kk =>
      intro kk hle_kk hfu_kk
      have hn_kk : np (raAll a kk) = np a := congrArg Int32.toInt (raAll_e a kk 0 0 0 (by decide))
      have hpk : (kk : Int) < np a → PO (raAll a kk) kk := fun h => (raAll_e a kk).po (hPI kk h).1
      refine g_iload_n E dX5_pass_10 rfl ?_
      refine g_iload_n E dX5_pass_11 rfl ?_
      refine g_icmp_ge (tgt := 149) E dX5_pass_12 (by decide) (by omega) (by omega) (fun c_12 => ?_) (fun c_12 => ?_)
      · obtain rfl : kk = (np a).toNat := (by omega); have hI1 := raAll_i hI (np a).toNat (by omega); have hn1 : np (raAll a (np a).toNat) = np a := congrArg Int32.toInt (raAll_e a _ 0 0 0 (by decide)); have hc1 : nc (raAll a (np a).toNat) = nc a := congrArg Int32.toInt (raAll_e a _ 0 0 1 (by decide)); have hS1 := hS.ra (np a).toNat
        refine g_aload_n E dX5_pass_149 rfl ?_
        refine gs_Sim_cats E hB.1 hin5 (by decide +kernel) dX5_pass_150 ?_
        refine g_astore_n E dX5_pass_153 (by decide) ?_
        refine g_aload_n E dX5_pass_154 rfl ?_
        refine ns_11 E hB.2.2.2.2.2.2 (by omega) dX5_pass_155 ?_
        refine g_top (v' := .int (zI (nc a))) (by rw [hc1]) ?_
        refine g_istore_n E dX5_pass_156 (by decide) ?_
        refine g_iconst E dX5_pass_157 ?_
        refine g_istore_n E dX5_pass_158 (by decide) ?_
        refine g_wid (k := (np a).toNat) (n := 91 * (np a).toNat) (by omega) (by omega) ?_
        have key_cc : ∀ (n_cc cc : Nat), (cc : Int) ≤ nc a → nc a + 1 ≤ (cc : Int) + n_cc → (np a = 0 → cc = 0) → GW p l e (headSpec wsX5_pass ({ frames := 2, cells := 6, slots := 546, locals := 49 })).room s m ([.ref (am 0 0 0)] : List Value).toArray below meth c (MQ below (va_Qv (fun ws' => ws' = wS cA am L (dayS a) ++ w2) (gB D A) A) ([.ref (am 0 0 0)] : List Value).toArray s 6 546 A) D A 8 (wS cA am L (jumpAll (raAll a (np a).toNat) cc).1 ++ w2) ((np a).toNat) (91 * (np a).toNat) 159 [(0, .ref (am 0 0 0)), (1, .ref (am 11 0 0)), (2, .int (zI (nc a))), (3, .int (zI (cc : Int)))] [] := by
          intro n_cc
          induction n_cc with
          | zero => intro cc h1 h2; exact absurd h2 (by omega)
          | succ n_cc ih_cc =>
            intro cc hle_cc hfu_cc hi0_cc
            obtain ⟨hIj, hnj, hcj⟩ := jumpAll_j hI1 (n := cc) (by omega) (by rw [hn1]; exact hi0_cc)
            refine g_iload_n E dX5_pass_159 rfl ?_
            refine g_iload_n E dX5_pass_160 rfl ?_
            refine g_icmp_ge (tgt := 271) E dX5_pass_161 (by decide) (by omega) (by omega) (fun c_161 => ?_) (fun c_161 => ?_)
            · refine g_aload_n E dX5_pass_271 rfl ?_
              refine g_dup E dX5_pass_272 rfl ?_
              refine gs_Sim_day E hB.1 hin5 (by decide +kernel) dX5_pass_273 ?_
              refine g_iconst E dX5_pass_276 ?_
              refine g_iaddR E dX5_pass_277 ?_
              refine ps_Sim_day E hL hB.1 hin5 (by decide +kernel) dX5_pass_278 ?_
              refine g_wid (k := 6) (n := 546) (by omega) (by omega) ?_
              exact g_vret E (by rw [cats_e (a := (raAll a (np a).toNat)) (k := cc) (by rw [hn1]; exact hi0_cc) (by omega) (by omega)]; rfl) dX5_pass_281
            · obtain ⟨hci1, hci2, hci3, hci4⟩ := hIj.2.2.1 cc (by omega)
              refine g_aload_n E dX5_pass_164 rfl ?_
              refine g_iload_n E dX5_pass_165 rfl ?_
              refine ls_11 E hB.2.2.2.2.2.2 (by omega) dX5_pass_166 ?_
              refine g_top (v' := .ref (am 3 cc 0)) (rfl) ?_
              refine g_astore E dX5_pass_167 (by decide) ?_
              refine g_aload_n E dX5_pass_169 rfl ?_
              refine gs_Sim_piles E hB.1 hin5 (by decide +kernel) dX5_pass_170 ?_
              refine ns_10 E hB.2.2.2.2.2.1 (by omega) dX5_pass_173 ?_
              refine g_if_ne (tgt := 180) E dX5_pass_174 (by decide) (by omega) (fun c_174 => ?_) (fun c_174 => ?_)
              · have hjb := jmpO_b hIj (c := cc) (by omega) (by omega); have hIk := jmpS_i hIj (c := cc) (by omega) (by omega); have hnk : np (jmpS (jumpAll (raAll a (np a).toNat) cc).1 cc) = np a := (by rw [jmpS_np, hnj, hn1]); have hjp : (((jmpP (jumpAll (raAll a (np a).toNat) cc).1 cc) : Nat) : Int) < np a := (by show ((jmpO (jumpAll (raAll a (np a).toNat) cc).1 cc).toNat : Int) < np a; omega); obtain ⟨hPOk, hck1, hck2⟩ := hIk.2.1 (jmpP (jumpAll (raAll a (np a).toNat) cc).1 cc) (by omega); have hSk := (hS1.ja cc).jm cc; have hct : cal (topS (jmpS (jumpAll (raAll a (np a).toNat) cc).1 cc) (jmpP (jumpAll (raAll a (np a).toNat) cc).1 cc)) (jmpP (jumpAll (raAll a (np a).toNat) cc).1 cc) = cal (jmpS (jumpAll (raAll a (np a).toNat) cc).1 cc) (jmpP (jumpAll (raAll a (np a).toNat) cc).1 cc) := topS_cal _ _ _
                refine g_aload E dX5_pass_180 rfl ?_
                refine g_iconst E dX5_pass_182 ?_
                refine g_aload E dX5_pass_183 rfl ?_
                refine g_iconst E dX5_pass_185 ?_
                refine ls_3 E (hCm cc (by omega)) (by omega) rfl dX5_pass_186 ?_
                refine g_top (v' := .int (zI (on (jumpAll (raAll a (np a).toNat) cc).1 cc))) (congrArg Value.int (zI_self _).symm) ?_
                refine g_if_ge (tgt := 194) E dX5_pass_187 (by decide) (by omega) (fun c_187 => ?_) (fun c_187 => ?_)
                · refine g_aload E dX5_pass_194 rfl ?_
                  refine g_iconst E dX5_pass_196 ?_
                  refine ls_3 E (hCm cc (by omega)) (by omega) rfl dX5_pass_197 ?_
                  refine g_top (v' := .int (zI (on (jumpAll (raAll a (np a).toNat) cc).1 cc))) (congrArg Value.int (zI_self _).symm) ?_
                  refine g_aload E dX5_pass_198 rfl ?_
                  refine g_iconst E dX5_pass_200 ?_
                  refine ls_3 E (hCm cc (by omega)) (by omega) rfl dX5_pass_201 ?_
                  refine g_top (v' := .int (zI (lp (jumpAll (raAll a (np a).toNat) cc).1 cc))) (congrArg Value.int (zI_self _).symm) ?_
                  refine g_iadd E dX5_pass_202 ?_
                  refine g_aload_n E dX5_pass_203 rfl ?_
                  refine gs_Sim_piles E hB.1 hin5 (by decide +kernel) dX5_pass_204 ?_
                  refine ns_10 E hB.2.2.2.2.2.1 (by omega) dX5_pass_207 ?_
                  refine g_irem E dX5_pass_208 (by omega) (by omega) ?_
                  refine ss_3 E hL (hCm cc (by omega)) (by omega) dX5_pass_209 ?_
                  first | refine g_st (ws' := wS cA am L (jmpS (jumpAll (raAll a (np a).toNat) cc).1 cc) ++ w2) (congrArg (fun z => wS cA am L z ++ w2) (jm_0 (by omega))) rfl rfl ?_ | refine g_st (ws' := wS cA am L (jmpS (jumpAll (raAll a (np a).toNat) cc).1 cc) ++ w2) (congrArg (fun z => wS cA am L z ++ w2) (jm_1 (by omega) (by omega))) rfl rfl ?_
                  refine g_aload_n E dX5_pass_210 rfl ?_
                  refine gs_Sim_piles E hB.1 hin5 (by decide +kernel) dX5_pass_211 ?_
                  refine g_aload E dX5_pass_214 rfl ?_
                  refine g_iconst E dX5_pass_216 ?_
                  refine ls_3 E (hCm cc (by omega)) (by omega) rfl dX5_pass_217 ?_
                  refine g_top (v' := .int (zI (jmpO (jumpAll (raAll a (np a).toNat) cc).1 cc))) (congrArg Value.int (jm_v _ _)) ?_
                  refine ls_10 E hB.2.2.2.2.2.1 (by omega) dX5_pass_218 ?_
                  refine g_top (v' := .ref (am 1 (jmpP (jumpAll (raAll a (np a).toNat) cc).1 cc) 0)) (rfl) ?_
                  refine g_astore E dX5_pass_219 (by decide) ?_
                  refine g_aload E dX5_pass_221 rfl ?_
                  refine g_callVi (T := TX7) (ci := 7) (n := 0) (As := []) (rest := _) E (c_X7_isOpen l D cA A am L _ (jmpS (jumpAll (raAll a (np a).toNat) cc).1 cc) hSk (jmpP (jumpAll (raAll a (np a).toNat) cc).1 cc) (by omega) hPOk) gX5_pass_X7_isOpen rfl ⟨rfl, rfl⟩ (by decide +kernel) ⟨Nat.le_of_ble_eq_true rfl, Nat.le_of_ble_eq_true rfl⟩ (os_7 (hPm (jmpP (jumpAll (raAll a (np a).toNat) cc).1 cc) (by omega)).1) rfl rfl rfl (Nat.le_of_ble_eq_true rfl) ⟨by show (_ : Nat) ≤ 6; omega, by show (_ : Nat) ≤ 546; omega⟩ dX5_pass_223 ?_
                  rintro r_223 ws_223 ⟨rfl, rfl⟩
                  have hb_223 := opV_b (jmpS (jumpAll (raAll a (np a).toNat) cc).1 cc) (jmpP (jumpAll (raAll a (np a).toNat) cc).1 cc)
                  refine g_if_ne (tgt := 232) E dX5_pass_226 (by decide) (by omega) (fun c_226 => ?_) (fun c_226 => ?_)
                  · refine g_aload E dX5_pass_232 rfl ?_
                    refine g_dup E dX5_pass_234 rfl ?_
                    refine gs_LP_many E (hPm (jmpP (jumpAll (raAll a (np a).toNat) cc).1 cc) (by omega)).1 hin7 (by decide +kernel) dX5_pass_235 ?_
                    refine g_iconst E dX5_pass_238 ?_
                    refine g_isub E dX5_pass_239 ?_
                    refine ps_LP_many E hL (hPm (jmpP (jumpAll (raAll a (np a).toNat) cc).1 cc) (by omega)).1 hin7 (by decide +kernel) dX5_pass_240 ?_
                    refine g_st (ws' := wS cA am L (topS (jmpS (jumpAll (raAll a (np a).toNat) cc).1 cc) (jmpP (jumpAll (raAll a (np a).toNat) cc).1 cc)) ++ w2) rfl rfl rfl ?_
                    refine g_aload_n E dX5_pass_243 rfl ?_
                    refine gs_Sim_loose E hB.1 hin5 (by decide +kernel) dX5_pass_244 ?_
                    refine g_aload E dX5_pass_247 rfl ?_
                    refine gs_LP_calibre E (hPm (jmpP (jumpAll (raAll a (np a).toNat) cc).1 cc) (by omega)).1 hin7 (by decide +kernel) dX5_pass_249 ?_
                    refine g_dup2 E dX5_pass_252 rfl rfl ?_
                    refine ls_4 E hB.2.1 (by omega) rfl dX5_pass_253 ?_
                    refine g_top (v' := .int (topS (jmpS (jumpAll (raAll a (np a).toNat) cc).1 cc) (jmpP (jumpAll (raAll a (np a).toNat) cc).1 cc) 4 0 (cal (topS (jmpS (jumpAll (raAll a (np a).toNat) cc).1 cc) (jmpP (jumpAll (raAll a (np a).toNat) cc).1 cc)) (jmpP (jumpAll (raAll a (np a).toNat) cc).1 cc)).toNat)) rfl ?_
                    refine g_iconst E dX5_pass_254 ?_
                    refine g_iaddR E dX5_pass_255 ?_
                    refine ss_4 E hL hB.2.1 (by omega) dX5_pass_256 ?_
                    refine g_st (ws' := wS cA am L (up3 (topS (jmpS (jumpAll (raAll a (np a).toNat) cc).1 cc) (jmpP (jumpAll (raAll a (np a).toNat) cc).1 cc)) 4 0 (cal (jmpS (jumpAll (raAll a (np a).toNat) cc).1 cc) (jmpP (jumpAll (raAll a (np a).toNat) cc).1 cc)).toNat ((jmpS (jumpAll (raAll a (np a).toNat) cc).1 cc) 4 0 (cal (jmpS (jumpAll (raAll a (np a).toNat) cc).1 cc) (jmpP (jumpAll (raAll a (np a).toNat) cc).1 cc)).toNat + zI 1)) ++ w2) (congrArg (fun z => wS cA am L z ++ w2) (of_1 _ _ cc)) rfl rfl ?_
                    refine g_aload E dX5_pass_257 rfl ?_
                    refine g_iconst E dX5_pass_259 ?_
                    refine g_dup2 E dX5_pass_260 rfl rfl ?_
                    refine ls_3 E (hCm cc (by omega)) (by omega) rfl dX5_pass_261 ?_
                    refine g_top (v' := .int (up3 (topS (jmpS (jumpAll (raAll a (np a).toNat) cc).1 cc) (jmpP (jumpAll (raAll a (np a).toNat) cc).1 cc)) 4 0 (cal (jmpS (jumpAll (raAll a (np a).toNat) cc).1 cc) (jmpP (jumpAll (raAll a (np a).toNat) cc).1 cc)).toNat ((jmpS (jumpAll (raAll a (np a).toNat) cc).1 cc) 4 0 (cal (jmpS (jumpAll (raAll a (np a).toNat) cc).1 cc) (jmpP (jumpAll (raAll a (np a).toNat) cc).1 cc)).toNat + zI 1) 3 cc 2)) rfl ?_
                    refine g_iconst E dX5_pass_262 ?_
                    refine g_iaddR E dX5_pass_263 ?_
                    refine ss_3 E hL (hCm cc (by omega)) (by omega) dX5_pass_264 ?_
                    refine g_st (ws' := wS cA am L (offS (jmpS (jumpAll (raAll a (np a).toNat) cc).1 cc) (jmpP (jumpAll (raAll a (np a).toNat) cc).1 cc) cc) ++ w2) (congrArg (fun z => wS cA am L z ++ w2) (of_2 _ _ _)) rfl rfl ?_
                    refine g_iinc E dX5_pass_265 rfl (by decide) ?_
                    refine g_goto (tgt := 159) E dX5_pass_268 (by decide) ?_
                    refine g_wid (k := (np a).toNat) (n := 91 * (np a).toNat) (by omega) (by omega) ?_
                    refine g_st (ws' := wS cA am L (jumpAll (raAll a (np a).toNat) (cc + 1)).1 ++ w2) (by first | exact congrArg (fun z => wS cA am L z ++ w2) (lj_0 c_226) | exact congrArg (fun z => wS cA am L z ++ w2) (lj_1 c_226)) rfl rfl ?_
                    refine g_loc (lv' := [(0, .ref (am 0 0 0)), (1, .ref (am 11 0 0)), (2, .int (zI (nc a))), (3, .int (zI ((cc + 1) : Int)))]) ⟨rfl, rfl, rfl, rfl, trivial⟩ ?_
                    exact ih_cc (cc + 1) (by omega) (by omega) (fun q => absurd q (by omega))
                  · refine g_goto (tgt := 265) E dX5_pass_229 (by decide) ?_
                    refine g_iinc E dX5_pass_265 rfl (by decide) ?_
                    refine g_goto (tgt := 159) E dX5_pass_268 (by decide) ?_
                    refine g_wid (k := (np a).toNat) (n := 91 * (np a).toNat) (by omega) (by omega) ?_
                    refine g_st (ws' := wS cA am L (jumpAll (raAll a (np a).toNat) (cc + 1)).1 ++ w2) (by first | exact congrArg (fun z => wS cA am L z ++ w2) (lj_0 c_226) | exact congrArg (fun z => wS cA am L z ++ w2) (lj_1 c_226)) rfl rfl ?_
                    refine g_loc (lv' := [(0, .ref (am 0 0 0)), (1, .ref (am 11 0 0)), (2, .int (zI (nc a))), (3, .int (zI ((cc + 1) : Int)))]) ⟨rfl, rfl, rfl, rfl, trivial⟩ ?_
                    exact ih_cc (cc + 1) (by omega) (by omega) (fun q => absurd q (by omega))
                · refine g_iconst E dX5_pass_190 ?_
                  refine g_goto (tgt := 209) E dX5_pass_191 (by decide) ?_
                  refine ss_3 E hL (hCm cc (by omega)) (by omega) dX5_pass_209 ?_
                  first | refine g_st (ws' := wS cA am L (jmpS (jumpAll (raAll a (np a).toNat) cc).1 cc) ++ w2) (congrArg (fun z => wS cA am L z ++ w2) (jm_0 (by omega))) rfl rfl ?_ | refine g_st (ws' := wS cA am L (jmpS (jumpAll (raAll a (np a).toNat) cc).1 cc) ++ w2) (congrArg (fun z => wS cA am L z ++ w2) (jm_1 (by omega) (by omega))) rfl rfl ?_
                  refine g_aload_n E dX5_pass_210 rfl ?_
                  refine gs_Sim_piles E hB.1 hin5 (by decide +kernel) dX5_pass_211 ?_
                  refine g_aload E dX5_pass_214 rfl ?_
                  refine g_iconst E dX5_pass_216 ?_
                  refine ls_3 E (hCm cc (by omega)) (by omega) rfl dX5_pass_217 ?_
                  refine g_top (v' := .int (zI (jmpO (jumpAll (raAll a (np a).toNat) cc).1 cc))) (congrArg Value.int (jm_v _ _)) ?_
                  refine ls_10 E hB.2.2.2.2.2.1 (by omega) dX5_pass_218 ?_
                  refine g_top (v' := .ref (am 1 (jmpP (jumpAll (raAll a (np a).toNat) cc).1 cc) 0)) (rfl) ?_
                  refine g_astore E dX5_pass_219 (by decide) ?_
                  refine g_aload E dX5_pass_221 rfl ?_
                  refine g_callVi (T := TX7) (ci := 7) (n := 0) (As := []) (rest := _) E (c_X7_isOpen l D cA A am L _ (jmpS (jumpAll (raAll a (np a).toNat) cc).1 cc) hSk (jmpP (jumpAll (raAll a (np a).toNat) cc).1 cc) (by omega) hPOk) gX5_pass_X7_isOpen rfl ⟨rfl, rfl⟩ (by decide +kernel) ⟨Nat.le_of_ble_eq_true rfl, Nat.le_of_ble_eq_true rfl⟩ (os_7 (hPm (jmpP (jumpAll (raAll a (np a).toNat) cc).1 cc) (by omega)).1) rfl rfl rfl (Nat.le_of_ble_eq_true rfl) ⟨by show (_ : Nat) ≤ 6; omega, by show (_ : Nat) ≤ 546; omega⟩ dX5_pass_223 ?_
                  rintro r_223 ws_223 ⟨rfl, rfl⟩
                  have hb_223 := opV_b (jmpS (jumpAll (raAll a (np a).toNat) cc).1 cc) (jmpP (jumpAll (raAll a (np a).toNat) cc).1 cc)
                  refine g_if_ne (tgt := 232) E dX5_pass_226 (by decide) (by omega) (fun c_226 => ?_) (fun c_226 => ?_)
                  · refine g_aload E dX5_pass_232 rfl ?_
                    refine g_dup E dX5_pass_234 rfl ?_
                    refine gs_LP_many E (hPm (jmpP (jumpAll (raAll a (np a).toNat) cc).1 cc) (by omega)).1 hin7 (by decide +kernel) dX5_pass_235 ?_
                    refine g_iconst E dX5_pass_238 ?_
                    refine g_isub E dX5_pass_239 ?_
                    refine ps_LP_many E hL (hPm (jmpP (jumpAll (raAll a (np a).toNat) cc).1 cc) (by omega)).1 hin7 (by decide +kernel) dX5_pass_240 ?_
                    refine g_st (ws' := wS cA am L (topS (jmpS (jumpAll (raAll a (np a).toNat) cc).1 cc) (jmpP (jumpAll (raAll a (np a).toNat) cc).1 cc)) ++ w2) rfl rfl rfl ?_
                    refine g_aload_n E dX5_pass_243 rfl ?_
                    refine gs_Sim_loose E hB.1 hin5 (by decide +kernel) dX5_pass_244 ?_
                    refine g_aload E dX5_pass_247 rfl ?_
                    refine gs_LP_calibre E (hPm (jmpP (jumpAll (raAll a (np a).toNat) cc).1 cc) (by omega)).1 hin7 (by decide +kernel) dX5_pass_249 ?_
                    refine g_dup2 E dX5_pass_252 rfl rfl ?_
                    refine ls_4 E hB.2.1 (by omega) rfl dX5_pass_253 ?_
                    refine g_top (v' := .int (topS (jmpS (jumpAll (raAll a (np a).toNat) cc).1 cc) (jmpP (jumpAll (raAll a (np a).toNat) cc).1 cc) 4 0 (cal (topS (jmpS (jumpAll (raAll a (np a).toNat) cc).1 cc) (jmpP (jumpAll (raAll a (np a).toNat) cc).1 cc)) (jmpP (jumpAll (raAll a (np a).toNat) cc).1 cc)).toNat)) rfl ?_
                    refine g_iconst E dX5_pass_254 ?_
                    refine g_iaddR E dX5_pass_255 ?_
                    refine ss_4 E hL hB.2.1 (by omega) dX5_pass_256 ?_
                    refine g_st (ws' := wS cA am L (up3 (topS (jmpS (jumpAll (raAll a (np a).toNat) cc).1 cc) (jmpP (jumpAll (raAll a (np a).toNat) cc).1 cc)) 4 0 (cal (jmpS (jumpAll (raAll a (np a).toNat) cc).1 cc) (jmpP (jumpAll (raAll a (np a).toNat) cc).1 cc)).toNat ((jmpS (jumpAll (raAll a (np a).toNat) cc).1 cc) 4 0 (cal (jmpS (jumpAll (raAll a (np a).toNat) cc).1 cc) (jmpP (jumpAll (raAll a (np a).toNat) cc).1 cc)).toNat + zI 1)) ++ w2) (congrArg (fun z => wS cA am L z ++ w2) (of_1 _ _ cc)) rfl rfl ?_
                    refine g_aload E dX5_pass_257 rfl ?_
                    refine g_iconst E dX5_pass_259 ?_
                    refine g_dup2 E dX5_pass_260 rfl rfl ?_
                    refine ls_3 E (hCm cc (by omega)) (by omega) rfl dX5_pass_261 ?_
                    refine g_top (v' := .int (up3 (topS (jmpS (jumpAll (raAll a (np a).toNat) cc).1 cc) (jmpP (jumpAll (raAll a (np a).toNat) cc).1 cc)) 4 0 (cal (jmpS (jumpAll (raAll a (np a).toNat) cc).1 cc) (jmpP (jumpAll (raAll a (np a).toNat) cc).1 cc)).toNat ((jmpS (jumpAll (raAll a (np a).toNat) cc).1 cc) 4 0 (cal (jmpS (jumpAll (raAll a (np a).toNat) cc).1 cc) (jmpP (jumpAll (raAll a (np a).toNat) cc).1 cc)).toNat + zI 1) 3 cc 2)) rfl ?_
                    refine g_iconst E dX5_pass_262 ?_
                    refine g_iaddR E dX5_pass_263 ?_
                    refine ss_3 E hL (hCm cc (by omega)) (by omega) dX5_pass_264 ?_
                    refine g_st (ws' := wS cA am L (offS (jmpS (jumpAll (raAll a (np a).toNat) cc).1 cc) (jmpP (jumpAll (raAll a (np a).toNat) cc).1 cc) cc) ++ w2) (congrArg (fun z => wS cA am L z ++ w2) (of_2 _ _ _)) rfl rfl ?_
                    refine g_iinc E dX5_pass_265 rfl (by decide) ?_
                    refine g_goto (tgt := 159) E dX5_pass_268 (by decide) ?_
                    refine g_wid (k := (np a).toNat) (n := 91 * (np a).toNat) (by omega) (by omega) ?_
                    refine g_st (ws' := wS cA am L (jumpAll (raAll a (np a).toNat) (cc + 1)).1 ++ w2) (by first | exact congrArg (fun z => wS cA am L z ++ w2) (lj_0 c_226) | exact congrArg (fun z => wS cA am L z ++ w2) (lj_1 c_226)) rfl rfl ?_
                    refine g_loc (lv' := [(0, .ref (am 0 0 0)), (1, .ref (am 11 0 0)), (2, .int (zI (nc a))), (3, .int (zI ((cc + 1) : Int)))]) ⟨rfl, rfl, rfl, rfl, trivial⟩ ?_
                    exact ih_cc (cc + 1) (by omega) (by omega) (fun q => absurd q (by omega))
                  · refine g_goto (tgt := 265) E dX5_pass_229 (by decide) ?_
                    refine g_iinc E dX5_pass_265 rfl (by decide) ?_
                    refine g_goto (tgt := 159) E dX5_pass_268 (by decide) ?_
                    refine g_wid (k := (np a).toNat) (n := 91 * (np a).toNat) (by omega) (by omega) ?_
                    refine g_st (ws' := wS cA am L (jumpAll (raAll a (np a).toNat) (cc + 1)).1 ++ w2) (by first | exact congrArg (fun z => wS cA am L z ++ w2) (lj_0 c_226) | exact congrArg (fun z => wS cA am L z ++ w2) (lj_1 c_226)) rfl rfl ?_
                    refine g_loc (lv' := [(0, .ref (am 0 0 0)), (1, .ref (am 11 0 0)), (2, .int (zI (nc a))), (3, .int (zI ((cc + 1) : Int)))]) ⟨rfl, rfl, rfl, rfl, trivial⟩ ?_
                    exact ih_cc (cc + 1) (by omega) (by omega) (fun q => absurd q (by omega))
              · refine g_goto (tgt := 271) E dX5_pass_177 (by decide) ?_
                refine g_aload_n E dX5_pass_271 rfl ?_
                refine g_dup E dX5_pass_272 rfl ?_
                refine gs_Sim_day E hB.1 hin5 (by decide +kernel) dX5_pass_273 ?_
                refine g_iconst E dX5_pass_276 ?_
                refine g_iaddR E dX5_pass_277 ?_
                refine ps_Sim_day E hL hB.1 hin5 (by decide +kernel) dX5_pass_278 ?_
                refine g_wid (k := 6) (n := 546) (by omega) (by omega) ?_
                exact g_vret E (by rw [cats_e (a := (raAll a (np a).toNat)) (k := cc) (by rw [hn1]; exact hi0_cc) (by omega) (by omega)]; rfl) dX5_pass_281
        refine g_st (ws' := wS cA am L (jumpAll (raAll a (np a).toNat) 0).1 ++ w2) (rfl) rfl rfl ?_
        refine g_loc (lv' := [(0, .ref (am 0 0 0)), (1, .ref (am 11 0 0)), (2, .int (zI (nc a))), (3, .int (zI (0 : Int)))]) ⟨rfl, rfl, rfl, rfl, trivial⟩ ?_
        exact key_cc ((nc a) + 1).toNat.succ 0 (by omega) (by omega) (fun _ => rfl)
      · have hPk := hpk (by omega); obtain ⟨he1, he6, hb0, hbq⟩ := id hPk; have hsq := sq_le ⟨he1, he6⟩; have hSk := hS.ra kk
        refine g_aload_n E dX5_pass_15 rfl ?_
        refine g_iload_n E dX5_pass_16 rfl ?_
        refine ls_10 E hB.2.2.2.2.2.1 (by omega) dX5_pass_17 ?_
        refine g_top (v' := .ref (am 1 kk 0)) (rfl) ?_
        refine g_astore E dX5_pass_18 (by decide) ?_
        refine g_aload E dX5_pass_20 rfl ?_
        refine gs_LP_many E (hPm kk (by omega)).1 hin7 (by decide +kernel) dX5_pass_22 ?_
        refine g_top (v' := .int (zI (((bl (raAll a kk) kk).toNat : Nat) : Int))) (by rw [Int.toNat_of_nonneg hb0]) ?_
        refine g_newZ E hA (by decide +kernel) (by omega) (by show (_ : Nat) ≤ 6; omega) (by show (_ : Nat) ≤ 546; omega) dX5_pass_25 (fun q1 => ?_)
        refine g_asc ?_
        refine g_astore E dX5_pass_27 (by decide) ?_
        refine g_iconst E dX5_pass_29 ?_
        refine g_istore E dX5_pass_30 (by decide) ?_
        refine g_wid (k := kk + 1) (n := 91 * kk + 91) (by omega) (by omega) ?_
        have key_jj : ∀ (n_jj jj : Nat), (jj : Int) ≤ bl (raAll a kk) kk → bl (raAll a kk) kk + 1 ≤ (jj : Int) + n_jj → GW p l e (headSpec wsX5_pass ({ frames := 2, cells := 6, slots := 546, locals := 49 })).room s m ([.ref (am 0 0 0)] : List Value).toArray below meth c (MQ below (va_Qv (fun ws' => ws' = wS cA am L (dayS a) ++ w2) (gB D A) A) ([.ref (am 0 0 0)] : List Value).toArray s 6 546 A) D A 8 (wS cA am L (raAll a kk) ++ (w2 ++ [(q1, .inl (cA 4, (bl (raAll a kk) kk).toNat, .inl (covF (raAll a kk) kk jj)))])) (kk + 1) (91 * kk + 91) 32 [(0, .ref (am 0 0 0)), (1, .ref (am 10 0 0)), (2, .int (zI (np a))), (3, .int (zI (kk : Int))), (4, .ref (am 1 kk 0)), (5, .ref q1), (6, .int (zI (jj : Int)))] [] := by
          intro n_jj
          induction n_jj with
          | zero => intro jj h1 h2; exact absurd h2 (by omega)
          | succ n_jj ih_jj =>
            intro jj hle_jj hfu_jj
            refine g_iload E dX5_pass_32 rfl ?_
            refine g_aload E dX5_pass_34 rfl ?_
            refine gs_LP_many E (hPm kk (by omega)).1 hin7 (by decide +kernel) dX5_pass_36 ?_
            refine g_icmp_ge (tgt := 68) E dX5_pass_39 (by decide) (by omega) (by omega) (fun c_39 => ?_) (fun c_39 => ?_)
            · obtain rfl : jj = (bl (raAll a kk) kk).toNat := by omega
              refine g_iconst E dX5_pass_68 ?_
              refine g_istore E dX5_pass_69 (by decide) ?_
              refine g_wid (k := kk + 1) (n := 91 * kk + 91) (by omega) (by omega) ?_
              have key_ii : ∀ (n_ii ii : Nat), (ii : Int) ≤ bl (raAll a kk) kk → bl (raAll a kk) kk + 1 ≤ (ii : Int) + n_ii → GW p l e (headSpec wsX5_pass ({ frames := 2, cells := 6, slots := 546, locals := 49 })).room s m ([.ref (am 0 0 0)] : List Value).toArray below meth c (MQ below (va_Qv (fun ws' => ws' = wS cA am L (dayS a) ++ w2) (gB D A) A) ([.ref (am 0 0 0)] : List Value).toArray s 6 546 A) D A 8 (wS cA am L (raS (raAll a kk) kk (raAll a kk 0 0 3) ii) ++ (w2 ++ [(q1, .inl (cA 4, (bl (raAll a kk) kk).toNat, .inl (covF (raAll a kk) kk (bl (raAll a kk) kk).toNat)))])) (kk + 1) (91 * kk + 91) 71 [(0, .ref (am 0 0 0)), (1, .ref (am 10 0 0)), (2, .int (zI (np a))), (3, .int (zI (kk : Int))), (4, .ref (am 1 kk 0)), (5, .ref q1), (6, .int (zI (ii : Int)))] [] := by
                intro n_ii
                induction n_ii with
                | zero => intro ii h1 h2; exact absurd h2 (by omega)
                | succ n_ii ih_ii =>
                  intro ii hle_ii hfu_ii
                  have hbl_ii : bl (raS (raAll a kk) kk (raAll a kk 0 0 3) ii) kk = bl (raAll a kk) kk := (ra_e _ _ _ ii).bl
                  have hsd_ii : sq (sd (raS (raAll a kk) kk (raAll a kk 0 0 3) ii) kk) = sq (sd (raAll a kk) kk) := congrArg sq (ra_e _ _ _ ii).sd
                  refine g_iload E dX5_pass_71 rfl ?_
                  refine g_aload E dX5_pass_73 rfl ?_
                  refine gs_LP_many E (hPm kk (by omega)).1 hin7 (by decide +kernel) dX5_pass_75 ?_
                  refine g_icmp_ge (tgt := 143) E dX5_pass_78 (by decide) (by omega) (by omega) (fun c_78 => ?_) (fun c_78 => ?_)
                  · obtain rfl : ii = (bl (raAll a kk) kk).toNat := (by omega); refine g_drop2 ?_
                    refine g_iinc E dX5_pass_143 rfl (by decide) ?_
                    refine g_goto (tgt := 10) E dX5_pass_146 (by decide) ?_
                    refine g_wid (k := (kk + 1)) (n := 91 * (kk + 1)) (by omega) (by omega) ?_
                    refine g_st (ws' := wS cA am L (raAll a (kk + 1)) ++ w2) (rfl) rfl rfl ?_
                    refine g_loc (lv' := [(0, .ref (am 0 0 0)), (1, .ref (am 10 0 0)), (2, .int (zI (np a))), (3, .int (zI ((kk + 1) : Int)))]) ⟨rfl, rfl, rfl, rfl, trivial⟩ ?_
                    exact ih_kk (kk + 1) (by omega) (by omega)
                  · refine g_aload E dX5_pass_81 rfl ?_
                    refine gs_LP_rust E (hPm kk (by omega)).1 hin7 (by decide +kernel) dX5_pass_83 ?_
                    refine g_iload E dX5_pass_86 rfl ?_
                    refine ls_2 E (hPm kk (by omega)).2.1 (by omega) rfl dX5_pass_88 ?_
                    refine g_top (v' := .int ((raS (raAll a kk) kk (raAll a kk 0 0 3) ii) 2 kk ii)) rfl ?_
                    refine g_aload E dX5_pass_89 rfl ?_
                    refine g_iload E dX5_pass_91 rfl ?_
                    refine g_zald E 4 rfl (at_r (at_r (at_i 0 rfl))) (by omega) (by omega) rfl dX5_pass_93 ?_
                    refine g_top (v' := .int (zI (if cv (raAll a kk) kk ii then 1 else 0))) (congrArg Value.int (covF_at (by omega))) ?_
                    refine g_if_eqR (tgt := 106) E dX5_pass_94 (by decide) (fun c_94 => ?_) (fun c_94 => ?_)
                    · refine g_aload_n E dX5_pass_106 rfl ?_
                      refine gs_Sim_rain E hB.1 hin5 (by decide +kernel) dX5_pass_107 ?_
                      refine g_top (v' := .int (raAll a kk 0 0 3)) (congrArg Value.int (ra_e (raAll a kk) kk (raAll a kk 0 0 3) ii 0 0 3 (by decide))) ?_
                      refine g_iconst E dX5_pass_110 ?_
                      refine g_iaddR E dX5_pass_111 ?_
                      refine g_iaddR E dX5_pass_112 ?_
                      refine g_istore E dX5_pass_113 (by decide) ?_
                      refine g_aload E dX5_pass_115 rfl ?_
                      refine gs_LP_rust E (hPm kk (by omega)).1 hin7 (by decide +kernel) dX5_pass_117 ?_
                      refine g_iload E dX5_pass_120 rfl ?_
                      refine g_iload E dX5_pass_122 rfl ?_
                      refine g_bipush E dX5_pass_124 (by decide) ?_
                      refine g_icmp_leR (tgt := 134) E dX5_pass_126 (by decide) (fun c_126 => ?_) (fun c_126 => ?_)
                      · refine g_iload E dX5_pass_134 rfl ?_
                        refine ss_2 E hL (hPm kk (by omega)).2.1 (by omega) dX5_pass_136 ?_
                        refine g_iinc E dX5_pass_137 rfl (by decide) ?_
                        refine g_goto (tgt := 71) E dX5_pass_140 (by decide) ?_
                        refine g_wid (k := kk + 1) (n := 91 * kk + 91) (by omega) (by omega) ?_
                        refine g_st (ws' := wS cA am L (raS (raAll a kk) kk (raAll a kk 0 0 3) (ii + 1)) ++ (w2 ++ [(q1, .inl (cA 4, (bl (raAll a kk) kk).toNat, .inl (covF (raAll a kk) kk (bl (raAll a kk) kk).toNat)))])) (congrArg (fun z => wS cA am L z ++ (w2 ++ [(q1, .inl (cA 4, (bl (raAll a kk) kk).toNat, .inl (covF (raAll a kk) kk (bl (raAll a kk) kk).toNat)))])) (cov_st _ _ _ _ _ (by first | (rw [(ra_e (raAll a kk) kk (raAll a kk 0 0 3) ii).cvE, if_pos (zif1 c_94)]; first | exact mn9.2 c_126 | exact mn9.1 c_126) | (rw [(ra_e (raAll a kk) kk (raAll a kk 0 0 3) ii).cvE, if_neg (zif0 c_94), Int32.add_comm (zI 1)]; first | exact mn9.2 c_126 | exact mn9.1 c_126)))) rfl rfl ?_
                        refine g_loc (lv' := [(0, .ref (am 0 0 0)), (1, .ref (am 10 0 0)), (2, .int (zI (np a))), (3, .int (zI (kk : Int))), (4, .ref (am 1 kk 0)), (5, .ref q1), (6, .int (zI ((ii + 1) : Int)))]) ⟨rfl, rfl, rfl, rfl, rfl, rfl, rfl, trivial⟩ ?_
                        exact ih_ii (ii + 1) (by omega) (by omega)
                      · refine g_bipush E dX5_pass_129 (by decide) ?_
                        refine g_goto (tgt := 136) E dX5_pass_131 (by decide) ?_
                        refine ss_2 E hL (hPm kk (by omega)).2.1 (by omega) dX5_pass_136 ?_
                        refine g_iinc E dX5_pass_137 rfl (by decide) ?_
                        refine g_goto (tgt := 71) E dX5_pass_140 (by decide) ?_
                        refine g_wid (k := kk + 1) (n := 91 * kk + 91) (by omega) (by omega) ?_
                        refine g_st (ws' := wS cA am L (raS (raAll a kk) kk (raAll a kk 0 0 3) (ii + 1)) ++ (w2 ++ [(q1, .inl (cA 4, (bl (raAll a kk) kk).toNat, .inl (covF (raAll a kk) kk (bl (raAll a kk) kk).toNat)))])) (congrArg (fun z => wS cA am L z ++ (w2 ++ [(q1, .inl (cA 4, (bl (raAll a kk) kk).toNat, .inl (covF (raAll a kk) kk (bl (raAll a kk) kk).toNat)))])) (cov_st _ _ _ _ _ (by first | (rw [(ra_e (raAll a kk) kk (raAll a kk 0 0 3) ii).cvE, if_pos (zif1 c_94)]; first | exact mn9.2 c_126 | exact mn9.1 c_126) | (rw [(ra_e (raAll a kk) kk (raAll a kk 0 0 3) ii).cvE, if_neg (zif0 c_94), Int32.add_comm (zI 1)]; first | exact mn9.2 c_126 | exact mn9.1 c_126)))) rfl rfl ?_
                        refine g_loc (lv' := [(0, .ref (am 0 0 0)), (1, .ref (am 10 0 0)), (2, .int (zI (np a))), (3, .int (zI (kk : Int))), (4, .ref (am 1 kk 0)), (5, .ref q1), (6, .int (zI ((ii + 1) : Int)))]) ⟨rfl, rfl, rfl, rfl, rfl, rfl, rfl, trivial⟩ ?_
                        exact ih_ii (ii + 1) (by omega) (by omega)
                    · refine g_aload_n E dX5_pass_97 rfl ?_
                      refine gs_Sim_rain E hB.1 hin5 (by decide +kernel) dX5_pass_98 ?_
                      refine g_top (v' := .int (raAll a kk 0 0 3)) (congrArg Value.int (ra_e (raAll a kk) kk (raAll a kk 0 0 3) ii 0 0 3 (by decide))) ?_
                      refine g_iconst E dX5_pass_101 ?_
                      refine g_idivR E dX5_pass_102 (by decide) ?_
                      refine g_goto (tgt := 112) E dX5_pass_103 (by decide) ?_
                      refine g_iaddR E dX5_pass_112 ?_
                      refine g_istore E dX5_pass_113 (by decide) ?_
                      refine g_aload E dX5_pass_115 rfl ?_
                      refine gs_LP_rust E (hPm kk (by omega)).1 hin7 (by decide +kernel) dX5_pass_117 ?_
                      refine g_iload E dX5_pass_120 rfl ?_
                      refine g_iload E dX5_pass_122 rfl ?_
                      refine g_bipush E dX5_pass_124 (by decide) ?_
                      refine g_icmp_leR (tgt := 134) E dX5_pass_126 (by decide) (fun c_126 => ?_) (fun c_126 => ?_)
                      · refine g_iload E dX5_pass_134 rfl ?_
                        refine ss_2 E hL (hPm kk (by omega)).2.1 (by omega) dX5_pass_136 ?_
                        refine g_iinc E dX5_pass_137 rfl (by decide) ?_
                        refine g_goto (tgt := 71) E dX5_pass_140 (by decide) ?_
                        refine g_wid (k := kk + 1) (n := 91 * kk + 91) (by omega) (by omega) ?_
                        refine g_st (ws' := wS cA am L (raS (raAll a kk) kk (raAll a kk 0 0 3) (ii + 1)) ++ (w2 ++ [(q1, .inl (cA 4, (bl (raAll a kk) kk).toNat, .inl (covF (raAll a kk) kk (bl (raAll a kk) kk).toNat)))])) (congrArg (fun z => wS cA am L z ++ (w2 ++ [(q1, .inl (cA 4, (bl (raAll a kk) kk).toNat, .inl (covF (raAll a kk) kk (bl (raAll a kk) kk).toNat)))])) (cov_st _ _ _ _ _ (by first | (rw [(ra_e (raAll a kk) kk (raAll a kk 0 0 3) ii).cvE, if_pos (zif1 c_94)]; first | exact mn9.2 c_126 | exact mn9.1 c_126) | (rw [(ra_e (raAll a kk) kk (raAll a kk 0 0 3) ii).cvE, if_neg (zif0 c_94), Int32.add_comm (zI 1)]; first | exact mn9.2 c_126 | exact mn9.1 c_126)))) rfl rfl ?_
                        refine g_loc (lv' := [(0, .ref (am 0 0 0)), (1, .ref (am 10 0 0)), (2, .int (zI (np a))), (3, .int (zI (kk : Int))), (4, .ref (am 1 kk 0)), (5, .ref q1), (6, .int (zI ((ii + 1) : Int)))]) ⟨rfl, rfl, rfl, rfl, rfl, rfl, rfl, trivial⟩ ?_
                        exact ih_ii (ii + 1) (by omega) (by omega)
                      · refine g_bipush E dX5_pass_129 (by decide) ?_
                        refine g_goto (tgt := 136) E dX5_pass_131 (by decide) ?_
                        refine ss_2 E hL (hPm kk (by omega)).2.1 (by omega) dX5_pass_136 ?_
                        refine g_iinc E dX5_pass_137 rfl (by decide) ?_
                        refine g_goto (tgt := 71) E dX5_pass_140 (by decide) ?_
                        refine g_wid (k := kk + 1) (n := 91 * kk + 91) (by omega) (by omega) ?_
                        refine g_st (ws' := wS cA am L (raS (raAll a kk) kk (raAll a kk 0 0 3) (ii + 1)) ++ (w2 ++ [(q1, .inl (cA 4, (bl (raAll a kk) kk).toNat, .inl (covF (raAll a kk) kk (bl (raAll a kk) kk).toNat)))])) (congrArg (fun z => wS cA am L z ++ (w2 ++ [(q1, .inl (cA 4, (bl (raAll a kk) kk).toNat, .inl (covF (raAll a kk) kk (bl (raAll a kk) kk).toNat)))])) (cov_st _ _ _ _ _ (by first | (rw [(ra_e (raAll a kk) kk (raAll a kk 0 0 3) ii).cvE, if_pos (zif1 c_94)]; first | exact mn9.2 c_126 | exact mn9.1 c_126) | (rw [(ra_e (raAll a kk) kk (raAll a kk 0 0 3) ii).cvE, if_neg (zif0 c_94), Int32.add_comm (zI 1)]; first | exact mn9.2 c_126 | exact mn9.1 c_126)))) rfl rfl ?_
                        refine g_loc (lv' := [(0, .ref (am 0 0 0)), (1, .ref (am 10 0 0)), (2, .int (zI (np a))), (3, .int (zI (kk : Int))), (4, .ref (am 1 kk 0)), (5, .ref q1), (6, .int (zI ((ii + 1) : Int)))]) ⟨rfl, rfl, rfl, rfl, rfl, rfl, rfl, trivial⟩ ?_
                        exact ih_ii (ii + 1) (by omega) (by omega)
              refine g_st (ws' := wS cA am L (raS (raAll a kk) kk (raAll a kk 0 0 3) 0) ++ (w2 ++ [(q1, .inl (cA 4, (bl (raAll a kk) kk).toNat, .inl (covF (raAll a kk) kk (bl (raAll a kk) kk).toNat)))])) (rfl) rfl rfl ?_
              refine g_loc (lv' := [(0, .ref (am 0 0 0)), (1, .ref (am 10 0 0)), (2, .int (zI (np a))), (3, .int (zI (kk : Int))), (4, .ref (am 1 kk 0)), (5, .ref q1), (6, .int (zI (0 : Int)))]) ⟨rfl, rfl, rfl, rfl, rfl, rfl, rfl, trivial⟩ ?_
              exact key_ii ((bl (raAll a kk) kk) + 1).toNat.succ 0 (by omega) (by omega)
            · refine g_aload E dX5_pass_42 rfl ?_
              refine g_iload E dX5_pass_44 rfl ?_
              refine g_aload E dX5_pass_46 rfl ?_
              refine g_iload E dX5_pass_48 rfl ?_
              refine g_callVi (T := TX7) (ci := 7) (n := 1) (As := [_]) (rest := _) E (c_X7_on l D cA A am L _ (raAll a kk) hSk kk (by omega) hPk jj (by omega)) gX5_pass_X7_on rfl ⟨rfl, rfl⟩ (by decide +kernel) ⟨Nat.le_of_ble_eq_true rfl, Nat.le_of_ble_eq_true rfl⟩ (os_7 (hPm kk (by omega)).1) rfl rfl rfl (Nat.le_of_ble_eq_true rfl) ⟨by show (_ : Nat) ≤ 6; omega, by show (_ : Nat) ≤ 546; omega⟩ dX5_pass_50 ?_
              rintro r_50 ws_50 ⟨rfl, rfl⟩
              have hb_50 := onN_b (sd (raAll a kk) kk) (bl (raAll a kk) kk) jj; have hcv_50 := cv_on hPk (k := (jj : Int)) (by omega)
              refine g_if_le (tgt := 60) E dX5_pass_53 (by decide) (by omega) (fun c_53 => ?_) (fun c_53 => ?_)
              · refine g_iconst E dX5_pass_60 ?_
                refine g_zast E 4 rfl (by omega) (by omega) (by decide) (se_r (se_r (se_i 0 rfl rfl))) dX5_pass_61 ?_
                refine g_iinc E dX5_pass_62 rfl (by decide) ?_
                refine g_goto (tgt := 32) E dX5_pass_65 (by decide) ?_
                refine g_wid (k := kk + 1) (n := 91 * kk + 91) (by omega) (by omega) ?_
                refine g_st (ws' := wS cA am L (raAll a kk) ++ (w2 ++ [(q1, .inl (cA 4, (bl (raAll a kk) kk).toNat, .inl (covF (raAll a kk) kk (jj + 1))))])) (congrArg (fun f => wS cA am L (raAll a kk) ++ (w2 ++ [(q1, .inl (cA 4, (bl (raAll a kk) kk).toNat, .inl (f)))])) (covF_s (by first | rw [if_pos (hcv_50.mp (by omega))] | rw [if_neg (fun q => absurd (hcv_50.mpr q) (by omega))]))) rfl rfl ?_
                refine g_loc (lv' := [(0, .ref (am 0 0 0)), (1, .ref (am 10 0 0)), (2, .int (zI (np a))), (3, .int (zI (kk : Int))), (4, .ref (am 1 kk 0)), (5, .ref q1), (6, .int (zI ((jj + 1) : Int)))]) ⟨rfl, rfl, rfl, rfl, rfl, rfl, rfl, trivial⟩ ?_
                exact ih_jj (jj + 1) (by omega) (by omega)
              · refine g_iconst E dX5_pass_56 ?_
                refine g_goto (tgt := 61) E dX5_pass_57 (by decide) ?_
                refine g_zast E 4 rfl (by omega) (by omega) (by decide) (se_r (se_r (se_i 0 rfl rfl))) dX5_pass_61 ?_
                refine g_iinc E dX5_pass_62 rfl (by decide) ?_
                refine g_goto (tgt := 32) E dX5_pass_65 (by decide) ?_
                refine g_wid (k := kk + 1) (n := 91 * kk + 91) (by omega) (by omega) ?_
                refine g_st (ws' := wS cA am L (raAll a kk) ++ (w2 ++ [(q1, .inl (cA 4, (bl (raAll a kk) kk).toNat, .inl (covF (raAll a kk) kk (jj + 1))))])) (congrArg (fun f => wS cA am L (raAll a kk) ++ (w2 ++ [(q1, .inl (cA 4, (bl (raAll a kk) kk).toNat, .inl (f)))])) (covF_s (by first | rw [if_pos (hcv_50.mp (by omega))] | rw [if_neg (fun q => absurd (hcv_50.mpr q) (by omega))]))) rfl rfl ?_
                refine g_loc (lv' := [(0, .ref (am 0 0 0)), (1, .ref (am 10 0 0)), (2, .int (zI (np a))), (3, .int (zI (kk : Int))), (4, .ref (am 1 kk 0)), (5, .ref q1), (6, .int (zI ((jj + 1) : Int)))]) ⟨rfl, rfl, rfl, rfl, rfl, rfl, rfl, trivial⟩ ?_
                exact ih_jj (jj + 1) (by omega) (by omega)
        refine g_st (ws' := wS cA am L (raAll a kk) ++ (w2 ++ [(q1, .inl (cA 4, (bl (raAll a kk) kk).toNat, .inl (covF (raAll a kk) kk 0)))])) (congrArg (fun f => wS cA am L (raAll a kk) ++ (w2 ++ [(q1, .inl (cA 4, (bl (raAll a kk) kk).toNat, .inl (f)))])) (covF_0 (raAll a kk) kk)) rfl rfl ?_
        refine g_loc (lv' := [(0, .ref (am 0 0 0)), (1, .ref (am 10 0 0)), (2, .int (zI (np a))), (3, .int (zI (kk : Int))), (4, .ref (am 1 kk 0)), (5, .ref q1), (6, .int (zI (0 : Int)))]) ⟨rfl, rfl, rfl, rfl, rfl, rfl, rfl, trivial⟩ ?_
        exact key_jj ((bl (raAll a kk) kk) + 1).toNat.succ 0 (by omega) (by omega)
  refine g_st (ws' := wS cA am L (raAll a 0) ++ w2) (rfl) rfl rfl ?_
  refine g_loc (lv' := [(0, .ref (am 0 0 0)), (1, .ref (am 10 0 0)), (2, .int (zI (np a))), (3, .int (zI (0 : Int)))]) ⟨rfl, rfl, rfl, rfl, trivial⟩ ?_
  exact key_kk ((np a) + 1).toNat.succ 0 (by omega) (by omega)
set_option maxHeartbeats 800000 in
set_option maxRecDepth 100000 in
/-- behind(d) -/
theorem c_X5_behind (l : Launch) (D : va_G) (cA : Nat → ClassId) (A : Nat → Prop) (am : Ad) (L : List Id3) (w2 : va_W) (a : St) (hS : SH L a) (hI : Inv a) (d9 : Int) (hd : 0 ≤ d9 ∧ d9 ≤ 3) : Met l yX5_behind wsX5_behind ({ frames := 3, cells := 18, slots := 1638, locals := 76 }) (PcZ D (tysX cA) A (wS cA am L a ++ w2) [.ref (am 0 0 0), .int (zI d9)]) (va_Qr (fun _ => True) (fun u ra t => gB D A u t ∧ (ra = am 0 0 0 ∧ u = wS cA am L (passL a d9.toNat).1 ++ w2)) A) 18 1638 A := by
  refine g_metZ (cc := cX5_behind) (maxL := 3) (ret := (some (.object "CannonStacksLaw$Sim"))) (own := RX5) rfl (by decide) rfl (Nat.le_of_ble_eq_true rfl) ?_
  intro p e s m below meth c E Z
  have hA : ∀ q, s.heap.size ≤ q → A q := Z.2.1
  have hin5 : ∀ w ∈ u_ws RX5 TX5 9, w ∈ wsX5_behind := by decide +kernel
  obtain ⟨hL, hB, hPm, hCm, -, -⟩ := id hS
  obtain ⟨⟨hn0, hn6, hc0, hc3⟩, hPI, hCI, hFr⟩ := id hI
  refine g_loc (lv' := [(0, .ref (am 0 0 0)), (1, .int (zI d9))]) ⟨rfl, rfl, trivial⟩ ?_
  refine g_iconst E dX5_behind_0 ?_
  refine g_istore_n E dX5_behind_1 (by decide) ?_
  refine g_wid (k := 6 * 0) (n := 546 * 0) (by omega) (by omega) ?_
  have key_kk : ∀ (n_kk kk : Nat), (kk : Int) ≤ d9 → d9 + 1 ≤ (kk : Int) + n_kk → GW p l e (headSpec wsX5_behind ({ frames := 3, cells := 18, slots := 1638, locals := 76 })).room s m ([.ref (am 0 0 0), .int (zI d9)] : List Value).toArray below meth c (MQ below (va_Qr (fun _ => True) (fun u ra t => gB D A u t ∧ (ra = am 0 0 0 ∧ u = wS cA am L (passL a d9.toNat).1 ++ w2)) A) ([.ref (am 0 0 0), .int (zI d9)] : List Value).toArray s 18 1638 A) D A 3 (wS cA am L (passL a kk).1 ++ w2) (6 * kk) (546 * kk) 2 [(0, .ref (am 0 0 0)), (1, .int (zI d9)), (2, .int (zI (kk : Int)))] [] := by
    intro n_kk
    induction n_kk with
    | zero => intro kk h1 h2; exact absurd h2 (by omega)
    | succ n_kk ih_kk =>
      intro kk hle_kk hfu_kk
      obtain ⟨hIk, hnk, hck⟩ := passL_i hI kk
      have hSk := hS.pl kk
      refine g_iload_n E dX5_behind_2 rfl ?_
      refine g_iload_n E dX5_behind_3 rfl ?_
      refine g_icmp_ge (tgt := 17) E dX5_behind_4 (by decide) (by omega) (by omega) (fun c_4 => ?_) (fun c_4 => ?_)
      · obtain rfl : kk = d9.toNat := by omega
        refine g_aload_n E dX5_behind_17 rfl ?_
        refine g_wid (k := 18) (n := 1638) (by omega) (by omega) ?_
        exact g_aret E (⟨rfl, rfl⟩) dX5_behind_18
      · refine g_aload_n E dX5_behind_7 rfl ?_
        refine g_zVv (T := TX5) (ci := 5) (n := 0) (As := []) (rest := _) E Z (c_X5_pass l D cA A am L _ _ hSk hIk) gX5_behind_X5_pass rfl ⟨rfl, rfl⟩ (by decide +kernel) ⟨Nat.le_of_ble_eq_true rfl, Nat.le_of_ble_eq_true rfl⟩ (os_5 hB.1) rfl rfl rfl (Nat.le_of_ble_eq_true rfl) ⟨by show (_ : Nat) ≤ 18; omega, by show (_ : Nat) ≤ 1638; omega⟩ dX5_behind_8 ?_
        rintro ws_8 rfl
        refine g_iinc E dX5_behind_11 rfl (by decide) ?_
        refine g_goto (tgt := 2) E dX5_behind_14 (by decide) ?_
        refine g_wid (k := 6 * (kk + 1)) (n := 546 * (kk + 1)) (by omega) (by omega) ?_
        refine g_st (ws' := wS cA am L (passL a (kk + 1)).1 ++ w2) (rfl) rfl rfl ?_
        refine g_loc (lv' := [(0, .ref (am 0 0 0)), (1, .int (zI d9)), (2, .int (zI ((kk + 1) : Int)))]) ⟨rfl, rfl, rfl, trivial⟩ ?_
        exact ih_kk (kk + 1) (by omega) (by omega)
  refine g_st (ws' := wS cA am L (passL a 0).1 ++ w2) (rfl) rfl rfl ?_
  refine g_loc (lv' := [(0, .ref (am 0 0 0)), (1, .int (zI d9)), (2, .int (zI (0 : Int)))]) ⟨rfl, rfl, rfl, trivial⟩ ?_
  exact key_kk ((d9) + 1).toNat.succ 0 (by omega) (by omega)
