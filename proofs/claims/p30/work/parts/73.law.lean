/-! ===== LAW: the clone, the steps ===== -/
section CLN
variable {p : Program} {l : Launch} {e : Env} {R : Room} {s : State} {m : MethodId} {args : Array Value} {below : List Frame} {meth : Method} {c : Code} {Q : State → Prop} {D : va_G} {A : Nat → Prop} {nL : Nat} {ws : va_W} {cells slots pc : Nat} {lv : List (Nat × Value)} {st : List Value} {cc : ByteArray} {own : String} {Ts : List Cond} {ret : Option FieldType} {cA : Nat → ClassId}
theorem g_clone (E : GE p s m args meth c D (tysX cA) cc nL own Ts ret) (hA : ∀ q, s.heap.size ≤ q → A q) (hcl : va_Nw (.castable "[I" "java/lang/Cloneable") s) {index n a : Nat} {f : Nat → Int32}
    (h1 : Cond.methodLink own index ⟨"[I", "clone", "()Ljava/lang/Object;"⟩ ∈ Ts) (h2 : Cond.sameMethod "[I" "java/lang/Object" "clone" "()Ljava/lang/Object;" ∈ Ts) (h3 : Cond.native ⟨"java/lang/Object", "clone", "()Ljava/lang/Object;"⟩ ∈ Ts) (h4 : Cond.instanceMethod ⟨"java/lang/Object", "clone", "()Ljava/lang/Object;"⟩ ∈ Ts) (h5 : Cond.selects "[I" ⟨"[I", "clone", "()Ljava/lang/Object;"⟩ ⟨"java/lang/Object", "clone", "()Ljava/lang/Object;"⟩ ∈ Ts)
    (he : ∃ q0 : Nat, ws[q0]? = some (a, .inl (cA 0, n, .inl f))) (hfr : 1 ≤ R.frames) (hl : (st.map fun v => v.category).sum + 14 ≤ R.locals) (hc : cells + 1 ≤ R.cells) (hs : slots + n ≤ R.slots) (hdg : decode cc pc = .ok (.invokevirtual index, 3))
    (kk : ∀ q : Nat, GW p l e R s m args below meth c Q D A nL (ws ++ [(q, .inl (cA 0, n, .inl f))]) (cells + 1) (slots + n) (pc + 3) lv (.ref q :: st)) : GW p l e R s m args below meth c Q D A nL ws cells slots pc lv (.ref a :: st) := by
  intro H locs ls hP hD hS h0
  obtain ⟨q0, ha⟩ := he
  have hK := E.2.2.2.2.2.1.1
  exact va_clone (x := (n, .inl f)) (ty := .int) E.1 E.2.1 (E.2.2.1.trans h0.1.symm) E.2.2.2.1 (E.2.2.2.2.1 _ h1) (E.2.2.2.2.1 _ h2) (E.2.2.2.2.1 _ h3) (E.2.2.2.2.1 _ h4) (E.2.2.2.2.1 _ h5) hcl hK hP hD hS hA q0 0 ha rfl (va_nm_int (hK.2 0 (cA 0, .int) rfl).2) (va_fit (fun _ _ => rfl)) hfr hl hc hs hdg (fun q H1 _ hP1 hD1 hS1 => kk q H1 locs ls hP1 hD1 hS1 h0)
theorem g_castI (E : GE p s m args meth c D (tysX cA) cc nL own Ts ret) {index n a : Nat} {f : Nat → Int32} (h1 : Cond.classLink own index "[I" ∈ Ts) (he : ∃ q0 : Nat, ws[q0]? = some (a, .inl (cA 0, n, .inl f))) (hdg : decode cc pc = .ok (.checkcast index, 3))
    (kk : GW p l e R s m args below meth c Q D A nL ws cells slots (pc + 3) lv (.ref a :: st)) : GW p l e R s m args below meth c Q D A nL ws cells slots pc lv (.ref a :: st) := by
  intro H locs ls hP hD hS h0
  obtain ⟨q0, ha⟩ := he
  have hK := E.2.2.2.2.2.1.1
  exact va_castA (x := (n, .inl f)) E.1 E.2.1 E.2.2.2.1 (E.2.2.2.2.1 _ h1) hP q0 ha (va_nm_int (hK.2 0 (cA 0, .int) rfl).2) hdg (kk H locs ls hP hD hS h0)
theorem g_gen {y : Int32} (kk : ∀ x : Int32, GW p l e R s m args below meth c Q D A nL ws cells slots pc lv (.int x :: st)) : GW p l e R s m args below meth c Q D A nL ws cells slots pc lv (.int y :: st) := kk y
end CLN
theorem cnt_0 (a : St) : coV a 0 = zI (dy a) := (if_pos rfl).trans (zI_self _).symm
theorem now_g {t0 t1 srt : Int} {f g s1 s0 : Int32} (hf : f = zI t0) (hg : g = s0) (h : t1 = t0 + (if srt = 2 ∨ srt = 3 then s1.toInt - s0.toInt else 0)) : zI t1 = f + (if srt = 2 ∨ srt = 3 then s1 - g else zI 0) := by
  subst hf hg h
  rw [← zI_add]
  by_cases q : srt = 2 ∨ srt = 3
  · rw [if_pos q, if_pos q, ← zI_sub, zI_self, zI_self]
  · rw [if_neg q, if_neg q]
set_option maxHeartbeats 4000000 in
set_option maxRecDepth 100000 in
/-- the steps -/
theorem law_loop {p : Program} {l : Launch} {e : Env} {s : State} {m : MethodId} {below : List Frame} {meth : Method} {c : Code} {Q : State → Prop} {D : va_G} {A : Nat → Prop} {cA : Nat → ClassId} {am ad : Ad} {σ : Nat → St} {L : List Id3} {a : St} {b9 L9 : Nat} {xs : Nat → Int32} (hl0 : l.stackTraces = false) (E : GE p s m #[Value.ref b9] meth c D (tysX cA) cL_law 28 RL wsL_law ret) (Z : gZ A s) (X : gX s) (hX : va_X b9 L9 xs s s.heap) (hbl : b9 < s.heap.size) (hbA : ¬ A b9) (hL9 : L9 ≤ 2560) (hCl : va_Nw (.castable "[I" "java/lang/Cloneable") s) (hS : SH L a) (hJ : J 62 a) (kend : ∀ (am : Ad) (L : List Id3) (a : St) (cells slots : Nat), SH L a → J 100 a → cells ≤ 590000 → slots ≤ 7200000 → GW p l e room_1 s m #[Value.ref b9] below meth c Q D A 28 (wS cA am L a ++ (wX cA ad (upY σ 0 a) ++ [])) cells slots 899 [(0, .ref b9), (1, .ref (ad 0 8 0)), (2, .ref (am 0 0 0))] []) : GW p l e room_1 s m #[Value.ref b9] below meth c Q D A 28 (wS cA am L a ++ (wX cA ad (upY σ 0 a) ++ [])) (9000) (140000) 22 [(0, .ref b9), (1, .ref (ad 0 8 0)), (2, .ref (am 0 0 0)), (3, .int (zI (0 : Int)))] [] := by
  have hA : ∀ q, s.heap.size ≤ q → A q := Z.2.1
  have hin5 : ∀ w ∈ u_ws RX5 TX5 9, w ∈ wsL_law := inlX5
  refine g_wid (k := 9000 + 140 * 0) (n := 140000 + 2100 * 0) (by omega) (by omega) ?_
  have key_kk : ∀ (n_kk kk : Nat), (kk : Int) ≤ (12 : Int) → (12 : Int) + 1 ≤ (kk : Int) + n_kk → (am : Ad) → (L : List Id3) → (a : St) → (SH L a) → (J (62 + (kk : Int)) a) → GW p l e room_1 s m #[Value.ref b9] below meth c Q D A 28 (wS cA am L a ++ (wX cA ad (upY σ 0 a) ++ [])) (9000 + 140 * kk) (140000 + 2100 * kk) 22 [(0, .ref b9), (1, .ref (ad 0 8 0)), (2, .ref (am 0 0 0)), (3, .int (zI (kk : Int)))] [] := by
    intro n_kk
    induction n_kk with
    | zero => intro kk h1 h2; exact absurd h2 (by omega)
    | succ n_kk ih_kk =>
      intro kk hle_kk hfu_kk hi0_kk hi1_kk hi2_kk hi3_kk hi4_kk
      obtain ⟨am, hzam⟩ : ∃ z : Ad, z = hi0_kk := ⟨_, rfl⟩
      subst hzam
      obtain ⟨L, hzL⟩ : ∃ z : List Id3, z = hi1_kk := ⟨_, rfl⟩
      subst hzL
      obtain ⟨a, hza⟩ : ∃ z : St, z = hi2_kk := ⟨_, rfl⟩
      subst hza
      have hS := hi3_kk
      have hJ := hi4_kk
      have hI := hJ.1
      obtain ⟨hL, hB, hPm, hCm, -, -⟩ := id hS
      obtain ⟨⟨hn0, hn6, hc0, hc3⟩, hPI, hCI, hFr⟩ := id hI
      refine g_iload_n E dL_law_22 rfl ?_
      refine g_bipush E dL_law_23 (by decide) ?_
      refine g_icmp_ge (tgt := 899) E dL_law_25 (by decide) (by omega) (by omega) (fun c_25 => ?_) (fun c_25 => ?_)
      · obtain rfl : kk = 12 := (by omega)
        refine g_loc (lv' := [(0, .ref b9), (1, .ref (ad 0 8 0)), (2, .ref (am 0 0 0))]) ⟨rfl, rfl, rfl, trivial⟩ ?_
        exact kend am L a _ _ hS (hJ.mono (by omega)) (by omega) (by omega)
        -- stop
      · refine g_aload_n E dL_law_28 rfl ?_
        refine g_iload_n E dL_law_29 rfl ?_
        refine g_bTi (n := 2) (As := [_, _]) (rest := _) E Z X hX hbl hbA (c_L_cell l D cA A b9 L9 xs hbA hL9 _ (kk : Int) (by omega)) gL_law_L_cell rfl ⟨rfl, rfl⟩ (by decide +kernel) ⟨Nat.le_of_ble_eq_true rfl, Nat.le_of_ble_eq_true rfl⟩ rfl rfl (Nat.le_of_ble_eq_true rfl) ⟨by show (_ : Nat) ≤ 600104; omega, by show (_ : Nat) ≤ 7301314; omega⟩ dL_law_30 ?_
        rintro r_30 ws_30 rfl
        refine g_sipush E dL_law_33 (by decide) ?_
        refine g_iload_n E dL_law_36 rfl ?_
        refine g_imul E dL_law_37 ?_
        refine g_iaddR E dL_law_38 ?_
        refine g_gen (fun x9 => ?_)
        refine g_istore E dL_law_39 (by decide) ?_
        refine g_iconst E dL_law_41 ?_
        refine g_top (v' := .int (zI ((5 : Nat) : Int))) (rfl) ?_
        refine g_newa E hA (by decide +kernel) (by omega) (by show (_ : Nat) ≤ 600104; omega) (by show (_ : Nat) ≤ 7301314; omega) dL_law_42 (fun qa => ?_)
        refine g_asc2 ?_
        refine g_st (ws' := wS cA am L a ++ (wX cA ad (upY σ 0 a) ++ [(qa, .inl (cA 0, 5, .inl (fun _ => 0)))])) rfl rfl rfl ?_
        refine g_astore E dL_law_44 (by decide) ?_
        refine g_iconst E dL_law_46 ?_
        refine g_istore E dL_law_47 (by decide) ?_
        refine g_wid (k := 9000 + 140 * kk + 1) (n := 140000 + 2100 * kk + 5) (by omega) (by omega) ?_
        have key_cc : ∀ (n_cc cc : Nat), (cc : Int) ≤ (5 : Int) → (5 : Int) + 1 ≤ (cc : Int) + n_cc → GW p l e room_1 s m #[Value.ref b9] below meth c Q D A 28 (wS cA am L a ++ (wX cA ad (upY σ 0 a) ++ [(qa, .inl (cA 0, 5, .inl (alG a cc)))])) (9000 + 140 * kk + 1) (140000 + 2100 * kk + 5) 49 [(0, .ref b9), (1, .ref (ad 0 8 0)), (2, .ref (am 0 0 0)), (3, .int (zI (kk : Int))), (4, .int x9), (5, .ref qa), (6, .int (zI (cc : Int)))] [] := by
          intro n_cc
          induction n_cc with
          | zero => intro cc h1 h2; exact absurd h2 (by omega)
          | succ n_cc ih_cc =>
            intro cc hle_cc hfu_cc
            refine g_iload E dL_law_49 rfl ?_
            refine g_iconst E dL_law_51 ?_
            refine g_icmp_ge (tgt := 92) E dL_law_52 (by decide) (by omega) (by omega) (fun c_52 => ?_) (fun c_52 => ?_)
            · obtain rfl : cc = 5 := (by omega)
              refine g_aload_n E dL_law_92 rfl ?_
              refine g_iconst E dL_law_93 ?_
              refine g_mVi (T := TX4) (ci := 4) (n := 1) (As := [_]) (rest := _) E (n_X4_count l D cA _ ad σ a hI 0 ⟨by omega, by omega⟩ ⟨by omega, by omega⟩) gL_law_X4_count rfl ⟨rfl, rfl⟩ (by decide +kernel) ⟨Nat.le_of_ble_eq_true rfl, Nat.le_of_ble_eq_true rfl⟩ (ob_8 mem_8) rfl rfl rfl (Nat.le_of_ble_eq_true rfl) ⟨by show (_ : Nat) ≤ 600104; omega, by show (_ : Nat) ≤ 7301314; omega⟩ dL_law_94 ?_
              rintro r_94 ws_94 ⟨rfl, rfl⟩
              refine g_top (v' := .int (zI (dy a))) (congrArg Value.int (cnt_0 a)) ?_
              refine g_istore E dL_law_97 (by decide) ?_
              refine g_aload_n E dL_law_99 rfl ?_
              refine gs_Sim_store E hB.1 hin5 (by decide +kernel) dL_law_100 ?_
              refine g_clone E hA hCl (by decide +kernel) (by decide +kernel) (by decide +kernel) (by decide +kernel) (by decide +kernel) (at_l (wS_at hB.2.2.1)) (Nat.le_of_ble_eq_true rfl) (Nat.le_of_ble_eq_true rfl) (by show (_ : Nat) ≤ 600104; omega) (by show (_ : Nat) ≤ 7301314; omega) dL_law_103 (fun qc => ?_)
              refine g_asc2 ?_
              refine g_st (ws' := wS cA am L a ++ (wX cA ad (upY σ 0 a) ++ [(qa, .inl (cA 0, 5, .inl (alG a 5))), (qc, .inl (cA 0, 5, .inl (a 5 0)))])) rfl rfl rfl ?_
              refine g_castI E (by decide +kernel) (at_r (at_r (at_i 1 rfl))) dL_law_106 ?_
              refine g_astore E dL_law_109 (by decide) ?_
              refine g_iload E dL_law_111 rfl ?_
              refine g_bipush E dL_law_113 (by decide) ?_
              refine g_ishr E dL_law_115 ?_
              refine g_bipush E dL_law_116 (by decide) ?_
              refine g_callTi (n := 2) (As := [_, _]) (rest := _) E (c_L_below l D cA A _ (x9 >>> (zI 9 &&& 31)) 20 (by omega)) gL_law_L_below rfl ⟨rfl, rfl⟩ (by decide +kernel) ⟨Nat.le_of_ble_eq_true rfl, Nat.le_of_ble_eq_true rfl⟩ rfl rfl (Nat.le_of_ble_eq_true rfl) ⟨by show (_ : Nat) ≤ 600104; omega, by show (_ : Nat) ≤ 7301314; omega⟩ dL_law_118 ?_
              rintro r_118 ws_118 ⟨rfl, rfl⟩
              refine g_istore E dL_law_121 (by decide) ?_
              have hsb := beV_b (x9 >>> (zI 9 &&& 31)) (show (1 : Int) ≤ 20 by omega)
              obtain ⟨srt, hsr⟩ : ∃ z : Int, beV (x9 >>> (zI 9 &&& 31)) 20 = z := ⟨_, rfl⟩
              rw [hsr] at hsb ⊢
              obtain ⟨fa, hfa⟩ : ∃ z : Nat → Int32, alG a 5 = z := ⟨_, rfl⟩
              have hfav : ∀ c : Nat, c < 5 → fa c = zI (tot a c) := fun c hc => by rw [← hfa]; exact alG_v hc
              rw [hfa]
              obtain ⟨fc, hfc⟩ : ∃ z : Nat → Int32, a 5 0 = z := ⟨_, rfl⟩
              have hfcv : ∀ c : Nat, fc c = a 5 0 c := fun c => by rw [← hfc]
              rw [hfc]
              have hdr : 0 ≤ dy a ∧ dy a ≤ 3 * (62 + (kk : Int)) := hJ.2.2.2.2.2
              obtain ⟨d0, hd0⟩ : ∃ z : Int, dy a = z := ⟨_, rfl⟩
              rw [hd0] at hdr ⊢
              refine g_aload_n E dL_law_123 rfl ?_
              refine g_aload_n E dL_law_124 rfl ?_
              refine g_iload E dL_law_125 rfl ?_
              refine g_qTi (n := 3) (As := [_, _, _]) (rest := _) E Z X (c_L_act l hl0 D cA A am ad σ L [(qa, .inl (cA 0, 5, .inl (fa))), (qc, .inl (cA 0, 5, .inl fc))] a (62 + (kk : Int)) x9 hS hJ (by omega)) gL_law_L_act rfl ⟨rfl, rfl⟩ (by decide +kernel) ⟨Nat.le_of_ble_eq_true rfl, Nat.le_of_ble_eq_true rfl⟩ rfl rfl (Nat.le_of_ble_eq_true rfl) ⟨by show (_ : Nat) ≤ 600104; omega, by show (_ : Nat) ≤ 7301314; omega⟩ dL_law_127 ?_
              rintro r_127 ws_127 ⟨rfl, am, L, a, h00, hS, hAJ, rfl⟩
              rw [hsr] at hAJ
              have hnow : ∀ c : Nat, c < 5 → zI (tot a c) = fa c + (if srt = 2 ∨ srt = 3 then a 5 0 c - fc c else zI 0) := fun c hc => now_g (hfav c hc) (hfcv c) (hAJ.2.1 c hc)
              have hday : d0 ≤ dy a := by rw [← hd0]; exact hAJ.2.2
              have hJ := hAJ.1
              have hda : dy a ≤ 3 * (62 + (kk : Int) + 1) := hJ.2.2.2.2.2.2
              have hI := hJ.1
              obtain ⟨hL, hB, hPm, hCm, -, -⟩ := id hS
              refine g_if_ne (tgt := 135) E dL_law_130 (by decide) (by omega) (fun c_130 => ?_) (fun c_130 => ?_)
              · refine g_iconst E dL_law_135 ?_
                refine g_istore E dL_law_136 (by decide) ?_
                refine g_wid (k := 9000 + 140 * kk + 122) (n := 140000 + 2100 * kk + 2010) (by omega) (by omega) ?_
                have key_cf : ∀ (n_cf cf : Nat), (cf : Int) ≤ (5 : Int) → (5 : Int) + 1 ≤ (cf : Int) + n_cf → GW p l e room_1 s m #[Value.ref b9] below meth c Q D A 28 (wS cA am L a ++ (wX cA ad (upY σ 0 a) ++ [(qa, .inl (cA 0, 5, .inl (fa))), (qc, .inl (cA 0, 5, .inl fc))])) (9000 + 140 * kk + 122) (140000 + 2100 * kk + 2010) 138 [(0, .ref b9), (1, .ref (ad 0 8 0)), (2, .ref (am 0 0 0)), (3, .int (zI (kk : Int))), (5, .ref qa), (6, .int (zI d0)), (7, .ref qc), (8, .int (zI srt)), (9, .int (zI (cf : Int)))] [] := by
                  intro n_cf
                  induction n_cf with
                  | zero => intro cf h1 h2; exact absurd h2 (by omega)
                  | succ n_cf ih_cf =>
                    intro cf hle_cf hfu_cf
                    refine g_iload E dL_law_138 rfl ?_
                    refine g_iconst E dL_law_140 ?_
                    refine g_icmp_ge (tgt := 227) E dL_law_141 (by decide) (by omega) (by omega) (fun c_141 => ?_) (fun c_141 => ?_)
                    · obtain rfl : cf = 5 := (by omega)
                      refine g_aload_n E dL_law_227 rfl ?_
                      refine g_iconst E dL_law_228 ?_
                      refine g_mVi (T := TX4) (ci := 4) (n := 1) (As := [_]) (rest := _) E (n_X4_count l D cA _ ad σ a hI 0 ⟨by omega, by omega⟩ ⟨by omega, by omega⟩) gL_law_X4_count rfl ⟨rfl, rfl⟩ (by decide +kernel) ⟨Nat.le_of_ble_eq_true rfl, Nat.le_of_ble_eq_true rfl⟩ (ob_8 mem_8) rfl rfl rfl (Nat.le_of_ble_eq_true rfl) ⟨by show (_ : Nat) ≤ 600104; omega, by show (_ : Nat) ≤ 7301314; omega⟩ dL_law_229 ?_
                      rintro r_229 ws_229 ⟨rfl, rfl⟩
                      refine g_top (v' := .int (zI (dy a))) (congrArg Value.int (cnt_0 a)) ?_
                      refine g_iload E dL_law_232 rfl ?_
                      refine g_icmp_ge (tgt := 239) E dL_law_234 (by decide) (by omega) (by omega) (fun c_234 => ?_) (fun c_234 => ?_)
                      · refine g_loc (lv' := [(0, .ref b9), (1, .ref (ad 0 8 0)), (2, .ref (am 0 0 0)), (3, .int (zI (kk : Int)))]) ⟨rfl, rfl, rfl, rfl, trivial⟩ ?_
                        refine law_look hl0 E Z hS hJ ⟨by omega, by omega⟩ (fun C2 S2 hC2 hS2 => ?_)
                        refine g_iinc E dL_law_893 rfl (by decide) ?_
                        refine g_goto (tgt := 22) E dL_law_896 (by decide) ?_
                        refine g_wid (k := 9000 + 140 * (kk + 1)) (n := 140000 + 2100 * (kk + 1)) (by omega) (by omega) ?_
                        refine g_loc (lv' := [(0, .ref b9), (1, .ref (ad 0 8 0)), (2, .ref (am 0 0 0)), (3, .int (zI ((kk + 1) : Int)))]) ⟨rfl, rfl, rfl, rfl, trivial⟩ ?_
                        exact ih_kk (kk + 1) (by omega) (by omega) (am) (L) (a) (hS) (hJ.mono (by omega))
                      · exact absurd (by omega) c_234
                    · refine g_iconst E dL_law_144 ?_
                      refine g_istore E dL_law_145 (by decide) ?_
                      refine g_iconst E dL_law_147 ?_
                      refine g_istore E dL_law_148 (by decide) ?_
                      refine g_wid (k := 9000 + 140 * kk + 122) (n := 140000 + 2100 * kk + 2010) (by omega) (by omega) ?_
                      have key_wf : ∀ (n_wf wf : Nat), (wf : Int) ≤ (5 : Int) → (5 : Int) + 1 ≤ (wf : Int) + n_wf → GW p l e room_1 s m #[Value.ref b9] below meth c Q D A 28 (wS cA am L a ++ (wX cA ad (upY σ 0 a) ++ [(qa, .inl (cA 0, 5, .inl (fa))), (qc, .inl (cA 0, 5, .inl fc))])) (9000 + 140 * kk + 122) (140000 + 2100 * kk + 2010) 150 [(0, .ref b9), (1, .ref (ad 0 8 0)), (2, .ref (am 0 0 0)), (3, .int (zI (kk : Int))), (5, .ref qa), (6, .int (zI d0)), (7, .ref qc), (8, .int (zI srt)), (9, .int (zI (cf : Int))), (10, .int (zI (paT a cf wf))), (11, .int (zI (wf : Int)))] [] := by
                        intro n_wf
                        induction n_wf with
                        | zero => intro wf h1 h2; exact absurd h2 (by omega)
                        | succ n_wf ih_wf =>
                          intro wf hle_wf hfu_wf
                          refine g_iload E dL_law_150 rfl ?_
                          refine g_iconst E dL_law_152 ?_
                          refine g_icmp_ge (tgt := 175) E dL_law_153 (by decide) (by omega) (by omega) (fun c_153 => ?_) (fun c_153 => ?_)
                          · obtain rfl : wf = 5 := (by omega)
                            refine g_iload E dL_law_175 rfl ?_
                            refine g_iconst E dL_law_177 ?_
                            refine g_icmp_eq (tgt := 187) E dL_law_178 (by decide) (by omega) (by omega) (fun c_178 => ?_) (fun c_178 => ?_)
                            · refine g_aload_n E dL_law_187 rfl ?_
                              refine gs_Sim_store E hB.1 hin5 (by decide +kernel) dL_law_188 ?_
                              refine g_iload E dL_law_191 rfl ?_
                              refine ls_5 E hB.2.2.1 (by omega) rfl dL_law_193 ?_
                              refine g_aload E dL_law_194 rfl ?_
                              refine g_iload E dL_law_196 rfl ?_
                              refine g_iald E 0 rfl (at_r (at_r (at_i 1 rfl))) (by omega) (by omega) rfl dL_law_198 ?_
                              refine g_isubR E dL_law_199 ?_
                              refine g_goto (tgt := 204) E dL_law_200 (by decide) ?_
                              refine g_istore E dL_law_204 (by decide) ?_
                              refine g_iload E dL_law_206 rfl ?_
                              refine g_aload E dL_law_208 rfl ?_
                              refine g_iload E dL_law_210 rfl ?_
                              refine g_iald E 0 rfl (at_r (at_r (at_i 0 rfl))) (by omega) (by omega) rfl dL_law_212 ?_
                              refine g_iload E dL_law_213 rfl ?_
                              refine g_iaddR E dL_law_215 ?_
                              refine g_icmp_eqR (tgt := 221) E dL_law_216 (by decide) (fun c_216 => ?_) (fun c_216 => ?_)
                              · refine g_iinc E dL_law_221 rfl (by decide) ?_
                                refine g_goto (tgt := 138) E dL_law_224 (by decide) ?_
                                refine g_wid (k := 9000 + 140 * kk + 122) (n := 140000 + 2100 * kk + 2010) (by omega) (by omega) ?_
                                refine g_st (ws' := wS cA am L a ++ (wX cA ad (upY σ 0 a) ++ [(qa, .inl (cA 0, 5, .inl (fa))), (qc, .inl (cA 0, 5, .inl fc))])) (rfl) rfl rfl ?_
                                refine g_loc (lv' := [(0, .ref b9), (1, .ref (ad 0 8 0)), (2, .ref (am 0 0 0)), (3, .int (zI (kk : Int))), (5, .ref qa), (6, .int (zI d0)), (7, .ref qc), (8, .int (zI srt)), (9, .int (zI ((cf + 1) : Int)))]) ⟨rfl, rfl, rfl, rfl, rfl, rfl, rfl, rfl, rfl, trivial⟩ ?_
                                exact ih_cf (cf + 1) (by omega) (by omega)
                              · exact absurd (by have hn := hnow cf (by omega); rw [pa_tot hI cf]; first | (rw [if_pos (by omega)] at hn; exact hn) | (rw [if_neg (by omega)] at hn; exact hn)) c_216
                            · refine g_iload E dL_law_181 rfl ?_
                              refine g_iconst E dL_law_183 ?_
                              refine g_icmp_ne (tgt := 203) E dL_law_184 (by decide) (by omega) (by omega) (fun c_184 => ?_) (fun c_184 => ?_)
                              · refine g_iconst E dL_law_203 ?_
                                refine g_istore E dL_law_204 (by decide) ?_
                                refine g_iload E dL_law_206 rfl ?_
                                refine g_aload E dL_law_208 rfl ?_
                                refine g_iload E dL_law_210 rfl ?_
                                refine g_iald E 0 rfl (at_r (at_r (at_i 0 rfl))) (by omega) (by omega) rfl dL_law_212 ?_
                                refine g_iload E dL_law_213 rfl ?_
                                refine g_iaddR E dL_law_215 ?_
                                refine g_icmp_eqR (tgt := 221) E dL_law_216 (by decide) (fun c_216 => ?_) (fun c_216 => ?_)
                                · refine g_iinc E dL_law_221 rfl (by decide) ?_
                                  refine g_goto (tgt := 138) E dL_law_224 (by decide) ?_
                                  refine g_wid (k := 9000 + 140 * kk + 122) (n := 140000 + 2100 * kk + 2010) (by omega) (by omega) ?_
                                  refine g_st (ws' := wS cA am L a ++ (wX cA ad (upY σ 0 a) ++ [(qa, .inl (cA 0, 5, .inl (fa))), (qc, .inl (cA 0, 5, .inl fc))])) (rfl) rfl rfl ?_
                                  refine g_loc (lv' := [(0, .ref b9), (1, .ref (ad 0 8 0)), (2, .ref (am 0 0 0)), (3, .int (zI (kk : Int))), (5, .ref qa), (6, .int (zI d0)), (7, .ref qc), (8, .int (zI srt)), (9, .int (zI ((cf + 1) : Int)))]) ⟨rfl, rfl, rfl, rfl, rfl, rfl, rfl, rfl, rfl, trivial⟩ ?_
                                  exact ih_cf (cf + 1) (by omega) (by omega)
                                · exact absurd (by have hn := hnow cf (by omega); rw [pa_tot hI cf]; first | (rw [if_pos (by omega)] at hn; exact hn) | (rw [if_neg (by omega)] at hn; exact hn)) c_216
                              · refine g_aload_n E dL_law_187 rfl ?_
                                refine gs_Sim_store E hB.1 hin5 (by decide +kernel) dL_law_188 ?_
                                refine g_iload E dL_law_191 rfl ?_
                                refine ls_5 E hB.2.2.1 (by omega) rfl dL_law_193 ?_
                                refine g_aload E dL_law_194 rfl ?_
                                refine g_iload E dL_law_196 rfl ?_
                                refine g_iald E 0 rfl (at_r (at_r (at_i 1 rfl))) (by omega) (by omega) rfl dL_law_198 ?_
                                refine g_isubR E dL_law_199 ?_
                                refine g_goto (tgt := 204) E dL_law_200 (by decide) ?_
                                refine g_istore E dL_law_204 (by decide) ?_
                                refine g_iload E dL_law_206 rfl ?_
                                refine g_aload E dL_law_208 rfl ?_
                                refine g_iload E dL_law_210 rfl ?_
                                refine g_iald E 0 rfl (at_r (at_r (at_i 0 rfl))) (by omega) (by omega) rfl dL_law_212 ?_
                                refine g_iload E dL_law_213 rfl ?_
                                refine g_iaddR E dL_law_215 ?_
                                refine g_icmp_eqR (tgt := 221) E dL_law_216 (by decide) (fun c_216 => ?_) (fun c_216 => ?_)
                                · refine g_iinc E dL_law_221 rfl (by decide) ?_
                                  refine g_goto (tgt := 138) E dL_law_224 (by decide) ?_
                                  refine g_wid (k := 9000 + 140 * kk + 122) (n := 140000 + 2100 * kk + 2010) (by omega) (by omega) ?_
                                  refine g_st (ws' := wS cA am L a ++ (wX cA ad (upY σ 0 a) ++ [(qa, .inl (cA 0, 5, .inl (fa))), (qc, .inl (cA 0, 5, .inl fc))])) (rfl) rfl rfl ?_
                                  refine g_loc (lv' := [(0, .ref b9), (1, .ref (ad 0 8 0)), (2, .ref (am 0 0 0)), (3, .int (zI (kk : Int))), (5, .ref qa), (6, .int (zI d0)), (7, .ref qc), (8, .int (zI srt)), (9, .int (zI ((cf + 1) : Int)))]) ⟨rfl, rfl, rfl, rfl, rfl, rfl, rfl, rfl, rfl, trivial⟩ ?_
                                  exact ih_cf (cf + 1) (by omega) (by omega)
                                · exact absurd (by have hn := hnow cf (by omega); rw [pa_tot hI cf]; first | (rw [if_pos (by omega)] at hn; exact hn) | (rw [if_neg (by omega)] at hn; exact hn)) c_216
                          · refine g_iload E dL_law_156 rfl ?_
                            refine g_aload_n E dL_law_158 rfl ?_
                            refine g_iload E dL_law_159 rfl ?_
                            refine g_iload E dL_law_161 rfl ?_
                            refine g_mVi (T := TX4) (ci := 4) (n := 2) (As := [_, _]) (rest := _) E (n_X4_told l D cA _ ad σ a hI (cf : Int) (wf : Int) ⟨by omega, by omega⟩ ⟨by omega, by omega⟩ ⟨⟨by omega, by omega⟩, by omega, by omega⟩) gL_law_X4_told rfl ⟨rfl, rfl⟩ (by decide +kernel) ⟨Nat.le_of_ble_eq_true rfl, Nat.le_of_ble_eq_true rfl⟩ (ob_8 mem_8) rfl rfl rfl (Nat.le_of_ble_eq_true rfl) ⟨by show (_ : Nat) ≤ 600104; omega, by show (_ : Nat) ≤ 7301314; omega⟩ dL_law_163 ?_
                            rintro r_163 ws_163 ⟨rfl, rfl⟩
                            refine g_iaddR E dL_law_166 ?_
                            refine g_istore E dL_law_167 (by decide) ?_
                            refine g_iinc E dL_law_169 rfl (by decide) ?_
                            refine g_goto (tgt := 150) E dL_law_172 (by decide) ?_
                            refine g_wid (k := 9000 + 140 * kk + 122) (n := 140000 + 2100 * kk + 2010) (by omega) (by omega) ?_
                            refine g_st (ws' := wS cA am L a ++ (wX cA ad (upY σ 0 a) ++ [(qa, .inl (cA 0, 5, .inl (fa))), (qc, .inl (cA 0, 5, .inl fc))])) (rfl) rfl rfl ?_
                            refine g_loc (lv' := [(0, .ref b9), (1, .ref (ad 0 8 0)), (2, .ref (am 0 0 0)), (3, .int (zI (kk : Int))), (5, .ref qa), (6, .int (zI d0)), (7, .ref qc), (8, .int (zI srt)), (9, .int (zI (cf : Int))), (10, .int (zI (paT a cf (wf + 1)))), (11, .int (zI ((wf + 1) : Int)))]) ⟨rfl, rfl, rfl, rfl, rfl, rfl, rfl, rfl, rfl, congrArg (fun q : Int32 => some (Value.int q)) (pa_s a cf wf), rfl, trivial⟩ ?_
                            exact ih_wf (wf + 1) (by omega) (by omega)
                      refine g_st (ws' := wS cA am L a ++ (wX cA ad (upY σ 0 a) ++ [(qa, .inl (cA 0, 5, .inl (fa))), (qc, .inl (cA 0, 5, .inl fc))])) (rfl) rfl rfl ?_
                      refine g_loc (lv' := [(0, .ref b9), (1, .ref (ad 0 8 0)), (2, .ref (am 0 0 0)), (3, .int (zI (kk : Int))), (5, .ref qa), (6, .int (zI d0)), (7, .ref qc), (8, .int (zI srt)), (9, .int (zI (cf : Int))), (10, .int (zI (paT a cf 0))), (11, .int (zI (0 : Int)))]) ⟨rfl, rfl, rfl, rfl, rfl, rfl, rfl, rfl, rfl, rfl, rfl, trivial⟩ ?_
                      exact key_wf (((5 : Int)) + 1).toNat.succ 0 (by omega) (by omega)
                refine g_st (ws' := wS cA am L a ++ (wX cA ad (upY σ 0 a) ++ [(qa, .inl (cA 0, 5, .inl (fa))), (qc, .inl (cA 0, 5, .inl fc))])) (rfl) rfl rfl ?_
                refine g_loc (lv' := [(0, .ref b9), (1, .ref (ad 0 8 0)), (2, .ref (am 0 0 0)), (3, .int (zI (kk : Int))), (5, .ref qa), (6, .int (zI d0)), (7, .ref qc), (8, .int (zI srt)), (9, .int (zI (0 : Int)))]) ⟨rfl, rfl, by rw [h00]; rfl, rfl, rfl, rfl, rfl, rfl, rfl, trivial⟩ ?_
                exact key_cf (((5 : Int)) + 1).toNat.succ 0 (by omega) (by omega)
              · exact absurd c_130 (by decide)
            · refine g_iconst E dL_law_55 ?_
              refine g_istore E dL_law_56 (by decide) ?_
              refine g_wid (k := 9000 + 140 * kk + 1) (n := 140000 + 2100 * kk + 5) (by omega) (by omega) ?_
              have key_ww : ∀ (n_ww ww : Nat), (ww : Int) ≤ (5 : Int) → (5 : Int) + 1 ≤ (ww : Int) + n_ww → GW p l e room_1 s m #[Value.ref b9] below meth c Q D A 28 (wS cA am L a ++ (wX cA ad (upY σ 0 a) ++ [(qa, .inl (cA 0, 5, .inl (upd (alG a cc) cc (zI (paT a cc ww)))))])) (9000 + 140 * kk + 1) (140000 + 2100 * kk + 5) 58 [(0, .ref b9), (1, .ref (ad 0 8 0)), (2, .ref (am 0 0 0)), (3, .int (zI (kk : Int))), (4, .int x9), (5, .ref qa), (6, .int (zI (cc : Int))), (7, .int (zI (ww : Int)))] [] := by
                intro n_ww
                induction n_ww with
                | zero => intro ww h1 h2; exact absurd h2 (by omega)
                | succ n_ww ih_ww =>
                  intro ww hle_ww hfu_ww
                  refine g_iload E dL_law_58 rfl ?_
                  refine g_iconst E dL_law_60 ?_
                  refine g_icmp_ge (tgt := 86) E dL_law_61 (by decide) (by omega) (by omega) (fun c_61 => ?_) (fun c_61 => ?_)
                  · obtain rfl : ww = 5 := (by omega)
                    refine g_iinc E dL_law_86 rfl (by decide) ?_
                    refine g_goto (tgt := 49) E dL_law_89 (by decide) ?_
                    refine g_wid (k := 9000 + 140 * kk + 1) (n := 140000 + 2100 * kk + 5) (by omega) (by omega) ?_
                    refine g_st (ws' := wS cA am L a ++ (wX cA ad (upY σ 0 a) ++ [(qa, .inl (cA 0, 5, .inl (alG a (cc + 1))))])) (congrArg (fun f : Nat → Int32 => wS cA am L a ++ (wX cA ad (upY σ 0 a) ++ [(qa, .inl (cA 0, 5, .inl (f)))])) (alG_e hI cc)) rfl rfl ?_
                    refine g_loc (lv' := [(0, .ref b9), (1, .ref (ad 0 8 0)), (2, .ref (am 0 0 0)), (3, .int (zI (kk : Int))), (4, .int x9), (5, .ref qa), (6, .int (zI ((cc + 1) : Int)))]) ⟨rfl, rfl, rfl, rfl, rfl, rfl, rfl, trivial⟩ ?_
                    exact ih_cc (cc + 1) (by omega) (by omega)
                  · refine g_aload E dL_law_64 rfl ?_
                    refine g_iload E dL_law_66 rfl ?_
                    refine g_dup2 E dL_law_68 rfl rfl ?_
                    refine g_iald E 0 rfl (at_r (at_r (at_i 0 rfl))) (by omega) (by omega) rfl dL_law_69 ?_
                    refine g_top (v' := .int (zI (paT a cc ww))) (congrArg Value.int (upd_at (alG a cc) cc (zI (paT a cc ww)))) ?_
                    refine g_aload_n E dL_law_70 rfl ?_
                    refine g_iload E dL_law_71 rfl ?_
                    refine g_iload E dL_law_73 rfl ?_
                    refine g_mVi (T := TX4) (ci := 4) (n := 2) (As := [_, _]) (rest := _) E (n_X4_told l D cA _ ad σ a hI (cc : Int) (ww : Int) ⟨by omega, by omega⟩ ⟨by omega, by omega⟩ ⟨⟨by omega, by omega⟩, by omega, by omega⟩) gL_law_X4_told rfl ⟨rfl, rfl⟩ (by decide +kernel) ⟨Nat.le_of_ble_eq_true rfl, Nat.le_of_ble_eq_true rfl⟩ (ob_8 mem_8) rfl rfl rfl (Nat.le_of_ble_eq_true rfl) ⟨by show (_ : Nat) ≤ 600104; omega, by show (_ : Nat) ≤ 7301314; omega⟩ dL_law_75 ?_
                    rintro r_75 ws_75 ⟨rfl, rfl⟩
                    refine g_iaddR E dL_law_78 ?_
                    refine g_iast E 0 rfl (by omega) (by omega) (se_r (se_r (se_i 0 rfl rfl))) dL_law_79 ?_
                    refine g_iinc E dL_law_80 rfl (by decide) ?_
                    refine g_goto (tgt := 58) E dL_law_83 (by decide) ?_
                    refine g_wid (k := 9000 + 140 * kk + 1) (n := 140000 + 2100 * kk + 5) (by omega) (by omega) ?_
                    refine g_st (ws' := wS cA am L a ++ (wX cA ad (upY σ 0 a) ++ [(qa, .inl (cA 0, 5, .inl (upd (alG a cc) cc (zI (paT a cc (ww + 1))))))])) (congrArg (fun f : Nat → Int32 => wS cA am L a ++ (wX cA ad (upY σ 0 a) ++ [(qa, .inl (cA 0, 5, .inl (f)))])) (alG_s a cc ww)) rfl rfl ?_
                    refine g_loc (lv' := [(0, .ref b9), (1, .ref (ad 0 8 0)), (2, .ref (am 0 0 0)), (3, .int (zI (kk : Int))), (4, .int x9), (5, .ref qa), (6, .int (zI (cc : Int))), (7, .int (zI ((ww + 1) : Int)))]) ⟨rfl, rfl, rfl, rfl, rfl, rfl, rfl, rfl, trivial⟩ ?_
                    exact ih_ww (ww + 1) (by omega) (by omega)
              refine g_st (ws' := wS cA am L a ++ (wX cA ad (upY σ 0 a) ++ [(qa, .inl (cA 0, 5, .inl (upd (alG a cc) cc (zI (paT a cc 0)))))])) (congrArg (fun f : Nat → Int32 => wS cA am L a ++ (wX cA ad (upY σ 0 a) ++ [(qa, .inl (cA 0, 5, .inl (f)))])) (alG_0 a cc)) rfl rfl ?_
              refine g_loc (lv' := [(0, .ref b9), (1, .ref (ad 0 8 0)), (2, .ref (am 0 0 0)), (3, .int (zI (kk : Int))), (4, .int x9), (5, .ref qa), (6, .int (zI (cc : Int))), (7, .int (zI (0 : Int)))]) ⟨rfl, rfl, rfl, rfl, rfl, rfl, rfl, rfl, trivial⟩ ?_
              exact key_ww (((5 : Int)) + 1).toNat.succ 0 (by omega) (by omega)
        refine g_st (ws' := wS cA am L a ++ (wX cA ad (upY σ 0 a) ++ [(qa, .inl (cA 0, 5, .inl (alG a 0)))])) (congrArg (fun f : Nat → Int32 => wS cA am L a ++ (wX cA ad (upY σ 0 a) ++ [(qa, .inl (cA 0, 5, .inl (f)))])) (alG_00 a)) rfl rfl ?_
        refine g_loc (lv' := [(0, .ref b9), (1, .ref (ad 0 8 0)), (2, .ref (am 0 0 0)), (3, .int (zI (kk : Int))), (4, .int x9), (5, .ref qa), (6, .int (zI (0 : Int)))]) ⟨rfl, rfl, rfl, rfl, rfl, rfl, rfl, trivial⟩ ?_
        exact key_cc (((5 : Int)) + 1).toNat.succ 0 (by omega) (by omega)
  refine g_loc (lv' := [(0, .ref b9), (1, .ref (ad 0 8 0)), (2, .ref (am 0 0 0)), (3, .int (zI (0 : Int)))]) ⟨rfl, rfl, rfl, rfl, trivial⟩ ?_
  exact key_kk (((12 : Int)) + 1).toNat.succ 0 (by omega) (by omega) (am) (L) (a) (hS) (hJ)
