/-! ===== YARD ===== -/
/-- the contract of a method of a class that is not plainly named, out of the walk of its body -/
theorem g_metF {l : Launch} {D : va_G} {tys : gT} {A : Nat → Prop} {ws0 : va_W} {As : List Value} {y : MethodName} {wsc wsc' : List Cond} {rm : Room} {Qc : Array Value → State → Outcome → State → Prop} {mc ms : Nat} {cc : ByteArray} {maxL : Nat} {ret : Option FieldType} {own : String} (ho : y.cls = own) (hy : plainFor y = true) (hw : wsc = Cond.code y cc maxL ret :: wsc') (hlen : (lg_sl As).length ≤ maxL)
    (body : ∀ (p : Program) (e : Env) (s : State) (m : MethodId) (below : List Frame) (meth : Method) (c : Code), GE p s m As.toArray meth c D tys cc maxL own wsc ret → GW p l e (headSpec wsc rm).room s m As.toArray below meth c (MQ below Qc As.toArray s mc ms A) D A maxL ws0 0 0 0 (lv_args 0 As) []) : Met l y wsc rm (PcG D tys A ws0 As) Qc mc ms A := by
  refine MetFree.of_bodySF (code := cc) (maxLocals := maxL) (ret := ret) hy ?_ ?_
  · intro args s m h hn
    obtain ⟨meth, c, h1, h2, h3, h4, h5, h6, -, -⟩ := Cond.code_spec hn (atoms_spec (ws := wsc) h _ (by rw [hw]; exact List.mem_cons_self))
    exact ⟨meth, c, h1, h2, h3, h4, h5, h6⟩
  · intro p e s m args below meth c s₁ B hml hv _
    have hh0 : s₁.heap = s.heap := by rw [B.state]; rfl
    obtain ⟨rfl, hP, hK, hD⟩ := hv
    subst ho
    have E : GE p s m As.toArray meth c D tys cc maxL y.cls wsc ret := ⟨B.exec, B.bytes, hml, findClass_of_methodNamed B.named, atoms_spec (ws := wsc) B.pre, hK, B.returns, B.notSynchronized⟩
    have K := body p e s m below meth c E s.heap [] _ hP hD va_S.rf (lv_entry As hlen)
    rw [← lg_entry_eq] at K
    obtain ⟨t, a1, o, b1, b2, b3⟩ := K s₁ hh0 (Stand.of_body B)
    exact ⟨t, o, a1, b1, b2, ⟨b3.1, b3.2⟩⟩
theorem xor16_0 : ∀ x : Nat, x < 16 → ∀ y : Nat, y < 16 → 0 ≤ zI x ^^^ zI y := by decide +kernel
theorem xor16 {x y : Int} (hx : 0 ≤ x ∧ x < 16) (hy : 1 ≤ y ∧ y < 16) : 0 ≤ zI x ^^^ zI y := by
  obtain ⟨i, rfl⟩ := Int.eq_ofNat_of_zero_le hx.1
  obtain ⟨j, rfl⟩ := Int.eq_ofNat_of_zero_le (show 0 ≤ y by omega)
  exact xor16_0 i (by omega) j (by omega)
set_option maxHeartbeats 800000 in
set_option maxRecDepth 100000 in
/-- Tally.of(c) -/
theorem c_X6_of (l : Launch) (D : va_G) (cA : Nat → ClassId) (A : Nat → Prop) (ad : Ad) (σ : Nat → St) (y t : Nat) (a : St) (hTY : TY y t) (b : Int) (hb : 0 ≤ b ∧ b < 5) : Met l yX6_of wsX6_of ({ frames := 0, cells := 0, slots := 0, locals := 0 }) (PcG D (tysX cA) A (wX cA ad (upY σ y a)) [.ref (ad y (t + 11) 0), .int (zI b)]) (va_Qi (fun (r : Int32) ws' => r = a t 0 b.toNat ∧ ws' = wX cA ad (upY σ y a)) (gB D A) A) 0 0 A := by
  refine g_met (cc := cX6_of) (maxL := 2) (ret := (some .int)) (own := RX6) rfl (by decide) rfl (Nat.le_of_ble_eq_true rfl) ?_
  intro p e s m below meth c E
  have hin6 : ∀ w ∈ u_ws RX6 TX6 1, w ∈ wsX6_of := by decide +kernel
  refine g_loc (lv' := [(0, .ref (ad y (t + 11) 0)), (1, .int (zI b))]) ⟨rfl, rfl, trivial⟩ ?_
  refine g_iload_n E dX6_of_0 rfl ?_
  refine g_if_lt (tgt := 22) E dX6_of_1 (by decide) (by omega) (fun c_1 => ?_) (fun c_1 => ?_)
  · exact absurd c_1 (by omega)
  · refine g_iload_n E dX6_of_4 rfl ?_
    refine g_aload_n E dX6_of_5 rfl ?_
    refine gx_Tal_balls E hTY hin6 (by decide +kernel) dX6_of_6 ?_
    refine nx_T' E hTY dX6_of_9 ?_
    refine g_icmp_ge (tgt := 22) E dX6_of_10 (by decide) (by omega) (by omega) (fun c_10 => ?_) (fun c_10 => ?_)
    · exact absurd c_10 (by omega)
    · refine g_aload_n E dX6_of_13 rfl ?_
      refine gx_Tal_balls E hTY hin6 (by decide +kernel) dX6_of_14 ?_
      refine g_iload_n E dX6_of_17 rfl ?_
      refine lx_T' E hTY (by omega) dX6_of_18 ?_
      refine g_goto (tgt := 23) E dX6_of_19 (by decide) ?_
      exact g_iret E (⟨rfl, rfl⟩) dX6_of_23
set_option maxHeartbeats 800000 in
set_option maxRecDepth 100000 in
/-- Tally.add(c, m) -/
theorem c_X6_add (l : Launch) (D : va_G) (cA : Nat → ClassId) (A : Nat → Prop) (ad : Ad) (σ : Nat → St) (y t : Nat) (a : St) (hTY : TY y t) (b : Int) (v : Int32) (hb : 0 ≤ b ∧ b < 5) : Met l yX6_add wsX6_add ({ frames := 0, cells := 0, slots := 0, locals := 0 }) (PcG D (tysX cA) A (wX cA ad (upY σ y a)) [.ref (ad y (t + 11) 0), .int (zI b), .int v]) (va_Qv (fun ws' => ws' = wX cA ad (upY σ y (up3 a t 0 b.toNat (a t 0 b.toNat + v)))) (gB D A) A) 0 0 A := by
  refine g_met (cc := cX6_add) (maxL := 3) (ret := none) (own := RX6) rfl (by decide) rfl (Nat.le_of_ble_eq_true rfl) ?_
  intro p e s m below meth c E
  have hin6 : ∀ w ∈ u_ws RX6 TX6 1, w ∈ wsX6_add := by decide +kernel
  refine g_loc (lv' := [(0, .ref (ad y (t + 11) 0)), (1, .int (zI b)), (2, .int v)]) ⟨rfl, rfl, rfl, trivial⟩ ?_
  refine g_iload_n E dX6_add_0 rfl ?_
  refine g_if_lt (tgt := 23) E dX6_add_1 (by decide) (by omega) (fun c_1 => ?_) (fun c_1 => ?_)
  · exact absurd c_1 (by omega)
  · refine g_iload_n E dX6_add_4 rfl ?_
    refine g_aload_n E dX6_add_5 rfl ?_
    refine gx_Tal_balls E hTY hin6 (by decide +kernel) dX6_add_6 ?_
    refine nx_T' E hTY dX6_add_9 ?_
    refine g_icmp_ge (tgt := 23) E dX6_add_10 (by decide) (by omega) (by omega) (fun c_10 => ?_) (fun c_10 => ?_)
    · exact absurd c_10 (by omega)
    · refine g_aload_n E dX6_add_13 rfl ?_
      refine gx_Tal_balls E hTY hin6 (by decide +kernel) dX6_add_14 ?_
      refine g_iload_n E dX6_add_17 rfl ?_
      refine g_dup2 E dX6_add_18 rfl rfl ?_
      refine lx_T' E hTY (by omega) dX6_add_19 ?_
      refine g_iload_n E dX6_add_20 rfl ?_
      refine g_iaddR E dX6_add_21 ?_
      refine sx_T' E hTY (by omega) dX6_add_22 ?_
      exact g_vret E (rfl) dX6_add_23
set_option maxHeartbeats 800000 in
set_option maxRecDepth 100000 in
/-- Tally.all() -/
theorem c_X6_all (l : Launch) (D : va_G) (cA : Nat → ClassId) (A : Nat → Prop) (ad : Ad) (σ : Nat → St) (y t : Nat) (a : St) (hTY : TY y t) : Met l yX6_all wsX6_all ({ frames := 0, cells := 0, slots := 0, locals := 0 }) (PcG D (tysX cA) A (wX cA ad (upY σ y a)) [.ref (ad y (t + 11) 0)]) (va_Qi (fun (r : Int32) ws' => r = sum5 (a t 0) 5 ∧ ws' = wX cA ad (upY σ y a)) (gB D A) A) 0 0 A := by
  refine g_met (cc := cX6_all) (maxL := 3) (ret := (some .int)) (own := RX6) rfl (by decide) rfl (Nat.le_of_ble_eq_true rfl) ?_
  intro p e s m below meth c E
  have hin6 : ∀ w ∈ u_ws RX6 TX6 1, w ∈ wsX6_all := by decide +kernel
  refine g_loc (lv' := [(0, .ref (ad y (t + 11) 0))]) ⟨rfl, trivial⟩ ?_
  refine g_iconst E dX6_all_0 ?_
  refine g_istore_n E dX6_all_1 (by decide) ?_
  refine g_iconst E dX6_all_2 ?_
  refine g_istore_n E dX6_all_3 (by decide) ?_
  have key_kk : ∀ (n_kk kk : Nat), (kk : Int) ≤ (5 : Int) → (5 : Int) + 1 ≤ (kk : Int) + n_kk → GW p l e (headSpec wsX6_all ({ frames := 0, cells := 0, slots := 0, locals := 0 })).room s m ([.ref (ad y (t + 11) 0)] : List Value).toArray below meth c (MQ below (va_Qi (fun (r : Int32) ws' => r = sum5 (a t 0) 5 ∧ ws' = wX cA ad (upY σ y a)) (gB D A) A) ([.ref (ad y (t + 11) 0)] : List Value).toArray s 0 0 A) D A 3 (wX cA ad (upY σ y a)) 0 0 4 [(0, .ref (ad y (t + 11) 0)), (1, .int (sum5 (a t 0) kk)), (2, .int (zI (kk : Int)))] [] := by
    intro n_kk
    induction n_kk with
    | zero => intro kk h1 h2; exact absurd h2 (by omega)
    | succ n_kk ih_kk =>
      intro kk hle_kk hfu_kk
      refine g_iload_n E dX6_all_4 rfl ?_
      refine g_aload_n E dX6_all_5 rfl ?_
      refine gx_Tal_balls E hTY hin6 (by decide +kernel) dX6_all_6 ?_
      refine nx_T' E hTY dX6_all_9 ?_
      refine g_icmp_ge (tgt := 28) E dX6_all_10 (by decide) (by omega) (by omega) (fun c_10 => ?_) (fun c_10 => ?_)
      · refine g_iload_n E dX6_all_28 rfl ?_
        exact g_iret E (⟨by rw [show kk = 5 by omega], rfl⟩) dX6_all_29
      · refine g_iload_n E dX6_all_13 rfl ?_
        refine g_aload_n E dX6_all_14 rfl ?_
        refine gx_Tal_balls E hTY hin6 (by decide +kernel) dX6_all_15 ?_
        refine g_iload_n E dX6_all_18 rfl ?_
        refine lx_T' E hTY (by omega) dX6_all_19 ?_
        refine g_iaddR E dX6_all_20 ?_
        refine g_istore_n E dX6_all_21 (by decide) ?_
        refine g_iinc E dX6_all_22 rfl (by decide) ?_
        refine g_goto (tgt := 4) E dX6_all_25 (by decide) ?_
        refine g_loc (lv' := [(0, .ref (ad y (t + 11) 0)), (1, .int (sum5 (a t 0) (kk + 1))), (2, .int (zI ((kk + 1) : Int)))]) ⟨rfl, rfl, rfl, trivial⟩ ?_
        exact ih_kk (kk + 1) (by omega) (by omega)
  refine g_loc (lv' := [(0, .ref (ad y (t + 11) 0)), (1, .int (sum5 (a t 0) 0)), (2, .int (zI (0 : Int)))]) ⟨rfl, rfl, rfl, trivial⟩ ?_
  exact key_kk (((5 : Int)) + 1).toNat.succ 0 (by omega) (by omega)
set_option maxHeartbeats 800000 in
set_option maxRecDepth 100000 in
/-- Math.floorMod(x, y) -/
theorem c_J9_floorMod_7cf53 (l : Launch) (D : va_G) (tys : gT) (A : Nat → Prop) (ws : va_W) (x y : Int) (hx : 0 ≤ x ∧ x < 16) (hy : 1 ≤ y ∧ y < 16) : Met l yJ9_floorMod_7cf53 wsJ9_floorMod_7cf53 ({ frames := 0, cells := 0, slots := 0, locals := 0 }) (PcG D tys A (ws) [.int (zI x), .int (zI y)]) (va_Qi (fun (r : Int32) ws' => r = zI (x % y) ∧ ws' = ws) (gB D A) A) 0 0 A := by
  refine g_metF (cc := cJ9_floorMod_7cf53) (maxL := 3) (ret := (some .int)) (own := RJ9) rfl (by decide +kernel) rfl (Nat.le_of_ble_eq_true rfl) ?_
  intro p e s m below meth c E
  have hxy := xor16 hx hy
  refine g_loc (lv' := [(0, .int (zI x)), (1, .int (zI y))]) ⟨rfl, rfl, trivial⟩ ?_
  refine g_iload_n E dJ9_floorMod_7cf53_0 rfl ?_
  refine g_iload_n E dJ9_floorMod_7cf53_1 rfl ?_
  refine g_irem E dJ9_floorMod_7cf53_2 (by omega) (by omega) ?_
  refine g_istore_n E dJ9_floorMod_7cf53_3 (by decide) ?_
  refine g_iload_n E dJ9_floorMod_7cf53_4 rfl ?_
  refine g_iload_n E dJ9_floorMod_7cf53_5 rfl ?_
  refine g_ixor E dJ9_floorMod_7cf53_6 ?_
  refine g_if_geR (tgt := 18) E dJ9_floorMod_7cf53_7 (by decide) (fun c_7 => ?_) (fun c_7 => ?_)
  · refine g_iload_n E dJ9_floorMod_7cf53_18 rfl ?_
    exact g_iret E (⟨rfl, rfl⟩) dJ9_floorMod_7cf53_19
  · exact absurd hxy c_7
set_option maxHeartbeats 800000 in
set_option maxRecDepth 100000 in
/-- Cat.jump(piles) -/
theorem c_X0_jump (l : Launch) (D : va_G) (cA : Nat → ClassId) (A : Nat → Prop) (ad : Ad) (σ : Nat → St) (y : Nat) (a : St) (hy : y < 2) (hI : Inv a) (c9 : Nat) (hc : (c9 : Int) < nc a) (hn : 0 < np a) : Met l yX0_jump wsX0_jump ({ frames := 1, cells := 0, slots := 0, locals := 22 }) (PcG D (tysX cA) A (wX cA ad (upY σ y a)) [.ref (ad y 3 c9), .int (zI (np a))]) (va_Qv (fun ws' => ws' = wX cA ad (upY σ y (jmpS a c9))) (gB D A) A) 0 0 A := by
  refine g_met (cc := cX0_jump) (maxL := 2) (ret := none) (own := RX0) rfl (by decide) rfl (Nat.le_of_ble_eq_true rfl) ?_
  intro p e s m below meth c E
  have hin0 : ∀ w ∈ u_ws RX0 TX0 3, w ∈ wsX0_jump := by decide +kernel
  obtain ⟨⟨hn0, hn6, hc0, hc3⟩, hPI, hCI, hFr⟩ := id hI
  have hci := hCI c9 hc
  unfold CI at hci
  refine g_loc (lv' := [(0, .ref (ad y 3 c9)), (1, .int (zI (np a)))]) ⟨rfl, rfl, trivial⟩ ?_
  refine g_aload_n E dX0_jump_0 rfl ?_
  refine g_aload_n E dX0_jump_1 rfl ?_
  refine gx_Cat_on' E (mem_3 _ (by omega) _ (by omega)) hin0 (by decide +kernel) dX0_jump_2 ?_
  refine g_iconst E dX0_jump_5 ?_
  refine g_icmp_eq (tgt := 14) E dX0_jump_6 (by decide) (by omega) (by omega) (fun c_6 => ?_) (fun c_6 => ?_)
  · refine g_iconst E dX0_jump_14 ?_
    refine g_goto (tgt := 31) E dX0_jump_15 (by decide) ?_
    refine px_Cat_on' E (mem_3 _ (by omega) _ (by omega)) hin0 (by decide +kernel) dX0_jump_31 ?_
    exact g_vret E (by first | rw [jmpS, jmpO, if_pos (Or.inl c_6)] | rw [jmpS, jmpO, if_neg (by omega)]) dX0_jump_34
  · refine g_iload_n E dX0_jump_9 rfl ?_
    refine g_iconst E dX0_jump_10 ?_
    refine g_icmp_ge (tgt := 18) E dX0_jump_11 (by decide) (by omega) (by omega) (fun c_11 => ?_) (fun c_11 => ?_)
    · refine g_aload_n E dX0_jump_18 rfl ?_
      refine gx_Cat_on' E (mem_3 _ (by omega) _ (by omega)) hin0 (by decide +kernel) dX0_jump_19 ?_
      refine g_aload_n E dX0_jump_22 rfl ?_
      refine gx_Cat_leap' E (mem_3 _ (by omega) _ (by omega)) hin0 (by decide +kernel) dX0_jump_23 ?_
      refine g_iadd E dX0_jump_26 ?_
      refine g_iload_n E dX0_jump_27 rfl ?_
      refine g_callTi (n := 2) (As := [_, _]) (rest := _) E (c_J9_floorMod_7cf53 l D _ A _ _ _ (by omega) (by omega)) gX0_jump_J9_floorMod_7cf53 rfl ⟨rfl, rfl⟩ (by decide +kernel) ⟨Nat.le_of_ble_eq_true rfl, Nat.le_of_ble_eq_true rfl⟩ rfl rfl (Nat.le_of_ble_eq_true rfl) ⟨Nat.le_of_ble_eq_true rfl, Nat.le_of_ble_eq_true rfl⟩ dX0_jump_28 ?_
      rintro r_28 ws_28 ⟨rfl, rfl⟩
      refine px_Cat_on' E (mem_3 _ (by omega) _ (by omega)) hin0 (by decide +kernel) dX0_jump_31 ?_
      exact g_vret E (by first | rw [jmpS, jmpO, if_pos (Or.inl c_6)] | rw [jmpS, jmpO, if_neg (by omega)]) dX0_jump_34
    · exact absurd hn (by omega)
set_option maxHeartbeats 800000 in
set_option maxRecDepth 100000 in
/-- Yard.letJump(cat) -/
theorem c_X3_letJump (l : Launch) (D : va_G) (cA : Nat → ClassId) (A : Nat → Prop) (ad : Ad) (σ : Nat → St) (y : Nat) (a : St) (hy : y < 2) (hI : Inv a) (c9 : Nat) (hc : (c9 : Int) < nc a) (hn : 0 < np a) : Met l yX3_letJump wsX3_letJump ({ frames := 2, cells := 0, slots := 0, locals := 43 }) (PcG D (tysX cA) A (wX cA ad (upY σ y a)) [.ref (ad y 0 0), .ref (ad y 3 c9)]) (va_Qi (fun (r : Int32) ws' => r = zI (ljV a c9) ∧ ws' = wX cA ad (upY σ y (ljS a c9))) (gB D A) A) 0 0 A := by
  refine g_met (cc := cX3_letJump) (maxL := 3) (ret := (some .int)) (own := RX3) rfl (by decide) rfl (Nat.le_of_ble_eq_true rfl) ?_
  intro p e s m below meth c E
  have hin0 : ∀ w ∈ u_ws RX0 TX0 3, w ∈ wsX3_letJump := by decide +kernel
  have hin1 : ∀ w ∈ u_ws RX1 TX1 4, w ∈ wsX3_letJump := by decide +kernel
  have hin3 : ∀ w ∈ u_ws RX3 TX3 8, w ∈ wsX3_letJump := by decide +kernel
  obtain ⟨⟨hn0, hn6, hc0, hc3⟩, hPI, hCI, hFr⟩ := id hI
  have hj := jmpO_b hI hc hn
  have hjI := jmpS_i hI hc hn
  have hjP : (jmpP a c9 : Int) = jmpO a c9 := by rw [jmpP]; omega
  have hPI2 := hjI.2.1 (jmpP a c9) (by rw [jmpS_np]; omega)
  have hPj := hPI2.1
  have hcl := hPI2.2
  have hon : on (jmpS a c9) c9 = jmpO a c9 := on_s (by omega)
  have hcal : cal (topS (jmpS a c9) (jmpP a c9)) (jmpP a c9) = cal (jmpS a c9) (jmpP a c9) := cal_up (by omega)
  have hx1 : ∀ k : Nat, topS (jmpS a c9) (jmpP a c9) 4 0 k = jmpS a c9 4 0 k := fun k => up3_n (by omega)
  have hx2 : ∀ (k : Nat) (v : Int32), up3 (topS (jmpS a c9) (jmpP a c9)) 4 0 k v 3 c9 2 = jmpS a c9 3 c9 2 := fun k v => by rw [up3_n (by omega), topS, up3_n (by omega)]
  refine g_loc (lv' := [(0, .ref (ad y 0 0)), (1, .ref (ad y 3 c9))]) ⟨rfl, rfl, trivial⟩ ?_
  refine g_aload_n E dX3_letJump_0 rfl ?_
  refine g_aload_n E dX3_letJump_1 rfl ?_
  refine gx_Yard_pileCount' E (mem_y _ (by omega)) hin3 (by decide +kernel) dX3_letJump_2 ?_
  refine g_callVv (T := TX0) (ci := 0) (n := 1) (As := [_]) (rest := _) E (c_X0_jump l D cA A ad _ _ _ (by omega) hI c9 (by omega) (by omega)) gX3_letJump_X0_jump rfl ⟨rfl, rfl⟩ (by decide +kernel) ⟨Nat.le_of_ble_eq_true rfl, Nat.le_of_ble_eq_true rfl⟩ (ob_3 (mem_3 _ (by omega) _ (by omega))) rfl rfl rfl (Nat.le_of_ble_eq_true rfl) ⟨Nat.le_of_ble_eq_true rfl, Nat.le_of_ble_eq_true rfl⟩ dX3_letJump_5 ?_
  rintro ws_5 rfl
  refine g_aload_n E dX3_letJump_8 rfl ?_
  refine gx_Yard_piles' E (mem_y _ (by omega)) hin3 (by decide +kernel) dX3_letJump_9 ?_
  refine g_aload_n E dX3_letJump_12 rfl ?_
  refine gx_Cat_on' E (mem_3 _ (by omega) _ (by omega)) hin0 (by decide +kernel) dX3_letJump_13 ?_
  rw [hon]
  refine lx_10' E (mem_10 _ (by omega)) (by omega) dX3_letJump_16 ?_
  refine g_top (v' := .ref (ad y 1 (jmpP a c9))) rfl ?_
  refine g_astore_n E dX3_letJump_17 (by decide) ?_
  refine g_aload_n E dX3_letJump_18 rfl ?_
  refine g_callVi (T := TX1) (ci := 1) (n := 0) (As := []) (rest := _) E (c_X1_hasBrokenLayer l D cA A ad σ y (jmpP a c9) (jmpS a c9) (by omega) (by omega) (by assumption)) gX3_letJump_X1_hasBrokenLayer rfl ⟨rfl, rfl⟩ (by decide +kernel) ⟨Nat.le_of_ble_eq_true rfl, Nat.le_of_ble_eq_true rfl⟩ (ob_1 (mem_1 _ (by omega) _ (by omega))) rfl rfl rfl (Nat.le_of_ble_eq_true rfl) ⟨Nat.le_of_ble_eq_true rfl, Nat.le_of_ble_eq_true rfl⟩ dX3_letJump_19 ?_
  rintro r_19 ws_19 ⟨rfl, rfl⟩
  refine g_if_ne (tgt := 27) E dX3_letJump_22 (by decide) (by omega) (fun c_22 => ?_) (fun c_22 => ?_)
  · have hbr : brk (jmpS a c9) (jmpP a c9) = true := ite1 c_22
    refine g_aload_n E dX3_letJump_27 rfl ?_
    refine g_callVi (T := TX1) (ci := 1) (n := 0) (As := []) (rest := _) E (c_X1_takeTop l D cA A ad σ y (jmpP a c9) (jmpS a c9) (by omega) (by omega) (by assumption) (brk_b hPj hbr)) gX3_letJump_X1_takeTop rfl ⟨rfl, rfl⟩ (by decide +kernel) ⟨Nat.le_of_ble_eq_true rfl, Nat.le_of_ble_eq_true rfl⟩ (ob_1 (mem_1 _ (by omega) _ (by omega))) rfl rfl rfl (Nat.le_of_ble_eq_true rfl) ⟨Nat.le_of_ble_eq_true rfl, Nat.le_of_ble_eq_true rfl⟩ dX3_letJump_28 ?_
    rintro r_28 ws_28 ⟨rfl, rfl⟩
    refine g_pop E dX3_letJump_31 rfl ?_
    refine g_aload_n E dX3_letJump_32 rfl ?_
    refine gx_Yard_loose' E (mem_y _ (by omega)) hin3 (by decide +kernel) dX3_letJump_33 ?_
    refine g_aload_n E dX3_letJump_36 rfl ?_
    refine gx_Pile_calibre' E (mem_1 _ (by omega) _ (by omega)) hin1 (by decide +kernel) dX3_letJump_37 ?_
    rw [hcal]
    refine g_iconst E dX3_letJump_40 ?_
    refine g_callVv (T := TX6) (ci := 6) (n := 2) (As := [_, _]) (rest := _) E (c_X6_add l D cA A ad _ _ 4 _ (TY_4 _ (by omega)) _ _ (by omega)) gX3_letJump_X6_add rfl ⟨rfl, rfl⟩ (by decide +kernel) ⟨Nat.le_of_ble_eq_true rfl, Nat.le_of_ble_eq_true rfl⟩ (ob_T (TY_4 _ (by omega))) rfl rfl rfl (Nat.le_of_ble_eq_true rfl) ⟨Nat.le_of_ble_eq_true rfl, Nat.le_of_ble_eq_true rfl⟩ dX3_letJump_41 ?_
    rintro ws_41 rfl
    refine g_aload_n E dX3_letJump_44 rfl ?_
    refine g_dup E dX3_letJump_45 rfl ?_
    refine gx_Cat_rolledOff' E (mem_3 _ (by omega) _ (by omega)) hin0 (by decide +kernel) dX3_letJump_46 ?_
    refine g_iconst E dX3_letJump_49 ?_
    refine g_iaddR E dX3_letJump_50 ?_
    refine px_Cat_rolledOff' E (mem_3 _ (by omega) _ (by omega)) hin0 (by decide +kernel) dX3_letJump_51 ?_
    refine g_iconst E dX3_letJump_54 ?_
    exact g_iret E (⟨by rw [ljV, if_pos hbr], by rw [ljS, if_pos hbr]; simp only [offS, hx1, hx2]⟩) dX3_letJump_55
  · have hbr : ¬ brk (jmpS a c9) (jmpP a c9) = true := ite0 c_22
    refine g_iconst E dX3_letJump_25 ?_
    exact g_iret E (⟨by rw [ljV, if_neg hbr], by rw [ljS, if_neg hbr]⟩) dX3_letJump_26
set_option maxHeartbeats 800000 in
set_option maxRecDepth 100000 in
/-- Yard.passOneDay() -/
theorem c_X3_passOneDay (l : Launch) (D : va_G) (cA : Nat → ClassId) (A : Nat → Prop) (ad : Ad) (σ : Nat → St) (y : Nat) (a : St) (hy : y < 2) (hI : Inv a) : Met l yX3_passOneDay wsX3_passOneDay ({ frames := 3, cells := 0, slots := 0, locals := 65 }) (PcG D (tysX cA) A (wX cA ad (upY σ y a)) [.ref (ad y 0 0)]) (va_Qi (fun (r : Int32) ws' => r = zI (dayV a) ∧ ws' = wX cA ad (upY σ y (dayS a))) (gB D A) A) 0 0 A := by
  refine g_met (cc := cX3_passOneDay) (maxL := 3) (ret := (some .int)) (own := RX3) rfl (by decide) rfl (Nat.le_of_ble_eq_true rfl) ?_
  intro p e s m below meth c E
  have hin3 : ∀ w ∈ u_ws RX3 TX3 8, w ∈ wsX3_passOneDay := by decide +kernel
  obtain ⟨⟨hn0, hn6, hc0, hc3⟩, hPI, hCI, hFr⟩ := id hI
  refine g_loc (lv' := [(0, .ref (ad y 0 0))]) ⟨rfl, trivial⟩ ?_
  refine g_iconst E dX3_passOneDay_0 ?_
  refine g_istore_n E dX3_passOneDay_1 (by decide) ?_
  have key_kk : ∀ (n_kk kk : Nat), (kk : Int) ≤ np a → np a + 1 ≤ (kk : Int) + n_kk → GW p l e (headSpec wsX3_passOneDay ({ frames := 3, cells := 0, slots := 0, locals := 65 })).room s m ([.ref (ad y 0 0)] : List Value).toArray below meth c (MQ below (va_Qi (fun (r : Int32) ws' => r = zI (dayV a) ∧ ws' = wX cA ad (upY σ y (dayS a))) (gB D A) A) ([.ref (ad y 0 0)] : List Value).toArray s 0 0 A) D A 3 (wX cA ad (upY σ y (raAll a kk))) 0 0 2 [(0, .ref (ad y 0 0)), (1, .int (zI (kk : Int)))] [] := by
    intro n_kk
    induction n_kk with
    | zero => intro kk h1 h2; exact absurd h2 (by omega)
    | succ n_kk ih_kk =>
      intro kk hle_kk hfu_kk
      have hik := raAll_i hI kk hle_kk
      have hek := raAll_e a kk
      have hnk : np (raAll a kk) = np a := congrArg Int32.toInt (hek 0 0 0 (by decide))
      have hck : nc (raAll a kk) = nc a := congrArg Int32.toInt (hek 0 0 1 (by decide))
      refine g_iload_n E dX3_passOneDay_2 rfl ?_
      refine g_aload_n E dX3_passOneDay_3 rfl ?_
      refine gx_Yard_pileCount' E (mem_y _ (by omega)) hin3 (by decide +kernel) dX3_passOneDay_4 ?_
      refine g_icmp_ge (tgt := 29) E dX3_passOneDay_7 (by decide) (by omega) (by omega) (fun c_7 => ?_) (fun c_7 => ?_)
      · obtain rfl : kk = (np a).toNat := by omega
        refine g_iconst E dX3_passOneDay_29 ?_
        refine g_istore_n E dX3_passOneDay_30 (by decide) ?_
        refine g_aload_n E dX3_passOneDay_31 rfl ?_
        refine gx_Yard_pileCount' E (mem_y _ (by omega)) hin3 (by decide +kernel) dX3_passOneDay_32 ?_
        refine g_if_le (tgt := 67) E dX3_passOneDay_35 (by decide) (by omega) (fun c_35 => ?_) (fun c_35 => ?_)
        · refine g_aload_n E dX3_passOneDay_67 rfl ?_
          refine g_dup E dX3_passOneDay_68 rfl ?_
          refine gx_Yard_day' E (mem_y _ (by omega)) hin3 (by decide +kernel) dX3_passOneDay_69 ?_
          refine g_iconst E dX3_passOneDay_72 ?_
          refine g_iaddR E dX3_passOneDay_73 ?_
          refine px_Yard_day' E (mem_y _ (by omega)) hin3 (by decide +kernel) dX3_passOneDay_74 ?_
          refine g_iload_n E dX3_passOneDay_77 rfl ?_
          exact g_iret E (⟨by rw [dayV, catsS]; first | rw [if_pos (by omega), show (nc (raAll a (np a).toNat)).toNat = cc9 by omega] | rw [if_neg (by omega)], by rw [dayS, catsS]; first | rw [if_pos (by omega), show (nc (raAll a (np a).toNat)).toNat = cc9 by omega] | rw [if_neg (by omega)]⟩) dX3_passOneDay_78
        · refine g_iconst E dX3_passOneDay_38 ?_
          refine g_istore_n E dX3_passOneDay_39 (by decide) ?_
          have key_cc9 : ∀ (n_cc9 cc9 : Nat), (cc9 : Int) ≤ nc a → nc a + 1 ≤ (cc9 : Int) + n_cc9 → GW p l e (headSpec wsX3_passOneDay ({ frames := 3, cells := 0, slots := 0, locals := 65 })).room s m ([.ref (ad y 0 0)] : List Value).toArray below meth c (MQ below (va_Qi (fun (r : Int32) ws' => r = zI (dayV a) ∧ ws' = wX cA ad (upY σ y (dayS a))) (gB D A) A) ([.ref (ad y 0 0)] : List Value).toArray s 0 0 A) D A 3 (wX cA ad (upY σ y ((jumpAll (raAll a (np a).toNat) cc9).1))) 0 0 40 [(0, .ref (ad y 0 0)), (1, .int (zI (jumpAll (raAll a (np a).toNat) cc9).2)), (2, .int (zI (cc9 : Int)))] [] := by
            intro n_cc9
            induction n_cc9 with
            | zero => intro cc9 h1 h2; exact absurd h2 (by omega)
            | succ n_cc9 ih_cc9 =>
              intro cc9 hle_cc9 hfu_cc9
              obtain ⟨hji, hjn, hjc⟩ := jumpAll_i hik (by omega) cc9 (by omega)
              refine g_iload_n E dX3_passOneDay_40 rfl ?_
              refine g_aload_n E dX3_passOneDay_41 rfl ?_
              refine gx_Yard_catCount' E (mem_y _ (by omega)) hin3 (by decide +kernel) dX3_passOneDay_42 ?_
              refine g_icmp_ge (tgt := 67) E dX3_passOneDay_45 (by decide) (by omega) (by omega) (fun c_45 => ?_) (fun c_45 => ?_)
              · refine g_aload_n E dX3_passOneDay_67 rfl ?_
                refine g_dup E dX3_passOneDay_68 rfl ?_
                refine gx_Yard_day' E (mem_y _ (by omega)) hin3 (by decide +kernel) dX3_passOneDay_69 ?_
                refine g_iconst E dX3_passOneDay_72 ?_
                refine g_iaddR E dX3_passOneDay_73 ?_
                refine px_Yard_day' E (mem_y _ (by omega)) hin3 (by decide +kernel) dX3_passOneDay_74 ?_
                refine g_iload_n E dX3_passOneDay_77 rfl ?_
                exact g_iret E (⟨by rw [dayV, catsS]; first | rw [if_pos (by omega), show (nc (raAll a (np a).toNat)).toNat = cc9 by omega] | rw [if_neg (by omega)], by rw [dayS, catsS]; first | rw [if_pos (by omega), show (nc (raAll a (np a).toNat)).toNat = cc9 by omega] | rw [if_neg (by omega)]⟩) dX3_passOneDay_78
              · refine g_iload_n E dX3_passOneDay_48 rfl ?_
                refine g_aload_n E dX3_passOneDay_49 rfl ?_
                refine g_aload_n E dX3_passOneDay_50 rfl ?_
                refine gx_Yard_cats' E (mem_y _ (by omega)) hin3 (by decide +kernel) dX3_passOneDay_51 ?_
                refine g_iload_n E dX3_passOneDay_54 rfl ?_
                refine lx_11' E (mem_11 _ (by omega)) (by omega) dX3_passOneDay_55 ?_
                refine g_callVi (T := TX3) (ci := 3) (n := 1) (As := [_]) (rest := _) E (c_X3_letJump l D cA A ad _ _ _ (by omega) (by assumption) cc9 (by omega) (by omega)) gX3_passOneDay_X3_letJump rfl ⟨rfl, rfl⟩ (by decide +kernel) ⟨Nat.le_of_ble_eq_true rfl, Nat.le_of_ble_eq_true rfl⟩ (ob_0 (mem_y _ (by omega))) rfl rfl rfl (Nat.le_of_ble_eq_true rfl) ⟨Nat.le_of_ble_eq_true rfl, Nat.le_of_ble_eq_true rfl⟩ dX3_passOneDay_56 ?_
                rintro r_56 ws_56 ⟨rfl, rfl⟩
                refine g_iadd E dX3_passOneDay_59 ?_
                refine g_istore_n E dX3_passOneDay_60 (by decide) ?_
                refine g_iinc E dX3_passOneDay_61 rfl (by decide) ?_
                refine g_goto (tgt := 40) E dX3_passOneDay_64 (by decide) ?_
                refine g_st (ws' := wX cA ad (upY σ y ((jumpAll (raAll a (np a).toNat) (cc9 + 1)).1))) (rfl) rfl rfl ?_
                refine g_loc (lv' := [(0, .ref (ad y 0 0)), (1, .int (zI (jumpAll (raAll a (np a).toNat) (cc9 + 1)).2)), (2, .int (zI ((cc9 + 1) : Int)))]) ⟨rfl, rfl, rfl, trivial⟩ ?_
                exact ih_cc9 (cc9 + 1) (by omega) (by omega)
          refine g_loc (lv' := [(0, .ref (ad y 0 0)), (1, .int (zI (jumpAll (raAll a (np a).toNat) 0).2)), (2, .int (zI (0 : Int)))]) ⟨rfl, rfl, rfl, trivial⟩ ?_
          exact key_cc9 ((nc a) + 1).toNat.succ 0 (by omega) (by omega)
      · refine g_aload_n E dX3_passOneDay_10 rfl ?_
        refine gx_Yard_piles' E (mem_y _ (by omega)) hin3 (by decide +kernel) dX3_passOneDay_11 ?_
        refine g_iload_n E dX3_passOneDay_14 rfl ?_
        refine lx_10' E (mem_10 _ (by omega)) (by omega) dX3_passOneDay_15 ?_
        refine g_aload_n E dX3_passOneDay_16 rfl ?_
        refine gx_Yard_rain' E (mem_y _ (by omega)) hin3 (by decide +kernel) dX3_passOneDay_17 ?_
        refine g_callVv (T := TX1) (ci := 1) (n := 1) (As := [_]) (rest := _) E (c_X1_rustForADay l D cA A ad σ y kk (raAll a kk) (by omega) (by omega) (hik.2.1 kk (by omega)).1 _) gX3_passOneDay_X1_rustForADay rfl ⟨rfl, rfl⟩ (by decide +kernel) ⟨Nat.le_of_ble_eq_true rfl, Nat.le_of_ble_eq_true rfl⟩ (ob_1 (mem_1 _ (by omega) _ (by omega))) rfl rfl rfl (Nat.le_of_ble_eq_true rfl) ⟨Nat.le_of_ble_eq_true rfl, Nat.le_of_ble_eq_true rfl⟩ dX3_passOneDay_20 ?_
        rintro ws_20 rfl
        refine g_iinc E dX3_passOneDay_23 rfl (by decide) ?_
        refine g_goto (tgt := 2) E dX3_passOneDay_26 (by decide) ?_
        refine g_st (ws' := wX cA ad (upY σ y (raAll a (kk + 1)))) (rfl) rfl rfl ?_
        refine g_loc (lv' := [(0, .ref (ad y 0 0)), (1, .int (zI ((kk + 1) : Int)))]) ⟨rfl, rfl, trivial⟩ ?_
        exact ih_kk (kk + 1) (by omega) (by omega)
  refine g_loc (lv' := [(0, .ref (ad y 0 0)), (1, .int (zI (0 : Int)))]) ⟨rfl, rfl, trivial⟩ ?_
  exact key_kk ((np a) + 1).toNat.succ 0 (by omega) (by omega)
set_option maxHeartbeats 800000 in
set_option maxRecDepth 100000 in
/-- Yard.passDays(days) -/
theorem c_X3_passDays (l : Launch) (D : va_G) (cA : Nat → ClassId) (A : Nat → Prop) (ad : Ad) (σ : Nat → St) (y : Nat) (a : St) (hy : y < 2) (hI : Inv a) (d9 : Int) (hd : 0 ≤ d9 ∧ d9 ≤ 1000) : Met l yX3_passDays wsX3_passDays ({ frames := 4, cells := 0, slots := 0, locals := 87 }) (PcG D (tysX cA) A (wX cA ad (upY σ y a)) [.ref (ad y 0 0), .int (zI d9)]) (va_Qi (fun (r : Int32) ws' => r = zI (passL a d9.toNat).2 ∧ ws' = wX cA ad (upY σ y ((passL a d9.toNat).1))) (gB D A) A) 0 0 A := by
  refine g_met (cc := cX3_passDays) (maxL := 4) (ret := (some .int)) (own := RX3) rfl (by decide) rfl (Nat.le_of_ble_eq_true rfl) ?_
  intro p e s m below meth c E
  have hin3 : ∀ w ∈ u_ws RX3 TX3 8, w ∈ wsX3_passDays := by decide +kernel
  refine g_loc (lv' := [(0, .ref (ad y 0 0)), (1, .int (zI d9))]) ⟨rfl, rfl, trivial⟩ ?_
  refine g_iconst E dX3_passDays_0 ?_
  refine g_istore_n E dX3_passDays_1 (by decide) ?_
  refine g_iconst E dX3_passDays_2 ?_
  refine g_istore_n E dX3_passDays_3 (by decide) ?_
  have key_kk : ∀ (n_kk kk : Nat), (kk : Int) ≤ d9 → d9 + 1 ≤ (kk : Int) + n_kk → GW p l e (headSpec wsX3_passDays ({ frames := 4, cells := 0, slots := 0, locals := 87 })).room s m ([.ref (ad y 0 0), .int (zI d9)] : List Value).toArray below meth c (MQ below (va_Qi (fun (r : Int32) ws' => r = zI (passL a d9.toNat).2 ∧ ws' = wX cA ad (upY σ y ((passL a d9.toNat).1))) (gB D A) A) ([.ref (ad y 0 0), .int (zI d9)] : List Value).toArray s 0 0 A) D A 4 (wX cA ad (upY σ y ((passL a kk).1))) 0 0 4 [(0, .ref (ad y 0 0)), (1, .int (zI d9)), (2, .int (zI (passL a kk).2)), (3, .int (zI (kk : Int)))] [] := by
    intro n_kk
    induction n_kk with
    | zero => intro kk h1 h2; exact absurd h2 (by omega)
    | succ n_kk ih_kk =>
      intro kk hle_kk hfu_kk
      obtain ⟨hik, hnk, hck⟩ := passL_i hI kk
      refine g_iload_n E dX3_passDays_4 rfl ?_
      refine g_iload_n E dX3_passDays_5 rfl ?_
      refine g_icmp_ge (tgt := 22) E dX3_passDays_6 (by decide) (by omega) (by omega) (fun c_6 => ?_) (fun c_6 => ?_)
      · refine g_iload_n E dX3_passDays_22 rfl ?_
        exact g_iret E (⟨by rw [show d9.toNat = kk by omega], by rw [show d9.toNat = kk by omega]⟩) dX3_passDays_23
      · refine g_iload_n E dX3_passDays_9 rfl ?_
        refine g_aload_n E dX3_passDays_10 rfl ?_
        refine g_callVi (T := TX3) (ci := 3) (n := 0) (As := []) (rest := _) E (c_X3_passOneDay l D cA A ad _ _ _ (by omega) (by assumption)) gX3_passDays_X3_passOneDay rfl ⟨rfl, rfl⟩ (by decide +kernel) ⟨Nat.le_of_ble_eq_true rfl, Nat.le_of_ble_eq_true rfl⟩ (ob_0 (mem_y _ (by omega))) rfl rfl rfl (Nat.le_of_ble_eq_true rfl) ⟨Nat.le_of_ble_eq_true rfl, Nat.le_of_ble_eq_true rfl⟩ dX3_passDays_11 ?_
        rintro r_11 ws_11 ⟨rfl, rfl⟩
        refine g_iadd E dX3_passDays_14 ?_
        refine g_istore_n E dX3_passDays_15 (by decide) ?_
        refine g_iinc E dX3_passDays_16 rfl (by decide) ?_
        refine g_goto (tgt := 4) E dX3_passDays_19 (by decide) ?_
        refine g_st (ws' := wX cA ad (upY σ y ((passL a (kk + 1)).1))) (rfl) rfl rfl ?_
        refine g_loc (lv' := [(0, .ref (ad y 0 0)), (1, .int (zI d9)), (2, .int (zI (passL a (kk + 1)).2)), (3, .int (zI ((kk + 1) : Int)))]) ⟨rfl, rfl, rfl, rfl, trivial⟩ ?_
        exact ih_kk (kk + 1) (by omega) (by omega)
  refine g_loc (lv' := [(0, .ref (ad y 0 0)), (1, .int (zI d9)), (2, .int (zI (passL a 0).2)), (3, .int (zI (0 : Int)))]) ⟨rfl, rfl, rfl, rfl, trivial⟩ ?_
  exact key_kk ((d9) + 1).toNat.succ 0 (by omega) (by omega)
set_option maxHeartbeats 800000 in
set_option maxRecDepth 100000 in
/-- Yard.ballsOfCalibre(c) -/
theorem c_X3_ballsOfCalibre (l : Launch) (D : va_G) (cA : Nat → ClassId) (A : Nat → Prop) (ad : Ad) (σ : Nat → St) (y : Nat) (a : St) (hy : y < 2) (hI : Inv a) (q9 : Int) (hq : 0 ≤ q9 ∧ q9 ≤ 4) : Met l yX3_ballsOfCalibre wsX3_ballsOfCalibre ({ frames := 0, cells := 0, slots := 0, locals := 0 }) (PcG D (tysX cA) A (wX cA ad (upY σ y a)) [.ref (ad y 0 0), .int (zI q9)]) (va_Qi (fun (r : Int32) ws' => r = zI (ofCal a q9 (np a).toNat) ∧ ws' = wX cA ad (upY σ y a)) (gB D A) A) 0 0 A := by
  refine g_met (cc := cX3_ballsOfCalibre) (maxL := 4) (ret := (some .int)) (own := RX3) rfl (by decide) rfl (Nat.le_of_ble_eq_true rfl) ?_
  intro p e s m below meth c E
  have hin1 : ∀ w ∈ u_ws RX1 TX1 4, w ∈ wsX3_ballsOfCalibre := by decide +kernel
  have hin3 : ∀ w ∈ u_ws RX3 TX3 8, w ∈ wsX3_ballsOfCalibre := by decide +kernel
  obtain ⟨⟨hn0, hn6, hc0, hc3⟩, hPI, hCI, hFr⟩ := id hI
  refine g_loc (lv' := [(0, .ref (ad y 0 0)), (1, .int (zI q9))]) ⟨rfl, rfl, trivial⟩ ?_
  refine g_iconst E dX3_ballsOfCalibre_0 ?_
  refine g_istore_n E dX3_ballsOfCalibre_1 (by decide) ?_
  refine g_iconst E dX3_ballsOfCalibre_2 ?_
  refine g_istore_n E dX3_ballsOfCalibre_3 (by decide) ?_
  have key_kk : ∀ (n_kk kk : Nat), (kk : Int) ≤ np a → np a + 1 ≤ (kk : Int) + n_kk → GW p l e (headSpec wsX3_ballsOfCalibre ({ frames := 0, cells := 0, slots := 0, locals := 0 })).room s m ([.ref (ad y 0 0), .int (zI q9)] : List Value).toArray below meth c (MQ below (va_Qi (fun (r : Int32) ws' => r = zI (ofCal a q9 (np a).toNat) ∧ ws' = wX cA ad (upY σ y a)) (gB D A) A) ([.ref (ad y 0 0), .int (zI q9)] : List Value).toArray s 0 0 A) D A 4 (wX cA ad (upY σ y a)) 0 0 4 [(0, .ref (ad y 0 0)), (1, .int (zI q9)), (2, .int (zI (ofCal a q9 kk))), (3, .int (zI (kk : Int)))] [] := by
    intro n_kk
    induction n_kk with
    | zero => intro kk h1 h2; exact absurd h2 (by omega)
    | succ n_kk ih_kk =>
      intro kk hle_kk hfu_kk
      have hck : (kk : Int) < np a → 0 ≤ cal a kk ∧ cal a kk ≤ 4 := fun h => (hPI kk h).2
      refine g_iload_n E dX3_ballsOfCalibre_4 rfl ?_
      refine g_aload_n E dX3_ballsOfCalibre_5 rfl ?_
      refine gx_Yard_pileCount' E (mem_y _ (by omega)) hin3 (by decide +kernel) dX3_ballsOfCalibre_6 ?_
      refine g_icmp_ge (tgt := 43) E dX3_ballsOfCalibre_9 (by decide) (by omega) (by omega) (fun c_9 => ?_) (fun c_9 => ?_)
      · refine g_iload_n E dX3_ballsOfCalibre_43 rfl ?_
        exact g_iret E (⟨by rw [show (np a).toNat = kk by omega], rfl⟩) dX3_ballsOfCalibre_44
      · refine g_aload_n E dX3_ballsOfCalibre_12 rfl ?_
        refine gx_Yard_piles' E (mem_y _ (by omega)) hin3 (by decide +kernel) dX3_ballsOfCalibre_13 ?_
        refine g_iload_n E dX3_ballsOfCalibre_16 rfl ?_
        refine lx_10' E (mem_10 _ (by omega)) (by omega) dX3_ballsOfCalibre_17 ?_
        refine g_top (v' := .ref (ad y 1 kk)) rfl ?_
        refine gx_Pile_calibre' E (mem_1 _ (by omega) _ (by omega)) hin1 (by decide +kernel) dX3_ballsOfCalibre_18 ?_
        refine g_iload_n E dX3_ballsOfCalibre_21 rfl ?_
        refine g_icmp_ne (tgt := 37) E dX3_ballsOfCalibre_22 (by decide) (by omega) (by omega) (fun c_22 => ?_) (fun c_22 => ?_)
        · have hst : ofCal a q9 (kk + 1) = ofCal a q9 kk := if_neg c_22
          refine g_iinc E dX3_ballsOfCalibre_37 rfl (by decide) ?_
          refine g_goto (tgt := 4) E dX3_ballsOfCalibre_40 (by decide) ?_
          refine g_loc (lv' := [(0, .ref (ad y 0 0)), (1, .int (zI q9)), (2, .int (zI (ofCal a q9 (kk + 1)))), (3, .int (zI ((kk + 1) : Int)))]) ⟨rfl, rfl, congrArg (fun z => some (Value.int (zI z))) hst.symm, rfl, trivial⟩ ?_
          exact ih_kk (kk + 1) (by omega) (by omega)
        · have hst : ofCal a q9 (kk + 1) = ofCal a q9 kk + bl a kk := if_pos c_22
          refine g_iload_n E dX3_ballsOfCalibre_25 rfl ?_
          refine g_aload_n E dX3_ballsOfCalibre_26 rfl ?_
          refine gx_Yard_piles' E (mem_y _ (by omega)) hin3 (by decide +kernel) dX3_ballsOfCalibre_27 ?_
          refine g_iload_n E dX3_ballsOfCalibre_30 rfl ?_
          refine lx_10' E (mem_10 _ (by omega)) (by omega) dX3_ballsOfCalibre_31 ?_
          refine gx_Pile_balls' E (mem_1 _ (by omega) _ (by omega)) hin1 (by decide +kernel) dX3_ballsOfCalibre_32 ?_
          refine g_iadd E dX3_ballsOfCalibre_35 ?_
          refine g_istore_n E dX3_ballsOfCalibre_36 (by decide) ?_
          refine g_iinc E dX3_ballsOfCalibre_37 rfl (by decide) ?_
          refine g_goto (tgt := 4) E dX3_ballsOfCalibre_40 (by decide) ?_
          refine g_loc (lv' := [(0, .ref (ad y 0 0)), (1, .int (zI q9)), (2, .int (zI (ofCal a q9 (kk + 1)))), (3, .int (zI ((kk + 1) : Int)))]) ⟨rfl, rfl, congrArg (fun z => some (Value.int (zI z))) hst.symm, rfl, trivial⟩ ?_
          exact ih_kk (kk + 1) (by omega) (by omega)
  refine g_loc (lv' := [(0, .ref (ad y 0 0)), (1, .int (zI q9)), (2, .int (zI (ofCal a q9 0))), (3, .int (zI (0 : Int)))]) ⟨rfl, rfl, rfl, rfl, trivial⟩ ?_
  exact key_kk ((np a) + 1).toNat.succ 0 (by omega) (by omega)
set_option maxHeartbeats 800000 in
set_option maxRecDepth 100000 in
/-- Yard.ballCount(what) -/
theorem c_X3_ballCount (l : Launch) (D : va_G) (cA : Nat → ClassId) (A : Nat → Prop) (ad : Ad) (σ : Nat → St) (y : Nat) (a : St) (hy : y < 2) (hI : Inv a) (w9 : Int) (hw : w9 = 4 ∨ w9 = 5 ∨ w9 = 6) : Met l yX3_ballCount wsX3_ballCount ({ frames := 2, cells := 0, slots := 0, locals := 44 }) (PcG D (tysX cA) A (wX cA ad (upY σ y a)) [.ref (ad y 0 0), .int (zI w9)]) (va_Qi (fun (r : Int32) ws' => r = cntV a w9 ∧ ws' = wX cA ad (upY σ y a)) (gB D A) A) 0 0 A := by
  refine g_met (cc := cX3_ballCount) (maxL := 4) (ret := (some .int)) (own := RX3) rfl (by decide) rfl (Nat.le_of_ble_eq_true rfl) ?_
  intro p e s m below meth c E
  have hin1 : ∀ w ∈ u_ws RX1 TX1 4, w ∈ wsX3_ballCount := by decide +kernel
  have hin3 : ∀ w ∈ u_ws RX3 TX3 8, w ∈ wsX3_ballCount := by decide +kernel
  obtain ⟨⟨hn0, hn6, hc0, hc3⟩, hPI, hCI, hFr⟩ := id hI
  refine g_loc (lv' := [(0, .ref (ad y 0 0)), (1, .int (zI w9))]) ⟨rfl, rfl, trivial⟩ ?_
  refine g_iload_n E dX3_ballCount_0 rfl ?_
  refine g_iconst E dX3_ballCount_1 ?_
  refine g_icmp_ne (tgt := 13) E dX3_ballCount_2 (by decide) (by omega) (by omega) (fun c_2 => ?_) (fun c_2 => ?_)
  · refine g_iconst E dX3_ballCount_13 ?_
    refine g_istore_n E dX3_ballCount_14 (by decide) ?_
    refine g_iconst E dX3_ballCount_15 ?_
    refine g_istore_n E dX3_ballCount_16 (by decide) ?_
    have key_kk : ∀ (n_kk kk : Nat), (kk : Int) ≤ np a → np a + 1 ≤ (kk : Int) + n_kk → GW p l e (headSpec wsX3_ballCount ({ frames := 2, cells := 0, slots := 0, locals := 44 })).room s m ([.ref (ad y 0 0), .int (zI w9)] : List Value).toArray below meth c (MQ below (va_Qi (fun (r : Int32) ws' => r = cntV a w9 ∧ ws' = wX cA ad (upY σ y a)) (gB D A) A) ([.ref (ad y 0 0), .int (zI w9)] : List Value).toArray s 0 0 A) D A 4 (wX cA ad (upY σ y a)) 0 0 17 [(0, .ref (ad y 0 0)), (1, .int (zI w9)), (2, .int (zI (if w9 = 6 then ruAll a kk else blAll a kk))), (3, .int (zI (kk : Int)))] [] := by
      intro n_kk
      induction n_kk with
      | zero => intro kk h1 h2; exact absurd h2 (by omega)
      | succ n_kk ih_kk =>
        intro kk hle_kk hfu_kk
        refine g_iload_n E dX3_ballCount_17 rfl ?_
        refine g_aload_n E dX3_ballCount_18 rfl ?_
        refine gx_Yard_pileCount' E (mem_y _ (by omega)) hin3 (by decide +kernel) dX3_ballCount_19 ?_
        refine g_icmp_ge (tgt := 65) E dX3_ballCount_22 (by decide) (by omega) (by omega) (fun c_22 => ?_) (fun c_22 => ?_)
        · refine g_iload_n E dX3_ballCount_65 rfl ?_
          exact g_iret E (⟨by rw [cntV, if_neg c_2, show (np a).toNat = kk by omega]; split <;> rfl, rfl⟩) dX3_ballCount_66
        · refine g_iload_n E dX3_ballCount_25 rfl ?_
          refine g_iload_n E dX3_ballCount_26 rfl ?_
          refine g_bipush E dX3_ballCount_27 (by decide) ?_
          refine g_icmp_ne (tgt := 48) E dX3_ballCount_29 (by decide) (by omega) (by omega) (fun c_29 => ?_) (fun c_29 => ?_)
          · have hst : (if w9 = 6 then ruAll a (kk + 1) else blAll a (kk + 1)) = (if w9 = 6 then ruAll a kk else blAll a kk) + bl a kk := by rw [if_neg c_29, if_neg c_29]; rfl
            refine g_aload_n E dX3_ballCount_48 rfl ?_
            refine gx_Yard_piles' E (mem_y _ (by omega)) hin3 (by decide +kernel) dX3_ballCount_49 ?_
            refine g_iload_n E dX3_ballCount_52 rfl ?_
            refine lx_10' E (mem_10 _ (by omega)) (by omega) dX3_ballCount_53 ?_
            refine gx_Pile_balls' E (mem_1 _ (by omega) _ (by omega)) hin1 (by decide +kernel) dX3_ballCount_54 ?_
            refine g_iadd E dX3_ballCount_57 ?_
            refine g_istore_n E dX3_ballCount_58 (by decide) ?_
            refine g_iinc E dX3_ballCount_59 rfl (by decide) ?_
            refine g_goto (tgt := 17) E dX3_ballCount_62 (by decide) ?_
            refine g_loc (lv' := [(0, .ref (ad y 0 0)), (1, .int (zI w9)), (2, .int (zI (if w9 = 6 then ruAll a (kk + 1) else blAll a (kk + 1)))), (3, .int (zI ((kk + 1) : Int)))]) ⟨rfl, rfl, congrArg (fun z => some (Value.int (zI z))) hst.symm, rfl, trivial⟩ ?_
            exact ih_kk (kk + 1) (by omega) (by omega)
          · have hst : (if w9 = 6 then ruAll a (kk + 1) else blAll a (kk + 1)) = (if w9 = 6 then ruAll a kk else blAll a kk) + rustyN a kk (a 0 0 4) (bl a kk).toNat := by rw [if_pos c_29, if_pos c_29]; rfl
            refine g_aload_n E dX3_ballCount_32 rfl ?_
            refine gx_Yard_piles' E (mem_y _ (by omega)) hin3 (by decide +kernel) dX3_ballCount_33 ?_
            refine g_iload_n E dX3_ballCount_36 rfl ?_
            refine lx_10' E (mem_10 _ (by omega)) (by omega) dX3_ballCount_37 ?_
            refine g_aload_n E dX3_ballCount_38 rfl ?_
            refine gx_Yard_limit' E (mem_y _ (by omega)) hin3 (by decide +kernel) dX3_ballCount_39 ?_
            refine g_callVi (T := TX1) (ci := 1) (n := 1) (As := [_]) (rest := _) E (c_X1_rustyBalls l D cA A ad σ y kk a (by omega) (by omega) (hPI kk (by omega)).1 _) gX3_ballCount_X1_rustyBalls rfl ⟨rfl, rfl⟩ (by decide +kernel) ⟨Nat.le_of_ble_eq_true rfl, Nat.le_of_ble_eq_true rfl⟩ (ob_1 (mem_1 _ (by omega) _ (by omega))) rfl rfl rfl (Nat.le_of_ble_eq_true rfl) ⟨Nat.le_of_ble_eq_true rfl, Nat.le_of_ble_eq_true rfl⟩ dX3_ballCount_42 ?_
            rintro r_42 ws_42 ⟨rfl, rfl⟩
            refine g_goto (tgt := 57) E dX3_ballCount_45 (by decide) ?_
            refine g_iadd E dX3_ballCount_57 ?_
            refine g_istore_n E dX3_ballCount_58 (by decide) ?_
            refine g_iinc E dX3_ballCount_59 rfl (by decide) ?_
            refine g_goto (tgt := 17) E dX3_ballCount_62 (by decide) ?_
            refine g_loc (lv' := [(0, .ref (ad y 0 0)), (1, .int (zI w9)), (2, .int (zI (if w9 = 6 then ruAll a (kk + 1) else blAll a (kk + 1)))), (3, .int (zI ((kk + 1) : Int)))]) ⟨rfl, rfl, congrArg (fun z => some (Value.int (zI z))) hst.symm, rfl, trivial⟩ ?_
            exact ih_kk (kk + 1) (by omega) (by omega)
    refine g_loc (lv' := [(0, .ref (ad y 0 0)), (1, .int (zI w9)), (2, .int (zI (if w9 = 6 then ruAll a 0 else blAll a 0))), (3, .int (zI (0 : Int)))]) ⟨rfl, rfl, congrArg (fun z => some (Value.int (zI z))) (by split <;> rfl), rfl, trivial⟩ ?_
    exact key_kk ((np a) + 1).toNat.succ 0 (by omega) (by omega)
  · refine g_aload_n E dX3_ballCount_5 rfl ?_
    refine gx_Yard_loose' E (mem_y _ (by omega)) hin3 (by decide +kernel) dX3_ballCount_6 ?_
    refine g_callVi (T := TX6) (ci := 6) (n := 0) (As := []) (rest := _) E (c_X6_all l D cA A ad _ _ 4 _ (TY_4 _ (by omega))) gX3_ballCount_X6_all rfl ⟨rfl, rfl⟩ (by decide +kernel) ⟨Nat.le_of_ble_eq_true rfl, Nat.le_of_ble_eq_true rfl⟩ (ob_T (TY_4 _ (by omega))) rfl rfl rfl (Nat.le_of_ble_eq_true rfl) ⟨Nat.le_of_ble_eq_true rfl, Nat.le_of_ble_eq_true rfl⟩ dX3_ballCount_9 ?_
    rintro r_9 ws_9 ⟨rfl, rfl⟩
    exact g_iret E (⟨by rw [cntV, if_pos c_2], rfl⟩) dX3_ballCount_12
