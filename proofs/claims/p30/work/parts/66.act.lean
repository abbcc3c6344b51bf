/-! ===== ACT whole; cell; build ===== -/
/-- what cell and build find: the script too -/
def PcB (D : va_G) (tys : gT) (A : Nat → Prop) (b9 L9 : Nat) (xs : Nat → Int32) (ws : va_W) (As : List Value) : Array Value → State → Prop := fun a U => PcX D tys A ws As a U ∧ va_X b9 L9 xs U U.heap ∧ b9 < U.heap.size
theorem PcB.blind {D : va_G} {tys : gT} {A : Nat → Prop} {b9 L9 : Nat} {xs : Nat → Int32} {ws : va_W} {As : List Value} : FrameBlind (PcB D tys A b9 L9 xs ws As) := fun a U g mk h => ⟨PcX.blind a U g mk h.1, va_X.moved (u := U) (U := U.calling g mk a) (Vm.Alike.refl U.vm) h.2.1, h.2.2⟩
theorem PcB.at {D : va_G} {tys : gT} {A : Nat → Prop} {b9 L9 : Nat} {xs : Nat → Int32} {ws : va_W} {As : List Value} {s U : State} {H : Heap} {locs : List Loc} (hU : U.heap = H) (hW : s.WarmedH U.vm) (hP : va_P D vwCl ws H) (hK : gK D tys s) (hD : va_D A ws) (hS : va_S A s.heap H locs) (hZ : gZ A s) (hX : gX s) (hx : va_X b9 L9 xs s s.heap) (hb : b9 < s.heap.size) (hA : ¬ A b9) : PcB D tys A b9 L9 xs ws As As.toArray U := ⟨PcX.at hU hW hP hK hD hS hZ hX, by rw [hU]; exact (hx.kept (hS.2.1 b9 hb hA)).moved hW.alike, by rw [hU]; exact Nat.lt_of_lt_of_le hb hS.1⟩
/-- a method's contract out of the walk of its body -/
theorem g_metB {l : Launch} {D : va_G} {tys : gT} {A : Nat → Prop} {ws0 : va_W} {As : List Value} {y : MethodName} {wsc wsc' : List Cond} {rm : Room} {Qc : Array Value → State → Outcome → State → Prop} {mc ms : Nat} {cc : ByteArray} {maxL : Nat} {ret : Option FieldType} {own : String} {b9 L9 : Nat} {xs : Nat → Int32} (ho : y.cls = own) (hy : plainName y.cls = true) (hw : wsc = Cond.code y cc maxL ret :: wsc') (hlen : (lg_sl As).length ≤ maxL)
    (body : ∀ (p : Program) (e : Env) (s : State) (m : MethodId) (below : List Frame) (meth : Method) (c : Code), GE p s m As.toArray meth c D tys cc maxL own wsc ret → gZ A s → gX s → va_X b9 L9 xs s s.heap → b9 < s.heap.size → GW p l e (headSpec wsc rm).room s m As.toArray below meth c (MQ below Qc As.toArray s mc ms A) D A maxL ws0 0 0 0 (lv_args 0 As) []) : Met l y wsc rm (PcB D tys A b9 L9 xs ws0 As) Qc mc ms A := by
  refine Met.ofW (cc := cc) (maxL := maxL) (ret := ret) hy hw ?_
  intro p e s m args below meth c s₁ B hml hv
  obtain ⟨⟨rfl, ⟨⟨hP, hK, hD⟩, hZ⟩, hX⟩, hx, hb9⟩ := hv
  subst ho
  have E : GE p s m As.toArray meth c D tys cc maxL y.cls wsc ret := ⟨B.exec, B.bytes, hml, findClass_of_methodNamed B.named, atoms_spec (ws := wsc) B.pre, hK, B.returns, B.notSynchronized⟩
  rw [lg_entry_eq]
  exact body p e s m below meth c E hZ hX hx hb9 s.heap [] _ hP hD va_S.rf (lv_entry As hlen)
section BLD
variable {p : Program} {l : Launch} {e : Env} {R : Room} {s : State} {m : MethodId} {args : Array Value} {below : List Frame} {meth : Method} {c : Code} {Q : State → Prop} {D : va_G} {tys : gT} {A : Nat → Prop} {nL : Nat} {ws w0 w1 w2 w3 : va_W} {cells slots pc : Nat} {lv : List (Nat × Value)} {st : List Value} {cc : ByteArray} {own : String} {Ts : List Cond} {ret : Option FieldType}
theorem g_bTi (E : GE p s m args meth c D tys cc nL own Ts ret) (Z : gZ A s) (X : gX s) {b9 L9 : Nat} {xs : Nat → Int32} (hX : va_X b9 L9 xs s s.heap) (hbl : b9 < s.heap.size) (hbA : ¬ A b9) {y : MethodName} {bytes : ByteArray} {maxL : Nat} {rt : Option FieldType} {wsc wsc' : List Cond} {rm : Room} {n index mc ms : Nat} {As rest : List Value} {post : Int32 → va_W → Prop} (hM : Met l y wsc rm (PcB D tys A b9 L9 xs ws As) (va_Qi post (gB D A) A) mc ms A)
    (hG : GoodIn Ts (va_wsS own index y wsc)) (hw : wsc = Cond.code y bytes maxL rt :: wsc') (hrm : rm.cells = mc ∧ rm.slots = ms) (hd : y.cls ≠ "java/lang/invoke/MethodHandle" ∧ y.cls ≠ "java/lang/invoke/VarHandle" ∧ (parseMethodDescriptor y.desc).map (fun d => d.parameters.length) = some n) (hR : rm.frames + 1 ≤ R.frames ∧ 8 + (maxL + 11) + rm.locals ≤ R.locals)
    (hn : As.length = n) (hst : st = As.reverse ++ rest) (hst8 : (rest.map fun v => v.category).sum ≤ 8) (hf : cells + mc ≤ R.cells ∧ slots + ms ≤ R.slots) (hdg : decode cc pc = .ok (.invokestatic index, 3))
    (kk : ∀ (r : Int32) (ws' : va_W), post r ws' → GW p l e R s m args below meth c Q D A nL ws' (cells + mc) (slots + ms) (pc + 3) lv (.int r :: rest)) : GW p l e R s m args below meth c Q D A nL ws cells slots pc lv st := by
  intro H locs ls hP hD hS h0
  subst hst
  exact va_calli (va_runS (As := As) (rest := rest) ⟨E.1, E.2.1, E.2.2.1, E.2.2.2.1, E.2.2.2.2.1⟩ hM (va_cwS n E.2.2.2.2.1 hG hw hrm.1 hrm.2 hd hR) ⟨PcB.blind, fun U hU hW => PcB.at hU hW hP E.2.2.2.2.2.1 hD hS Z X hX hbl hbA⟩ rfl hn (h0.1) rfl (lv_room hst8) hdg hf) hS (fun q _ h => h) (fun q h => h) (fun r ws' t H1 locs1 ht _ hp hB _ _ hS' => kk r ws' hp H1 locs1 ls (by rw [← ht]; exact hB.1) hB.2 hS' h0)
theorem g_bTr (E : GE p s m args meth c D tys cc nL own Ts ret) (Z : gZ A s) (X : gX s) {b9 L9 : Nat} {xs : Nat → Int32} (hX : va_X b9 L9 xs s s.heap) (hbl : b9 < s.heap.size) (hbA : ¬ A b9) {y : MethodName} {bytes : ByteArray} {maxL : Nat} {rt : Option FieldType} {wsc wsc' : List Cond} {rm : Room} {n index mc ms : Nat} {As rest : List Value} {post : Nat → va_W → Prop} (hM : Met l y wsc rm (PcB D tys A b9 L9 xs ws As) (va_Qr (fun _ => True) (fun u ra t => gB D A u t ∧ post ra u) A) mc ms A)
    (hG : GoodIn Ts (va_wsS own index y wsc)) (hw : wsc = Cond.code y bytes maxL rt :: wsc') (hrm : rm.cells = mc ∧ rm.slots = ms) (hd : y.cls ≠ "java/lang/invoke/MethodHandle" ∧ y.cls ≠ "java/lang/invoke/VarHandle" ∧ (parseMethodDescriptor y.desc).map (fun d => d.parameters.length) = some n) (hR : rm.frames + 1 ≤ R.frames ∧ 8 + (maxL + 11) + rm.locals ≤ R.locals)
    (hn : As.length = n) (hst : st = As.reverse ++ rest) (hst8 : (rest.map fun v => v.category).sum ≤ 8) (hf : cells + mc ≤ R.cells ∧ slots + ms ≤ R.slots) (hdg : decode cc pc = .ok (.invokestatic index, 3))
    (kk : ∀ (r : Nat) (ws' : va_W), post r ws' → GW p l e R s m args below meth c Q D A nL ws' (cells + mc) (slots + ms) (pc + 3) lv (.ref r :: rest)) : GW p l e R s m args below meth c Q D A nL ws cells slots pc lv st := by
  intro H locs ls hP hD hS h0
  subst hst
  exact va_callr (va_runS (As := As) (rest := rest) ⟨E.1, E.2.1, E.2.2.1, E.2.2.2.1, E.2.2.2.2.1⟩ hM (va_cwS n E.2.2.2.2.1 hG hw hrm.1 hrm.2 hd hR) ⟨PcB.blind, fun U hU hW => PcB.at hU hW hP E.2.2.2.2.2.1 hD hS Z X hX hbl hbA⟩ rfl hn (h0.1) rfl (lv_room hst8) hdg hf) hS (fun q _ h => h) (fun q h => h) (fun ws' r t H1 locs1 ht _ _ hB _ _ hS' => kk r ws' hB.2 H1 locs1 ls (by rw [← ht]; exact hB.1.1) hB.1.2 hS' h0)
theorem g_sld (E : GE p s m args meth c D tys cc nL own Ts ret) {b L : Nat} {xs : Nat → Int32} {z : Int} (hX : va_X b L xs s s.heap) (hbl : b < s.heap.size) (hbA : ¬ A b) (hz : 0 ≤ z ∧ z < L) (hL : L ≤ 2560) (hdg : decode cc pc = .ok (.iaload, 1))
    (kk : GW p l e R s m args below meth c Q D A nL ws cells slots (pc + 1) lv (.int (zI (xs z.toNat).toInt) :: st)) : GW p l e R s m args below meth c Q D A nL ws cells slots pc lv (.int (zI z) :: .ref b :: st) :=
  fun H locs ls hP hD hS h0 => va_sld E.1 E.2.1 hX hbl hbA hS (zI_in hz (by omega)) hdg (by rw [zI_cl (by omega), ← zI_self (xs z.toNat)]; exact kk H locs ls hP hD hS h0)
theorem g_slen (E : GE p s m args meth c D tys cc nL own Ts ret) {b L : Nat} {xs : Nat → Int32} (hX : va_X b L xs s s.heap) (hbl : b < s.heap.size) (hbA : ¬ A b) (hdg : decode cc pc = .ok (.arraylength, 1))
    (kk : GW p l e R s m args below meth c Q D A nL ws cells slots (pc + 1) lv (.int (zI (L : Int)) :: st)) : GW p l e R s m args below meth c Q D A nL ws cells slots pc lv (.ref b :: st) :=
  fun H locs ls hP hD hS h0 => va_slen E.1 E.2.1 hX hbl hbA hS hdg (by rw [show Int32.ofNat L = zI (L : Int) from zI_nI L]; exact kk H locs ls hP hD hS h0)
end BLD
theorem J.mono {t t2 : Int} {a : St} (h : J t a) (ht : t ≤ t2) : J t2 a := ⟨h.1, h.2.1, h.2.2.1, h.2.2.2.1, fun c hc => by have := h.2.2.2.2.1 c hc; omega, h.2.2.2.2.2.1, by have := h.2.2.2.2.2.2; omega⟩
theorem J0 : J 0 al0 := by
  have en : np al0 = 0 := by decide
  have z : ∀ t c : Nat, ¬ t = 3 → ¬ t = 0 → (al0 t 0 c).toInt = 0 := fun t c h1 h2 => by rw [al0_0 (by omega) (by omega)]; rfl
  refine ⟨Inv0, fun p k hp => ?_, by unfold WB rn lim; decide, fun c _ => ?_, fun c _ => ?_, by unfold dy; decide, by unfold dy; decide⟩
  · rw [en] at hp; omega
  · unfold sto loo fir gon
    rw [z 5 c (by omega) (by omega), z 4 c (by omega) (by omega), z 6 c (by omega) (by omega), z 7 c (by omega) (by omega)]
    omega
  · unfold tot sto loo fir gon
    rw [z 5 c (by omega) (by omega), z 4 c (by omega) (by omega), z 6 c (by omega) (by omega), z 7 c (by omega) (by omega), en]
    show (0 : Int) + 0 + 0 + 0 + 0 ≤ 99 * 0
    decide
set_option maxHeartbeats 1600000 in
set_option maxRecDepth 100000 in
/-- the switch -/
theorem act_sw {p : Program} {l : Launch} {e : Env} {s : State} {m : MethodId} {below : List Frame} {meth : Method} {c : Code} {D : va_G} {A : Nat → Prop} {cA : Nat → ClassId} {am ad : Ad} {σ : Nat → St} {L : List Id3} {w3 : va_W} {a : St} {t : Int} {x9 : Int32} {p9 : Nat} {vits : Value} {srt : Int} (hl0 : l.stackTraces = false) (E : GE p s m ([.ref (ad 0 8 0), .ref (am 0 0 0), .int x9] : List Value).toArray meth c D (tysX cA) cL_act 26 RL wsL_act (some .boolean)) (Z : gZ A s) (X : gX s) (hS : SH L a) (hJ : J t a) (ht : 0 ≤ t ∧ t ≤ 100) (hits : np a = 0 ∨ (vits = .ref (am 1 p9 0) ∧ (p9 : Int) < np a)) (hsr : beV (x9 >>> (zI 9 &&& 31)) 20 = srt) : GW p l e (headSpec wsL_act ({ frames := 9, cells := 120, slots := 2000, locals := 200 })).room s m ([.ref (ad 0 8 0), .ref (am 0 0 0), .int x9] : List Value).toArray below meth c (MQ below (va_Qi (ActP cA am ad σ w3 a t srt) (gB D A) A) ([.ref (ad 0 8 0), .ref (am 0 0 0), .int x9] : List Value).toArray s 120 2000 A) D A 26 (wS cA am L a ++ (wX cA ad (upY σ 0 a) ++ w3)) (0) (0) 40 [(0, .ref (ad 0 8 0)), (1, .ref (am 0 0 0)), (2, .int x9), (3, .int (zI (np a))), (4, .int (zI (p9 : Int))), (5, vits)] [] := by
  have hA : ∀ q, s.heap.size ≤ q → A q := Z.2.1
  have hI := hJ.1
  obtain ⟨hL, hB, hPm, hCm, -, -⟩ := id hS
  obtain ⟨⟨hn0, hn6, hc0, hc3⟩, hPI, hCI, hFr⟩ := id hI
  refine g_iload_n E dL_act_40 rfl ?_
  refine g_bipush E dL_act_41 (by decide) ?_
  refine g_ishr E dL_act_43 ?_
  refine g_bipush E dL_act_44 (by decide) ?_
  refine g_callTi (n := 2) (As := [_, _]) (rest := _) E (c_L_below l D cA A _ (x9 >>> (zI 9 &&& 31)) 20 (by omega)) gL_act_L_below rfl ⟨rfl, rfl⟩ (by decide +kernel) ⟨Nat.le_of_ble_eq_true rfl, Nat.le_of_ble_eq_true rfl⟩ rfl rfl (Nat.le_of_ble_eq_true rfl) ⟨by show (_ : Nat) ≤ 120; omega, by show (_ : Nat) ≤ 2000; omega⟩ dL_act_46 ?_
  rintro r_46 ws_46 ⟨rfl, rfl⟩
  have hb_46 := beV_b (x9 >>> (zI 9 &&& 31)) (show (1 : Int) ≤ 20 by omega)
  rw [hsr] at hb_46 ⊢
  by_cases sw_0 : srt = 0
  · subst sw_0
    refine g_tab (tgt := 128) E dL_act_49 (by decide) (by decide) (by decide) rfl (by decide) ?_
    refine g_loc (lv' := [(0, .ref (ad 0 8 0)), (1, .ref (am 0 0 0)), (2, .int x9), (3, .int (zI (np a))), (4, .int (zI (p9 : Int)))]) ⟨rfl, rfl, rfl, rfl, rfl, trivial⟩ ?_
    exact act_0 hl0 E Z X hS hJ ht hits (by omega)
  by_cases sw_1 : srt = 1
  · subst sw_1
    refine g_tab (tgt := 233) E dL_act_49 (by decide) (by decide) (by decide) rfl (by decide) ?_
    refine g_loc (lv' := [(0, .ref (ad 0 8 0)), (1, .ref (am 0 0 0)), (2, .int x9), (3, .int (zI (np a))), (4, .int (zI (p9 : Int)))]) ⟨rfl, rfl, rfl, rfl, rfl, trivial⟩ ?_
    exact act_1 hl0 E Z X hS hJ ht hits (by omega)
  by_cases sw_2 : srt = 2
  · subst sw_2
    refine g_tab (tgt := 352) E dL_act_49 (by decide) (by decide) (by decide) rfl (by decide) ?_
    exact act_2 hl0 E Z X hS hJ ht hits (by omega)
  by_cases sw_3 : srt = 3
  · subst sw_3
    refine g_tab (tgt := 352) E dL_act_49 (by decide) (by decide) (by decide) rfl (by decide) ?_
    exact act_2 hl0 E Z X hS hJ ht hits (by omega)
  by_cases sw_4 : srt = 4
  · subst sw_4
    refine g_tab (tgt := 409) E dL_act_49 (by decide) (by decide) (by decide) rfl (by decide) ?_
    exact act_4 hl0 E Z X hS hJ ht hits (by omega)
  by_cases sw_5 : srt = 5
  · subst sw_5
    refine g_tab (tgt := 445) E dL_act_49 (by decide) (by decide) (by decide) rfl (by decide) ?_
    exact act_5 hl0 E Z X hS hJ ht hits (by omega)
  by_cases sw_6 : srt = 6
  · subst sw_6
    refine g_tab (tgt := 484) E dL_act_49 (by decide) (by decide) (by decide) rfl (by decide) ?_
    exact act_6 hl0 E Z X hS hJ ht hits (by omega)
  by_cases sw_7 : srt = 7
  · subst sw_7
    refine g_tab (tgt := 484) E dL_act_49 (by decide) (by decide) (by decide) rfl (by decide) ?_
    exact act_6 hl0 E Z X hS hJ ht hits (by omega)
  by_cases sw_8 : srt = 8
  · subst sw_8
    refine g_tab (tgt := 484) E dL_act_49 (by decide) (by decide) (by decide) rfl (by decide) ?_
    exact act_6 hl0 E Z X hS hJ ht hits (by omega)
  by_cases sw_9 : srt = 9
  · subst sw_9
    refine g_tab (tgt := 484) E dL_act_49 (by decide) (by decide) (by decide) rfl (by decide) ?_
    exact act_6 hl0 E Z X hS hJ ht hits (by omega)
  by_cases sw_10 : srt = 10
  · subst sw_10
    refine g_tab (tgt := 595) E dL_act_49 (by decide) (by decide) (by decide) rfl (by decide) ?_
    exact act_10 hl0 E Z X hS hJ ht hits (by omega)
  by_cases sw_11 : srt = 11
  · subst sw_11
    refine g_tab (tgt := 709) E dL_act_49 (by decide) (by decide) (by decide) rfl (by decide) ?_
    exact act_11 hl0 E Z X hS hJ ht hits (by omega)
  by_cases sw_12 : srt = 12
  · subst sw_12
    refine g_tab (tgt := 813) E dL_act_49 (by decide) (by decide) (by decide) rfl (by decide) ?_
    exact act_12 hl0 E Z X hS hJ ht hits (by omega)
  by_cases sw_13 : srt = 13
  · subst sw_13
    refine g_tab (tgt := 920) E dL_act_49 (by decide) (by decide) (by decide) rfl (by decide) ?_
    exact act_13 hl0 E Z X hS hJ ht hits (by omega)
  by_cases sw_14 : srt = 14
  · subst sw_14
    refine g_tab (tgt := 1046) E dL_act_49 (by decide) (by decide) (by decide) rfl (by decide) ?_
    exact act_14 hl0 E Z X hS hJ ht hits (by omega)
  by_cases sw_15 : srt = 15
  · subst sw_15
    refine g_tab (tgt := 1116) E dL_act_49 (by decide) (by decide) (by decide) rfl (by decide) ?_
    exact act_15 hl0 E Z X hS hJ ht hits (by omega)
  refine g_tabOut (tgt := 1177) E dL_act_49 (by omega) (by omega) (by decide) ?_
  exact act_16 hl0 E Z X hS hJ ht hits (by omega)
set_option maxHeartbeats 1600000 in
set_option maxRecDepth 100000 in
/-- act(b, sim, x) -/
theorem c_L_act (l : Launch) (hl0 : l.stackTraces = false) (D : va_G) (cA : Nat → ClassId) (A : Nat → Prop) (am ad : Ad) (σ : Nat → St) (L : List Id3) (w3 : va_W) (a : St) (t : Int) (x9 : Int32) (hS : SH L a) (hJ : J t a) (ht : 0 ≤ t ∧ t ≤ 100) : Met l yL_act wsL_act ({ frames := 9, cells := 120, slots := 2000, locals := 200 }) (PcX D (tysX cA) A (wS cA am L a ++ (wX cA ad (upY σ 0 a) ++ w3)) [.ref (ad 0 8 0), .ref (am 0 0 0), .int x9]) (va_Qi (ActP cA am ad σ w3 a t (beV (x9 >>> (zI 9 &&& 31)) 20)) (gB D A) A) 120 2000 A := by
  refine g_metX (cc := cL_act) (maxL := 26) (ret := (some .boolean)) (own := RL) rfl (by decide) rfl (Nat.le_of_ble_eq_true rfl) ?_
  intro p e s m below meth c E Z X
  have hin5 : ∀ w ∈ u_ws RX5 TX5 9, w ∈ wsL_act := by decide +kernel
  have hI := hJ.1
  obtain ⟨hL, hB, hPm, hCm, -, -⟩ := id hS
  obtain ⟨⟨hn0, hn6, hc0, hc3⟩, hPI, hCI, hFr⟩ := id hI
  refine g_loc (lv' := [(0, .ref (ad 0 8 0)), (1, .ref (am 0 0 0)), (2, .int x9)]) ⟨rfl, rfl, rfl, trivial⟩ ?_
  refine g_aload_n E dL_act_0 rfl ?_
  refine gs_Sim_piles E hB.1 hin5 (by decide +kernel) dL_act_1 ?_
  refine ns_10 E hB.2.2.2.2.2.1 (by omega) dL_act_4 ?_
  refine g_istore_n E dL_act_5 (by decide) ?_
  refine g_iload_n E dL_act_6 rfl ?_
  refine g_if_ne (tgt := 14) E dL_act_7 (by decide) (by omega) (fun c_7 => ?_) (fun c_7 => ?_)
  · refine g_iload_n E dL_act_14 rfl ?_
    refine g_iconst E dL_act_15 ?_
    refine g_ishr E dL_act_16 ?_
    refine g_iload_n E dL_act_17 rfl ?_
    refine g_callTi (n := 2) (As := [_, _]) (rest := _) E (c_L_below l D cA A _ (x9 >>> (zI 1 &&& 31)) (np a) (by omega)) gL_act_L_below rfl ⟨rfl, rfl⟩ (by decide +kernel) ⟨Nat.le_of_ble_eq_true rfl, Nat.le_of_ble_eq_true rfl⟩ rfl rfl (Nat.le_of_ble_eq_true rfl) ⟨by show (_ : Nat) ≤ 120; omega, by show (_ : Nat) ≤ 2000; omega⟩ dL_act_18 ?_
    rintro r_18 ws_18 ⟨rfl, rfl⟩
    have hb_18 := beV_b (x9 >>> (zI 1 &&& 31)) (show (1 : Int) ≤ np a by omega)
    obtain ⟨p9, hp9⟩ := Int.eq_ofNat_of_zero_le hb_18.1
    rw [hp9]
    refine g_istore E dL_act_21 (by decide) ?_
    refine g_iload_n E dL_act_23 rfl ?_
    refine g_if_ne (tgt := 31) E dL_act_24 (by decide) (by omega) (fun c_24 => ?_) (fun c_24 => ?_)
    · refine g_aload_n E dL_act_31 rfl ?_
      refine gs_Sim_piles E hB.1 hin5 (by decide +kernel) dL_act_32 ?_
      refine g_iload E dL_act_35 rfl ?_
      refine ls_10 E hB.2.2.2.2.2.1 (by omega) dL_act_37 ?_
      refine g_top (v' := .ref (am 1 p9 0)) (rfl) ?_
      refine g_astore E dL_act_38 (by decide) ?_
      refine g_loc (lv' := [(0, .ref (ad 0 8 0)), (1, .ref (am 0 0 0)), (2, .int x9), (3, .int (zI (np a))), (4, .int (zI (p9 : Int))), (5, .ref (am 1 p9 0))]) ⟨rfl, rfl, rfl, rfl, rfl, rfl, trivial⟩ ?_
      exact act_sw (p9 := p9) (vits := .ref (am 1 p9 0)) hl0 E Z X hS hJ ht (Or.inr ⟨rfl, by omega⟩) rfl
    · exact False.elim (by omega)
  · refine g_iconst E dL_act_10 ?_
    refine g_goto (tgt := 21) E dL_act_11 (by decide) ?_
    refine g_istore E dL_act_21 (by decide) ?_
    refine g_iload_n E dL_act_23 rfl ?_
    refine g_if_ne (tgt := 31) E dL_act_24 (by decide) (by omega) (fun c_24 => ?_) (fun c_24 => ?_)
    · exact False.elim (by omega)
    · refine g_anull E dL_act_27 ?_
      refine g_goto (tgt := 38) E dL_act_28 (by decide) ?_
      refine g_astoreN E dL_act_38 (by decide) ?_
      refine g_loc (lv' := [(0, .ref (ad 0 8 0)), (1, .ref (am 0 0 0)), (2, .int x9), (3, .int (zI (np a))), (4, .int (zI 0)), (5, .null)]) ⟨rfl, rfl, rfl, rfl, rfl, rfl, trivial⟩ ?_
      exact act_sw (p9 := 0) (vits := .null) hl0 E Z X hS hJ ht (Or.inl (by omega)) rfl
set_option maxHeartbeats 1600000 in
set_option maxRecDepth 100000 in
theorem c_L_cell (l : Launch) (D : va_G) (cA : Nat → ClassId) (A : Nat → Prop) (b9 L9 : Nat) (xs : Nat → Int32) (hbA : ¬ A b9) (hL9 : L9 ≤ 2560) (ws : va_W) (k9 : Int) (hk : 0 ≤ k9 ∧ k9 < 1000) : Met l yL_cell wsL_cell ({ frames := 1, cells := 0, slots := 0, locals := 23 }) (PcB D (tysX cA) A b9 L9 xs ws [.ref b9, .int (zI k9)]) (va_Qi (fun (r : Int32) ws' => ws' = ws) (gB D A) A) 0 0 A := by
  refine g_metB (cc := cL_cell) (maxL := 2) (ret := (some .int)) (own := RL) rfl (by decide) rfl (Nat.le_of_ble_eq_true rfl) ?_
  intro p e s m below meth c E Z X hX hbl
  refine g_loc (lv' := [(0, .ref b9), (1, .int (zI k9))]) ⟨rfl, rfl, trivial⟩ ?_
  refine g_iload_n E dL_cell_0 rfl ?_
  refine g_aload_n E dL_cell_1 rfl ?_
  refine g_slen E hX hbl hbA dL_cell_2 ?_
  refine g_icmp_ge (tgt := 12) E dL_cell_3 (by decide) (by omega) (by omega) (fun c_3 => ?_) (fun c_3 => ?_)
  · refine g_ldc (v := 790386105) E (by decide +kernel) dL_cell_12 ?_
    refine g_iload_n E dL_cell_14 rfl ?_
    refine g_iconst E dL_cell_15 ?_
    refine g_iadd E dL_cell_16 ?_
    refine g_imulR E dL_cell_17 ?_
    refine g_wid (k := 0) (n := 0) (by omega) (by omega) ?_
    exact g_iret E (rfl) dL_cell_18
  · refine g_aload_n E dL_cell_6 rfl ?_
    refine g_iload_n E dL_cell_7 rfl ?_
    refine g_sld E hX hbl hbA (by omega) (by omega) dL_cell_8 ?_
    refine g_goto (tgt := 18) E dL_cell_9 (by decide) ?_
    refine g_wid (k := 0) (n := 0) (by omega) (by omega) ?_
    exact g_iret E (rfl) dL_cell_18
set_option maxHeartbeats 1600000 in
set_option maxRecDepth 100000 in
theorem c_L_build (l : Launch) (hl0 : l.stackTraces = false) (D : va_G) (cA : Nat → ClassId) (A : Nat → Prop) (b9 L9 : Nat) (xs : Nat → Int32) (hbA : ¬ A b9) (hL9 : L9 ≤ 2560) (ad : Ad) (σ : Nat → St) : Met l yL_build wsL_build ({ frames := 10, cells := 8000, slots := 130000, locals := 300 }) (PcB D (tysX cA) A b9 L9 xs (wX cA ad (upY σ 0 al0)) [.ref (ad 0 8 0), .ref b9]) (va_Qr (fun _ => True) (fun u ra t => gB D A u t ∧ ∃ (am : Ad) (L : List Id3) (a : St), ra = am 0 0 0 ∧ SH L a ∧ J 62 a ∧ u = wS cA am L a ++ (wX cA ad (upY σ 0 a) ++ [])) A) 8000 130000 A := by
  refine g_metB (cc := cL_build) (maxL := 5) (ret := (some (.object "CannonStacksLaw$Sim"))) (own := RL) rfl (by decide) rfl (Nat.le_of_ble_eq_true rfl) ?_
  intro p e s m below meth c E Z X hX hbl
  have hA : ∀ q, s.heap.size ≤ q → A q := Z.2.1
  have hin5 : ∀ w ∈ u_ws RX5 TX5 9, w ∈ wsL_build := by decide +kernel
  refine g_loc (lv' := [(0, .ref (ad 0 8 0)), (1, .ref b9)]) ⟨rfl, rfl, trivial⟩ ?_
  refine g_new (fs := [.int 0, .int 0, .int 0, .null, .null, .null, .null, .null, .null]) (T := TX5) (N := 9) (ci := 5) E hA hin5 tyX5 tyX5_ok (by decide +kernel) (by decide +kernel) (by decide +kernel) rfl (fun j hj => by rcases (show j = 0 ∨ j = 1 ∨ j = 2 ∨ j = 3 ∨ j = 4 ∨ j = 5 ∨ j = 6 ∨ j = 7 ∨ j = 8 by omega) with rfl | rfl | rfl | rfl | rfl | rfl | rfl | rfl | rfl <;> rfl) (by show (_ : Nat) ≤ 8000; omega) (by show (_ : Nat) ≤ 130000; omega) dL_build_0 (fun o9 => ?_)
  refine g_dup E dL_build_3 rfl ?_
  refine g_callK (n := 0) (As := []) (rest := [.ref o9]) (wr := wX cA ad (upY σ 0 al0)) E hA X.1 (fun sz => c_X5_init l D cA sz _) gL_build_X5_init_n125 rfl ⟨rfl, rfl⟩ (by decide +kernel) X.2 (by decide +kernel) rfl (by decide +kernel) ?_ rfl rfl ?_ ?_ dL_build_4 ?_
  · exact ⟨Nat.le_of_ble_eq_true rfl, Nat.le_of_ble_eq_true rfl⟩
  · exact Nat.le_of_ble_eq_true rfl
  · exact ⟨Nat.le_of_ble_eq_true rfl, Nat.le_of_ble_eq_true rfl⟩
  rintro w1 ⟨q1, q2, q3, q4, q5, q6, rfl⟩
  refine g_new0 ?_
  obtain ⟨am, ham⟩ : ∃ z : Ad, am0 o9 q1 q2 q3 q4 q5 q6 = z := ⟨_, rfl⟩
  have hao : o9 = am 0 0 0 := (by rw [← ham]; rfl)
  rw [ham, hao]
  obtain ⟨L, hL⟩ : ∃ z : List Id3, L0 = z := ⟨_, rfl⟩
  have hS : SH L al0 := (by rw [← hL]; exact SH0)
  rw [hL]
  obtain ⟨a, ha⟩ : ∃ z : St, al0 = z := ⟨_, rfl⟩
  have hJ : J 0 a := (by rw [← ha]; exact J0)
  rw [ha] at hS ⊢
  refine g_st (ws' := wS cA am L a ++ (wX cA ad (upY σ 0 a) ++ [])) (by rw [List.append_nil]) rfl rfl ?_
  skip
  refine g_astore_n E dL_build_7 (by decide) ?_
  refine g_bipush E dL_build_8 (by decide) ?_
  refine g_aload_n E dL_build_10 rfl ?_
  refine g_iconst E dL_build_11 ?_
  refine g_bTi (n := 2) (As := [_, _]) (rest := _) E Z X hX hbl hbA (c_L_cell l D cA A b9 L9 xs hbA hL9 _ 0 (by omega)) gL_build_L_cell rfl ⟨rfl, rfl⟩ (by decide +kernel) ⟨Nat.le_of_ble_eq_true rfl, Nat.le_of_ble_eq_true rfl⟩ rfl rfl (Nat.le_of_ble_eq_true rfl) ⟨by show (_ : Nat) ≤ 8000; omega, by show (_ : Nat) ≤ 130000; omega⟩ dL_build_12 ?_
  rintro r_12 ws_12 rfl
  refine g_bipush E dL_build_15 (by decide) ?_
  refine g_callTi (n := 2) (As := [_, _]) (rest := _) E (c_L_below l D cA A _ _ 40 (by omega)) gL_build_L_below rfl ⟨rfl, rfl⟩ (by decide +kernel) ⟨Nat.le_of_ble_eq_true rfl, Nat.le_of_ble_eq_true rfl⟩ rfl rfl (Nat.le_of_ble_eq_true rfl) ⟨by show (_ : Nat) ≤ 8000; omega, by show (_ : Nat) ≤ 130000; omega⟩ dL_build_17 ?_
  rintro r_17 ws_17 ⟨rfl, rfl⟩
  have hb_17 := beV_b r_12 (show (1 : Int) ≤ 40 by omega)
  refine g_iadd E dL_build_20 ?_
  obtain ⟨n9, hn9⟩ : ∃ z : Int, 20 + beV r_12 40 = z := ⟨_, rfl⟩
  rw [hn9]
  refine g_istore_n E dL_build_21 (by decide) ?_
  refine g_iconst E dL_build_22 ?_
  refine g_istore E dL_build_23 (by decide) ?_
  refine g_wid (k := 7 + 120 * 0) (n := 29 + 2000 * 0) (by omega) (by omega) ?_
  have key_kk : ∀ (n_kk kk : Nat), (kk : Int) ≤ (3 : Int) → (3 : Int) + 1 ≤ (kk : Int) + n_kk → (am : Ad) → (L : List Id3) → (a : St) → (SH L a) → (J ((kk : Int)) a) → GW p l e (headSpec wsL_build ({ frames := 10, cells := 8000, slots := 130000, locals := 300 })).room s m ([.ref (ad 0 8 0), .ref b9] : List Value).toArray below meth c (MQ below (va_Qr (fun _ => True) (fun u ra t => gB D A u t ∧ ∃ (am : Ad) (L : List Id3) (a : St), ra = am 0 0 0 ∧ SH L a ∧ J 62 a ∧ u = wS cA am L a ++ (wX cA ad (upY σ 0 a) ++ [])) A) ([.ref (ad 0 8 0), .ref b9] : List Value).toArray s 8000 130000 A) D A 5 (wS cA am L a ++ (wX cA ad (upY σ 0 a) ++ [])) (7 + 120 * kk) (29 + 2000 * kk) 25 [(0, .ref (ad 0 8 0)), (1, .ref b9), (2, .ref (am 0 0 0)), (3, .int (zI n9)), (4, .int (zI (kk : Int)))] [] := by
    intro n_kk
    induction n_kk with
    | zero => intro kk h1 h2; exact absurd h2 (by omega)
    | succ n_kk ih_kk =>
      intro kk hle_kk hfu_kk hi0_kk hi1_kk hi2_kk hi3_kk hi4_kk
      obtain ⟨am, hzam⟩ : ∃ z : Ad, z = hi0_kk := ⟨_, rfl⟩
      subst hzam
      obtain ⟨L, hzL⟩ : ∃ z : List Id3, z = hi1_kk := ⟨_, rfl⟩
      subst hzL
      obtain ⟨a, hza⟩ : ∃ z : St, z = hi2_kk := ⟨_, rfl⟩
      subst hza
      have hS := hi3_kk
      have hJ := hi4_kk
      refine g_iload E dL_build_25 rfl ?_
      refine g_iconst E dL_build_27 ?_
      refine g_icmp_ge (tgt := 66) E dL_build_28 (by decide) (by omega) (by omega) (fun c_28 => ?_) (fun c_28 => ?_)
      · obtain rfl : kk = 3 := (by omega)
        refine g_iconst E dL_build_66 ?_
        refine g_istore E dL_build_67 (by decide) ?_
        refine g_wid (k := 367 + 120 * 0) (n := 6029 + 2000 * 0) (by omega) (by omega) ?_
        have key_jj : ∀ (n_jj jj : Nat), (jj : Int) ≤ n9 → n9 + 1 ≤ (jj : Int) + n_jj → (am : Ad) → (L : List Id3) → (a : St) → (SH L a) → (J (3 + (jj : Int)) a) → GW p l e (headSpec wsL_build ({ frames := 10, cells := 8000, slots := 130000, locals := 300 })).room s m ([.ref (ad 0 8 0), .ref b9] : List Value).toArray below meth c (MQ below (va_Qr (fun _ => True) (fun u ra t => gB D A u t ∧ ∃ (am : Ad) (L : List Id3) (a : St), ra = am 0 0 0 ∧ SH L a ∧ J 62 a ∧ u = wS cA am L a ++ (wX cA ad (upY σ 0 a) ++ [])) A) ([.ref (ad 0 8 0), .ref b9] : List Value).toArray s 8000 130000 A) D A 5 (wS cA am L a ++ (wX cA ad (upY σ 0 a) ++ [])) (367 + 120 * jj) (6029 + 2000 * jj) 69 [(0, .ref (ad 0 8 0)), (1, .ref b9), (2, .ref (am 0 0 0)), (3, .int (zI n9)), (4, .int (zI (jj : Int)))] [] := by
          intro n_jj
          induction n_jj with
          | zero => intro jj h1 h2; exact absurd h2 (by omega)
          | succ n_jj ih_jj =>
            intro jj hle_jj hfu_jj hi0_jj hi1_jj hi2_jj hi3_jj hi4_jj
            obtain ⟨am, hzam⟩ : ∃ z : Ad, z = hi0_jj := ⟨_, rfl⟩
            subst hzam
            obtain ⟨L, hzL⟩ : ∃ z : List Id3, z = hi1_jj := ⟨_, rfl⟩
            subst hzL
            obtain ⟨a, hza⟩ : ∃ z : St, z = hi2_jj := ⟨_, rfl⟩
            subst hza
            have hS := hi3_jj
            have hJ := hi4_jj
            refine g_iload E dL_build_69 rfl ?_
            refine g_iload_n E dL_build_71 rfl ?_
            refine g_icmp_ge (tgt := 115) E dL_build_72 (by decide) (by omega) (by omega) (fun c_72 => ?_) (fun c_72 => ?_)
            · obtain hjn : (jj : Int) = n9 := (by omega)
              refine g_aload_n E dL_build_115 rfl ?_
              refine g_wid (k := 8000) (n := 130000) (by omega) (by omega) ?_
              exact g_aret E (⟨am, L, a, rfl, hS, hJ.mono (by omega), rfl⟩) dL_build_116
            · refine g_aload_n E dL_build_75 rfl ?_
              refine g_aload_n E dL_build_76 rfl ?_
              refine g_aload_n E dL_build_77 rfl ?_
              refine g_iload E dL_build_78 rfl ?_
              refine g_bipush E dL_build_80 (by decide) ?_
              refine g_irem E dL_build_82 (by omega) (by omega) ?_
              refine g_bTi (n := 2) (As := [_, _]) (rest := _) E Z X hX hbl hbA (c_L_cell l D cA A b9 L9 xs hbA hL9 _ ((jj : Int) % 16) (by omega)) gL_build_L_cell rfl ⟨rfl, rfl⟩ (by decide +kernel) ⟨Nat.le_of_ble_eq_true rfl, Nat.le_of_ble_eq_true rfl⟩ rfl rfl (Nat.le_of_ble_eq_true rfl) ⟨by show (_ : Nat) ≤ 8000; omega, by show (_ : Nat) ≤ 130000; omega⟩ dL_build_83 ?_
              rintro r_83 ws_83 rfl
              refine g_iload E dL_build_86 rfl ?_
              refine g_bipush E dL_build_88 (by decide) ?_
              refine g_idiv E dL_build_90 (by omega) (by omega) ?_
              refine g_iconst E dL_build_91 ?_
              refine g_imul E dL_build_92 ?_
              refine g_ishr E dL_build_93 ?_
              refine g_sipush E dL_build_94 (by decide) ?_
              refine g_iload E dL_build_97 rfl ?_
              refine g_imul E dL_build_99 ?_
              refine g_iaddR E dL_build_100 ?_
              refine g_qTi (n := 3) (As := [_, _, _]) (rest := _) E Z X (c_L_act l hl0 D cA A am ad σ L [] a ((3 + (jj : Int))) _ hS hJ (by omega)) gL_build_L_act rfl ⟨rfl, rfl⟩ (by decide +kernel) ⟨Nat.le_of_ble_eq_true rfl, Nat.le_of_ble_eq_true rfl⟩ rfl rfl (Nat.le_of_ble_eq_true rfl) ⟨by show (_ : Nat) ≤ 8000; omega, by show (_ : Nat) ≤ 130000; omega⟩ dL_build_101 ?_
              rintro r_101 ws_101 ⟨rfl, am, L, a, h00, hS, hAJ, rfl⟩
              refine g_if_ne (tgt := 109) E dL_build_104 (by decide) (by omega) (fun c_104 => ?_) (fun c_104 => ?_)
              · refine g_iinc E dL_build_109 rfl (by decide) ?_
                refine g_goto (tgt := 69) E dL_build_112 (by decide) ?_
                refine g_wid (k := 367 + 120 * (jj + 1)) (n := 6029 + 2000 * (jj + 1)) (by omega) (by omega) ?_
                refine g_loc (lv' := [(0, .ref (ad 0 8 0)), (1, .ref b9), (2, .ref (am 0 0 0)), (3, .int (zI n9)), (4, .int (zI ((jj + 1) : Int)))]) ⟨rfl, rfl, by rw [h00]; rfl, rfl, rfl, trivial⟩ ?_
                exact ih_jj (jj + 1) (by omega) (by omega) (am) (L) (a) (hS) (hAJ.1.mono (by omega))
              · exact absurd c_104 (by decide)
        refine g_loc (lv' := [(0, .ref (ad 0 8 0)), (1, .ref b9), (2, .ref (am 0 0 0)), (3, .int (zI n9)), (4, .int (zI (0 : Int)))]) ⟨rfl, rfl, rfl, rfl, rfl, trivial⟩ ?_
        exact key_jj ((n9) + 1).toNat.succ 0 (by omega) (by omega) (am) (L) (a) (hS) (hJ)
      · refine g_aload_n E dL_build_31 rfl ?_
        refine g_aload_n E dL_build_32 rfl ?_
        refine g_aload_n E dL_build_33 rfl ?_
        refine g_iconst E dL_build_34 ?_
        refine g_iload E dL_build_35 rfl ?_
        refine g_iadd E dL_build_37 ?_
        refine g_bTi (n := 2) (As := [_, _]) (rest := _) E Z X hX hbl hbA (c_L_cell l D cA A b9 L9 xs hbA hL9 _ (1 + (kk : Int)) (by omega)) gL_build_L_cell rfl ⟨rfl, rfl⟩ (by decide +kernel) ⟨Nat.le_of_ble_eq_true rfl, Nat.le_of_ble_eq_true rfl⟩ rfl rfl (Nat.le_of_ble_eq_true rfl) ⟨by show (_ : Nat) ≤ 8000; omega, by show (_ : Nat) ≤ 130000; omega⟩ dL_build_38 ?_
        rintro r_38 ws_38 rfl
        refine g_sipush E dL_build_41 (by decide) ?_
        refine g_iand E dL_build_44 ?_
        refine g_sipush E dL_build_45 (by decide) ?_
        refine g_iload E dL_build_48 rfl ?_
        refine g_imul E dL_build_50 ?_
        refine g_iaddR E dL_build_51 ?_
        refine g_qTi (n := 3) (As := [_, _, _]) (rest := _) E Z X (c_L_act l hl0 D cA A am ad σ L [] a ((kk : Int)) _ hS hJ (by omega)) gL_build_L_act rfl ⟨rfl, rfl⟩ (by decide +kernel) ⟨Nat.le_of_ble_eq_true rfl, Nat.le_of_ble_eq_true rfl⟩ rfl rfl (Nat.le_of_ble_eq_true rfl) ⟨by show (_ : Nat) ≤ 8000; omega, by show (_ : Nat) ≤ 130000; omega⟩ dL_build_52 ?_
        rintro r_52 ws_52 ⟨rfl, am, L, a, h00, hS, hAJ, rfl⟩
        refine g_if_ne (tgt := 60) E dL_build_55 (by decide) (by omega) (fun c_55 => ?_) (fun c_55 => ?_)
        · refine g_iinc E dL_build_60 rfl (by decide) ?_
          refine g_goto (tgt := 25) E dL_build_63 (by decide) ?_
          refine g_wid (k := 7 + 120 * (kk + 1)) (n := 29 + 2000 * (kk + 1)) (by omega) (by omega) ?_
          refine g_loc (lv' := [(0, .ref (ad 0 8 0)), (1, .ref b9), (2, .ref (am 0 0 0)), (3, .int (zI n9)), (4, .int (zI ((kk + 1) : Int)))]) ⟨rfl, rfl, by rw [h00]; rfl, rfl, rfl, trivial⟩ ?_
          exact ih_kk (kk + 1) (by omega) (by omega) (am) (L) (a) (hS) (hAJ.1.mono (by omega))
        · exact absurd c_55 (by decide)
  refine g_loc (lv' := [(0, .ref (ad 0 8 0)), (1, .ref b9), (2, .ref (am 0 0 0)), (3, .int (zI n9)), (4, .int (zI (0 : Int)))]) ⟨rfl, rfl, rfl, rfl, rfl, trivial⟩ ?_
  exact key_kk (((3 : Int)) + 1).toNat.succ 0 (by omega) (by omega) (am) (L) (a) (hS) (hJ)
