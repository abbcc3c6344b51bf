/-! ===== EXCEPTIONS: what a throw asks of the state; calls of methods that may throw; a throw ===== -/
abbrev xI : String := "java/lang/IndexOutOfBoundsException"
abbrev xA : String := "java/lang/IllegalArgumentException"
abbrev xS : String := "java/lang/IllegalStateException"
abbrev xNm : List String := ["java/lang/RuntimeException", "java/lang/Exception"]
def nB : List Cond := [.castable xI xI, .castable xA xA, .castable xS xS, .declares (Bundle.initS "java/lang/RuntimeException"), .declares (Bundle.initS "java/lang/Exception"), .declares (Bundle.initS Bundle.tN)]
def gN (U : State) : Prop := ∀ w ∈ nB, va_Nw w U
theorem gN.moved {s U : State} (hW : s.WarmedH U.vm) (h : gN s) : gN U := by
  have hc : ∀ X : String, va_Nw (.castable X X) s → va_Nw (.castable X X) U := fun X hz => va_Nw.warmC hW hz
  have hd : ∀ x : MethodName, va_Nw (.declares x) s → va_Nw (.declares x) U := fun x hz => va_tabs rfl (rfl : (s.setVm U.vm).vm = U.vm) (by rw [Cond.declares_setVm hW.alike]; exact hz)
  exact List.forall_mem_cons.mpr ⟨hc _ (h _ (by simp [nB])), List.forall_mem_cons.mpr ⟨hc _ (h _ (by simp [nB])), List.forall_mem_cons.mpr ⟨hc _ (h _ (by simp [nB])), List.forall_mem_cons.mpr ⟨hd _ (h _ (by simp [nB])), List.forall_mem_cons.mpr ⟨hd _ (h _ (by simp [nB])), List.forall_mem_cons.mpr ⟨hd _ (h _ (by simp [nB])), fun _ hh => nomatch hh⟩⟩⟩⟩⟩⟩
theorem gN.same {u U : State} (hv : u.vm = U.vm) (h : gN u) : gN U := by
  have key : ∀ w ∈ nB, w.onTables = true := by decide +kernel
  exact fun w hw => va_Nw.same (key w hw) hv (h w hw)
def strL : List (Nat × String) := [(56, "there are 6 piles"), (74, "there are 3 cats"), (105, "the store has fewer"), (111, "there is not so much room"), (119, "the pile has fewer"), (132, "both piles are the same"), (135, "the calibres are unlike"), (185, "what is not 0 to 9"), (192, "there is no such ball"), (213, "what is not 0 to 5"), (215, "there is no such layer"), (217, "there is no such row"), (219, "there is no such place"), (228, "what is not 0 to 4"), (233, "what is not 0 to 2"), (241, "what is not 0 to 10"), (275, "there is no such pile"), (277, "there is no such cat"), (279, "calibre is not 0 to 4"), (281, "a number is too small or too great")]
def gS (U : State) : Prop := ∀ q ∈ strL, ∃ sa : Nat, vk_R RX4 q.1 q.2 sa U
theorem gS.moved {s U : State} (hW : s.WarmedH U.vm) (h : gS s) : gS U := fun q hq => let ⟨sa, hz⟩ := h q hq; ⟨sa, vk_R.warm hW hz⟩
theorem gS.same {u U : State} (hv : u.vm = U.vm) (h : gS u) : gS U := fun q hq => let ⟨sa, hz⟩ := h q hq; ⟨sa, vk_R.same hv.symm hz⟩
def gZ (A : Nat → Prop) (U : State) : Prop := (vx_Zq Bundle.tN "UNASSIGNED_STACK" Bundle.steD A U U.heap ∧ vx_Zq Bundle.tN "SUPPRESSED_SENTINEL" Bundle.listD A U U.heap) ∧ (∀ q : Nat, U.heap.size ≤ q → A q) ∧ gN U ∧ gS U
theorem gZ.at {A : Nat → Prop} {s U : State} {H : Heap} {locs : List Loc} (hU : U.heap = H) (hW : s.WarmedH U.vm) (hS : va_S A s.heap H locs) (h : gZ A s) : gZ A U := by
  obtain ⟨⟨h1, h2⟩, h3, h4, h5⟩ := h
  subst hU
  exact ⟨⟨vx_Zq.moved hW.alike (h1.kept hS.2.1), vx_Zq.moved hW.alike (h2.kept hS.2.1)⟩, fun q hq => h3 q (Nat.le_trans hS.1 hq), h4.moved hW, h5.moved hW⟩
theorem gZ.calling {A : Nat → Prop} {U : State} (h : gZ A U) (g : JFrame) (mk : MethodId) (a : Array Value) : gZ A (U.calling g mk a) := by
  obtain ⟨⟨h1, h2⟩, h3, h4, h5⟩ := h
  exact ⟨⟨vx_Zq.moved (u := U) (U := U.calling g mk a) (Vm.Alike.refl U.vm) h1, vx_Zq.moved (u := U) (U := U.calling g mk a) (Vm.Alike.refl U.vm) h2⟩, h3, gN.same (u := U) (U := U.calling g mk a) rfl h4, gS.same (u := U) (U := U.calling g mk a) rfl h5⟩
def PcZ (D : va_G) (tys : gT) (A : Nat → Prop) (ws : va_W) (As : List Value) : Array Value → State → Prop := va_Pc As (fun U => (va_P D vwCl ws U.heap ∧ gK D tys U ∧ va_D A ws) ∧ gZ A U)
theorem PcZ.blind {D : va_G} {tys : gT} {A : Nat → Prop} {ws : va_W} {As : List Value} : FrameBlind (PcZ D tys A ws As) := fun _ _ g mk h => ⟨h.1, ⟨h.2.1.1, h.2.1.2.1.calling g mk _, h.2.1.2.2⟩, h.2.2.calling g mk _⟩
theorem PcZ.at {D : va_G} {tys : gT} {A : Nat → Prop} {ws : va_W} {As : List Value} {s U : State} {H : Heap} {locs : List Loc} (hU : U.heap = H) (hW : s.WarmedH U.vm) (hP : va_P D vwCl ws H) (hK : gK D tys s) (hD : va_D A ws) (hS : va_S A s.heap H locs) (hZ : gZ A s) : PcZ D tys A ws As As.toArray U := ⟨rfl, ⟨by rw [hU]; exact hP, hK.moved hW, hD⟩, hZ.at hU hW hS⟩
/-- a throw: by which names; the world is as it was -/
def XQ (D : va_G) (A : Nat → Prop) (pe : String → Prop) (ws : va_W) : String → State → State → Prop := vx_X (fun _ : Unit => True) (fun E _ t => pe E ∧ va_P D vwCl ws t.heap) A
def GZ (l : Launch) (A : Nat → Prop) (s : State) (c : Code) : Prop := gZ A s ∧ (∀ x ∈ c.exceptionTable.toList, False) ∧ l.stackTraces = false
theorem g_metx {l : Launch} {D : va_G} {tys : gT} {A : Nat → Prop} {ws0 : va_W} {As : List Value} {y : MethodName} {wsc wsc' : List Cond} {rm : Room} {Qc : Array Value → State → Outcome → State → Prop} {XC : String → State → State → Prop} {mc ms : Nat} {cc : ByteArray} {maxL : Nat} {ret : Option FieldType} {own : String} (hl0 : l.stackTraces = false) (ho : y.cls = own) (hy : plainName y.cls = true) (hw : wsc = Cond.code y cc maxL ret :: wsc') (hlen : (lg_sl As).length ≤ maxL)
    (body : ∀ (p : Program) (e : Env) (s : State) (m : MethodId) (below : List Frame) (meth : Method) (c : Code), GE p s m As.toArray meth c D tys cc maxL own wsc ret → GZ l A s c → GW p l e (headSpec wsc rm).room s m As.toArray below meth c (vx_MQ below Qc XC As.toArray s mc ms A) D A maxL ws0 0 0 0 (lv_args 0 As) []) : vx_Met l y wsc rm (PcZ D tys A ws0 As) Qc XC mc ms A := by
  refine vx_ofW (cc := cc) (maxL := maxL) (ret := ret) hy hw ?_
  intro p e s m args below meth c s₁ B hml ht hv
  obtain ⟨rfl, ⟨hP, hK, hD⟩, hZ⟩ := hv
  subst ho
  have E : GE p s m As.toArray meth c D tys cc maxL y.cls wsc ret := ⟨B.exec, B.bytes, hml, findClass_of_methodNamed B.named, atoms_spec (ws := wsc) B.pre, hK, B.returns, B.notSynchronized⟩
  rw [lg_entry_eq]
  exact body p e s m below meth c E ⟨hZ, ht, hl0⟩ s.heap [] _ hP hD va_S.rf (lv_entry As hlen)
section GX
variable {p : Program} {l : Launch} {e : Env} {R : Room} {s : State} {m : MethodId} {args : Array Value} {below : List Frame} {meth : Method} {c : Code} {D : va_G} {tys : gT} {A : Nat → Prop} {nL : Nat} {ws : va_W} {cells slots pc : Nat} {lv : List (Nat × Value)} {st : List Value} {cc : ByteArray} {own : String} {Ts : List Cond} {ret : Option FieldType} {Qc : Array Value → State → Outcome → State → Prop} {pe : String → Prop} {MC MS : Nat} {XC : String → State → State → Prop}
theorem g_xret (kk : GW p l e R s m args below meth c (MQ below Qc args s MC MS A) D A nL ws cells slots pc lv st) : GW p l e R s m args below meth c (vx_MQ below Qc XC args s MC MS A) D A nL ws cells slots pc lv st :=
  fun H locs ls hP hD hS hl => vx_ret (kk H locs ls hP hD hS hl)
theorem g_xVv (E : GE p s m args meth c D tys cc nL own Ts ret) (Z : GZ l A s c) {y : MethodName} {bytes : ByteArray} {maxL : Nat} {rt : Option FieldType} {wsc wsc' : List Cond} {rm : Room} {n index mc ms : Nat} {peC : String → Prop} {C : String} {T : u_T} {N ci b : Nat} {As rest : List Value} {post : va_W → Prop} (hM : vx_Met l y wsc rm (PcZ D tys A ws (.ref b :: As)) (va_Qv post (gB D A) A) (XQ D A peC ws) mc ms A)
    (hG : GoodIn Ts (wsV own index C y wsc)) (hw : wsc = Cond.code y bytes maxL rt :: wsc') (hrm : rm.cells = mc ∧ rm.slots = ms) (hd : y.cls = C ∧ y.cls ≠ "java/lang/invoke/MethodHandle" ∧ y.cls ≠ "java/lang/invoke/VarHandle" ∧ (parseMethodDescriptor y.desc).map (fun d => d.parameters.length) = some n) (hR : rm.frames + 1 ≤ R.frames ∧ 8 + (maxL + 11) + rm.locals ≤ R.locals)
    (he : ∃ (q0 : Nat) (fs : List Value), ws[q0]? = some (b, .inr (ci, fs))) (hc : vwCl[ci]? = some (C, T, N)) (hn : As.length = n) (hst : st = As.reverse ++ .ref b :: rest) (hst8 : (rest.map fun v => v.category).sum ≤ 8) (hf : cells + mc ≤ R.cells ∧ slots + ms ≤ R.slots) (hmc : cells + mc ≤ MC ∧ slots + ms ≤ MS) (hdg : decode cc pc = .ok (.invokevirtual index, 3)) (hpe : ∀ E9 : String, peC E9 → pe E9)
    (kk : ∀ (ws' : va_W), post ws' → GW p l e R s m args below meth c (vx_MQ below Qc (XQ D A pe ws) args s MC MS A) D A nL ws' (cells + mc) (slots + ms) (pc + 3) lv (rest)) : GW p l e R s m args below meth c (vx_MQ below Qc (XQ D A pe ws) args s MC MS A) D A nL ws cells slots pc lv st := by
  intro H locs ls hP hD hS h0
  subst hst
  obtain ⟨q0, fs, hq⟩ := he
  exact vx_callv (vx_runV (As := As) (rest := rest) ⟨E.1, E.2.1, E.2.2.1, E.2.2.2.1, E.2.2.2.2.1⟩ hM (cwV n E.2.2.2.2.1 hG hw hrm.1 hrm.2 hd hR) ⟨PcZ.blind, va_recv (q0 := q0) E.2.2.2.2.2.1.1 hP hc hq, fun U hU hW => PcZ.at hU hW hP E.2.2.2.2.2.1 hD hS Z.1⟩ rfl hn (h0.1) rfl (lv_room hst8) hdg hf) hS (fun q _ h => h) (fun q h => h) (fun q _ h => h) (fun E9 ce q9 u t H1 locs1 ht _ _ hB _ _ hS' hce hcv hcl => vx_out (fun x hx => (Z.2.1 x hx).elim) E.2.2.2.2.2.2.2 hce hcv hcl (fun t2 ht2 _ => ⟨(), trivial, ⟨hpe E9 hB.1, by rw [ht2, ← ht]; exact hB.2⟩, hS'.F ht2⟩) hS'.2.2 hmc.1 hmc.2) (fun ws' t H1 locs1 ht _ hp hB _ _ hS' => kk ws' hp H1 locs1 ls (by rw [← ht]; exact hB.1) hB.2 hS' h0)
theorem g_xVi (E : GE p s m args meth c D tys cc nL own Ts ret) (Z : GZ l A s c) {y : MethodName} {bytes : ByteArray} {maxL : Nat} {rt : Option FieldType} {wsc wsc' : List Cond} {rm : Room} {n index mc ms : Nat} {peC : String → Prop} {C : String} {T : u_T} {N ci b : Nat} {As rest : List Value} {post : Int32 → va_W → Prop} (hM : vx_Met l y wsc rm (PcZ D tys A ws (.ref b :: As)) (va_Qi post (gB D A) A) (XQ D A peC ws) mc ms A)
    (hG : GoodIn Ts (wsV own index C y wsc)) (hw : wsc = Cond.code y bytes maxL rt :: wsc') (hrm : rm.cells = mc ∧ rm.slots = ms) (hd : y.cls = C ∧ y.cls ≠ "java/lang/invoke/MethodHandle" ∧ y.cls ≠ "java/lang/invoke/VarHandle" ∧ (parseMethodDescriptor y.desc).map (fun d => d.parameters.length) = some n) (hR : rm.frames + 1 ≤ R.frames ∧ 8 + (maxL + 11) + rm.locals ≤ R.locals)
    (he : ∃ (q0 : Nat) (fs : List Value), ws[q0]? = some (b, .inr (ci, fs))) (hc : vwCl[ci]? = some (C, T, N)) (hn : As.length = n) (hst : st = As.reverse ++ .ref b :: rest) (hst8 : (rest.map fun v => v.category).sum ≤ 8) (hf : cells + mc ≤ R.cells ∧ slots + ms ≤ R.slots) (hmc : cells + mc ≤ MC ∧ slots + ms ≤ MS) (hdg : decode cc pc = .ok (.invokevirtual index, 3)) (hpe : ∀ E9 : String, peC E9 → pe E9)
    (kk : ∀ (r : Int32) (ws' : va_W), post r ws' → GW p l e R s m args below meth c (vx_MQ below Qc (XQ D A pe ws) args s MC MS A) D A nL ws' (cells + mc) (slots + ms) (pc + 3) lv (.int r :: rest)) : GW p l e R s m args below meth c (vx_MQ below Qc (XQ D A pe ws) args s MC MS A) D A nL ws cells slots pc lv st := by
  intro H locs ls hP hD hS h0
  subst hst
  obtain ⟨q0, fs, hq⟩ := he
  exact vx_calli (vx_runV (As := As) (rest := rest) ⟨E.1, E.2.1, E.2.2.1, E.2.2.2.1, E.2.2.2.2.1⟩ hM (cwV n E.2.2.2.2.1 hG hw hrm.1 hrm.2 hd hR) ⟨PcZ.blind, va_recv (q0 := q0) E.2.2.2.2.2.1.1 hP hc hq, fun U hU hW => PcZ.at hU hW hP E.2.2.2.2.2.1 hD hS Z.1⟩ rfl hn (h0.1) rfl (lv_room hst8) hdg hf) hS (fun q _ h => h) (fun q h => h) (fun q _ h => h) (fun E9 ce q9 u t H1 locs1 ht _ _ hB _ _ hS' hce hcv hcl => vx_out (fun x hx => (Z.2.1 x hx).elim) E.2.2.2.2.2.2.2 hce hcv hcl (fun t2 ht2 _ => ⟨(), trivial, ⟨hpe E9 hB.1, by rw [ht2, ← ht]; exact hB.2⟩, hS'.F ht2⟩) hS'.2.2 hmc.1 hmc.2) (fun r ws' t H1 locs1 ht _ hp hB _ _ hS' => kk r ws' hp H1 locs1 ls (by rw [← ht]; exact hB.1) hB.2 hS' h0)
theorem g_xVl (E : GE p s m args meth c D tys cc nL own Ts ret) (Z : GZ l A s c) {y : MethodName} {bytes : ByteArray} {maxL : Nat} {rt : Option FieldType} {wsc wsc' : List Cond} {rm : Room} {n index mc ms : Nat} {peC : String → Prop} {C : String} {T : u_T} {N ci b : Nat} {As rest : List Value} {post : Int64 → va_W → Prop} (hM : vx_Met l y wsc rm (PcZ D tys A ws (.ref b :: As)) (va_Ql post (gB D A) A) (XQ D A peC ws) mc ms A)
    (hG : GoodIn Ts (wsV own index C y wsc)) (hw : wsc = Cond.code y bytes maxL rt :: wsc') (hrm : rm.cells = mc ∧ rm.slots = ms) (hd : y.cls = C ∧ y.cls ≠ "java/lang/invoke/MethodHandle" ∧ y.cls ≠ "java/lang/invoke/VarHandle" ∧ (parseMethodDescriptor y.desc).map (fun d => d.parameters.length) = some n) (hR : rm.frames + 1 ≤ R.frames ∧ 8 + (maxL + 11) + rm.locals ≤ R.locals)
    (he : ∃ (q0 : Nat) (fs : List Value), ws[q0]? = some (b, .inr (ci, fs))) (hc : vwCl[ci]? = some (C, T, N)) (hn : As.length = n) (hst : st = As.reverse ++ .ref b :: rest) (hst8 : (rest.map fun v => v.category).sum ≤ 8) (hf : cells + mc ≤ R.cells ∧ slots + ms ≤ R.slots) (hmc : cells + mc ≤ MC ∧ slots + ms ≤ MS) (hdg : decode cc pc = .ok (.invokevirtual index, 3)) (hpe : ∀ E9 : String, peC E9 → pe E9)
    (kk : ∀ (r : Int64) (ws' : va_W), post r ws' → GW p l e R s m args below meth c (vx_MQ below Qc (XQ D A pe ws) args s MC MS A) D A nL ws' (cells + mc) (slots + ms) (pc + 3) lv (.long r :: rest)) : GW p l e R s m args below meth c (vx_MQ below Qc (XQ D A pe ws) args s MC MS A) D A nL ws cells slots pc lv st := by
  intro H locs ls hP hD hS h0
  subst hst
  obtain ⟨q0, fs, hq⟩ := he
  exact vx_calll (vx_runV (As := As) (rest := rest) ⟨E.1, E.2.1, E.2.2.1, E.2.2.2.1, E.2.2.2.2.1⟩ hM (cwV n E.2.2.2.2.1 hG hw hrm.1 hrm.2 hd hR) ⟨PcZ.blind, va_recv (q0 := q0) E.2.2.2.2.2.1.1 hP hc hq, fun U hU hW => PcZ.at hU hW hP E.2.2.2.2.2.1 hD hS Z.1⟩ rfl hn (h0.1) rfl (lv_room hst8) hdg hf) hS (fun q _ h => h) (fun q h => h) (fun q _ h => h) (fun E9 ce q9 u t H1 locs1 ht _ _ hB _ _ hS' hce hcv hcl => vx_out (fun x hx => (Z.2.1 x hx).elim) E.2.2.2.2.2.2.2 hce hcv hcl (fun t2 ht2 _ => ⟨(), trivial, ⟨hpe E9 hB.1, by rw [ht2, ← ht]; exact hB.2⟩, hS'.F ht2⟩) hS'.2.2 hmc.1 hmc.2) (fun r ws' t H1 locs1 ht _ hp hB _ _ hS' => kk r ws' hp H1 locs1 ls (by rw [← ht]; exact hB.1) hB.2 hS' h0)
theorem g_xSv (E : GE p s m args meth c D tys cc nL own Ts ret) (Z : GZ l A s c) {y : MethodName} {bytes : ByteArray} {maxL : Nat} {rt : Option FieldType} {wsc wsc' : List Cond} {rm : Room} {n index mc ms : Nat} {peC : String → Prop} {As rest : List Value} {post : va_W → Prop} (hM : vx_Met l y wsc rm (PcZ D tys A ws As) (va_Qv post (gB D A) A) (XQ D A peC ws) mc ms A)
    (hG : GoodIn Ts (wsS own index y wsc)) (hw : wsc = Cond.code y bytes maxL rt :: wsc') (hrm : rm.cells = mc ∧ rm.slots = ms) (hd : y.cls = own ∧ y.cls ≠ "java/lang/invoke/MethodHandle" ∧ y.cls ≠ "java/lang/invoke/VarHandle" ∧ (parseMethodDescriptor y.desc).map (fun d => d.parameters.length) = some n) (hR : rm.frames + 1 ≤ R.frames ∧ 8 + (maxL + 11) + rm.locals ≤ R.locals)
    (hn : As.length = n) (hst : st = As.reverse ++ rest) (hst8 : (rest.map fun v => v.category).sum ≤ 8) (hf : cells + mc ≤ R.cells ∧ slots + ms ≤ R.slots) (hmc : cells + mc ≤ MC ∧ slots + ms ≤ MS) (hdg : decode cc pc = .ok (.invokestatic index, 3)) (hpe : ∀ E9 : String, peC E9 → pe E9)
    (kk : ∀ (ws' : va_W), post ws' → GW p l e R s m args below meth c (vx_MQ below Qc (XQ D A pe ws) args s MC MS A) D A nL ws' (cells + mc) (slots + ms) (pc + 3) lv (rest)) : GW p l e R s m args below meth c (vx_MQ below Qc (XQ D A pe ws) args s MC MS A) D A nL ws cells slots pc lv st := by
  intro H locs ls hP hD hS h0
  subst hst
  exact vx_callv (vx_runS (As := As) (rest := rest) ⟨E.1, E.2.1, E.2.2.1, E.2.2.2.1, E.2.2.2.2.1⟩ hM (cwS n E.2.2.2.2.1 hG hw hrm.1 hrm.2 hd hR) ⟨PcZ.blind, fun U hU hW => PcZ.at hU hW hP E.2.2.2.2.2.1 hD hS Z.1⟩ rfl hn (h0.1) rfl (lv_room hst8) hdg hf) hS (fun q _ h => h) (fun q h => h) (fun q _ h => h) (fun E9 ce q9 u t H1 locs1 ht _ _ hB _ _ hS' hce hcv hcl => vx_out (fun x hx => (Z.2.1 x hx).elim) E.2.2.2.2.2.2.2 hce hcv hcl (fun t2 ht2 _ => ⟨(), trivial, ⟨hpe E9 hB.1, by rw [ht2, ← ht]; exact hB.2⟩, hS'.F ht2⟩) hS'.2.2 hmc.1 hmc.2) (fun ws' t H1 locs1 ht _ hp hB _ _ hS' => kk ws' hp H1 locs1 ls (by rw [← ht]; exact hB.1) hB.2 hS' h0)
theorem g_xTv (E : GE p s m args meth c D tys cc nL own Ts ret) (Z : GZ l A s c) {y : MethodName} {bytes : ByteArray} {maxL : Nat} {rt : Option FieldType} {wsc wsc' : List Cond} {rm : Room} {n index mc ms : Nat} {peC : String → Prop} {As rest : List Value} {post : va_W → Prop} (hM : vx_Met l y wsc rm (PcZ D tys A ws As) (va_Qv post (gB D A) A) (XQ D A peC ws) mc ms A)
    (hG : GoodIn Ts (va_wsS own index y wsc)) (hw : wsc = Cond.code y bytes maxL rt :: wsc') (hrm : rm.cells = mc ∧ rm.slots = ms) (hd : y.cls ≠ "java/lang/invoke/MethodHandle" ∧ y.cls ≠ "java/lang/invoke/VarHandle" ∧ (parseMethodDescriptor y.desc).map (fun d => d.parameters.length) = some n) (hR : rm.frames + 1 ≤ R.frames ∧ 8 + (maxL + 11) + rm.locals ≤ R.locals)
    (hn : As.length = n) (hst : st = As.reverse ++ rest) (hst8 : (rest.map fun v => v.category).sum ≤ 8) (hf : cells + mc ≤ R.cells ∧ slots + ms ≤ R.slots) (hmc : cells + mc ≤ MC ∧ slots + ms ≤ MS) (hdg : decode cc pc = .ok (.invokestatic index, 3)) (hpe : ∀ E9 : String, peC E9 → pe E9)
    (kk : ∀ (ws' : va_W), post ws' → GW p l e R s m args below meth c (vx_MQ below Qc (XQ D A pe ws) args s MC MS A) D A nL ws' (cells + mc) (slots + ms) (pc + 3) lv (rest)) : GW p l e R s m args below meth c (vx_MQ below Qc (XQ D A pe ws) args s MC MS A) D A nL ws cells slots pc lv st := by
  intro H locs ls hP hD hS h0
  subst hst
  exact vx_callv (vx_runS (As := As) (rest := rest) ⟨E.1, E.2.1, E.2.2.1, E.2.2.2.1, E.2.2.2.2.1⟩ hM (va_cwS n E.2.2.2.2.1 hG hw hrm.1 hrm.2 hd hR) ⟨PcZ.blind, fun U hU hW => PcZ.at hU hW hP E.2.2.2.2.2.1 hD hS Z.1⟩ rfl hn (h0.1) rfl (lv_room hst8) hdg hf) hS (fun q _ h => h) (fun q h => h) (fun q _ h => h) (fun E9 ce q9 u t H1 locs1 ht _ _ hB _ _ hS' hce hcv hcl => vx_out (fun x hx => (Z.2.1 x hx).elim) E.2.2.2.2.2.2.2 hce hcv hcl (fun t2 ht2 _ => ⟨(), trivial, ⟨hpe E9 hB.1, by rw [ht2, ← ht]; exact hB.2⟩, hS'.F ht2⟩) hS'.2.2 hmc.1 hmc.2) (fun ws' t H1 locs1 ht _ hp hB _ _ hS' => kk ws' hp H1 locs1 ls (by rw [← ht]; exact hB.1) hB.2 hS' h0)
/-- throw new X("text") -/
theorem g_throw (E : GE p s m args meth c D tys cc nL own Ts ret) (Z : GZ l A s c) {cls text : String} {ik is ic : Nat} (hcls : Bundle.fit cls = true) (hk : Cond.classLink own ik cls ∈ Ts) (hini : Cond.initialized cls ∈ Ts) (hown4 : own = RX4) (hstr : (is, text) ∈ strL) (hat : ∀ w ∈ (vx_atS own ic cls xNm).filter goodWord, w ∈ Ts) (hnb : ∀ w ∈ (vx_atS own ic cls xNm).filter (fun w => !goodWord w), w ∈ nB)
    (hgood : ∀ w ∈ Cond.classLink own ik cls :: Cond.initialized cls :: vx_atS own ic cls xNm, vx_ot w = true)
    (d0 : decode cc pc = .ok (.new ik, 3)) (d3 : decode cc (pc + 3) = .ok (.dup, 1)) (d4 : decode cc (pc + 4) = .ok (.ldc is, 2)) (d6 : decode cc (pc + 6) = .ok (.invokespecial ic, 3)) (d9 : decode cc (pc + 9) = .ok (.athrow, 1))
    (hRf : 5 < R.frames) (hRl : (st.map fun v => v.category).sum + 82 ≤ R.locals) (hRc : cells + 1 ≤ R.cells ∧ slots + 6 ≤ R.slots) (hmc : cells + 1 ≤ MC ∧ slots + 6 ≤ MS) (hpe : pe cls) : GW p l e R s m args below meth c (vx_MQ below Qc (XQ D A pe ws) args s MC MS A) D A nL ws cells slots pc lv st := by
  intro H locs ls hP hD hS h0
  subst hown4
  obtain ⟨sa, hsa⟩ := Z.1.2.2.2 _ hstr
  have hA : ∀ w ∈ vx_atS RX4 ic cls xNm, w.before args s = true := vx_hat (fun w hw => E.2.2.2.2.1 w (hat w hw)) hnb (fun w hw => va_Nw.use ((by decide +kernel : ∀ w ∈ nB, w.onTables = true) w hw) (Z.1.2.2.1 w hw))
  exact vx_throwS (names := xNm) E.1 E.2.1 Z.2.2 E.2.2.2.1 hcls (by decide +kernel) (E.2.2.2.2.1 _ hk) (E.2.2.2.2.1 _ hini) hsa hA hgood Z.1.1.1 Z.1.1.2 hS (h0.1.trans E.2.2.1.symm) d0 d3 d4 d6 d9 (fun x hx => (Z.2.1 x hx).elim) hRf hRl hRc.1 hRc.2 E.2.2.2.2.2.2.2
    (fun t _ hz hq => ⟨(), trivial, ⟨hpe, va_P.kept hP (fun k q hk => hq q.1 ((hP k q hk).lt))⟩, ⟨Nat.le_trans hS.1 hz, fun q h1 h2 => (hq q (Nat.lt_of_lt_of_le h1 hS.1)).trans (hS.2.1 q h1 h2)⟩⟩) hS.2.2 hmc.1 hmc.2
/-- throw new X("text") -/
theorem g_throwW (E : GE p s m args meth c D tys cc nL own Ts ret) (Z : GZ l A s c) {cls text : String} {ik is ic : Nat} (hcls : Bundle.fit cls = true) (hk : Cond.classLink own ik cls ∈ Ts) (hini : Cond.initialized cls ∈ Ts) (hown4 : own = RX4) (hstr : (is, text) ∈ strL) (hat : ∀ w ∈ (vx_atS own ic cls xNm).filter goodWord, w ∈ Ts) (hnb : ∀ w ∈ (vx_atS own ic cls xNm).filter (fun w => !goodWord w), w ∈ nB)
    (hgood : ∀ w ∈ Cond.classLink own ik cls :: Cond.initialized cls :: vx_atS own ic cls xNm, vx_ot w = true)
    (d0 : decode cc pc = .ok (.new ik, 3)) (d3 : decode cc (pc + 3) = .ok (.dup, 1)) (d4 : decode cc (pc + 4) = .ok (.ldc_w is, 3)) (d6 : decode cc (pc + 7) = .ok (.invokespecial ic, 3)) (d9 : decode cc (pc + 10) = .ok (.athrow, 1))
    (hRf : 5 < R.frames) (hRl : (st.map fun v => v.category).sum + 82 ≤ R.locals) (hRc : cells + 1 ≤ R.cells ∧ slots + 6 ≤ R.slots) (hmc : cells + 1 ≤ MC ∧ slots + 6 ≤ MS) (hpe : pe cls) : GW p l e R s m args below meth c (vx_MQ below Qc (XQ D A pe ws) args s MC MS A) D A nL ws cells slots pc lv st := by
  intro H locs ls hP hD hS h0
  subst hown4
  obtain ⟨sa, hsa⟩ := Z.1.2.2.2 _ hstr
  have hA : ∀ w ∈ vx_atS RX4 ic cls xNm, w.before args s = true := vx_hat (fun w hw => E.2.2.2.2.1 w (hat w hw)) hnb (fun w hw => va_Nw.use ((by decide +kernel : ∀ w ∈ nB, w.onTables = true) w hw) (Z.1.2.2.1 w hw))
  exact vx_throwSW (names := xNm) E.1 E.2.1 Z.2.2 E.2.2.2.1 hcls (by decide +kernel) (E.2.2.2.2.1 _ hk) (E.2.2.2.2.1 _ hini) hsa hA hgood Z.1.1.1 Z.1.1.2 hS (h0.1.trans E.2.2.1.symm) d0 d3 d4 d6 d9 (fun x hx => (Z.2.1 x hx).elim) hRf hRl hRc.1 hRc.2 E.2.2.2.2.2.2.2
    (fun t _ hz hq => ⟨(), trivial, ⟨hpe, va_P.kept hP (fun k q hk => hq q.1 ((hP k q hk).lt))⟩, ⟨Nat.le_trans hS.1 hz, fun q h1 h2 => (hq q (Nat.lt_of_lt_of_le h1 hS.1)).trans (hS.2.1 q h1 h2)⟩⟩) hS.2.2 hmc.1 hmc.2
end GX
theorem nb_xS : ∀ w ∈ (vx_atS RX4 58 xS xNm).filter (fun w => !goodWord w), w ∈ nB := by decide +kernel
theorem nb_xI : ∀ w ∈ (vx_atS RX4 187 xI xNm).filter (fun w => !goodWord w), w ∈ nB := by decide +kernel
theorem nb_xA : ∀ w ∈ (vx_atS RX4 134 xA xNm).filter (fun w => !goodWord w), w ∈ nB := by decide +kernel
theorem gd_xS : ∀ w ∈ Cond.classLink RX4 54 xS :: Cond.initialized xS :: vx_atS RX4 58 xS xNm, vx_ot w = true := by decide +kernel
theorem gd_xI : ∀ w ∈ Cond.classLink RX4 183 xI :: Cond.initialized xI :: vx_atS RX4 187 xI xNm, vx_ot w = true := by decide +kernel
theorem gd_xA : ∀ w ∈ Cond.classLink RX4 130 xA :: Cond.initialized xA :: vx_atS RX4 134 xA xNm, vx_ot w = true := by decide +kernel
