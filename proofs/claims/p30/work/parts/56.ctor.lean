/-! ===== the law's constructors ===== -/
/-- arrays of the law's piles and of rows of ints are at hand -/
def AOL (U : State) : Prop := va_AO RX7 U ∧ AOA U
theorem AOL.moved {u U : State} (hvm : u.vm.Alike U.vm) (h : AOL u) : AOL U := ⟨h.1.moved hvm, h.2.moved hvm⟩
def nestW : Cond := .methodLinkNest RL 125 yX5_init RL
/-- what act, build and law find: the arrays, the way to the private constructor -/
def gX (U : State) : Prop := AOL U ∧ va_Nw nestW U
theorem gX.moved {s U : State} (hW : s.WarmedH U.vm) (h : gX s) : gX U := ⟨h.1.moved hW.alike, va_Nw.warmM hW h.2⟩
theorem gX.calling {U : State} (h : gX U) (g : JFrame) (mk : MethodId) (a : Array Value) : gX (U.calling g mk a) := ⟨AOL.moved (u := U) (U := U.calling g mk a) (Vm.Alike.refl U.vm) h.1, va_Nw.same (w := nestW) rfl (u := U) (U := U.calling g mk a) rfl h.2⟩
def PcX (D : va_G) (tys : gT) (A : Nat → Prop) (ws : va_W) (As : List Value) : Array Value → State → Prop := va_Pc As (fun U => ((va_P D vwCl ws U.heap ∧ gK D tys U ∧ va_D A ws) ∧ gZ A U) ∧ gX U)
theorem PcX.blind {D : va_G} {tys : gT} {A : Nat → Prop} {ws : va_W} {As : List Value} : FrameBlind (PcX D tys A ws As) := fun a U g mk h => ⟨h.1, ⟨⟨h.2.1.1.1, h.2.1.1.2.1.calling g mk a, h.2.1.1.2.2⟩, h.2.1.2.calling g mk a⟩, h.2.2.calling g mk a⟩
theorem PcX.at {D : va_G} {tys : gT} {A : Nat → Prop} {ws : va_W} {As : List Value} {s U : State} {H : Heap} {locs : List Loc} (hU : U.heap = H) (hW : s.WarmedH U.vm) (hP : va_P D vwCl ws H) (hK : gK D tys s) (hD : va_D A ws) (hS : va_S A s.heap H locs) (hZ : gZ A s) (hX : gX s) : PcX D tys A ws As As.toArray U := ⟨rfl, ⟨⟨by rw [hU]; exact hP, hK.moved hW, hD⟩, hZ.at hU hW hS⟩, hX.moved hW⟩
/-- a method's contract out of the walk of its body -/
theorem g_metX {l : Launch} {D : va_G} {tys : gT} {A : Nat → Prop} {ws0 : va_W} {As : List Value} {y : MethodName} {wsc wsc' : List Cond} {rm : Room} {Qc : Array Value → State → Outcome → State → Prop} {mc ms : Nat} {cc : ByteArray} {maxL : Nat} {ret : Option FieldType} {own : String} (ho : y.cls = own) (hy : plainName y.cls = true) (hw : wsc = Cond.code y cc maxL ret :: wsc') (hlen : (lg_sl As).length ≤ maxL)
    (body : ∀ (p : Program) (e : Env) (s : State) (m : MethodId) (below : List Frame) (meth : Method) (c : Code), GE p s m As.toArray meth c D tys cc maxL own wsc ret → gZ A s → gX s → GW p l e (headSpec wsc rm).room s m As.toArray below meth c (MQ below Qc As.toArray s mc ms A) D A maxL ws0 0 0 0 (lv_args 0 As) []) : Met l y wsc rm (PcX D tys A ws0 As) Qc mc ms A := by
  refine Met.ofW (cc := cc) (maxL := maxL) (ret := ret) hy hw ?_
  intro p e s m args below meth c s₁ B hml hv
  obtain ⟨rfl, ⟨⟨hP, hK, hD⟩, hZ⟩, hX⟩ := hv
  subst ho
  have E : GE p s m As.toArray meth c D tys cc maxL y.cls wsc ret := ⟨B.exec, B.bytes, hml, findClass_of_methodNamed B.named, atoms_spec (ws := wsc) B.pre, hK, B.returns, B.notSynchronized⟩
  rw [lg_entry_eq]
  exact body p e s m below meth c E hZ hX s.heap [] _ hP hD va_S.rf (lv_entry As hlen)
section CTX
variable {p : Program} {l : Launch} {e : Env} {R : Room} {s : State} {m : MethodId} {args : Array Value} {below : List Frame} {meth : Method} {c : Code} {Q : State → Prop} {D : va_G} {tys : gT} {A : Nat → Prop} {nL : Nat} {ws w0 w1 w2 w3 : va_W} {cells slots pc : Nat} {lv : List (Nat × Value)} {st : List Value} {cc : ByteArray} {own : String} {Ts : List Cond} {ret : Option FieldType}
theorem g_qTi (E : GE p s m args meth c D tys cc nL own Ts ret) (Z : gZ A s) (X : gX s) {y : MethodName} {bytes : ByteArray} {maxL : Nat} {rt : Option FieldType} {wsc wsc' : List Cond} {rm : Room} {n index mc ms : Nat} {As rest : List Value} {post : Int32 → va_W → Prop} (hM : Met l y wsc rm (PcX D tys A ws As) (va_Qi post (gB D A) A) mc ms A)
    (hG : GoodIn Ts (va_wsS own index y wsc)) (hw : wsc = Cond.code y bytes maxL rt :: wsc') (hrm : rm.cells = mc ∧ rm.slots = ms) (hd : y.cls ≠ "java/lang/invoke/MethodHandle" ∧ y.cls ≠ "java/lang/invoke/VarHandle" ∧ (parseMethodDescriptor y.desc).map (fun d => d.parameters.length) = some n) (hR : rm.frames + 1 ≤ R.frames ∧ 8 + (maxL + 11) + rm.locals ≤ R.locals)
    (hn : As.length = n) (hst : st = As.reverse ++ rest) (hst8 : (rest.map fun v => v.category).sum ≤ 8) (hf : cells + mc ≤ R.cells ∧ slots + ms ≤ R.slots) (hdg : decode cc pc = .ok (.invokestatic index, 3))
    (kk : ∀ (r : Int32) (ws' : va_W), post r ws' → GW p l e R s m args below meth c Q D A nL ws' (cells + mc) (slots + ms) (pc + 3) lv (.int r :: rest)) : GW p l e R s m args below meth c Q D A nL ws cells slots pc lv st := by
  intro H locs ls hP hD hS h0
  subst hst
  exact va_calli (va_runS (As := As) (rest := rest) ⟨E.1, E.2.1, E.2.2.1, E.2.2.2.1, E.2.2.2.2.1⟩ hM (va_cwS n E.2.2.2.2.1 hG hw hrm.1 hrm.2 hd hR) ⟨PcX.blind, fun U hU hW => PcX.at hU hW hP E.2.2.2.2.2.1 hD hS Z X⟩ rfl hn (h0.1) rfl (lv_room hst8) hdg hf) hS (fun q _ h => h) (fun q h => h) (fun r ws' t H1 locs1 ht _ hp hB _ _ hS' => kk r ws' hp H1 locs1 ls (by rw [← ht]; exact hB.1) hB.2 hS' h0)
theorem g_qTr (E : GE p s m args meth c D tys cc nL own Ts ret) (Z : gZ A s) (X : gX s) {y : MethodName} {bytes : ByteArray} {maxL : Nat} {rt : Option FieldType} {wsc wsc' : List Cond} {rm : Room} {n index mc ms : Nat} {As rest : List Value} {post : Nat → va_W → Prop} (hM : Met l y wsc rm (PcX D tys A ws As) (va_Qr (fun _ => True) (fun u ra t => gB D A u t ∧ post ra u) A) mc ms A)
    (hG : GoodIn Ts (va_wsS own index y wsc)) (hw : wsc = Cond.code y bytes maxL rt :: wsc') (hrm : rm.cells = mc ∧ rm.slots = ms) (hd : y.cls ≠ "java/lang/invoke/MethodHandle" ∧ y.cls ≠ "java/lang/invoke/VarHandle" ∧ (parseMethodDescriptor y.desc).map (fun d => d.parameters.length) = some n) (hR : rm.frames + 1 ≤ R.frames ∧ 8 + (maxL + 11) + rm.locals ≤ R.locals)
    (hn : As.length = n) (hst : st = As.reverse ++ rest) (hst8 : (rest.map fun v => v.category).sum ≤ 8) (hf : cells + mc ≤ R.cells ∧ slots + ms ≤ R.slots) (hdg : decode cc pc = .ok (.invokestatic index, 3))
    (kk : ∀ (r : Nat) (ws' : va_W), post r ws' → GW p l e R s m args below meth c Q D A nL ws' (cells + mc) (slots + ms) (pc + 3) lv (.ref r :: rest)) : GW p l e R s m args below meth c Q D A nL ws cells slots pc lv st := by
  intro H locs ls hP hD hS h0
  subst hst
  exact va_callr (va_runS (As := As) (rest := rest) ⟨E.1, E.2.1, E.2.2.1, E.2.2.2.1, E.2.2.2.2.1⟩ hM (va_cwS n E.2.2.2.2.1 hG hw hrm.1 hrm.2 hd hR) ⟨PcX.blind, fun U hU hW => PcX.at hU hW hP E.2.2.2.2.2.1 hD hS Z X⟩ rfl hn (h0.1) rfl (lv_room hst8) hdg hf) hS (fun q _ h => h) (fun q h => h) (fun ws' r t H1 locs1 ht _ _ hB _ _ hS' => kk r ws' hB.2 H1 locs1 ls (by rw [← ht]; exact hB.1.1) hB.1.2 hS' h0)
end CTX
/-- a constructor's start: a new object, and all that is newer -/
def PcM (D : va_G) (tys : gT) (sz : Nat) (o : Nat × va_E) (As : List Value) : Array Value → State → Prop := fun a st => PcG D tys (va_A [o] sz) [o] As a st ∧ st.heap.size = sz ∧ AOL st
theorem PcM.blind {D : va_G} {tys : gT} {sz : Nat} {o : Nat × va_E} {As : List Value} : FrameBlind (PcM D tys sz o As) := fun a U g mk h => ⟨PcG.blind a U g mk h.1, h.2.1, AOL.moved (u := U) (U := U.calling g mk a) (Vm.Alike.refl U.vm) h.2.2⟩
/-- a constructor's contract out of the walk of its body -/
theorem g_metM {l : Launch} {D : va_G} {tys : gT} {sz : Nat} {o : Nat × va_E} {As : List Value} {y : MethodName} {wsc wsc' : List Cond} {rm : Room} {Qc : Array Value → State → Outcome → State → Prop} {mc ms : Nat} {cc : ByteArray} {maxL : Nat} {ret : Option FieldType} {own : String} (ho : y.cls = own) (hy : plainName y.cls = true) (hyn : y.name = "<init>") (hw : wsc = Cond.code y cc maxL ret :: wsc') (hlen : (lg_sl As).length ≤ maxL)
    (body : ∀ (p : Program) (e : Env) (s : State) (m : MethodId) (below : List Frame) (meth : Method) (c : Code), GE p s m As.toArray meth c D tys cc maxL own wsc ret → meth.name = "<init>" → (∀ q, s.heap.size ≤ q → va_A [o] sz q) → AOL s → GW p l e (headSpec wsc rm).room s m As.toArray below meth c (MQ below Qc As.toArray s mc ms (va_A [o] sz)) D (va_A [o] sz) maxL [o] 0 0 0 (lv_args 0 As) []) : Met l y wsc rm (PcM D tys sz o As) Qc mc ms (va_A [o] sz) := by
  refine Met.ofW (cc := cc) (maxL := maxL) (ret := ret) hy hw ?_
  intro p e s m args below meth c s₁ B hml hv
  obtain ⟨⟨rfl, hP, hK, hD⟩, hsz, hO⟩ := hv
  subst ho
  have E : GE p s m As.toArray meth c D tys cc maxL y.cls wsc ret := ⟨B.exec, B.bytes, hml, findClass_of_methodNamed B.named, atoms_spec (ws := wsc) B.pre, hK, B.returns, B.notSynchronized⟩
  rw [lg_entry_eq]
  exact body p e s m below meth c E ((name_of_methodNamed B.named B.method).1.trans hyn) (fun q h => Or.inr (by rw [← hsz]; exact h)) hO s.heap [] _ hP hD va_S.rf (lv_entry As hlen)
section NEWC
variable {p : Program} {l : Launch} {e : Env} {R : Room} {s : State} {m : MethodId} {args : Array Value} {below : List Frame} {meth : Method} {c : Code} {Q : State → Prop} {D : va_G} {tys : gT} {A : Nat → Prop} {nL : Nat} {cells slots pc : Nat} {lv : List (Nat × Value)} {st : List Value} {cc : ByteArray} {own : String} {Ts : List Cond} {ret : Option FieldType}
/-- new's constructor: the new object stands last; what is before it stays -/
theorem g_callJ (E : GE p s m args meth c D tys cc nL own Ts ret) (hA : ∀ q, s.heap.size ≤ q → A q) (hO : AOL s) {y : MethodName} {bytes : ByteArray} {maxL : Nat} {wsc wsc' : List Cond} {rm : Room} {n index b mc ms : Nat} {o : va_E} {wr : va_W} {As rest : List Value} {post : va_W → Prop} (hM : ∀ sz : Nat, Met l y wsc rm (PcM D tys sz (b, o) (.ref b :: As)) (va_Qv post (gB D (va_A [(b, o)] sz)) (va_A [(b, o)] sz)) mc ms (va_A [(b, o)] sz))
    (hG : GoodIn Ts wsc) (hw : wsc = Cond.code y bytes maxL none :: wsc') (hrm : rm.cells = mc ∧ rm.slots = ms) (hini : Cond.initialized y.cls ∈ Ts) (hlink : Cond.methodLink own index y ∈ Ts) (hinst : Cond.instanceMethod y ∈ Ts) (hyn : y.name = "<init>") (hd : y.cls ≠ "java/lang/invoke/MethodHandle" ∧ y.cls ≠ "java/lang/invoke/VarHandle" ∧ (parseMethodDescriptor y.desc).map (fun d => d.parameters.length) = some n) (hR : rm.frames + 1 ≤ R.frames ∧ 8 + (maxL + 11) + rm.locals ≤ R.locals)
    (hn : As.length = n) (hst : st = As.reverse ++ .ref b :: rest) (hst8 : (rest.map fun v => v.category).sum ≤ 8) (hf : cells + mc ≤ R.cells ∧ slots + ms ≤ R.slots) (hdg : decode cc pc = .ok (.invokespecial index, 3))
    (kk : ∀ w1 : va_W, post w1 → GW p l e R s m args below meth c Q D A nL (wr ++ w1) (cells + mc) (slots + ms) (pc + 3) lv rest) : GW p l e R s m args below meth c Q D A nL (wr ++ [(b, o)]) cells slots pc lv st := by
  intro H locs ls hP hD hS h0
  subst hst
  have hb : (wr ++ [(b, o)])[wr.length]? = some (b, o) := by rw [List.getElem?_append_right (Nat.le_refl _), Nat.sub_self]; rfl
  have hone : ∀ (k : Nat) (q : Nat × va_E), [(b, o)][k]? = some q → q = (b, o) := fun k q hk => by
    cases k with
    | zero => exact (Option.some.inj hk).symm
    | succ j => cases hk
  have hPc : va_P D vwCl [(b, o)] H := fun k q hk => by rw [hone k q hk]; exact hP _ _ hb
  have hinj : ∀ (i j : Nat) (p q : Nat × va_E), [(b, o)][i]? = some p → [(b, o)][j]? = some q → p.1 = q.1 → i = j := by
    intro i j p q hi hj _
    have h1 : i < 1 := (List.getElem?_eq_some_iff.mp hi).1
    have h2 : j < 1 := (List.getElem?_eq_some_iff.mp hj).1
    omega
  have hDc : va_D (va_A [(b, o)] H.size) [(b, o)] := ⟨hinj, fun k q hk => va_A.in hk⟩
  have hF : ∀ q, va_A [(b, o)] H.size q → A q := fun q h => by
    rcases h with ⟨k, e, h⟩ | h
    · have h2 := hone k _ h
      cases h2
      exact hD.2 _ _ hb
    · exact hA q (Nat.le_trans hS.1 h)
  have hwr : ∀ (k : Nat) (q : Nat × va_E), wr[k]? = some q → q.1 < H.size ∧ ¬ va_A [(b, o)] H.size q.1 := fun k q hk => by
    have hl : k < wr.length := (List.getElem?_eq_some_iff.mp hk).1
    have hk2 : (wr ++ [(b, o)])[k]? = some q := by rw [List.getElem?_append_left hl]; exact hk
    have h1 := (hP k q hk2).lt
    refine ⟨h1, fun z => ?_⟩
    rcases z with ⟨j, e, z⟩ | z
    · have h3 : q.1 = b := congrArg Prod.fst (hone j _ z)
      exact absurd (hD.1 k wr.length q (b, o) hk2 hb h3) (by omega)
    · omega
  exact va_callv (va_runI (As := As) (rest := rest) ⟨E.1, E.2.1, E.2.2.1, E.2.2.2.1, E.2.2.2.2.1⟩ (hM H.size) (cwI n E.2.2.2.2.1 hG hw hrm.1 hrm.2 (E.2.2.2.2.1 _ hini) (E.2.2.2.2.1 _ hlink) (E.2.2.2.2.1 _ hinst) hyn hd hR) ⟨PcM.blind, fun U hU hW => ⟨PcG.at hU hW hPc E.2.2.2.2.2.1 hDc, by rw [hU], hO.moved hW.alike⟩⟩ rfl hn h0.1 rfl (lv_room hst8) hdg hf) hS (fun q _ h => hF q h) hF (fun w1 t H1 locs1 ht _ hp hB hz hk hS' => by
    have hP1 : va_P D vwCl w1 H1 := by rw [← ht]; exact hB.1
    have hPr : va_P D vwCl wr H1 := fun k q hk1 => (hP k q (by rw [List.getElem?_append_left (List.getElem?_eq_some_iff.mp hk1).1]; exact hk1)).kept (hk q.1 (hwr k q hk1).1 (hwr k q hk1).2)
    have hDr : va_D A wr := ⟨fun i j p q hi hj => hD.1 i j p q (by rw [List.getElem?_append_left (List.getElem?_eq_some_iff.mp hi).1]; exact hi) (by rw [List.getElem?_append_left (List.getElem?_eq_some_iff.mp hj).1]; exact hj), fun k q hk1 => hD.2 k q (by rw [List.getElem?_append_left (List.getElem?_eq_some_iff.mp hk1).1]; exact hk1)⟩
    exact kk w1 hp H1 locs1 ls (hPr.app hP1) (hDr.app (hB.2.weaken (fun _ q _ h => hF q.1 h)) (fun i j p q hi hj hpq => (hwr i p hi).2 (by rw [hpq]; exact hB.2.2 j q hj))) hS' h0)
end NEWC
section NEWK
variable {p : Program} {l : Launch} {e : Env} {R : Room} {s : State} {m : MethodId} {args : Array Value} {below : List Frame} {meth : Method} {c : Code} {Q : State → Prop} {D : va_G} {tys : gT} {A : Nat → Prop} {nL : Nat} {cells slots pc : Nat} {lv : List (Nat × Value)} {st : List Value} {cc : ByteArray} {own : String} {Ts : List Cond} {ret : Option FieldType}
theorem g_callK (E : GE p s m args meth c D tys cc nL own Ts ret) (hA : ∀ q, s.heap.size ≤ q → A q) (hO : AOL s) {y : MethodName} {bytes : ByteArray} {maxL : Nat} {wsc wsc' : List Cond} {rm : Room} {n index b mc ms : Nat} {host : String} {o : va_E} {wr : va_W} {As rest : List Value} {post : va_W → Prop} (hM : ∀ sz : Nat, Met l y wsc rm (PcM D tys sz (b, o) (.ref b :: As)) (va_Qv post (gB D (va_A [(b, o)] sz)) (va_A [(b, o)] sz)) mc ms (va_A [(b, o)] sz))
    (hG : GoodIn Ts wsc) (hw : wsc = Cond.code y bytes maxL none :: wsc') (hrm : rm.cells = mc ∧ rm.slots = ms) (hini : Cond.initialized y.cls ∈ Ts) (hlink : va_Nw (.methodLinkNest own index y host) s) (hinst : Cond.instanceMethod y ∈ Ts) (hyn : y.name = "<init>") (hd : y.cls ≠ "java/lang/invoke/MethodHandle" ∧ y.cls ≠ "java/lang/invoke/VarHandle" ∧ (parseMethodDescriptor y.desc).map (fun d => d.parameters.length) = some n) (hR : rm.frames + 1 ≤ R.frames ∧ 8 + (maxL + 11) + rm.locals ≤ R.locals)
    (hn : As.length = n) (hst : st = As.reverse ++ .ref b :: rest) (hst8 : (rest.map fun v => v.category).sum ≤ 8) (hf : cells + mc ≤ R.cells ∧ slots + ms ≤ R.slots) (hdg : decode cc pc = .ok (.invokespecial index, 3))
    (kk : ∀ w1 : va_W, post w1 → GW p l e R s m args below meth c Q D A nL (wr ++ w1) (cells + mc) (slots + ms) (pc + 3) lv rest) : GW p l e R s m args below meth c Q D A nL (wr ++ [(b, o)]) cells slots pc lv st := by
  intro H locs ls hP hD hS h0
  subst hst
  have hb : (wr ++ [(b, o)])[wr.length]? = some (b, o) := by rw [List.getElem?_append_right (Nat.le_refl _), Nat.sub_self]; rfl
  have hone : ∀ (k : Nat) (q : Nat × va_E), [(b, o)][k]? = some q → q = (b, o) := fun k q hk => by
    cases k with
    | zero => exact (Option.some.inj hk).symm
    | succ j => cases hk
  have hPc : va_P D vwCl [(b, o)] H := fun k q hk => by rw [hone k q hk]; exact hP _ _ hb
  have hinj : ∀ (i j : Nat) (p q : Nat × va_E), [(b, o)][i]? = some p → [(b, o)][j]? = some q → p.1 = q.1 → i = j := by
    intro i j p q hi hj _
    have h1 : i < 1 := (List.getElem?_eq_some_iff.mp hi).1
    have h2 : j < 1 := (List.getElem?_eq_some_iff.mp hj).1
    omega
  have hDc : va_D (va_A [(b, o)] H.size) [(b, o)] := ⟨hinj, fun k q hk => va_A.in hk⟩
  have hF : ∀ q, va_A [(b, o)] H.size q → A q := fun q h => by
    rcases h with ⟨k, e, h⟩ | h
    · have h2 := hone k _ h
      cases h2
      exact hD.2 _ _ hb
    · exact hA q (Nat.le_trans hS.1 h)
  have hwr : ∀ (k : Nat) (q : Nat × va_E), wr[k]? = some q → q.1 < H.size ∧ ¬ va_A [(b, o)] H.size q.1 := fun k q hk => by
    have hl : k < wr.length := (List.getElem?_eq_some_iff.mp hk).1
    have hk2 : (wr ++ [(b, o)])[k]? = some q := by rw [List.getElem?_append_left hl]; exact hk
    have h1 := (hP k q hk2).lt
    refine ⟨h1, fun z => ?_⟩
    rcases z with ⟨j, e, z⟩ | z
    · have h3 : q.1 = b := congrArg Prod.fst (hone j _ z)
      exact absurd (hD.1 k wr.length q (b, o) hk2 hb h3) (by omega)
    · omega
  exact va_callv (va_runIN (As := As) (rest := rest) ⟨E.1, E.2.1, E.2.2.1, E.2.2.2.1, E.2.2.2.2.1⟩ (hM H.size) ⟨va_cnB n E.2.2.2.2.1 hG hw hrm.1 hrm.2 hlink (E.2.2.2.2.1 _ hini) hd hR, hyn, E.2.2.2.2.1 _ hinst⟩ ⟨PcM.blind, fun U hU hW => ⟨PcG.at hU hW hPc E.2.2.2.2.2.1 hDc, by rw [hU], hO.moved hW.alike⟩⟩ rfl hn h0.1 rfl (lv_room hst8) hdg hf) hS (fun q _ h => hF q h) hF (fun w1 t H1 locs1 ht _ hp hB hz hk hS' => by
    have hP1 : va_P D vwCl w1 H1 := by rw [← ht]; exact hB.1
    have hPr : va_P D vwCl wr H1 := fun k q hk1 => (hP k q (by rw [List.getElem?_append_left (List.getElem?_eq_some_iff.mp hk1).1]; exact hk1)).kept (hk q.1 (hwr k q hk1).1 (hwr k q hk1).2)
    have hDr : va_D A wr := ⟨fun i j p q hi hj => hD.1 i j p q (by rw [List.getElem?_append_left (List.getElem?_eq_some_iff.mp hi).1]; exact hi) (by rw [List.getElem?_append_left (List.getElem?_eq_some_iff.mp hj).1]; exact hj), fun k q hk1 => hD.2 k q (by rw [List.getElem?_append_left (List.getElem?_eq_some_iff.mp hk1).1]; exact hk1)⟩
    exact kk w1 hp H1 locs1 ls (hPr.app hP1) (hDr.app (hB.2.weaken (fun _ q _ h => hF q.1 h)) (fun i j p q hi hj hpq => (hwr i p hi).2 (by rw [hpq]; exact hB.2.2 j q hj))) hS' h0)
end NEWK
