/-! ===== NEW: rows of constructors ===== -/
theorem findArr {s : State} {tys : gT} {cA : Nat → ClassId} {D : va_G} (hK : va_K D vwCl (tysX cA) s) {cB : ClassId} {ty : FieldType} (h : va_RA s cB ty) : (ty = .int → cB = cA 0) ∧ (ty = .object RX2 → cB = cA 1) ∧ (ty = .object RX1 → cB = cA 2) ∧ (ty = .object RX0 → cB = cA 3) := by
  refine ⟨?_, ?_, ?_, ?_⟩
  · rintro rfl
    have h0 : va_RA s (cA 0) .int := (hK.2 0 (cA 0, .int) rfl).2
    exact Option.some.inj (Eq.trans (Eq.symm h) h0)
  · rintro rfl
    obtain ⟨_, _, _, _, _, h1⟩ := h
    obtain ⟨_, _, _, _, _, h0⟩ : va_RA s (cA 1) (.object RX2) := (hK.2 1 (cA 1, .object RX2) rfl).2
    exact Option.some.inj (Eq.trans (Eq.symm h1) h0)
  · rintro rfl
    obtain ⟨_, _, _, _, _, h1⟩ := h
    obtain ⟨_, _, _, _, _, h0⟩ : va_RA s (cA 2) (.object RX1) := (hK.2 2 (cA 2, .object RX1) rfl).2
    exact Option.some.inj (Eq.trans (Eq.symm h1) h0)
  · rintro rfl
    obtain ⟨_, _, _, _, _, h1⟩ := h
    obtain ⟨_, _, _, _, _, h0⟩ : va_RA s (cA 3) (.object RX0) := (hK.2 3 (cA 3, .object RX0) rfl).2
    exact Option.some.inj (Eq.trans (Eq.symm h1) h0)
section NEWR
variable {p : Program} {l : Launch} {e : Env} {R : Room} {s : State} {m : MethodId} {args : Array Value} {below : List Frame} {meth : Method} {c : Code} {Q : State → Prop} {D : va_G} {tys : gT} {A : Nat → Prop} {ws : va_W} {nL : Nat} {cells slots pc : Nat} {lv : List (Nat × Value)} {st : List Value} {cc : ByteArray} {own : String} {Ts : List Cond} {ret : Option FieldType} {cA : Nat → ClassId}
theorem g_newa (E : GE p s m args meth c D (tysX cA) cc nL own Ts ret) (hA : ∀ q, s.heap.size ≤ q → A q) (harr : Cond.arrayClass .int ∈ Ts) {n : Nat} (hn : n < 1000) (hc : cells + 1 ≤ R.cells) (hs : slots + n ≤ R.slots) (hdg : decode cc pc = .ok (.newarray .int, 2))
    (kk : ∀ q : Nat, GW p l e R s m args below meth c Q D A nL (ws ++ [(q, .inl (cA 0, n, .inl (fun _ => 0)))]) (cells + 1) (slots + n) (pc + 2) lv (.ref q :: st)) : GW p l e R s m args below meth c Q D A nL ws cells slots pc lv (.int (zI n) :: st) := by
  intro H locs ls hP hD hS h0
  have nn : ¬ zI n < 0 := by
    intro h
    rw [← zI_0, zI_lt (by omega) (by omega)] at h
    omega
  refine va_newa (atype := .int) (ty := .int) (a0 := (n, .inl (fun _ => 0))) E.1 E.2.1 (E.2.2.2.2.1 _ harr) rfl E.2.2.2.2.2.1.1 hP hD hS hA (fun _ => rfl) nn (by rw [zI_cl (by omega)]; rfl) (by show n * 4 ≤ 536870912; omega) hc hs hdg (fun q cB H1 hK1 hP1 hD1 hS1 => ?_)
  have e1 : cB = cA 0 := (findArr (tys := []) E.2.2.2.2.2.1.1 (hK1.2 7 (cB, .int) rfl).2).1 rfl
  subst e1
  exact kk q H1 locs ls hP1 hD1 hS1 h0
theorem g_newq (E : GE p s m args meth c D (tysX cA) cc nL own Ts ret) (hA : ∀ q, s.heap.size ≤ q → A q) {C : String} {index : Nat} {cB : ClassId} (hcl : Cond.classLink own index C ∈ Ts) (harr : va_AO C s) (hid : ∀ cN : ClassId, va_RA s cN (.object C) → cN = cB) {n : Nat} (hn : n < 1000) (hc : cells + 1 ≤ R.cells) (hs : slots + n ≤ R.slots) (hdg : decode cc pc = .ok (.anewarray index, 3))
    (kk : ∀ q : Nat, GW p l e R s m args below meth c Q D A nL (ws ++ [(q, .inl (cB, n, .inr (.inr (.inr (.inr (fun _ => none))))))]) (cells + 1) (slots + n) (pc + 3) lv (.ref q :: st)) : GW p l e R s m args below meth c Q D A nL ws cells slots pc lv (.int (zI n) :: st) := by
  intro H locs ls hP hD hS h0
  have nn : ¬ zI n < 0 := by
    intro h
    rw [← zI_0, zI_lt (by omega) (by omega)] at h
    omega
  refine va_newq E.1 E.2.1 E.2.2.2.1 (E.2.2.2.2.1 _ hcl) harr E.2.2.2.2.2.1.1 hP hD hS hA nn (N' := n) (by rw [zI_cl (by omega)]; rfl) (by omega) hc hs hdg (fun q cN H1 hK1 hP1 hD1 hS1 => ?_)
  have e1 : cN = cB := hid cN (hK1.2 7 (cN, .object C) rfl).2
  subst e1
  exact kk q H1 locs ls hP1 hD1 hS1 h0
theorem g_new (E : GE p s m args meth c D tys cc nL own Ts ret) (hA : ∀ q, s.heap.size ≤ q → A q) {C : String} {T : u_T} {N ci index : Nat} (hin : ∀ w ∈ u_ws C T N, w ∈ Ts) (ty : Nat → FieldType) (hty : ∀ k, k < N → parseFieldDescriptor (T k).2.2.1 = some (ty k)) (hcl : Cond.classLink own index C ∈ Ts) (hinst : Cond.instantiable C N ∈ Ts) (hini : Cond.initialized C ∈ Ts) (hcc : vwCl[ci]? = some (C, T, N)) {fs : List Value} (hfs : ∀ j, j < N → defaultValue (ty j) = vp_V fs j) (hc : cells + 1 ≤ R.cells) (hs : slots + N ≤ R.slots) (hdg : decode cc pc = .ok (.new index, 3))
    (kk : ∀ q : Nat, GW p l e R s m args below meth c Q D A nL (ws ++ [(q, .inr (ci, fs))]) (cells + 1) (slots + N) (pc + 3) lv (.ref q :: st)) : GW p l e R s m args below meth c Q D A nL ws cells slots pc lv st := by
  intro H locs ls hP hD hS h0
  exact va_new E.1 E.2.1 E.2.2.2.2.1 hin ty hty E.2.2.2.1 (E.2.2.2.2.1 _ hcl) (E.2.2.2.2.1 _ hinst) (E.2.2.2.2.1 _ hini) E.2.2.2.2.2.1.1 hP hD hS hA hcc hfs hc hs hdg (fun q H1 hP1 hD1 hS1 => kk q H1 locs ls hP1 hD1 hS1 h0)
theorem g_putfF (E : GE p s m args meth c D tys cc nL own Ts ret) (hmn : meth.name = "<init>") {T : u_T} {N ci index a : Nat} {fs : List Value} {v : Value} {ty0 : Nat → FieldType} {ty : FieldType} {ws' : va_W} (hin : ∀ w ∈ u_ws own T N, w ∈ Ts) (hty : ∀ k, k < N → parseFieldDescriptor (T k).2.2.1 = some (ty0 k)) (hnm : ∀ a, a < N → ∀ b, b < N → a ≠ b → (T a).2.1 ≠ (T b).2.1) (hc : vwCl[ci]? = some (own, T, N)) (k : Nat) (hk : k < N) (hlink : Cond.fieldLink own index own (T k).2.1 (T k).2.2.1 ∈ Ts) (hcn : (T k).1 = own) (hfin : (T k).2.2.2 = true) (hd : parseFieldDescriptor (T k).2.2.1 = some ty) (hn : narrow ty v = v) (hfit : fits ty v = true) (hl : k < fs.length)
    (he : ∃ q0 : Nat, ws[q0]? = some (a, .inr (ci, fs)) ∧ ws.set q0 (a, .inr (ci, fs.set k v)) = ws') (hdg : decode cc pc = .ok (.putfield index, 3))
    (kk : GW p l e R s m args below meth c Q D A nL ws' cells slots (pc + 3) lv st) : GW p l e R s m args below meth c Q D A nL ws cells slots pc lv (v :: .ref a :: st) := by
  intro H locs ls hP hD hS h0
  obtain ⟨q0, hq, e⟩ := he
  subst e
  exact va_putF E.1 E.2.1 E.2.2.2.2.1 hin ty0 hty hnm E.2.2.2.1 E.2.2.2.2.2.1.1 hP hD hS q0 hq hc k hk (E.2.2.2.2.1 _ hlink) (fun x hx => by rw [hcn] at hx; exact hx) hfin hmn hcn hd hn hfit hl hdg (fun H1 locs1 hP hD hS => kk H1 locs1 ls hP hD hS h0)
theorem g_objInit (E : GE p s m args meth c D tys cc nL own Ts ret) {index b : Nat} (h1 : Cond.methodLink own index objectInit ∈ Ts) (h2 : Cond.instanceMethod objectInit ∈ Ts) (h3 : Cond.code objectInit ⟨#[0xb1]⟩ 1 none ∈ Ts) (hf : 1 ≤ R.frames) (hl : (st.map fun v => v.category).sum + 12 ≤ R.locals) (hdg : decode cc pc = .ok (.invokespecial index, 3))
    (kk : GW p l e R s m args below meth c Q D A nL ws cells slots (pc + 3) lv st) : GW p l e R s m args below meth c Q D A nL ws cells slots pc lv (.ref b :: st) := by
  intro H locs ls hP hD hS h0
  refine W.objInit E.1 E.2.1 E.2.2.2.1 (E.2.2.2.2.1 _ h1) (E.2.2.2.2.1 _ h2) (E.2.2.2.2.1 _ h3) rfl (by rw [E.2.2.1]; exact h0.1) rfl hdg hf (by show 2 * 0 + _ + 12 ≤ _; omega) ?_
  exact W.eq (g2 := F0 m (pc + 3) ls st) rfl (kk H locs ls hP hD hS h0)
end NEWR
/-- arrays of the class's objects are at hand -/
def AO3 (U : State) : Prop := va_AO RX0 U ∧ va_AO RX1 U ∧ va_AO RX2 U
theorem AO3.moved {u U : State} (hvm : u.vm.Alike U.vm) (h : AO3 u) : AO3 U := ⟨h.1.moved hvm, h.2.1.moved hvm, h.2.2.moved hvm⟩
/-- a constructor's start: a new object, and all that is newer -/
def PcN (D : va_G) (tys : gT) (sz : Nat) (o : Nat × va_E) (As : List Value) : Array Value → State → Prop := fun a st => PcG D tys (va_A [o] sz) [o] As a st ∧ st.heap.size = sz ∧ AO3 st
theorem PcN.blind {D : va_G} {tys : gT} {sz : Nat} {o : Nat × va_E} {As : List Value} : FrameBlind (PcN D tys sz o As) := fun a U g mk h => ⟨PcG.blind a U g mk h.1, h.2.1, AO3.moved (u := U) (U := U.calling g mk a) (Vm.Alike.refl U.vm) h.2.2⟩
/-- a constructor's contract out of the walk of its body -/
theorem g_metN {l : Launch} {D : va_G} {tys : gT} {sz : Nat} {o : Nat × va_E} {As : List Value} {y : MethodName} {wsc wsc' : List Cond} {rm : Room} {Qc : Array Value → State → Outcome → State → Prop} {mc ms : Nat} {cc : ByteArray} {maxL : Nat} {ret : Option FieldType} {own : String} (ho : y.cls = own) (hy : plainName y.cls = true) (hyn : y.name = "<init>") (hw : wsc = Cond.code y cc maxL ret :: wsc') (hlen : (lg_sl As).length ≤ maxL)
    (body : ∀ (p : Program) (e : Env) (s : State) (m : MethodId) (below : List Frame) (meth : Method) (c : Code), GE p s m As.toArray meth c D tys cc maxL own wsc ret → meth.name = "<init>" → (∀ q, s.heap.size ≤ q → va_A [o] sz q) → AO3 s → GW p l e (headSpec wsc rm).room s m As.toArray below meth c (MQ below Qc As.toArray s mc ms (va_A [o] sz)) D (va_A [o] sz) maxL [o] 0 0 0 (lv_args 0 As) []) : Met l y wsc rm (PcN D tys sz o As) Qc mc ms (va_A [o] sz) := by
  refine Met.ofW (cc := cc) (maxL := maxL) (ret := ret) hy hw ?_
  intro p e s m args below meth c s₁ B hml hv
  obtain ⟨⟨rfl, hP, hK, hD⟩, hsz, hO⟩ := hv
  subst ho
  have E : GE p s m As.toArray meth c D tys cc maxL y.cls wsc ret := ⟨B.exec, B.bytes, hml, findClass_of_methodNamed B.named, atoms_spec (ws := wsc) B.pre, hK, B.returns, B.notSynchronized⟩
  rw [lg_entry_eq]
  exact body p e s m below meth c E ((name_of_methodNamed B.named B.method).1.trans hyn) (fun q h => Or.inr (by rw [← hsz]; exact h)) hO s.heap [] _ hP hD va_S.rf (lv_entry As hlen)
section NEWC
variable {p : Program} {l : Launch} {e : Env} {R : Room} {s : State} {m : MethodId} {args : Array Value} {below : List Frame} {meth : Method} {c : Code} {Q : State → Prop} {D : va_G} {tys : gT} {A : Nat → Prop} {nL : Nat} {cells slots pc : Nat} {lv : List (Nat × Value)} {st : List Value} {cc : ByteArray} {own : String} {Ts : List Cond} {ret : Option FieldType}
/-- new's constructor: the new object stands last; what is before it stays -/
theorem g_callI (E : GE p s m args meth c D tys cc nL own Ts ret) (hA : ∀ q, s.heap.size ≤ q → A q) (hO : AO3 s) {y : MethodName} {bytes : ByteArray} {maxL : Nat} {wsc wsc' : List Cond} {rm : Room} {n index b mc ms : Nat} {o : va_E} {wr : va_W} {As rest : List Value} {post : va_W → Prop} (hM : ∀ sz : Nat, Met l y wsc rm (PcN D tys sz (b, o) (.ref b :: As)) (va_Qv post (gB D (va_A [(b, o)] sz)) (va_A [(b, o)] sz)) mc ms (va_A [(b, o)] sz))
    (hG : GoodIn Ts wsc) (hw : wsc = Cond.code y bytes maxL none :: wsc') (hrm : rm.cells = mc ∧ rm.slots = ms) (hini : Cond.initialized y.cls ∈ Ts) (hlink : Cond.methodLink own index y ∈ Ts) (hinst : Cond.instanceMethod y ∈ Ts) (hyn : y.name = "<init>") (hd : y.cls ≠ "java/lang/invoke/MethodHandle" ∧ y.cls ≠ "java/lang/invoke/VarHandle" ∧ (parseMethodDescriptor y.desc).map (fun d => d.parameters.length) = some n) (hR : rm.frames + 1 ≤ R.frames ∧ 8 + (maxL + 11) + rm.locals ≤ R.locals)
    (hn : As.length = n) (hst : st = As.reverse ++ .ref b :: rest) (hst8 : (rest.map fun v => v.category).sum ≤ 8) (hf : cells + mc ≤ R.cells ∧ slots + ms ≤ R.slots) (hdg : decode cc pc = .ok (.invokespecial index, 3))
    (kk : ∀ w1 : va_W, post w1 → GW p l e R s m args below meth c Q D A nL (wr ++ w1) (cells + mc) (slots + ms) (pc + 3) lv rest) : GW p l e R s m args below meth c Q D A nL (wr ++ [(b, o)]) cells slots pc lv st := by
  intro H locs ls hP hD hS h0
  subst hst
  have hb : (wr ++ [(b, o)])[wr.length]? = some (b, o) := by rw [List.getElem?_append_right (Nat.le_refl _), Nat.sub_self]; rfl
  have hone : ∀ (k : Nat) (q : Nat × va_E), [(b, o)][k]? = some q → q = (b, o) := fun k q hk => by
    cases k with
    | zero => exact (Option.some.inj hk).symm
    | succ j => cases hk
  have hPc : va_P D vwCl [(b, o)] H := fun k q hk => by rw [hone k q hk]; exact hP _ _ hb
  have hinj : ∀ (i j : Nat) (p q : Nat × va_E), [(b, o)][i]? = some p → [(b, o)][j]? = some q → p.1 = q.1 → i = j := by
    intro i j p q hi hj _
    have h1 : i < 1 := (List.getElem?_eq_some_iff.mp hi).1
    have h2 : j < 1 := (List.getElem?_eq_some_iff.mp hj).1
    omega
  have hDc : va_D (va_A [(b, o)] H.size) [(b, o)] := ⟨hinj, fun k q hk => va_A.in hk⟩
  have hF : ∀ q, va_A [(b, o)] H.size q → A q := fun q h => by
    rcases h with ⟨k, e, h⟩ | h
    · have h2 := hone k _ h
      cases h2
      exact hD.2 _ _ hb
    · exact hA q (Nat.le_trans hS.1 h)
  have hwr : ∀ (k : Nat) (q : Nat × va_E), wr[k]? = some q → q.1 < H.size ∧ ¬ va_A [(b, o)] H.size q.1 := fun k q hk => by
    have hl : k < wr.length := (List.getElem?_eq_some_iff.mp hk).1
    have hk2 : (wr ++ [(b, o)])[k]? = some q := by rw [List.getElem?_append_left hl]; exact hk
    have h1 := (hP k q hk2).lt
    refine ⟨h1, fun z => ?_⟩
    rcases z with ⟨j, e, z⟩ | z
    · have h3 : q.1 = b := congrArg Prod.fst (hone j _ z)
      exact absurd (hD.1 k wr.length q (b, o) hk2 hb h3) (by omega)
    · omega
  exact va_callv (va_runI (As := As) (rest := rest) ⟨E.1, E.2.1, E.2.2.1, E.2.2.2.1, E.2.2.2.2.1⟩ (hM H.size) (cwI n E.2.2.2.2.1 hG hw hrm.1 hrm.2 (E.2.2.2.2.1 _ hini) (E.2.2.2.2.1 _ hlink) (E.2.2.2.2.1 _ hinst) hyn hd hR) ⟨PcN.blind, fun U hU hW => ⟨PcG.at hU hW hPc E.2.2.2.2.2.1 hDc, by rw [hU], hO.moved hW.alike⟩⟩ rfl hn h0.1 rfl (lv_room hst8) hdg hf) hS (fun q _ h => hF q h) hF (fun w1 t H1 locs1 ht _ hp hB hz hk hS' => by
    have hP1 : va_P D vwCl w1 H1 := by rw [← ht]; exact hB.1
    have hPr : va_P D vwCl wr H1 := fun k q hk1 => (hP k q (by rw [List.getElem?_append_left (List.getElem?_eq_some_iff.mp hk1).1]; exact hk1)).kept (hk q.1 (hwr k q hk1).1 (hwr k q hk1).2)
    have hDr : va_D A wr := ⟨fun i j p q hi hj => hD.1 i j p q (by rw [List.getElem?_append_left (List.getElem?_eq_some_iff.mp hi).1]; exact hi) (by rw [List.getElem?_append_left (List.getElem?_eq_some_iff.mp hj).1]; exact hj), fun k q hk1 => hD.2 k q (by rw [List.getElem?_append_left (List.getElem?_eq_some_iff.mp hk1).1]; exact hk1)⟩
    exact kk w1 hp H1 locs1 ls (hPr.app hP1) (hDr.app (hB.2.weaken (fun _ q _ h => hF q.1 h)) (fun i j p q hi hj hpq => (hwr i p hi).2 (by rw [hpq]; exact hB.2.2 j q hj))) hS' h0)
end NEWC
