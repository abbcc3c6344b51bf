/-! ===== FRAME: calls over a part of the world; a method that catches; the law's own rows ===== -/
def oW (cA : Nat → ClassId) (o : Nat) (g : Nat → Int64) : va_W := [(o, .inl (cA 4, 1, .inr (.inl g)))]
def frA (A : Nat → Prop) (w2 : va_W) : Nat → Prop := fun q => A q ∧ ∀ (k : Nat) (z : Nat × va_E), w2[k]? = some z → z.1 ≠ q
def gC (U : State) : Prop := va_Nc xA xI U ∧ va_Nc xS xI U ∧ va_Nc xS xA U ∧ va_Nc xI xA U
theorem gC.moved {s U : State} (hvm : s.vm.Alike U.vm) (h : gC s) : gC U := ⟨h.1.moved hvm, h.2.1.moved hvm, h.2.2.1.moved hvm, h.2.2.2.moved hvm⟩
def PcL (D : va_G) (tys : gT) (A : Nat → Prop) (ws : va_W) (As : List Value) : Array Value → State → Prop := va_Pc As (fun U => ((va_P D vwCl ws U.heap ∧ gK D tys U ∧ va_D A ws) ∧ gZ A U) ∧ gC U)
theorem PcL.blind {D : va_G} {tys : gT} {A : Nat → Prop} {ws : va_W} {As : List Value} : FrameBlind (PcL D tys A ws As) := fun a U g mk h => ⟨h.1, ⟨⟨h.2.1.1.1, h.2.1.1.2.1.calling g mk a, h.2.1.1.2.2⟩, h.2.1.2.calling g mk a⟩, gC.moved (s := U) (U := U.calling g mk a) (Vm.Alike.refl U.vm) h.2.2⟩
section FRW
variable {D : va_G} {A : Nat → Prop} {w1 w2 w3 : va_W} {H H1 : Heap}
theorem P_l (h : va_P D vwCl (w1 ++ w2) H) : va_P D vwCl w1 H := fun k q hk => h k q (by rw [List.getElem?_append_left (List.getElem?_eq_some_iff.mp hk).1]; exact hk)
theorem P_r (h : va_P D vwCl (w1 ++ w2) H) : va_P D vwCl w2 H := fun k q hk => h (w1.length + k) q (by rw [List.getElem?_append_right (Nat.le_add_right _ _), Nat.add_sub_cancel_left]; exact hk)
theorem D_l0 (h : va_D A (w1 ++ w2)) : va_D A w1 := ⟨fun i j p q hi hj => h.1 i j p q (by rw [List.getElem?_append_left (List.getElem?_eq_some_iff.mp hi).1]; exact hi) (by rw [List.getElem?_append_left (List.getElem?_eq_some_iff.mp hj).1]; exact hj), fun k q hk => h.2 k q (by rw [List.getElem?_append_left (List.getElem?_eq_some_iff.mp hk).1]; exact hk)⟩
theorem D_r (h : va_D A (w1 ++ w2)) : va_D A w2 := ⟨fun i j p q hi hj e => by
    have := h.1 (w1.length + i) (w1.length + j) p q (by rw [List.getElem?_append_right (Nat.le_add_right _ _), Nat.add_sub_cancel_left]; exact hi) (by rw [List.getElem?_append_right (Nat.le_add_right _ _), Nat.add_sub_cancel_left]; exact hj) e
    omega, fun k q hk => h.2 (w1.length + k) q (by rw [List.getElem?_append_right (Nat.le_add_right _ _), Nat.add_sub_cancel_left]; exact hk)⟩
theorem D_lr (h : va_D A (w1 ++ w2)) {i j : Nat} {p q : Nat × va_E} (hi : w1[i]? = some p) (hj : w2[j]? = some q) : p.1 ≠ q.1 := fun e => by
  have hl : i < w1.length := (List.getElem?_eq_some_iff.mp hi).1
  have := h.1 i (w1.length + j) p q (by rw [List.getElem?_append_left hl]; exact hi) (by rw [List.getElem?_append_right (Nat.le_add_right _ _), Nat.add_sub_cancel_left]; exact hj) e
  omega
theorem D_l (h : va_D A (w1 ++ w2)) : va_D (frA A w2) w1 := ⟨(D_l0 h).1, fun k q hk => ⟨(D_l0 h).2 k q hk, fun k2 z hz e => D_lr h hk hz e.symm⟩⟩
theorem D_join (h1 : va_D (frA A w2) w1) (h2 : va_D A w2) : va_D A (w1 ++ w2) := va_D.app ⟨h1.1, fun k q hk => (h1.2 k q hk).1⟩ h2 (fun i j p q hi hj e => (h1.2 i p hi).2 j q hj e.symm)
theorem P_sw (h : va_P D vwCl (w1 ++ w2) H) : va_P D vwCl (w2 ++ w1) H := (P_r h).app (P_l h)
theorem D_sw (h : va_D A (w1 ++ w2)) : va_D A (w2 ++ w1) := (D_r h).app (D_l0 h) (fun i j p q hi hj e => D_lr h hj hi e.symm)
theorem fr_kept (hP : va_P D vwCl (w1 ++ w2) H) (hk : ∀ q : Nat, q < H.size → ¬ frA A w2 q → H1[q]? = H[q]?) : va_P D vwCl w2 H1 := (P_r hP).kept (fun k q hq => hk q.1 ((P_r hP k q hq).lt) (fun z => z.2 k q hq rfl))
theorem gZ.fr {U : State} (h : gZ A U) (hw : ∀ (k : Nat) (q : Nat × va_E), w2[k]? = some q → q.1 < U.heap.size) : gZ (frA A w2) U := by
  obtain ⟨⟨h1, h2⟩, h3, h4, h5⟩ := h
  exact ⟨⟨h1.narrow (fun q z => z.1), h2.narrow (fun q z => z.1)⟩, fun q hq => ⟨h3 q hq, fun k z hz e => by have := hw k z hz; omega⟩, h4, h5⟩
theorem o_at {cA : Nat → ClassId} {o : Nat} {g : Nat → Int64} : (w1 ++ oW cA o g)[w1.length]? = some (o, .inl (cA 4, 1, .inr (.inl g))) := by
  rw [List.getElem?_append_right (Nat.le_refl _), Nat.sub_self]
  rfl
theorem o_set {cA : Nat → ClassId} {o : Nat} {g g2 : Nat → Int64} : (w1 ++ oW cA o g).set w1.length (o, .inl (cA 4, 1, .inr (.inl g2))) = w1 ++ oW cA o g2 := by
  rw [List.set_append_right _ _ (Nat.le_refl _), Nat.sub_self]
  rfl
end FRW
section FRR
variable {p : Program} {l : Launch} {e : Env} {R : Room} {s : State} {m : MethodId} {args : Array Value} {below : List Frame} {meth : Method} {c : Code} {Q : State → Prop} {D : va_G} {tys : gT} {A : Nat → Prop} {nL : Nat} {cells slots pc : Nat} {lv : List (Nat × Value)} {st : List Value} {cc : ByteArray} {own : String} {Ts : List Cond} {ret : Option FieldType} {w1 w2 w3 ws : va_W}
theorem g_sw (kk : GW p l e R s m args below meth c Q D A nL (w2 ++ w1) cells slots pc lv st) : GW p l e R s m args below meth c Q D A nL (w1 ++ w2) cells slots pc lv st := g_wsv (fun _ => P_sw) D_sw kk
/-- a call that may throw, caught here -/
theorem g_tryV (E : GE p s m args meth c D tys cc nL own Ts ret) (Z : gZ A s) {y : MethodName} {bytes : ByteArray} {maxL : Nat} {rt : Option FieldType} {wsc wsc' : List Cond} {rm : Room} {n index mc ms : Nat} {peC : String → Prop} {C : String} {T : u_T} {N ci b : Nat} {As rest : List Value} {post : Int32 → va_W → Prop} (hM : vx_Met l y wsc rm (PcZ D tys (frA A w2) w1 (.ref b :: As)) (va_Qi post (gB D (frA A w2)) (frA A w2)) (XQ D (frA A w2) peC w1) mc ms (frA A w2))
    (hG : GoodIn Ts (wsV own index C y wsc)) (hw : wsc = Cond.code y bytes maxL rt :: wsc') (hrm : rm.cells = mc ∧ rm.slots = ms) (hd : y.cls = C ∧ y.cls ≠ "java/lang/invoke/MethodHandle" ∧ y.cls ≠ "java/lang/invoke/VarHandle" ∧ (parseMethodDescriptor y.desc).map (fun d => d.parameters.length) = some n) (hR : rm.frames + 1 ≤ R.frames ∧ 8 + (maxL + 11) + rm.locals ≤ R.locals)
    (he : ∃ (q0 : Nat) (fs : List Value), w1[q0]? = some (b, .inr (ci, fs))) (hc : vwCl[ci]? = some (C, T, N)) (hn : As.length = n) (hst : st = As.reverse ++ .ref b :: rest) (hst8 : (rest.map fun v => v.category).sum ≤ 8) (hf : cells + mc ≤ R.cells ∧ slots + ms ≤ R.slots) (hdg : decode cc pc = .ok (.invokevirtual index, 3))
    (kx : ∀ E9 : String, peC E9 → ∃ (pre : List ExceptionTableEntry) (x : ExceptionTableEntry) (suf : List ExceptionTableEntry), c.exceptionTable.toList = pre ++ x :: suf ∧ (∀ z ∈ pre, covers z pc = false ∨ (z.catchType ≠ 0 ∧ ∃ nm : String, (Cond.classLink own z.catchType nm).before args s = true ∧ va_Nc E9 nm s)) ∧ covers x pc = true ∧ x.catchType ≠ 0 ∧ (Cond.classLink own x.catchType E9).before args s = true ∧ (Cond.castable E9 E9).before args s = true ∧ ∀ q : Nat, GW p l e R s m args below meth c Q D A nL (w1 ++ w2) (cells + mc) (slots + ms) x.handlerPc lv [.ref q])
    (kk : ∀ (r : Int32) (w' : va_W), post r w' → GW p l e R s m args below meth c Q D A nL (w' ++ w2) (cells + mc) (slots + ms) (pc + 3) lv (.int r :: rest)) : GW p l e R s m args below meth c Q D A nL (w1 ++ w2) cells slots pc lv st := by
  intro H locs ls hP hD hS h0
  subst hst
  obtain ⟨q0, fs, hq⟩ := he
  have hlt : ∀ (k : Nat) (q : Nat × va_E), w2[k]? = some q → q.1 < H.size := fun k q hk => (P_r hP k q hk).lt
  exact vx_calli (vx_runV (As := As) (rest := rest) ⟨E.1, E.2.1, E.2.2.1, E.2.2.2.1, E.2.2.2.2.1⟩ hM (cwV n E.2.2.2.2.1 hG hw hrm.1 hrm.2 hd hR) ⟨PcZ.blind, va_recv (q0 := q0) E.2.2.2.2.2.1.1 (P_l hP) hc hq, fun U hU hW => ⟨rfl, ⟨by rw [hU]; exact P_l hP, E.2.2.2.2.2.1.moved hW, D_l hD⟩, (Z.at hU hW hS).fr (by rw [hU]; exact hlt)⟩⟩ rfl hn (h0.1) rfl (lv_room hst8) hdg hf) hS (fun q _ h => h.1) (fun q h => h.1) (fun q _ h => h.1)
    (fun E9 ce q9 u t H1 locs1 ht _ _ hB _ hk hS' hce hcv hcl => by
      obtain ⟨pre, x, suf, k1, k2, k3, k4, k5, k6, k7⟩ := kx E9 hB.1
      have hP1 : va_P D vwCl w1 H1 := by rw [← ht]; exact hB.2
      exact vx_catch E.2.2.2.1 pre x suf k1 k2 k3 k4 k5 k6 hce hcv hcl (k7 q9 H1 locs1 ls (hP1.app (fr_kept hP hk)) hD hS' h0))
    (fun r w' t H1 locs1 ht _ hp hB _ hk hS' => by
      have hP1 : va_P D vwCl w' H1 := by rw [← ht]; exact hB.1
      exact kk r w' hp H1 locs1 ls (hP1.app (fr_kept hP hk)) (D_join hB.2 (D_r hD)) hS' h0)
/-- plain calls over a part of the world -/
theorem g_fVi (E : GE p s m args meth c D tys cc nL own Ts ret) {y : MethodName} {bytes : ByteArray} {maxL : Nat} {rt : Option FieldType} {wsc wsc' : List Cond} {rm : Room} {n index : Nat} {C : String} {T : u_T} {N ci b : Nat} {As rest : List Value} {post : Int32 → va_W → Prop} (hM : Met l y wsc rm (PcG D tys (frA A w2) w1 (.ref b :: As)) (va_Qi post (gB D (frA A w2)) (frA A w2)) 0 0 (frA A w2))
    (hG : GoodIn Ts (wsV own index C y wsc)) (hw : wsc = Cond.code y bytes maxL rt :: wsc') (hrm : rm.cells = 0 ∧ rm.slots = 0) (hd : y.cls = C ∧ y.cls ≠ "java/lang/invoke/MethodHandle" ∧ y.cls ≠ "java/lang/invoke/VarHandle" ∧ (parseMethodDescriptor y.desc).map (fun d => d.parameters.length) = some n) (hR : rm.frames + 1 ≤ R.frames ∧ 8 + (maxL + 11) + rm.locals ≤ R.locals)
    (he : ∃ (q0 : Nat) (fs : List Value), w1[q0]? = some (b, .inr (ci, fs))) (hc : vwCl[ci]? = some (C, T, N)) (hn : As.length = n) (hst : st = As.reverse ++ .ref b :: rest) (hst8 : (rest.map fun v => v.category).sum ≤ 8) (hf : cells + 0 ≤ R.cells ∧ slots + 0 ≤ R.slots) (hdg : decode cc pc = .ok (.invokevirtual index, 3))
    (kk : ∀ (r : Int32) (w' : va_W), post r w' → GW p l e R s m args below meth c Q D A nL (w' ++ w2) cells slots (pc + 3) lv (.int r :: rest)) : GW p l e R s m args below meth c Q D A nL (w1 ++ w2) cells slots pc lv st := by
  intro H locs ls hP hD hS h0
  subst hst
  obtain ⟨q0, fs, hq⟩ := he
  exact va_calli (va_runV (As := As) (rest := rest) ⟨E.1, E.2.1, E.2.2.1, E.2.2.2.1, E.2.2.2.2.1⟩ hM (cwV n E.2.2.2.2.1 hG hw hrm.1 hrm.2 hd hR) ⟨PcG.blind, va_recv (q0 := q0) E.2.2.2.2.2.1.1 (P_l hP) hc hq, fun U hU hW => PcG.at hU hW (P_l hP) E.2.2.2.2.2.1 (D_l hD)⟩ rfl hn (h0.1) rfl (lv_room hst8) hdg hf) hS (fun q _ h => h.1) (fun q h => h.1) (fun r w' t H1 locs1 ht _ hp hB _ hk hS' => by
    have hP1 : va_P D vwCl w' H1 := by rw [← ht]; exact hB.1
    exact kk r w' hp H1 locs1 ls (hP1.app (fr_kept hP hk)) (D_join hB.2 (D_r hD)) hS' h0)
theorem g_fVl (E : GE p s m args meth c D tys cc nL own Ts ret) {y : MethodName} {bytes : ByteArray} {maxL : Nat} {rt : Option FieldType} {wsc wsc' : List Cond} {rm : Room} {n index : Nat} {C : String} {T : u_T} {N ci b : Nat} {As rest : List Value} {post : Int64 → va_W → Prop} (hM : Met l y wsc rm (PcG D tys (frA A w2) w1 (.ref b :: As)) (va_Ql post (gB D (frA A w2)) (frA A w2)) 0 0 (frA A w2))
    (hG : GoodIn Ts (wsV own index C y wsc)) (hw : wsc = Cond.code y bytes maxL rt :: wsc') (hrm : rm.cells = 0 ∧ rm.slots = 0) (hd : y.cls = C ∧ y.cls ≠ "java/lang/invoke/MethodHandle" ∧ y.cls ≠ "java/lang/invoke/VarHandle" ∧ (parseMethodDescriptor y.desc).map (fun d => d.parameters.length) = some n) (hR : rm.frames + 1 ≤ R.frames ∧ 8 + (maxL + 11) + rm.locals ≤ R.locals)
    (he : ∃ (q0 : Nat) (fs : List Value), w1[q0]? = some (b, .inr (ci, fs))) (hc : vwCl[ci]? = some (C, T, N)) (hn : As.length = n) (hst : st = As.reverse ++ .ref b :: rest) (hst8 : (rest.map fun v => v.category).sum ≤ 8) (hf : cells + 0 ≤ R.cells ∧ slots + 0 ≤ R.slots) (hdg : decode cc pc = .ok (.invokevirtual index, 3))
    (kk : ∀ (r : Int64) (w' : va_W), post r w' → GW p l e R s m args below meth c Q D A nL (w' ++ w2) cells slots (pc + 3) lv (.long r :: rest)) : GW p l e R s m args below meth c Q D A nL (w1 ++ w2) cells slots pc lv st := by
  intro H locs ls hP hD hS h0
  subst hst
  obtain ⟨q0, fs, hq⟩ := he
  exact va_calll (va_runV (As := As) (rest := rest) ⟨E.1, E.2.1, E.2.2.1, E.2.2.2.1, E.2.2.2.2.1⟩ hM (cwV n E.2.2.2.2.1 hG hw hrm.1 hrm.2 hd hR) ⟨PcG.blind, va_recv (q0 := q0) E.2.2.2.2.2.1.1 (P_l hP) hc hq, fun U hU hW => PcG.at hU hW (P_l hP) E.2.2.2.2.2.1 (D_l hD)⟩ rfl hn (h0.1) rfl (lv_room hst8) hdg hf) hS (fun q _ h => h.1) (fun q h => h.1) (fun r w' t H1 locs1 ht _ hp hB _ hk hS' => by
    have hP1 : va_P D vwCl w' H1 := by rw [← ht]; exact hB.1
    exact kk r w' hp H1 locs1 ls (hP1.app (fr_kept hP hk)) (D_join hB.2 (D_r hD)) hS' h0)
theorem g_fVd (E : GE p s m args meth c D tys cc nL own Ts ret) {y : MethodName} {bytes : ByteArray} {maxL : Nat} {rt : Option FieldType} {wsc wsc' : List Cond} {rm : Room} {n index : Nat} {C : String} {T : u_T} {N ci b : Nat} {As rest : List Value} {post : UInt64 → va_W → Prop} (hM : Met l y wsc rm (PcG D tys (frA A w2) w1 (.ref b :: As)) (va_Qd post (gB D (frA A w2)) (frA A w2)) 0 0 (frA A w2))
    (hG : GoodIn Ts (wsV own index C y wsc)) (hw : wsc = Cond.code y bytes maxL rt :: wsc') (hrm : rm.cells = 0 ∧ rm.slots = 0) (hd : y.cls = C ∧ y.cls ≠ "java/lang/invoke/MethodHandle" ∧ y.cls ≠ "java/lang/invoke/VarHandle" ∧ (parseMethodDescriptor y.desc).map (fun d => d.parameters.length) = some n) (hR : rm.frames + 1 ≤ R.frames ∧ 8 + (maxL + 11) + rm.locals ≤ R.locals)
    (he : ∃ (q0 : Nat) (fs : List Value), w1[q0]? = some (b, .inr (ci, fs))) (hc : vwCl[ci]? = some (C, T, N)) (hn : As.length = n) (hst : st = As.reverse ++ .ref b :: rest) (hst8 : (rest.map fun v => v.category).sum ≤ 8) (hf : cells + 0 ≤ R.cells ∧ slots + 0 ≤ R.slots) (hdg : decode cc pc = .ok (.invokevirtual index, 3))
    (kk : ∀ (r : UInt64) (w' : va_W), post r w' → GW p l e R s m args below meth c Q D A nL (w' ++ w2) cells slots (pc + 3) lv (.double r :: rest)) : GW p l e R s m args below meth c Q D A nL (w1 ++ w2) cells slots pc lv st := by
  intro H locs ls hP hD hS h0
  subst hst
  obtain ⟨q0, fs, hq⟩ := he
  exact va_calld (va_runV (As := As) (rest := rest) ⟨E.1, E.2.1, E.2.2.1, E.2.2.2.1, E.2.2.2.2.1⟩ hM (cwV n E.2.2.2.2.1 hG hw hrm.1 hrm.2 hd hR) ⟨PcG.blind, va_recv (q0 := q0) E.2.2.2.2.2.1.1 (P_l hP) hc hq, fun U hU hW => PcG.at hU hW (P_l hP) E.2.2.2.2.2.1 (D_l hD)⟩ rfl hn (h0.1) rfl (lv_room hst8) hdg hf) hS (fun q _ h => h.1) (fun q h => h.1) (fun r w' t H1 locs1 ht _ hp hB _ hk hS' => by
    have hP1 : va_P D vwCl w' H1 := by rw [← ht]; exact hB.1
    exact kk r w' hp H1 locs1 ls (hP1.app (fr_kept hP hk)) (D_join hB.2 (D_r hD)) hS' h0)
/-- a static call of a method that catches -/
theorem g_fW (E : GE p s m args meth c D tys cc nL own Ts ret) (Z : gZ A s) (X : gC s) {y : MethodName} {bytes : ByteArray} {maxL : Nat} {rt : Option FieldType} {hh : List (Nat × Nat × Nat × Nat)} {wsc wsc' : List Cond} {rm : Room} {n index mc ms : Nat} {As rest : List Value} {post : Int32 → va_W → Prop} (hM : Met l y wsc rm (PcL D tys (frA A w2) w1 As) (va_Qi post (gB D (frA A w2)) (frA A w2)) mc ms (frA A w2))
    (hG : GoodIn Ts (va_wsS own index y wsc)) (hw : wsc = Cond.codeWith y bytes maxL rt hh :: wsc') (hrm : rm.cells = mc ∧ rm.slots = ms) (hd : y.cls ≠ "java/lang/invoke/MethodHandle" ∧ y.cls ≠ "java/lang/invoke/VarHandle" ∧ (parseMethodDescriptor y.desc).map (fun d => d.parameters.length) = some n) (hR : rm.frames + 1 ≤ R.frames ∧ 8 + (maxL + 11) + rm.locals ≤ R.locals)
    (hn : As.length = n) (hst : st = As.reverse ++ rest) (hst8 : (rest.map fun v => v.category).sum ≤ 8) (hf : cells + mc ≤ R.cells ∧ slots + ms ≤ R.slots) (hdg : decode cc pc = .ok (.invokestatic index, 3))
    (kk : ∀ (r : Int32) (w' : va_W), post r w' → GW p l e R s m args below meth c Q D A nL (w' ++ w2) (cells + mc) (slots + ms) (pc + 3) lv (.int r :: rest)) : GW p l e R s m args below meth c Q D A nL (w1 ++ w2) cells slots pc lv st := by
  intro H locs ls hP hD hS h0
  subst hst
  have hlt : ∀ (k : Nat) (q : Nat × va_E), w2[k]? = some q → q.1 < H.size := fun k q hk => (P_r hP k q hk).lt
  exact va_calli (vx_runSW (As := As) (rest := rest) ⟨E.1, E.2.1, E.2.2.1, E.2.2.2.1, E.2.2.2.2.1⟩ hM (vx_cwSW n E.2.2.2.2.1 hG hw hrm.1 hrm.2 hd hR) ⟨PcL.blind, fun U hU hW => ⟨rfl, ⟨⟨by rw [hU]; exact P_l hP, E.2.2.2.2.2.1.moved hW, D_l hD⟩, (Z.at hU hW hS).fr (by rw [hU]; exact hlt)⟩, X.moved hW.alike⟩⟩ rfl hn (h0.1) rfl (lv_room hst8) hdg hf) hS (fun q _ h => h.1) (fun q h => h.1) (fun r w' t H1 locs1 ht _ hp hB _ hk hS' => by
    have hP1 : va_P D vwCl w' H1 := by rw [← ht]; exact hB.1
    exact kk r w' hp H1 locs1 ls (hP1.app (fr_kept hP hk)) (D_join hB.2 (D_r hD)) hS' h0)
theorem g_last {cA : Nat → ClassId} (E : GE p s m args meth c D (tysX cA) cc nL own Ts ret) {o : Nat} {g : Nat → Int64} {x : Int64} (hdg : decode cc pc = .ok (.lastore, 1))
    (kk : ∀ g2 : Nat → Int64, g2 0 = x → GW p l e R s m args below meth c Q D A nL (w1 ++ oW cA o g2) cells slots (pc + 1) lv st) : GW p l e R s m args below meth c Q D A nL (w1 ++ oW cA o g) cells slots pc lv (.long x :: .int (zI 0) :: .ref o :: st) := by
  intro H locs ls hP hD hS h0
  have e0 : (zI 0).toNatClampNeg = 0 := zI_cl (z := 0) (by omega)
  refine va_last E.1 E.2.1 E.2.2.2.2.2.1.1 hP hD hS w1.length 4 o_at rfl (zI_in (n := 1) (by omega) (by omega)) hdg (fun H1 locs1 hP1 hD1 hS1 => ?_)
  rw [o_set] at hP1 hD1
  exact kk _ (by rw [e0]; simp [vp_updL]) H1 locs1 ls hP1 hD1 hS1 h0
theorem g_lald {cA : Nat → ClassId} (E : GE p s m args meth c D (tysX cA) cc nL own Ts ret) {o : Nat} {g : Nat → Int64} (hdg : decode cc pc = .ok (.laload, 1))
    (kk : GW p l e R s m args below meth c Q D A nL ((w1 ++ oW cA o g) ++ w2) cells slots (pc + 1) lv (.long (g 0) :: st)) : GW p l e R s m args below meth c Q D A nL ((w1 ++ oW cA o g) ++ w2) cells slots pc lv (.int (zI 0) :: .ref o :: st) := by
  intro H locs ls hP hD hS h0
  have e0 : (zI 0).toNatClampNeg = 0 := zI_cl (z := 0) (by omega)
  exact va_lald E.1 E.2.1 E.2.2.2.2.2.1.1 (P_l hP) w1.length 4 o_at rfl (zI_in (n := 1) (by omega) (by omega)) hdg (by rw [e0]; exact kk H locs ls hP hD hS h0)
theorem g_sld (E : GE p s m args meth c D tys cc nL own Ts ret) {b L : Nat} {xs : Nat → Int32} {z : Int} (hX : va_X b L xs s s.heap) (hbl : b < s.heap.size) (hbA : ¬ A b) (hz : 0 ≤ z ∧ z < L) (hL : L ≤ 2560) (hdg : decode cc pc = .ok (.iaload, 1))
    (kk : GW p l e R s m args below meth c Q D A nL ws cells slots (pc + 1) lv (.int (zI (xs z.toNat).toInt) :: st)) : GW p l e R s m args below meth c Q D A nL ws cells slots pc lv (.int (zI z) :: .ref b :: st) :=
  fun H locs ls hP hD hS h0 => va_sld E.1 E.2.1 hX hbl hbA hS (zI_in hz (by omega)) hdg (by rw [zI_cl (by omega), ← zI_self (xs z.toNat)]; exact kk H locs ls hP hD hS h0)
theorem g_slen (E : GE p s m args meth c D tys cc nL own Ts ret) {b L : Nat} {xs : Nat → Int32} (hX : va_X b L xs s s.heap) (hbl : b < s.heap.size) (hbA : ¬ A b) (hdg : decode cc pc = .ok (.arraylength, 1))
    (kk : GW p l e R s m args below meth c Q D A nL ws cells slots (pc + 1) lv (.int (zI (L : Int)) :: st)) : GW p l e R s m args below meth c Q D A nL ws cells slots pc lv (.ref b :: st) :=
  fun H locs ls hP hD hS h0 => va_slen E.1 E.2.1 hX hbl hbA hS hdg (by rw [show Int32.ofNat L = zI (L : Int) from zI_nI L]; exact kk H locs ls hP hD hS h0)
theorem g_iand (E : GE p s m args meth c D tys cc nL own Ts ret) {x y : Int32} (hdg : decode cc pc = .ok (.iand, 1)) (kk : GW p l e R s m args below meth c Q D A nL ws cells slots (pc + 1) lv (.int (x &&& y) :: st)) : GW p l e R s m args below meth c Q D A nL ws cells slots pc lv (.int y :: .int x :: st) :=
  fun H locs ls hP hD hS h0 => lv_iand E.1 E.2.1 hdg (kk H locs ls hP hD hS h0)
theorem g_lcmp (E : GE p s m args meth c D tys cc nL own Ts ret) {x y : Int64} (hdg : decode cc pc = .ok (.lcmp, 1)) (kk : GW p l e R s m args below meth c Q D A nL ws cells slots (pc + 1) lv (.int (lg_cmp x y) :: st)) : GW p l e R s m args below meth c Q D A nL ws cells slots pc lv (.long y :: .long x :: st) :=
  fun H locs ls hP hD hS h0 => W.lcmp E.1 E.2.1 hdg (kk H locs ls hP hD hS h0)
theorem g_dcmp (E : GE p s m args meth c D tys cc nL own Ts ret) {x y : UInt64} {op : CmpOp} (hdg : decode cc pc = .ok (.dcmp op, 1)) (kk : GW p l e R s m args below meth c Q D A nL ws cells slots (pc + 1) lv (.int (Op.cmpValue (FP.dcmp x y) op) :: st)) : GW p l e R s m args below meth c Q D A nL ws cells slots pc lv (.double y :: .double x :: st) :=
  fun H locs ls hP hD hS h0 => lv_dcmp E.1 E.2.1 hdg (kk H locs ls hP hD hS h0)
theorem g_dstore (E : GE p s m args meth c D tys cc nL own Ts ret) {k : Nat} {v : UInt64} (hdg : decode cc pc = .ok (.dstore k, 2)) (hn : k + 1 < nL) (kk : GW p l e R s m args below meth c Q D A nL ws cells slots (pc + 2) (lput2 lv k (.double v)) st) : GW p l e R s m args below meth c Q D A nL ws cells slots pc lv (.double v :: st) :=
  fun H locs ls hP hD hS h => lv_dstore E.1 E.2.1 hdg h hn rfl (fun ls' h' => kk H locs ls' hP hD hS h')
theorem g_dload (E : GE p s m args meth c D tys cc nL own Ts ret) {k : Nat} {v : UInt64} (hdg : decode cc pc = .ok (.dload k, 2)) (hl : lk lv k = some (.double v)) (kk : GW p l e R s m args below meth c Q D A nL ws cells slots (pc + 2) lv (.double v :: st)) : GW p l e R s m args below meth c Q D A nL ws cells slots pc lv st :=
  fun H locs ls hP hD hS h => lv_dload E.1 E.2.1 hdg (lk_at h hl) (kk H locs ls hP hD hS h)
theorem g_newl {cA : Nat → ClassId} (E : GE p s m args meth c D (tysX cA) cc nL own Ts ret) (hA : ∀ q, s.heap.size ≤ q → A q) (hid : ∀ cN : ClassId, va_RA s cN .long → cN = cA 4) (harr : Cond.arrayClass .long ∈ Ts) (hc : cells + 1 ≤ R.cells) (hs : slots + 1 ≤ R.slots) (hdg : decode cc pc = .ok (.newarray .long, 2))
    (kk : ∀ q : Nat, GW p l e R s m args below meth c Q D A nL (ws ++ oW cA q (fun _ => 0)) (cells + 1) (slots + 1) (pc + 2) lv (.ref q :: st)) : GW p l e R s m args below meth c Q D A nL ws cells slots pc lv (.int (zI 1) :: st) := by
  intro H locs ls hP hD hS h0
  have nn : ¬ zI 1 < 0 := by decide
  refine va_newa (atype := .long) (ty := .long) (a0 := (1, .inr (.inl (fun _ => 0)))) E.1 E.2.1 (E.2.2.2.2.1 _ harr) rfl E.2.2.2.2.2.1.1 hP hD hS hA (fun _ => rfl) nn (by rw [zI_cl (z := 1) (by omega)]; rfl) (by decide) hc hs hdg (fun q cB H1 hK1 hP1 hD1 hS1 => ?_)
  have e1 : cB = cA 4 := hid cB (hK1.2 5 (cB, .long) rfl).2
  subst e1
  exact kk q H1 locs ls hP1 hD1 hS1 h0
end FRR
theorem and31 (x : Int32) : 0 ≤ (x &&& 31).toInt ∧ (x &&& 31).toInt ≤ 31 := by
  have h : (x &&& 31).toBitVec.toNat ≤ 31 := by
    rw [Int32.toBitVec_and, BitVec.toNat_and]
    exact Nat.le_trans Nat.and_le_right (by decide)
  have h2 : (x &&& 31).toInt = ((x &&& 31).toBitVec.toNat : Int) := BitVec.toInt_eq_toNat_of_lt (by omega)
  omega
theorem exn1 {a E : String} {k : Int} (h : exn [a] E k) : E = a ∧ k = 1 := by
  obtain ⟨j, h1, h2⟩ := h
  match j, h2 with
  | 0, h2 => exact ⟨(Option.some.inj h2).symm, by omega⟩
theorem exn2 {a b E : String} {k : Int} (h : exn [a, b] E k) : (E = a ∧ k = 1) ∨ (E = b ∧ k = 2) := by
  obtain ⟨j, h1, h2⟩ := h
  match j, h2 with
  | 0, h2 => exact Or.inl ⟨(Option.some.inj h2).symm, by omega⟩
  | 1, h2 => exact Or.inr ⟨(Option.some.inj h2).symm, by omega⟩
theorem exn3 {a b c E : String} {k : Int} (h : exn [a, b, c] E k) : (E = a ∧ k = 1) ∨ (E = b ∧ k = 2) ∨ (E = c ∧ k = 3) := by
  obtain ⟨j, h1, h2⟩ := h
  match j, h2 with
  | 0, h2 => exact Or.inl ⟨(Option.some.inj h2).symm, by omega⟩
  | 1, h2 => exact Or.inr (Or.inl ⟨(Option.some.inj h2).symm, by omega⟩)
  | 2, h2 => exact Or.inr (Or.inr ⟨(Option.some.inj h2).symm, by omega⟩)
theorem cst {A : Nat → Prop} {s : State} {args : Array Value} (Z : gZ A s) {E : String} (h : Cond.castable E E ∈ nB) : (Cond.castable E E).before args s = true := va_Nw.use ((by decide +kernel : ∀ w ∈ nB, w.onTables = true) _ h) (Z.2.2.1 _ h)
theorem cstI : Cond.castable xI xI ∈ nB := by simp [nB]
theorem cstA : Cond.castable xA xA ∈ nB := by simp [nB]
theorem cstS : Cond.castable xS xS ∈ nB := by simp [nB]
/-- the contract of a method that catches -/
theorem metH {l : Launch} {y : MethodName} {ws ws' : List Cond} {rm : Room} {Pc : Array Value → State → Prop} {Qc : Array Value → State → Outcome → State → Prop} {mc ms : Nat} {free : Addr → Prop} {cc : ByteArray} {maxL : Nat} {ret : Option FieldType} {hh : List (Nat × Nat × Nat × Nat)} (hy : plainName y.cls = true) (hw : ws = Cond.codeWith y cc maxL ret hh :: ws')
    (body : ∀ p e s m args below meth c s₁, BodyLoose p l y (headSpec ws rm) cc maxL ret e s m args below meth c s₁ → c.maxLocals = maxL → c.exceptionTable.toList = tableOf hh → Pc args s → W p l e (headSpec ws rm).room s m args below meth c s.heap [] 0 0 (MQ below Qc args s mc ms free) (entryFrame m args maxL)) : Met l y ws rm Pc Qc mc ms free := by
  refine MetFree.of_bodyS (code := cc) (maxLocals := maxL) (ret := ret) hy ?_ ?_
  · intro args s m h hn
    obtain ⟨m9, meth, c, hn9, h1, h2, h3, h4, -, h5, h6, -⟩ := Cond.codeWith_spec (atoms_spec (ws := ws) h _ (by rw [hw]; exact List.mem_cons_self))
    cases hn.symm.trans hn9
    exact ⟨meth, c, h1, h2, h3, h4, h5, h6⟩
  · intro p e s m args below meth c s₁ B hml hP _
    have hh0 : s₁.heap = s.heap := by rw [B.state]; rfl
    have hcw : (Cond.codeWith y cc maxL ret hh).before args s = true := atoms_spec (ws := ws) B.pre _ (by rw [hw]; exact List.mem_cons_self)
    have ht := vx_table (x := y) B hcw
    obtain ⟨t, a1, o, b1, b2, b3⟩ := body p e s m args below meth c s₁ B hml ht hP s₁ hh0 (Stand.of_body B)
    exact ⟨t, o, a1, b1, b2, ⟨b3.1, b3.2⟩⟩
theorem g_metL {l : Launch} {D : va_G} {tys : gT} {A : Nat → Prop} {ws0 : va_W} {As : List Value} {y : MethodName} {wsc wsc' : List Cond} {rm : Room} {Qc : Array Value → State → Outcome → State → Prop} {mc ms : Nat} {cc : ByteArray} {maxL : Nat} {ret : Option FieldType} {own : String} {hh : List (Nat × Nat × Nat × Nat)} (ho : y.cls = own) (hy : plainName y.cls = true) (hw : wsc = Cond.codeWith y cc maxL ret hh :: wsc') (hlen : (lg_sl As).length ≤ maxL)
    (body : ∀ (p : Program) (e : Env) (s : State) (m : MethodId) (below : List Frame) (meth : Method) (c : Code), GE p s m As.toArray meth c D tys cc maxL own wsc ret → gZ A s → gC s → c.exceptionTable.toList = tableOf hh → GW p l e (headSpec wsc rm).room s m As.toArray below meth c (MQ below Qc As.toArray s mc ms A) D A maxL ws0 0 0 0 (lv_args 0 As) []) : Met l y wsc rm (PcL D tys A ws0 As) Qc mc ms A := by
  refine metH (cc := cc) (maxL := maxL) (ret := ret) (hh := hh) hy hw ?_
  intro p e s m args below meth c s₁ B hml ht hv
  obtain ⟨rfl, ⟨⟨hP, hK, hD⟩, hZ⟩, hC⟩ := hv
  subst ho
  have E : GE p s m As.toArray meth c D tys cc maxL y.cls wsc ret := ⟨B.exec, B.bytes, hml, findClass_of_methodNamed B.named, atoms_spec (ws := wsc) B.pre, hK, B.returns, B.notSynchronized⟩
  rw [lg_entry_eq]
  exact body p e s m below meth c E hZ hC ht s.heap [] _ hP hD va_S.rf (lv_entry As hlen)
/-- what a call of the law's wrappers leaves -/
def wP (cA : Nat → ClassId) (ad : Ad) (σ : Nat → St) (o : Nat) (g : Nat → Int64) (e : Int) (V : Int32) (N : St) : Int32 → va_W → Prop := fun r w => r = zI e ∧ (e = 0 → ∃ (σ' : Nat → St) (g' : Nat → Int64), σ' 0 = N ∧ TrI N (σ' 1) ∧ g' 0 = V.toInt64 ∧ w = wX cA ad σ' ++ oW cA o g') ∧ (¬ e = 0 → w = wX cA ad σ ++ oW cA o g)
def LI (σ : Nat → St) (dd : Int32) : Prop := Inv (σ 0) ∧ TrI (σ 0) (σ 1) ∧ dd = σ 0 0 0 2
theorem lj {cA : Nat → ClassId} {ad : Ad} {am : Nat → Nat} {σ : Nat → St} {o : Nat} {g : Nat → Int64} {dd ddN : Int32} {kp kpN : Nat → Nat → Int32} {e : Int} {V r r2 : Int32} {N : St} {ws1 ws2 : va_W} (he : 0 ≤ e ∧ e ≤ 3) (h1 : wP cA ad σ o g e V N r ws1) (h2 : (e = 0 → r2 = V ∧ ws2 = wM cA am N (zI 0) ddN kpN) ∧ (¬ e = 0 → ws2 = wM cA am (σ 0) (zI e) dd kp)) (hL : LI σ dd) (hN : e = 0 → Inv N ∧ ddN = N 0 0 2) :
    ∃ (σ' : Nat → St) (g' : Nat → Int64) (dd' : Int32) (kp' : Nat → Nat → Int32), ws1 = wX cA ad σ' ++ oW cA o g' ∧ ws2 = wM cA am (σ' 0) (zI e) dd' kp' ∧ LI σ' dd' ∧ r = zI e ∧ (zI e = 0 → g' 0 = V.toInt64 ∧ r2 = V) := by
  by_cases h0 : e = 0
  · obtain ⟨σ', g', q1, q2, q3, q4⟩ := h1.2.1 h0
    obtain ⟨a1, a2⟩ := h2.1 h0
    obtain ⟨n1, n2⟩ := hN h0
    exact ⟨σ', g', ddN, kpN, q4, by rw [a2, q1, h0], ⟨by rw [q1]; exact n1, by rw [q1]; exact q2, by rw [q1]; exact n2⟩, h1.1, fun _ => ⟨q3, a1⟩⟩
  · exact ⟨σ, g, dd, kp, h1.2.2 h0, h2.2 h0, hL, h1.1, fun z => absurd ((zI_eq (by omega) (by omega)).mp (z.trans zI_0.symm)) h0⟩
