/-! ===== ROWS: parts of a world; calls over a part; the law's own arrays ===== -/
def frA (A : Nat → Prop) (w2 : va_W) : Nat → Prop := fun q => A q ∧ ∀ (k : Nat) (z : Nat × va_E), w2[k]? = some z → z.1 ≠ q
section FRW
variable {D : va_G} {A : Nat → Prop} {w1 w2 w3 : va_W} {H H1 : Heap}
theorem P_l (h : va_P D vwCl (w1 ++ w2) H) : va_P D vwCl w1 H := fun k q hk => h k q (by rw [List.getElem?_append_left (List.getElem?_eq_some_iff.mp hk).1]; exact hk)
theorem P_r (h : va_P D vwCl (w1 ++ w2) H) : va_P D vwCl w2 H := fun k q hk => h (w1.length + k) q (by rw [List.getElem?_append_right (Nat.le_add_right _ _), Nat.add_sub_cancel_left]; exact hk)
theorem D_l0 (h : va_D A (w1 ++ w2)) : va_D A w1 := ⟨fun i j p q hi hj => h.1 i j p q (by rw [List.getElem?_append_left (List.getElem?_eq_some_iff.mp hi).1]; exact hi) (by rw [List.getElem?_append_left (List.getElem?_eq_some_iff.mp hj).1]; exact hj), fun k q hk => h.2 k q (by rw [List.getElem?_append_left (List.getElem?_eq_some_iff.mp hk).1]; exact hk)⟩
theorem D_r (h : va_D A (w1 ++ w2)) : va_D A w2 := ⟨fun i j p q hi hj e => by
    have := h.1 (w1.length + i) (w1.length + j) p q (by rw [List.getElem?_append_right (Nat.le_add_right _ _), Nat.add_sub_cancel_left]; exact hi) (by rw [List.getElem?_append_right (Nat.le_add_right _ _), Nat.add_sub_cancel_left]; exact hj) e
    omega, fun k q hk => h.2 (w1.length + k) q (by rw [List.getElem?_append_right (Nat.le_add_right _ _), Nat.add_sub_cancel_left]; exact hk)⟩
theorem D_lr (h : va_D A (w1 ++ w2)) {i j : Nat} {p q : Nat × va_E} (hi : w1[i]? = some p) (hj : w2[j]? = some q) : p.1 ≠ q.1 := fun e => by
  have hl : i < w1.length := (List.getElem?_eq_some_iff.mp hi).1
  have := h.1 i (w1.length + j) p q (by rw [List.getElem?_append_left hl]; exact hi) (by rw [List.getElem?_append_right (Nat.le_add_right _ _), Nat.add_sub_cancel_left]; exact hj) e
  omega
theorem D_l (h : va_D A (w1 ++ w2)) : va_D (frA A w2) w1 := ⟨(D_l0 h).1, fun k q hk => ⟨(D_l0 h).2 k q hk, fun k2 z hz e => D_lr h hk hz e.symm⟩⟩
theorem D_join (h1 : va_D (frA A w2) w1) (h2 : va_D A w2) : va_D A (w1 ++ w2) := va_D.app ⟨h1.1, fun k q hk => (h1.2 k q hk).1⟩ h2 (fun i j p q hi hj e => (h1.2 i p hi).2 j q hj e.symm)
theorem P_sw (h : va_P D vwCl (w1 ++ w2) H) : va_P D vwCl (w2 ++ w1) H := (P_r h).app (P_l h)
theorem D_sw (h : va_D A (w1 ++ w2)) : va_D A (w2 ++ w1) := (D_r h).app (D_l0 h) (fun i j p q hi hj e => D_lr h hj hi e.symm)
theorem fr_kept (hP : va_P D vwCl (w1 ++ w2) H) (hk : ∀ q : Nat, q < H.size → ¬ frA A w2 q → H1[q]? = H[q]?) : va_P D vwCl w2 H1 := (P_r hP).kept (fun k q hq => hk q.1 ((P_r hP k q hq).lt) (fun z => z.2 k q hq rfl))
theorem gZ.fr {U : State} (h : gZ A U) (hw : ∀ (k : Nat) (q : Nat × va_E), w2[k]? = some q → q.1 < U.heap.size) : gZ (frA A w2) U := by
  obtain ⟨⟨h1, h2⟩, h3, h4, h5⟩ := h
  exact ⟨⟨h1.narrow (fun q z => z.1), h2.narrow (fun q z => z.1)⟩, fun q hq => ⟨h3 q hq, fun k z hz e => by have := hw k z hz; omega⟩, h4, h5⟩
end FRW
section MID
variable {p : Program} {l : Launch} {e : Env} {R : Room} {s : State} {m : MethodId} {args : Array Value} {below : List Frame} {meth : Method} {c : Code} {Q : State → Prop} {D : va_G} {tys : gT} {A : Nat → Prop} {nL : Nat} {ws w0 w1 w2 w3 : va_W} {cells slots pc : Nat} {lv : List (Nat × Value)} {st : List Value} {cc : ByteArray} {own : String} {Ts : List Cond} {ret : Option FieldType}
theorem P_mid {H : Heap} (h : va_P D vwCl (w0 ++ (w1 ++ w2)) H) : va_P D vwCl (w1 ++ (w2 ++ w0)) H := (P_l (P_r h)).app ((P_r (P_r h)).app (P_l h))
theorem P_dim {H : Heap} (h : va_P D vwCl (w1 ++ (w2 ++ w0)) H) : va_P D vwCl (w0 ++ (w1 ++ w2)) H := (P_r (P_r h)).app ((P_l h).app (P_l (P_r h)))
theorem D_mid (h : va_D A (w0 ++ (w1 ++ w2))) : va_D A (w1 ++ (w2 ++ w0)) := by
  have h1 := D_sw h
  rw [List.append_assoc] at h1
  exact h1
theorem D_dim (h : va_D A (w1 ++ (w2 ++ w0))) : va_D A (w0 ++ (w1 ++ w2)) := by
  rw [← List.append_assoc] at h
  exact D_sw h
theorem g_mid (kk : GW p l e R s m args below meth c Q D A nL (w1 ++ (w2 ++ w0)) cells slots pc lv st) : GW p l e R s m args below meth c Q D A nL (w0 ++ (w1 ++ w2)) cells slots pc lv st := g_wsv (fun _ => P_mid) D_mid kk
theorem g_dim (kk : GW p l e R s m args below meth c Q D A nL (w0 ++ (w1 ++ w2)) cells slots pc lv st) : GW p l e R s m args below meth c Q D A nL (w1 ++ (w2 ++ w0)) cells slots pc lv st := g_wsv (fun _ => P_dim) D_dim kk
/-- what was laid last is dropped -/
theorem g_drop (kk : GW p l e R s m args below meth c Q D A nL w1 cells slots pc lv st) : GW p l e R s m args below meth c Q D A nL (w1 ++ w2) cells slots pc lv st := g_wsv (fun _ => P_l) D_l0 kk
theorem g_drop2 (kk : GW p l e R s m args below meth c Q D A nL (w0 ++ w1) cells slots pc lv st) : GW p l e R s m args below meth c Q D A nL (w0 ++ (w1 ++ w2)) cells slots pc lv st := by
  rw [← List.append_assoc]
  exact g_drop kk
theorem g_drop3 (kk : GW p l e R s m args below meth c Q D A nL (w0 ++ (w1 ++ w2)) cells slots pc lv st) : GW p l e R s m args below meth c Q D A nL (w0 ++ (w1 ++ (w2 ++ w3))) cells slots pc lv st := by
  rw [← List.append_assoc w1, ← List.append_assoc w0]
  exact g_drop kk
theorem g_asc (kk : GW p l e R s m args below meth c Q D A nL (w0 ++ (w1 ++ w2)) cells slots pc lv st) : GW p l e R s m args below meth c Q D A nL ((w0 ++ w1) ++ w2) cells slots pc lv st := by
  rw [List.append_assoc]
  exact kk
theorem g_asc2 (kk : GW p l e R s m args below meth c Q D A nL (w0 ++ (w1 ++ (w2 ++ w3))) cells slots pc lv st) : GW p l e R s m args below meth c Q D A nL ((w0 ++ (w1 ++ w2)) ++ w3) cells slots pc lv st := by
  rw [List.append_assoc, List.append_assoc]
  exact kk
theorem at_r {x : Nat × va_E} (h : ∃ q0 : Nat, w2[q0]? = some x) : ∃ q0 : Nat, (w1 ++ w2)[q0]? = some x := let ⟨q, h⟩ := h; ⟨w1.length + q, by rw [List.getElem?_append_right (Nat.le_add_right _ _), Nat.add_sub_cancel_left]; exact h⟩
theorem at_l {x : Nat × va_E} (h : ∃ q0 : Nat, w1[q0]? = some x) : ∃ q0 : Nat, (w1 ++ w2)[q0]? = some x := let ⟨q, h⟩ := h; ⟨q, by rw [List.getElem?_append_left (List.getElem?_eq_some_iff.mp h).1]; exact h⟩
theorem se_r {x y : Nat × va_E} {w2' : va_W} (h : ∃ q0 : Nat, w2[q0]? = some x ∧ w2.set q0 y = w2') : ∃ q0 : Nat, (w1 ++ w2)[q0]? = some x ∧ (w1 ++ w2).set q0 y = w1 ++ w2' := let ⟨q, h, h2⟩ := h; ⟨w1.length + q, by rw [List.getElem?_append_right (Nat.le_add_right _ _), Nat.add_sub_cancel_left]; exact h, by rw [List.set_append_right _ _ (Nat.le_add_right _ _), Nat.add_sub_cancel_left, h2]⟩
theorem se_l {x y : Nat × va_E} {w1' : va_W} (h : ∃ q0 : Nat, w1[q0]? = some x ∧ w1.set q0 y = w1') : ∃ q0 : Nat, (w1 ++ w2)[q0]? = some x ∧ (w1 ++ w2).set q0 y = w1' ++ w2 := let ⟨q, h, h2⟩ := h; ⟨q, by rw [List.getElem?_append_left (List.getElem?_eq_some_iff.mp h).1]; exact h, by rw [List.set_append_left _ _ (List.getElem?_eq_some_iff.mp h).1, h2]⟩
theorem at_i {x : Nat × va_E} (i : Nat) (h : w2[i]? = some x) : ∃ q0 : Nat, w2[q0]? = some x := ⟨i, h⟩
theorem se_i {x y : Nat × va_E} {w2' : va_W} (i : Nat) (h : w2[i]? = some x) (h2 : w2.set i y = w2') : ∃ q0 : Nat, w2[q0]? = some x ∧ w2.set q0 y = w2' := ⟨i, h, h2⟩
theorem g_fVi (E : GE p s m args meth c D tys cc nL own Ts ret) {y : MethodName} {bytes : ByteArray} {maxL : Nat} {rt : Option FieldType} {wsc wsc' : List Cond} {rm : Room} {n index : Nat} {C : String} {T : u_T} {N ci b : Nat} {As rest : List Value} {post : Int32 → va_W → Prop} (hM : Met l y wsc rm (PcG D tys (frA A w2) w1 (.ref b :: As)) (va_Qi post (gB D (frA A w2)) (frA A w2)) 0 0 (frA A w2))
    (hG : GoodIn Ts (wsV own index C y wsc)) (hw : wsc = Cond.code y bytes maxL rt :: wsc') (hrm : rm.cells = 0 ∧ rm.slots = 0) (hd : y.cls = C ∧ y.cls ≠ "java/lang/invoke/MethodHandle" ∧ y.cls ≠ "java/lang/invoke/VarHandle" ∧ (parseMethodDescriptor y.desc).map (fun d => d.parameters.length) = some n) (hR : rm.frames + 1 ≤ R.frames ∧ 8 + (maxL + 11) + rm.locals ≤ R.locals)
    (he : ∃ (q0 : Nat) (fs : List Value), w1[q0]? = some (b, .inr (ci, fs))) (hc : vwCl[ci]? = some (C, T, N)) (hn : As.length = n) (hst : st = As.reverse ++ .ref b :: rest) (hst8 : (rest.map fun v => v.category).sum ≤ 8) (hf : cells + 0 ≤ R.cells ∧ slots + 0 ≤ R.slots) (hdg : decode cc pc = .ok (.invokevirtual index, 3))
    (kk : ∀ (r : Int32) (w' : va_W), post r w' → GW p l e R s m args below meth c Q D A nL (w' ++ w2) cells slots (pc + 3) lv (.int r :: rest)) : GW p l e R s m args below meth c Q D A nL (w1 ++ w2) cells slots pc lv st := by
  intro H locs ls hP hD hS h0
  subst hst
  obtain ⟨q0, fs, hq⟩ := he
  exact va_calli (va_runV (As := As) (rest := rest) ⟨E.1, E.2.1, E.2.2.1, E.2.2.2.1, E.2.2.2.2.1⟩ hM (cwV n E.2.2.2.2.1 hG hw hrm.1 hrm.2 hd hR) ⟨PcG.blind, va_recv (q0 := q0) E.2.2.2.2.2.1.1 (P_l hP) hc hq, fun U hU hW => PcG.at hU hW (P_l hP) E.2.2.2.2.2.1 (D_l hD)⟩ rfl hn (h0.1) rfl (lv_room hst8) hdg hf) hS (fun q _ h => h.1) (fun q h => h.1) (fun r w' t H1 locs1 ht _ hp hB _ hk hS' => by
    have hP1 : va_P D vwCl w' H1 := by rw [← ht]; exact hB.1
    exact kk r w' hp H1 locs1 ls (hP1.app (fr_kept hP hk)) (D_join hB.2 (D_r hD)) hS' h0)
theorem g_fVd (E : GE p s m args meth c D tys cc nL own Ts ret) {y : MethodName} {bytes : ByteArray} {maxL : Nat} {rt : Option FieldType} {wsc wsc' : List Cond} {rm : Room} {n index : Nat} {C : String} {T : u_T} {N ci b : Nat} {As rest : List Value} {post : UInt64 → va_W → Prop} (hM : Met l y wsc rm (PcG D tys (frA A w2) w1 (.ref b :: As)) (va_Qd post (gB D (frA A w2)) (frA A w2)) 0 0 (frA A w2))
    (hG : GoodIn Ts (wsV own index C y wsc)) (hw : wsc = Cond.code y bytes maxL rt :: wsc') (hrm : rm.cells = 0 ∧ rm.slots = 0) (hd : y.cls = C ∧ y.cls ≠ "java/lang/invoke/MethodHandle" ∧ y.cls ≠ "java/lang/invoke/VarHandle" ∧ (parseMethodDescriptor y.desc).map (fun d => d.parameters.length) = some n) (hR : rm.frames + 1 ≤ R.frames ∧ 8 + (maxL + 11) + rm.locals ≤ R.locals)
    (he : ∃ (q0 : Nat) (fs : List Value), w1[q0]? = some (b, .inr (ci, fs))) (hc : vwCl[ci]? = some (C, T, N)) (hn : As.length = n) (hst : st = As.reverse ++ .ref b :: rest) (hst8 : (rest.map fun v => v.category).sum ≤ 8) (hf : cells + 0 ≤ R.cells ∧ slots + 0 ≤ R.slots) (hdg : decode cc pc = .ok (.invokevirtual index, 3))
    (kk : ∀ (r : UInt64) (w' : va_W), post r w' → GW p l e R s m args below meth c Q D A nL (w' ++ w2) cells slots (pc + 3) lv (.double r :: rest)) : GW p l e R s m args below meth c Q D A nL (w1 ++ w2) cells slots pc lv st := by
  intro H locs ls hP hD hS h0
  subst hst
  obtain ⟨q0, fs, hq⟩ := he
  exact va_calld (va_runV (As := As) (rest := rest) ⟨E.1, E.2.1, E.2.2.1, E.2.2.2.1, E.2.2.2.2.1⟩ hM (cwV n E.2.2.2.2.1 hG hw hrm.1 hrm.2 hd hR) ⟨PcG.blind, va_recv (q0 := q0) E.2.2.2.2.2.1.1 (P_l hP) hc hq, fun U hU hW => PcG.at hU hW (P_l hP) E.2.2.2.2.2.1 (D_l hD)⟩ rfl hn (h0.1) rfl (lv_room hst8) hdg hf) hS (fun q _ h => h.1) (fun q h => h.1) (fun r w' t H1 locs1 ht _ hp hB _ hk hS' => by
    have hP1 : va_P D vwCl w' H1 := by rw [← ht]; exact hB.1
    exact kk r w' hp H1 locs1 ls (hP1.app (fr_kept hP hk)) (D_join hB.2 (D_r hD)) hS' h0)
theorem g_mVi (E : GE p s m args meth c D tys cc nL own Ts ret) {y : MethodName} {bytes : ByteArray} {maxL : Nat} {rt : Option FieldType} {wsc wsc' : List Cond} {rm : Room} {n index : Nat} {C : String} {T : u_T} {N ci b : Nat} {As rest : List Value} {post : Int32 → va_W → Prop} (hM : Met l y wsc rm (PcG D tys (frA A (w2 ++ w0)) w1 (.ref b :: As)) (va_Qi post (gB D (frA A (w2 ++ w0))) (frA A (w2 ++ w0))) 0 0 (frA A (w2 ++ w0)))
    (hG : GoodIn Ts (wsV own index C y wsc)) (hw : wsc = Cond.code y bytes maxL rt :: wsc') (hrm : rm.cells = 0 ∧ rm.slots = 0) (hd : y.cls = C ∧ y.cls ≠ "java/lang/invoke/MethodHandle" ∧ y.cls ≠ "java/lang/invoke/VarHandle" ∧ (parseMethodDescriptor y.desc).map (fun d => d.parameters.length) = some n) (hR : rm.frames + 1 ≤ R.frames ∧ 8 + (maxL + 11) + rm.locals ≤ R.locals)
    (he : ∃ (q0 : Nat) (fs : List Value), w1[q0]? = some (b, .inr (ci, fs))) (hc : vwCl[ci]? = some (C, T, N)) (hn : As.length = n) (hst : st = As.reverse ++ .ref b :: rest) (hst8 : (rest.map fun v => v.category).sum ≤ 8) (hf : cells + 0 ≤ R.cells ∧ slots + 0 ≤ R.slots) (hdg : decode cc pc = .ok (.invokevirtual index, 3))
    (kk : ∀ (r : Int32) (w' : va_W), post r w' → GW p l e R s m args below meth c Q D A nL (w0 ++ (w' ++ w2)) cells slots (pc + 3) lv (.int r :: rest)) : GW p l e R s m args below meth c Q D A nL (w0 ++ (w1 ++ w2)) cells slots pc lv st := g_mid (g_fVi E hM hG hw hrm hd hR he hc hn hst hst8 hf hdg (fun r w' hp => g_dim (kk r w' hp)))
theorem g_mVd (E : GE p s m args meth c D tys cc nL own Ts ret) {y : MethodName} {bytes : ByteArray} {maxL : Nat} {rt : Option FieldType} {wsc wsc' : List Cond} {rm : Room} {n index : Nat} {C : String} {T : u_T} {N ci b : Nat} {As rest : List Value} {post : UInt64 → va_W → Prop} (hM : Met l y wsc rm (PcG D tys (frA A (w2 ++ w0)) w1 (.ref b :: As)) (va_Qd post (gB D (frA A (w2 ++ w0))) (frA A (w2 ++ w0))) 0 0 (frA A (w2 ++ w0)))
    (hG : GoodIn Ts (wsV own index C y wsc)) (hw : wsc = Cond.code y bytes maxL rt :: wsc') (hrm : rm.cells = 0 ∧ rm.slots = 0) (hd : y.cls = C ∧ y.cls ≠ "java/lang/invoke/MethodHandle" ∧ y.cls ≠ "java/lang/invoke/VarHandle" ∧ (parseMethodDescriptor y.desc).map (fun d => d.parameters.length) = some n) (hR : rm.frames + 1 ≤ R.frames ∧ 8 + (maxL + 11) + rm.locals ≤ R.locals)
    (he : ∃ (q0 : Nat) (fs : List Value), w1[q0]? = some (b, .inr (ci, fs))) (hc : vwCl[ci]? = some (C, T, N)) (hn : As.length = n) (hst : st = As.reverse ++ .ref b :: rest) (hst8 : (rest.map fun v => v.category).sum ≤ 8) (hf : cells + 0 ≤ R.cells ∧ slots + 0 ≤ R.slots) (hdg : decode cc pc = .ok (.invokevirtual index, 3))
    (kk : ∀ (r : UInt64) (w' : va_W), post r w' → GW p l e R s m args below meth c Q D A nL (w0 ++ (w' ++ w2)) cells slots (pc + 3) lv (.double r :: rest)) : GW p l e R s m args below meth c Q D A nL (w0 ++ (w1 ++ w2)) cells slots pc lv st := g_mid (g_fVd E hM hG hw hrm hd hR he hc hn hst hst8 hf hdg (fun r w' hp => g_dim (kk r w' hp)))
theorem g_tryV (E : GE p s m args meth c D tys cc nL own Ts ret) (Z : gZ A s) {y : MethodName} {bytes : ByteArray} {maxL : Nat} {rt : Option FieldType} {wsc wsc' : List Cond} {rm : Room} {n index mc ms : Nat} {peC : String → Prop} {C : String} {T : u_T} {N ci b : Nat} {As rest : List Value} {post : Int32 → va_W → Prop} (hM : vx_Met l y wsc rm (PcZ D tys (frA A w2) w1 (.ref b :: As)) (va_Qi post (gB D (frA A w2)) (frA A w2)) (XQ D (frA A w2) peC w1) mc ms (frA A w2))
    (hG : GoodIn Ts (wsV own index C y wsc)) (hw : wsc = Cond.code y bytes maxL rt :: wsc') (hrm : rm.cells = mc ∧ rm.slots = ms) (hd : y.cls = C ∧ y.cls ≠ "java/lang/invoke/MethodHandle" ∧ y.cls ≠ "java/lang/invoke/VarHandle" ∧ (parseMethodDescriptor y.desc).map (fun d => d.parameters.length) = some n) (hR : rm.frames + 1 ≤ R.frames ∧ 8 + (maxL + 11) + rm.locals ≤ R.locals)
    (he : ∃ (q0 : Nat) (fs : List Value), w1[q0]? = some (b, .inr (ci, fs))) (hc : vwCl[ci]? = some (C, T, N)) (hn : As.length = n) (hst : st = As.reverse ++ .ref b :: rest) (hst8 : (rest.map fun v => v.category).sum ≤ 8) (hf : cells + mc ≤ R.cells ∧ slots + ms ≤ R.slots) (hdg : decode cc pc = .ok (.invokevirtual index, 3))
    (kx : ∀ E9 : String, peC E9 → ∃ (pre : List ExceptionTableEntry) (x : ExceptionTableEntry) (suf : List ExceptionTableEntry), c.exceptionTable.toList = pre ++ x :: suf ∧ (∀ z ∈ pre, covers z pc = false ∨ (z.catchType ≠ 0 ∧ ∃ nm : String, (Cond.classLink own z.catchType nm).before args s = true ∧ va_Nc E9 nm s)) ∧ covers x pc = true ∧ x.catchType ≠ 0 ∧ (Cond.classLink own x.catchType E9).before args s = true ∧ (Cond.castable E9 E9).before args s = true ∧ ∀ q : Nat, GW p l e R s m args below meth c Q D A nL (w1 ++ w2) (cells + mc) (slots + ms) x.handlerPc lv [.ref q])
    (kk : ∀ (r : Int32) (w' : va_W), post r w' → GW p l e R s m args below meth c Q D A nL (w' ++ w2) (cells + mc) (slots + ms) (pc + 3) lv (.int r :: rest)) : GW p l e R s m args below meth c Q D A nL (w1 ++ w2) cells slots pc lv st := by
  intro H locs ls hP hD hS h0
  subst hst
  obtain ⟨q0, fs, hq⟩ := he
  have hlt : ∀ (k : Nat) (q : Nat × va_E), w2[k]? = some q → q.1 < H.size := fun k q hk => (P_r hP k q hk).lt
  exact vx_calli (vx_runV (As := As) (rest := rest) ⟨E.1, E.2.1, E.2.2.1, E.2.2.2.1, E.2.2.2.2.1⟩ hM (cwV n E.2.2.2.2.1 hG hw hrm.1 hrm.2 hd hR) ⟨PcZ.blind, va_recv (q0 := q0) E.2.2.2.2.2.1.1 (P_l hP) hc hq, fun U hU hW => ⟨rfl, ⟨by rw [hU]; exact P_l hP, E.2.2.2.2.2.1.moved hW, D_l hD⟩, (Z.at hU hW hS).fr (by rw [hU]; exact hlt)⟩⟩ rfl hn (h0.1) rfl (lv_room hst8) hdg hf) hS (fun q _ h => h.1) (fun q h => h.1) (fun q _ h => h.1)
    (fun E9 ce q9 u t H1 locs1 ht _ _ hB _ hk hS' hce hcv hcl => by
      obtain ⟨pre, x, suf, k1, k2, k3, k4, k5, k6, k7⟩ := kx E9 hB.1
      have hP1 : va_P D vwCl w1 H1 := by rw [← ht]; exact hB.2
      exact vx_catch E.2.2.2.1 pre x suf k1 k2 k3 k4 k5 k6 hce hcv hcl (k7 q9 H1 locs1 ls (hP1.app (fr_kept hP hk)) hD hS' h0))
    (fun r w' t H1 locs1 ht _ hp hB _ hk hS' => by
      have hP1 : va_P D vwCl w' H1 := by rw [← ht]; exact hB.1
      exact kk r w' hp H1 locs1 ls (hP1.app (fr_kept hP hk)) (D_join hB.2 (D_r hD)) hS' h0)
theorem g_mZi (E : GE p s m args meth c D tys cc nL own Ts ret) (Z : gZ A s) {y : MethodName} {bytes : ByteArray} {maxL : Nat} {rt : Option FieldType} {wsc wsc' : List Cond} {rm : Room} {n index mc ms : Nat} {peC : String → Prop} {C : String} {T : u_T} {N ci b : Nat} {As rest : List Value} {post : Int32 → va_W → Prop} (hM : vx_Met l y wsc rm (PcZ D tys (frA A (w2 ++ w0)) w1 (.ref b :: As)) (va_Qi post (gB D (frA A (w2 ++ w0))) (frA A (w2 ++ w0))) (XQ D (frA A (w2 ++ w0)) peC w1) mc ms (frA A (w2 ++ w0)))
    (hG : GoodIn Ts (wsV own index C y wsc)) (hw : wsc = Cond.code y bytes maxL rt :: wsc') (hrm : rm.cells = mc ∧ rm.slots = ms) (hd : y.cls = C ∧ y.cls ≠ "java/lang/invoke/MethodHandle" ∧ y.cls ≠ "java/lang/invoke/VarHandle" ∧ (parseMethodDescriptor y.desc).map (fun d => d.parameters.length) = some n) (hR : rm.frames + 1 ≤ R.frames ∧ 8 + (maxL + 11) + rm.locals ≤ R.locals)
    (he : ∃ (q0 : Nat) (fs : List Value), w1[q0]? = some (b, .inr (ci, fs))) (hc : vwCl[ci]? = some (C, T, N)) (hn : As.length = n) (hst : st = As.reverse ++ .ref b :: rest) (hst8 : (rest.map fun v => v.category).sum ≤ 8) (hf : cells + mc ≤ R.cells ∧ slots + ms ≤ R.slots) (hdg : decode cc pc = .ok (.invokevirtual index, 3))
    (kx : ∀ E9 : String, ¬ peC E9)
    (kk : ∀ (r : Int32) (w' : va_W), post r w' → GW p l e R s m args below meth c Q D A nL (w0 ++ (w' ++ w2)) (cells + mc) (slots + ms) (pc + 3) lv (.int r :: rest)) : GW p l e R s m args below meth c Q D A nL (w0 ++ (w1 ++ w2)) cells slots pc lv st := g_mid (g_tryV E Z hM hG hw hrm hd hR he hc hn hst hst8 hf hdg (fun E9 h => absurd h (kx E9)) (fun r w' hp => g_dim (kk r w' hp)))
theorem g_zVi (E : GE p s m args meth c D tys cc nL own Ts ret) (Z : gZ A s) {y : MethodName} {bytes : ByteArray} {maxL : Nat} {rt : Option FieldType} {wsc wsc' : List Cond} {rm : Room} {n index mc ms : Nat} {C : String} {T : u_T} {N ci b : Nat} {As rest : List Value} {post : Int32 → va_W → Prop} (hM : Met l y wsc rm (PcZ D tys A ws (.ref b :: As)) (va_Qi post (gB D A) A) mc ms A)
    (hG : GoodIn Ts (wsV own index C y wsc)) (hw : wsc = Cond.code y bytes maxL rt :: wsc') (hrm : rm.cells = mc ∧ rm.slots = ms) (hd : y.cls = C ∧ y.cls ≠ "java/lang/invoke/MethodHandle" ∧ y.cls ≠ "java/lang/invoke/VarHandle" ∧ (parseMethodDescriptor y.desc).map (fun d => d.parameters.length) = some n) (hR : rm.frames + 1 ≤ R.frames ∧ 8 + (maxL + 11) + rm.locals ≤ R.locals)
    (he : ∃ (q0 : Nat) (fs : List Value), ws[q0]? = some (b, .inr (ci, fs))) (hc : vwCl[ci]? = some (C, T, N)) (hn : As.length = n) (hst : st = As.reverse ++ .ref b :: rest) (hst8 : (rest.map fun v => v.category).sum ≤ 8) (hf : cells + mc ≤ R.cells ∧ slots + ms ≤ R.slots) (hdg : decode cc pc = .ok (.invokevirtual index, 3))
    (kk : ∀ (r : Int32) (ws' : va_W), post r ws' → GW p l e R s m args below meth c Q D A nL ws' (cells + mc) (slots + ms) (pc + 3) lv (.int r :: rest)) : GW p l e R s m args below meth c Q D A nL ws cells slots pc lv st := by
  intro H locs ls hP hD hS h0
  subst hst
  obtain ⟨q0, fs, hq⟩ := he
  exact va_calli (va_runV (As := As) (rest := rest) ⟨E.1, E.2.1, E.2.2.1, E.2.2.2.1, E.2.2.2.2.1⟩ hM (cwV n E.2.2.2.2.1 hG hw hrm.1 hrm.2 hd hR) ⟨PcZ.blind, va_recv (q0 := q0) E.2.2.2.2.2.1.1 hP hc hq, fun U hU hW => PcZ.at hU hW hP E.2.2.2.2.2.1 hD hS Z⟩ rfl hn (h0.1) rfl (lv_room hst8) hdg hf) hS (fun q _ h => h) (fun q h => h) (fun r ws' t H1 locs1 ht _ hp hB _ _ hS' => kk r ws' hp H1 locs1 ls (by rw [← ht]; exact hB.1) hB.2 hS' h0)
theorem g_zVv (E : GE p s m args meth c D tys cc nL own Ts ret) (Z : gZ A s) {y : MethodName} {bytes : ByteArray} {maxL : Nat} {rt : Option FieldType} {wsc wsc' : List Cond} {rm : Room} {n index mc ms : Nat} {C : String} {T : u_T} {N ci b : Nat} {As rest : List Value} {post : va_W → Prop} (hM : Met l y wsc rm (PcZ D tys A ws (.ref b :: As)) (va_Qv post (gB D A) A) mc ms A)
    (hG : GoodIn Ts (wsV own index C y wsc)) (hw : wsc = Cond.code y bytes maxL rt :: wsc') (hrm : rm.cells = mc ∧ rm.slots = ms) (hd : y.cls = C ∧ y.cls ≠ "java/lang/invoke/MethodHandle" ∧ y.cls ≠ "java/lang/invoke/VarHandle" ∧ (parseMethodDescriptor y.desc).map (fun d => d.parameters.length) = some n) (hR : rm.frames + 1 ≤ R.frames ∧ 8 + (maxL + 11) + rm.locals ≤ R.locals)
    (he : ∃ (q0 : Nat) (fs : List Value), ws[q0]? = some (b, .inr (ci, fs))) (hc : vwCl[ci]? = some (C, T, N)) (hn : As.length = n) (hst : st = As.reverse ++ .ref b :: rest) (hst8 : (rest.map fun v => v.category).sum ≤ 8) (hf : cells + mc ≤ R.cells ∧ slots + ms ≤ R.slots) (hdg : decode cc pc = .ok (.invokevirtual index, 3))
    (kk : ∀ (ws' : va_W), post ws' → GW p l e R s m args below meth c Q D A nL ws' (cells + mc) (slots + ms) (pc + 3) lv rest) : GW p l e R s m args below meth c Q D A nL ws cells slots pc lv st := by
  intro H locs ls hP hD hS h0
  subst hst
  obtain ⟨q0, fs, hq⟩ := he
  exact va_callv (va_runV (As := As) (rest := rest) ⟨E.1, E.2.1, E.2.2.1, E.2.2.2.1, E.2.2.2.2.1⟩ hM (cwV n E.2.2.2.2.1 hG hw hrm.1 hrm.2 hd hR) ⟨PcZ.blind, va_recv (q0 := q0) E.2.2.2.2.2.1.1 hP hc hq, fun U hU hW => PcZ.at hU hW hP E.2.2.2.2.2.1 hD hS Z⟩ rfl hn (h0.1) rfl (lv_room hst8) hdg hf) hS (fun q _ h => h) (fun q h => h) (fun ws' t H1 locs1 ht _ hp hB _ _ hS' => kk ws' hp H1 locs1 ls (by rw [← ht]; exact hB.1) hB.2 hS' h0)
theorem g_zVr (E : GE p s m args meth c D tys cc nL own Ts ret) (Z : gZ A s) {y : MethodName} {bytes : ByteArray} {maxL : Nat} {rt : Option FieldType} {wsc wsc' : List Cond} {rm : Room} {n index mc ms : Nat} {C : String} {T : u_T} {N ci b : Nat} {As rest : List Value} {post : Nat → va_W → Prop} (hM : Met l y wsc rm (PcZ D tys A ws (.ref b :: As)) (va_Qr (fun _ => True) (fun u ra t => gB D A u t ∧ post ra u) A) mc ms A)
    (hG : GoodIn Ts (wsV own index C y wsc)) (hw : wsc = Cond.code y bytes maxL rt :: wsc') (hrm : rm.cells = mc ∧ rm.slots = ms) (hd : y.cls = C ∧ y.cls ≠ "java/lang/invoke/MethodHandle" ∧ y.cls ≠ "java/lang/invoke/VarHandle" ∧ (parseMethodDescriptor y.desc).map (fun d => d.parameters.length) = some n) (hR : rm.frames + 1 ≤ R.frames ∧ 8 + (maxL + 11) + rm.locals ≤ R.locals)
    (he : ∃ (q0 : Nat) (fs : List Value), ws[q0]? = some (b, .inr (ci, fs))) (hc : vwCl[ci]? = some (C, T, N)) (hn : As.length = n) (hst : st = As.reverse ++ .ref b :: rest) (hst8 : (rest.map fun v => v.category).sum ≤ 8) (hf : cells + mc ≤ R.cells ∧ slots + ms ≤ R.slots) (hdg : decode cc pc = .ok (.invokevirtual index, 3))
    (kk : ∀ (r : Nat) (ws' : va_W), post r ws' → GW p l e R s m args below meth c Q D A nL ws' (cells + mc) (slots + ms) (pc + 3) lv (.ref r :: rest)) : GW p l e R s m args below meth c Q D A nL ws cells slots pc lv st := by
  intro H locs ls hP hD hS h0
  subst hst
  obtain ⟨q0, fs, hq⟩ := he
  exact va_callr (va_runV (As := As) (rest := rest) ⟨E.1, E.2.1, E.2.2.1, E.2.2.2.1, E.2.2.2.2.1⟩ hM (cwV n E.2.2.2.2.1 hG hw hrm.1 hrm.2 hd hR) ⟨PcZ.blind, va_recv (q0 := q0) E.2.2.2.2.2.1.1 hP hc hq, fun U hU hW => PcZ.at hU hW hP E.2.2.2.2.2.1 hD hS Z⟩ rfl hn (h0.1) rfl (lv_room hst8) hdg hf) hS (fun q _ h => h) (fun q h => h) (fun ws' r t H1 locs1 ht _ _ hB _ _ hS' => kk r ws' hB.2 H1 locs1 ls (by rw [← ht]; exact hB.1.1) hB.1.2 hS' h0)
theorem g_zTi (E : GE p s m args meth c D tys cc nL own Ts ret) (Z : gZ A s) {y : MethodName} {bytes : ByteArray} {maxL : Nat} {rt : Option FieldType} {wsc wsc' : List Cond} {rm : Room} {n index mc ms : Nat} {As rest : List Value} {post : Int32 → va_W → Prop} (hM : Met l y wsc rm (PcZ D tys A ws As) (va_Qi post (gB D A) A) mc ms A)
    (hG : GoodIn Ts (va_wsS own index y wsc)) (hw : wsc = Cond.code y bytes maxL rt :: wsc') (hrm : rm.cells = mc ∧ rm.slots = ms) (hd : y.cls ≠ "java/lang/invoke/MethodHandle" ∧ y.cls ≠ "java/lang/invoke/VarHandle" ∧ (parseMethodDescriptor y.desc).map (fun d => d.parameters.length) = some n) (hR : rm.frames + 1 ≤ R.frames ∧ 8 + (maxL + 11) + rm.locals ≤ R.locals)
    (hn : As.length = n) (hst : st = As.reverse ++ rest) (hst8 : (rest.map fun v => v.category).sum ≤ 8) (hf : cells + mc ≤ R.cells ∧ slots + ms ≤ R.slots) (hdg : decode cc pc = .ok (.invokestatic index, 3))
    (kk : ∀ (r : Int32) (ws' : va_W), post r ws' → GW p l e R s m args below meth c Q D A nL ws' (cells + mc) (slots + ms) (pc + 3) lv (.int r :: rest)) : GW p l e R s m args below meth c Q D A nL ws cells slots pc lv st := by
  intro H locs ls hP hD hS h0
  subst hst
  exact va_calli (va_runS (As := As) (rest := rest) ⟨E.1, E.2.1, E.2.2.1, E.2.2.2.1, E.2.2.2.2.1⟩ hM (va_cwS n E.2.2.2.2.1 hG hw hrm.1 hrm.2 hd hR) ⟨PcZ.blind, fun U hU hW => PcZ.at hU hW hP E.2.2.2.2.2.1 hD hS Z⟩ rfl hn (h0.1) rfl (lv_room hst8) hdg hf) hS (fun q _ h => h) (fun q h => h) (fun r ws' t H1 locs1 ht _ hp hB _ _ hS' => kk r ws' hp H1 locs1 ls (by rw [← ht]; exact hB.1) hB.2 hS' h0)
theorem g_zTr (E : GE p s m args meth c D tys cc nL own Ts ret) (Z : gZ A s) {y : MethodName} {bytes : ByteArray} {maxL : Nat} {rt : Option FieldType} {wsc wsc' : List Cond} {rm : Room} {n index mc ms : Nat} {As rest : List Value} {post : Nat → va_W → Prop} (hM : Met l y wsc rm (PcZ D tys A ws As) (va_Qr (fun _ => True) (fun u ra t => gB D A u t ∧ post ra u) A) mc ms A)
    (hG : GoodIn Ts (va_wsS own index y wsc)) (hw : wsc = Cond.code y bytes maxL rt :: wsc') (hrm : rm.cells = mc ∧ rm.slots = ms) (hd : y.cls ≠ "java/lang/invoke/MethodHandle" ∧ y.cls ≠ "java/lang/invoke/VarHandle" ∧ (parseMethodDescriptor y.desc).map (fun d => d.parameters.length) = some n) (hR : rm.frames + 1 ≤ R.frames ∧ 8 + (maxL + 11) + rm.locals ≤ R.locals)
    (hn : As.length = n) (hst : st = As.reverse ++ rest) (hst8 : (rest.map fun v => v.category).sum ≤ 8) (hf : cells + mc ≤ R.cells ∧ slots + ms ≤ R.slots) (hdg : decode cc pc = .ok (.invokestatic index, 3))
    (kk : ∀ (r : Nat) (ws' : va_W), post r ws' → GW p l e R s m args below meth c Q D A nL ws' (cells + mc) (slots + ms) (pc + 3) lv (.ref r :: rest)) : GW p l e R s m args below meth c Q D A nL ws cells slots pc lv st := by
  intro H locs ls hP hD hS h0
  subst hst
  exact va_callr (va_runS (As := As) (rest := rest) ⟨E.1, E.2.1, E.2.2.1, E.2.2.2.1, E.2.2.2.2.1⟩ hM (va_cwS n E.2.2.2.2.1 hG hw hrm.1 hrm.2 hd hR) ⟨PcZ.blind, fun U hU hW => PcZ.at hU hW hP E.2.2.2.2.2.1 hD hS Z⟩ rfl hn (h0.1) rfl (lv_room hst8) hdg hf) hS (fun q _ h => h) (fun q h => h) (fun ws' r t H1 locs1 ht _ _ hB _ _ hS' => kk r ws' hB.2 H1 locs1 ls (by rw [← ht]; exact hB.1.1) hB.1.2 hS' h0)
theorem g_aret {post : Nat → va_W → Prop} {r : Nat} {C : String} (E : GE p s m args meth c D tys cc nL own Ts (some (.object C))) (hq : post r ws) (hdg : decode cc pc = .ok (.areturn, 1)) : GW p l e R s m args below meth c (MQ below (va_Qr (fun _ => True) (fun u ra t => gB D A u t ∧ post ra u) A) args s cells slots A) D A nL ws cells slots pc lv [.ref r] :=
  fun H locs ls hP hD hS h0 => W.aret E.1 E.2.1 E.2.2.2.2.2.2.1 (Or.inl ⟨_, rfl⟩) (Or.inr ⟨_, rfl⟩) (fun t ht hW => ⟨⟨ws, r, rfl, trivial, ⟨by rw [ht]; exact hP, hD⟩, hq⟩, hS.F ht⟩) hS.2.2 hdg E.2.2.2.2.2.2.2
theorem g_iand (E : GE p s m args meth c D tys cc nL own Ts ret) {x y : Int32} (hdg : decode cc pc = .ok (.iand, 1)) (kk : GW p l e R s m args below meth c Q D A nL ws cells slots (pc + 1) lv (.int (x &&& y) :: st)) : GW p l e R s m args below meth c Q D A nL ws cells slots pc lv (.int y :: .int x :: st) :=
  fun H locs ls hP hD hS h => lv_iand E.1 E.2.1 hdg (kk H locs ls hP hD hS h)
theorem g_ldc (E : GE p s m args meth c D tys cc nL own Ts ret) {index : Nat} {v : Int32} (hc : Cond.constant own index v ∈ Ts) (hdg : decode cc pc = .ok (.ldc index, 2)) (kk : GW p l e R s m args below meth c Q D A nL ws cells slots (pc + 2) lv (.int v :: st)) : GW p l e R s m args below meth c Q D A nL ws cells slots pc lv st :=
  fun H locs ls hP hD hS h => lv_ldc E.1 E.2.1 E.2.2.2.1 (E.2.2.2.2.1 _ hc) hdg (kk H locs ls hP hD hS h)
theorem g_dcmp (E : GE p s m args meth c D tys cc nL own Ts ret) {x y : UInt64} {op : CmpOp} (hdg : decode cc pc = .ok (.dcmp op, 1)) (kk : GW p l e R s m args below meth c Q D A nL ws cells slots (pc + 1) lv (.int (Op.cmpValue (FP.dcmp x y) op) :: st)) : GW p l e R s m args below meth c Q D A nL ws cells slots pc lv (.double y :: .double x :: st) :=
  fun H locs ls hP hD hS h => lv_dcmp E.1 E.2.1 hdg (kk H locs ls hP hD hS h)
theorem g_nonnull (E : GE p s m args meth c D tys cc nL own Ts ret) {x : Nat} {off : Int} {tgt : Nat} (hdg : decode cc pc = .ok (.ifnonnull off, 3)) (ht : (pc : Int) + off = (tgt : Int)) (kk : GW p l e R s m args below meth c Q D A nL ws cells slots tgt lv st) : GW p l e R s m args below meth c Q D A nL ws cells slots pc lv (.ref x :: st) :=
  fun H locs ls hP hD hS h => lv_ifnonnull E.1 E.2.1 hdg ht (kk H locs ls hP hD hS h)
theorem g_anull (E : GE p s m args meth c D tys cc nL own Ts ret) (hdg : decode cc pc = .ok (.aconst_null, 1)) (kk : GW p l e R s m args below meth c Q D A nL ws cells slots (pc + 1) lv (.null :: st)) : GW p l e R s m args below meth c Q D A nL ws cells slots pc lv st :=
  fun H locs ls hP hD hS h => lv_null E.1 E.2.1 hdg (kk H locs ls hP hD hS h)
theorem g_astoreN (E : GE p s m args meth c D tys cc nL own Ts ret) {k : Nat} (hdg : decode cc pc = .ok (.astore k, 2)) (hn : k < nL) (kk : GW p l e R s m args below meth c Q D A nL ws cells slots (pc + 2) (lput1 lv k .null) st) : GW p l e R s m args below meth c Q D A nL ws cells slots pc lv (.null :: st) :=
  fun H locs ls hP hD hS h => lv_astoreN E.1 E.2.1 hdg h hn rfl (fun ls' h' => kk H locs ls' hP hD hS h')
-- the law's arrays
theorem g_zald (E : GE p s m args meth c D tys cc nL own Ts ret) {cB : ClassId} {n a : Nat} {f : Nat → Int32} {z : Int} {v : Int32} (t0 : Nat) (ht : tys[t0]? = some (cB, .boolean)) (he : ∃ q0 : Nat, ws[q0]? = some (a, .inl (cB, n, .inl f))) (hz : 0 ≤ z ∧ z < n) (hn : n ≤ 2147483648) (hv : f z.toNat = v) (hdg : decode cc pc = .ok (.baload, 1))
    (kk : GW p l e R s m args below meth c Q D A nL ws cells slots (pc + 1) lv (.int v :: st)) : GW p l e R s m args below meth c Q D A nL ws cells slots pc lv (.int (zI z) :: .ref a :: st) := by
  intro H locs ls hP hD hS h0
  obtain ⟨q0, hq⟩ := he
  subst hv
  exact va_zald E.1 E.2.1 E.2.2.2.2.2.1.1 hP q0 t0 hq ht (zI_in hz hn) hdg (by rw [zI_cl (by omega)]; exact kk H locs ls hP hD hS h0)
theorem g_zast (E : GE p s m args meth c D tys cc nL own Ts ret) {cB : ClassId} {n a : Nat} {f : Nat → Int32} {z : Int} {x : Int32} {ws' : va_W} (t0 : Nat) (ht : tys[t0]? = some (cB, .boolean)) (hz : 0 ≤ z ∧ z < n) (hn : n ≤ 2147483648) (hx : vp_nar .boolean x = x) (he : ∃ q0 : Nat, ws[q0]? = some (a, .inl (cB, n, .inl f)) ∧ ws.set q0 (a, .inl (cB, n, .inl (upd f z.toNat x))) = ws') (hdg : decode cc pc = .ok (.bastore, 1))
    (kk : GW p l e R s m args below meth c Q D A nL ws' cells slots (pc + 1) lv st) : GW p l e R s m args below meth c Q D A nL ws cells slots pc lv (.int x :: .int (zI z) :: .ref a :: st) := by
  intro H locs ls hP hD hS h0
  obtain ⟨q0, hq, e⟩ := he
  subst e
  exact va_zast E.1 E.2.1 E.2.2.2.2.2.1.1 hP hD hS q0 t0 hq ht (zI_in hz hn) hdg (fun H1 locs1 hP hD hS => by rw [zI_cl (by omega), hx] at hP hD; exact kk H1 locs1 ls hP hD hS h0)
theorem g_aaldA (E : GE p s m args meth c D tys cc nL own Ts ret) {cB : ClassId} {n a b : Nat} {f : Nat → Option Nat} {z : Int} (t0 : Nat) (ht : tys[t0]? = some (cB, .array .int)) (he : ∃ q0 : Nat, ws[q0]? = some (a, .inl (cB, n, .inr (.inr (.inr (.inr f)))))) (hz : 0 ≤ z ∧ z < n) (hn : n ≤ 2147483648) (hv : f z.toNat = some b) (hdg : decode cc pc = .ok (.aaload, 1))
    (kk : GW p l e R s m args below meth c Q D A nL ws cells slots (pc + 1) lv (.ref b :: st)) : GW p l e R s m args below meth c Q D A nL ws cells slots pc lv (.int (zI z) :: .ref a :: st) := by
  intro H locs ls hP hD hS h0
  obtain ⟨q0, hq⟩ := he
  have hin := zI_in hz hn
  have hlt : z.toNat < n := by omega
  exact W.aald (v := .ref b) (ty := .array .int) E.1 E.2.1 (hP q0 _ hq) ((E.2.2.2.2.2.1.1.2 t0 _ ht).1 n (fun j => va_rf (f j))) rfl (fun q => by cases q) (by show ¬ (zI z < 0 ∨ (arrV _ _ _).slots.size ≤ _); rw [arrV_size]; exact hin) (by show (arrV _ _ _).slots[_]? = _; rw [zI_cl (by omega), arrV_read _ _ hlt, hv]; rfl) rfl rfl hdg (kk H locs ls hP hD hS h0)
end MID
/-- arrays of arrays of ints are at hand -/
def AOA (U : State) : Prop := (Cond.arrayOver (.array .int)).before #[] U = true
theorem AOA.moved {u U : State} (hvm : u.vm.Alike U.vm) (h : AOA u) : AOA U := over_moved hvm h
theorem arI : (FieldType.array .int).toString = "[" ++ FieldType.int.toString := rfl
section MIDA
variable {p : Program} {l : Launch} {e : Env} {R : Room} {s : State} {m : MethodId} {args : Array Value} {below : List Frame} {meth : Method} {c : Code} {Q : State → Prop} {D : va_G} {cA : Nat → ClassId} {A : Nat → Prop} {nL : Nat} {ws w0 w1 w2 w3 : va_W} {cells slots pc : Nat} {lv : List (Nat × Value)} {st : List Value} {cc : ByteArray} {own : String} {Ts : List Cond} {ret : Option FieldType}

theorem g_aastA (E : GE p s m args meth c D (tysX cA) cc nL own Ts ret) (hO : AOA s) {n a v : Nat} {f : Nat → Option Nat} {x : vp_A} {z : Int} {ws' : va_W} (hx : ∃ y : Nat × (Nat → Int32), x = (y.1, .inl y.2)) (hv : ∃ q0 : Nat, ws[q0]? = some (v, .inl (cA 0, x))) (hz : 0 ≤ z ∧ z < n) (hn : n ≤ 2147483648) (he : ∃ q0 : Nat, ws[q0]? = some (a, .inl (cA 6, n, .inr (.inr (.inr (.inr f))))) ∧ ws.set q0 (a, .inl (cA 6, n, .inr (.inr (.inr (.inr (va_up f z.toNat (some v))))))) = ws') (hdg : decode cc pc = .ok (.aastore, 1))
    (kk : GW p l e R s m args below meth c Q D A nL ws' cells slots (pc + 1) lv st) : GW p l e R s m args below meth c Q D A nL ws cells slots pc lv (.ref v :: .int (zI z) :: .ref a :: st) := by
  intro H locs ls hP hD hS h0
  obtain ⟨q0, hq, e⟩ := he
  obtain ⟨qk, hqk⟩ := hv
  obtain ⟨⟨yn, yf⟩, rfl⟩ := hx
  subst e
  have hin := zI_in hz hn
  have hlt : (zI z).toNatClampNeg < n := Nat.not_le.mp fun q => hin (Or.inr q)
  have hn0 : ¬ zI z < 0 := fun q => hin (Or.inl q)
  have hK := E.2.2.2.2.2.1.1
  obtain ⟨comp, cN, kN, g1, -, g2, g3, g4⟩ := arrayOverA_spec (t := .int) hO
  have hR6 : s.vm.findClass ("[" ++ (FieldType.array .int).toString) = some (cA 6) := (hK.2 6 (cA 6, .array .int) rfl).2
  have hR0 : s.vm.findClass ("[" ++ FieldType.int.toString) = some (cA 0) := (hK.2 0 (cA 0, .int) rfl).2
  have e6 : cN = cA 6 := Option.some.inj (g4.symm.trans hR6)
  have e0 : comp = cA 0 := Option.some.inj (g1.symm.trans (by rw [arI]; exact hR0))
  subst e6; subst e0
  obtain ⟨-, k0, hk0, c0, hkind0⟩ := (hK.2 0 (cA 0, .int) rfl).1 yn (fun j => .int (yf j))
  refine W.aast E.1 E.2.1 (hP q0 _ hq) (fun q h => by cases h) (fun h => by cases h) g2 g3 rfl hk0 ⟨hn0, by show _ < (arrV _ _ _).slots.size; rw [arrV_size]; exact hlt⟩ (hP qk _ hqk) (fun q h => by cases h) hk0 (by show s.vm.assignable (cA 0) (cA 0) = true; rw [Vm.assignable, show (256 : Nat) = 255 + 1 from rfl, Vm.assignableAux]; simp only [beq_self_eq_true, Bool.true_or]) rfl rfl hdg fun H1 e z1 oq => ?_
  have hset : va_at D vwCl (a, .inl (cA 6, n, .inr (.inr (.inr (.inr (va_up f z.toNat (some v))))))) H1 := by
    show H1[a]? = some (vp_cell _ _)
    rw [e]
    rw [vp_cell_q, vp_cell_q, arrV_store, zI_cl (by omega)]
    congr 2
    funext q
    by_cases hq : q = z.toNat
    · subst hq
      simp [updV, va_up, va_rf]
    · simp [updV, va_up, hq]
  exact kk H1 _ ls (hP.set hD hq hset oq) (hD.set hq) (hS.put z1 oq (hD.2 q0 _ hq)) h0
theorem g_newA (E : GE p s m args meth c D (tysX cA) cc nL own Ts ret) (hA : ∀ q, s.heap.size ≤ q → A q) (hO : AOA s) {index : Nat} (hcl : Cond.classLink own index (FieldType.array .int).toString ∈ Ts) {n : Nat} (hn : n < 1000) (hc : cells + 1 ≤ R.cells) (hs : slots + n ≤ R.slots) (hdg : decode cc pc = .ok (.anewarray index, 3))
    (kk : ∀ q : Nat, GW p l e R s m args below meth c Q D A nL (ws ++ [(q, .inl (cA 6, n, .inr (.inr (.inr (.inr (fun _ => none))))))]) (cells + 1) (slots + n) (pc + 3) lv (.ref q :: st)) : GW p l e R s m args below meth c Q D A nL ws cells slots pc lv (.int (zI n) :: st) := by
  intro H locs ls hP hD hS h0
  have nn : ¬ zI n < 0 := by
    intro h
    rw [← zI_0, zI_lt (by omega) (by omega)] at h
    omega
  have hcn : (zI n).toNatClampNeg = n := by rw [zI_cl (by omega)]; rfl
  have hK := E.2.2.2.2.2.1.1
  have hover : (Cond.arrayOver (.array .int)).before args s = true := hO
  refine W.anewA (t := .int) E.1 E.2.1 E.2.2.2.1 (E.2.2.2.2.1 _ hcl) hover rfl hdg rfl nn (by rw [hcn]; omega) hc (by rw [hcn]; exact hs) fun cN kN comp f1 f2 f3 f4 => ?_
  have hR6 : s.vm.findClass ("[" ++ (FieldType.array .int).toString) = some (cA 6) := (hK.2 6 (cA 6, .array .int) rfl).2
  have e6 : cN = cA 6 := Option.some.inj (f1.symm.trans hR6)
  subst e6
  rw [hcn]
  generalize hH1 : H.push ({ cls := cA 6, slots := Array.replicate n .null, vm := .none } : Cell) = H1
  have z1 : H1.size = H.size + 1 := by rw [← hH1, Array.size_push]
  have e1 : H1[H.size]? = some (arrV (cA 6) n (fun _ => .null)) := by rw [← hH1, Array.getElem?_push_size, ← arrV_new]
  have o1 : ∀ q : Nat, q < H.size → H1[q]? = H[q]? := fun q hq => by rw [← hH1, Array.getElem?_push, if_neg (Nat.ne_of_lt hq)]
  have hk : ∀ (k : Nat) (x : Nat × va_E), ws[k]? = some x → H1[x.1]? = H[x.1]? := fun k x hx => o1 x.1 ((hP k x hx).lt)
  refine kk H.size H1 locs ls ((hP.kept hk).app (fun k x hx => ?_)) (hD.push hP rfl (hA _ hS.1)) ⟨Nat.le_trans hS.1 (by omega), fun x h1 h2 => (o1 x (Nat.lt_of_lt_of_le h1 hS.1)).trans (hS.2.1 x h1 h2), hS.2.2⟩ h0
  have hz : k < 1 := (List.getElem?_eq_some_iff.mp hx).1
  rw [show k = 0 by omega] at hx
  cases hx
  show H1[H.size]? = some (vp_cell _ _)
  rw [vp_cell_q]
  exact e1
theorem g_newZ (E : GE p s m args meth c D (tysX cA) cc nL own Ts ret) (hA : ∀ q, s.heap.size ≤ q → A q) (harr : Cond.arrayClass .boolean ∈ Ts) {n : Nat} (hn : n < 1000) (hc : cells + 1 ≤ R.cells) (hs : slots + n ≤ R.slots) (hdg : decode cc pc = .ok (.newarray .boolean, 2))
    (kk : ∀ q : Nat, GW p l e R s m args below meth c Q D A nL (ws ++ [(q, .inl (cA 4, n, .inl (fun _ => 0)))]) (cells + 1) (slots + n) (pc + 2) lv (.ref q :: st)) : GW p l e R s m args below meth c Q D A nL ws cells slots pc lv (.int (zI n) :: st) := by
  intro H locs ls hP hD hS h0
  have nn : ¬ zI n < 0 := by
    intro h
    rw [← zI_0, zI_lt (by omega) (by omega)] at h
    omega
  refine va_newa (atype := .boolean) (ty := .boolean) (a0 := (n, .inl (fun _ => 0))) E.1 E.2.1 (E.2.2.2.2.1 _ harr) rfl E.2.2.2.2.2.1.1 hP hD hS hA (fun _ => rfl) nn (by rw [zI_cl (by omega)]; rfl) (by show n * 1 ≤ 536870912; omega) hc hs hdg (fun q cB H1 hK1 hP1 hD1 hS1 => ?_)
  have r1 : va_RA s cB .boolean := (hK1.2 7 (cB, .boolean) rfl).2
  have r2 : va_RA s (cA 4) .boolean := (E.2.2.2.2.2.1.1.2 4 (cA 4, .boolean) rfl).2
  have e1 : cB = cA 4 := Option.some.inj (Eq.trans (Eq.symm r1) r2)
  subst e1
  exact kk q H1 locs ls hP1 hD1 hS1 h0
end MIDA
/-- a method's contract out of the walk of its body -/
theorem g_metZ {l : Launch} {D : va_G} {tys : gT} {A : Nat → Prop} {ws0 : va_W} {As : List Value} {y : MethodName} {wsc wsc' : List Cond} {rm : Room} {Qc : Array Value → State → Outcome → State → Prop} {mc ms : Nat} {cc : ByteArray} {maxL : Nat} {ret : Option FieldType} {own : String} (ho : y.cls = own) (hy : plainName y.cls = true) (hw : wsc = Cond.code y cc maxL ret :: wsc') (hlen : (lg_sl As).length ≤ maxL)
    (body : ∀ (p : Program) (e : Env) (s : State) (m : MethodId) (below : List Frame) (meth : Method) (c : Code), GE p s m As.toArray meth c D tys cc maxL own wsc ret → gZ A s → GW p l e (headSpec wsc rm).room s m As.toArray below meth c (MQ below Qc As.toArray s mc ms A) D A maxL ws0 0 0 0 (lv_args 0 As) []) : Met l y wsc rm (PcZ D tys A ws0 As) Qc mc ms A := by
  refine Met.ofW (cc := cc) (maxL := maxL) (ret := ret) hy hw ?_
  intro p e s m args below meth c s₁ B hml hv
  obtain ⟨rfl, ⟨hP, hK, hD⟩, hZ⟩ := hv
  subst ho
  have E : GE p s m As.toArray meth c D tys cc maxL y.cls wsc ret := ⟨B.exec, B.bytes, hml, findClass_of_methodNamed B.named, atoms_spec (ws := wsc) B.pre, hK, B.returns, B.notSynchronized⟩
  rw [lg_entry_eq]
  exact body p e s m below meth c E hZ s.heap [] _ hP hD va_S.rf (lv_entry As hlen)
