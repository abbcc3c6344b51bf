/-! ===== NEW: rows of constructors ===== -/
theorem findArr {s : State} {tys : gT} {cA : Nat → ClassId} {D : va_G} (hK : va_K D vwCl (tysX cA) s) {cB : ClassId} {ty : FieldType} (h : va_RA s cB ty) : (ty = .int → cB = cA 0) ∧ (ty = .object RX2 → cB = cA 1) ∧ (ty = .object RX1 → cB = cA 2) ∧ (ty = .object RX0 → cB = cA 3) := by
  refine ⟨?_, ?_, ?_, ?_⟩
  · rintro rfl
    have h0 : va_RA s (cA 0) .int := (hK.2 0 (cA 0, .int) rfl).2
    exact Option.some.inj (Eq.trans (Eq.symm h) h0)
  · rintro rfl
    obtain ⟨_, _, _, _, _, h1⟩ := h
    obtain ⟨_, _, _, _, _, h0⟩ : va_RA s (cA 1) (.object RX2) := (hK.2 1 (cA 1, .object RX2) rfl).2
    exact Option.some.inj (Eq.trans (Eq.symm h1) h0)
  · rintro rfl
    obtain ⟨_, _, _, _, _, h1⟩ := h
    obtain ⟨_, _, _, _, _, h0⟩ : va_RA s (cA 2) (.object RX1) := (hK.2 2 (cA 2, .object RX1) rfl).2
    exact Option.some.inj (Eq.trans (Eq.symm h1) h0)
  · rintro rfl
    obtain ⟨_, _, _, _, _, h1⟩ := h
    obtain ⟨_, _, _, _, _, h0⟩ : va_RA s (cA 3) (.object RX0) := (hK.2 3 (cA 3, .object RX0) rfl).2
    exact Option.some.inj (Eq.trans (Eq.symm h1) h0)
section NEWR
variable {p : Program} {l : Launch} {e : Env} {R : Room} {s : State} {m : MethodId} {args : Array Value} {below : List Frame} {meth : Method} {c : Code} {Q : State → Prop} {D : va_G} {tys : gT} {A : Nat → Prop} {ws : va_W} {nL : Nat} {cells slots pc : Nat} {lv : List (Nat × Value)} {st : List Value} {cc : ByteArray} {own : String} {Ts : List Cond} {ret : Option FieldType} {cA : Nat → ClassId}
theorem g_newa (E : GE p s m args meth c D (tysX cA) cc nL own Ts ret) (hA : ∀ q, s.heap.size ≤ q → A q) (harr : Cond.arrayClass .int ∈ Ts) {n : Nat} (hn : n < 1000) (hc : cells + 1 ≤ R.cells) (hs : slots + n ≤ R.slots) (hdg : decode cc pc = .ok (.newarray .int, 2))
    (kk : ∀ q : Nat, GW p l e R s m args below meth c Q D A nL (ws ++ [(q, .inl (cA 0, n, .inl (fun _ => 0)))]) (cells + 1) (slots + n) (pc + 2) lv (.ref q :: st)) : GW p l e R s m args below meth c Q D A nL ws cells slots pc lv (.int (zI n) :: st) := by
  intro H locs ls hP hD hS h0
  have nn : ¬ zI n < 0 := by
    intro h
    rw [← zI_0, zI_lt (by omega) (by omega)] at h
    omega
  refine va_newa (atype := .int) (ty := .int) (a0 := (n, .inl (fun _ => 0))) E.1 E.2.1 (E.2.2.2.2.1 _ harr) rfl E.2.2.2.2.2.1.1 hP hD hS hA (fun _ => rfl) nn (by rw [zI_cl (by omega)]; rfl) (by show n * 4 ≤ 536870912; omega) hc hs hdg (fun q cB H1 hK1 hP1 hD1 hS1 => ?_)
  have e1 : cB = cA 0 := (findArr (tys := []) E.2.2.2.2.2.1.1 (hK1.2 5 (cB, .int) rfl).2).1 rfl
  subst e1
  exact kk q H1 locs ls hP1 hD1 hS1 h0
theorem g_newq (E : GE p s m args meth c D (tysX cA) cc nL own Ts ret) (hA : ∀ q, s.heap.size ≤ q → A q) {C : String} {index : Nat} {cB : ClassId} (hcl : Cond.classLink own index C ∈ Ts) (harr : Cond.arrayOver (.object C) ∈ Ts) (hid : ∀ cN : ClassId, va_RA s cN (.object C) → cN = cB) {n : Nat} (hn : n < 1000) (hc : cells + 1 ≤ R.cells) (hs : slots + n ≤ R.slots) (hdg : decode cc pc = .ok (.anewarray index, 3))
    (kk : ∀ q : Nat, GW p l e R s m args below meth c Q D A nL (ws ++ [(q, .inl (cB, n, .inr (.inr (.inr (.inr (fun _ => none))))))]) (cells + 1) (slots + n) (pc + 3) lv (.ref q :: st)) : GW p l e R s m args below meth c Q D A nL ws cells slots pc lv (.int (zI n) :: st) := by
  intro H locs ls hP hD hS h0
  have nn : ¬ zI n < 0 := by
    intro h
    rw [← zI_0, zI_lt (by omega) (by omega)] at h
    omega
  refine va_newq E.1 E.2.1 E.2.2.2.1 (E.2.2.2.2.1 _ hcl) (va_AO.of (E.2.2.2.2.1 _ harr)) E.2.2.2.2.2.1.1 hP hD hS hA nn (N' := n) (by rw [zI_cl (by omega)]; rfl) (by omega) hc hs hdg (fun q cN H1 hK1 hP1 hD1 hS1 => ?_)
  have e1 : cN = cB := hid cN (hK1.2 5 (cN, .object C) rfl).2
  subst e1
  exact kk q H1 locs ls hP1 hD1 hS1 h0
theorem g_new (E : GE p s m args meth c D tys cc nL own Ts ret) (hA : ∀ q, s.heap.size ≤ q → A q) {C : String} {T : u_T} {N ci index : Nat} (hin : ∀ w ∈ u_ws C T N, w ∈ Ts) (ty : Nat → FieldType) (hty : ∀ k, k < N → parseFieldDescriptor (T k).2.2.1 = some (ty k)) (hcl : Cond.classLink own index C ∈ Ts) (hinst : Cond.instantiable C N ∈ Ts) (hini : Cond.initialized C ∈ Ts) (hcc : vwCl[ci]? = some (C, T, N)) {fs : List Value} (hfs : ∀ j, j < N → defaultValue (ty j) = vp_V fs j) (hc : cells + 1 ≤ R.cells) (hs : slots + N ≤ R.slots) (hdg : decode cc pc = .ok (.new index, 3))
    (kk : ∀ q : Nat, GW p l e R s m args below meth c Q D A nL (ws ++ [(q, .inr (ci, fs))]) (cells + 1) (slots + N) (pc + 3) lv (.ref q :: st)) : GW p l e R s m args below meth c Q D A nL ws cells slots pc lv st := by
  intro H locs ls hP hD hS h0
  exact va_new E.1 E.2.1 E.2.2.2.2.1 hin ty hty E.2.2.2.1 (E.2.2.2.2.1 _ hcl) (E.2.2.2.2.1 _ hinst) (E.2.2.2.2.1 _ hini) E.2.2.2.2.2.1.1 hP hD hS hA hcc hfs hc hs hdg (fun q H1 hP1 hD1 hS1 => kk q H1 locs ls hP1 hD1 hS1 h0)
theorem g_putfF (E : GE p s m args meth c D tys cc nL own Ts ret) (hmn : meth.name = "<init>") {T : u_T} {N ci index a : Nat} {fs : List Value} {v : Value} {ty0 : Nat → FieldType} {ty : FieldType} {ws' : va_W} (hin : ∀ w ∈ u_ws own T N, w ∈ Ts) (hty : ∀ k, k < N → parseFieldDescriptor (T k).2.2.1 = some (ty0 k)) (hnm : ∀ a, a < N → ∀ b, b < N → a ≠ b → (T a).2.1 ≠ (T b).2.1) (hc : vwCl[ci]? = some (own, T, N)) (k : Nat) (hk : k < N) (hlink : Cond.fieldLink own index own (T k).2.1 (T k).2.2.1 ∈ Ts) (hcn : (T k).1 = own) (hfin : (T k).2.2.2 = true) (hd : parseFieldDescriptor (T k).2.2.1 = some ty) (hn : narrow ty v = v) (hfit : fits ty v = true) (hl : k < fs.length)
    (he : ∃ q0 : Nat, ws[q0]? = some (a, .inr (ci, fs)) ∧ ws.set q0 (a, .inr (ci, fs.set k v)) = ws') (hdg : decode cc pc = .ok (.putfield index, 3))
    (kk : GW p l e R s m args below meth c Q D A nL ws' cells slots (pc + 3) lv st) : GW p l e R s m args below meth c Q D A nL ws cells slots pc lv (v :: .ref a :: st) := by
  intro H locs ls hP hD hS h0
  obtain ⟨q0, hq, e⟩ := he
  subst e
  exact va_putF E.1 E.2.1 E.2.2.2.2.1 hin ty0 hty hnm E.2.2.2.1 E.2.2.2.2.2.1.1 hP hD hS q0 hq hc k hk (E.2.2.2.2.1 _ hlink) (fun x hx => by rw [hcn] at hx; exact hx) hfin hmn hcn hd hn hfit hl hdg (fun H1 locs1 hP hD hS => kk H1 locs1 ls hP hD hS h0)
theorem g_objInit (E : GE p s m args meth c D tys cc nL own Ts ret) {index b : Nat} (h1 : Cond.methodLink own index objectInit ∈ Ts) (h2 : Cond.instanceMethod objectInit ∈ Ts) (h3 : Cond.code objectInit ⟨#[0xb1]⟩ 1 none ∈ Ts) (hf : 1 ≤ R.frames) (hl : (st.map fun v => v.category).sum + 12 ≤ R.locals) (hdg : decode cc pc = .ok (.invokespecial index, 3))
    (kk : GW p l e R s m args below meth c Q D A nL ws cells slots (pc + 3) lv st) : GW p l e R s m args below meth c Q D A nL ws cells slots pc lv (.ref b :: st) := by
  intro H locs ls hP hD hS h0
  refine W.objInit E.1 E.2.1 E.2.2.2.1 (E.2.2.2.2.1 _ h1) (E.2.2.2.2.1 _ h2) (E.2.2.2.2.1 _ h3) rfl (by rw [E.2.2.1]; exact h0.1) rfl hdg hf (by show 2 * 0 + _ + 12 ≤ _; omega) ?_
  exact W.eq (g2 := F0 m (pc + 3) ls st) rfl (kk H locs ls hP hD hS h0)
end NEWR
