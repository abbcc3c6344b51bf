/-! ===== CORE: ints as integers; the judgement GW over a world; a row an instruction ===== -/
def zI (z : Int) : Int32 := Int32.ofInt z
theorem zI_add (a b : Int) : zI a + zI b = zI (a + b) := (Int32.ofInt_add a b).symm
theorem zI_sub (a b : Int) : zI a - zI b = zI (a - b) := (Int32.ofInt_sub a b).symm
theorem zI_mul (a b : Int) : zI a * zI b = zI (a * b) := (Int32.ofInt_mul a b).symm
theorem zI_neg (a : Int) : - zI a = zI (- a) := (Int32.ofInt_neg a).symm
theorem zI_nI (n : Nat) : nI n = zI n := Int32.ofInt_eq_ofNat.symm
theorem zI_self (x : Int32) : zI x.toInt = x := Int32.ofInt_toInt x
theorem zI_toInt {z : Int} (h : -2147483648 ≤ z ∧ z < 2147483648) : (zI z).toInt = z := Int32.toInt_ofInt_of_le (by omega) (by omega)
theorem zI_cl {z : Int} (h : -2147483648 ≤ z ∧ z < 2147483648) : (zI z).toNatClampNeg = z.toNat := by
  show (zI z).toInt.toNat = z.toNat
  rw [zI_toInt h]
theorem i32_rng (x : Int32) : -2147483648 ≤ x.toInt ∧ x.toInt < 2147483648 := ⟨by have := Int32.le_toInt x; omega, by have := Int32.toInt_lt x; omega⟩
theorem zI_lt {a b : Int} (ha : -2147483648 ≤ a ∧ a < 2147483648) (hb : -2147483648 ≤ b ∧ b < 2147483648) : zI a < zI b ↔ a < b := by
  rw [Int32.lt_iff_toInt_lt, zI_toInt ha, zI_toInt hb]
theorem zI_le {a b : Int} (ha : -2147483648 ≤ a ∧ a < 2147483648) (hb : -2147483648 ≤ b ∧ b < 2147483648) : zI a ≤ zI b ↔ a ≤ b := by
  rw [Int32.le_iff_toInt_le, zI_toInt ha, zI_toInt hb]
theorem zI_eq {a b : Int} (ha : -2147483648 ≤ a ∧ a < 2147483648) (hb : -2147483648 ≤ b ∧ b < 2147483648) : zI a = zI b ↔ a = b := by
  rw [← Int32.toInt_inj, zI_toInt ha, zI_toInt hb]
theorem zI_in {a : Int} {n : Nat} (h : 0 ≤ a ∧ a < n) (hn : n ≤ 2147483648) : vp_in (zI a) n := by
  rw [vp_in_iff, zI_toInt (by omega)]
  exact h
theorem zI_div {a b : Int} (ha : 0 ≤ a ∧ a < 2147483648) (hb : 0 < b ∧ b < 2147483648) : zI a / zI b = zI (a / b) := by
  have h0 : zI b ≠ -1 := by
    intro h
    have h1 := congrArg Int32.toInt h
    rw [zI_toInt (by omega)] at h1
    have h2 : (-1 : Int32).toInt = -1 := by decide
    omega
  rw [← Int32.toInt_inj, Int32.toInt_div_of_ne_right _ _ h0, zI_toInt (by omega), zI_toInt (by omega), zI_toInt ?_, Int.tdiv_eq_ediv_of_nonneg ha.1]
  have h1 := Int.ediv_nonneg ha.1 (show 0 ≤ b by omega)
  have h2 := Int.ediv_le_self b ha.1
  omega
theorem zI_rem {a b : Int} (ha : 0 ≤ a ∧ a < 2147483648) (hb : 0 < b ∧ b < 2147483648) : zI a - zI a / zI b * zI b = zI (a % b) := by
  rw [zI_div ha hb, zI_mul, zI_sub, Int.emod_def, Int.mul_comm]
theorem zI_ne0 {b : Int} (hb : 0 < b ∧ b < 2147483648) : ¬ zI b = 0 := by
  intro h
  have h1 := congrArg Int32.toInt h
  rw [zI_toInt (by omega)] at h1
  have h2 : (0 : Int32).toInt = 0 := by decide
  omega
theorem zI_lit {n : Int} {v : Int32} (h : Int32.ofInt n = v) : v = zI n := h.symm
theorem zI_0 : zI 0 = 0 := by decide
/-- what a list of locals holds -/
def lk : List (Nat × Value) → Nat → Option Value
  | [], _ => none
  | (j, v) :: t, i => bif Nat.beq j i then some v else lk t i
theorem nbeq_f {j i : Nat} (e : ¬ j = i) : Nat.beq j i = false := by
  cases hq : Nat.beq j i with
  | false => rfl
  | true => exact absurd (Nat.eq_of_beq_eq_true hq) e
theorem lk_s {j : Nat} {w : Value} {t : List (Nat × Value)} : lk ((j, w) :: t) j = some w := by
  show (bif Nat.beq j j then some w else lk t j) = some w
  rw [Nat.beq_refl]; rfl
theorem lk_n {j i : Nat} {w : Value} {t : List (Nat × Value)} (e : ¬ j = i) : lk ((j, w) :: t) i = lk t i := by
  show (bif Nat.beq j i then some w else lk t i) = lk t i
  rw [nbeq_f e]; rfl
theorem lk_place {v : Value} {i : Nat} : ∀ {l : List (Nat × Value)}, lk l i = some v → ∃ k : Nat, l[k]? = some (i, v)
  | [], h => by cases h
  | (j, w) :: t, hk => by
    by_cases e : j = i
    · subst e
      rw [lk_s] at hk
      exact ⟨0, by rw [← Option.some.inj hk]; rfl⟩
    · rw [lk_n e] at hk
      obtain ⟨k, h⟩ := lk_place hk
      exact ⟨k + 1, h⟩
theorem lk_at {ls : Array Slot} {nL : Nat} {v : Value} {i : Nat} {l : List (Nat × Value)} (h : lv_has ls nL l) (hk : lk l i = some v) : ls[i]? = some (.val v) := by
  obtain ⟨k, hk⟩ := lk_place hk
  exact lv_at h k hk
def lput1 (l : List (Nat × Value)) (i : Nat) (v : Value) : List (Nat × Value) := (i, v) :: l.filter (fun q => !(q.1 == i) && !(q.1 + 1 == i && q.2.category == 2))
def lput2 (l : List (Nat × Value)) (i : Nat) (v : Value) : List (Nat × Value) := (i, v) :: l.filter (fun q => !(q.1 == i) && (!(q.1 == i + 1) && !(q.1 + 1 == i && q.2.category == 2)))
def lsub (l : List (Nat × Value)) : List (Nat × Value) → Prop
  | [] => True
  | (i, v) :: t => lk l i = some v ∧ lsub l t
theorem lsub_has {ls : Array Slot} {nL : Nat} {l : List (Nat × Value)} (h : lv_has ls nL l) : ∀ {l' : List (Nat × Value)}, lsub l l' → lv_has ls nL l'
  | [], _ => ⟨h.1, h.2.1, fun q hq => nomatch hq⟩
  | (i, v) :: t, hs => ⟨h.1, h.2.1, fun q hq => by
      rcases List.mem_cons.mp hq with e | e
      · subst e
        exact lk_at h hs.1
      · exact (lsub_has h hs.2).2.2 q e⟩
abbrev gT : Type := List (ClassId × FieldType)
def gK (D : va_G) (tys : gT) (U : State) : Prop := va_K D vwCl tys U ∧ True
theorem gK.moved {D : va_G} {tys : gT} {s U : State} (hW : s.WarmedH U.vm) (h : gK D tys s) : gK D tys U := ⟨va_K.moved hW.alike h.1, trivial⟩
theorem gK.calling {D : va_G} {tys : gT} {U : State} (h : gK D tys U) (g : JFrame) (mk : MethodId) (a : Array Value) : gK D tys (U.calling g mk a) := ⟨va_K.moved (u := U) (U := U.calling g mk a) (Vm.Alike.refl U.vm) h.1, trivial⟩
/-- a method's start: its arguments, the tables, the world -/
def PcG (D : va_G) (tys : gT) (A : Nat → Prop) (ws : va_W) (As : List Value) : Array Value → State → Prop := va_Pc As (fun U => va_P D vwCl ws U.heap ∧ gK D tys U ∧ va_D A ws)
def gB (D : va_G) (A : Nat → Prop) (ws : va_W) (t : State) : Prop := va_P D vwCl ws t.heap ∧ va_D A ws
theorem PcG.blind {D : va_G} {tys : gT} {A : Nat → Prop} {ws : va_W} {As : List Value} : FrameBlind (PcG D tys A ws As) := fun _ _ g mk h => ⟨h.1, h.2.1, h.2.2.1.calling g mk _, h.2.2.2⟩
theorem PcG.at {D : va_G} {tys : gT} {A : Nat → Prop} {ws : va_W} {As : List Value} {s U : State} {H : Heap} (hU : U.heap = H) (hW : s.WarmedH U.vm) (hP : va_P D vwCl ws H) (hK : gK D tys s) (hD : va_D A ws) : PcG D tys A ws As As.toArray U := ⟨rfl, by rw [hU]; exact hP, hK.moved hW, hD⟩
/-- what holds all along a method's body -/
def GE (p : Program) (s : State) (m : MethodId) (args : Array Value) (meth : Method) (c : Code) (D : va_G) (tys : gT) (cc : ByteArray) (nL : Nat) (own : String) (Ts : List Cond) (ret : Option FieldType) : Prop :=
  p.tables.exec = Jvm.exec ∧ c.code = cc ∧ c.maxLocals = nL ∧ s.vm.findClass own = some m.cls ∧ (∀ w ∈ Ts, w.before args s = true) ∧ gK D tys s ∧ meth.sig.returnType = ret ∧ meth.locks = false
/-- from any heap that holds the world ws and any frame that holds the locals lv, the machine comes to Q -/
def GW (p : Program) (l : Launch) (e : Env) (R : Room) (s : State) (m : MethodId) (args : Array Value) (below : List Frame) (meth : Method) (c : Code) (Q : State → Prop) (D : va_G) (A : Nat → Prop) (nL : Nat) (ws : va_W) (cells slots pc : Nat) (lv : List (Nat × Value)) (st : List Value) : Prop :=
  ∀ (H : Heap) (locs : List Loc) (ls : Array Slot), va_P D vwCl ws H → va_D A ws → va_S A s.heap H locs → lv_has ls nL lv → W p l e R s m args below meth c H locs cells slots Q (F0 m pc ls st)
section GG
variable {p : Program} {l : Launch} {e : Env} {R : Room} {s : State} {m : MethodId} {args : Array Value} {below : List Frame} {meth : Method} {c : Code} {Q : State → Prop} {D : va_G} {tys : gT} {A : Nat → Prop} {nL : Nat} {ws : va_W} {cells slots pc : Nat} {lv : List (Nat × Value)} {st : List Value} {cc : ByteArray} {own : String} {Ts : List Cond} {ret : Option FieldType}
theorem g_loc {lv' : List (Nat × Value)} (h : lsub lv lv') (kk : GW p l e R s m args below meth c Q D A nL ws cells slots pc lv' st) : GW p l e R s m args below meth c Q D A nL ws cells slots pc lv st :=
  fun H locs ls hP hD hS hl => kk H locs ls hP hD hS (lsub_has hl h)
theorem g_st {st' : List Value} {lv' : List (Nat × Value)} {ws' : va_W} (h1 : ws = ws') (h2 : lv = lv') (h3 : st = st') (kk : GW p l e R s m args below meth c Q D A nL ws' cells slots pc lv' st') : GW p l e R s m args below meth c Q D A nL ws cells slots pc lv st := by
  subst h1; subst h2; subst h3; exact kk
theorem g_wid {k n : Nat} (h1 : cells ≤ k) (h2 : slots ≤ n) (kk : GW p l e R s m args below meth c Q D A nL ws k n pc lv st) : GW p l e R s m args below meth c Q D A nL ws cells slots pc lv st :=
  fun H locs ls hP hD hS hl => W.widen h1 h2 (kk H locs ls hP hD hS hl)
theorem g_top {v v' : Value} {rest : List Value} (h : v = v') (kk : GW p l e R s m args below meth c Q D A nL ws cells slots pc lv (v' :: rest)) : GW p l e R s m args below meth c Q D A nL ws cells slots pc lv (v :: rest) := by
  subst h; exact kk
-- loads and stores
theorem g_iload_n (E : GE p s m args meth c D tys cc nL own Ts ret) {k : Fin 4} {v : Int32} (hdg : decode cc pc = .ok (.iload_n k, 1)) (hl : lk lv k = some (.int v)) (kk : GW p l e R s m args below meth c Q D A nL ws cells slots (pc + 1) lv (.int v :: st)) : GW p l e R s m args below meth c Q D A nL ws cells slots pc lv st :=
  fun H locs ls hP hD hS h => lv_iload_n E.1 E.2.1 hdg rfl (lk_at h hl) (kk H locs ls hP hD hS h)
theorem g_iload (E : GE p s m args meth c D tys cc nL own Ts ret) {k : Nat} {v : Int32} (hdg : decode cc pc = .ok (.iload k, 2)) (hl : lk lv k = some (.int v)) (kk : GW p l e R s m args below meth c Q D A nL ws cells slots (pc + 2) lv (.int v :: st)) : GW p l e R s m args below meth c Q D A nL ws cells slots pc lv st :=
  fun H locs ls hP hD hS h => lv_iload E.1 E.2.1 hdg (lk_at h hl) (kk H locs ls hP hD hS h)
theorem g_aload_n (E : GE p s m args meth c D tys cc nL own Ts ret) {k : Fin 4} {v : Nat} (hdg : decode cc pc = .ok (.aload_n k, 1)) (hl : lk lv k = some (.ref v)) (kk : GW p l e R s m args below meth c Q D A nL ws cells slots (pc + 1) lv (.ref v :: st)) : GW p l e R s m args below meth c Q D A nL ws cells slots pc lv st :=
  fun H locs ls hP hD hS h => lv_aload_n E.1 E.2.1 hdg rfl (lk_at h hl) (kk H locs ls hP hD hS h)
theorem g_aload (E : GE p s m args meth c D tys cc nL own Ts ret) {k : Nat} {v : Nat} (hdg : decode cc pc = .ok (.aload k, 2)) (hl : lk lv k = some (.ref v)) (kk : GW p l e R s m args below meth c Q D A nL ws cells slots (pc + 2) lv (.ref v :: st)) : GW p l e R s m args below meth c Q D A nL ws cells slots pc lv st :=
  fun H locs ls hP hD hS h => lv_aload E.1 E.2.1 hdg (lk_at h hl) (kk H locs ls hP hD hS h)
theorem g_lload_n (E : GE p s m args meth c D tys cc nL own Ts ret) {k : Fin 4} {v : Int64} (hdg : decode cc pc = .ok (.lload_n k, 1)) (hl : lk lv k = some (.long v)) (kk : GW p l e R s m args below meth c Q D A nL ws cells slots (pc + 1) lv (.long v :: st)) : GW p l e R s m args below meth c Q D A nL ws cells slots pc lv st :=
  fun H locs ls hP hD hS h => lv_lload_n E.1 E.2.1 hdg rfl (lk_at h hl) (kk H locs ls hP hD hS h)
theorem g_lload (E : GE p s m args meth c D tys cc nL own Ts ret) {k : Nat} {v : Int64} (hdg : decode cc pc = .ok (.lload k, 2)) (hl : lk lv k = some (.long v)) (kk : GW p l e R s m args below meth c Q D A nL ws cells slots (pc + 2) lv (.long v :: st)) : GW p l e R s m args below meth c Q D A nL ws cells slots pc lv st :=
  fun H locs ls hP hD hS h => lv_lload E.1 E.2.1 hdg (lk_at h hl) (kk H locs ls hP hD hS h)
theorem g_istore_n (E : GE p s m args meth c D tys cc nL own Ts ret) {k : Fin 4} {v : Int32} (hdg : decode cc pc = .ok (.istore_n k, 1)) (hn : (k : Nat) < nL) (kk : GW p l e R s m args below meth c Q D A nL ws cells slots (pc + 1) (lput1 lv k (.int v)) st) : GW p l e R s m args below meth c Q D A nL ws cells slots pc lv (.int v :: st) :=
  fun H locs ls hP hD hS h => lv_istore_n E.1 E.2.1 hdg rfl h hn rfl (fun ls' h' => kk H locs ls' hP hD hS h')
theorem g_istore (E : GE p s m args meth c D tys cc nL own Ts ret) {k : Nat} {v : Int32} (hdg : decode cc pc = .ok (.istore k, 2)) (hn : k < nL) (kk : GW p l e R s m args below meth c Q D A nL ws cells slots (pc + 2) (lput1 lv k (.int v)) st) : GW p l e R s m args below meth c Q D A nL ws cells slots pc lv (.int v :: st) :=
  fun H locs ls hP hD hS h => lv_istore E.1 E.2.1 hdg h hn rfl (fun ls' h' => kk H locs ls' hP hD hS h')
theorem g_astore_n (E : GE p s m args meth c D tys cc nL own Ts ret) {k : Fin 4} {v : Nat} (hdg : decode cc pc = .ok (.astore_n k, 1)) (hn : (k : Nat) < nL) (kk : GW p l e R s m args below meth c Q D A nL ws cells slots (pc + 1) (lput1 lv k (.ref v)) st) : GW p l e R s m args below meth c Q D A nL ws cells slots pc lv (.ref v :: st) :=
  fun H locs ls hP hD hS h => lv_astore_n E.1 E.2.1 hdg rfl h hn rfl (fun ls' h' => kk H locs ls' hP hD hS h')
theorem g_astore (E : GE p s m args meth c D tys cc nL own Ts ret) {k : Nat} {v : Nat} (hdg : decode cc pc = .ok (.astore k, 2)) (hn : k < nL) (kk : GW p l e R s m args below meth c Q D A nL ws cells slots (pc + 2) (lput1 lv k (.ref v)) st) : GW p l e R s m args below meth c Q D A nL ws cells slots pc lv (.ref v :: st) :=
  fun H locs ls hP hD hS h => lv_astore E.1 E.2.1 hdg h hn rfl (fun ls' h' => kk H locs ls' hP hD hS h')
theorem g_lstore_n (E : GE p s m args meth c D tys cc nL own Ts ret) {k : Fin 4} {v : Int64} (hdg : decode cc pc = .ok (.lstore_n k, 1)) (hn : (k : Nat) + 1 < nL) (kk : GW p l e R s m args below meth c Q D A nL ws cells slots (pc + 1) (lput2 lv k (.long v)) st) : GW p l e R s m args below meth c Q D A nL ws cells slots pc lv (.long v :: st) :=
  fun H locs ls hP hD hS h => lv_lstore_n E.1 E.2.1 hdg rfl h hn rfl (fun ls' h' => kk H locs ls' hP hD hS h')
theorem g_lstore (E : GE p s m args meth c D tys cc nL own Ts ret) {k : Nat} {v : Int64} (hdg : decode cc pc = .ok (.lstore k, 2)) (hn : k + 1 < nL) (kk : GW p l e R s m args below meth c Q D A nL ws cells slots (pc + 2) (lput2 lv k (.long v)) st) : GW p l e R s m args below meth c Q D A nL ws cells slots pc lv (.long v :: st) :=
  fun H locs ls hP hD hS h => lv_lstore E.1 E.2.1 hdg h hn rfl (fun ls' h' => kk H locs ls' hP hD hS h')
theorem g_iinc (E : GE p s m args meth c D tys cc nL own Ts ret) {i : Nat} {n a : Int} (hdg : decode cc pc = .ok (.iinc i n, 3)) (hl : lk lv i = some (.int (zI a))) (hn : i < nL) (kk : GW p l e R s m args below meth c Q D A nL ws cells slots (pc + 3) (lput1 lv i (.int (zI (a + n)))) st) : GW p l e R s m args below meth c Q D A nL ws cells slots pc lv st := by
  intro H locs ls hP hD hS h
  obtain ⟨k, hk⟩ := lk_place hl
  exact lv_iinc E.1 E.2.1 hdg h hk (zI_add a n) hn rfl (fun ls' h' => kk H locs ls' hP hD hS h')
theorem g_iconst (E : GE p s m args meth c D tys cc nL own Ts ret) {n : Int} (hdg : decode cc pc = .ok (.iconst n, 1)) (kk : GW p l e R s m args below meth c Q D A nL ws cells slots (pc + 1) lv (.int (zI n) :: st)) : GW p l e R s m args below meth c Q D A nL ws cells slots pc lv st :=
  fun H locs ls hP hD hS h => lv_iconst E.1 E.2.1 hdg rfl (kk H locs ls hP hD hS h)
theorem g_bipush (E : GE p s m args meth c D tys cc nL own Ts ret) {n : Int} (hdg : decode cc pc = .ok (.bipush n, 2)) (hv : (Int8.ofInt n).toInt32 = zI n) (kk : GW p l e R s m args below meth c Q D A nL ws cells slots (pc + 2) lv (.int (zI n) :: st)) : GW p l e R s m args below meth c Q D A nL ws cells slots pc lv st :=
  fun H locs ls hP hD hS h => lv_bipush E.1 E.2.1 hdg hv (kk H locs ls hP hD hS h)
theorem g_sipush (E : GE p s m args meth c D tys cc nL own Ts ret) {n : Int} (hdg : decode cc pc = .ok (.sipush n, 3)) (hv : (Int16.ofInt n).toInt32 = zI n) (kk : GW p l e R s m args below meth c Q D A nL ws cells slots (pc + 3) lv (.int (zI n) :: st)) : GW p l e R s m args below meth c Q D A nL ws cells slots pc lv st :=
  fun H locs ls hP hD hS h => lv_sipush E.1 E.2.1 hdg hv (kk H locs ls hP hD hS h)
theorem g_iaddR (E : GE p s m args meth c D tys cc nL own Ts ret) {x y : Int32} (hdg : decode cc pc = .ok (.iadd, 1)) (kk : GW p l e R s m args below meth c Q D A nL ws cells slots (pc + 1) lv (.int (x + y) :: st)) : GW p l e R s m args below meth c Q D A nL ws cells slots pc lv (.int y :: .int x :: st) :=
  fun H locs ls hP hD hS h => lv_iadd E.1 E.2.1 hdg (kk H locs ls hP hD hS h)
theorem g_iadd (E : GE p s m args meth c D tys cc nL own Ts ret) {a b : Int} (hdg : decode cc pc = .ok (.iadd, 1)) (kk : GW p l e R s m args below meth c Q D A nL ws cells slots (pc + 1) lv (.int (zI (a + b)) :: st)) : GW p l e R s m args below meth c Q D A nL ws cells slots pc lv (.int (zI b) :: .int (zI a) :: st) :=
  fun H locs ls hP hD hS h => lv_iadd E.1 E.2.1 hdg (zI_add a b ▸ kk H locs ls hP hD hS h)
theorem g_isubR (E : GE p s m args meth c D tys cc nL own Ts ret) {x y : Int32} (hdg : decode cc pc = .ok (.isub, 1)) (kk : GW p l e R s m args below meth c Q D A nL ws cells slots (pc + 1) lv (.int (x - y) :: st)) : GW p l e R s m args below meth c Q D A nL ws cells slots pc lv (.int y :: .int x :: st) :=
  fun H locs ls hP hD hS h => lv_isub E.1 E.2.1 hdg (kk H locs ls hP hD hS h)
theorem g_isub (E : GE p s m args meth c D tys cc nL own Ts ret) {a b : Int} (hdg : decode cc pc = .ok (.isub, 1)) (kk : GW p l e R s m args below meth c Q D A nL ws cells slots (pc + 1) lv (.int (zI (a - b)) :: st)) : GW p l e R s m args below meth c Q D A nL ws cells slots pc lv (.int (zI b) :: .int (zI a) :: st) :=
  fun H locs ls hP hD hS h => lv_isub E.1 E.2.1 hdg (zI_sub a b ▸ kk H locs ls hP hD hS h)
theorem g_imulR (E : GE p s m args meth c D tys cc nL own Ts ret) {x y : Int32} (hdg : decode cc pc = .ok (.imul, 1)) (kk : GW p l e R s m args below meth c Q D A nL ws cells slots (pc + 1) lv (.int (x * y) :: st)) : GW p l e R s m args below meth c Q D A nL ws cells slots pc lv (.int y :: .int x :: st) :=
  fun H locs ls hP hD hS h => lv_imul E.1 E.2.1 hdg (kk H locs ls hP hD hS h)
theorem g_imul (E : GE p s m args meth c D tys cc nL own Ts ret) {a b : Int} (hdg : decode cc pc = .ok (.imul, 1)) (kk : GW p l e R s m args below meth c Q D A nL ws cells slots (pc + 1) lv (.int (zI (a * b)) :: st)) : GW p l e R s m args below meth c Q D A nL ws cells slots pc lv (.int (zI b) :: .int (zI a) :: st) :=
  fun H locs ls hP hD hS h => lv_imul E.1 E.2.1 hdg (zI_mul a b ▸ kk H locs ls hP hD hS h)
theorem g_idivR (E : GE p s m args meth c D tys cc nL own Ts ret) {x y : Int32} (hdg : decode cc pc = .ok (.idiv, 1)) (hne : ¬ y = 0) (kk : GW p l e R s m args below meth c Q D A nL ws cells slots (pc + 1) lv (.int (x / y) :: st)) : GW p l e R s m args below meth c Q D A nL ws cells slots pc lv (.int y :: .int x :: st) :=
  fun H locs ls hP hD hS h => lv_idiv E.1 E.2.1 hdg hne (kk H locs ls hP hD hS h)
theorem g_idiv (E : GE p s m args meth c D tys cc nL own Ts ret) {a b : Int} (hdg : decode cc pc = .ok (.idiv, 1)) (ha : 0 ≤ a ∧ a < 2147483648) (hb : 0 < b ∧ b < 2147483648) (kk : GW p l e R s m args below meth c Q D A nL ws cells slots (pc + 1) lv (.int (zI (a / b)) :: st)) : GW p l e R s m args below meth c Q D A nL ws cells slots pc lv (.int (zI b) :: .int (zI a) :: st) :=
  fun H locs ls hP hD hS h => lv_idiv E.1 E.2.1 hdg (zI_ne0 hb) (zI_div ha hb ▸ kk H locs ls hP hD hS h)
theorem g_irem (E : GE p s m args meth c D tys cc nL own Ts ret) {a b : Int} (hdg : decode cc pc = .ok (.irem, 1)) (ha : 0 ≤ a ∧ a < 2147483648) (hb : 0 < b ∧ b < 2147483648) (kk : GW p l e R s m args below meth c Q D A nL ws cells slots (pc + 1) lv (.int (zI (a % b)) :: st)) : GW p l e R s m args below meth c Q D A nL ws cells slots pc lv (.int (zI b) :: .int (zI a) :: st) :=
  fun H locs ls hP hD hS h => lv_irem E.1 E.2.1 hdg (zI_ne0 hb) (zI_rem ha hb ▸ kk H locs ls hP hD hS h)
theorem g_ixor (E : GE p s m args meth c D tys cc nL own Ts ret) {x y : Int32} (hdg : decode cc pc = .ok (.ixor, 1)) (kk : GW p l e R s m args below meth c Q D A nL ws cells slots (pc + 1) lv (.int (x ^^^ y) :: st)) : GW p l e R s m args below meth c Q D A nL ws cells slots pc lv (.int y :: .int x :: st) :=
  fun H locs ls hP hD hS h => lv_ixor E.1 E.2.1 hdg (kk H locs ls hP hD hS h)
theorem g_ineg (E : GE p s m args meth c D tys cc nL own Ts ret) {x : Int32} (hdg : decode cc pc = .ok (.ineg, 1)) (kk : GW p l e R s m args below meth c Q D A nL ws cells slots (pc + 1) lv (.int (-x) :: st)) : GW p l e R s m args below meth c Q D A nL ws cells slots pc lv (.int x :: st) :=
  fun H locs ls hP hD hS h => lv_ineg E.1 E.2.1 hdg (kk H locs ls hP hD hS h)
theorem g_i2l (E : GE p s m args meth c D tys cc nL own Ts ret) {x : Int32} (hdg : decode cc pc = .ok (.i2l, 1)) (kk : GW p l e R s m args below meth c Q D A nL ws cells slots (pc + 1) lv (.long x.toInt64 :: st)) : GW p l e R s m args below meth c Q D A nL ws cells slots pc lv (.int x :: st) :=
  fun H locs ls hP hD hS h => lv_i2l E.1 E.2.1 hdg rfl (kk H locs ls hP hD hS h)
theorem g_ladd (E : GE p s m args meth c D tys cc nL own Ts ret) {x y : Int64} (hdg : decode cc pc = .ok (.ladd, 1)) (kk : GW p l e R s m args below meth c Q D A nL ws cells slots (pc + 1) lv (.long (x + y) :: st)) : GW p l e R s m args below meth c Q D A nL ws cells slots pc lv (.long y :: .long x :: st) :=
  fun H locs ls hP hD hS h => lv_ladd E.1 E.2.1 hdg (kk H locs ls hP hD hS h)
theorem g_lmul (E : GE p s m args meth c D tys cc nL own Ts ret) {x y : Int64} (hdg : decode cc pc = .ok (.lmul, 1)) (kk : GW p l e R s m args below meth c Q D A nL ws cells slots (pc + 1) lv (.long (x * y) :: st)) : GW p l e R s m args below meth c Q D A nL ws cells slots pc lv (.long y :: .long x :: st) :=
  fun H locs ls hP hD hS h => lv_lmul E.1 E.2.1 hdg (kk H locs ls hP hD hS h)
theorem g_ldc2 (E : GE p s m args meth c D tys cc nL own Ts ret) {index : Nat} {v : Int64} (hdg : decode cc pc = .ok (.ldc2_w index, 3)) (hc : Cond.constantLong own index v ∈ Ts) (kk : GW p l e R s m args below meth c Q D A nL ws cells slots (pc + 3) lv (.long v :: st)) : GW p l e R s m args below meth c Q D A nL ws cells slots pc lv st :=
  fun H locs ls hP hD hS h => lv_ldc2 E.1 E.2.1 E.2.2.2.1 (E.2.2.2.2.1 _ hc) hdg (kk H locs ls hP hD hS h)
theorem g_dup (E : GE p s m args meth c D tys cc nL own Ts ret) {v : Value} (hdg : decode cc pc = .ok (.dup, 1)) (hv : v.category = 1) (kk : GW p l e R s m args below meth c Q D A nL ws cells slots (pc + 1) lv (v :: v :: st)) : GW p l e R s m args below meth c Q D A nL ws cells slots pc lv (v :: st) :=
  fun H locs ls hP hD hS h => lv_dup E.1 E.2.1 hdg hv (kk H locs ls hP hD hS h)
theorem g_dup2 (E : GE p s m args meth c D tys cc nL own Ts ret) {v w : Value} (hdg : decode cc pc = .ok (.dup2, 1)) (hv : v.category = 1) (hw : w.category = 1) (kk : GW p l e R s m args below meth c Q D A nL ws cells slots (pc + 1) lv (v :: w :: v :: w :: st)) : GW p l e R s m args below meth c Q D A nL ws cells slots pc lv (v :: w :: st) :=
  fun H locs ls hP hD hS h => lv_dup2_11 E.1 E.2.1 hdg hv hw (kk H locs ls hP hD hS h)
theorem g_dup_x1 (E : GE p s m args meth c D tys cc nL own Ts ret) {v w : Value} (hdg : decode cc pc = .ok (.dup_x1, 1)) (hv : v.category = 1) (hw : w.category = 1) (kk : GW p l e R s m args below meth c Q D A nL ws cells slots (pc + 1) lv (v :: w :: v :: st)) : GW p l e R s m args below meth c Q D A nL ws cells slots pc lv (v :: w :: st) :=
  fun H locs ls hP hD hS h => lv_dup_x1 E.1 E.2.1 hdg hv hw (kk H locs ls hP hD hS h)
theorem g_pop (E : GE p s m args meth c D tys cc nL own Ts ret) {v : Value} (hdg : decode cc pc = .ok (.pop, 1)) (hv : v.category = 1) (kk : GW p l e R s m args below meth c Q D A nL ws cells slots (pc + 1) lv st) : GW p l e R s m args below meth c Q D A nL ws cells slots pc lv (v :: st) :=
  fun H locs ls hP hD hS h => lv_pop E.1 E.2.1 hdg hv (kk H locs ls hP hD hS h)
theorem g_goto (E : GE p s m args meth c D tys cc nL own Ts ret) {off : Int} {tgt : Nat} (hdg : decode cc pc = .ok (.goto off, 3)) (ht : (pc : Int) + off = (tgt : Int)) (kk : GW p l e R s m args below meth c Q D A nL ws cells slots tgt lv st) : GW p l e R s m args below meth c Q D A nL ws cells slots pc lv st :=
  fun H locs ls hP hD hS h => lv_goto E.1 E.2.1 hdg ht (kk H locs ls hP hD hS h)
-- branches
theorem g_icmp_ltR (E : GE p s m args meth c D tys cc nL own Ts ret) {x y : Int32} {off : Int} {tgt : Nat} (hdg : decode cc pc = .ok (.if_icmp .lt off, 3)) (ht : (pc : Int) + off = (tgt : Int)) (kt : x < y → GW p l e R s m args below meth c Q D A nL ws cells slots tgt lv st) (kf : ¬ x < y → GW p l e R s m args below meth c Q D A nL ws cells slots (pc + 3) lv st) : GW p l e R s m args below meth c Q D A nL ws cells slots pc lv (.int y :: .int x :: st) :=
  fun H locs ls hP hD hS h0 => lv_icmp_lt E.1 E.2.1 hdg ht (fun h => kt h H locs ls hP hD hS h0) (fun h => kf h H locs ls hP hD hS h0)
theorem g_icmp_lt (E : GE p s m args meth c D tys cc nL own Ts ret) {a b : Int} {off : Int} {tgt : Nat} (hdg : decode cc pc = .ok (.if_icmp .lt off, 3)) (ht : (pc : Int) + off = (tgt : Int)) (ha : -2147483648 ≤ a ∧ a < 2147483648) (hb : -2147483648 ≤ b ∧ b < 2147483648) (kt : a < b → GW p l e R s m args below meth c Q D A nL ws cells slots tgt lv st) (kf : ¬ a < b → GW p l e R s m args below meth c Q D A nL ws cells slots (pc + 3) lv st) : GW p l e R s m args below meth c Q D A nL ws cells slots pc lv (.int (zI b) :: .int (zI a) :: st) :=
  g_icmp_ltR E hdg ht (fun h => kt ((zI_lt ha hb).mp h)) (fun h => kf (fun q => h ((zI_lt ha hb).mpr q)))
theorem g_if_ltR (E : GE p s m args meth c D tys cc nL own Ts ret) {x : Int32} {off : Int} {tgt : Nat} (hdg : decode cc pc = .ok (.ifCond .lt off, 3)) (ht : (pc : Int) + off = (tgt : Int)) (kt : x < 0 → GW p l e R s m args below meth c Q D A nL ws cells slots tgt lv st) (kf : ¬ x < 0 → GW p l e R s m args below meth c Q D A nL ws cells slots (pc + 3) lv st) : GW p l e R s m args below meth c Q D A nL ws cells slots pc lv (.int x :: st) :=
  fun H locs ls hP hD hS h0 => lv_if_lt E.1 E.2.1 hdg ht (fun h => kt h H locs ls hP hD hS h0) (fun h => kf h H locs ls hP hD hS h0)
theorem g_if_lt (E : GE p s m args meth c D tys cc nL own Ts ret) {a : Int} {off : Int} {tgt : Nat} (hdg : decode cc pc = .ok (.ifCond .lt off, 3)) (ht : (pc : Int) + off = (tgt : Int)) (ha : -2147483648 ≤ a ∧ a < 2147483648) (kt : a < 0 → GW p l e R s m args below meth c Q D A nL ws cells slots tgt lv st) (kf : ¬ a < 0 → GW p l e R s m args below meth c Q D A nL ws cells slots (pc + 3) lv st) : GW p l e R s m args below meth c Q D A nL ws cells slots pc lv (.int (zI a) :: st) := by
  have hb : -2147483648 ≤ (0 : Int) ∧ (0 : Int) < 2147483648 := by omega
  have hz : zI 0 = 0 := zI_0
  exact g_if_ltR E hdg ht (by rw [← hz]; exact fun h => kt ((zI_lt ha hb).mp h)) (by rw [← hz]; exact fun h => kf (fun q => h ((zI_lt ha hb).mpr q)))
theorem g_icmp_leR (E : GE p s m args meth c D tys cc nL own Ts ret) {x y : Int32} {off : Int} {tgt : Nat} (hdg : decode cc pc = .ok (.if_icmp .le off, 3)) (ht : (pc : Int) + off = (tgt : Int)) (kt : x ≤ y → GW p l e R s m args below meth c Q D A nL ws cells slots tgt lv st) (kf : ¬ x ≤ y → GW p l e R s m args below meth c Q D A nL ws cells slots (pc + 3) lv st) : GW p l e R s m args below meth c Q D A nL ws cells slots pc lv (.int y :: .int x :: st) :=
  fun H locs ls hP hD hS h0 => lv_icmp_le E.1 E.2.1 hdg ht (fun h => kt h H locs ls hP hD hS h0) (fun h => kf h H locs ls hP hD hS h0)
theorem g_icmp_le (E : GE p s m args meth c D tys cc nL own Ts ret) {a b : Int} {off : Int} {tgt : Nat} (hdg : decode cc pc = .ok (.if_icmp .le off, 3)) (ht : (pc : Int) + off = (tgt : Int)) (ha : -2147483648 ≤ a ∧ a < 2147483648) (hb : -2147483648 ≤ b ∧ b < 2147483648) (kt : a ≤ b → GW p l e R s m args below meth c Q D A nL ws cells slots tgt lv st) (kf : ¬ a ≤ b → GW p l e R s m args below meth c Q D A nL ws cells slots (pc + 3) lv st) : GW p l e R s m args below meth c Q D A nL ws cells slots pc lv (.int (zI b) :: .int (zI a) :: st) :=
  g_icmp_leR E hdg ht (fun h => kt ((zI_le ha hb).mp h)) (fun h => kf (fun q => h ((zI_le ha hb).mpr q)))
theorem g_if_leR (E : GE p s m args meth c D tys cc nL own Ts ret) {x : Int32} {off : Int} {tgt : Nat} (hdg : decode cc pc = .ok (.ifCond .le off, 3)) (ht : (pc : Int) + off = (tgt : Int)) (kt : x ≤ 0 → GW p l e R s m args below meth c Q D A nL ws cells slots tgt lv st) (kf : ¬ x ≤ 0 → GW p l e R s m args below meth c Q D A nL ws cells slots (pc + 3) lv st) : GW p l e R s m args below meth c Q D A nL ws cells slots pc lv (.int x :: st) :=
  fun H locs ls hP hD hS h0 => lv_if_le E.1 E.2.1 hdg ht (fun h => kt h H locs ls hP hD hS h0) (fun h => kf h H locs ls hP hD hS h0)
theorem g_if_le (E : GE p s m args meth c D tys cc nL own Ts ret) {a : Int} {off : Int} {tgt : Nat} (hdg : decode cc pc = .ok (.ifCond .le off, 3)) (ht : (pc : Int) + off = (tgt : Int)) (ha : -2147483648 ≤ a ∧ a < 2147483648) (kt : a ≤ 0 → GW p l e R s m args below meth c Q D A nL ws cells slots tgt lv st) (kf : ¬ a ≤ 0 → GW p l e R s m args below meth c Q D A nL ws cells slots (pc + 3) lv st) : GW p l e R s m args below meth c Q D A nL ws cells slots pc lv (.int (zI a) :: st) := by
  have hb : -2147483648 ≤ (0 : Int) ∧ (0 : Int) < 2147483648 := by omega
  have hz : zI 0 = 0 := zI_0
  exact g_if_leR E hdg ht (by rw [← hz]; exact fun h => kt ((zI_le ha hb).mp h)) (by rw [← hz]; exact fun h => kf (fun q => h ((zI_le ha hb).mpr q)))
theorem g_icmp_eqR (E : GE p s m args meth c D tys cc nL own Ts ret) {x y : Int32} {off : Int} {tgt : Nat} (hdg : decode cc pc = .ok (.if_icmp .eq off, 3)) (ht : (pc : Int) + off = (tgt : Int)) (kt : x = y → GW p l e R s m args below meth c Q D A nL ws cells slots tgt lv st) (kf : ¬ x = y → GW p l e R s m args below meth c Q D A nL ws cells slots (pc + 3) lv st) : GW p l e R s m args below meth c Q D A nL ws cells slots pc lv (.int y :: .int x :: st) :=
  fun H locs ls hP hD hS h0 => lv_icmp_eq E.1 E.2.1 hdg ht (fun h => kt h H locs ls hP hD hS h0) (fun h => kf h H locs ls hP hD hS h0)
theorem g_icmp_eq (E : GE p s m args meth c D tys cc nL own Ts ret) {a b : Int} {off : Int} {tgt : Nat} (hdg : decode cc pc = .ok (.if_icmp .eq off, 3)) (ht : (pc : Int) + off = (tgt : Int)) (ha : -2147483648 ≤ a ∧ a < 2147483648) (hb : -2147483648 ≤ b ∧ b < 2147483648) (kt : a = b → GW p l e R s m args below meth c Q D A nL ws cells slots tgt lv st) (kf : ¬ a = b → GW p l e R s m args below meth c Q D A nL ws cells slots (pc + 3) lv st) : GW p l e R s m args below meth c Q D A nL ws cells slots pc lv (.int (zI b) :: .int (zI a) :: st) :=
  g_icmp_eqR E hdg ht (fun h => kt ((zI_eq ha hb).mp h)) (fun h => kf (fun q => h ((zI_eq ha hb).mpr q)))
theorem g_if_eqR (E : GE p s m args meth c D tys cc nL own Ts ret) {x : Int32} {off : Int} {tgt : Nat} (hdg : decode cc pc = .ok (.ifCond .eq off, 3)) (ht : (pc : Int) + off = (tgt : Int)) (kt : x = 0 → GW p l e R s m args below meth c Q D A nL ws cells slots tgt lv st) (kf : ¬ x = 0 → GW p l e R s m args below meth c Q D A nL ws cells slots (pc + 3) lv st) : GW p l e R s m args below meth c Q D A nL ws cells slots pc lv (.int x :: st) :=
  fun H locs ls hP hD hS h0 => lv_if_eq E.1 E.2.1 hdg ht (fun h => kt h H locs ls hP hD hS h0) (fun h => kf h H locs ls hP hD hS h0)
theorem g_if_eq (E : GE p s m args meth c D tys cc nL own Ts ret) {a : Int} {off : Int} {tgt : Nat} (hdg : decode cc pc = .ok (.ifCond .eq off, 3)) (ht : (pc : Int) + off = (tgt : Int)) (ha : -2147483648 ≤ a ∧ a < 2147483648) (kt : a = 0 → GW p l e R s m args below meth c Q D A nL ws cells slots tgt lv st) (kf : ¬ a = 0 → GW p l e R s m args below meth c Q D A nL ws cells slots (pc + 3) lv st) : GW p l e R s m args below meth c Q D A nL ws cells slots pc lv (.int (zI a) :: st) := by
  have hb : -2147483648 ≤ (0 : Int) ∧ (0 : Int) < 2147483648 := by omega
  have hz : zI 0 = 0 := zI_0
  exact g_if_eqR E hdg ht (by rw [← hz]; exact fun h => kt ((zI_eq ha hb).mp h)) (by rw [← hz]; exact fun h => kf (fun q => h ((zI_eq ha hb).mpr q)))
theorem g_icmp_geR (E : GE p s m args meth c D tys cc nL own Ts ret) {x y : Int32} {off : Int} {tgt : Nat} (hdg : decode cc pc = .ok (.if_icmp .ge off, 3)) (ht : (pc : Int) + off = (tgt : Int)) (kt : y ≤ x → GW p l e R s m args below meth c Q D A nL ws cells slots tgt lv st) (kf : ¬ y ≤ x → GW p l e R s m args below meth c Q D A nL ws cells slots (pc + 3) lv st) : GW p l e R s m args below meth c Q D A nL ws cells slots pc lv (.int y :: .int x :: st) :=
  fun H locs ls hP hD hS h0 => lv_icmp_ge E.1 E.2.1 hdg ht (fun h => kt h H locs ls hP hD hS h0) (fun h => kf h H locs ls hP hD hS h0)
theorem g_icmp_ge (E : GE p s m args meth c D tys cc nL own Ts ret) {a b : Int} {off : Int} {tgt : Nat} (hdg : decode cc pc = .ok (.if_icmp .ge off, 3)) (ht : (pc : Int) + off = (tgt : Int)) (ha : -2147483648 ≤ a ∧ a < 2147483648) (hb : -2147483648 ≤ b ∧ b < 2147483648) (kt : b ≤ a → GW p l e R s m args below meth c Q D A nL ws cells slots tgt lv st) (kf : ¬ b ≤ a → GW p l e R s m args below meth c Q D A nL ws cells slots (pc + 3) lv st) : GW p l e R s m args below meth c Q D A nL ws cells slots pc lv (.int (zI b) :: .int (zI a) :: st) :=
  g_icmp_geR E hdg ht (fun h => kt ((zI_le hb ha).mp h)) (fun h => kf (fun q => h ((zI_le hb ha).mpr q)))
theorem g_if_geR (E : GE p s m args meth c D tys cc nL own Ts ret) {x : Int32} {off : Int} {tgt : Nat} (hdg : decode cc pc = .ok (.ifCond .ge off, 3)) (ht : (pc : Int) + off = (tgt : Int)) (kt : 0 ≤ x → GW p l e R s m args below meth c Q D A nL ws cells slots tgt lv st) (kf : ¬ 0 ≤ x → GW p l e R s m args below meth c Q D A nL ws cells slots (pc + 3) lv st) : GW p l e R s m args below meth c Q D A nL ws cells slots pc lv (.int x :: st) :=
  fun H locs ls hP hD hS h0 => lv_if_ge E.1 E.2.1 hdg ht (fun h => kt h H locs ls hP hD hS h0) (fun h => kf h H locs ls hP hD hS h0)
theorem g_if_ge (E : GE p s m args meth c D tys cc nL own Ts ret) {a : Int} {off : Int} {tgt : Nat} (hdg : decode cc pc = .ok (.ifCond .ge off, 3)) (ht : (pc : Int) + off = (tgt : Int)) (ha : -2147483648 ≤ a ∧ a < 2147483648) (kt : 0 ≤ a → GW p l e R s m args below meth c Q D A nL ws cells slots tgt lv st) (kf : ¬ 0 ≤ a → GW p l e R s m args below meth c Q D A nL ws cells slots (pc + 3) lv st) : GW p l e R s m args below meth c Q D A nL ws cells slots pc lv (.int (zI a) :: st) := by
  have hb : -2147483648 ≤ (0 : Int) ∧ (0 : Int) < 2147483648 := by omega
  have hz : zI 0 = 0 := zI_0
  exact g_if_geR E hdg ht (by rw [← hz]; exact fun h => kt ((zI_le hb ha).mp h)) (by rw [← hz]; exact fun h => kf (fun q => h ((zI_le hb ha).mpr q)))
theorem g_icmp_gtR (E : GE p s m args meth c D tys cc nL own Ts ret) {x y : Int32} {off : Int} {tgt : Nat} (hdg : decode cc pc = .ok (.if_icmp .gt off, 3)) (ht : (pc : Int) + off = (tgt : Int)) (kt : y < x → GW p l e R s m args below meth c Q D A nL ws cells slots tgt lv st) (kf : ¬ y < x → GW p l e R s m args below meth c Q D A nL ws cells slots (pc + 3) lv st) : GW p l e R s m args below meth c Q D A nL ws cells slots pc lv (.int y :: .int x :: st) :=
  fun H locs ls hP hD hS h0 => lv_icmp_gt E.1 E.2.1 hdg ht (fun h => kt h H locs ls hP hD hS h0) (fun h => kf h H locs ls hP hD hS h0)
theorem g_icmp_gt (E : GE p s m args meth c D tys cc nL own Ts ret) {a b : Int} {off : Int} {tgt : Nat} (hdg : decode cc pc = .ok (.if_icmp .gt off, 3)) (ht : (pc : Int) + off = (tgt : Int)) (ha : -2147483648 ≤ a ∧ a < 2147483648) (hb : -2147483648 ≤ b ∧ b < 2147483648) (kt : b < a → GW p l e R s m args below meth c Q D A nL ws cells slots tgt lv st) (kf : ¬ b < a → GW p l e R s m args below meth c Q D A nL ws cells slots (pc + 3) lv st) : GW p l e R s m args below meth c Q D A nL ws cells slots pc lv (.int (zI b) :: .int (zI a) :: st) :=
  g_icmp_gtR E hdg ht (fun h => kt ((zI_lt hb ha).mp h)) (fun h => kf (fun q => h ((zI_lt hb ha).mpr q)))
theorem g_if_gtR (E : GE p s m args meth c D tys cc nL own Ts ret) {x : Int32} {off : Int} {tgt : Nat} (hdg : decode cc pc = .ok (.ifCond .gt off, 3)) (ht : (pc : Int) + off = (tgt : Int)) (kt : 0 < x → GW p l e R s m args below meth c Q D A nL ws cells slots tgt lv st) (kf : ¬ 0 < x → GW p l e R s m args below meth c Q D A nL ws cells slots (pc + 3) lv st) : GW p l e R s m args below meth c Q D A nL ws cells slots pc lv (.int x :: st) :=
  fun H locs ls hP hD hS h0 => lv_if_gt E.1 E.2.1 hdg ht (fun h => kt h H locs ls hP hD hS h0) (fun h => kf h H locs ls hP hD hS h0)
theorem g_if_gt (E : GE p s m args meth c D tys cc nL own Ts ret) {a : Int} {off : Int} {tgt : Nat} (hdg : decode cc pc = .ok (.ifCond .gt off, 3)) (ht : (pc : Int) + off = (tgt : Int)) (ha : -2147483648 ≤ a ∧ a < 2147483648) (kt : 0 < a → GW p l e R s m args below meth c Q D A nL ws cells slots tgt lv st) (kf : ¬ 0 < a → GW p l e R s m args below meth c Q D A nL ws cells slots (pc + 3) lv st) : GW p l e R s m args below meth c Q D A nL ws cells slots pc lv (.int (zI a) :: st) := by
  have hb : -2147483648 ≤ (0 : Int) ∧ (0 : Int) < 2147483648 := by omega
  have hz : zI 0 = 0 := zI_0
  exact g_if_gtR E hdg ht (by rw [← hz]; exact fun h => kt ((zI_lt hb ha).mp h)) (by rw [← hz]; exact fun h => kf (fun q => h ((zI_lt hb ha).mpr q)))
theorem g_icmp_neR (E : GE p s m args meth c D tys cc nL own Ts ret) {x y : Int32} {off : Int} {tgt : Nat} (hdg : decode cc pc = .ok (.if_icmp .ne off, 3)) (ht : (pc : Int) + off = (tgt : Int)) (kt : ¬ x = y → GW p l e R s m args below meth c Q D A nL ws cells slots tgt lv st) (kf : x = y → GW p l e R s m args below meth c Q D A nL ws cells slots (pc + 3) lv st) : GW p l e R s m args below meth c Q D A nL ws cells slots pc lv (.int y :: .int x :: st) :=
  fun H locs ls hP hD hS h0 => lv_icmp_ne E.1 E.2.1 hdg ht (fun h => kt h H locs ls hP hD hS h0) (fun h => kf h H locs ls hP hD hS h0)
theorem g_icmp_ne (E : GE p s m args meth c D tys cc nL own Ts ret) {a b : Int} {off : Int} {tgt : Nat} (hdg : decode cc pc = .ok (.if_icmp .ne off, 3)) (ht : (pc : Int) + off = (tgt : Int)) (ha : -2147483648 ≤ a ∧ a < 2147483648) (hb : -2147483648 ≤ b ∧ b < 2147483648) (kt : ¬ a = b → GW p l e R s m args below meth c Q D A nL ws cells slots tgt lv st) (kf : a = b → GW p l e R s m args below meth c Q D A nL ws cells slots (pc + 3) lv st) : GW p l e R s m args below meth c Q D A nL ws cells slots pc lv (.int (zI b) :: .int (zI a) :: st) :=
  g_icmp_neR E hdg ht (fun h => kt (fun q => h ((zI_eq ha hb).mpr q))) (fun h => kf ((zI_eq ha hb).mp h))
theorem g_if_neR (E : GE p s m args meth c D tys cc nL own Ts ret) {x : Int32} {off : Int} {tgt : Nat} (hdg : decode cc pc = .ok (.ifCond .ne off, 3)) (ht : (pc : Int) + off = (tgt : Int)) (kt : ¬ x = 0 → GW p l e R s m args below meth c Q D A nL ws cells slots tgt lv st) (kf : x = 0 → GW p l e R s m args below meth c Q D A nL ws cells slots (pc + 3) lv st) : GW p l e R s m args below meth c Q D A nL ws cells slots pc lv (.int x :: st) :=
  fun H locs ls hP hD hS h0 => lv_if_ne E.1 E.2.1 hdg ht (fun h => kt h H locs ls hP hD hS h0) (fun h => kf h H locs ls hP hD hS h0)
theorem g_if_ne (E : GE p s m args meth c D tys cc nL own Ts ret) {a : Int} {off : Int} {tgt : Nat} (hdg : decode cc pc = .ok (.ifCond .ne off, 3)) (ht : (pc : Int) + off = (tgt : Int)) (ha : -2147483648 ≤ a ∧ a < 2147483648) (kt : ¬ a = 0 → GW p l e R s m args below meth c Q D A nL ws cells slots tgt lv st) (kf : a = 0 → GW p l e R s m args below meth c Q D A nL ws cells slots (pc + 3) lv st) : GW p l e R s m args below meth c Q D A nL ws cells slots pc lv (.int (zI a) :: st) := by
  have hb : -2147483648 ≤ (0 : Int) ∧ (0 : Int) < 2147483648 := by omega
  have hz : zI 0 = 0 := zI_0
  exact g_if_neR E hdg ht (by rw [← hz]; exact fun h => kt (fun q => h ((zI_eq ha hb).mpr q))) (by rw [← hz]; exact fun h => kf ((zI_eq ha hb).mp h))
theorem g_tab (E : GE p s m args meth c D tys cc nL own Ts ret) {dflt lo hi : Int} {offs : Array Int} {len : Nat} {a : Int} {off : Int} {tgt : Nat} (hdg : decode cc pc = .ok (.tableswitch dflt lo hi offs, len)) (ha : -2147483648 ≤ a ∧ a < 2147483648) (h1 : ¬ a < lo) (h2 : ¬ hi < a) (ho : offs[(a - lo).toNat]? = some off) (ht : (pc : Int) + off = (tgt : Int)) (kk : GW p l e R s m args below meth c Q D A nL ws cells slots tgt lv st) : GW p l e R s m args below meth c Q D A nL ws cells slots pc lv (.int (zI a) :: st) :=
  fun H locs ls hP hD hS h0 => lv_tableIn E.1 E.2.1 hdg (by rw [zI_toInt ha]; exact h1) (by rw [zI_toInt ha]; exact h2) (by rw [zI_toInt ha]; exact ho) ht (kk H locs ls hP hD hS h0)
theorem g_tabOut (E : GE p s m args meth c D tys cc nL own Ts ret) {dflt lo hi : Int} {offs : Array Int} {len : Nat} {a : Int} {tgt : Nat} (hdg : decode cc pc = .ok (.tableswitch dflt lo hi offs, len)) (ha : -2147483648 ≤ a ∧ a < 2147483648) (h1 : a < lo ∨ hi < a) (ht : (pc : Int) + dflt = (tgt : Int)) (kk : GW p l e R s m args below meth c Q D A nL ws cells slots tgt lv st) : GW p l e R s m args below meth c Q D A nL ws cells slots pc lv (.int (zI a) :: st) :=
  fun H locs ls hP hD hS h0 => lv_tableOut E.1 E.2.1 hdg (by rw [zI_toInt ha]; exact h1) ht (kk H locs ls hP hD hS h0)
-- memory
theorem g_getf (E : GE p s m args meth c D tys cc nL own Ts ret) {C : String} {T : u_T} {N ci index a : Nat} {fs : List Value} {v : Value} (hin : ∀ w ∈ u_ws C T N, w ∈ Ts) (hc : vwCl[ci]? = some (C, T, N)) (he : ∃ q0 : Nat, ws[q0]? = some (a, .inr (ci, fs))) (k : Nat) (hk : k < N) (hlink : Cond.fieldLink own index C (T k).2.1 (T k).2.2.1 ∈ Ts) (hcn : (T k).1 = C) (hv : fs[k]? = some v) (hdg : decode cc pc = .ok (.getfield index, 3))
    (kk : GW p l e R s m args below meth c Q D A nL ws cells slots (pc + 3) lv (v :: st)) : GW p l e R s m args below meth c Q D A nL ws cells slots pc lv (.ref a :: st) := by
  intro H locs ls hP hD hS h0
  obtain ⟨q0, hq⟩ := he
  exact va_get E.1 E.2.1 E.2.2.2.2.1 hin E.2.2.2.1 E.2.2.2.2.2.1.1 hP q0 hq hc k hk (E.2.2.2.2.1 _ hlink) (fun x hx => by rw [hcn] at hx; exact hx) hv hdg (kk H locs ls hP hD hS h0)
theorem g_putf (E : GE p s m args meth c D tys cc nL own Ts ret) {C : String} {T : u_T} {N ci index a : Nat} {fs : List Value} {v : Value} {ty0 : Nat → FieldType} {ty : FieldType} {ws' : va_W} (hin : ∀ w ∈ u_ws C T N, w ∈ Ts) (hty : ∀ k, k < N → parseFieldDescriptor (T k).2.2.1 = some (ty0 k)) (hnm : ∀ a, a < N → ∀ b, b < N → a ≠ b → (T a).2.1 ≠ (T b).2.1) (hc : vwCl[ci]? = some (C, T, N)) (k : Nat) (hk : k < N) (hlink : Cond.fieldLink own index C (T k).2.1 (T k).2.2.1 ∈ Ts) (hcn : (T k).1 = C) (hfin : (T k).2.2.2 = false) (hd : parseFieldDescriptor (T k).2.2.1 = some ty) (hn : narrow ty v = v) (hfit : fits ty v = true) (hl : k < fs.length)
    (he : ∃ q0 : Nat, ws[q0]? = some (a, .inr (ci, fs)) ∧ ws.set q0 (a, .inr (ci, fs.set k v)) = ws') (hdg : decode cc pc = .ok (.putfield index, 3))
    (kk : GW p l e R s m args below meth c Q D A nL ws' cells slots (pc + 3) lv st) : GW p l e R s m args below meth c Q D A nL ws cells slots pc lv (v :: .ref a :: st) := by
  intro H locs ls hP hD hS h0
  obtain ⟨q0, hq, e⟩ := he
  subst e
  exact va_put E.1 E.2.1 E.2.2.2.2.1 hin ty0 hty hnm E.2.2.2.1 E.2.2.2.2.2.1.1 hP hD hS q0 hq hc k hk (E.2.2.2.2.1 _ hlink) (fun x hx => by rw [hcn] at hx; exact hx) hfin hd hn hfit hl hdg (fun H1 locs1 hP hD hS => kk H1 locs1 ls hP hD hS h0)
theorem g_iald (E : GE p s m args meth c D tys cc nL own Ts ret) {cA : ClassId} {n a : Nat} {f : Nat → Int32} {z : Int} {v : Int32} (t0 : Nat) (ht : tys[t0]? = some (cA, .int)) (he : ∃ q0 : Nat, ws[q0]? = some (a, .inl (cA, n, .inl f))) (hz : 0 ≤ z ∧ z < n) (hn : n ≤ 2147483648) (hv : f z.toNat = v) (hdg : decode cc pc = .ok (.iaload, 1))
    (kk : GW p l e R s m args below meth c Q D A nL ws cells slots (pc + 1) lv (.int v :: st)) : GW p l e R s m args below meth c Q D A nL ws cells slots pc lv (.int (zI z) :: .ref a :: st) := by
  intro H locs ls hP hD hS h0
  obtain ⟨q0, hq⟩ := he
  subst hv
  exact va_iald E.1 E.2.1 E.2.2.2.2.2.1.1 hP q0 t0 hq ht (zI_in hz hn) hdg (by rw [zI_cl (by omega)]; exact kk H locs ls hP hD hS h0)
theorem g_iast (E : GE p s m args meth c D tys cc nL own Ts ret) {cA : ClassId} {n a : Nat} {f : Nat → Int32} {z : Int} {x : Int32} {ws' : va_W} (t0 : Nat) (ht : tys[t0]? = some (cA, .int)) (hz : 0 ≤ z ∧ z < n) (hn : n ≤ 2147483648) (he : ∃ q0 : Nat, ws[q0]? = some (a, .inl (cA, n, .inl f)) ∧ ws.set q0 (a, .inl (cA, n, .inl (upd f z.toNat x))) = ws') (hdg : decode cc pc = .ok (.iastore, 1))
    (kk : GW p l e R s m args below meth c Q D A nL ws' cells slots (pc + 1) lv st) : GW p l e R s m args below meth c Q D A nL ws cells slots pc lv (.int x :: .int (zI z) :: .ref a :: st) := by
  intro H locs ls hP hD hS h0
  obtain ⟨q0, hq, e⟩ := he
  subst e
  exact va_iast E.1 E.2.1 E.2.2.2.2.2.1.1 hP hD hS q0 t0 hq ht (zI_in hz hn) hdg (fun H1 locs1 hP hD hS => by rw [zI_cl (by omega)] at hP hD; exact kk H1 locs1 ls hP hD hS h0)
theorem g_alen (E : GE p s m args meth c D tys cc nL own Ts ret) {cA : ClassId} {a : Nat} {x : vp_A} {ty : FieldType} (t0 : Nat) (ht : tys[t0]? = some (cA, ty)) (he : ∃ q0 : Nat, ws[q0]? = some (a, .inl (cA, x))) (hdg : decode cc pc = .ok (.arraylength, 1))
    (kk : GW p l e R s m args below meth c Q D A nL ws cells slots (pc + 1) lv (.int (zI (x.1 : Nat)) :: st)) : GW p l e R s m args below meth c Q D A nL ws cells slots pc lv (.ref a :: st) := by
  intro H locs ls hP hD hS h0
  obtain ⟨q0, hq⟩ := he
  exact va_alen E.1 E.2.1 E.2.2.2.2.2.1.1 hP q0 t0 hq ht (v := zI (x.1 : Nat)) (zI_nI x.1) hdg (kk H locs ls hP hD hS h0)
theorem g_aald (E : GE p s m args meth c D tys cc nL own Ts ret) {cA : ClassId} {C : String} {n a b : Nat} {f : Nat → Option Nat} {z : Int} (t0 : Nat) (ht : tys[t0]? = some (cA, .object C)) (he : ∃ q0 : Nat, ws[q0]? = some (a, .inl (cA, n, .inr (.inr (.inr (.inr f)))))) (hz : 0 ≤ z ∧ z < n) (hn : n ≤ 2147483648) (hv : f z.toNat = some b) (hdg : decode cc pc = .ok (.aaload, 1))
    (kk : GW p l e R s m args below meth c Q D A nL ws cells slots (pc + 1) lv (.ref b :: st)) : GW p l e R s m args below meth c Q D A nL ws cells slots pc lv (.int (zI z) :: .ref a :: st) := by
  intro H locs ls hP hD hS h0
  obtain ⟨q0, hq⟩ := he
  exact va_aldq E.1 E.2.1 E.2.2.2.2.2.1.1 hP q0 t0 hq ht (zI_in hz hn) hdg (by rw [zI_cl (by omega), hv]; exact kk H locs ls hP hD hS h0)
theorem g_mmin (E : GE p s m args meth c D tys cc nL own Ts ret) {index : Nat} {x y : Int32} (hlink : Cond.methodLink own index Lib.Math.min.name ∈ Ts) (hstat : Cond.static Lib.Math.min.name ∈ Ts) (hini : Cond.initialized "java/lang/Math" ∈ Ts) (hcode : Cond.code Lib.Math.min.name Lib.Math.min.code 2 (some .int) ∈ Ts) (hframes : 1 ≤ R.frames) (hlocals : (st.map fun v => v.category).sum + 13 ≤ R.locals) (hc : cells ≤ R.cells) (hs : slots ≤ R.slots) (hdg : decode cc pc = .ok (.invokestatic index, 3))
    (kk : GW p l e R s m args below meth c Q D A nL ws cells slots (pc + 3) lv (.int (if y < x then y else x) :: st)) : GW p l e R s m args below meth c Q D A nL ws cells slots pc lv (.int y :: .int x :: st) :=
  fun H locs ls hP hD hS h0 => va_mmin E.1 E.2.1 (E.2.2.1.trans h0.1.symm) E.2.2.2.1 (E.2.2.2.2.1 _ hlink) (E.2.2.2.2.1 _ hstat) (E.2.2.2.2.1 _ hini) (E.2.2.2.2.1 _ hcode) hframes hlocals hc hs hdg (kk H locs ls hP hD hS h0)
theorem g_mmax (E : GE p s m args meth c D tys cc nL own Ts ret) {index : Nat} {x y : Int32} (hlink : Cond.methodLink own index Lib.Math.max.name ∈ Ts) (hstat : Cond.static Lib.Math.max.name ∈ Ts) (hini : Cond.initialized "java/lang/Math" ∈ Ts) (hcode : Cond.code Lib.Math.max.name Lib.Math.max.code 2 (some .int) ∈ Ts) (hframes : 1 ≤ R.frames) (hlocals : (st.map fun v => v.category).sum + 13 ≤ R.locals) (hc : cells ≤ R.cells) (hs : slots ≤ R.slots) (hdg : decode cc pc = .ok (.invokestatic index, 3))
    (kk : GW p l e R s m args below meth c Q D A nL ws cells slots (pc + 3) lv (.int (if x < y then y else x) :: st)) : GW p l e R s m args below meth c Q D A nL ws cells slots pc lv (.int y :: .int x :: st) :=
  fun H locs ls hP hD hS h0 => va_mmax E.1 E.2.1 (E.2.2.1.trans h0.1.symm) E.2.2.2.1 (E.2.2.2.2.1 _ hlink) (E.2.2.2.2.1 _ hstat) (E.2.2.2.2.1 _ hini) (E.2.2.2.2.1 _ hcode) hframes hlocals hc hs hdg (kk H locs ls hP hD hS h0)
-- ends
theorem g_iret {post : Int32 → va_W → Prop} {r : Int32} (E : GE p s m args meth c D tys cc nL own Ts (some .int)) (hq : post r ws) (hdg : decode cc pc = .ok (.ireturn, 1)) : GW p l e R s m args below meth c (MQ below (va_Qi post (gB D A) A) args s cells slots A) D A nL ws cells slots pc lv [.int r] :=
  fun H locs ls hP hD hS h0 => W.iret E.1 E.2.1 E.2.2.2.2.2.2.1 (fun t ht hW => ⟨⟨r, ws, rfl, hq, by rw [ht]; exact hP, hD⟩, hS.F ht⟩) hS.2.2 hdg E.2.2.2.2.2.2.2
theorem g_zret {post : Int32 → va_W → Prop} {r : Int32} (E : GE p s m args meth c D tys cc nL own Ts (some .boolean)) (hn : narrow .boolean (.int r) = .int r) (hq : post r ws) (hdg : decode cc pc = .ok (.ireturn, 1)) : GW p l e R s m args below meth c (MQ below (va_Qi post (gB D A) A) args s cells slots A) D A nL ws cells slots pc lv [.int r] :=
  fun H locs ls hP hD hS h0 => W.zret E.1 E.2.1 E.2.2.2.2.2.2.1 hn (fun t ht hW => ⟨⟨r, ws, rfl, hq, by rw [ht]; exact hP, hD⟩, hS.F ht⟩) hS.2.2 hdg E.2.2.2.2.2.2.2
theorem g_lret {post : Int64 → va_W → Prop} {r : Int64} (E : GE p s m args meth c D tys cc nL own Ts (some .long)) (hq : post r ws) (hdg : decode cc pc = .ok (.lreturn, 1)) : GW p l e R s m args below meth c (MQ below (va_Ql post (gB D A) A) args s cells slots A) D A nL ws cells slots pc lv [.long r] :=
  fun H locs ls hP hD hS h0 => W.lret E.1 E.2.1 E.2.2.2.2.2.2.1 (fun t ht hW => ⟨⟨r, ws, rfl, hq, by rw [ht]; exact hP, hD⟩, hS.F ht⟩) hS.2.2 hdg E.2.2.2.2.2.2.2
theorem g_vret {post : va_W → Prop} (E : GE p s m args meth c D tys cc nL own Ts none) (hq : post ws) (hdg : decode cc pc = .ok (.return_, 1)) : GW p l e R s m args below meth c (MQ below (va_Qv post (gB D A) A) args s cells slots A) D A nL ws cells slots pc lv [] :=
  fun H locs ls hP hD hS h0 => W.vret E.1 E.2.1 E.2.2.2.2.2.2.1 (fun t ht hW => ⟨⟨ws, rfl, hq, by rw [ht]; exact hP, hD⟩, hS.F ht⟩) hS.2.2 hdg E.2.2.2.2.2.2.2
-- calls of methods that don't throw and make nothing
theorem g_callVi (E : GE p s m args meth c D tys cc nL own Ts ret) {y : MethodName} {bytes : ByteArray} {maxL : Nat} {rt : Option FieldType} {wsc wsc' : List Cond} {rm : Room} {n index : Nat} {C : String} {T : u_T} {N ci b : Nat} {As rest : List Value} {post : Int32 → va_W → Prop} (hM : Met l y wsc rm (PcG D tys A ws (.ref b :: As)) (va_Qi post (gB D A) A) 0 0 A)
    (hG : GoodIn Ts (wsV own index C y wsc)) (hw : wsc = Cond.code y bytes maxL rt :: wsc') (hrm : rm.cells = 0 ∧ rm.slots = 0) (hd : y.cls = C ∧ y.cls ≠ "java/lang/invoke/MethodHandle" ∧ y.cls ≠ "java/lang/invoke/VarHandle" ∧ (parseMethodDescriptor y.desc).map (fun d => d.parameters.length) = some n) (hR : rm.frames + 1 ≤ R.frames ∧ 8 + (maxL + 11) + rm.locals ≤ R.locals)
    (he : ∃ (q0 : Nat) (fs : List Value), ws[q0]? = some (b, .inr (ci, fs))) (hc : vwCl[ci]? = some (C, T, N)) (hn : As.length = n) (hst : st = As.reverse ++ .ref b :: rest) (hst8 : (rest.map fun v => v.category).sum ≤ 8) (hf : cells + 0 ≤ R.cells ∧ slots + 0 ≤ R.slots) (hdg : decode cc pc = .ok (.invokevirtual index, 3))
    (kk : ∀ (r : Int32) (ws' : va_W), post r ws' → GW p l e R s m args below meth c Q D A nL ws' cells slots (pc + 3) lv (.int r :: rest)) : GW p l e R s m args below meth c Q D A nL ws cells slots pc lv st := by
  intro H locs ls hP hD hS h0
  subst hst
  obtain ⟨q0, fs, hq⟩ := he
  exact va_calli (va_runV (As := As) (rest := rest) ⟨E.1, E.2.1, E.2.2.1, E.2.2.2.1, E.2.2.2.2.1⟩ hM (cwV n E.2.2.2.2.1 hG hw hrm.1 hrm.2 hd hR) ⟨PcG.blind, va_recv (q0 := q0) E.2.2.2.2.2.1.1 hP hc hq, fun U hU hW => PcG.at hU hW hP E.2.2.2.2.2.1 hD⟩ rfl hn (h0.1) rfl (lv_room hst8) hdg hf) hS (fun q _ h => h) (fun q h => h) (fun r ws' t H1 locs1 ht _ hp hB _ _ hS' => kk r ws' hp H1 locs1 ls (by rw [← ht]; exact hB.1) hB.2 hS' h0)
theorem g_callVl (E : GE p s m args meth c D tys cc nL own Ts ret) {y : MethodName} {bytes : ByteArray} {maxL : Nat} {rt : Option FieldType} {wsc wsc' : List Cond} {rm : Room} {n index : Nat} {C : String} {T : u_T} {N ci b : Nat} {As rest : List Value} {post : Int64 → va_W → Prop} (hM : Met l y wsc rm (PcG D tys A ws (.ref b :: As)) (va_Ql post (gB D A) A) 0 0 A)
    (hG : GoodIn Ts (wsV own index C y wsc)) (hw : wsc = Cond.code y bytes maxL rt :: wsc') (hrm : rm.cells = 0 ∧ rm.slots = 0) (hd : y.cls = C ∧ y.cls ≠ "java/lang/invoke/MethodHandle" ∧ y.cls ≠ "java/lang/invoke/VarHandle" ∧ (parseMethodDescriptor y.desc).map (fun d => d.parameters.length) = some n) (hR : rm.frames + 1 ≤ R.frames ∧ 8 + (maxL + 11) + rm.locals ≤ R.locals)
    (he : ∃ (q0 : Nat) (fs : List Value), ws[q0]? = some (b, .inr (ci, fs))) (hc : vwCl[ci]? = some (C, T, N)) (hn : As.length = n) (hst : st = As.reverse ++ .ref b :: rest) (hst8 : (rest.map fun v => v.category).sum ≤ 8) (hf : cells + 0 ≤ R.cells ∧ slots + 0 ≤ R.slots) (hdg : decode cc pc = .ok (.invokevirtual index, 3))
    (kk : ∀ (r : Int64) (ws' : va_W), post r ws' → GW p l e R s m args below meth c Q D A nL ws' cells slots (pc + 3) lv (.long r :: rest)) : GW p l e R s m args below meth c Q D A nL ws cells slots pc lv st := by
  intro H locs ls hP hD hS h0
  subst hst
  obtain ⟨q0, fs, hq⟩ := he
  exact va_calll (va_runV (As := As) (rest := rest) ⟨E.1, E.2.1, E.2.2.1, E.2.2.2.1, E.2.2.2.2.1⟩ hM (cwV n E.2.2.2.2.1 hG hw hrm.1 hrm.2 hd hR) ⟨PcG.blind, va_recv (q0 := q0) E.2.2.2.2.2.1.1 hP hc hq, fun U hU hW => PcG.at hU hW hP E.2.2.2.2.2.1 hD⟩ rfl hn (h0.1) rfl (lv_room hst8) hdg hf) hS (fun q _ h => h) (fun q h => h) (fun r ws' t H1 locs1 ht _ hp hB _ _ hS' => kk r ws' hp H1 locs1 ls (by rw [← ht]; exact hB.1) hB.2 hS' h0)
theorem g_callVv (E : GE p s m args meth c D tys cc nL own Ts ret) {y : MethodName} {bytes : ByteArray} {maxL : Nat} {rt : Option FieldType} {wsc wsc' : List Cond} {rm : Room} {n index : Nat} {C : String} {T : u_T} {N ci b : Nat} {As rest : List Value} {post : va_W → Prop} (hM : Met l y wsc rm (PcG D tys A ws (.ref b :: As)) (va_Qv post (gB D A) A) 0 0 A)
    (hG : GoodIn Ts (wsV own index C y wsc)) (hw : wsc = Cond.code y bytes maxL rt :: wsc') (hrm : rm.cells = 0 ∧ rm.slots = 0) (hd : y.cls = C ∧ y.cls ≠ "java/lang/invoke/MethodHandle" ∧ y.cls ≠ "java/lang/invoke/VarHandle" ∧ (parseMethodDescriptor y.desc).map (fun d => d.parameters.length) = some n) (hR : rm.frames + 1 ≤ R.frames ∧ 8 + (maxL + 11) + rm.locals ≤ R.locals)
    (he : ∃ (q0 : Nat) (fs : List Value), ws[q0]? = some (b, .inr (ci, fs))) (hc : vwCl[ci]? = some (C, T, N)) (hn : As.length = n) (hst : st = As.reverse ++ .ref b :: rest) (hst8 : (rest.map fun v => v.category).sum ≤ 8) (hf : cells + 0 ≤ R.cells ∧ slots + 0 ≤ R.slots) (hdg : decode cc pc = .ok (.invokevirtual index, 3))
    (kk : ∀ (ws' : va_W), post ws' → GW p l e R s m args below meth c Q D A nL ws' cells slots (pc + 3) lv (rest)) : GW p l e R s m args below meth c Q D A nL ws cells slots pc lv st := by
  intro H locs ls hP hD hS h0
  subst hst
  obtain ⟨q0, fs, hq⟩ := he
  exact va_callv (va_runV (As := As) (rest := rest) ⟨E.1, E.2.1, E.2.2.1, E.2.2.2.1, E.2.2.2.2.1⟩ hM (cwV n E.2.2.2.2.1 hG hw hrm.1 hrm.2 hd hR) ⟨PcG.blind, va_recv (q0 := q0) E.2.2.2.2.2.1.1 hP hc hq, fun U hU hW => PcG.at hU hW hP E.2.2.2.2.2.1 hD⟩ rfl hn (h0.1) rfl (lv_room hst8) hdg hf) hS (fun q _ h => h) (fun q h => h) (fun ws' t H1 locs1 ht _ hp hB _ _ hS' => kk ws' hp H1 locs1 ls (by rw [← ht]; exact hB.1) hB.2 hS' h0)
theorem g_callSi (E : GE p s m args meth c D tys cc nL own Ts ret) {y : MethodName} {bytes : ByteArray} {maxL : Nat} {rt : Option FieldType} {wsc wsc' : List Cond} {rm : Room} {n index : Nat} {As rest : List Value} {post : Int32 → va_W → Prop} (hM : Met l y wsc rm (PcG D tys A ws As) (va_Qi post (gB D A) A) 0 0 A)
    (hG : GoodIn Ts (wsS own index y wsc)) (hw : wsc = Cond.code y bytes maxL rt :: wsc') (hrm : rm.cells = 0 ∧ rm.slots = 0) (hd : y.cls = own ∧ y.cls ≠ "java/lang/invoke/MethodHandle" ∧ y.cls ≠ "java/lang/invoke/VarHandle" ∧ (parseMethodDescriptor y.desc).map (fun d => d.parameters.length) = some n) (hR : rm.frames + 1 ≤ R.frames ∧ 8 + (maxL + 11) + rm.locals ≤ R.locals)
    (hn : As.length = n) (hst : st = As.reverse ++ rest) (hst8 : (rest.map fun v => v.category).sum ≤ 8) (hf : cells + 0 ≤ R.cells ∧ slots + 0 ≤ R.slots) (hdg : decode cc pc = .ok (.invokestatic index, 3))
    (kk : ∀ (r : Int32) (ws' : va_W), post r ws' → GW p l e R s m args below meth c Q D A nL ws' cells slots (pc + 3) lv (.int r :: rest)) : GW p l e R s m args below meth c Q D A nL ws cells slots pc lv st := by
  intro H locs ls hP hD hS h0
  subst hst
  exact va_calli (va_runS (As := As) (rest := rest) ⟨E.1, E.2.1, E.2.2.1, E.2.2.2.1, E.2.2.2.2.1⟩ hM (cwS n E.2.2.2.2.1 hG hw hrm.1 hrm.2 hd hR) ⟨PcG.blind, fun U hU hW => PcG.at hU hW hP E.2.2.2.2.2.1 hD⟩ rfl hn (h0.1) rfl (lv_room hst8) hdg hf) hS (fun q _ h => h) (fun q h => h) (fun r ws' t H1 locs1 ht _ hp hB _ _ hS' => kk r ws' hp H1 locs1 ls (by rw [← ht]; exact hB.1) hB.2 hS' h0)
theorem g_callSv (E : GE p s m args meth c D tys cc nL own Ts ret) {y : MethodName} {bytes : ByteArray} {maxL : Nat} {rt : Option FieldType} {wsc wsc' : List Cond} {rm : Room} {n index : Nat} {As rest : List Value} {post : va_W → Prop} (hM : Met l y wsc rm (PcG D tys A ws As) (va_Qv post (gB D A) A) 0 0 A)
    (hG : GoodIn Ts (wsS own index y wsc)) (hw : wsc = Cond.code y bytes maxL rt :: wsc') (hrm : rm.cells = 0 ∧ rm.slots = 0) (hd : y.cls = own ∧ y.cls ≠ "java/lang/invoke/MethodHandle" ∧ y.cls ≠ "java/lang/invoke/VarHandle" ∧ (parseMethodDescriptor y.desc).map (fun d => d.parameters.length) = some n) (hR : rm.frames + 1 ≤ R.frames ∧ 8 + (maxL + 11) + rm.locals ≤ R.locals)
    (hn : As.length = n) (hst : st = As.reverse ++ rest) (hst8 : (rest.map fun v => v.category).sum ≤ 8) (hf : cells + 0 ≤ R.cells ∧ slots + 0 ≤ R.slots) (hdg : decode cc pc = .ok (.invokestatic index, 3))
    (kk : ∀ (ws' : va_W), post ws' → GW p l e R s m args below meth c Q D A nL ws' cells slots (pc + 3) lv (rest)) : GW p l e R s m args below meth c Q D A nL ws cells slots pc lv st := by
  intro H locs ls hP hD hS h0
  subst hst
  exact va_callv (va_runS (As := As) (rest := rest) ⟨E.1, E.2.1, E.2.2.1, E.2.2.2.1, E.2.2.2.2.1⟩ hM (cwS n E.2.2.2.2.1 hG hw hrm.1 hrm.2 hd hR) ⟨PcG.blind, fun U hU hW => PcG.at hU hW hP E.2.2.2.2.2.1 hD⟩ rfl hn (h0.1) rfl (lv_room hst8) hdg hf) hS (fun q _ h => h) (fun q h => h) (fun ws' t H1 locs1 ht _ hp hB _ _ hS' => kk ws' hp H1 locs1 ls (by rw [← ht]; exact hB.1) hB.2 hS' h0)
theorem g_callTi (E : GE p s m args meth c D tys cc nL own Ts ret) {y : MethodName} {bytes : ByteArray} {maxL : Nat} {rt : Option FieldType} {wsc wsc' : List Cond} {rm : Room} {n index : Nat} {As rest : List Value} {post : Int32 → va_W → Prop} (hM : Met l y wsc rm (PcG D tys A ws As) (va_Qi post (gB D A) A) 0 0 A)
    (hG : GoodIn Ts (va_wsS own index y wsc)) (hw : wsc = Cond.code y bytes maxL rt :: wsc') (hrm : rm.cells = 0 ∧ rm.slots = 0) (hd : y.cls ≠ "java/lang/invoke/MethodHandle" ∧ y.cls ≠ "java/lang/invoke/VarHandle" ∧ (parseMethodDescriptor y.desc).map (fun d => d.parameters.length) = some n) (hR : rm.frames + 1 ≤ R.frames ∧ 8 + (maxL + 11) + rm.locals ≤ R.locals)
    (hn : As.length = n) (hst : st = As.reverse ++ rest) (hst8 : (rest.map fun v => v.category).sum ≤ 8) (hf : cells + 0 ≤ R.cells ∧ slots + 0 ≤ R.slots) (hdg : decode cc pc = .ok (.invokestatic index, 3))
    (kk : ∀ (r : Int32) (ws' : va_W), post r ws' → GW p l e R s m args below meth c Q D A nL ws' cells slots (pc + 3) lv (.int r :: rest)) : GW p l e R s m args below meth c Q D A nL ws cells slots pc lv st := by
  intro H locs ls hP hD hS h0
  subst hst
  exact va_calli (va_runS (As := As) (rest := rest) ⟨E.1, E.2.1, E.2.2.1, E.2.2.2.1, E.2.2.2.2.1⟩ hM (va_cwS n E.2.2.2.2.1 hG hw hrm.1 hrm.2 hd hR) ⟨PcG.blind, fun U hU hW => PcG.at hU hW hP E.2.2.2.2.2.1 hD⟩ rfl hn (h0.1) rfl (lv_room hst8) hdg hf) hS (fun q _ h => h) (fun q h => h) (fun r ws' t H1 locs1 ht _ hp hB _ _ hS' => kk r ws' hp H1 locs1 ls (by rw [← ht]; exact hB.1) hB.2 hS' h0)
theorem g_callTv (E : GE p s m args meth c D tys cc nL own Ts ret) {y : MethodName} {bytes : ByteArray} {maxL : Nat} {rt : Option FieldType} {wsc wsc' : List Cond} {rm : Room} {n index : Nat} {As rest : List Value} {post : va_W → Prop} (hM : Met l y wsc rm (PcG D tys A ws As) (va_Qv post (gB D A) A) 0 0 A)
    (hG : GoodIn Ts (va_wsS own index y wsc)) (hw : wsc = Cond.code y bytes maxL rt :: wsc') (hrm : rm.cells = 0 ∧ rm.slots = 0) (hd : y.cls ≠ "java/lang/invoke/MethodHandle" ∧ y.cls ≠ "java/lang/invoke/VarHandle" ∧ (parseMethodDescriptor y.desc).map (fun d => d.parameters.length) = some n) (hR : rm.frames + 1 ≤ R.frames ∧ 8 + (maxL + 11) + rm.locals ≤ R.locals)
    (hn : As.length = n) (hst : st = As.reverse ++ rest) (hst8 : (rest.map fun v => v.category).sum ≤ 8) (hf : cells + 0 ≤ R.cells ∧ slots + 0 ≤ R.slots) (hdg : decode cc pc = .ok (.invokestatic index, 3))
    (kk : ∀ (ws' : va_W), post ws' → GW p l e R s m args below meth c Q D A nL ws' cells slots (pc + 3) lv (rest)) : GW p l e R s m args below meth c Q D A nL ws cells slots pc lv st := by
  intro H locs ls hP hD hS h0
  subst hst
  exact va_callv (va_runS (As := As) (rest := rest) ⟨E.1, E.2.1, E.2.2.1, E.2.2.2.1, E.2.2.2.2.1⟩ hM (va_cwS n E.2.2.2.2.1 hG hw hrm.1 hrm.2 hd hR) ⟨PcG.blind, fun U hU hW => PcG.at hU hW hP E.2.2.2.2.2.1 hD⟩ rfl hn (h0.1) rfl (lv_room hst8) hdg hf) hS (fun q _ h => h) (fun q h => h) (fun ws' t H1 locs1 ht _ hp hB _ _ hS' => kk ws' hp H1 locs1 ls (by rw [← ht]; exact hB.1) hB.2 hS' h0)
end GG
/-- a method's contract out of the walk of its body -/
theorem g_met {l : Launch} {D : va_G} {tys : gT} {A : Nat → Prop} {ws0 : va_W} {As : List Value} {y : MethodName} {wsc wsc' : List Cond} {rm : Room} {Qc : Array Value → State → Outcome → State → Prop} {mc ms : Nat} {cc : ByteArray} {maxL : Nat} {ret : Option FieldType} {own : String} (ho : y.cls = own) (hy : plainName y.cls = true) (hw : wsc = Cond.code y cc maxL ret :: wsc') (hlen : (lg_sl As).length ≤ maxL)
    (body : ∀ (p : Program) (e : Env) (s : State) (m : MethodId) (below : List Frame) (meth : Method) (c : Code), GE p s m As.toArray meth c D tys cc maxL own wsc ret → GW p l e (headSpec wsc rm).room s m As.toArray below meth c (MQ below Qc As.toArray s mc ms A) D A maxL ws0 0 0 0 (lv_args 0 As) []) : Met l y wsc rm (PcG D tys A ws0 As) Qc mc ms A := by
  refine Met.ofW (cc := cc) (maxL := maxL) (ret := ret) hy hw ?_
  intro p e s m args below meth c s₁ B hml hv
  obtain ⟨rfl, hP, hK, hD⟩ := hv
  subst ho
  have E : GE p s m As.toArray meth c D tys cc maxL y.cls wsc ret := ⟨B.exec, B.bytes, hml, findClass_of_methodNamed B.named, atoms_spec (ws := wsc) B.pre, hK, B.returns, B.notSynchronized⟩
  rw [lg_entry_eq]
  exact body p e s m below meth c E s.heap [] _ hP hD va_S.rf (lv_entry As hlen)
/-- .. of a constructor -/
theorem g_metI {l : Launch} {D : va_G} {tys : gT} {A : Nat → Prop} {ws0 : va_W} {As : List Value} {y : MethodName} {wsc wsc' : List Cond} {rm : Room} {Qc : Array Value → State → Outcome → State → Prop} {mc ms : Nat} {cc : ByteArray} {maxL : Nat} {ret : Option FieldType} {own : String} (ho : y.cls = own) (hy : plainName y.cls = true) (hyn : y.name = "<init>") (hw : wsc = Cond.code y cc maxL ret :: wsc') (hlen : (lg_sl As).length ≤ maxL)
    (body : ∀ (p : Program) (e : Env) (s : State) (m : MethodId) (below : List Frame) (meth : Method) (c : Code), GE p s m As.toArray meth c D tys cc maxL own wsc ret → meth.name = "<init>" → GW p l e (headSpec wsc rm).room s m As.toArray below meth c (MQ below Qc As.toArray s mc ms A) D A maxL ws0 0 0 0 (lv_args 0 As) []) : Met l y wsc rm (PcG D tys A ws0 As) Qc mc ms A := by
  refine Met.ofW (cc := cc) (maxL := maxL) (ret := ret) hy hw ?_
  intro p e s m args below meth c s₁ B hml hv
  obtain ⟨rfl, hP, hK, hD⟩ := hv
  subst ho
  have E : GE p s m As.toArray meth c D tys cc maxL y.cls wsc ret := ⟨B.exec, B.bytes, hml, findClass_of_methodNamed B.named, atoms_spec (ws := wsc) B.pre, hK, B.returns, B.notSynchronized⟩
  rw [lg_entry_eq]
  exact body p e s m below meth c E ((name_of_methodNamed B.named B.method).1.trans hyn) s.heap [] _ hP hD va_S.rf (lv_entry As hlen)
