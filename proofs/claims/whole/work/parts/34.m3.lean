/-! ===== MODEL: days, what is kept and brought back ===== -/
theorem wM_day {cA : Nat → ClassId} {ad : Nat → Nat} {a : St} {th dd v : Int32} {kp : Nat → Nat → Int32} : wM cA ad (up3 a 0 0 2 v) th dd kp = wM cA ad a th dd kp := by
  have e : mM cA ad (up3 a 0 0 2 v) th dd kp = mM cA ad a th dd kp := by
    funext t
    cases t with
    | zero =>
      unfold mM
      simp only [up3_e]
      rfl
    | succ w => exact congrArg (fun r => (Sum.inl (cA 0, lenM (w + 1), Sum.inl r) : va_E)) (funext fun j => rowM_0)
  unfold wM
  rw [e]
theorem dayM {R : St} {n : Nat} (h : (0 < np R ∧ n = (nc R).toNat) ∨ (¬ 0 < np R ∧ n = 0)) : catsS R = jumpAll R n := by
  unfold catsS
  rcases h with ⟨h1, rfl⟩ | ⟨h1, rfl⟩
  · rw [if_pos h1]
  · rw [if_neg h1]; rfl
def kpU (a : St) (kp : Nat → Nat → Int32) (i : Nat) : Nat → Nat → Int32 := fun q j => if q < i then rowM a kp (4 + q) j else kp q j
def SameM (a b : St) : Prop := (∀ j : Nat, j ≠ 2 → b 0 0 j = a 0 0 j) ∧ (∀ q : Nat, q < 6 → b 1 q 0 = a 1 q 0 ∧ b 1 q 1 = a 1 q 1) ∧ ∀ q : Nat, q < 3 → b 3 q 0 = a 3 q 0
theorem passL_same (a : St) (n : Nat) : SameM a (passL a n).1 := ⟨fun j h => passL_o (Or.inl ⟨rfl, h⟩) n, fun q _ => ⟨passL_o (by omega) n, passL_o (by omega) n⟩, fun q _ => passL_o (by omega) n⟩
def bkS (a b : St) (i : Nat) : St := fun t q j => if (0 < i ∧ t = 1 ∧ j = 2) ∨ (1 < i ∧ t = 2) ∨ (2 < i ∧ 4 ≤ t) ∨ (3 < i ∧ t = 3 ∧ j = 1) then a t q j else b t q j
theorem bkS_y {a b : St} {i t q j : Nat} (h : (0 < i ∧ t = 1 ∧ j = 2) ∨ (1 < i ∧ t = 2) ∨ (2 < i ∧ 4 ≤ t) ∨ (3 < i ∧ t = 3 ∧ j = 1)) : bkS a b i t q j = a t q j := if_pos h
theorem bkS_n {a b : St} {i t q j : Nat} (h : ¬ ((0 < i ∧ t = 1 ∧ j = 2) ∨ (1 < i ∧ t = 2) ∨ (2 < i ∧ 4 ≤ t) ∨ (3 < i ∧ t = 3 ∧ j = 1))) : bkS a b i t q j = b t q j := if_neg h
theorem bk_f0 {a b : St} (hS : SameM a b) : ∀ j : Nat, j < 5 → j ≠ 2 → bkS a b 1 0 0 j = b 0 0 j := fun j _ h => bkS_n (by omega)
theorem bk_f1 {a b : St} (hS : SameM a b) : ∀ j : Nat, j < 5 → j ≠ 2 → bkS a b 2 0 0 j = bkS a b 1 0 0 j := fun j _ h => by rw [bkS_n (by omega), bkS_n (by omega)]
theorem bk_f2 {a b : St} (hS : SameM a b) : ∀ j : Nat, j < 5 → j ≠ 2 → bkS a b 3 0 0 j = bkS a b 2 0 0 j := fun j _ h => by rw [bkS_n (by omega), bkS_n (by omega)]
theorem bk_f3 {a b : St} (hS : SameM a b) : ∀ j : Nat, j < 5 → j ≠ 2 → bkS a b 4 0 0 j = bkS a b 3 0 0 j := fun j _ h => by rw [bkS_n (by omega), bkS_n (by omega)]
theorem bk_f4 {a b : St} (hS : SameM a b) : ∀ j : Nat, j < 5 → j ≠ 2 → a 0 0 j = bkS a b 4 0 0 j := fun j _ h => by rw [bkS_n (by omega)]; exact (hS.1 j h).symm
theorem bk_0 {a b : St} {kp : Nat → Nat → Int32} (hS : SameM a b) : ∀ t j : Nat, 0 < t ∧ t < 14 → j < lenM t → rowM (bkS a b 1) (kpU a kp 5) t j = if t = 4 then rowM b (kpU a kp 5) 9 j else rowM b (kpU a kp 5) t j := by
  intro t j ht hj
  have h4 := tagN_4 (j % 4)
  rcases (show t = 1 ∨ t = 2 ∨ t = 3 ∨ t = 4 ∨ t = 5 ∨ t = 6 ∨ t = 7 ∨ t = 8 ∨ t = 9 ∨ t = 10 ∨ t = 11 ∨ t = 12 ∨ t = 13 by omega) with rfl | rfl | rfl | rfl | rfl | rfl | rfl | rfl | rfl | rfl | rfl | rfl | rfl
  · show (bkS a b 1) 1 j 0 = b 1 j 0
    rw [bkS_n (i := 1) (by omega)]
  · show (bkS a b 1) 1 j 1 = b 1 j 1
    rw [bkS_n (i := 1) (by omega)]
  · show (bkS a b 1) 3 j 0 = b 3 j 0
    rw [bkS_n (i := 1) (by omega)]
  · show (bkS a b 1) 1 j 2 = a 1 j 2
    rw [bkS_y (i := 1) (by omega)]
  · show (bkS a b 1) 2 (j / 91) (j % 91) = b 2 (j / 91) (j % 91)
    rw [bkS_n (i := 1) (by omega)]
  · show (bkS a b 1) (tagN (j % 4)) 0 (j / 4) = b (tagN (j % 4)) 0 (j / 4)
    rw [bkS_n (i := 1) (by omega)]
  · show (if (bkS a b 1) 3 j 0 = 0 then 0 else (bkS a b 1) 3 j 1) = (if b 3 j 0 = 0 then 0 else b 3 j 1)
    rw [bkS_n (i := 1) (t := 3) (j := 0) (by omega), bkS_n (i := 1) (t := 3) (j := 1) (by omega)]
  · show (bkS a b 1) 3 j 2 = b 3 j 2
    rw [bkS_n (i := 1) (by omega)]
  · rfl
  · rfl
  · rfl
  · rfl
  · rfl
theorem bk_1 {a b : St} {kp : Nat → Nat → Int32} (hS : SameM a b) : ∀ t j : Nat, 0 < t ∧ t < 14 → j < lenM t → rowM (bkS a b 2) (kpU a kp 5) t j = if t = 5 then rowM (bkS a b 1) (kpU a kp 5) 10 j else rowM (bkS a b 1) (kpU a kp 5) t j := by
  intro t j ht hj
  have h4 := tagN_4 (j % 4)
  rcases (show t = 1 ∨ t = 2 ∨ t = 3 ∨ t = 4 ∨ t = 5 ∨ t = 6 ∨ t = 7 ∨ t = 8 ∨ t = 9 ∨ t = 10 ∨ t = 11 ∨ t = 12 ∨ t = 13 by omega) with rfl | rfl | rfl | rfl | rfl | rfl | rfl | rfl | rfl | rfl | rfl | rfl | rfl
  · show (bkS a b 2) 1 j 0 = (bkS a b 1) 1 j 0
    rw [bkS_n (i := 2) (by omega), bkS_n (i := 1) (by omega)]
  · show (bkS a b 2) 1 j 1 = (bkS a b 1) 1 j 1
    rw [bkS_n (i := 2) (by omega), bkS_n (i := 1) (by omega)]
  · show (bkS a b 2) 3 j 0 = (bkS a b 1) 3 j 0
    rw [bkS_n (i := 2) (by omega), bkS_n (i := 1) (by omega)]
  · show (bkS a b 2) 1 j 2 = (bkS a b 1) 1 j 2
    rw [bkS_y (i := 2) (by omega), bkS_y (i := 1) (by omega)]
  · show (bkS a b 2) 2 (j / 91) (j % 91) = a 2 (j / 91) (j % 91)
    rw [bkS_y (i := 2) (by omega)]
  · show (bkS a b 2) (tagN (j % 4)) 0 (j / 4) = (bkS a b 1) (tagN (j % 4)) 0 (j / 4)
    rw [bkS_n (i := 2) (by omega), bkS_n (i := 1) (by omega)]
  · show (if (bkS a b 2) 3 j 0 = 0 then 0 else (bkS a b 2) 3 j 1) = (if (bkS a b 1) 3 j 0 = 0 then 0 else (bkS a b 1) 3 j 1)
    rw [bkS_n (i := 2) (t := 3) (j := 0) (by omega), bkS_n (i := 2) (t := 3) (j := 1) (by omega), bkS_n (i := 1) (t := 3) (j := 0) (by omega), bkS_n (i := 1) (t := 3) (j := 1) (by omega)]
  · show (bkS a b 2) 3 j 2 = (bkS a b 1) 3 j 2
    rw [bkS_n (i := 2) (by omega), bkS_n (i := 1) (by omega)]
  · rfl
  · rfl
  · rfl
  · rfl
  · rfl
theorem bk_2 {a b : St} {kp : Nat → Nat → Int32} (hS : SameM a b) : ∀ t j : Nat, 0 < t ∧ t < 14 → j < lenM t → rowM (bkS a b 3) (kpU a kp 5) t j = if t = 6 then rowM (bkS a b 2) (kpU a kp 5) 11 j else rowM (bkS a b 2) (kpU a kp 5) t j := by
  intro t j ht hj
  have h4 := tagN_4 (j % 4)
  rcases (show t = 1 ∨ t = 2 ∨ t = 3 ∨ t = 4 ∨ t = 5 ∨ t = 6 ∨ t = 7 ∨ t = 8 ∨ t = 9 ∨ t = 10 ∨ t = 11 ∨ t = 12 ∨ t = 13 by omega) with rfl | rfl | rfl | rfl | rfl | rfl | rfl | rfl | rfl | rfl | rfl | rfl | rfl
  · show (bkS a b 3) 1 j 0 = (bkS a b 2) 1 j 0
    rw [bkS_n (i := 3) (by omega), bkS_n (i := 2) (by omega)]
  · show (bkS a b 3) 1 j 1 = (bkS a b 2) 1 j 1
    rw [bkS_n (i := 3) (by omega), bkS_n (i := 2) (by omega)]
  · show (bkS a b 3) 3 j 0 = (bkS a b 2) 3 j 0
    rw [bkS_n (i := 3) (by omega), bkS_n (i := 2) (by omega)]
  · show (bkS a b 3) 1 j 2 = (bkS a b 2) 1 j 2
    rw [bkS_y (i := 3) (by omega), bkS_y (i := 2) (by omega)]
  · show (bkS a b 3) 2 (j / 91) (j % 91) = (bkS a b 2) 2 (j / 91) (j % 91)
    rw [bkS_y (i := 3) (by omega), bkS_y (i := 2) (by omega)]
  · show (bkS a b 3) (tagN (j % 4)) 0 (j / 4) = a (tagN (j % 4)) 0 (j / 4)
    rw [bkS_y (i := 3) (by omega)]
  · show (if (bkS a b 3) 3 j 0 = 0 then 0 else (bkS a b 3) 3 j 1) = (if (bkS a b 2) 3 j 0 = 0 then 0 else (bkS a b 2) 3 j 1)
    rw [bkS_n (i := 3) (t := 3) (j := 0) (by omega), bkS_n (i := 3) (t := 3) (j := 1) (by omega), bkS_n (i := 2) (t := 3) (j := 0) (by omega), bkS_n (i := 2) (t := 3) (j := 1) (by omega)]
  · show (bkS a b 3) 3 j 2 = (bkS a b 2) 3 j 2
    rw [bkS_n (i := 3) (by omega), bkS_n (i := 2) (by omega)]
  · rfl
  · rfl
  · rfl
  · rfl
  · rfl
theorem bk_3 {a b : St} {kp : Nat → Nat → Int32} (hS : SameM a b) : ∀ t j : Nat, 0 < t ∧ t < 14 → j < lenM t → rowM (bkS a b 4) (kpU a kp 5) t j = if t = 7 then rowM (bkS a b 3) (kpU a kp 5) 12 j else rowM (bkS a b 3) (kpU a kp 5) t j := by
  intro t j ht hj
  have h4 := tagN_4 (j % 4)
  rcases (show t = 1 ∨ t = 2 ∨ t = 3 ∨ t = 4 ∨ t = 5 ∨ t = 6 ∨ t = 7 ∨ t = 8 ∨ t = 9 ∨ t = 10 ∨ t = 11 ∨ t = 12 ∨ t = 13 by omega) with rfl | rfl | rfl | rfl | rfl | rfl | rfl | rfl | rfl | rfl | rfl | rfl | rfl
  · show (bkS a b 4) 1 j 0 = (bkS a b 3) 1 j 0
    rw [bkS_n (i := 4) (by omega), bkS_n (i := 3) (by omega)]
  · show (bkS a b 4) 1 j 1 = (bkS a b 3) 1 j 1
    rw [bkS_n (i := 4) (by omega), bkS_n (i := 3) (by omega)]
  · show (bkS a b 4) 3 j 0 = (bkS a b 3) 3 j 0
    rw [bkS_n (i := 4) (by omega), bkS_n (i := 3) (by omega)]
  · show (bkS a b 4) 1 j 2 = (bkS a b 3) 1 j 2
    rw [bkS_y (i := 4) (by omega), bkS_y (i := 3) (by omega)]
  · show (bkS a b 4) 2 (j / 91) (j % 91) = (bkS a b 3) 2 (j / 91) (j % 91)
    rw [bkS_y (i := 4) (by omega), bkS_y (i := 3) (by omega)]
  · show (bkS a b 4) (tagN (j % 4)) 0 (j / 4) = (bkS a b 3) (tagN (j % 4)) 0 (j / 4)
    rw [bkS_y (i := 4) (by omega), bkS_y (i := 3) (by omega)]
  · show (if (bkS a b 4) 3 j 0 = 0 then 0 else (bkS a b 4) 3 j 1) = (if a 3 j 0 = 0 then 0 else a 3 j 1)
    rw [bkS_n (i := 4) (t := 3) (j := 0) (by omega), bkS_y (i := 4) (t := 3) (j := 1) (by omega), (hS.2.2 j hj)]
  · show (bkS a b 4) 3 j 2 = (bkS a b 3) 3 j 2
    rw [bkS_n (i := 4) (by omega), bkS_n (i := 3) (by omega)]
  · rfl
  · rfl
  · rfl
  · rfl
  · rfl
theorem bk_4 {a b : St} {kp : Nat → Nat → Int32} (hS : SameM a b) : ∀ t j : Nat, 0 < t ∧ t < 14 → j < lenM t → rowM a (kpU a kp 5) t j = if t = 8 then rowM (bkS a b 4) (kpU a kp 5) 13 j else rowM (bkS a b 4) (kpU a kp 5) t j := by
  intro t j ht hj
  have h4 := tagN_4 (j % 4)
  rcases (show t = 1 ∨ t = 2 ∨ t = 3 ∨ t = 4 ∨ t = 5 ∨ t = 6 ∨ t = 7 ∨ t = 8 ∨ t = 9 ∨ t = 10 ∨ t = 11 ∨ t = 12 ∨ t = 13 by omega) with rfl | rfl | rfl | rfl | rfl | rfl | rfl | rfl | rfl | rfl | rfl | rfl | rfl
  · show a 1 j 0 = (bkS a b 4) 1 j 0
    rw [bkS_n (i := 4) (by omega), (hS.2.1 j hj).1]
  · show a 1 j 1 = (bkS a b 4) 1 j 1
    rw [bkS_n (i := 4) (by omega), (hS.2.1 j hj).2]
  · show a 3 j 0 = (bkS a b 4) 3 j 0
    rw [bkS_n (i := 4) (by omega), (hS.2.2 j hj)]
  · show a 1 j 2 = (bkS a b 4) 1 j 2
    rw [bkS_y (i := 4) (by omega)]
  · show a 2 (j / 91) (j % 91) = (bkS a b 4) 2 (j / 91) (j % 91)
    rw [bkS_y (i := 4) (by omega)]
  · show a (tagN (j % 4)) 0 (j / 4) = (bkS a b 4) (tagN (j % 4)) 0 (j / 4)
    rw [bkS_y (i := 4) (by omega)]
  · show (if a 3 j 0 = 0 then 0 else a 3 j 1) = (if (bkS a b 4) 3 j 0 = 0 then 0 else (bkS a b 4) 3 j 1)
    rw [bkS_n (i := 4) (t := 3) (j := 0) (by omega), bkS_y (i := 4) (t := 3) (j := 1) (by omega), (hS.2.2 j hj)]
  · show a 3 j 2 = a 3 j 2
    rfl
  · rfl
  · rfl
  · rfl
  · rfl
  · rfl
theorem wM_getE {cA : Nat → ClassId} {ad : Nat → Nat} {a : St} {th dd : Int32} {kp : Nat → Nat → Int32} {t : Nat} (h : 0 < t ∧ t < 14) : mM cA ad a th dd kp t = .inl (cA 0, lenM t, .inl (rowM a kp t)) := by
  obtain ⟨u, rfl⟩ : ∃ u, t = u + 1 := ⟨t - 1, by omega⟩
  rfl
theorem map_D {A : Nat → Prop} {ad : Nat → Nat} {f g : Nat → va_E} {L : List Nat} (hD : va_D A (L.map (fun t => (ad t, f t)))) : va_D A (L.map (fun t => (ad t, g t))) := by
  have key : ∀ (k : Nat) (q : Nat × va_E), (L.map (fun t => (ad t, g t)))[k]? = some q → ∃ q0, (L.map (fun t => (ad t, f t)))[k]? = some q0 ∧ q0.1 = q.1 := by
    intro k q hk
    rw [List.getElem?_map] at hk ⊢
    cases hz : L[k]? with
    | none => rw [hz] at hk; cases hk
    | some z => rw [hz] at hk; cases hk; exact ⟨_, rfl, rfl⟩
  refine ⟨fun i j p q hi hj e => ?_, fun k q hk => ?_⟩
  · obtain ⟨p0, h1, h2⟩ := key i p hi
    obtain ⟨q0, h3, h4⟩ := key j q hj
    exact hD.1 i j p0 q0 h1 h3 (h2.trans (e.trans h4.symm))
  · obtain ⟨q0, h1, h2⟩ := key k q hk
    rw [← h2]
    exact hD.2 k q0 h1
theorem map_P {D : va_G} {ad : Nat → Nat} {f g : Nat → va_E} {L : List Nat} {H : Heap} (h : ∀ t ∈ L, va_at D vwCl (ad t, f t) H → va_at D vwCl (ad t, g t) H) (hP : va_P D vwCl (L.map (fun t => (ad t, f t))) H) : va_P D vwCl (L.map (fun t => (ad t, g t))) H := by
  intro k q hk
  rw [List.getElem?_map] at hk
  cases hz : L[k]? with
  | none => rw [hz] at hk; cases hk
  | some z =>
    rw [hz] at hk
    cases hk
    exact h z (List.mem_of_getElem? hz) (hP k (ad z, f z) (by rw [List.getElem?_map, hz]; rfl))
theorem g_cpM {p : Program} {l : Launch} {e : Env} {R : Room} {s : State} {m : MethodId} {args : Array Value} {below : List Frame} {meth : Method} {c : Code} {Q : State → Prop} {D : va_G} {A : Nat → Prop} {nL : Nat} {cells slots pc : Nat} {lv : List (Nat × Value)} {st : List Value} {cc : ByteArray} {own : String} {Ts : List Cond} {ret : Option FieldType} {cA : Nat → ClassId} {ad : Nat → Nat} {a a' : St} {th dd : Int32} {kp kp' : Nat → Nat → Int32} {index t0 t1 n : Nat} (E : GE p s m args meth c D (tysX cA) cc nL own Ts ret)
    (h0 : 0 < t0 ∧ t0 < 14) (h1 : 0 < t1 ∧ t1 < 14) (hn0 : lenM t0 = n) (hn1 : lenM t1 = n) (hn : n < 1000) (hf : ∀ j : Nat, j < 5 → j ≠ 2 → a' 0 0 j = a 0 0 j)
    (hr : ∀ t j : Nat, 0 < t ∧ t < 14 → j < lenM t → rowM a' kp' t j = if t = t1 then rowM a kp t0 j else rowM a kp t j)
    (hlink : Cond.methodLink own index arraycopyName ∈ Ts) (hnat : Cond.native arraycopyName ∈ Ts) (hstat : Cond.static arraycopyName ∈ Ts) (hini : Cond.initialized "java/lang/System" ∈ Ts)
    (hframes : 1 ≤ R.frames) (hlocals : (st.map fun v => v.category).sum + (nativeFrameWords "java/lang/System" "arraycopy" 5 + 11) ≤ R.locals) (hdg : decode cc pc = .ok (.invokestatic index, 3))
    (kk : GW p l e R s m args below meth c Q D A nL (wM cA ad a' th dd kp') cells slots (pc + 3) lv st) : GW p l e R s m args below meth c Q D A nL (wM cA ad a th dd kp) cells slots pc lv (.int (zI n) :: .int (zI 0) :: .ref (ad t1) :: .int (zI 0) :: .ref (ad t0) :: st) := by
  intro H locs ls hP hD hS hl
  obtain ⟨q0, hq0⟩ := wM_at (cA := cA) (ad := ad) (a := a) (th := th) (dd := dd) (kp := kp) h0.2
  rw [wM_getE h0] at hq0
  have hm : ∀ t, t < 14 → t ∈ idsM := by decide +kernel
  have hm2 : ∀ t ∈ idsM, t < 14 := by decide +kernel
  obtain ⟨q1, hq1, hset⟩ := wl_set (f := fun t => (ad t, mM cA ad a th dd kp t)) (f' := fun t => (ad t, if t = t1 then (.inl (cA 0, lenM t1, .inl (va_cpy (rowM a kp t0) (rowM a kp t1) 0 0 n)) : va_E) else mM cA ad a th dd kp t)) (e := (ad t1, .inl (cA 0, lenM t1, .inl (va_cpy (rowM a kp t0) (rowM a kp t1) 0 0 n)))) idsM_nd (hm t1 h1.2) (by show (ad t1, if t1 = t1 then _ else _) = _; rw [if_pos rfl]) (fun z hz hne => by show (ad z, if z = t1 then _ else _) = (ad z, _); rw [if_neg hne])
  have hq1 : (wM cA ad a th dd kp)[q1]? = some (ad t1, .inl (cA 0, lenM t1, .inl (rowM a kp t1))) := by rw [← wM_getE h1]; exact hq1
  rw [hn0] at hq0
  rw [hn1] at hq1
  have z0 : (zI 0).toNatClampNeg = 0 := by rw [zI_cl (by omega)]; rfl
  have zn : (zI n).toNatClampNeg = n := by rw [zI_cl (by omega)]; rfl
  have n0 : ¬ zI 0 < 0 := by rw [zI_0]; decide
  have nn : ¬ zI n < 0 := by
    intro h
    rw [← zI_0, zI_lt (by omega) (by omega)] at h
    omega
  refine va_copyi E.1 E.2.1 (E.2.2.1.trans hl.1.symm) E.2.2.2.1 (E.2.2.2.2.1 _ hlink) (E.2.2.2.2.1 _ hnat) (E.2.2.2.2.1 _ hstat) (E.2.2.2.2.1 _ hini) E.2.2.2.2.2.1.1 hP hD hS q0 q1 0 0 hq0 hq1 rfl rfl rfl n0 n0 nn (by rw [z0, zn]; omega) (by rw [z0, zn]; omega) (fun _ _ => rfl) hframes hlocals hdg ?_
  intro H1 locs1 hP hD hS
  rw [z0, zn] at hP hD
  have hset2 : (wM cA ad a th dd kp).set q1 (ad t1, .inl (cA 0, n, .inl (va_cpy (rowM a kp t0) (rowM a kp t1) 0 0 n))) = idsM.map (fun t => (ad t, if t = t1 then (.inl (cA 0, lenM t1, .inl (va_cpy (rowM a kp t0) (rowM a kp t1) 0 0 n)) : va_E) else mM cA ad a th dd kp t)) := by rw [hn1] at hset; rw [hn1]; exact hset
  rw [hset2] at hP hD
  refine kk H1 locs1 ls (map_P (fun t ht hA => ?_) hP) (map_D hD) hS hl
  have ht := hm2 t ht
  rcases Nat.eq_zero_or_pos t with rfl | hpos
  · rw [if_neg (by omega)] at hA
    have e1 : mM cA ad a' th dd kp' 0 = mM cA ad a th dd kp 0 := by
      unfold mM
      rw [hf 3 (by decide) (by decide), hf 4 (by decide) (by decide), hf 0 (by decide) (by decide), hf 1 (by decide) (by decide)]
    rw [e1]; exact hA
  · rw [wM_getE ⟨hpos, ht⟩]
    by_cases e : t = t1
    · subst e
      rw [if_pos rfl] at hA
      have hB : H1[ad t]? = some (vp_cell (cA 0) (lenM t, .inl (va_cpy (rowM a kp t0) (rowM a kp t) 0 0 n))) := hA
      show H1[ad t]? = some (vp_cell (cA 0) (lenM t, .inl (rowM a' kp' t)))
      rw [hB, vp_ext (fun j hj => ?_)]
      rw [hr t j ⟨hpos, ht⟩ hj, if_pos rfl, pk_cpy_in (by omega) (by omega)]
      congr 1
      omega
    · rw [if_neg e, wM_getE ⟨hpos, ht⟩] at hA
      have hB : H1[ad t]? = some (vp_cell (cA 0) (lenM t, .inl (rowM a kp t))) := hA
      show H1[ad t]? = some (vp_cell (cA 0) (lenM t, .inl (rowM a' kp' t)))
      rw [hB, vp_ext (fun j hj => ?_)]
      rw [hr t j ⟨hpos, ht⟩ hj, if_neg e]
set_option maxHeartbeats 800000 in
set_option maxRecDepth 100000 in
/-- pileTold(p, w) -/
theorem m_pileTold (l : Launch) (D : va_G) (cA : Nat → ClassId) (A : Nat → Prop) (ad : Nat → Nat) (a : St) (th dd : Int32) (kp : Nat → Nat → Int32) (q9 : Nat) (hq : q9 < 6) (hPO : PO a q9) (w9 : Int) (hw : 0 ≤ w9 ∧ w9 ≤ 9) : Met l yX5_pileTold wsX5_pileTold ({ frames := 5, cells := 0, slots := 0, locals := 118 }) (PcG D (tysX cA) A (wM cA ad a th dd kp) [.ref (ad 0), .int (zI (q9 : Int)), .int (zI w9)]) (va_Qi (fun (r : Int32) ws' => r = abV a q9 w9 ∧ ws' = wM cA ad a th dd kp) (gB D A) A) 0 0 A := by
  refine g_met (cc := cX5_pileTold) (maxL := 5) (ret := (some .int)) (own := RX5) rfl (by decide) rfl (Nat.le_of_ble_eq_true rfl) ?_
  intro p e s m below meth c E
  have hin5 : ∀ w ∈ u_ws RX5 TX5 19, w ∈ wsX5_pileTold := by decide +kernel
  obtain ⟨hs1, hs6, hb0, hb1⟩ := id hPO
  have hsq := sq_le (e := sd a q9) ⟨hs1, hs6⟩
  obtain ⟨hn1, hn7, hpy⟩ := pyN_c (a := a) (p := q9) ⟨hs1, hs6⟩
  refine g_loc (lv' := [(0, .ref (ad 0)), (1, .int (zI (q9 : Int))), (2, .int (zI w9))]) ⟨rfl, rfl, rfl, trivial⟩ ?_
  refine g_iconst E dX5_pileTold_0 ?_
  refine g_istore_n E dX5_pileTold_1 (by decide) ?_
  refine g_iload_n E dX5_pileTold_2 rfl ?_
  by_cases sw_3_0 : w9 = 0
  · subst sw_3_0
    refine g_tab (tgt := 52) E dX5_pileTold_3 (by decide) (by decide) (by decide) rfl (by decide) ?_
    refine g_aload_n E dX5_pileTold_52 rfl ?_
    refine gm_M_calibres E  hin5 (by decide +kernel) dX5_pileTold_53 ?_
    refine g_iload_n E dX5_pileTold_56 rfl ?_
    first | refine lm_calibresN E (by omega) dX5_pileTold_57 ?_ | refine lm_calibres E (by omega) dX5_pileTold_57 ?_
    exact g_iret E (⟨rfl, rfl⟩) dX5_pileTold_58
  by_cases sw_3_1 : w9 = 1
  · subst sw_3_1
    refine g_tab (tgt := 59) E dX5_pileTold_3 (by decide) (by decide) (by decide) rfl (by decide) ?_
    refine g_aload_n E dX5_pileTold_59 rfl ?_
    refine gm_M_sides E  hin5 (by decide +kernel) dX5_pileTold_60 ?_
    refine g_iload_n E dX5_pileTold_63 rfl ?_
    first | refine lm_sidesN E (by omega) dX5_pileTold_64 ?_ | refine lm_sides E (by omega) dX5_pileTold_64 ?_
    exact g_iret E (⟨rfl, rfl⟩) dX5_pileTold_65
  by_cases sw_3_2 : w9 = 2
  · subst sw_3_2
    refine g_tab (tgt := 66) E dX5_pileTold_3 (by decide) (by decide) (by decide) rfl (by decide) ?_
    refine g_aload_n E dX5_pileTold_66 rfl ?_
    refine gm_M_many E  hin5 (by decide +kernel) dX5_pileTold_67 ?_
    refine g_iload_n E dX5_pileTold_70 rfl ?_
    first | refine lm_manyN E (by omega) dX5_pileTold_71 ?_ | refine lm_many E (by omega) dX5_pileTold_71 ?_
    exact g_iret E (⟨rfl, rfl⟩) dX5_pileTold_72
  by_cases sw_3_3 : w9 = 3
  · subst sw_3_3
    refine g_tab (tgt := 73) E dX5_pileTold_3 (by decide) (by decide) (by decide) rfl (by decide) ?_
    refine g_aload_n E dX5_pileTold_73 rfl ?_
    refine gm_M_sides E  hin5 (by decide +kernel) dX5_pileTold_74 ?_
    refine g_iload_n E dX5_pileTold_77 rfl ?_
    first | refine lm_sidesN E (by omega) dX5_pileTold_78 ?_ | refine lm_sides E (by omega) dX5_pileTold_78 ?_
    refine g_callTi (n := 1) (As := [_]) (rest := _) E (m_roomOf l D _ A _ _ (by omega)) gX5_pileTold_X5_roomOf rfl ⟨rfl, rfl⟩ (by decide +kernel) ⟨Nat.le_of_ble_eq_true rfl, Nat.le_of_ble_eq_true rfl⟩ rfl rfl (Nat.le_of_ble_eq_true rfl) ⟨Nat.le_of_ble_eq_true rfl, Nat.le_of_ble_eq_true rfl⟩ dX5_pileTold_79 ?_
    rintro r_79 ws_79 ⟨rfl, rfl⟩
    exact g_iret E (⟨rfl, rfl⟩) dX5_pileTold_82
  by_cases sw_3_4 : w9 = 4
  · subst sw_3_4
    refine g_tab (tgt := 83) E dX5_pileTold_3 (by decide) (by decide) (by decide) rfl (by decide) ?_
    refine g_aload_n E dX5_pileTold_83 rfl ?_
    refine g_iload_n E dX5_pileTold_84 rfl ?_
    refine g_aload_n E dX5_pileTold_85 rfl ?_
    refine gm_M_many E  hin5 (by decide +kernel) dX5_pileTold_86 ?_
    refine g_iload_n E dX5_pileTold_89 rfl ?_
    first | refine lm_manyN E (by omega) dX5_pileTold_90 ?_ | refine lm_many E (by omega) dX5_pileTold_90 ?_
    refine g_callVi (T := TX5) (ci := 5) (n := 2) (As := [_, _]) (rest := _) E (m_layers l D cA A ad _ _ _ _ _ (by omega) (by assumption) _ (by omega)) gX5_pileTold_X5_layers rfl ⟨rfl, rfl⟩ (by decide +kernel) ⟨Nat.le_of_ble_eq_true rfl, Nat.le_of_ble_eq_true rfl⟩ obM rfl rfl rfl (Nat.le_of_ble_eq_true rfl) ⟨Nat.le_of_ble_eq_true rfl, Nat.le_of_ble_eq_true rfl⟩ dX5_pileTold_91 ?_
    rintro r_91 ws_91 ⟨rfl, rfl⟩
    exact g_iret E (⟨rfl, rfl⟩) dX5_pileTold_94
  by_cases sw_3_5 : w9 = 5
  · subst sw_3_5
    refine g_tab (tgt := 95) E dX5_pileTold_3 (by decide) (by decide) (by decide) rfl (by decide) ?_
    refine g_aload_n E dX5_pileTold_95 rfl ?_
    refine g_iload_n E dX5_pileTold_96 rfl ?_
    refine g_callVi (T := TX5) (ci := 5) (n := 1) (As := [_]) (rest := _) E (m_full l D cA A ad _ _ _ _ _ (by omega) (by assumption)) gX5_pileTold_X5_full rfl ⟨rfl, rfl⟩ (by decide +kernel) ⟨Nat.le_of_ble_eq_true rfl, Nat.le_of_ble_eq_true rfl⟩ obM rfl rfl rfl (Nat.le_of_ble_eq_true rfl) ⟨Nat.le_of_ble_eq_true rfl, Nat.le_of_ble_eq_true rfl⟩ dX5_pileTold_97 ?_
    rintro r_97 ws_97 ⟨rfl, rfl⟩
    exact g_iret E (⟨rfl, rfl⟩) dX5_pileTold_100
  by_cases sw_3_6 : w9 = 6
  · subst sw_3_6
    refine g_tab (tgt := 101) E dX5_pileTold_3 (by decide) (by decide) (by decide) rfl (by decide) ?_
    refine g_iconst E dX5_pileTold_101 ?_
    refine g_istore E dX5_pileTold_102 (by decide) ?_
    have key_kk : ∀ (n_kk kk : Nat), (kk : Int) ≤ bl a q9 → bl a q9 + 1 ≤ (kk : Int) + n_kk → GW p l e (headSpec wsX5_pileTold ({ frames := 5, cells := 0, slots := 0, locals := 118 })).room s m ([.ref (ad 0), .int (zI (q9 : Int)), .int (zI 6)] : List Value).toArray below meth c (MQ below (va_Qi (fun (r : Int32) ws' => r = abV a q9 6 ∧ ws' = wM cA ad a th dd kp) (gB D A) A) ([.ref (ad 0), .int (zI (q9 : Int)), .int (zI 6)] : List Value).toArray s 0 0 A) D A 5 (wM cA ad a th dd kp) 0 0 104 [(0, .ref (ad 0)), (1, .int (zI (q9 : Int))), (2, .int (zI 6)), (3, .int (zI (bareN a q9 kk))), (4, .int (zI (kk : Int)))] [] := by
      intro n_kk
      induction n_kk with
      | zero => intro kk h1 h2; exact absurd h2 (by omega)
      | succ n_kk ih_kk =>
        intro kk hle_kk hfu_kk
        refine g_iload E dX5_pileTold_104 rfl ?_
        refine g_aload_n E dX5_pileTold_106 rfl ?_
        refine gm_M_many E  hin5 (by decide +kernel) dX5_pileTold_107 ?_
        refine g_iload_n E dX5_pileTold_110 rfl ?_
        first | refine lm_manyN E (by omega) dX5_pileTold_111 ?_ | refine lm_many E (by omega) dX5_pileTold_111 ?_
        refine g_icmp_ge (tgt := 139) E dX5_pileTold_112 (by decide) (by omega) (by omega) (fun c_112 => ?_) (fun c_112 => ?_)
        · refine g_iload_n E dX5_pileTold_139 rfl ?_
          exact g_iret E (⟨by rw [show kk = (bl a q9).toNat by omega]; rfl, rfl⟩) dX5_pileTold_140
        · refine g_iload_n E dX5_pileTold_115 rfl ?_
          refine g_aload_n E dX5_pileTold_116 rfl ?_
          refine g_iload_n E dX5_pileTold_117 rfl ?_
          refine g_iload E dX5_pileTold_118 rfl ?_
          refine g_callVi (T := TX5) (ci := 5) (n := 2) (As := [_, _]) (rest := _) E (m_on l D cA A ad _ _ _ _ _ (by omega) (by assumption) _ (by omega)) gX5_pileTold_X5_on rfl ⟨rfl, rfl⟩ (by decide +kernel) ⟨Nat.le_of_ble_eq_true rfl, Nat.le_of_ble_eq_true rfl⟩ obM rfl rfl rfl (Nat.le_of_ble_eq_true rfl) ⟨Nat.le_of_ble_eq_true rfl, Nat.le_of_ble_eq_true rfl⟩ dX5_pileTold_120 ?_
          rintro r_120 ws_120 ⟨rfl, rfl⟩
          have honb := onN_b (sd a q9) (bl a q9) kk
          refine g_if_ne (tgt := 130) E dX5_pileTold_123 (by decide) (by omega) (fun c_123 => ?_) (fun c_123 => ?_)
          · have hst := bare_t (a := a) (p := q9) (n := kk) ((cv_on hPO ⟨by omega, by omega⟩).mp (by omega))
            refine g_iconst E dX5_pileTold_130 ?_
            refine g_iadd E dX5_pileTold_131 ?_
            refine g_istore_n E dX5_pileTold_132 (by decide) ?_
            refine g_iinc E dX5_pileTold_133 rfl (by decide) ?_
            refine g_goto (tgt := 104) E dX5_pileTold_136 (by decide) ?_
            refine g_loc (lv' := [(0, .ref (ad 0)), (1, .int (zI (q9 : Int))), (2, .int (zI 6)), (3, .int (zI (bareN a q9 (kk + 1)))), (4, .int (zI ((kk + 1) : Int)))]) ⟨rfl, rfl, rfl, congrArg (fun z => some (Value.int (zI z))) (by rw [hst]; try omega), rfl, trivial⟩ ?_
            exact ih_kk (kk + 1) (by omega) (by omega)
          · have hst := bare_f (a := a) (p := q9) (n := kk) ((cv_on0 hPO ⟨by omega, by omega⟩).mp (by omega))
            refine g_iconst E dX5_pileTold_126 ?_
            refine g_goto (tgt := 131) E dX5_pileTold_127 (by decide) ?_
            refine g_iadd E dX5_pileTold_131 ?_
            refine g_istore_n E dX5_pileTold_132 (by decide) ?_
            refine g_iinc E dX5_pileTold_133 rfl (by decide) ?_
            refine g_goto (tgt := 104) E dX5_pileTold_136 (by decide) ?_
            refine g_loc (lv' := [(0, .ref (ad 0)), (1, .int (zI (q9 : Int))), (2, .int (zI 6)), (3, .int (zI (bareN a q9 (kk + 1)))), (4, .int (zI ((kk + 1) : Int)))]) ⟨rfl, rfl, rfl, congrArg (fun z => some (Value.int (zI z))) (by rw [hst]; try omega), rfl, trivial⟩ ?_
            exact ih_kk (kk + 1) (by omega) (by omega)
    refine g_loc (lv' := [(0, .ref (ad 0)), (1, .int (zI (q9 : Int))), (2, .int (zI 6)), (3, .int (zI (bareN a q9 0))), (4, .int (zI (0 : Int)))]) ⟨rfl, rfl, rfl, rfl, rfl, trivial⟩ ?_
    exact key_kk ((bl a q9) + 1).toNat.succ 0 (by omega) (by omega)
  by_cases sw_3_7 : w9 = 7
  · subst sw_3_7
    refine g_tab (tgt := 141) E dX5_pileTold_3 (by decide) (by decide) (by decide) rfl (by decide) ?_
    refine g_aload_n E dX5_pileTold_141 rfl ?_
    refine g_iload_n E dX5_pileTold_142 rfl ?_
    refine g_callVi (T := TX5) (ci := 5) (n := 1) (As := [_]) (rest := _) E (m_rusty l D cA A ad _ _ _ _ _ (by omega) (by assumption)) gX5_pileTold_X5_rusty rfl ⟨rfl, rfl⟩ (by decide +kernel) ⟨Nat.le_of_ble_eq_true rfl, Nat.le_of_ble_eq_true rfl⟩ obM rfl rfl rfl (Nat.le_of_ble_eq_true rfl) ⟨Nat.le_of_ble_eq_true rfl, Nat.le_of_ble_eq_true rfl⟩ dX5_pileTold_143 ?_
    rintro r_143 ws_143 ⟨rfl, rfl⟩
    exact g_iret E (⟨rfl, rfl⟩) dX5_pileTold_146
  by_cases sw_3_8 : w9 = 8
  · subst sw_3_8
    refine g_tab (tgt := 147) E dX5_pileTold_3 (by decide) (by decide) (by decide) rfl (by decide) ?_
    refine g_iconst E dX5_pileTold_147 ?_
    refine g_istore E dX5_pileTold_148 (by decide) ?_
    have key_kk : ∀ (n_kk kk : Nat), (kk : Int) ≤ bl a q9 → bl a q9 + 1 ≤ (kk : Int) + n_kk → GW p l e (headSpec wsX5_pileTold ({ frames := 5, cells := 0, slots := 0, locals := 118 })).room s m ([.ref (ad 0), .int (zI (q9 : Int)), .int (zI 8)] : List Value).toArray below meth c (MQ below (va_Qi (fun (r : Int32) ws' => r = abV a q9 8 ∧ ws' = wM cA ad a th dd kp) (gB D A) A) ([.ref (ad 0), .int (zI (q9 : Int)), .int (zI 8)] : List Value).toArray s 0 0 A) D A 5 (wM cA ad a th dd kp) 0 0 150 [(0, .ref (ad 0)), (1, .int (zI (q9 : Int))), (2, .int (zI 8)), (3, .int (greatN a q9 kk)), (4, .int (zI (kk : Int)))] [] := by
      intro n_kk
      induction n_kk with
      | zero => intro kk h1 h2; exact absurd h2 (by omega)
      | succ n_kk ih_kk =>
        intro kk hle_kk hfu_kk
        refine g_iload E dX5_pileTold_150 rfl ?_
        refine g_aload_n E dX5_pileTold_152 rfl ?_
        refine gm_M_many E  hin5 (by decide +kernel) dX5_pileTold_153 ?_
        refine g_iload_n E dX5_pileTold_156 rfl ?_
        first | refine lm_manyN E (by omega) dX5_pileTold_157 ?_ | refine lm_many E (by omega) dX5_pileTold_157 ?_
        refine g_icmp_ge (tgt := 179) E dX5_pileTold_158 (by decide) (by omega) (by omega) (fun c_158 => ?_) (fun c_158 => ?_)
        · refine g_iload_n E dX5_pileTold_179 rfl ?_
          exact g_iret E (⟨by rw [show kk = (bl a q9).toNat by omega]; rfl, rfl⟩) dX5_pileTold_180
        · refine g_iload_n E dX5_pileTold_161 rfl ?_
          refine g_aload_n E dX5_pileTold_162 rfl ?_
          refine g_iload_n E dX5_pileTold_163 rfl ?_
          refine g_iload E dX5_pileTold_164 rfl ?_
          refine g_callVi (T := TX5) (ci := 5) (n := 2) (As := [_, _]) (rest := _) E (m_rustOf l D cA A ad _ _ _ _ _ (by omega) _ (by omega)) gX5_pileTold_X5_rustOf rfl ⟨rfl, rfl⟩ (by decide +kernel) ⟨Nat.le_of_ble_eq_true rfl, Nat.le_of_ble_eq_true rfl⟩ obM rfl rfl rfl (Nat.le_of_ble_eq_true rfl) ⟨Nat.le_of_ble_eq_true rfl, Nat.le_of_ble_eq_true rfl⟩ dX5_pileTold_166 ?_
          rintro r_166 ws_166 ⟨rfl, rfl⟩
          refine g_mmax E (by decide +kernel) (by decide +kernel) (by decide +kernel) (by decide +kernel) (Nat.le_of_ble_eq_true rfl) (Nat.le_of_ble_eq_true rfl) (Nat.le_of_ble_eq_true rfl) (Nat.le_of_ble_eq_true rfl) dX5_pileTold_169 ?_
          refine g_istore_n E dX5_pileTold_172 (by decide) ?_
          refine g_iinc E dX5_pileTold_173 rfl (by decide) ?_
          refine g_goto (tgt := 150) E dX5_pileTold_176 (by decide) ?_
          refine g_loc (lv' := [(0, .ref (ad 0)), (1, .int (zI (q9 : Int))), (2, .int (zI 8)), (3, .int (greatN a q9 (kk + 1))), (4, .int (zI ((kk + 1) : Int)))]) ⟨rfl, rfl, rfl, rfl, rfl, trivial⟩ ?_
          exact ih_kk (kk + 1) (by omega) (by omega)
    refine g_loc (lv' := [(0, .ref (ad 0)), (1, .int (zI (q9 : Int))), (2, .int (zI 8)), (3, .int (greatN a q9 0)), (4, .int (zI (0 : Int)))]) ⟨rfl, rfl, rfl, rfl, rfl, trivial⟩ ?_
    exact key_kk ((bl a q9) + 1).toNat.succ 0 (by omega) (by omega)
  refine g_tabOut (tgt := 181) E dX5_pileTold_3 (by omega) (by omega) (by decide) ?_
  refine g_iconst E dX5_pileTold_181 ?_
  refine g_istore E dX5_pileTold_182 (by decide) ?_
  have key_kk : ∀ (n_kk kk : Nat), (kk : Int) ≤ bl a q9 → bl a q9 + 1 ≤ (kk : Int) + n_kk → GW p l e (headSpec wsX5_pileTold ({ frames := 5, cells := 0, slots := 0, locals := 118 })).room s m ([.ref (ad 0), .int (zI (q9 : Int)), .int (zI w9)] : List Value).toArray below meth c (MQ below (va_Qi (fun (r : Int32) ws' => r = abV a q9 w9 ∧ ws' = wM cA ad a th dd kp) (gB D A) A) ([.ref (ad 0), .int (zI (q9 : Int)), .int (zI w9)] : List Value).toArray s 0 0 A) D A 5 (wM cA ad a th dd kp) 0 0 184 [(0, .ref (ad 0)), (1, .int (zI (q9 : Int))), (2, .int (zI w9)), (3, .int (sumN a q9 kk)), (4, .int (zI (kk : Int)))] [] := by
    intro n_kk
    induction n_kk with
    | zero => intro kk h1 h2; exact absurd h2 (by omega)
    | succ n_kk ih_kk =>
      intro kk hle_kk hfu_kk
      refine g_iload E dX5_pileTold_184 rfl ?_
      refine g_aload_n E dX5_pileTold_186 rfl ?_
      refine gm_M_many E  hin5 (by decide +kernel) dX5_pileTold_187 ?_
      refine g_iload_n E dX5_pileTold_190 rfl ?_
      first | refine lm_manyN E (by omega) dX5_pileTold_191 ?_ | refine lm_many E (by omega) dX5_pileTold_191 ?_
      refine g_icmp_ge (tgt := 211) E dX5_pileTold_192 (by decide) (by omega) (by omega) (fun c_192 => ?_) (fun c_192 => ?_)
      · refine g_iload_n E dX5_pileTold_211 rfl ?_
        exact g_iret E (⟨(by obtain rfl : w9 = 9 := (by omega); rw [show kk = (bl a q9).toNat by omega]; rfl), rfl⟩) dX5_pileTold_212
      · refine g_iload_n E dX5_pileTold_195 rfl ?_
        refine g_aload_n E dX5_pileTold_196 rfl ?_
        refine g_iload_n E dX5_pileTold_197 rfl ?_
        refine g_iload E dX5_pileTold_198 rfl ?_
        refine g_callVi (T := TX5) (ci := 5) (n := 2) (As := [_, _]) (rest := _) E (m_rustOf l D cA A ad _ _ _ _ _ (by omega) _ (by omega)) gX5_pileTold_X5_rustOf rfl ⟨rfl, rfl⟩ (by decide +kernel) ⟨Nat.le_of_ble_eq_true rfl, Nat.le_of_ble_eq_true rfl⟩ obM rfl rfl rfl (Nat.le_of_ble_eq_true rfl) ⟨Nat.le_of_ble_eq_true rfl, Nat.le_of_ble_eq_true rfl⟩ dX5_pileTold_200 ?_
        rintro r_200 ws_200 ⟨rfl, rfl⟩
        refine g_iaddR E dX5_pileTold_203 ?_
        refine g_istore_n E dX5_pileTold_204 (by decide) ?_
        refine g_iinc E dX5_pileTold_205 rfl (by decide) ?_
        refine g_goto (tgt := 184) E dX5_pileTold_208 (by decide) ?_
        refine g_loc (lv' := [(0, .ref (ad 0)), (1, .int (zI (q9 : Int))), (2, .int (zI w9)), (3, .int (sumN a q9 (kk + 1))), (4, .int (zI ((kk + 1) : Int)))]) ⟨rfl, rfl, rfl, rfl, rfl, trivial⟩ ?_
        exact ih_kk (kk + 1) (by omega) (by omega)
  refine g_loc (lv' := [(0, .ref (ad 0)), (1, .int (zI (q9 : Int))), (2, .int (zI w9)), (3, .int (sumN a q9 0)), (4, .int (zI (0 : Int)))]) ⟨rfl, rfl, rfl, rfl, rfl, trivial⟩ ?_
  exact key_kk ((bl a q9) + 1).toNat.succ 0 (by omega) (by omega)
set_option maxHeartbeats 800000 in
set_option maxRecDepth 100000 in
/-- leap(c) -/
theorem m_leap (l : Launch) (D : va_G) (cA : Nat → ClassId) (A : Nat → Prop) (ad : Nat → Nat) (a : St) (th dd : Int32) (kp : Nat → Nat → Int32) (hI : Inv a) (c9 : Nat) (hc : (c9 : Int) < nc a) (hn : 0 < np a) : Met l yX5_leap wsX5_leap ({ frames := 3, cells := 0, slots := 0, locals := 65 }) (PcG D (tysX cA) A (wM cA ad a th dd kp) [.ref (ad 0), .int (zI (c9 : Int))]) (va_Qv (fun ws' => ws' = wM cA ad (ljS a c9) th dd kp) (gB D A) A) 0 0 A := by
  refine g_met (cc := cX5_leap) (maxL := 3) (ret := none) (own := RX5) rfl (by decide) rfl (Nat.le_of_ble_eq_true rfl) ?_
  intro p e s m below meth c E
  have hin5 : ∀ w ∈ u_ws RX5 TX5 19, w ∈ wsX5_leap := by decide +kernel
  obtain ⟨⟨hn0, hn6, hc0, hc3⟩, hPI, hCI, hFr⟩ := id hI
  have hci := hCI c9 hc
  unfold CI at hci
  have hlp : ¬ a 3 c9 0 = 0 := fun q => by have h := hci.1; rw [lp, q] at h; exact absurd h (by decide)
  have hj := jmpO_b hI hc hn
  have hjI := jmpS_i hI hc hn
  have hjP : (jmpP a c9 : Int) = jmpO a c9 := by rw [jmpP]; omega
  have hPI2 := hjI.2.1 (jmpP a c9) (by rw [jmpS_np]; omega)
  have hPj := hPI2.1
  have hcl := hPI2.2
  have hPj2 := hPj
  unfold PO at hPj2
  have hsqj := sq_le (e := sd (jmpS a c9) (jmpP a c9)) (by omega)
  have hlfj := lf_b (e := sd (jmpS a c9) (jmpP a c9)) (b := bl (jmpS a c9) (jmpP a c9)) (by omega)
  have hlbj := lb_b (e := sd (jmpS a c9) (jmpP a c9)) (b := bl (jmpS a c9) (jmpP a c9)) (by omega)
  have hlpj : ¬ jmpS a c9 3 c9 0 = 0 := by rw [jmpS, up3_n (by omega)]; exact hlp
  have hon : on (jmpS a c9) c9 = jmpO a c9 := on_s (by omega)
  have hcal : cal (topS (jmpS a c9) (jmpP a c9)) (jmpP a c9) = cal (jmpS a c9) (jmpP a c9) := cal_up (by omega)
  have hx1 : topS (jmpS a c9) (jmpP a c9) 4 0 (cal (jmpS a c9) (jmpP a c9)).toNat = (jmpS a c9) 4 0 (cal (jmpS a c9) (jmpP a c9)).toNat := up3_n (by omega)
  have hx2 : up3 (topS (jmpS a c9) (jmpP a c9)) 4 0 (cal (jmpS a c9) (jmpP a c9)).toNat ((jmpS a c9) 4 0 (cal (jmpS a c9) (jmpP a c9)).toNat + zI 1) 3 c9 2 = (jmpS a c9) 3 c9 2 := by rw [up3_n (by omega), topS, up3_n (by omega)]
  refine g_loc (lv' := [(0, .ref (ad 0)), (1, .int (zI (c9 : Int)))]) ⟨rfl, rfl, trivial⟩ ?_
  refine g_aload_n E dX5_leap_0 rfl ?_
  refine gm_M_where E  hin5 (by decide +kernel) dX5_leap_1 ?_
  refine g_iload_n E dX5_leap_4 rfl ?_
  refine g_aload_n E dX5_leap_5 rfl ?_
  refine gm_M_where E  hin5 (by decide +kernel) dX5_leap_6 ?_
  refine g_iload_n E dX5_leap_9 rfl ?_
  first | refine lm_whereN E hlp (by omega) dX5_leap_10 ?_ | refine lm_where E hlp (by omega) dX5_leap_10 ?_
  refine g_iconst E dX5_leap_11 ?_
  refine g_icmp_ne (tgt := 19) E dX5_leap_12 (by decide) (by omega) (by omega) (fun c_12 => ?_) (fun c_12 => ?_)
  · have hjs : (on a c9 + lp a c9) % np a = jmpO a c9 := by rw [jmpO, if_neg (by omega)]
    refine g_aload_n E dX5_leap_19 rfl ?_
    refine gm_M_where E  hin5 (by decide +kernel) dX5_leap_20 ?_
    refine g_iload_n E dX5_leap_23 rfl ?_
    first | refine lm_whereN E hlp (by omega) dX5_leap_24 ?_ | refine lm_where E hlp (by omega) dX5_leap_24 ?_
    refine g_aload_n E dX5_leap_25 rfl ?_
    refine gm_M_leaps E  hin5 (by decide +kernel) dX5_leap_26 ?_
    refine g_iload_n E dX5_leap_29 rfl ?_
    first | refine lm_leapsN E (by omega) dX5_leap_30 ?_ | refine lm_leaps E (by omega) dX5_leap_30 ?_
    refine g_iadd E dX5_leap_31 ?_
    refine g_aload_n E dX5_leap_32 rfl ?_
    refine gm_M_piles E  hin5 (by decide +kernel) dX5_leap_33 ?_
    refine g_irem E dX5_leap_36 (by omega) (by omega) ?_
    first | refine sm_whereN E hlp (by omega) dX5_leap_37 ?_ | refine sm_where E hlp (by omega) dX5_leap_37 ?_
    refine g_st (ws' := wM cA ad (jmpS a c9) th dd kp) (congrArg (fun z => wM cA ad (up3 a 3 c9 1 (zI z)) th dd kp) hjs) rfl rfl ?_
    refine g_aload_n E dX5_leap_38 rfl ?_
    refine gm_M_where E  hin5 (by decide +kernel) dX5_leap_39 ?_
    refine g_iload_n E dX5_leap_42 rfl ?_
    first | refine lm_whereN E hlpj (by omega) dX5_leap_43 ?_ | refine lm_where E hlpj (by omega) dX5_leap_43 ?_
    rw [hon]
    refine g_top (v' := .int (zI (jmpP a c9 : Int))) (by rw [hjP]) ?_
    refine g_istore_n E dX5_leap_44 (by decide) ?_
    refine g_aload_n E dX5_leap_45 rfl ?_
    refine gm_M_many E  hin5 (by decide +kernel) dX5_leap_46 ?_
    refine g_iload_n E dX5_leap_49 rfl ?_
    first | refine lm_manyN E (by omega) dX5_leap_50 ?_ | refine lm_many E (by omega) dX5_leap_50 ?_
    refine g_if_eq (tgt := 73) E dX5_leap_51 (by decide) (by omega) (fun c_51 => ?_) (fun c_51 => ?_)
    · have hbr : ¬ brk (jmpS a c9) (jmpP a c9) = true := fun q => by have h := brk_b hPj q; omega
      exact g_vret E (by rw [ljS, if_neg hbr]) dX5_leap_73
    · refine g_aload_n E dX5_leap_54 rfl ?_
      refine g_iload_n E dX5_leap_55 rfl ?_
      refine g_aload_n E dX5_leap_56 rfl ?_
      refine gm_M_many E  hin5 (by decide +kernel) dX5_leap_57 ?_
      refine g_iload_n E dX5_leap_60 rfl ?_
      first | refine lm_manyN E (by omega) dX5_leap_61 ?_ | refine lm_many E (by omega) dX5_leap_61 ?_
      refine g_callVi (T := TX5) (ci := 5) (n := 2) (As := [_, _]) (rest := _) E (m_layers l D cA A ad _ _ _ _ _ (by omega) (by assumption) _ (by omega)) gX5_leap_X5_layers rfl ⟨rfl, rfl⟩ (by decide +kernel) ⟨Nat.le_of_ble_eq_true rfl, Nat.le_of_ble_eq_true rfl⟩ obM rfl rfl rfl (Nat.le_of_ble_eq_true rfl) ⟨Nat.le_of_ble_eq_true rfl, Nat.le_of_ble_eq_true rfl⟩ dX5_leap_62 ?_
      rintro r_62 ws_62 ⟨rfl, rfl⟩
      refine g_aload_n E dX5_leap_65 rfl ?_
      refine g_iload_n E dX5_leap_66 rfl ?_
      refine g_callVi (T := TX5) (ci := 5) (n := 1) (As := [_]) (rest := _) E (m_full l D cA A ad _ _ _ _ _ (by omega) (by assumption)) gX5_leap_X5_full rfl ⟨rfl, rfl⟩ (by decide +kernel) ⟨Nat.le_of_ble_eq_true rfl, Nat.le_of_ble_eq_true rfl⟩ obM rfl rfl rfl (Nat.le_of_ble_eq_true rfl) ⟨Nat.le_of_ble_eq_true rfl, Nat.le_of_ble_eq_true rfl⟩ dX5_leap_67 ?_
      rintro r_67 ws_67 ⟨rfl, rfl⟩
      refine g_icmp_ne (tgt := 74) E dX5_leap_70 (by decide) (by omega) (by omega) (fun c_70 => ?_) (fun c_70 => ?_)
      · have hbr : brk (jmpS a c9) (jmpP a c9) = true := decide_eq_true c_70
        refine g_aload_n E dX5_leap_74 rfl ?_
        refine gm_M_many E  hin5 (by decide +kernel) dX5_leap_75 ?_
        refine g_iload_n E dX5_leap_78 rfl ?_
        refine g_dup2 E dX5_leap_79 rfl rfl ?_
        first | refine lm_manyN E (by omega) dX5_leap_80 ?_ | refine lm_many E (by omega) dX5_leap_80 ?_
        refine g_iconst E dX5_leap_81 ?_
        refine g_isub E dX5_leap_82 ?_
        first | refine sm_manyN E (by omega) dX5_leap_83 ?_ | refine sm_many E (by omega) dX5_leap_83 ?_
        refine g_st (ws' := wM cA ad (topS (jmpS a c9) (jmpP a c9)) th dd kp) rfl rfl rfl ?_
        refine g_aload_n E dX5_leap_84 rfl ?_
        refine g_aload_n E dX5_leap_85 rfl ?_
        refine gm_M_calibres E  hin5 (by decide +kernel) dX5_leap_86 ?_
        refine g_iload_n E dX5_leap_89 rfl ?_
        first | refine lm_calibresN E (by omega) dX5_leap_90 ?_ | refine lm_calibres E (by omega) dX5_leap_90 ?_
        rw [hcal]
        refine g_top (v' := .int (zI ((cal (jmpS a c9) (jmpP a c9)).toNat : Int))) (by rw [show ((cal (jmpS a c9) (jmpP a c9)).toNat : Int) = cal (jmpS a c9) (jmpP a c9) by omega]) ?_
        refine g_iconst E dX5_leap_91 ?_
        refine g_iconst E dX5_leap_92 ?_
        refine g_callVv (T := TX5) (ci := 5) (n := 3) (As := [_, _, _]) (rest := _) E (m_more l D cA A ad _ _ _ _ (cal (jmpS a c9) (jmpP a c9)).toNat (by omega) 1 (by decide) _) gX5_leap_X5_more rfl ⟨rfl, rfl⟩ (by decide +kernel) ⟨Nat.le_of_ble_eq_true rfl, Nat.le_of_ble_eq_true rfl⟩ obM rfl rfl rfl (Nat.le_of_ble_eq_true rfl) ⟨Nat.le_of_ble_eq_true rfl, Nat.le_of_ble_eq_true rfl⟩ dX5_leap_93 ?_
        rintro ws_93 rfl
        refine g_st (ws' := wM cA ad (up3 (topS (jmpS a c9) (jmpP a c9)) 4 0 (cal (jmpS a c9) (jmpP a c9)).toNat ((jmpS a c9) 4 0 (cal (jmpS a c9) (jmpP a c9)).toNat + zI 1)) th dd kp) (congrArg (fun q : Int32 => wM cA ad (up3 (topS (jmpS a c9) (jmpP a c9)) 4 0 (cal (jmpS a c9) (jmpP a c9)).toNat (q + zI 1)) th dd kp) hx1) rfl rfl ?_
        refine g_aload_n E dX5_leap_96 rfl ?_
        refine gm_M_rolled E  hin5 (by decide +kernel) dX5_leap_97 ?_
        refine g_iload_n E dX5_leap_100 rfl ?_
        refine g_dup2 E dX5_leap_101 rfl rfl ?_
        first | refine lm_rolledN E (by omega) dX5_leap_102 ?_ | refine lm_rolled E (by omega) dX5_leap_102 ?_
        refine g_iconst E dX5_leap_103 ?_
        refine g_iaddR E dX5_leap_104 ?_
        first | refine sm_rolledN E (by omega) dX5_leap_105 ?_ | refine sm_rolled E (by omega) dX5_leap_105 ?_
        exact g_vret E (by rw [ljS, if_pos hbr]; exact congrArg (fun q : Int32 => wM cA ad (up3 (up3 (topS (jmpS a c9) (jmpP a c9)) 4 0 (cal (jmpS a c9) (jmpP a c9)).toNat ((jmpS a c9) 4 0 (cal (jmpS a c9) (jmpP a c9)).toNat + zI 1)) 3 c9 2 (q + zI 1)) th dd kp) hx2) dX5_leap_106
      · have hbr : ¬ brk (jmpS a c9) (jmpP a c9) = true := fun q => absurd c_70 (of_decide_eq_true q)
        exact g_vret E (by rw [ljS, if_neg hbr]) dX5_leap_73
  · have hjs : (0 : Int) = jmpO a c9 := by rw [jmpO, if_pos (Or.inl c_12)]
    refine g_iconst E dX5_leap_15 ?_
    refine g_goto (tgt := 37) E dX5_leap_16 (by decide) ?_
    first | refine sm_whereN E hlp (by omega) dX5_leap_37 ?_ | refine sm_where E hlp (by omega) dX5_leap_37 ?_
    refine g_st (ws' := wM cA ad (jmpS a c9) th dd kp) (congrArg (fun z => wM cA ad (up3 a 3 c9 1 (zI z)) th dd kp) hjs) rfl rfl ?_
    refine g_aload_n E dX5_leap_38 rfl ?_
    refine gm_M_where E  hin5 (by decide +kernel) dX5_leap_39 ?_
    refine g_iload_n E dX5_leap_42 rfl ?_
    first | refine lm_whereN E hlpj (by omega) dX5_leap_43 ?_ | refine lm_where E hlpj (by omega) dX5_leap_43 ?_
    rw [hon]
    refine g_top (v' := .int (zI (jmpP a c9 : Int))) (by rw [hjP]) ?_
    refine g_istore_n E dX5_leap_44 (by decide) ?_
    refine g_aload_n E dX5_leap_45 rfl ?_
    refine gm_M_many E  hin5 (by decide +kernel) dX5_leap_46 ?_
    refine g_iload_n E dX5_leap_49 rfl ?_
    first | refine lm_manyN E (by omega) dX5_leap_50 ?_ | refine lm_many E (by omega) dX5_leap_50 ?_
    refine g_if_eq (tgt := 73) E dX5_leap_51 (by decide) (by omega) (fun c_51 => ?_) (fun c_51 => ?_)
    · have hbr : ¬ brk (jmpS a c9) (jmpP a c9) = true := fun q => by have h := brk_b hPj q; omega
      exact g_vret E (by rw [ljS, if_neg hbr]) dX5_leap_73
    · refine g_aload_n E dX5_leap_54 rfl ?_
      refine g_iload_n E dX5_leap_55 rfl ?_
      refine g_aload_n E dX5_leap_56 rfl ?_
      refine gm_M_many E  hin5 (by decide +kernel) dX5_leap_57 ?_
      refine g_iload_n E dX5_leap_60 rfl ?_
      first | refine lm_manyN E (by omega) dX5_leap_61 ?_ | refine lm_many E (by omega) dX5_leap_61 ?_
      refine g_callVi (T := TX5) (ci := 5) (n := 2) (As := [_, _]) (rest := _) E (m_layers l D cA A ad _ _ _ _ _ (by omega) (by assumption) _ (by omega)) gX5_leap_X5_layers rfl ⟨rfl, rfl⟩ (by decide +kernel) ⟨Nat.le_of_ble_eq_true rfl, Nat.le_of_ble_eq_true rfl⟩ obM rfl rfl rfl (Nat.le_of_ble_eq_true rfl) ⟨Nat.le_of_ble_eq_true rfl, Nat.le_of_ble_eq_true rfl⟩ dX5_leap_62 ?_
      rintro r_62 ws_62 ⟨rfl, rfl⟩
      refine g_aload_n E dX5_leap_65 rfl ?_
      refine g_iload_n E dX5_leap_66 rfl ?_
      refine g_callVi (T := TX5) (ci := 5) (n := 1) (As := [_]) (rest := _) E (m_full l D cA A ad _ _ _ _ _ (by omega) (by assumption)) gX5_leap_X5_full rfl ⟨rfl, rfl⟩ (by decide +kernel) ⟨Nat.le_of_ble_eq_true rfl, Nat.le_of_ble_eq_true rfl⟩ obM rfl rfl rfl (Nat.le_of_ble_eq_true rfl) ⟨Nat.le_of_ble_eq_true rfl, Nat.le_of_ble_eq_true rfl⟩ dX5_leap_67 ?_
      rintro r_67 ws_67 ⟨rfl, rfl⟩
      refine g_icmp_ne (tgt := 74) E dX5_leap_70 (by decide) (by omega) (by omega) (fun c_70 => ?_) (fun c_70 => ?_)
      · have hbr : brk (jmpS a c9) (jmpP a c9) = true := decide_eq_true c_70
        refine g_aload_n E dX5_leap_74 rfl ?_
        refine gm_M_many E  hin5 (by decide +kernel) dX5_leap_75 ?_
        refine g_iload_n E dX5_leap_78 rfl ?_
        refine g_dup2 E dX5_leap_79 rfl rfl ?_
        first | refine lm_manyN E (by omega) dX5_leap_80 ?_ | refine lm_many E (by omega) dX5_leap_80 ?_
        refine g_iconst E dX5_leap_81 ?_
        refine g_isub E dX5_leap_82 ?_
        first | refine sm_manyN E (by omega) dX5_leap_83 ?_ | refine sm_many E (by omega) dX5_leap_83 ?_
        refine g_st (ws' := wM cA ad (topS (jmpS a c9) (jmpP a c9)) th dd kp) rfl rfl rfl ?_
        refine g_aload_n E dX5_leap_84 rfl ?_
        refine g_aload_n E dX5_leap_85 rfl ?_
        refine gm_M_calibres E  hin5 (by decide +kernel) dX5_leap_86 ?_
        refine g_iload_n E dX5_leap_89 rfl ?_
        first | refine lm_calibresN E (by omega) dX5_leap_90 ?_ | refine lm_calibres E (by omega) dX5_leap_90 ?_
        rw [hcal]
        refine g_top (v' := .int (zI ((cal (jmpS a c9) (jmpP a c9)).toNat : Int))) (by rw [show ((cal (jmpS a c9) (jmpP a c9)).toNat : Int) = cal (jmpS a c9) (jmpP a c9) by omega]) ?_
        refine g_iconst E dX5_leap_91 ?_
        refine g_iconst E dX5_leap_92 ?_
        refine g_callVv (T := TX5) (ci := 5) (n := 3) (As := [_, _, _]) (rest := _) E (m_more l D cA A ad _ _ _ _ (cal (jmpS a c9) (jmpP a c9)).toNat (by omega) 1 (by decide) _) gX5_leap_X5_more rfl ⟨rfl, rfl⟩ (by decide +kernel) ⟨Nat.le_of_ble_eq_true rfl, Nat.le_of_ble_eq_true rfl⟩ obM rfl rfl rfl (Nat.le_of_ble_eq_true rfl) ⟨Nat.le_of_ble_eq_true rfl, Nat.le_of_ble_eq_true rfl⟩ dX5_leap_93 ?_
        rintro ws_93 rfl
        refine g_st (ws' := wM cA ad (up3 (topS (jmpS a c9) (jmpP a c9)) 4 0 (cal (jmpS a c9) (jmpP a c9)).toNat ((jmpS a c9) 4 0 (cal (jmpS a c9) (jmpP a c9)).toNat + zI 1)) th dd kp) (congrArg (fun q : Int32 => wM cA ad (up3 (topS (jmpS a c9) (jmpP a c9)) 4 0 (cal (jmpS a c9) (jmpP a c9)).toNat (q + zI 1)) th dd kp) hx1) rfl rfl ?_
        refine g_aload_n E dX5_leap_96 rfl ?_
        refine gm_M_rolled E  hin5 (by decide +kernel) dX5_leap_97 ?_
        refine g_iload_n E dX5_leap_100 rfl ?_
        refine g_dup2 E dX5_leap_101 rfl rfl ?_
        first | refine lm_rolledN E (by omega) dX5_leap_102 ?_ | refine lm_rolled E (by omega) dX5_leap_102 ?_
        refine g_iconst E dX5_leap_103 ?_
        refine g_iaddR E dX5_leap_104 ?_
        first | refine sm_rolledN E (by omega) dX5_leap_105 ?_ | refine sm_rolled E (by omega) dX5_leap_105 ?_
        exact g_vret E (by rw [ljS, if_pos hbr]; exact congrArg (fun q : Int32 => wM cA ad (up3 (up3 (topS (jmpS a c9) (jmpP a c9)) 4 0 (cal (jmpS a c9) (jmpP a c9)).toNat ((jmpS a c9) 4 0 (cal (jmpS a c9) (jmpP a c9)).toNat + zI 1)) 3 c9 2 (q + zI 1)) th dd kp) hx2) dX5_leap_106
      · have hbr : ¬ brk (jmpS a c9) (jmpP a c9) = true := fun q => absurd c_70 (of_decide_eq_true q)
        exact g_vret E (by rw [ljS, if_neg hbr]) dX5_leap_73
set_option maxHeartbeats 800000 in
set_option maxRecDepth 100000 in
/-- dayOn() -/
theorem m_dayOn (l : Launch) (D : va_G) (cA : Nat → ClassId) (A : Nat → Prop) (ad : Nat → Nat) (a : St) (th dd : Int32) (kp : Nat → Nat → Int32) (hI : Inv a) : Met l yX5_dayOn wsX5_dayOn ({ frames := 5, cells := 0, slots := 0, locals := 118 }) (PcG D (tysX cA) A (wM cA ad a th dd kp) [.ref (ad 0)]) (va_Qv (fun ws' => ws' = wM cA ad (dayS a) th dd kp) (gB D A) A) 0 0 A := by
  refine g_met (cc := cX5_dayOn) (maxL := 4) (ret := none) (own := RX5) rfl (by decide) rfl (Nat.le_of_ble_eq_true rfl) ?_
  intro p e s m below meth c E
  have hin5 : ∀ w ∈ u_ws RX5 TX5 19, w ∈ wsX5_dayOn := by decide +kernel
  obtain ⟨⟨hn0, hn6, hc0, hc3⟩, hPI, hCI, hFr⟩ := id hI
  refine g_loc (lv' := [(0, .ref (ad 0))]) ⟨rfl, trivial⟩ ?_
  refine g_iconst E dX5_dayOn_0 ?_
  refine g_istore_n E dX5_dayOn_1 (by decide) ?_
  have key_pp : ∀ (n_pp pp : Nat), (pp : Int) ≤ np a → np a + 1 ≤ (pp : Int) + n_pp → GW p l e (headSpec wsX5_dayOn ({ frames := 5, cells := 0, slots := 0, locals := 118 })).room s m ([.ref (ad 0)] : List Value).toArray below meth c (MQ below (va_Qv (fun ws' => ws' = wM cA ad (dayS a) th dd kp) (gB D A) A) ([.ref (ad 0)] : List Value).toArray s 0 0 A) D A 4 (wM cA ad (raAll a pp) th dd kp) 0 0 2 [(0, .ref (ad 0)), (1, .int (zI (pp : Int)))] [] := by
    intro n_pp
    induction n_pp with
    | zero => intro pp h1 h2; exact absurd h2 (by omega)
    | succ n_pp ih_pp =>
      intro pp hle_pp hfu_pp
      have hik := raAll_i hI pp hle_pp
      have hek := raAll_e a pp
      have hnk : np (raAll a pp) = np a := congrArg Int32.toInt (hek 0 0 0 (by decide))
      have hck : nc (raAll a pp) = nc a := congrArg Int32.toInt (hek 0 0 1 (by decide))
      refine g_iload_n E dX5_dayOn_2 rfl ?_
      refine g_aload_n E dX5_dayOn_3 rfl ?_
      refine gm_M_piles E  hin5 (by decide +kernel) dX5_dayOn_4 ?_
      refine g_icmp_ge (tgt := 83) E dX5_dayOn_7 (by decide) (by omega) (by omega) (fun c_7 => ?_) (fun c_7 => ?_)
      · obtain rfl : pp = (np a).toNat := by omega
        refine g_iconst E dX5_dayOn_83 ?_
        refine g_istore_n E dX5_dayOn_84 (by decide) ?_
        have key_cc9 : ∀ (n_cc9 cc9 : Nat), (cc9 : Int) ≤ nc a → nc a + 1 ≤ (cc9 : Int) + n_cc9 → (0 < np a ∨ cc9 = 0) → GW p l e (headSpec wsX5_dayOn ({ frames := 5, cells := 0, slots := 0, locals := 118 })).room s m ([.ref (ad 0)] : List Value).toArray below meth c (MQ below (va_Qv (fun ws' => ws' = wM cA ad (dayS a) th dd kp) (gB D A) A) ([.ref (ad 0)] : List Value).toArray s 0 0 A) D A 4 (wM cA ad ((jumpAll (raAll a (np a).toNat) cc9).1) th dd kp) 0 0 85 [(0, .ref (ad 0)), (1, .int (zI (cc9 : Int)))] [] := by
          intro n_cc9
          induction n_cc9 with
          | zero => intro cc9 h1 h2; exact absurd h2 (by omega)
          | succ n_cc9 ih_cc9 =>
            intro cc9 hle_cc9 hfu_cc9 hi0_cc9
            have hj : Inv (jumpAll (raAll a (np a).toNat) cc9).1 ∧ np (jumpAll (raAll a (np a).toNat) cc9).1 = np (raAll a (np a).toNat) ∧ nc (jumpAll (raAll a (np a).toNat) cc9).1 = nc (raAll a (np a).toNat) := (by rcases hi0_cc9 with h | h; exact jumpAll_i hik (by omega) cc9 (by omega); subst h; exact ⟨hik, rfl, rfl⟩)
            obtain ⟨hji, hjn, hjc⟩ := hj
            refine g_iload_n E dX5_dayOn_85 rfl ?_
            refine g_aload_n E dX5_dayOn_86 rfl ?_
            refine gm_M_cats E  hin5 (by decide +kernel) dX5_dayOn_87 ?_
            refine g_icmp_ge (tgt := 111) E dX5_dayOn_90 (by decide) (by omega) (by omega) (fun c_90 => ?_) (fun c_90 => ?_)
            · exact g_vret E (by rw [dayS, wM_day, dayM (R := (raAll a (np a).toNat)) (n := cc9) (by omega)]) dX5_dayOn_111
            · refine g_aload_n E dX5_dayOn_93 rfl ?_
              refine gm_M_piles E  hin5 (by decide +kernel) dX5_dayOn_94 ?_
              refine g_if_le (tgt := 111) E dX5_dayOn_97 (by decide) (by omega) (fun c_97 => ?_) (fun c_97 => ?_)
              · exact g_vret E (by rw [dayS, wM_day, dayM (R := (raAll a (np a).toNat)) (n := cc9) (by omega)]) dX5_dayOn_111
              · refine g_aload_n E dX5_dayOn_100 rfl ?_
                refine g_iload_n E dX5_dayOn_101 rfl ?_
                refine g_callVv (T := TX5) (ci := 5) (n := 1) (As := [_]) (rest := _) E (m_leap l D cA A ad (jumpAll (raAll a (np a).toNat) cc9).1 _ _ _ hji _ (by omega) (by omega)) gX5_dayOn_X5_leap rfl ⟨rfl, rfl⟩ (by decide +kernel) ⟨Nat.le_of_ble_eq_true rfl, Nat.le_of_ble_eq_true rfl⟩ obM rfl rfl rfl (Nat.le_of_ble_eq_true rfl) ⟨Nat.le_of_ble_eq_true rfl, Nat.le_of_ble_eq_true rfl⟩ dX5_dayOn_102 ?_
                rintro ws_102 rfl
                refine g_iinc E dX5_dayOn_105 rfl (by decide) ?_
                refine g_goto (tgt := 85) E dX5_dayOn_108 (by decide) ?_
                refine g_st (ws' := wM cA ad ((jumpAll (raAll a (np a).toNat) (cc9 + 1)).1) th dd kp) (rfl) rfl rfl ?_
                refine g_loc (lv' := [(0, .ref (ad 0)), (1, .int (zI ((cc9 + 1) : Int)))]) ⟨rfl, rfl, trivial⟩ ?_
                exact ih_cc9 (cc9 + 1) (by omega) (by omega) (Or.inl (by omega))
        refine g_loc (lv' := [(0, .ref (ad 0)), (1, .int (zI (0 : Int)))]) ⟨rfl, rfl, trivial⟩ ?_
        exact key_cc9 ((nc a) + 1).toNat.succ 0 (by omega) (by omega) (Or.inr rfl)
      · have hPOp := (hik.2.1 pp (by omega)).1; have hPOb := hPOp; unfold PO at hPOb; have hsqb := sq_le (e := sd (raAll a pp) pp) (by omega)
        refine g_iconst E dX5_dayOn_10 ?_
        refine g_istore_n E dX5_dayOn_11 (by decide) ?_
        have key_kk : ∀ (n_kk kk : Nat), (kk : Int) ≤ bl (raAll a pp) pp → bl (raAll a pp) pp + 1 ≤ (kk : Int) + n_kk → GW p l e (headSpec wsX5_dayOn ({ frames := 5, cells := 0, slots := 0, locals := 118 })).room s m ([.ref (ad 0)] : List Value).toArray below meth c (MQ below (va_Qv (fun ws' => ws' = wM cA ad (dayS a) th dd kp) (gB D A) A) ([.ref (ad 0)] : List Value).toArray s 0 0 A) D A 4 (wM cA ad ((raS (raAll a pp) pp ((raAll a pp) 0 0 3) kk)) th dd kp) 0 0 12 [(0, .ref (ad 0)), (1, .int (zI (pp : Int))), (2, .int (zI (kk : Int)))] [] := by
          intro n_kk
          induction n_kk with
          | zero => intro kk h1 h2; exact absurd h2 (by omega)
          | succ n_kk ih_kk =>
            intro kk hle_kk hfu_kk
            have he := ra_e (raAll a pp) pp ((raAll a pp) 0 0 3) kk
            have hbk := he.bl (p := pp)
            have hPk := he.po hPOp
            obtain ⟨hs1, hs6, hb0, hb1⟩ := id hPk
            have hsq := sq_le (e := sd (raS (raAll a pp) pp ((raAll a pp) 0 0 3) kk) pp) ⟨hs1, hs6⟩
            have honb := onN_b (sd (raS (raAll a pp) pp ((raAll a pp) 0 0 3) kk) pp) (bl (raS (raAll a pp) pp ((raAll a pp) 0 0 3) kk) pp) kk
            refine g_iload_n E dX5_dayOn_12 rfl ?_
            refine g_aload_n E dX5_dayOn_13 rfl ?_
            refine gm_M_many E  hin5 (by decide +kernel) dX5_dayOn_14 ?_
            refine g_iload_n E dX5_dayOn_17 rfl ?_
            first | refine lm_manyN E (by omega) dX5_dayOn_18 ?_ | refine lm_many E (by omega) dX5_dayOn_18 ?_
            refine g_icmp_ge (tgt := 77) E dX5_dayOn_19 (by decide) (by omega) (by omega) (fun c_19 => ?_) (fun c_19 => ?_)
            · obtain rfl : kk = (bl (raAll a pp) pp).toNat := by omega
              refine g_iinc E dX5_dayOn_77 rfl (by decide) ?_
              refine g_goto (tgt := 2) E dX5_dayOn_80 (by decide) ?_
              refine g_st (ws' := wM cA ad (raAll a (pp + 1)) th dd kp) (rfl) rfl rfl ?_
              refine g_loc (lv' := [(0, .ref (ad 0)), (1, .int (zI ((pp + 1) : Int)))]) ⟨rfl, rfl, trivial⟩ ?_
              exact ih_pp (pp + 1) (by omega) (by omega)
            · refine g_aload_n E dX5_dayOn_22 rfl ?_
              refine g_iload_n E dX5_dayOn_23 rfl ?_
              refine g_iload_n E dX5_dayOn_24 rfl ?_
              refine g_callVi (T := TX5) (ci := 5) (n := 2) (As := [_, _]) (rest := _) E (m_on l D cA A ad _ _ _ _ _ (by omega) (by assumption) _ (by omega)) gX5_dayOn_X5_on rfl ⟨rfl, rfl⟩ (by decide +kernel) ⟨Nat.le_of_ble_eq_true rfl, Nat.le_of_ble_eq_true rfl⟩ obM rfl rfl rfl (Nat.le_of_ble_eq_true rfl) ⟨Nat.le_of_ble_eq_true rfl, Nat.le_of_ble_eq_true rfl⟩ dX5_dayOn_25 ?_
              rintro r_25 ws_25 ⟨rfl, rfl⟩
              refine g_if_ne (tgt := 40) E dX5_dayOn_28 (by decide) (by omega) (fun c_28 => ?_) (fun c_28 => ?_)
              · have hst := ra_tM (a := raAll a pp) (p := pp) (n := kk) (rain := (raAll a pp) 0 0 3) ((cv_on hPk ⟨by omega, by omega⟩).mp (by omega))
                refine g_aload_n E dX5_dayOn_40 rfl ?_
                refine gm_M_rain E  hin5 (by decide +kernel) dX5_dayOn_41 ?_
                rw [he 0 0 3 (by decide)]
                refine g_iconst E dX5_dayOn_44 ?_
                refine g_idivR E dX5_dayOn_45 (by decide) ?_
                refine g_istore_n E dX5_dayOn_46 (by decide) ?_
                refine g_aload_n E dX5_dayOn_47 rfl ?_
                refine gm_M_rust E  hin5 (by decide +kernel) dX5_dayOn_48 ?_
                refine g_bipush E dX5_dayOn_51 (by decide) ?_
                refine g_iload_n E dX5_dayOn_53 rfl ?_
                refine g_imul E dX5_dayOn_54 ?_
                refine g_iload_n E dX5_dayOn_55 rfl ?_
                refine g_iadd E dX5_dayOn_56 ?_
                refine g_bipush E dX5_dayOn_57 (by decide) ?_
                refine g_aload_n E dX5_dayOn_59 rfl ?_
                refine g_iload_n E dX5_dayOn_60 rfl ?_
                refine g_iload_n E dX5_dayOn_61 rfl ?_
                refine g_callVi (T := TX5) (ci := 5) (n := 2) (As := [_, _]) (rest := _) E (m_rustOf l D cA A ad _ _ _ _ _ (by omega) _ (by omega)) gX5_dayOn_X5_rustOf rfl ⟨rfl, rfl⟩ (by decide +kernel) ⟨Nat.le_of_ble_eq_true rfl, Nat.le_of_ble_eq_true rfl⟩ obM rfl rfl rfl (Nat.le_of_ble_eq_true rfl) ⟨Nat.le_of_ble_eq_true rfl, Nat.le_of_ble_eq_true rfl⟩ dX5_dayOn_62 ?_
                rintro r_62 ws_62 ⟨rfl, rfl⟩
                refine g_iload_n E dX5_dayOn_65 rfl ?_
                refine g_iaddR E dX5_dayOn_66 ?_
                refine g_mmin E (by decide +kernel) (by decide +kernel) (by decide +kernel) (by decide +kernel) (Nat.le_of_ble_eq_true rfl) (Nat.le_of_ble_eq_true rfl) (Nat.le_of_ble_eq_true rfl) (Nat.le_of_ble_eq_true rfl) dX5_dayOn_67 ?_
                refine sm_rust (p9 := pp) (k9 := kk) E ⟨by omega, by omega⟩ (by omega) dX5_dayOn_70 ?_
                refine g_iinc E dX5_dayOn_71 rfl (by decide) ?_
                refine g_goto (tgt := 12) E dX5_dayOn_74 (by decide) ?_
                refine g_st (ws' := wM cA ad ((raS (raAll a pp) pp ((raAll a pp) 0 0 3) (kk + 1))) th dd kp) (congrArg (fun q : St => wM cA ad q th dd kp) hst.symm) rfl rfl ?_
                refine g_loc (lv' := [(0, .ref (ad 0)), (1, .int (zI (pp : Int))), (2, .int (zI ((kk + 1) : Int)))]) ⟨rfl, rfl, rfl, trivial⟩ ?_
                exact ih_kk (kk + 1) (by omega) (by omega)
              · have hst := ra_fM (a := raAll a pp) (p := pp) (n := kk) (rain := (raAll a pp) 0 0 3) ((cv_on0 hPk ⟨by omega, by omega⟩).mp (by omega))
                refine g_iconst E dX5_dayOn_31 ?_
                refine g_aload_n E dX5_dayOn_32 rfl ?_
                refine gm_M_rain E  hin5 (by decide +kernel) dX5_dayOn_33 ?_
                rw [he 0 0 3 (by decide)]
                refine g_iaddR E dX5_dayOn_36 ?_
                refine g_goto (tgt := 46) E dX5_dayOn_37 (by decide) ?_
                refine g_istore_n E dX5_dayOn_46 (by decide) ?_
                refine g_aload_n E dX5_dayOn_47 rfl ?_
                refine gm_M_rust E  hin5 (by decide +kernel) dX5_dayOn_48 ?_
                refine g_bipush E dX5_dayOn_51 (by decide) ?_
                refine g_iload_n E dX5_dayOn_53 rfl ?_
                refine g_imul E dX5_dayOn_54 ?_
                refine g_iload_n E dX5_dayOn_55 rfl ?_
                refine g_iadd E dX5_dayOn_56 ?_
                refine g_bipush E dX5_dayOn_57 (by decide) ?_
                refine g_aload_n E dX5_dayOn_59 rfl ?_
                refine g_iload_n E dX5_dayOn_60 rfl ?_
                refine g_iload_n E dX5_dayOn_61 rfl ?_
                refine g_callVi (T := TX5) (ci := 5) (n := 2) (As := [_, _]) (rest := _) E (m_rustOf l D cA A ad _ _ _ _ _ (by omega) _ (by omega)) gX5_dayOn_X5_rustOf rfl ⟨rfl, rfl⟩ (by decide +kernel) ⟨Nat.le_of_ble_eq_true rfl, Nat.le_of_ble_eq_true rfl⟩ obM rfl rfl rfl (Nat.le_of_ble_eq_true rfl) ⟨Nat.le_of_ble_eq_true rfl, Nat.le_of_ble_eq_true rfl⟩ dX5_dayOn_62 ?_
                rintro r_62 ws_62 ⟨rfl, rfl⟩
                refine g_iload_n E dX5_dayOn_65 rfl ?_
                refine g_iaddR E dX5_dayOn_66 ?_
                refine g_mmin E (by decide +kernel) (by decide +kernel) (by decide +kernel) (by decide +kernel) (Nat.le_of_ble_eq_true rfl) (Nat.le_of_ble_eq_true rfl) (Nat.le_of_ble_eq_true rfl) (Nat.le_of_ble_eq_true rfl) dX5_dayOn_67 ?_
                refine sm_rust (p9 := pp) (k9 := kk) E ⟨by omega, by omega⟩ (by omega) dX5_dayOn_70 ?_
                refine g_iinc E dX5_dayOn_71 rfl (by decide) ?_
                refine g_goto (tgt := 12) E dX5_dayOn_74 (by decide) ?_
                refine g_st (ws' := wM cA ad ((raS (raAll a pp) pp ((raAll a pp) 0 0 3) (kk + 1))) th dd kp) (congrArg (fun q : St => wM cA ad q th dd kp) hst.symm) rfl rfl ?_
                refine g_loc (lv' := [(0, .ref (ad 0)), (1, .int (zI (pp : Int))), (2, .int (zI ((kk + 1) : Int)))]) ⟨rfl, rfl, rfl, trivial⟩ ?_
                exact ih_kk (kk + 1) (by omega) (by omega)
        refine g_loc (lv' := [(0, .ref (ad 0)), (1, .int (zI (pp : Int))), (2, .int (zI (0 : Int)))]) ⟨rfl, rfl, rfl, trivial⟩ ?_
        exact key_kk ((bl (raAll a pp) pp) + 1).toNat.succ 0 (by omega) (by omega)
  refine g_loc (lv' := [(0, .ref (ad 0)), (1, .int (zI (0 : Int)))]) ⟨rfl, rfl, trivial⟩ ?_
  exact key_pp ((np a) + 1).toNat.succ 0 (by omega) (by omega)
set_option maxHeartbeats 800000 in
set_option maxRecDepth 100000 in
/-- keep() -/
theorem m_keep (l : Launch) (D : va_G) (cA : Nat → ClassId) (A : Nat → Prop) (ad : Nat → Nat) (a : St) (th dd : Int32) (kp : Nat → Nat → Int32) : Met l yX5_keep wsX5_keep ({ frames := 1, cells := 0, slots := 0, locals := 60 }) (PcG D (tysX cA) A (wM cA ad a th dd kp) [.ref (ad 0)]) (va_Qv (fun ws' => ws' = wM cA ad a th dd (kpU a kp 5)) (gB D A) A) 0 0 A := by
  refine g_met (cc := cX5_keep) (maxL := 1) (ret := none) (own := RX5) rfl (by decide) rfl (Nat.le_of_ble_eq_true rfl) ?_
  intro p e s m below meth c E
  have hin5 : ∀ w ∈ u_ws RX5 TX5 19, w ∈ wsX5_keep := by decide +kernel
  refine g_loc (lv' := [(0, .ref (ad 0))]) ⟨rfl, trivial⟩ ?_
  refine g_aload_n E dX5_keep_0 rfl ?_
  refine gm_M_many E  hin5 (by decide +kernel) dX5_keep_1 ?_
  refine g_iconst E dX5_keep_4 ?_
  refine g_aload_n E dX5_keep_5 rfl ?_
  refine gm_M_keptMany E  hin5 (by decide +kernel) dX5_keep_6 ?_
  refine g_iconst E dX5_keep_9 ?_
  refine g_bipush E dX5_keep_10 (by decide) ?_
  refine g_cpM (t0 := 4) (t1 := 9) (n := 6) (a' := a) (kp' := (kpU a kp 1)) E (by decide) (by decide) rfl rfl (by decide) (fun _ _ _ => rfl) (fun t j ht hj => by rcases (show t = 1 ∨ t = 2 ∨ t = 3 ∨ t = 4 ∨ t = 5 ∨ t = 6 ∨ t = 7 ∨ t = 8 ∨ t = 9 ∨ t = 10 ∨ t = 11 ∨ t = 12 ∨ t = 13 by omega) with rfl | rfl | rfl | rfl | rfl | rfl | rfl | rfl | rfl | rfl | rfl | rfl | rfl <;> rfl) (by decide +kernel) (by decide +kernel) (by decide +kernel) (by decide +kernel) (Nat.le_of_ble_eq_true rfl) (by decide +kernel) dX5_keep_12 ?_
  refine g_aload_n E dX5_keep_15 rfl ?_
  refine gm_M_rust E  hin5 (by decide +kernel) dX5_keep_16 ?_
  refine g_iconst E dX5_keep_19 ?_
  refine g_aload_n E dX5_keep_20 rfl ?_
  refine gm_M_keptRust E  hin5 (by decide +kernel) dX5_keep_21 ?_
  refine g_iconst E dX5_keep_24 ?_
  refine g_aload_n E dX5_keep_25 rfl ?_
  refine gm_M_rust E  hin5 (by decide +kernel) dX5_keep_26 ?_
  refine nm_rust E  dX5_keep_29 ?_
  refine g_cpM (t0 := 5) (t1 := 10) (n := 546) (a' := a) (kp' := (kpU a kp 2)) E (by decide) (by decide) rfl rfl (by decide) (fun _ _ _ => rfl) (fun t j ht hj => by rcases (show t = 1 ∨ t = 2 ∨ t = 3 ∨ t = 4 ∨ t = 5 ∨ t = 6 ∨ t = 7 ∨ t = 8 ∨ t = 9 ∨ t = 10 ∨ t = 11 ∨ t = 12 ∨ t = 13 by omega) with rfl | rfl | rfl | rfl | rfl | rfl | rfl | rfl | rfl | rfl | rfl | rfl | rfl <;> rfl) (by decide +kernel) (by decide +kernel) (by decide +kernel) (by decide +kernel) (Nat.le_of_ble_eq_true rfl) (by decide +kernel) dX5_keep_30 ?_
  refine g_aload_n E dX5_keep_33 rfl ?_
  refine gm_M_numbers E  hin5 (by decide +kernel) dX5_keep_34 ?_
  refine g_iconst E dX5_keep_37 ?_
  refine g_aload_n E dX5_keep_38 rfl ?_
  refine gm_M_keptNumbers E  hin5 (by decide +kernel) dX5_keep_39 ?_
  refine g_iconst E dX5_keep_42 ?_
  refine g_aload_n E dX5_keep_43 rfl ?_
  refine gm_M_numbers E  hin5 (by decide +kernel) dX5_keep_44 ?_
  refine nm_numbers E  dX5_keep_47 ?_
  refine g_cpM (t0 := 6) (t1 := 11) (n := 20) (a' := a) (kp' := (kpU a kp 3)) E (by decide) (by decide) rfl rfl (by decide) (fun _ _ _ => rfl) (fun t j ht hj => by rcases (show t = 1 ∨ t = 2 ∨ t = 3 ∨ t = 4 ∨ t = 5 ∨ t = 6 ∨ t = 7 ∨ t = 8 ∨ t = 9 ∨ t = 10 ∨ t = 11 ∨ t = 12 ∨ t = 13 by omega) with rfl | rfl | rfl | rfl | rfl | rfl | rfl | rfl | rfl | rfl | rfl | rfl | rfl <;> rfl) (by decide +kernel) (by decide +kernel) (by decide +kernel) (by decide +kernel) (Nat.le_of_ble_eq_true rfl) (by decide +kernel) dX5_keep_48 ?_
  refine g_aload_n E dX5_keep_51 rfl ?_
  refine gm_M_where E  hin5 (by decide +kernel) dX5_keep_52 ?_
  refine g_iconst E dX5_keep_55 ?_
  refine g_aload_n E dX5_keep_56 rfl ?_
  refine gm_M_keptWhere E  hin5 (by decide +kernel) dX5_keep_57 ?_
  refine g_iconst E dX5_keep_60 ?_
  refine g_iconst E dX5_keep_61 ?_
  refine g_cpM (t0 := 7) (t1 := 12) (n := 3) (a' := a) (kp' := (kpU a kp 4)) E (by decide) (by decide) rfl rfl (by decide) (fun _ _ _ => rfl) (fun t j ht hj => by rcases (show t = 1 ∨ t = 2 ∨ t = 3 ∨ t = 4 ∨ t = 5 ∨ t = 6 ∨ t = 7 ∨ t = 8 ∨ t = 9 ∨ t = 10 ∨ t = 11 ∨ t = 12 ∨ t = 13 by omega) with rfl | rfl | rfl | rfl | rfl | rfl | rfl | rfl | rfl | rfl | rfl | rfl | rfl <;> rfl) (by decide +kernel) (by decide +kernel) (by decide +kernel) (by decide +kernel) (Nat.le_of_ble_eq_true rfl) (by decide +kernel) dX5_keep_62 ?_
  refine g_aload_n E dX5_keep_65 rfl ?_
  refine gm_M_rolled E  hin5 (by decide +kernel) dX5_keep_66 ?_
  refine g_iconst E dX5_keep_69 ?_
  refine g_aload_n E dX5_keep_70 rfl ?_
  refine gm_M_keptRolled E  hin5 (by decide +kernel) dX5_keep_71 ?_
  refine g_iconst E dX5_keep_74 ?_
  refine g_iconst E dX5_keep_75 ?_
  refine g_cpM (t0 := 8) (t1 := 13) (n := 3) (a' := a) (kp' := (kpU a kp 5)) E (by decide) (by decide) rfl rfl (by decide) (fun _ _ _ => rfl) (fun t j ht hj => by rcases (show t = 1 ∨ t = 2 ∨ t = 3 ∨ t = 4 ∨ t = 5 ∨ t = 6 ∨ t = 7 ∨ t = 8 ∨ t = 9 ∨ t = 10 ∨ t = 11 ∨ t = 12 ∨ t = 13 by omega) with rfl | rfl | rfl | rfl | rfl | rfl | rfl | rfl | rfl | rfl | rfl | rfl | rfl <;> rfl) (by decide +kernel) (by decide +kernel) (by decide +kernel) (by decide +kernel) (Nat.le_of_ble_eq_true rfl) (by decide +kernel) dX5_keep_76 ?_
  exact g_vret E (rfl) dX5_keep_79
set_option maxHeartbeats 800000 in
set_option maxRecDepth 100000 in
/-- bringBack() -/
theorem m_bringBack (l : Launch) (D : va_G) (cA : Nat → ClassId) (A : Nat → Prop) (ad : Nat → Nat) (a : St) (th dd : Int32) (kp : Nat → Nat → Int32) (b : St) (hS : SameM a b) : Met l yX5_bringBack wsX5_bringBack ({ frames := 1, cells := 0, slots := 0, locals := 60 }) (PcG D (tysX cA) A (wM cA ad b th dd (kpU a kp 5)) [.ref (ad 0)]) (va_Qv (fun ws' => ws' = wM cA ad a th dd (kpU a kp 5)) (gB D A) A) 0 0 A := by
  refine g_met (cc := cX5_bringBack) (maxL := 1) (ret := none) (own := RX5) rfl (by decide) rfl (Nat.le_of_ble_eq_true rfl) ?_
  intro p e s m below meth c E
  have hin5 : ∀ w ∈ u_ws RX5 TX5 19, w ∈ wsX5_bringBack := by decide +kernel
  refine g_loc (lv' := [(0, .ref (ad 0))]) ⟨rfl, trivial⟩ ?_
  refine g_aload_n E dX5_bringBack_0 rfl ?_
  refine gm_M_keptMany E  hin5 (by decide +kernel) dX5_bringBack_1 ?_
  refine g_iconst E dX5_bringBack_4 ?_
  refine g_aload_n E dX5_bringBack_5 rfl ?_
  refine gm_M_many E  hin5 (by decide +kernel) dX5_bringBack_6 ?_
  refine g_iconst E dX5_bringBack_9 ?_
  refine g_bipush E dX5_bringBack_10 (by decide) ?_
  refine g_cpM (t0 := 9) (t1 := 4) (n := 6) (a := b) (a' := (bkS a b 1)) (kp' := (kpU a kp 5)) E (by decide) (by decide) rfl rfl (by decide) (bk_f0 hS) (bk_0 hS) (by decide +kernel) (by decide +kernel) (by decide +kernel) (by decide +kernel) (Nat.le_of_ble_eq_true rfl) (by decide +kernel) dX5_bringBack_12 ?_
  refine g_aload_n E dX5_bringBack_15 rfl ?_
  refine gm_M_keptRust E  hin5 (by decide +kernel) dX5_bringBack_16 ?_
  refine g_iconst E dX5_bringBack_19 ?_
  refine g_aload_n E dX5_bringBack_20 rfl ?_
  refine gm_M_rust E  hin5 (by decide +kernel) dX5_bringBack_21 ?_
  refine g_iconst E dX5_bringBack_24 ?_
  refine g_aload_n E dX5_bringBack_25 rfl ?_
  refine gm_M_rust E  hin5 (by decide +kernel) dX5_bringBack_26 ?_
  refine nm_rust E  dX5_bringBack_29 ?_
  refine g_cpM (t0 := 10) (t1 := 5) (n := 546) (a := (bkS a b 1)) (a' := (bkS a b 2)) (kp' := (kpU a kp 5)) E (by decide) (by decide) rfl rfl (by decide) (bk_f1 hS) (bk_1 hS) (by decide +kernel) (by decide +kernel) (by decide +kernel) (by decide +kernel) (Nat.le_of_ble_eq_true rfl) (by decide +kernel) dX5_bringBack_30 ?_
  refine g_aload_n E dX5_bringBack_33 rfl ?_
  refine gm_M_keptNumbers E  hin5 (by decide +kernel) dX5_bringBack_34 ?_
  refine g_iconst E dX5_bringBack_37 ?_
  refine g_aload_n E dX5_bringBack_38 rfl ?_
  refine gm_M_numbers E  hin5 (by decide +kernel) dX5_bringBack_39 ?_
  refine g_iconst E dX5_bringBack_42 ?_
  refine g_aload_n E dX5_bringBack_43 rfl ?_
  refine gm_M_numbers E  hin5 (by decide +kernel) dX5_bringBack_44 ?_
  refine nm_numbers E  dX5_bringBack_47 ?_
  refine g_cpM (t0 := 11) (t1 := 6) (n := 20) (a := (bkS a b 2)) (a' := (bkS a b 3)) (kp' := (kpU a kp 5)) E (by decide) (by decide) rfl rfl (by decide) (bk_f2 hS) (bk_2 hS) (by decide +kernel) (by decide +kernel) (by decide +kernel) (by decide +kernel) (Nat.le_of_ble_eq_true rfl) (by decide +kernel) dX5_bringBack_48 ?_
  refine g_aload_n E dX5_bringBack_51 rfl ?_
  refine gm_M_keptWhere E  hin5 (by decide +kernel) dX5_bringBack_52 ?_
  refine g_iconst E dX5_bringBack_55 ?_
  refine g_aload_n E dX5_bringBack_56 rfl ?_
  refine gm_M_where E  hin5 (by decide +kernel) dX5_bringBack_57 ?_
  refine g_iconst E dX5_bringBack_60 ?_
  refine g_iconst E dX5_bringBack_61 ?_
  refine g_cpM (t0 := 12) (t1 := 7) (n := 3) (a := (bkS a b 3)) (a' := (bkS a b 4)) (kp' := (kpU a kp 5)) E (by decide) (by decide) rfl rfl (by decide) (bk_f3 hS) (bk_3 hS) (by decide +kernel) (by decide +kernel) (by decide +kernel) (by decide +kernel) (Nat.le_of_ble_eq_true rfl) (by decide +kernel) dX5_bringBack_62 ?_
  refine g_aload_n E dX5_bringBack_65 rfl ?_
  refine gm_M_keptRolled E  hin5 (by decide +kernel) dX5_bringBack_66 ?_
  refine g_iconst E dX5_bringBack_69 ?_
  refine g_aload_n E dX5_bringBack_70 rfl ?_
  refine gm_M_rolled E  hin5 (by decide +kernel) dX5_bringBack_71 ?_
  refine g_iconst E dX5_bringBack_74 ?_
  refine g_iconst E dX5_bringBack_75 ?_
  refine g_cpM (t0 := 13) (t1 := 8) (n := 3) (a := (bkS a b 4)) (a' := a) (kp' := (kpU a kp 5)) E (by decide) (by decide) rfl rfl (by decide) (bk_f4 hS) (bk_4 hS) (by decide +kernel) (by decide +kernel) (by decide +kernel) (by decide +kernel) (Nat.le_of_ble_eq_true rfl) (by decide +kernel) dX5_bringBack_76 ?_
  exact g_vret E (rfl) dX5_bringBack_79
