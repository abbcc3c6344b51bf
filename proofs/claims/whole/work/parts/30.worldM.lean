/-! ===== WORLD M: the cells of a CannonStacksModel over the same value; th: thrown, dd: the day as it stands there, kp: the kept rows ===== -/
def tagN (w : Nat) : Nat := match w with
  | 0 => 5
  | 1 => 4
  | 2 => 6
  | _ => 7
def rowM (a : St) (kp : Nat → Nat → Int32) (t k : Nat) : Int32 := match t with
  | 1 => a 1 k 0
  | 2 => a 1 k 1
  | 3 => a 3 k 0
  | 4 => a 1 k 2
  | 5 => a 2 (k / 91) (k % 91)
  | 6 => a (tagN (k % 4)) 0 (k / 4)
  | 7 => if a 3 k 0 = 0 then 0 else a 3 k 1
  | 8 => a 3 k 2
  | 9 => kp 0 k
  | 10 => kp 1 k
  | 11 => kp 2 k
  | 12 => kp 3 k
  | _ => kp 4 k
def lenM (t : Nat) : Nat := match t with
  | 1 => 6
  | 2 => 6
  | 3 => 3
  | 4 => 6
  | 5 => 546
  | 6 => 20
  | 7 => 3
  | 8 => 3
  | 9 => 6
  | 10 => 546
  | 11 => 20
  | 12 => 3
  | _ => 3
def mM (cA : Nat → ClassId) (ad : Nat → Nat) (a : St) (th dd : Int32) (kp : Nat → Nat → Int32) (t : Nat) : va_E := match t with
  | 0 => .inr (5, [.int th, .int dd, .int (a 0 0 3), .int (a 0 0 4), .int (a 0 0 0), .int (a 0 0 1), .ref (ad 1), .ref (ad 2), .ref (ad 3), .ref (ad 4), .ref (ad 5), .ref (ad 6), .ref (ad 7), .ref (ad 8), .ref (ad 9), .ref (ad 10), .ref (ad 11), .ref (ad 12), .ref (ad 13)])
  | t + 1 => .inl (cA 0, lenM (t + 1), .inl (rowM a kp (t + 1)))
def idsM : List Nat := [0, 1, 2, 3, 4, 5, 6, 7, 8, 9, 10, 11, 12, 13]
theorem idsM_nd : idsM.Nodup := by decide +kernel
def wM (cA : Nat → ClassId) (ad : Nat → Nat) (a : St) (th dd : Int32) (kp : Nat → Nat → Int32) : va_W := idsM.map (fun t => (ad t, mM cA ad a th dd kp t))
theorem wM_at {cA : Nat → ClassId} {ad : Nat → Nat} {a : St} {th dd : Int32} {kp : Nat → Nat → Int32} {t : Nat} (h : t < 14) : ∃ q0 : Nat, (wM cA ad a th dd kp)[q0]? = some (ad t, mM cA ad a th dd kp t) := by
  have hm : ∀ t, t < 14 → t ∈ idsM := by decide +kernel
  obtain ⟨k, hk⟩ := List.getElem?_of_mem (hm t h)
  exact ⟨k, by rw [wM, List.getElem?_map, hk]; rfl⟩
theorem obM {cA : Nat → ClassId} {ad : Nat → Nat} {a : St} {th dd : Int32} {kp : Nat → Nat → Int32} : ∃ (q0 : Nat) (fs : List Value), (wM cA ad a th dd kp)[q0]? = some (ad 0, .inr (5, fs)) := let ⟨q, h⟩ := wM_at (t := 0) (by decide); ⟨q, _, h⟩
theorem wM_set {cA : Nat → ClassId} {ad : Nat → Nat} {a a' : St} {th th' dd dd' : Int32} {kp kp' : Nat → Nat → Int32} {t : Nat} {e' : va_E} (h : t < 14) (h1 : mM cA ad a' th' dd' kp' t = e') (h2 : ∀ t' : Nat, t' < 14 → t' ≠ t → mM cA ad a' th' dd' kp' t' = mM cA ad a th dd kp t') : ∃ q0 : Nat, (wM cA ad a th dd kp)[q0]? = some (ad t, mM cA ad a th dd kp t) ∧ (wM cA ad a th dd kp).set q0 (ad t, e') = wM cA ad a' th' dd' kp' := by
  have hm : ∀ t, t < 14 → t ∈ idsM := by decide +kernel
  have hm2 : ∀ t ∈ idsM, t < 14 := by decide +kernel
  refine wl_set (f := fun t => (ad t, mM cA ad a th dd kp t)) (f' := fun t => (ad t, mM cA ad a' th' dd' kp' t)) idsM_nd (hm t h) (by rw [h1]) ?_
  intro z hz hne
  show (ad z, _) = (ad z, _)
  rw [h2 z (hm2 z hz) hne]
/-- a number of the value changes: one cell of one row does -/
theorem wM_row {cA : Nat → ClassId} {ad : Nat → Nat} {a a' : St} {th dd : Int32} {kp : Nat → Nat → Int32} {t k : Nat} {v : Int32} (h : 0 < t ∧ t < 14) (h1 : ∀ j : Nat, rowM a' kp t j = if j = k then v else rowM a kp t j) (h2 : ∀ t' : Nat, 0 < t' → t' ≠ t → ∀ j : Nat, rowM a' kp t' j = rowM a kp t' j) (h3 : ∀ j : Nat, a' 0 0 j = a 0 0 j) :
    ∃ q0 : Nat, (wM cA ad a th dd kp)[q0]? = some (ad t, .inl (cA 0, lenM t, .inl (rowM a kp t))) ∧ (wM cA ad a th dd kp).set q0 (ad t, .inl (cA 0, lenM t, .inl (upd (rowM a kp t) k v))) = wM cA ad a' th dd kp := by
  obtain ⟨u, rfl⟩ : ∃ u, t = u + 1 := ⟨t - 1, by omega⟩
  refine wM_set (t := u + 1) h.2 ?_ ?_
  · show (Sum.inl (cA 0, lenM (u + 1), Sum.inl (rowM a' kp (u + 1))) : va_E) = _
    rw [show rowM a' kp (u + 1) = upd (rowM a kp (u + 1)) k v from funext h1]
  · intro t' _ hne
    cases t' with
    | zero =>
      show (Sum.inr (5, [.int th, .int dd, .int (a' 0 0 3), .int (a' 0 0 4), .int (a' 0 0 0), .int (a' 0 0 1), .ref (ad 1), .ref (ad 2), .ref (ad 3), .ref (ad 4), .ref (ad 5), .ref (ad 6), .ref (ad 7), .ref (ad 8), .ref (ad 9), .ref (ad 10), .ref (ad 11), .ref (ad 12), .ref (ad 13)]) : va_E) = _
      rw [h3, h3, h3, h3]
      rfl
    | succ w =>
      show (Sum.inl (cA 0, lenM (w + 1), Sum.inl (rowM a' kp (w + 1))) : va_E) = _
      rw [show rowM a' kp (w + 1) = rowM a kp (w + 1) from funext (h2 (w + 1) (by omega) hne)]
      rfl
theorem rowM_1 {a : St} {kp : Nat → Nat → Int32} {i j t k : Nat} {v : Int32} (ht : 0 < t) (h : ¬ (t = 1 ∧ j = 0)) (h2 : ¬ (t = 2 ∧ j = 1)) (h4 : ¬ (t = 4 ∧ j = 2)) : rowM (up3 a 1 i j v) kp t k = rowM a kp t k := by
  unfold rowM
  split
  · rw [up3_n (by omega)]
  · rw [up3_n (by omega)]
  · rw [up3_n (by omega)]
  · rw [up3_n (by omega)]
  · rw [up3_n (by omega)]
  · have : ¬ tagN (k % 4) = 1 := by unfold tagN; split <;> decide
    rw [up3_n (by omega)]
  · rw [up3_n (by omega), up3_n (by omega)]
  · rw [up3_n (by omega)]
  all_goals rfl
theorem rowM_2 {a : St} {kp : Nat → Nat → Int32} {i j t k : Nat} {v : Int32} (h : ¬ t = 5) : rowM (up3 a 2 i j v) kp t k = rowM a kp t k := by
  unfold rowM
  split
  · rw [up3_n (by omega)]
  · rw [up3_n (by omega)]
  · rw [up3_n (by omega)]
  · rw [up3_n (by omega)]
  · exact absurd rfl h
  · have : ¬ tagN (k % 4) = 2 := by unfold tagN; split <;> decide
    rw [up3_n (by omega)]
  · rw [up3_n (by omega), up3_n (by omega)]
  · rw [up3_n (by omega)]
  all_goals rfl
theorem rowM_3 {a : St} {kp : Nat → Nat → Int32} {i j t k : Nat} {v : Int32} (h3 : ¬ (t = 3 ∧ j = 0)) (h7 : ¬ (t = 7 ∧ j < 2)) (h8 : ¬ (t = 8 ∧ j = 2)) : rowM (up3 a 3 i j v) kp t k = rowM a kp t k := by
  unfold rowM
  split
  · rw [up3_n (by omega)]
  · rw [up3_n (by omega)]
  · rw [up3_n (by omega)]
  · rw [up3_n (by omega)]
  · rw [up3_n (by omega)]
  · have : ¬ tagN (k % 4) = 3 := by unfold tagN; split <;> decide
    rw [up3_n (by omega)]
  · rw [up3_n (by omega), up3_n (by omega)]
  · rw [up3_n (by omega)]
  all_goals rfl
theorem rowM_4 {a : St} {kp : Nat → Nat → Int32} {T i j t k : Nat} {v : Int32} (hT : 4 ≤ T) (h : ¬ t = 6) : rowM (up3 a T i j v) kp t k = rowM a kp t k := by
  unfold rowM
  split
  · rw [up3_n (by omega)]
  · rw [up3_n (by omega)]
  · rw [up3_n (by omega)]
  · rw [up3_n (by omega)]
  · rw [up3_n (by omega)]
  · exact absurd rfl h
  · rw [up3_n (by omega), up3_n (by omega)]
  · rw [up3_n (by omega)]
  all_goals rfl
theorem rowM_0 {a : St} {kp : Nat → Nat → Int32} {j t k : Nat} {v : Int32} : rowM (up3 a 0 0 j v) kp t k = rowM a kp t k := by
  unfold rowM
  split
  · rw [up3_n (by omega)]
  · rw [up3_n (by omega)]
  · rw [up3_n (by omega)]
  · rw [up3_n (by omega)]
  · rw [up3_n (by omega)]
  · have : ¬ tagN (k % 4) = 0 := by unfold tagN; split <;> decide
    rw [up3_n (by omega)]
  · rw [up3_n (by omega), up3_n (by omega)]
  · rw [up3_n (by omega)]
  all_goals rfl
theorem tagN_4 (w : Nat) : 4 ≤ tagN w := by unfold tagN; split <;> decide
theorem tagN_inj {a b : Nat} (ha : a < 4) (hb : b < 4) (h : tagN a = tagN b) : a = b := by
  rcases (show a = 0 ∨ a = 1 ∨ a = 2 ∨ a = 3 by omega) with rfl | rfl | rfl | rfl <;> rcases (show b = 0 ∨ b = 1 ∨ b = 2 ∨ b = 3 by omega) with rfl | rfl | rfl | rfl <;> first | rfl | exact absurd h (by decide)
section WMS
variable {p : Program} {l : Launch} {e : Env} {R : Room} {s : State} {m : MethodId} {args : Array Value} {below : List Frame} {meth : Method} {c : Code} {Q : State → Prop} {D : va_G} {tys : gT} {A : Nat → Prop} {nL : Nat} {cells slots pc : Nat} {lv : List (Nat × Value)} {st : List Value} {cc : ByteArray} {own : String} {Ts : List Cond} {ret : Option FieldType} {cA : Nat → ClassId} {ad : Nat → Nat} {a : St} {th dd : Int32} {kp : Nat → Nat → Int32}
theorem gm_M_thrown (E : GE p s m args meth c D tys cc nL own Ts ret) {index : Nat} (hin : ∀ w ∈ u_ws RX5 TX5 19, w ∈ Ts) (hlink : Cond.fieldLink own index RX5 "thrown" "I" ∈ Ts) (hdg : decode cc pc = .ok (.getfield index, 3)) (kk : GW p l e R s m args below meth c Q D A nL (wM cA ad a th dd kp) cells slots (pc + 3) lv (.int th :: st)) : GW p l e R s m args below meth c Q D A nL (wM cA ad a th dd kp) cells slots pc lv (.ref (ad 0) :: st) :=
  g_getf E hin (T := TX5) rfl (wM_at (t := 0) (by decide)) 0 (by decide) hlink rfl rfl hdg kk
theorem gm_M_day (E : GE p s m args meth c D tys cc nL own Ts ret) {index : Nat} (hin : ∀ w ∈ u_ws RX5 TX5 19, w ∈ Ts) (hlink : Cond.fieldLink own index RX5 "day" "I" ∈ Ts) (hdg : decode cc pc = .ok (.getfield index, 3)) (kk : GW p l e R s m args below meth c Q D A nL (wM cA ad a th dd kp) cells slots (pc + 3) lv (.int dd :: st)) : GW p l e R s m args below meth c Q D A nL (wM cA ad a th dd kp) cells slots pc lv (.ref (ad 0) :: st) :=
  g_getf E hin (T := TX5) rfl (wM_at (t := 0) (by decide)) 1 (by decide) hlink rfl rfl hdg kk
theorem gm_M_rain (E : GE p s m args meth c D tys cc nL own Ts ret) {index : Nat} (hin : ∀ w ∈ u_ws RX5 TX5 19, w ∈ Ts) (hlink : Cond.fieldLink own index RX5 "rain" "I" ∈ Ts) (hdg : decode cc pc = .ok (.getfield index, 3)) (kk : GW p l e R s m args below meth c Q D A nL (wM cA ad a th dd kp) cells slots (pc + 3) lv (.int (a 0 0 3) :: st)) : GW p l e R s m args below meth c Q D A nL (wM cA ad a th dd kp) cells slots pc lv (.ref (ad 0) :: st) :=
  g_getf E hin (T := TX5) rfl (wM_at (t := 0) (by decide)) 2 (by decide) hlink rfl rfl hdg kk
theorem gm_M_limit (E : GE p s m args meth c D tys cc nL own Ts ret) {index : Nat} (hin : ∀ w ∈ u_ws RX5 TX5 19, w ∈ Ts) (hlink : Cond.fieldLink own index RX5 "limit" "I" ∈ Ts) (hdg : decode cc pc = .ok (.getfield index, 3)) (kk : GW p l e R s m args below meth c Q D A nL (wM cA ad a th dd kp) cells slots (pc + 3) lv (.int (a 0 0 4) :: st)) : GW p l e R s m args below meth c Q D A nL (wM cA ad a th dd kp) cells slots pc lv (.ref (ad 0) :: st) :=
  g_getf E hin (T := TX5) rfl (wM_at (t := 0) (by decide)) 3 (by decide) hlink rfl rfl hdg kk
theorem gm_M_piles (E : GE p s m args meth c D tys cc nL own Ts ret) {index : Nat} (hin : ∀ w ∈ u_ws RX5 TX5 19, w ∈ Ts) (hlink : Cond.fieldLink own index RX5 "piles" "I" ∈ Ts) (hdg : decode cc pc = .ok (.getfield index, 3)) (kk : GW p l e R s m args below meth c Q D A nL (wM cA ad a th dd kp) cells slots (pc + 3) lv (.int (zI (np a)) :: st)) : GW p l e R s m args below meth c Q D A nL (wM cA ad a th dd kp) cells slots pc lv (.ref (ad 0) :: st) :=
  g_getf E hin (T := TX5) rfl (wM_at (t := 0) (by decide)) 4 (by decide) hlink rfl (by simp [np, nc, zI_self]) hdg kk
theorem gm_M_cats (E : GE p s m args meth c D tys cc nL own Ts ret) {index : Nat} (hin : ∀ w ∈ u_ws RX5 TX5 19, w ∈ Ts) (hlink : Cond.fieldLink own index RX5 "cats" "I" ∈ Ts) (hdg : decode cc pc = .ok (.getfield index, 3)) (kk : GW p l e R s m args below meth c Q D A nL (wM cA ad a th dd kp) cells slots (pc + 3) lv (.int (zI (nc a)) :: st)) : GW p l e R s m args below meth c Q D A nL (wM cA ad a th dd kp) cells slots pc lv (.ref (ad 0) :: st) :=
  g_getf E hin (T := TX5) rfl (wM_at (t := 0) (by decide)) 5 (by decide) hlink rfl (by simp [np, nc, zI_self]) hdg kk
theorem gm_M_calibres (E : GE p s m args meth c D tys cc nL own Ts ret) {index : Nat} (hin : ∀ w ∈ u_ws RX5 TX5 19, w ∈ Ts) (hlink : Cond.fieldLink own index RX5 "calibres" "[I" ∈ Ts) (hdg : decode cc pc = .ok (.getfield index, 3)) (kk : GW p l e R s m args below meth c Q D A nL (wM cA ad a th dd kp) cells slots (pc + 3) lv (.ref (ad 1) :: st)) : GW p l e R s m args below meth c Q D A nL (wM cA ad a th dd kp) cells slots pc lv (.ref (ad 0) :: st) :=
  g_getf E hin (T := TX5) rfl (wM_at (t := 0) (by decide)) 6 (by decide) hlink rfl rfl hdg kk
theorem gm_M_sides (E : GE p s m args meth c D tys cc nL own Ts ret) {index : Nat} (hin : ∀ w ∈ u_ws RX5 TX5 19, w ∈ Ts) (hlink : Cond.fieldLink own index RX5 "sides" "[I" ∈ Ts) (hdg : decode cc pc = .ok (.getfield index, 3)) (kk : GW p l e R s m args below meth c Q D A nL (wM cA ad a th dd kp) cells slots (pc + 3) lv (.ref (ad 2) :: st)) : GW p l e R s m args below meth c Q D A nL (wM cA ad a th dd kp) cells slots pc lv (.ref (ad 0) :: st) :=
  g_getf E hin (T := TX5) rfl (wM_at (t := 0) (by decide)) 7 (by decide) hlink rfl rfl hdg kk
theorem gm_M_leaps (E : GE p s m args meth c D tys cc nL own Ts ret) {index : Nat} (hin : ∀ w ∈ u_ws RX5 TX5 19, w ∈ Ts) (hlink : Cond.fieldLink own index RX5 "leaps" "[I" ∈ Ts) (hdg : decode cc pc = .ok (.getfield index, 3)) (kk : GW p l e R s m args below meth c Q D A nL (wM cA ad a th dd kp) cells slots (pc + 3) lv (.ref (ad 3) :: st)) : GW p l e R s m args below meth c Q D A nL (wM cA ad a th dd kp) cells slots pc lv (.ref (ad 0) :: st) :=
  g_getf E hin (T := TX5) rfl (wM_at (t := 0) (by decide)) 8 (by decide) hlink rfl rfl hdg kk
theorem gm_M_many (E : GE p s m args meth c D tys cc nL own Ts ret) {index : Nat} (hin : ∀ w ∈ u_ws RX5 TX5 19, w ∈ Ts) (hlink : Cond.fieldLink own index RX5 "many" "[I" ∈ Ts) (hdg : decode cc pc = .ok (.getfield index, 3)) (kk : GW p l e R s m args below meth c Q D A nL (wM cA ad a th dd kp) cells slots (pc + 3) lv (.ref (ad 4) :: st)) : GW p l e R s m args below meth c Q D A nL (wM cA ad a th dd kp) cells slots pc lv (.ref (ad 0) :: st) :=
  g_getf E hin (T := TX5) rfl (wM_at (t := 0) (by decide)) 9 (by decide) hlink rfl rfl hdg kk
theorem gm_M_rust (E : GE p s m args meth c D tys cc nL own Ts ret) {index : Nat} (hin : ∀ w ∈ u_ws RX5 TX5 19, w ∈ Ts) (hlink : Cond.fieldLink own index RX5 "rust" "[I" ∈ Ts) (hdg : decode cc pc = .ok (.getfield index, 3)) (kk : GW p l e R s m args below meth c Q D A nL (wM cA ad a th dd kp) cells slots (pc + 3) lv (.ref (ad 5) :: st)) : GW p l e R s m args below meth c Q D A nL (wM cA ad a th dd kp) cells slots pc lv (.ref (ad 0) :: st) :=
  g_getf E hin (T := TX5) rfl (wM_at (t := 0) (by decide)) 10 (by decide) hlink rfl rfl hdg kk
theorem gm_M_numbers (E : GE p s m args meth c D tys cc nL own Ts ret) {index : Nat} (hin : ∀ w ∈ u_ws RX5 TX5 19, w ∈ Ts) (hlink : Cond.fieldLink own index RX5 "numbers" "[I" ∈ Ts) (hdg : decode cc pc = .ok (.getfield index, 3)) (kk : GW p l e R s m args below meth c Q D A nL (wM cA ad a th dd kp) cells slots (pc + 3) lv (.ref (ad 6) :: st)) : GW p l e R s m args below meth c Q D A nL (wM cA ad a th dd kp) cells slots pc lv (.ref (ad 0) :: st) :=
  g_getf E hin (T := TX5) rfl (wM_at (t := 0) (by decide)) 11 (by decide) hlink rfl rfl hdg kk
theorem gm_M_where (E : GE p s m args meth c D tys cc nL own Ts ret) {index : Nat} (hin : ∀ w ∈ u_ws RX5 TX5 19, w ∈ Ts) (hlink : Cond.fieldLink own index RX5 "where" "[I" ∈ Ts) (hdg : decode cc pc = .ok (.getfield index, 3)) (kk : GW p l e R s m args below meth c Q D A nL (wM cA ad a th dd kp) cells slots (pc + 3) lv (.ref (ad 7) :: st)) : GW p l e R s m args below meth c Q D A nL (wM cA ad a th dd kp) cells slots pc lv (.ref (ad 0) :: st) :=
  g_getf E hin (T := TX5) rfl (wM_at (t := 0) (by decide)) 12 (by decide) hlink rfl rfl hdg kk
theorem gm_M_rolled (E : GE p s m args meth c D tys cc nL own Ts ret) {index : Nat} (hin : ∀ w ∈ u_ws RX5 TX5 19, w ∈ Ts) (hlink : Cond.fieldLink own index RX5 "rolled" "[I" ∈ Ts) (hdg : decode cc pc = .ok (.getfield index, 3)) (kk : GW p l e R s m args below meth c Q D A nL (wM cA ad a th dd kp) cells slots (pc + 3) lv (.ref (ad 8) :: st)) : GW p l e R s m args below meth c Q D A nL (wM cA ad a th dd kp) cells slots pc lv (.ref (ad 0) :: st) :=
  g_getf E hin (T := TX5) rfl (wM_at (t := 0) (by decide)) 13 (by decide) hlink rfl rfl hdg kk
theorem gm_M_keptMany (E : GE p s m args meth c D tys cc nL own Ts ret) {index : Nat} (hin : ∀ w ∈ u_ws RX5 TX5 19, w ∈ Ts) (hlink : Cond.fieldLink own index RX5 "keptMany" "[I" ∈ Ts) (hdg : decode cc pc = .ok (.getfield index, 3)) (kk : GW p l e R s m args below meth c Q D A nL (wM cA ad a th dd kp) cells slots (pc + 3) lv (.ref (ad 9) :: st)) : GW p l e R s m args below meth c Q D A nL (wM cA ad a th dd kp) cells slots pc lv (.ref (ad 0) :: st) :=
  g_getf E hin (T := TX5) rfl (wM_at (t := 0) (by decide)) 14 (by decide) hlink rfl rfl hdg kk
theorem gm_M_keptRust (E : GE p s m args meth c D tys cc nL own Ts ret) {index : Nat} (hin : ∀ w ∈ u_ws RX5 TX5 19, w ∈ Ts) (hlink : Cond.fieldLink own index RX5 "keptRust" "[I" ∈ Ts) (hdg : decode cc pc = .ok (.getfield index, 3)) (kk : GW p l e R s m args below meth c Q D A nL (wM cA ad a th dd kp) cells slots (pc + 3) lv (.ref (ad 10) :: st)) : GW p l e R s m args below meth c Q D A nL (wM cA ad a th dd kp) cells slots pc lv (.ref (ad 0) :: st) :=
  g_getf E hin (T := TX5) rfl (wM_at (t := 0) (by decide)) 15 (by decide) hlink rfl rfl hdg kk
theorem gm_M_keptNumbers (E : GE p s m args meth c D tys cc nL own Ts ret) {index : Nat} (hin : ∀ w ∈ u_ws RX5 TX5 19, w ∈ Ts) (hlink : Cond.fieldLink own index RX5 "keptNumbers" "[I" ∈ Ts) (hdg : decode cc pc = .ok (.getfield index, 3)) (kk : GW p l e R s m args below meth c Q D A nL (wM cA ad a th dd kp) cells slots (pc + 3) lv (.ref (ad 11) :: st)) : GW p l e R s m args below meth c Q D A nL (wM cA ad a th dd kp) cells slots pc lv (.ref (ad 0) :: st) :=
  g_getf E hin (T := TX5) rfl (wM_at (t := 0) (by decide)) 16 (by decide) hlink rfl rfl hdg kk
theorem gm_M_keptWhere (E : GE p s m args meth c D tys cc nL own Ts ret) {index : Nat} (hin : ∀ w ∈ u_ws RX5 TX5 19, w ∈ Ts) (hlink : Cond.fieldLink own index RX5 "keptWhere" "[I" ∈ Ts) (hdg : decode cc pc = .ok (.getfield index, 3)) (kk : GW p l e R s m args below meth c Q D A nL (wM cA ad a th dd kp) cells slots (pc + 3) lv (.ref (ad 12) :: st)) : GW p l e R s m args below meth c Q D A nL (wM cA ad a th dd kp) cells slots pc lv (.ref (ad 0) :: st) :=
  g_getf E hin (T := TX5) rfl (wM_at (t := 0) (by decide)) 17 (by decide) hlink rfl rfl hdg kk
theorem gm_M_keptRolled (E : GE p s m args meth c D tys cc nL own Ts ret) {index : Nat} (hin : ∀ w ∈ u_ws RX5 TX5 19, w ∈ Ts) (hlink : Cond.fieldLink own index RX5 "keptRolled" "[I" ∈ Ts) (hdg : decode cc pc = .ok (.getfield index, 3)) (kk : GW p l e R s m args below meth c Q D A nL (wM cA ad a th dd kp) cells slots (pc + 3) lv (.ref (ad 13) :: st)) : GW p l e R s m args below meth c Q D A nL (wM cA ad a th dd kp) cells slots pc lv (.ref (ad 0) :: st) :=
  g_getf E hin (T := TX5) rfl (wM_at (t := 0) (by decide)) 18 (by decide) hlink rfl rfl hdg kk
theorem pm_M_thrown (E : GE p s m args meth c D tys cc nL own Ts ret) {index : Nat} {v : Int32} (hin : ∀ w ∈ u_ws RX5 TX5 19, w ∈ Ts) (hlink : Cond.fieldLink own index RX5 "thrown" "I" ∈ Ts) (hdg : decode cc pc = .ok (.putfield index, 3)) (kk : GW p l e R s m args below meth c Q D A nL (wM cA ad a v dd kp) cells slots (pc + 3) lv st) : GW p l e R s m args below meth c Q D A nL (wM cA ad a th dd kp) cells slots pc lv (.int v :: .ref (ad 0) :: st) :=
  g_putf (ty := .int) (k := 0) E hin (T := TX5) tyX5_ok nmX5 rfl (by decide) hlink rfl rfl (by decide +kernel) rfl rfl (Nat.le_of_ble_eq_true rfl) (wM_set (t := 0) (by decide) rfl (fun t _ h => by cases t with | zero => exact absurd rfl h | succ w => rfl)) hdg kk
theorem pm_M_day (E : GE p s m args meth c D tys cc nL own Ts ret) {index : Nat} {v : Int32} (hin : ∀ w ∈ u_ws RX5 TX5 19, w ∈ Ts) (hlink : Cond.fieldLink own index RX5 "day" "I" ∈ Ts) (hdg : decode cc pc = .ok (.putfield index, 3)) (kk : GW p l e R s m args below meth c Q D A nL (wM cA ad a th v kp) cells slots (pc + 3) lv st) : GW p l e R s m args below meth c Q D A nL (wM cA ad a th dd kp) cells slots pc lv (.int v :: .ref (ad 0) :: st) :=
  g_putf (ty := .int) (k := 1) E hin (T := TX5) tyX5_ok nmX5 rfl (by decide) hlink rfl rfl (by decide +kernel) rfl rfl (Nat.le_of_ble_eq_true rfl) (wM_set (t := 0) (by decide) rfl (fun t _ h => by cases t with | zero => exact absurd rfl h | succ w => rfl)) hdg kk
theorem pm_M_rain (E : GE p s m args meth c D tys cc nL own Ts ret) {index : Nat} {v : Int32} (hin : ∀ w ∈ u_ws RX5 TX5 19, w ∈ Ts) (hlink : Cond.fieldLink own index RX5 "rain" "I" ∈ Ts) (hdg : decode cc pc = .ok (.putfield index, 3)) (kk : GW p l e R s m args below meth c Q D A nL (wM cA ad (up3 a 0 0 3 v) th dd kp) cells slots (pc + 3) lv st) : GW p l e R s m args below meth c Q D A nL (wM cA ad a th dd kp) cells slots pc lv (.int v :: .ref (ad 0) :: st) :=
  g_putf (ty := .int) (k := 2) E hin (T := TX5) tyX5_ok nmX5 rfl (by decide) hlink rfl rfl (by decide +kernel) rfl rfl (Nat.le_of_ble_eq_true rfl) (wM_set (t := 0) (by decide) (by show (Sum.inr (5, [.int th, .int dd, .int (up3 a 0 0 3 v 0 0 3), .int (up3 a 0 0 3 v 0 0 4), .int (up3 a 0 0 3 v 0 0 0), .int (up3 a 0 0 3 v 0 0 1), .ref (ad 1), .ref (ad 2), .ref (ad 3), .ref (ad 4), .ref (ad 5), .ref (ad 6), .ref (ad 7), .ref (ad 8), .ref (ad 9), .ref (ad 10), .ref (ad 11), .ref (ad 12), .ref (ad 13)]) : va_E) = _; simp only [up3_e]; rfl) (fun t _ h => by cases t with | zero => exact absurd rfl h | succ w => exact congrArg (fun r => (Sum.inl (cA 0, lenM (w + 1), Sum.inl r) : va_E)) (funext fun j => rowM_0))) hdg kk
theorem pm_M_limit (E : GE p s m args meth c D tys cc nL own Ts ret) {index : Nat} {v : Int32} (hin : ∀ w ∈ u_ws RX5 TX5 19, w ∈ Ts) (hlink : Cond.fieldLink own index RX5 "limit" "I" ∈ Ts) (hdg : decode cc pc = .ok (.putfield index, 3)) (kk : GW p l e R s m args below meth c Q D A nL (wM cA ad (up3 a 0 0 4 v) th dd kp) cells slots (pc + 3) lv st) : GW p l e R s m args below meth c Q D A nL (wM cA ad a th dd kp) cells slots pc lv (.int v :: .ref (ad 0) :: st) :=
  g_putf (ty := .int) (k := 3) E hin (T := TX5) tyX5_ok nmX5 rfl (by decide) hlink rfl rfl (by decide +kernel) rfl rfl (Nat.le_of_ble_eq_true rfl) (wM_set (t := 0) (by decide) (by show (Sum.inr (5, [.int th, .int dd, .int (up3 a 0 0 4 v 0 0 3), .int (up3 a 0 0 4 v 0 0 4), .int (up3 a 0 0 4 v 0 0 0), .int (up3 a 0 0 4 v 0 0 1), .ref (ad 1), .ref (ad 2), .ref (ad 3), .ref (ad 4), .ref (ad 5), .ref (ad 6), .ref (ad 7), .ref (ad 8), .ref (ad 9), .ref (ad 10), .ref (ad 11), .ref (ad 12), .ref (ad 13)]) : va_E) = _; simp only [up3_e]; rfl) (fun t _ h => by cases t with | zero => exact absurd rfl h | succ w => exact congrArg (fun r => (Sum.inl (cA 0, lenM (w + 1), Sum.inl r) : va_E)) (funext fun j => rowM_0))) hdg kk
theorem pm_M_piles (E : GE p s m args meth c D tys cc nL own Ts ret) {index : Nat} {v : Int32} (hin : ∀ w ∈ u_ws RX5 TX5 19, w ∈ Ts) (hlink : Cond.fieldLink own index RX5 "piles" "I" ∈ Ts) (hdg : decode cc pc = .ok (.putfield index, 3)) (kk : GW p l e R s m args below meth c Q D A nL (wM cA ad (up3 a 0 0 0 v) th dd kp) cells slots (pc + 3) lv st) : GW p l e R s m args below meth c Q D A nL (wM cA ad a th dd kp) cells slots pc lv (.int v :: .ref (ad 0) :: st) :=
  g_putf (ty := .int) (k := 4) E hin (T := TX5) tyX5_ok nmX5 rfl (by decide) hlink rfl rfl (by decide +kernel) rfl rfl (Nat.le_of_ble_eq_true rfl) (wM_set (t := 0) (by decide) (by show (Sum.inr (5, [.int th, .int dd, .int (up3 a 0 0 0 v 0 0 3), .int (up3 a 0 0 0 v 0 0 4), .int (up3 a 0 0 0 v 0 0 0), .int (up3 a 0 0 0 v 0 0 1), .ref (ad 1), .ref (ad 2), .ref (ad 3), .ref (ad 4), .ref (ad 5), .ref (ad 6), .ref (ad 7), .ref (ad 8), .ref (ad 9), .ref (ad 10), .ref (ad 11), .ref (ad 12), .ref (ad 13)]) : va_E) = _; simp only [up3_e]; rfl) (fun t _ h => by cases t with | zero => exact absurd rfl h | succ w => exact congrArg (fun r => (Sum.inl (cA 0, lenM (w + 1), Sum.inl r) : va_E)) (funext fun j => rowM_0))) hdg kk
theorem pm_M_cats (E : GE p s m args meth c D tys cc nL own Ts ret) {index : Nat} {v : Int32} (hin : ∀ w ∈ u_ws RX5 TX5 19, w ∈ Ts) (hlink : Cond.fieldLink own index RX5 "cats" "I" ∈ Ts) (hdg : decode cc pc = .ok (.putfield index, 3)) (kk : GW p l e R s m args below meth c Q D A nL (wM cA ad (up3 a 0 0 1 v) th dd kp) cells slots (pc + 3) lv st) : GW p l e R s m args below meth c Q D A nL (wM cA ad a th dd kp) cells slots pc lv (.int v :: .ref (ad 0) :: st) :=
  g_putf (ty := .int) (k := 5) E hin (T := TX5) tyX5_ok nmX5 rfl (by decide) hlink rfl rfl (by decide +kernel) rfl rfl (Nat.le_of_ble_eq_true rfl) (wM_set (t := 0) (by decide) (by show (Sum.inr (5, [.int th, .int dd, .int (up3 a 0 0 1 v 0 0 3), .int (up3 a 0 0 1 v 0 0 4), .int (up3 a 0 0 1 v 0 0 0), .int (up3 a 0 0 1 v 0 0 1), .ref (ad 1), .ref (ad 2), .ref (ad 3), .ref (ad 4), .ref (ad 5), .ref (ad 6), .ref (ad 7), .ref (ad 8), .ref (ad 9), .ref (ad 10), .ref (ad 11), .ref (ad 12), .ref (ad 13)]) : va_E) = _; simp only [up3_e]; rfl) (fun t _ h => by cases t with | zero => exact absurd rfl h | succ w => exact congrArg (fun r => (Sum.inl (cA 0, lenM (w + 1), Sum.inl r) : va_E)) (funext fun j => rowM_0))) hdg kk
theorem lm_calibres (E : GE p s m args meth c D (tysX cA) cc nL own Ts ret) {z : Int} (hz : 0 ≤ z ∧ z < 6) (hdg : decode cc pc = .ok (.iaload, 1)) (kk : GW p l e R s m args below meth c Q D A nL (wM cA ad a th dd kp) cells slots (pc + 1) lv (.int (zI (cal a z.toNat)) :: st)) : GW p l e R s m args below meth c Q D A nL (wM cA ad a th dd kp) cells slots pc lv (.int (zI z) :: .ref (ad 1) :: st) :=
  g_iald E 0 rfl (wM_at (t := 1) (by decide)) (n := 6) hz (by decide) (by show a 1 z.toNat 0 = zI (cal a z.toNat); rw [cal, zI_self]) hdg kk
theorem lm_sides (E : GE p s m args meth c D (tysX cA) cc nL own Ts ret) {z : Int} (hz : 0 ≤ z ∧ z < 6) (hdg : decode cc pc = .ok (.iaload, 1)) (kk : GW p l e R s m args below meth c Q D A nL (wM cA ad a th dd kp) cells slots (pc + 1) lv (.int (zI (sd a z.toNat)) :: st)) : GW p l e R s m args below meth c Q D A nL (wM cA ad a th dd kp) cells slots pc lv (.int (zI z) :: .ref (ad 2) :: st) :=
  g_iald E 0 rfl (wM_at (t := 2) (by decide)) (n := 6) hz (by decide) (by show a 1 z.toNat 1 = zI (sd a z.toNat); rw [sd, zI_self]) hdg kk
theorem lm_leaps (E : GE p s m args meth c D (tysX cA) cc nL own Ts ret) {z : Int} (hz : 0 ≤ z ∧ z < 3) (hdg : decode cc pc = .ok (.iaload, 1)) (kk : GW p l e R s m args below meth c Q D A nL (wM cA ad a th dd kp) cells slots (pc + 1) lv (.int (zI (lp a z.toNat)) :: st)) : GW p l e R s m args below meth c Q D A nL (wM cA ad a th dd kp) cells slots pc lv (.int (zI z) :: .ref (ad 3) :: st) :=
  g_iald E 0 rfl (wM_at (t := 3) (by decide)) (n := 3) hz (by decide) (by show a 3 z.toNat 0 = zI (lp a z.toNat); rw [lp, zI_self]) hdg kk
theorem lm_many (E : GE p s m args meth c D (tysX cA) cc nL own Ts ret) {z : Int} (hz : 0 ≤ z ∧ z < 6) (hdg : decode cc pc = .ok (.iaload, 1)) (kk : GW p l e R s m args below meth c Q D A nL (wM cA ad a th dd kp) cells slots (pc + 1) lv (.int (zI (bl a z.toNat)) :: st)) : GW p l e R s m args below meth c Q D A nL (wM cA ad a th dd kp) cells slots pc lv (.int (zI z) :: .ref (ad 4) :: st) :=
  g_iald E 0 rfl (wM_at (t := 4) (by decide)) (n := 6) hz (by decide) (by show a 1 z.toNat 2 = zI (bl a z.toNat); rw [bl, zI_self]) hdg kk
theorem lm_rust (E : GE p s m args meth c D (tysX cA) cc nL own Ts ret) {z : Int} {p9 k9 : Nat} (hpk : z = 91 * p9 + k9 ∧ k9 < 91) (hz : 0 ≤ z ∧ z < 546) (hdg : decode cc pc = .ok (.iaload, 1)) (kk : GW p l e R s m args below meth c Q D A nL (wM cA ad a th dd kp) cells slots (pc + 1) lv (.int (a 2 p9 k9) :: st)) : GW p l e R s m args below meth c Q D A nL (wM cA ad a th dd kp) cells slots pc lv (.int (zI z) :: .ref (ad 5) :: st) :=
  g_iald E 0 rfl (wM_at (t := 5) (by decide)) (n := 546) hz (by decide) (by show a 2 (z.toNat / 91) (z.toNat % 91) = a 2 p9 k9; rw [show z.toNat / 91 = p9 by omega, show z.toNat % 91 = k9 by omega]) hdg kk
theorem lm_numbers (E : GE p s m args meth c D (tysX cA) cc nL own Ts ret) {z : Int} {c9 w9 : Nat} (hpk : z = 4 * c9 + w9 ∧ w9 < 4) (hz : 0 ≤ z ∧ z < 20) (hdg : decode cc pc = .ok (.iaload, 1)) (kk : GW p l e R s m args below meth c Q D A nL (wM cA ad a th dd kp) cells slots (pc + 1) lv (.int (a (tagN w9) 0 c9) :: st)) : GW p l e R s m args below meth c Q D A nL (wM cA ad a th dd kp) cells slots pc lv (.int (zI z) :: .ref (ad 6) :: st) :=
  g_iald E 0 rfl (wM_at (t := 6) (by decide)) (n := 20) hz (by decide) (by show a (tagN (z.toNat % 4)) 0 (z.toNat / 4) = a (tagN w9) 0 c9; rw [show z.toNat / 4 = c9 by omega, show z.toNat % 4 = w9 by omega]) hdg kk
theorem lm_where (E : GE p s m args meth c D (tysX cA) cc nL own Ts ret) {z : Int} (hpk : ¬ a 3 z.toNat 0 = 0) (hz : 0 ≤ z ∧ z < 3) (hdg : decode cc pc = .ok (.iaload, 1)) (kk : GW p l e R s m args below meth c Q D A nL (wM cA ad a th dd kp) cells slots (pc + 1) lv (.int (zI (on a z.toNat)) :: st)) : GW p l e R s m args below meth c Q D A nL (wM cA ad a th dd kp) cells slots pc lv (.int (zI z) :: .ref (ad 7) :: st) :=
  g_iald E 0 rfl (wM_at (t := 7) (by decide)) (n := 3) hz (by decide) (by show (if a 3 z.toNat 0 = 0 then 0 else a 3 z.toNat 1) = zI (on a z.toNat); rw [if_neg hpk, on, zI_self]) hdg kk
theorem lm_rolled (E : GE p s m args meth c D (tysX cA) cc nL own Ts ret) {z : Int} (hz : 0 ≤ z ∧ z < 3) (hdg : decode cc pc = .ok (.iaload, 1)) (kk : GW p l e R s m args below meth c Q D A nL (wM cA ad a th dd kp) cells slots (pc + 1) lv (.int (a 3 z.toNat 2) :: st)) : GW p l e R s m args below meth c Q D A nL (wM cA ad a th dd kp) cells slots pc lv (.int (zI z) :: .ref (ad 8) :: st) :=
  g_iald E 0 rfl (wM_at (t := 8) (by decide)) (n := 3) hz (by decide) rfl hdg kk
theorem sm_calibres (E : GE p s m args meth c D (tysX cA) cc nL own Ts ret) {z : Int} {v : Int32} (hz : 0 ≤ z ∧ z < 6) (hdg : decode cc pc = .ok (.iastore, 1)) (kk : GW p l e R s m args below meth c Q D A nL (wM cA ad (up3 a 1 z.toNat 0 v) th dd kp) cells slots (pc + 1) lv st) : GW p l e R s m args below meth c Q D A nL (wM cA ad a th dd kp) cells slots pc lv (.int v :: .int (zI z) :: .ref (ad 1) :: st) :=
  g_iast E 0 rfl (n := 6) hz (by decide) (wM_row (t := 1) (by decide) (fun q => by show up3 a 1 z.toNat 0 v 1 q 0 = if q = z.toNat then v else a 1 q 0; rw [up3_e]; by_cases h : q = z.toNat <;> simp [h]) (fun t h0 hne q => rowM_1 h0 (by omega) (by omega) (by omega)) (fun q => up3_n (by omega))) hdg kk
theorem sm_sides (E : GE p s m args meth c D (tysX cA) cc nL own Ts ret) {z : Int} {v : Int32} (hz : 0 ≤ z ∧ z < 6) (hdg : decode cc pc = .ok (.iastore, 1)) (kk : GW p l e R s m args below meth c Q D A nL (wM cA ad (up3 a 1 z.toNat 1 v) th dd kp) cells slots (pc + 1) lv st) : GW p l e R s m args below meth c Q D A nL (wM cA ad a th dd kp) cells slots pc lv (.int v :: .int (zI z) :: .ref (ad 2) :: st) :=
  g_iast E 0 rfl (n := 6) hz (by decide) (wM_row (t := 2) (by decide) (fun q => by show up3 a 1 z.toNat 1 v 1 q 1 = if q = z.toNat then v else a 1 q 1; rw [up3_e]; by_cases h : q = z.toNat <;> simp [h]) (fun t h0 hne q => rowM_1 h0 (by omega) (by omega) (by omega)) (fun q => up3_n (by omega))) hdg kk
theorem sm_many (E : GE p s m args meth c D (tysX cA) cc nL own Ts ret) {z : Int} {v : Int32} (hz : 0 ≤ z ∧ z < 6) (hdg : decode cc pc = .ok (.iastore, 1)) (kk : GW p l e R s m args below meth c Q D A nL (wM cA ad (up3 a 1 z.toNat 2 v) th dd kp) cells slots (pc + 1) lv st) : GW p l e R s m args below meth c Q D A nL (wM cA ad a th dd kp) cells slots pc lv (.int v :: .int (zI z) :: .ref (ad 4) :: st) :=
  g_iast E 0 rfl (n := 6) hz (by decide) (wM_row (t := 4) (by decide) (fun q => by show up3 a 1 z.toNat 2 v 1 q 2 = if q = z.toNat then v else a 1 q 2; rw [up3_e]; by_cases h : q = z.toNat <;> simp [h]) (fun t h0 hne q => rowM_1 h0 (by omega) (by omega) (by omega)) (fun q => up3_n (by omega))) hdg kk
theorem sm_rust (E : GE p s m args meth c D (tysX cA) cc nL own Ts ret) {z : Int} {v : Int32} {p9 k9 : Nat} (hpk : z = 91 * p9 + k9 ∧ k9 < 91) (hz : 0 ≤ z ∧ z < 546) (hdg : decode cc pc = .ok (.iastore, 1)) (kk : GW p l e R s m args below meth c Q D A nL (wM cA ad (up3 a 2 p9 k9 v) th dd kp) cells slots (pc + 1) lv st) : GW p l e R s m args below meth c Q D A nL (wM cA ad a th dd kp) cells slots pc lv (.int v :: .int (zI z) :: .ref (ad 5) :: st) :=
  g_iast E 0 rfl (n := 546) hz (by decide) (wM_row (t := 5) (by decide) (fun q => by show up3 a 2 p9 k9 v 2 (q / 91) (q % 91) = if q = z.toNat then v else a 2 (q / 91) (q % 91); rw [up3_e]; by_cases h : q = z.toNat; rw [if_pos (by omega), if_pos h]; rw [if_neg (by omega), if_neg h]) (fun t h0 hne q => rowM_2 hne) (fun q => up3_n (by omega))) hdg kk
theorem sm_numbers (E : GE p s m args meth c D (tysX cA) cc nL own Ts ret) {z : Int} {v : Int32} {c9 w9 : Nat} (hpk : z = 4 * c9 + w9 ∧ w9 < 4) (hz : 0 ≤ z ∧ z < 20) (hdg : decode cc pc = .ok (.iastore, 1)) (kk : GW p l e R s m args below meth c Q D A nL (wM cA ad (up3 a (tagN w9) 0 c9 v) th dd kp) cells slots (pc + 1) lv st) : GW p l e R s m args below meth c Q D A nL (wM cA ad a th dd kp) cells slots pc lv (.int v :: .int (zI z) :: .ref (ad 6) :: st) :=
  g_iast E 0 rfl (n := 20) hz (by decide) (wM_row (t := 6) (by decide) (fun q => by show up3 a (tagN w9) 0 c9 v (tagN (q % 4)) 0 (q / 4) = if q = z.toNat then v else a (tagN (q % 4)) 0 (q / 4); rw [up3_e]; have hj := tagN_inj (a := q % 4) (b := w9) (by omega) hpk.2; by_cases h : q = z.toNat; rw [if_pos ⟨congrArg tagN (by omega), rfl, by omega⟩, if_pos h]; rw [if_neg (fun r => h (by have := hj r.1; omega)), if_neg h]) (fun t h0 hne q => rowM_4 (tagN_4 w9) hne) (fun q => up3_n (by have := tagN_4 w9; omega))) hdg kk
theorem sm_rolled (E : GE p s m args meth c D (tysX cA) cc nL own Ts ret) {z : Int} {v : Int32} (hz : 0 ≤ z ∧ z < 3) (hdg : decode cc pc = .ok (.iastore, 1)) (kk : GW p l e R s m args below meth c Q D A nL (wM cA ad (up3 a 3 z.toNat 2 v) th dd kp) cells slots (pc + 1) lv st) : GW p l e R s m args below meth c Q D A nL (wM cA ad a th dd kp) cells slots pc lv (.int v :: .int (zI z) :: .ref (ad 8) :: st) :=
  g_iast E 0 rfl (n := 3) hz (by decide) (wM_row (t := 8) (by decide) (fun q => by show up3 a 3 z.toNat 2 v 3 q 2 = if q = z.toNat then v else a 3 q 2; rw [up3_e]; by_cases h : q = z.toNat <;> simp [h]) (fun t h0 hne q => rowM_3 (by omega) (by omega) (by omega)) (fun q => up3_n (by omega))) hdg kk
theorem sm_where (E : GE p s m args meth c D (tysX cA) cc nL own Ts ret) {z : Int} {v : Int32} (hpk : ¬ a 3 z.toNat 0 = 0) (hz : 0 ≤ z ∧ z < 3) (hdg : decode cc pc = .ok (.iastore, 1)) (kk : GW p l e R s m args below meth c Q D A nL (wM cA ad (up3 a 3 z.toNat 1 v) th dd kp) cells slots (pc + 1) lv st) : GW p l e R s m args below meth c Q D A nL (wM cA ad a th dd kp) cells slots pc lv (.int v :: .int (zI z) :: .ref (ad 7) :: st) :=
  g_iast E 0 rfl (n := 3) hz (by decide) (wM_row (t := 7) (by decide) (fun q => by show (if up3 a 3 z.toNat 1 v 3 q 0 = 0 then 0 else up3 a 3 z.toNat 1 v 3 q 1) = if q = z.toNat then v else (if a 3 q 0 = 0 then 0 else a 3 q 1); rw [up3_n (by omega)]; by_cases h : q = z.toNat; rw [h, if_neg hpk, up3_s, if_pos rfl]; rw [if_neg h, up3_n (by omega)]) (fun t h0 hne q => rowM_3 (by omega) (by omega) (by omega)) (fun q => up3_n (by omega))) hdg kk
theorem sm_leaps (E : GE p s m args meth c D (tysX cA) cc nL own Ts ret) {z : Int} {v : Int32} (hpk : a 3 z.toNat 0 = 0) (hv : ¬ v = 0) (hz : 0 ≤ z ∧ z < 3) (hdg : decode cc pc = .ok (.iastore, 1)) (kk : GW p l e R s m args below meth c Q D A nL (wM cA ad (up3 (up3 a 3 z.toNat 0 v) 3 z.toNat 1 0) th dd kp) cells slots (pc + 1) lv st) : GW p l e R s m args below meth c Q D A nL (wM cA ad a th dd kp) cells slots pc lv (.int v :: .int (zI z) :: .ref (ad 3) :: st) :=
  g_iast E 0 rfl (n := 3) hz (by decide) (wM_row (t := 3) (by decide) (fun q => by show up3 (up3 a 3 z.toNat 0 v) 3 z.toNat 1 0 3 q 0 = if q = z.toNat then v else a 3 q 0; rw [up3_n (by omega), up3_e]; by_cases h : q = z.toNat <;> simp [h]) (fun t h0 hne q => by by_cases h7 : t = 7; subst h7; show (if up3 (up3 a 3 z.toNat 0 v) 3 z.toNat 1 0 3 q 0 = 0 then 0 else up3 (up3 a 3 z.toNat 0 v) 3 z.toNat 1 0 3 q 1) = (if a 3 q 0 = 0 then 0 else a 3 q 1); rw [up3_n (by omega)]; by_cases h : q = z.toNat; rw [h, up3_s, up3_s, if_neg hv, if_pos hpk]; rw [up3_n (by omega), up3_n (by omega), up3_n (by omega)]; rw [rowM_3 (by omega) (by omega) (by omega), rowM_3 (by omega) (by omega) (by omega)]) (fun q => by rw [up3_n (by omega), up3_n (by omega)])) hdg kk
theorem lm_calibresN (E : GE p s m args meth c D (tysX cA) cc nL own Ts ret) {k : Nat} (hz : k < 6) (hdg : decode cc pc = .ok (.iaload, 1)) (kk : GW p l e R s m args below meth c Q D A nL (wM cA ad a th dd kp) cells slots (pc + 1) lv (.int (zI (cal a k)) :: st)) : GW p l e R s m args below meth c Q D A nL (wM cA ad a th dd kp) cells slots pc lv (.int (zI (k : Int)) :: .ref (ad 1) :: st) :=
  lm_calibres E (by omega) hdg kk
theorem lm_sidesN (E : GE p s m args meth c D (tysX cA) cc nL own Ts ret) {k : Nat} (hz : k < 6) (hdg : decode cc pc = .ok (.iaload, 1)) (kk : GW p l e R s m args below meth c Q D A nL (wM cA ad a th dd kp) cells slots (pc + 1) lv (.int (zI (sd a k)) :: st)) : GW p l e R s m args below meth c Q D A nL (wM cA ad a th dd kp) cells slots pc lv (.int (zI (k : Int)) :: .ref (ad 2) :: st) :=
  lm_sides E (by omega) hdg kk
theorem lm_leapsN (E : GE p s m args meth c D (tysX cA) cc nL own Ts ret) {k : Nat} (hz : k < 3) (hdg : decode cc pc = .ok (.iaload, 1)) (kk : GW p l e R s m args below meth c Q D A nL (wM cA ad a th dd kp) cells slots (pc + 1) lv (.int (zI (lp a k)) :: st)) : GW p l e R s m args below meth c Q D A nL (wM cA ad a th dd kp) cells slots pc lv (.int (zI (k : Int)) :: .ref (ad 3) :: st) :=
  lm_leaps E (by omega) hdg kk
theorem lm_manyN (E : GE p s m args meth c D (tysX cA) cc nL own Ts ret) {k : Nat} (hz : k < 6) (hdg : decode cc pc = .ok (.iaload, 1)) (kk : GW p l e R s m args below meth c Q D A nL (wM cA ad a th dd kp) cells slots (pc + 1) lv (.int (zI (bl a k)) :: st)) : GW p l e R s m args below meth c Q D A nL (wM cA ad a th dd kp) cells slots pc lv (.int (zI (k : Int)) :: .ref (ad 4) :: st) :=
  lm_many E (by omega) hdg kk
theorem lm_rolledN (E : GE p s m args meth c D (tysX cA) cc nL own Ts ret) {k : Nat} (hz : k < 3) (hdg : decode cc pc = .ok (.iaload, 1)) (kk : GW p l e R s m args below meth c Q D A nL (wM cA ad a th dd kp) cells slots (pc + 1) lv (.int (a 3 k 2) :: st)) : GW p l e R s m args below meth c Q D A nL (wM cA ad a th dd kp) cells slots pc lv (.int (zI (k : Int)) :: .ref (ad 8) :: st) :=
  lm_rolled E (by omega) hdg kk
theorem lm_whereN (E : GE p s m args meth c D (tysX cA) cc nL own Ts ret) {k : Nat} (hpk : ¬ a 3 k 0 = 0) (hz : k < 3) (hdg : decode cc pc = .ok (.iaload, 1)) (kk : GW p l e R s m args below meth c Q D A nL (wM cA ad a th dd kp) cells slots (pc + 1) lv (.int (zI (on a k)) :: st)) : GW p l e R s m args below meth c Q D A nL (wM cA ad a th dd kp) cells slots pc lv (.int (zI (k : Int)) :: .ref (ad 7) :: st) :=
  lm_where E hpk (by omega) hdg kk
theorem sm_manyN (E : GE p s m args meth c D (tysX cA) cc nL own Ts ret) {k : Nat} {v : Int32} (hz : k < 6) (hdg : decode cc pc = .ok (.iastore, 1)) (kk : GW p l e R s m args below meth c Q D A nL (wM cA ad (up3 a 1 k 2 v) th dd kp) cells slots (pc + 1) lv st) : GW p l e R s m args below meth c Q D A nL (wM cA ad a th dd kp) cells slots pc lv (.int v :: .int (zI (k : Int)) :: .ref (ad 4) :: st) :=
  sm_many E (by omega) hdg kk
theorem sm_rolledN (E : GE p s m args meth c D (tysX cA) cc nL own Ts ret) {k : Nat} {v : Int32} (hz : k < 3) (hdg : decode cc pc = .ok (.iastore, 1)) (kk : GW p l e R s m args below meth c Q D A nL (wM cA ad (up3 a 3 k 2 v) th dd kp) cells slots (pc + 1) lv st) : GW p l e R s m args below meth c Q D A nL (wM cA ad a th dd kp) cells slots pc lv (.int v :: .int (zI (k : Int)) :: .ref (ad 8) :: st) :=
  sm_rolled E (by omega) hdg kk
theorem sm_whereN (E : GE p s m args meth c D (tysX cA) cc nL own Ts ret) {k : Nat} {v : Int32} (hpk : ¬ a 3 k 0 = 0) (hz : k < 3) (hdg : decode cc pc = .ok (.iastore, 1)) (kk : GW p l e R s m args below meth c Q D A nL (wM cA ad (up3 a 3 k 1 v) th dd kp) cells slots (pc + 1) lv st) : GW p l e R s m args below meth c Q D A nL (wM cA ad a th dd kp) cells slots pc lv (.int v :: .int (zI (k : Int)) :: .ref (ad 7) :: st) :=
  sm_where E hpk (by omega) hdg kk
theorem nm_rust (E : GE p s m args meth c D (tysX cA) cc nL own Ts ret) (hdg : decode cc pc = .ok (.arraylength, 1)) (kk : GW p l e R s m args below meth c Q D A nL (wM cA ad a th dd kp) cells slots (pc + 1) lv (.int (zI 546) :: st)) : GW p l e R s m args below meth c Q D A nL (wM cA ad a th dd kp) cells slots pc lv (.ref (ad 5) :: st) :=
  g_alen E 0 rfl (wM_at (t := 5) (by decide)) hdg kk
theorem nm_numbers (E : GE p s m args meth c D (tysX cA) cc nL own Ts ret) (hdg : decode cc pc = .ok (.arraylength, 1)) (kk : GW p l e R s m args below meth c Q D A nL (wM cA ad a th dd kp) cells slots (pc + 1) lv (.int (zI 20) :: st)) : GW p l e R s m args below meth c Q D A nL (wM cA ad a th dd kp) cells slots pc lv (.ref (ad 6) :: st) :=
  g_alen E 0 rfl (wM_at (t := 6) (by decide)) hdg kk
end WMS
