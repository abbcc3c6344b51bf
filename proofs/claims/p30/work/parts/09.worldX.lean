/-! ===== WORLD X: the cells of a CannonStacks, by number (y, t, i): y the yard (0 true, 1 trial, 2 the pyramids), t the kind, i which ===== -/
abbrev Ad : Type := Nat → Nat → Nat → Nat
def pyN (r : Nat → Int32) : Nat := (max 1 (r 1).toInt).toNat
def mB (cA : Nat → ClassId) (ad : Ad) (y t i : Nat) (r : Nat → Int32) : va_E := match t with
  | 0 => .inr (3, [.ref (ad y 10 0), .ref (ad y 11 0), .ref (ad y 15 0), .int (r 0), .int (r 1), .int (r 2), .int (r 3), .int (r 4)])
  | 1 => .inr (1, [.int (r 0), .ref (ad 2 9 (pyN r)), .int (r 2), .ref (ad y 2 i)])
  | 2 => .inl (cA 0, 91, .inl r)
  | 3 => .inr (0, [.int (r 0), .int (r 1), .int (r 2)])
  | 4 => .inl (cA 0, 5, .inl r)
  | 5 => .inl (cA 0, 5, .inl r)
  | 6 => .inl (cA 0, 5, .inl r)
  | 7 => .inl (cA 0, 5, .inl r)
  | 8 => .inr (4, [.ref (ad 2 12 0), .ref (ad 0 16 0), .ref (ad 0 17 0), .ref (ad 0 18 0), .ref (ad 0 0 0), .ref (ad 1 0 0)])
  | 9 => .inr (2, [.int (zI i), .int (zI (sq i)), .ref (ad 2 13 i), .ref (ad 2 14 i)])
  | 10 => .inl (cA 2, 6, .inr (.inr (.inr (.inr fun k => some (ad y 1 k)))))
  | 11 => .inl (cA 3, 3, .inr (.inr (.inr (.inr fun k => some (ad y 3 k)))))
  | 12 => .inl (cA 1, 6, .inr (.inr (.inr (.inr fun k => some (ad 2 9 (k + 1))))))
  | 13 => .inl (cA 0, i + 1, .inl fun k => zI (stz i k))
  | 15 => .inr (6, [.ref (ad y 4 0)])
  | 16 => .inr (6, [.ref (ad y 5 0)])
  | 17 => .inr (6, [.ref (ad y 6 0)])
  | 18 => .inr (6, [.ref (ad y 7 0)])
  | _ => .inl (cA 0, (sq i).toNat, .inl fun k => zI (cov i k))
abbrev Id3 : Type := Nat × Nat × Nat
def idsX : List Id3 := [(0, 8, 0), (2, 12, 0), (0, 16, 0), (0, 5, 0), (0, 17, 0), (0, 6, 0), (0, 18, 0), (0, 7, 0), (0, 0, 0), (0, 10, 0), (0, 11, 0), (0, 15, 0), (0, 4, 0), (0, 1, 0), (0, 1, 1), (0, 1, 2), (0, 1, 3), (0, 1, 4), (0, 1, 5), (0, 2, 0), (0, 2, 1), (0, 2, 2), (0, 2, 3), (0, 2, 4), (0, 2, 5), (0, 3, 0), (0, 3, 1), (0, 3, 2), (1, 0, 0), (1, 10, 0), (1, 11, 0), (1, 15, 0), (1, 4, 0), (1, 1, 0), (1, 1, 1), (1, 1, 2), (1, 1, 3), (1, 1, 4), (1, 1, 5), (1, 2, 0), (1, 2, 1), (1, 2, 2), (1, 2, 3), (1, 2, 4), (1, 2, 5), (1, 3, 0), (1, 3, 1), (1, 3, 2), (2, 9, 1), (2, 13, 1), (2, 14, 1), (2, 9, 2), (2, 13, 2), (2, 14, 2), (2, 9, 3), (2, 13, 3), (2, 14, 3), (2, 9, 4), (2, 13, 4), (2, 14, 4), (2, 9, 5), (2, 13, 5), (2, 14, 5), (2, 9, 6), (2, 13, 6), (2, 14, 6)]
theorem idsX_nd : idsX.Nodup := by decide +kernel
theorem mem_y : ∀ y, y < 2 → (y, 0, 0) ∈ idsX := by decide +kernel
theorem mem_1 : ∀ y, y < 2 → ∀ i, i < 6 → (y, 1, i) ∈ idsX := by decide +kernel
theorem mem_2 : ∀ y, y < 2 → ∀ i, i < 6 → (y, 2, i) ∈ idsX := by decide +kernel
theorem mem_3 : ∀ y, y < 2 → ∀ i, i < 3 → (y, 3, i) ∈ idsX := by decide +kernel
theorem mem_4 : ∀ y, y < 2 → (y, 4, 0) ∈ idsX := by decide +kernel
theorem mem_10 : ∀ y, y < 2 → (y, 10, 0) ∈ idsX := by decide +kernel
theorem mem_11 : ∀ y, y < 2 → (y, 11, 0) ∈ idsX := by decide +kernel
theorem mem_9 : ∀ i, i < 7 → 1 ≤ i → (2, 9, i) ∈ idsX := by decide +kernel
theorem mem_13 : ∀ i, i < 7 → 1 ≤ i → (2, 13, i) ∈ idsX := by decide +kernel
theorem mem_14 : ∀ i, i < 7 → 1 ≤ i → (2, 14, i) ∈ idsX := by decide +kernel
theorem mem_5 : (0, 5, 0) ∈ idsX := by decide +kernel
theorem mem_6 : (0, 6, 0) ∈ idsX := by decide +kernel
theorem mem_7 : (0, 7, 0) ∈ idsX := by decide +kernel
theorem mem_8 : (0, 8, 0) ∈ idsX := by decide +kernel
theorem mem_12 : (2, 12, 0) ∈ idsX := by decide +kernel
/-- a tally's row by its tag: the object stands at the tag and eleven more -/
def TY (y t : Nat) : Prop := (4 ≤ t ∧ t ≤ 7) ∧ (y, t, 0) ∈ idsX ∧ (y, t + 11, 0) ∈ idsX
theorem mem_15 : ∀ y, y < 2 → (y, 15, 0) ∈ idsX := by decide +kernel
theorem TY_4 (y : Nat) (h : y < 2) : TY y 4 := ⟨by decide, mem_4 y h, mem_15 y h⟩
theorem TY_5 : TY 0 5 := ⟨by decide, by decide +kernel, by decide +kernel⟩
theorem TY_6 : TY 0 6 := ⟨by decide, by decide +kernel, by decide +kernel⟩
theorem TY_7 : TY 0 7 := ⟨by decide, by decide +kernel, by decide +kernel⟩
theorem mB_T {cA : Nat → ClassId} {ad : Ad} {y t : Nat} {r : Nat → Int32} (h : 4 ≤ t ∧ t ≤ 7) : mB cA ad y (t + 11) 0 r = .inr (6, [.ref (ad y t 0)]) := by
  rcases (show t = 4 ∨ t = 5 ∨ t = 6 ∨ t = 7 by omega) with rfl | rfl | rfl | rfl <;> rfl
theorem mB_R {cA : Nat → ClassId} {ad : Ad} {y t : Nat} {r : Nat → Int32} (h : 4 ≤ t ∧ t ≤ 7) : mB cA ad y t 0 r = .inl (cA 0, 5, .inl r) := by
  rcases (show t = 4 ∨ t = 5 ∨ t = 6 ∨ t = 7 by omega) with rfl | rfl | rfl | rfl <;> rfl
def wX (cA : Nat → ClassId) (ad : Ad) (σ : Nat → St) : va_W := idsX.map (fun q => (ad q.1 q.2.1 q.2.2, mB cA ad q.1 q.2.1 q.2.2 (σ q.1 q.2.1 q.2.2)))
def tysX (cA : Nat → ClassId) : gT := [(cA 0, .int), (cA 1, .object RX2), (cA 2, .object RX1), (cA 3, .object RX0), (cA 4, .boolean), (cA 5, .object RX7), (cA 6, .array .int)]
theorem wX_at {cA : Nat → ClassId} {ad : Ad} {σ : Nat → St} {y t i : Nat} (h : (y, t, i) ∈ idsX) : ∃ q0 : Nat, (wX cA ad σ)[q0]? = some (ad y t i, mB cA ad y t i (σ y t i)) := by
  obtain ⟨k, hk⟩ := List.getElem?_of_mem h
  exact ⟨k, by rw [wX, List.getElem?_map, hk]; rfl⟩
theorem nd_inj {α : Type} : ∀ {L : List α}, L.Nodup → ∀ {i j : Nat} {x : α}, L[i]? = some x → L[j]? = some x → i = j
  | [], _, i, j, x, h, _ => by simp at h
  | a :: L, hn, i, j, x, h1, h2 => by
    obtain ⟨hn1, hn2⟩ := List.nodup_cons.mp hn
    cases i with
    | zero =>
      cases j with
      | zero => rfl
      | succ j =>
        rw [List.getElem?_cons_zero] at h1
        rw [List.getElem?_cons_succ] at h2
        cases h1
        exact absurd (List.mem_of_getElem? h2) hn1
    | succ i =>
      rw [List.getElem?_cons_succ] at h1
      cases j with
      | zero =>
        rw [List.getElem?_cons_zero] at h2
        cases h2
        exact absurd (List.mem_of_getElem? h1) hn1
      | succ j =>
        rw [List.getElem?_cons_succ] at h2
        rw [nd_inj hn2 h1 h2]
theorem wl_set {α β : Type} {L : List α} (hn : L.Nodup) {x : α} (hx : x ∈ L) {f f' : α → β} {e : β} (h1 : f' x = e) (h2 : ∀ z ∈ L, z ≠ x → f' z = f z) : ∃ q0 : Nat, (L.map f)[q0]? = some (f x) ∧ (L.map f).set q0 e = L.map f' := by
  obtain ⟨k, hk⟩ := List.getElem?_of_mem hx
  refine ⟨k, by rw [List.getElem?_map, hk]; rfl, List.ext_getElem? fun j => ?_⟩
  rw [List.getElem?_set]
  by_cases hj : k = j
  · subst hj
    have hl : k < L.length := (List.getElem?_eq_some_iff.mp hk).1
    rw [if_pos rfl, if_pos (by simpa using hl), ← h1, List.getElem?_map, hk]
    rfl
  · rw [if_neg hj, List.getElem?_map, List.getElem?_map]
    cases hz : L[j]? with
    | none => rfl
    | some z =>
      show some (f z) = some (f' z)
      rw [h2 z (List.mem_of_getElem? hz) (fun q => hj (nd_inj hn hk (by rw [← q]; exact hz)))]
/-- a row of the value changes: one cell does -/
theorem wX_set {cA : Nat → ClassId} {ad : Ad} {σ : Nat → St} {y t i : Nat} (h : (y, t, i) ∈ idsX) {r : Nat → Int32} {e0 e' : va_E} (h0 : mB cA ad y t i (σ y t i) = e0) (h1 : mB cA ad y t i r = e') : ∃ q0 : Nat, (wX cA ad σ)[q0]? = some (ad y t i, e0) ∧ (wX cA ad σ).set q0 (ad y t i, e') = wX cA ad (upY σ y (upR (σ y) t i r)) := by
  subst h0; subst h1
  refine wl_set (f := fun q : Id3 => (ad q.1 q.2.1 q.2.2, mB cA ad q.1 q.2.1 q.2.2 (σ q.1 q.2.1 q.2.2))) (f' := fun q : Id3 => (ad q.1 q.2.1 q.2.2, mB cA ad q.1 q.2.1 q.2.2 (upY σ y (upR (σ y) t i r) q.1 q.2.1 q.2.2))) idsX_nd h ?_ ?_
  · show (ad y t i, mB cA ad y t i (upY σ y (upR (σ y) t i r) y t i)) = _
    rw [upY_s, upR_s]
  · rintro ⟨y', t', i'⟩ _ hne
    show (ad y' t' i', mB cA ad y' t' i' (upY σ y (upR (σ y) t i r) y' t' i')) = (ad y' t' i', mB cA ad y' t' i' (σ y' t' i'))
    congr 2
    by_cases hy : y' = y
    · subst hy
      rw [upY_s, upR_n]
      rintro ⟨rfl, rfl⟩
      exact hne rfl
    · rw [upY_n hy]
theorem ob_0 {cA : Nat → ClassId} {ad : Ad} {σ : Nat → St} {y : Nat} (h : (y, 0, 0) ∈ idsX) : ∃ (q0 : Nat) (fs : List Value), (wX cA ad σ)[q0]? = some (ad y 0 0, .inr (3, fs)) := let ⟨q, h⟩ := wX_at h; ⟨q, _, h⟩
theorem ob_1 {cA : Nat → ClassId} {ad : Ad} {σ : Nat → St} {y i : Nat} (h : (y, 1, i) ∈ idsX) : ∃ (q0 : Nat) (fs : List Value), (wX cA ad σ)[q0]? = some (ad y 1 i, .inr (1, fs)) := let ⟨q, h⟩ := wX_at h; ⟨q, _, h⟩
theorem ob_3 {cA : Nat → ClassId} {ad : Ad} {σ : Nat → St} {y i : Nat} (h : (y, 3, i) ∈ idsX) : ∃ (q0 : Nat) (fs : List Value), (wX cA ad σ)[q0]? = some (ad y 3 i, .inr (0, fs)) := let ⟨q, h⟩ := wX_at h; ⟨q, _, h⟩
theorem ob_8 {cA : Nat → ClassId} {ad : Ad} {σ : Nat → St} (h : (0, 8, 0) ∈ idsX) : ∃ (q0 : Nat) (fs : List Value), (wX cA ad σ)[q0]? = some (ad 0 8 0, .inr (4, fs)) := let ⟨q, h⟩ := wX_at h; ⟨q, _, h⟩
theorem ob_T {cA : Nat → ClassId} {ad : Ad} {σ : Nat → St} {y t : Nat} (h : TY y t) : ∃ (q0 : Nat) (fs : List Value), (wX cA ad σ)[q0]? = some (ad y (t + 11) 0, .inr (6, fs)) := by
  obtain ⟨q, h1⟩ := wX_at (cA := cA) (ad := ad) (σ := σ) h.2.2
  rw [mB_T h.1] at h1
  exact ⟨q, _, h1⟩
theorem at_T {cA : Nat → ClassId} {ad : Ad} {σ : Nat → St} {y t : Nat} (h : TY y t) : ∃ q0 : Nat, (wX cA ad σ)[q0]? = some (ad y (t + 11) 0, .inr (6, [.ref (ad y t 0)])) := by
  obtain ⟨q, h1⟩ := wX_at (cA := cA) (ad := ad) (σ := σ) h.2.2
  rw [mB_T h.1] at h1
  exact ⟨q, h1⟩
theorem at_R {cA : Nat → ClassId} {ad : Ad} {σ : Nat → St} {y t : Nat} (h : TY y t) : ∃ q0 : Nat, (wX cA ad σ)[q0]? = some (ad y t 0, .inl (cA 0, 5, .inl (σ y t 0))) := by
  obtain ⟨q, h1⟩ := wX_at (cA := cA) (ad := ad) (σ := σ) h.2.1
  rw [mB_R h.1] at h1
  exact ⟨q, h1⟩
theorem ob_9 {cA : Nat → ClassId} {ad : Ad} {σ : Nat → St} {i : Nat} (h : (2, 9, i) ∈ idsX) : ∃ (q0 : Nat) (fs : List Value), (wX cA ad σ)[q0]? = some (ad 2 9 i, .inr (2, fs)) := let ⟨q, h⟩ := wX_at h; ⟨q, _, h⟩
section WX
variable {p : Program} {l : Launch} {e : Env} {R : Room} {s : State} {m : MethodId} {args : Array Value} {below : List Frame} {meth : Method} {c : Code} {Q : State → Prop} {D : va_G} {tys : gT} {A : Nat → Prop} {nL : Nat} {cells slots pc : Nat} {lv : List (Nat × Value)} {st : List Value} {cc : ByteArray} {own : String} {Ts : List Cond} {ret : Option FieldType} {cA : Nat → ClassId} {ad : Ad} {σ : Nat → St} {y i t : Nat}
theorem gx_Yard_piles (E : GE p s m args meth c D tys cc nL own Ts ret) {index : Nat} (hi : (y, 0, 0) ∈ idsX) (hin : ∀ w ∈ u_ws RX3 TX3 8, w ∈ Ts) (hlink : Cond.fieldLink own index RX3 "piles" "[LCannonStacks$Pile;" ∈ Ts) (hdg : decode cc pc = .ok (.getfield index, 3)) (kk : GW p l e R s m args below meth c Q D A nL (wX cA ad σ) cells slots (pc + 3) lv (.ref (ad y 10 0) :: st)) : GW p l e R s m args below meth c Q D A nL (wX cA ad σ) cells slots pc lv (.ref (ad y 0 0) :: st) :=
  g_getf E hin (T := TX3) rfl (wX_at hi) 0 (by decide) hlink rfl rfl hdg kk
theorem gx_Yard_cats (E : GE p s m args meth c D tys cc nL own Ts ret) {index : Nat} (hi : (y, 0, 0) ∈ idsX) (hin : ∀ w ∈ u_ws RX3 TX3 8, w ∈ Ts) (hlink : Cond.fieldLink own index RX3 "cats" "[LCannonStacks$Cat;" ∈ Ts) (hdg : decode cc pc = .ok (.getfield index, 3)) (kk : GW p l e R s m args below meth c Q D A nL (wX cA ad σ) cells slots (pc + 3) lv (.ref (ad y 11 0) :: st)) : GW p l e R s m args below meth c Q D A nL (wX cA ad σ) cells slots pc lv (.ref (ad y 0 0) :: st) :=
  g_getf E hin (T := TX3) rfl (wX_at hi) 1 (by decide) hlink rfl rfl hdg kk
theorem gx_Yard_loose (E : GE p s m args meth c D tys cc nL own Ts ret) {index : Nat} (hi : (y, 0, 0) ∈ idsX) (hin : ∀ w ∈ u_ws RX3 TX3 8, w ∈ Ts) (hlink : Cond.fieldLink own index RX3 "loose" "LCannonStacks$Tally;" ∈ Ts) (hdg : decode cc pc = .ok (.getfield index, 3)) (kk : GW p l e R s m args below meth c Q D A nL (wX cA ad σ) cells slots (pc + 3) lv (.ref (ad y 15 0) :: st)) : GW p l e R s m args below meth c Q D A nL (wX cA ad σ) cells slots pc lv (.ref (ad y 0 0) :: st) :=
  g_getf E hin (T := TX3) rfl (wX_at hi) 2 (by decide) hlink rfl rfl hdg kk
theorem gx_Yard_pileCount (E : GE p s m args meth c D tys cc nL own Ts ret) {index : Nat} (hi : (y, 0, 0) ∈ idsX) (hin : ∀ w ∈ u_ws RX3 TX3 8, w ∈ Ts) (hlink : Cond.fieldLink own index RX3 "pileCount" "I" ∈ Ts) (hdg : decode cc pc = .ok (.getfield index, 3)) (kk : GW p l e R s m args below meth c Q D A nL (wX cA ad σ) cells slots (pc + 3) lv (.int (zI (np (σ y))) :: st)) : GW p l e R s m args below meth c Q D A nL (wX cA ad σ) cells slots pc lv (.ref (ad y 0 0) :: st) :=
  g_getf E hin (T := TX3) rfl (wX_at hi) 3 (by decide) hlink rfl (by simp [cal, bl, np, nc, lp, on, zI_self]) hdg kk
theorem px_Yard_pileCount (E : GE p s m args meth c D tys cc nL own Ts ret) {index : Nat} {v : Int32} (hi : (y, 0, 0) ∈ idsX) (hin : ∀ w ∈ u_ws RX3 TX3 8, w ∈ Ts) (hlink : Cond.fieldLink own index RX3 "pileCount" "I" ∈ Ts) (hdg : decode cc pc = .ok (.putfield index, 3)) (kk : GW p l e R s m args below meth c Q D A nL (wX cA ad (upY σ y (up3 (σ y) 0 0 0 v))) cells slots (pc + 3) lv st) : GW p l e R s m args below meth c Q D A nL (wX cA ad σ) cells slots pc lv (.int v :: .ref (ad y 0 0) :: st) :=
  g_putf (ty := .int) (k := 3) E hin (T := TX3) tyX3_ok nmX3 rfl (by decide) hlink rfl rfl (by decide +kernel) rfl rfl (Nat.le_of_ble_eq_true rfl) (wX_set hi rfl rfl) hdg kk
theorem gx_Yard_catCount (E : GE p s m args meth c D tys cc nL own Ts ret) {index : Nat} (hi : (y, 0, 0) ∈ idsX) (hin : ∀ w ∈ u_ws RX3 TX3 8, w ∈ Ts) (hlink : Cond.fieldLink own index RX3 "catCount" "I" ∈ Ts) (hdg : decode cc pc = .ok (.getfield index, 3)) (kk : GW p l e R s m args below meth c Q D A nL (wX cA ad σ) cells slots (pc + 3) lv (.int (zI (nc (σ y))) :: st)) : GW p l e R s m args below meth c Q D A nL (wX cA ad σ) cells slots pc lv (.ref (ad y 0 0) :: st) :=
  g_getf E hin (T := TX3) rfl (wX_at hi) 4 (by decide) hlink rfl (by simp [cal, bl, np, nc, lp, on, zI_self]) hdg kk
theorem px_Yard_catCount (E : GE p s m args meth c D tys cc nL own Ts ret) {index : Nat} {v : Int32} (hi : (y, 0, 0) ∈ idsX) (hin : ∀ w ∈ u_ws RX3 TX3 8, w ∈ Ts) (hlink : Cond.fieldLink own index RX3 "catCount" "I" ∈ Ts) (hdg : decode cc pc = .ok (.putfield index, 3)) (kk : GW p l e R s m args below meth c Q D A nL (wX cA ad (upY σ y (up3 (σ y) 0 0 1 v))) cells slots (pc + 3) lv st) : GW p l e R s m args below meth c Q D A nL (wX cA ad σ) cells slots pc lv (.int v :: .ref (ad y 0 0) :: st) :=
  g_putf (ty := .int) (k := 4) E hin (T := TX3) tyX3_ok nmX3 rfl (by decide) hlink rfl rfl (by decide +kernel) rfl rfl (Nat.le_of_ble_eq_true rfl) (wX_set hi rfl rfl) hdg kk
theorem gx_Yard_day (E : GE p s m args meth c D tys cc nL own Ts ret) {index : Nat} (hi : (y, 0, 0) ∈ idsX) (hin : ∀ w ∈ u_ws RX3 TX3 8, w ∈ Ts) (hlink : Cond.fieldLink own index RX3 "day" "I" ∈ Ts) (hdg : decode cc pc = .ok (.getfield index, 3)) (kk : GW p l e R s m args below meth c Q D A nL (wX cA ad σ) cells slots (pc + 3) lv (.int (σ y 0 0 2) :: st)) : GW p l e R s m args below meth c Q D A nL (wX cA ad σ) cells slots pc lv (.ref (ad y 0 0) :: st) :=
  g_getf E hin (T := TX3) rfl (wX_at hi) 5 (by decide) hlink rfl rfl hdg kk
theorem px_Yard_day (E : GE p s m args meth c D tys cc nL own Ts ret) {index : Nat} {v : Int32} (hi : (y, 0, 0) ∈ idsX) (hin : ∀ w ∈ u_ws RX3 TX3 8, w ∈ Ts) (hlink : Cond.fieldLink own index RX3 "day" "I" ∈ Ts) (hdg : decode cc pc = .ok (.putfield index, 3)) (kk : GW p l e R s m args below meth c Q D A nL (wX cA ad (upY σ y (up3 (σ y) 0 0 2 v))) cells slots (pc + 3) lv st) : GW p l e R s m args below meth c Q D A nL (wX cA ad σ) cells slots pc lv (.int v :: .ref (ad y 0 0) :: st) :=
  g_putf (ty := .int) (k := 5) E hin (T := TX3) tyX3_ok nmX3 rfl (by decide) hlink rfl rfl (by decide +kernel) rfl rfl (Nat.le_of_ble_eq_true rfl) (wX_set hi rfl rfl) hdg kk
theorem gx_Yard_rain (E : GE p s m args meth c D tys cc nL own Ts ret) {index : Nat} (hi : (y, 0, 0) ∈ idsX) (hin : ∀ w ∈ u_ws RX3 TX3 8, w ∈ Ts) (hlink : Cond.fieldLink own index RX3 "rain" "I" ∈ Ts) (hdg : decode cc pc = .ok (.getfield index, 3)) (kk : GW p l e R s m args below meth c Q D A nL (wX cA ad σ) cells slots (pc + 3) lv (.int (σ y 0 0 3) :: st)) : GW p l e R s m args below meth c Q D A nL (wX cA ad σ) cells slots pc lv (.ref (ad y 0 0) :: st) :=
  g_getf E hin (T := TX3) rfl (wX_at hi) 6 (by decide) hlink rfl rfl hdg kk
theorem px_Yard_rain (E : GE p s m args meth c D tys cc nL own Ts ret) {index : Nat} {v : Int32} (hi : (y, 0, 0) ∈ idsX) (hin : ∀ w ∈ u_ws RX3 TX3 8, w ∈ Ts) (hlink : Cond.fieldLink own index RX3 "rain" "I" ∈ Ts) (hdg : decode cc pc = .ok (.putfield index, 3)) (kk : GW p l e R s m args below meth c Q D A nL (wX cA ad (upY σ y (up3 (σ y) 0 0 3 v))) cells slots (pc + 3) lv st) : GW p l e R s m args below meth c Q D A nL (wX cA ad σ) cells slots pc lv (.int v :: .ref (ad y 0 0) :: st) :=
  g_putf (ty := .int) (k := 6) E hin (T := TX3) tyX3_ok nmX3 rfl (by decide) hlink rfl rfl (by decide +kernel) rfl rfl (Nat.le_of_ble_eq_true rfl) (wX_set hi rfl rfl) hdg kk
theorem gx_Yard_limit (E : GE p s m args meth c D tys cc nL own Ts ret) {index : Nat} (hi : (y, 0, 0) ∈ idsX) (hin : ∀ w ∈ u_ws RX3 TX3 8, w ∈ Ts) (hlink : Cond.fieldLink own index RX3 "limit" "I" ∈ Ts) (hdg : decode cc pc = .ok (.getfield index, 3)) (kk : GW p l e R s m args below meth c Q D A nL (wX cA ad σ) cells slots (pc + 3) lv (.int (σ y 0 0 4) :: st)) : GW p l e R s m args below meth c Q D A nL (wX cA ad σ) cells slots pc lv (.ref (ad y 0 0) :: st) :=
  g_getf E hin (T := TX3) rfl (wX_at hi) 7 (by decide) hlink rfl rfl hdg kk
theorem px_Yard_limit (E : GE p s m args meth c D tys cc nL own Ts ret) {index : Nat} {v : Int32} (hi : (y, 0, 0) ∈ idsX) (hin : ∀ w ∈ u_ws RX3 TX3 8, w ∈ Ts) (hlink : Cond.fieldLink own index RX3 "limit" "I" ∈ Ts) (hdg : decode cc pc = .ok (.putfield index, 3)) (kk : GW p l e R s m args below meth c Q D A nL (wX cA ad (upY σ y (up3 (σ y) 0 0 4 v))) cells slots (pc + 3) lv st) : GW p l e R s m args below meth c Q D A nL (wX cA ad σ) cells slots pc lv (.int v :: .ref (ad y 0 0) :: st) :=
  g_putf (ty := .int) (k := 7) E hin (T := TX3) tyX3_ok nmX3 rfl (by decide) hlink rfl rfl (by decide +kernel) rfl rfl (Nat.le_of_ble_eq_true rfl) (wX_set hi rfl rfl) hdg kk
theorem gx_Pile_calibre (E : GE p s m args meth c D tys cc nL own Ts ret) {index : Nat} (hi : (y, 1, i) ∈ idsX) (hin : ∀ w ∈ u_ws RX1 TX1 4, w ∈ Ts) (hlink : Cond.fieldLink own index RX1 "calibre" "I" ∈ Ts) (hdg : decode cc pc = .ok (.getfield index, 3)) (kk : GW p l e R s m args below meth c Q D A nL (wX cA ad σ) cells slots (pc + 3) lv (.int (zI (cal (σ y) i)) :: st)) : GW p l e R s m args below meth c Q D A nL (wX cA ad σ) cells slots pc lv (.ref (ad y 1 i) :: st) :=
  g_getf E hin (T := TX1) rfl (wX_at hi) 0 (by decide) hlink rfl (by simp [cal, bl, np, nc, lp, on, zI_self]) hdg kk
theorem px_Pile_calibre (E : GE p s m args meth c D tys cc nL own Ts ret) {index : Nat} {v : Int32} (hi : (y, 1, i) ∈ idsX) (hin : ∀ w ∈ u_ws RX1 TX1 4, w ∈ Ts) (hlink : Cond.fieldLink own index RX1 "calibre" "I" ∈ Ts) (hdg : decode cc pc = .ok (.putfield index, 3)) (kk : GW p l e R s m args below meth c Q D A nL (wX cA ad (upY σ y (up3 (σ y) 1 i 0 v))) cells slots (pc + 3) lv st) : GW p l e R s m args below meth c Q D A nL (wX cA ad σ) cells slots pc lv (.int v :: .ref (ad y 1 i) :: st) :=
  g_putf (ty := .int) (k := 0) E hin (T := TX1) tyX1_ok nmX1 rfl (by decide) hlink rfl rfl (by decide +kernel) rfl rfl (Nat.le_of_ble_eq_true rfl) (wX_set hi rfl rfl) hdg kk
theorem gx_Pile_pyramid (E : GE p s m args meth c D tys cc nL own Ts ret) {index : Nat} (hi : (y, 1, i) ∈ idsX) (hin : ∀ w ∈ u_ws RX1 TX1 4, w ∈ Ts) (hlink : Cond.fieldLink own index RX1 "pyramid" "LCannonStacks$Pyramid;" ∈ Ts) (hdg : decode cc pc = .ok (.getfield index, 3)) (kk : GW p l e R s m args below meth c Q D A nL (wX cA ad σ) cells slots (pc + 3) lv (.ref (ad 2 9 (pyN (σ y 1 i))) :: st)) : GW p l e R s m args below meth c Q D A nL (wX cA ad σ) cells slots pc lv (.ref (ad y 1 i) :: st) :=
  g_getf E hin (T := TX1) rfl (wX_at hi) 1 (by decide) hlink rfl rfl hdg kk
theorem gx_Pile_balls (E : GE p s m args meth c D tys cc nL own Ts ret) {index : Nat} (hi : (y, 1, i) ∈ idsX) (hin : ∀ w ∈ u_ws RX1 TX1 4, w ∈ Ts) (hlink : Cond.fieldLink own index RX1 "balls" "I" ∈ Ts) (hdg : decode cc pc = .ok (.getfield index, 3)) (kk : GW p l e R s m args below meth c Q D A nL (wX cA ad σ) cells slots (pc + 3) lv (.int (zI (bl (σ y) i)) :: st)) : GW p l e R s m args below meth c Q D A nL (wX cA ad σ) cells slots pc lv (.ref (ad y 1 i) :: st) :=
  g_getf E hin (T := TX1) rfl (wX_at hi) 2 (by decide) hlink rfl (by simp [cal, bl, np, nc, lp, on, zI_self]) hdg kk
theorem px_Pile_balls (E : GE p s m args meth c D tys cc nL own Ts ret) {index : Nat} {v : Int32} (hi : (y, 1, i) ∈ idsX) (hin : ∀ w ∈ u_ws RX1 TX1 4, w ∈ Ts) (hlink : Cond.fieldLink own index RX1 "balls" "I" ∈ Ts) (hdg : decode cc pc = .ok (.putfield index, 3)) (kk : GW p l e R s m args below meth c Q D A nL (wX cA ad (upY σ y (up3 (σ y) 1 i 2 v))) cells slots (pc + 3) lv st) : GW p l e R s m args below meth c Q D A nL (wX cA ad σ) cells slots pc lv (.int v :: .ref (ad y 1 i) :: st) :=
  g_putf (ty := .int) (k := 2) E hin (T := TX1) tyX1_ok nmX1 rfl (by decide) hlink rfl rfl (by decide +kernel) rfl rfl (Nat.le_of_ble_eq_true rfl) (wX_set hi rfl rfl) hdg kk
theorem gx_Pile_rust (E : GE p s m args meth c D tys cc nL own Ts ret) {index : Nat} (hi : (y, 1, i) ∈ idsX) (hin : ∀ w ∈ u_ws RX1 TX1 4, w ∈ Ts) (hlink : Cond.fieldLink own index RX1 "rust" "[I" ∈ Ts) (hdg : decode cc pc = .ok (.getfield index, 3)) (kk : GW p l e R s m args below meth c Q D A nL (wX cA ad σ) cells slots (pc + 3) lv (.ref (ad y 2 i) :: st)) : GW p l e R s m args below meth c Q D A nL (wX cA ad σ) cells slots pc lv (.ref (ad y 1 i) :: st) :=
  g_getf E hin (T := TX1) rfl (wX_at hi) 3 (by decide) hlink rfl rfl hdg kk
theorem gx_Cat_leap (E : GE p s m args meth c D tys cc nL own Ts ret) {index : Nat} (hi : (y, 3, i) ∈ idsX) (hin : ∀ w ∈ u_ws RX0 TX0 3, w ∈ Ts) (hlink : Cond.fieldLink own index RX0 "leap" "I" ∈ Ts) (hdg : decode cc pc = .ok (.getfield index, 3)) (kk : GW p l e R s m args below meth c Q D A nL (wX cA ad σ) cells slots (pc + 3) lv (.int (zI (lp (σ y) i)) :: st)) : GW p l e R s m args below meth c Q D A nL (wX cA ad σ) cells slots pc lv (.ref (ad y 3 i) :: st) :=
  g_getf E hin (T := TX0) rfl (wX_at hi) 0 (by decide) hlink rfl (by simp [cal, bl, np, nc, lp, on, zI_self]) hdg kk
theorem px_Cat_leap (E : GE p s m args meth c D tys cc nL own Ts ret) {index : Nat} {v : Int32} (hi : (y, 3, i) ∈ idsX) (hin : ∀ w ∈ u_ws RX0 TX0 3, w ∈ Ts) (hlink : Cond.fieldLink own index RX0 "leap" "I" ∈ Ts) (hdg : decode cc pc = .ok (.putfield index, 3)) (kk : GW p l e R s m args below meth c Q D A nL (wX cA ad (upY σ y (up3 (σ y) 3 i 0 v))) cells slots (pc + 3) lv st) : GW p l e R s m args below meth c Q D A nL (wX cA ad σ) cells slots pc lv (.int v :: .ref (ad y 3 i) :: st) :=
  g_putf (ty := .int) (k := 0) E hin (T := TX0) tyX0_ok nmX0 rfl (by decide) hlink rfl rfl (by decide +kernel) rfl rfl (Nat.le_of_ble_eq_true rfl) (wX_set hi rfl rfl) hdg kk
theorem gx_Cat_on (E : GE p s m args meth c D tys cc nL own Ts ret) {index : Nat} (hi : (y, 3, i) ∈ idsX) (hin : ∀ w ∈ u_ws RX0 TX0 3, w ∈ Ts) (hlink : Cond.fieldLink own index RX0 "on" "I" ∈ Ts) (hdg : decode cc pc = .ok (.getfield index, 3)) (kk : GW p l e R s m args below meth c Q D A nL (wX cA ad σ) cells slots (pc + 3) lv (.int (zI (on (σ y) i)) :: st)) : GW p l e R s m args below meth c Q D A nL (wX cA ad σ) cells slots pc lv (.ref (ad y 3 i) :: st) :=
  g_getf E hin (T := TX0) rfl (wX_at hi) 1 (by decide) hlink rfl (by simp [cal, bl, np, nc, lp, on, zI_self]) hdg kk
theorem px_Cat_on (E : GE p s m args meth c D tys cc nL own Ts ret) {index : Nat} {v : Int32} (hi : (y, 3, i) ∈ idsX) (hin : ∀ w ∈ u_ws RX0 TX0 3, w ∈ Ts) (hlink : Cond.fieldLink own index RX0 "on" "I" ∈ Ts) (hdg : decode cc pc = .ok (.putfield index, 3)) (kk : GW p l e R s m args below meth c Q D A nL (wX cA ad (upY σ y (up3 (σ y) 3 i 1 v))) cells slots (pc + 3) lv st) : GW p l e R s m args below meth c Q D A nL (wX cA ad σ) cells slots pc lv (.int v :: .ref (ad y 3 i) :: st) :=
  g_putf (ty := .int) (k := 1) E hin (T := TX0) tyX0_ok nmX0 rfl (by decide) hlink rfl rfl (by decide +kernel) rfl rfl (Nat.le_of_ble_eq_true rfl) (wX_set hi rfl rfl) hdg kk
theorem gx_Cat_rolledOff (E : GE p s m args meth c D tys cc nL own Ts ret) {index : Nat} (hi : (y, 3, i) ∈ idsX) (hin : ∀ w ∈ u_ws RX0 TX0 3, w ∈ Ts) (hlink : Cond.fieldLink own index RX0 "rolledOff" "I" ∈ Ts) (hdg : decode cc pc = .ok (.getfield index, 3)) (kk : GW p l e R s m args below meth c Q D A nL (wX cA ad σ) cells slots (pc + 3) lv (.int (σ y 3 i 2) :: st)) : GW p l e R s m args below meth c Q D A nL (wX cA ad σ) cells slots pc lv (.ref (ad y 3 i) :: st) :=
  g_getf E hin (T := TX0) rfl (wX_at hi) 2 (by decide) hlink rfl rfl hdg kk
theorem px_Cat_rolledOff (E : GE p s m args meth c D tys cc nL own Ts ret) {index : Nat} {v : Int32} (hi : (y, 3, i) ∈ idsX) (hin : ∀ w ∈ u_ws RX0 TX0 3, w ∈ Ts) (hlink : Cond.fieldLink own index RX0 "rolledOff" "I" ∈ Ts) (hdg : decode cc pc = .ok (.putfield index, 3)) (kk : GW p l e R s m args below meth c Q D A nL (wX cA ad (upY σ y (up3 (σ y) 3 i 2 v))) cells slots (pc + 3) lv st) : GW p l e R s m args below meth c Q D A nL (wX cA ad σ) cells slots pc lv (.int v :: .ref (ad y 3 i) :: st) :=
  g_putf (ty := .int) (k := 2) E hin (T := TX0) tyX0_ok nmX0 rfl (by decide) hlink rfl rfl (by decide +kernel) rfl rfl (Nat.le_of_ble_eq_true rfl) (wX_set hi rfl rfl) hdg kk
theorem gx_Main_pyramids (E : GE p s m args meth c D tys cc nL own Ts ret) {index : Nat} (hi : (0, 8, 0) ∈ idsX) (hin : ∀ w ∈ u_ws RX4 TX4 6, w ∈ Ts) (hlink : Cond.fieldLink own index RX4 "pyramids" "[LCannonStacks$Pyramid;" ∈ Ts) (hdg : decode cc pc = .ok (.getfield index, 3)) (kk : GW p l e R s m args below meth c Q D A nL (wX cA ad σ) cells slots (pc + 3) lv (.ref (ad 2 12 0) :: st)) : GW p l e R s m args below meth c Q D A nL (wX cA ad σ) cells slots pc lv (.ref (ad 0 8 0) :: st) :=
  g_getf E hin (T := TX4) rfl (wX_at hi) 0 (by decide) hlink rfl rfl hdg kk
theorem gx_Main_store (E : GE p s m args meth c D tys cc nL own Ts ret) {index : Nat} (hi : (0, 8, 0) ∈ idsX) (hin : ∀ w ∈ u_ws RX4 TX4 6, w ∈ Ts) (hlink : Cond.fieldLink own index RX4 "store" "LCannonStacks$Tally;" ∈ Ts) (hdg : decode cc pc = .ok (.getfield index, 3)) (kk : GW p l e R s m args below meth c Q D A nL (wX cA ad σ) cells slots (pc + 3) lv (.ref (ad 0 16 0) :: st)) : GW p l e R s m args below meth c Q D A nL (wX cA ad σ) cells slots pc lv (.ref (ad 0 8 0) :: st) :=
  g_getf E hin (T := TX4) rfl (wX_at hi) 1 (by decide) hlink rfl rfl hdg kk
theorem gx_Main_fired (E : GE p s m args meth c D tys cc nL own Ts ret) {index : Nat} (hi : (0, 8, 0) ∈ idsX) (hin : ∀ w ∈ u_ws RX4 TX4 6, w ∈ Ts) (hlink : Cond.fieldLink own index RX4 "fired" "LCannonStacks$Tally;" ∈ Ts) (hdg : decode cc pc = .ok (.getfield index, 3)) (kk : GW p l e R s m args below meth c Q D A nL (wX cA ad σ) cells slots (pc + 3) lv (.ref (ad 0 17 0) :: st)) : GW p l e R s m args below meth c Q D A nL (wX cA ad σ) cells slots pc lv (.ref (ad 0 8 0) :: st) :=
  g_getf E hin (T := TX4) rfl (wX_at hi) 2 (by decide) hlink rfl rfl hdg kk
theorem gx_Main_thrownAway (E : GE p s m args meth c D tys cc nL own Ts ret) {index : Nat} (hi : (0, 8, 0) ∈ idsX) (hin : ∀ w ∈ u_ws RX4 TX4 6, w ∈ Ts) (hlink : Cond.fieldLink own index RX4 "thrownAway" "LCannonStacks$Tally;" ∈ Ts) (hdg : decode cc pc = .ok (.getfield index, 3)) (kk : GW p l e R s m args below meth c Q D A nL (wX cA ad σ) cells slots (pc + 3) lv (.ref (ad 0 18 0) :: st)) : GW p l e R s m args below meth c Q D A nL (wX cA ad σ) cells slots pc lv (.ref (ad 0 8 0) :: st) :=
  g_getf E hin (T := TX4) rfl (wX_at hi) 3 (by decide) hlink rfl rfl hdg kk
theorem gx_Main_yard (E : GE p s m args meth c D tys cc nL own Ts ret) {index : Nat} (hi : (0, 8, 0) ∈ idsX) (hin : ∀ w ∈ u_ws RX4 TX4 6, w ∈ Ts) (hlink : Cond.fieldLink own index RX4 "yard" "LCannonStacks$Yard;" ∈ Ts) (hdg : decode cc pc = .ok (.getfield index, 3)) (kk : GW p l e R s m args below meth c Q D A nL (wX cA ad σ) cells slots (pc + 3) lv (.ref (ad 0 0 0) :: st)) : GW p l e R s m args below meth c Q D A nL (wX cA ad σ) cells slots pc lv (.ref (ad 0 8 0) :: st) :=
  g_getf E hin (T := TX4) rfl (wX_at hi) 4 (by decide) hlink rfl rfl hdg kk
theorem gx_Main_trial (E : GE p s m args meth c D tys cc nL own Ts ret) {index : Nat} (hi : (0, 8, 0) ∈ idsX) (hin : ∀ w ∈ u_ws RX4 TX4 6, w ∈ Ts) (hlink : Cond.fieldLink own index RX4 "trial" "LCannonStacks$Yard;" ∈ Ts) (hdg : decode cc pc = .ok (.getfield index, 3)) (kk : GW p l e R s m args below meth c Q D A nL (wX cA ad σ) cells slots (pc + 3) lv (.ref (ad 1 0 0) :: st)) : GW p l e R s m args below meth c Q D A nL (wX cA ad σ) cells slots pc lv (.ref (ad 0 8 0) :: st) :=
  g_getf E hin (T := TX4) rfl (wX_at hi) 5 (by decide) hlink rfl rfl hdg kk
theorem gx_Pyr_edge (E : GE p s m args meth c D tys cc nL own Ts ret) {index : Nat} (hi : (2, 9, i) ∈ idsX) (hin : ∀ w ∈ u_ws RX2 TX2 4, w ∈ Ts) (hlink : Cond.fieldLink own index RX2 "edge" "I" ∈ Ts) (hdg : decode cc pc = .ok (.getfield index, 3)) (kk : GW p l e R s m args below meth c Q D A nL (wX cA ad σ) cells slots (pc + 3) lv (.int (zI i) :: st)) : GW p l e R s m args below meth c Q D A nL (wX cA ad σ) cells slots pc lv (.ref (ad 2 9 i) :: st) :=
  g_getf E hin (T := TX2) rfl (wX_at hi) 0 (by decide) hlink rfl rfl hdg kk
theorem gx_Pyr_capacity (E : GE p s m args meth c D tys cc nL own Ts ret) {index : Nat} (hi : (2, 9, i) ∈ idsX) (hin : ∀ w ∈ u_ws RX2 TX2 4, w ∈ Ts) (hlink : Cond.fieldLink own index RX2 "capacity" "I" ∈ Ts) (hdg : decode cc pc = .ok (.getfield index, 3)) (kk : GW p l e R s m args below meth c Q D A nL (wX cA ad σ) cells slots (pc + 3) lv (.int (zI (sq i)) :: st)) : GW p l e R s m args below meth c Q D A nL (wX cA ad σ) cells slots pc lv (.ref (ad 2 9 i) :: st) :=
  g_getf E hin (T := TX2) rfl (wX_at hi) 1 (by decide) hlink rfl rfl hdg kk
theorem gx_Pyr_starts (E : GE p s m args meth c D tys cc nL own Ts ret) {index : Nat} (hi : (2, 9, i) ∈ idsX) (hin : ∀ w ∈ u_ws RX2 TX2 4, w ∈ Ts) (hlink : Cond.fieldLink own index RX2 "starts" "[I" ∈ Ts) (hdg : decode cc pc = .ok (.getfield index, 3)) (kk : GW p l e R s m args below meth c Q D A nL (wX cA ad σ) cells slots (pc + 3) lv (.ref (ad 2 13 i) :: st)) : GW p l e R s m args below meth c Q D A nL (wX cA ad σ) cells slots pc lv (.ref (ad 2 9 i) :: st) :=
  g_getf E hin (T := TX2) rfl (wX_at hi) 2 (by decide) hlink rfl rfl hdg kk
theorem gx_Pyr_coverers (E : GE p s m args meth c D tys cc nL own Ts ret) {index : Nat} (hi : (2, 9, i) ∈ idsX) (hin : ∀ w ∈ u_ws RX2 TX2 4, w ∈ Ts) (hlink : Cond.fieldLink own index RX2 "coverers" "[I" ∈ Ts) (hdg : decode cc pc = .ok (.getfield index, 3)) (kk : GW p l e R s m args below meth c Q D A nL (wX cA ad σ) cells slots (pc + 3) lv (.ref (ad 2 14 i) :: st)) : GW p l e R s m args below meth c Q D A nL (wX cA ad σ) cells slots pc lv (.ref (ad 2 9 i) :: st) :=
  g_getf E hin (T := TX2) rfl (wX_at hi) 3 (by decide) hlink rfl rfl hdg kk
theorem px_Pile_pyramid (E : GE p s m args meth c D tys cc nL own Ts ret) {index e9 : Nat} (he : 1 ≤ e9 ∧ e9 < 7) (hi : (y, 1, i) ∈ idsX) (hin : ∀ w ∈ u_ws RX1 TX1 4, w ∈ Ts) (hlink : Cond.fieldLink own index RX1 "pyramid" "LCannonStacks$Pyramid;" ∈ Ts) (hdg : decode cc pc = .ok (.putfield index, 3)) (kk : GW p l e R s m args below meth c Q D A nL (wX cA ad (upY σ y (up3 (σ y) 1 i 1 (zI e9)))) cells slots (pc + 3) lv st) : GW p l e R s m args below meth c Q D A nL (wX cA ad σ) cells slots pc lv (.ref (ad 2 9 e9) :: .ref (ad y 1 i) :: st) := by
  have hz : pyN (upd (σ y 1 i) 1 (zI e9)) = e9 := by
    show (max 1 ((if 1 = 1 then zI e9 else σ y 1 i 1 : Int32)).toInt).toNat = e9
    rw [if_pos rfl, zI_toInt (by omega)]
    omega
  exact g_putf (ty := .object RX2) (k := 1) E hin (T := TX1) tyX1_ok nmX1 rfl (by decide) hlink rfl rfl (by decide +kernel) rfl rfl (Nat.le_of_ble_eq_true rfl) (wX_set hi rfl (by show (Sum.inr (1, [.int (σ y 1 i 0), .ref (ad 2 9 (pyN (upd (σ y 1 i) 1 (zI e9)))), .int (σ y 1 i 2), .ref (ad y 2 i)]) : va_E) = _; rw [hz]; rfl)) hdg kk
theorem lx_2 (E : GE p s m args meth c D (tysX cA) cc nL own Ts ret) {z : Int} (hi : (y, 2, i) ∈ idsX) (hz : 0 ≤ z ∧ z < 91) (hdg : decode cc pc = .ok (.iaload, 1)) (kk : GW p l e R s m args below meth c Q D A nL (wX cA ad σ) cells slots (pc + 1) lv (.int (σ y 2 i z.toNat) :: st)) : GW p l e R s m args below meth c Q D A nL (wX cA ad σ) cells slots pc lv (.int (zI z) :: .ref (ad y 2 i) :: st) :=
  g_iald E 0 rfl (wX_at hi) (n := 91) hz (by decide) rfl hdg kk
theorem sx_2 (E : GE p s m args meth c D (tysX cA) cc nL own Ts ret) {z : Int} {v : Int32} (hi : (y, 2, i) ∈ idsX) (hz : 0 ≤ z ∧ z < 91) (hdg : decode cc pc = .ok (.iastore, 1)) (kk : GW p l e R s m args below meth c Q D A nL (wX cA ad (upY σ y (up3 (σ y) 2 i z.toNat v))) cells slots (pc + 1) lv st) : GW p l e R s m args below meth c Q D A nL (wX cA ad σ) cells slots pc lv (.int v :: .int (zI z) :: .ref (ad y 2 i) :: st) :=
  g_iast E 0 rfl (n := 91) hz (by decide) (wX_set hi rfl rfl) hdg kk
theorem nx_2 (E : GE p s m args meth c D (tysX cA) cc nL own Ts ret) (hi : (y, 2, i) ∈ idsX) (hdg : decode cc pc = .ok (.arraylength, 1)) (kk : GW p l e R s m args below meth c Q D A nL (wX cA ad σ) cells slots (pc + 1) lv (.int (zI 91) :: st)) : GW p l e R s m args below meth c Q D A nL (wX cA ad σ) cells slots pc lv (.ref (ad y 2 i) :: st) :=
  g_alen E 0 rfl (wX_at hi) hdg kk
theorem lx_4 (E : GE p s m args meth c D (tysX cA) cc nL own Ts ret) {z : Int} (hi : (y, 4, 0) ∈ idsX) (hz : 0 ≤ z ∧ z < 5) (hdg : decode cc pc = .ok (.iaload, 1)) (kk : GW p l e R s m args below meth c Q D A nL (wX cA ad σ) cells slots (pc + 1) lv (.int (σ y 4 0 z.toNat) :: st)) : GW p l e R s m args below meth c Q D A nL (wX cA ad σ) cells slots pc lv (.int (zI z) :: .ref (ad y 4 0) :: st) :=
  g_iald E 0 rfl (wX_at hi) (n := 5) hz (by decide) rfl hdg kk
theorem sx_4 (E : GE p s m args meth c D (tysX cA) cc nL own Ts ret) {z : Int} {v : Int32} (hi : (y, 4, 0) ∈ idsX) (hz : 0 ≤ z ∧ z < 5) (hdg : decode cc pc = .ok (.iastore, 1)) (kk : GW p l e R s m args below meth c Q D A nL (wX cA ad (upY σ y (up3 (σ y) 4 0 z.toNat v))) cells slots (pc + 1) lv st) : GW p l e R s m args below meth c Q D A nL (wX cA ad σ) cells slots pc lv (.int v :: .int (zI z) :: .ref (ad y 4 0) :: st) :=
  g_iast E 0 rfl (n := 5) hz (by decide) (wX_set hi rfl rfl) hdg kk
theorem nx_4 (E : GE p s m args meth c D (tysX cA) cc nL own Ts ret) (hi : (y, 4, 0) ∈ idsX) (hdg : decode cc pc = .ok (.arraylength, 1)) (kk : GW p l e R s m args below meth c Q D A nL (wX cA ad σ) cells slots (pc + 1) lv (.int (zI 5) :: st)) : GW p l e R s m args below meth c Q D A nL (wX cA ad σ) cells slots pc lv (.ref (ad y 4 0) :: st) :=
  g_alen E 0 rfl (wX_at hi) hdg kk
theorem lx_5 (E : GE p s m args meth c D (tysX cA) cc nL own Ts ret) {z : Int} (hi : (0, 5, 0) ∈ idsX) (hz : 0 ≤ z ∧ z < 5) (hdg : decode cc pc = .ok (.iaload, 1)) (kk : GW p l e R s m args below meth c Q D A nL (wX cA ad σ) cells slots (pc + 1) lv (.int (σ 0 5 0 z.toNat) :: st)) : GW p l e R s m args below meth c Q D A nL (wX cA ad σ) cells slots pc lv (.int (zI z) :: .ref (ad 0 5 0) :: st) :=
  g_iald E 0 rfl (wX_at hi) (n := 5) hz (by decide) rfl hdg kk
theorem sx_5 (E : GE p s m args meth c D (tysX cA) cc nL own Ts ret) {z : Int} {v : Int32} (hi : (0, 5, 0) ∈ idsX) (hz : 0 ≤ z ∧ z < 5) (hdg : decode cc pc = .ok (.iastore, 1)) (kk : GW p l e R s m args below meth c Q D A nL (wX cA ad (upY σ 0 (up3 (σ 0) 5 0 z.toNat v))) cells slots (pc + 1) lv st) : GW p l e R s m args below meth c Q D A nL (wX cA ad σ) cells slots pc lv (.int v :: .int (zI z) :: .ref (ad 0 5 0) :: st) :=
  g_iast E 0 rfl (n := 5) hz (by decide) (wX_set hi rfl rfl) hdg kk
theorem nx_5 (E : GE p s m args meth c D (tysX cA) cc nL own Ts ret) (hi : (0, 5, 0) ∈ idsX) (hdg : decode cc pc = .ok (.arraylength, 1)) (kk : GW p l e R s m args below meth c Q D A nL (wX cA ad σ) cells slots (pc + 1) lv (.int (zI 5) :: st)) : GW p l e R s m args below meth c Q D A nL (wX cA ad σ) cells slots pc lv (.ref (ad 0 5 0) :: st) :=
  g_alen E 0 rfl (wX_at hi) hdg kk
theorem lx_6 (E : GE p s m args meth c D (tysX cA) cc nL own Ts ret) {z : Int} (hi : (0, 6, 0) ∈ idsX) (hz : 0 ≤ z ∧ z < 5) (hdg : decode cc pc = .ok (.iaload, 1)) (kk : GW p l e R s m args below meth c Q D A nL (wX cA ad σ) cells slots (pc + 1) lv (.int (σ 0 6 0 z.toNat) :: st)) : GW p l e R s m args below meth c Q D A nL (wX cA ad σ) cells slots pc lv (.int (zI z) :: .ref (ad 0 6 0) :: st) :=
  g_iald E 0 rfl (wX_at hi) (n := 5) hz (by decide) rfl hdg kk
theorem sx_6 (E : GE p s m args meth c D (tysX cA) cc nL own Ts ret) {z : Int} {v : Int32} (hi : (0, 6, 0) ∈ idsX) (hz : 0 ≤ z ∧ z < 5) (hdg : decode cc pc = .ok (.iastore, 1)) (kk : GW p l e R s m args below meth c Q D A nL (wX cA ad (upY σ 0 (up3 (σ 0) 6 0 z.toNat v))) cells slots (pc + 1) lv st) : GW p l e R s m args below meth c Q D A nL (wX cA ad σ) cells slots pc lv (.int v :: .int (zI z) :: .ref (ad 0 6 0) :: st) :=
  g_iast E 0 rfl (n := 5) hz (by decide) (wX_set hi rfl rfl) hdg kk
theorem nx_6 (E : GE p s m args meth c D (tysX cA) cc nL own Ts ret) (hi : (0, 6, 0) ∈ idsX) (hdg : decode cc pc = .ok (.arraylength, 1)) (kk : GW p l e R s m args below meth c Q D A nL (wX cA ad σ) cells slots (pc + 1) lv (.int (zI 5) :: st)) : GW p l e R s m args below meth c Q D A nL (wX cA ad σ) cells slots pc lv (.ref (ad 0 6 0) :: st) :=
  g_alen E 0 rfl (wX_at hi) hdg kk
theorem lx_7 (E : GE p s m args meth c D (tysX cA) cc nL own Ts ret) {z : Int} (hi : (0, 7, 0) ∈ idsX) (hz : 0 ≤ z ∧ z < 5) (hdg : decode cc pc = .ok (.iaload, 1)) (kk : GW p l e R s m args below meth c Q D A nL (wX cA ad σ) cells slots (pc + 1) lv (.int (σ 0 7 0 z.toNat) :: st)) : GW p l e R s m args below meth c Q D A nL (wX cA ad σ) cells slots pc lv (.int (zI z) :: .ref (ad 0 7 0) :: st) :=
  g_iald E 0 rfl (wX_at hi) (n := 5) hz (by decide) rfl hdg kk
theorem sx_7 (E : GE p s m args meth c D (tysX cA) cc nL own Ts ret) {z : Int} {v : Int32} (hi : (0, 7, 0) ∈ idsX) (hz : 0 ≤ z ∧ z < 5) (hdg : decode cc pc = .ok (.iastore, 1)) (kk : GW p l e R s m args below meth c Q D A nL (wX cA ad (upY σ 0 (up3 (σ 0) 7 0 z.toNat v))) cells slots (pc + 1) lv st) : GW p l e R s m args below meth c Q D A nL (wX cA ad σ) cells slots pc lv (.int v :: .int (zI z) :: .ref (ad 0 7 0) :: st) :=
  g_iast E 0 rfl (n := 5) hz (by decide) (wX_set hi rfl rfl) hdg kk
theorem nx_7 (E : GE p s m args meth c D (tysX cA) cc nL own Ts ret) (hi : (0, 7, 0) ∈ idsX) (hdg : decode cc pc = .ok (.arraylength, 1)) (kk : GW p l e R s m args below meth c Q D A nL (wX cA ad σ) cells slots (pc + 1) lv (.int (zI 5) :: st)) : GW p l e R s m args below meth c Q D A nL (wX cA ad σ) cells slots pc lv (.ref (ad 0 7 0) :: st) :=
  g_alen E 0 rfl (wX_at hi) hdg kk
theorem gx_Tal_balls (E : GE p s m args meth c D tys cc nL own Ts ret) {index : Nat} (hT : TY y t) (hin : ∀ w ∈ u_ws RX6 TX6 1, w ∈ Ts) (hlink : Cond.fieldLink own index RX6 "balls" "[I" ∈ Ts) (hdg : decode cc pc = .ok (.getfield index, 3)) (kk : GW p l e R s m args below meth c Q D A nL (wX cA ad σ) cells slots (pc + 3) lv (.ref (ad y t 0) :: st)) : GW p l e R s m args below meth c Q D A nL (wX cA ad σ) cells slots pc lv (.ref (ad y (t + 11) 0) :: st) :=
  g_getf E hin (T := TX6) rfl (at_T hT) 0 (by decide) hlink rfl rfl hdg kk
theorem lx_T (E : GE p s m args meth c D (tysX cA) cc nL own Ts ret) {z : Int} (hT : TY y t) (hz : 0 ≤ z ∧ z < 5) (hdg : decode cc pc = .ok (.iaload, 1)) (kk : GW p l e R s m args below meth c Q D A nL (wX cA ad σ) cells slots (pc + 1) lv (.int (σ y t 0 z.toNat) :: st)) : GW p l e R s m args below meth c Q D A nL (wX cA ad σ) cells slots pc lv (.int (zI z) :: .ref (ad y t 0) :: st) :=
  g_iald E 0 rfl (at_R hT) (n := 5) hz (by decide) rfl hdg kk
theorem sx_T (E : GE p s m args meth c D (tysX cA) cc nL own Ts ret) {z : Int} {v : Int32} (hT : TY y t) (hz : 0 ≤ z ∧ z < 5) (hdg : decode cc pc = .ok (.iastore, 1)) (kk : GW p l e R s m args below meth c Q D A nL (wX cA ad (upY σ y (up3 (σ y) t 0 z.toNat v))) cells slots (pc + 1) lv st) : GW p l e R s m args below meth c Q D A nL (wX cA ad σ) cells slots pc lv (.int v :: .int (zI z) :: .ref (ad y t 0) :: st) :=
  g_iast E 0 rfl (n := 5) hz (by decide) (wX_set hT.2.1 (mB_R hT.1) (mB_R hT.1)) hdg kk
theorem nx_T (E : GE p s m args meth c D (tysX cA) cc nL own Ts ret) (hT : TY y t) (hdg : decode cc pc = .ok (.arraylength, 1)) (kk : GW p l e R s m args below meth c Q D A nL (wX cA ad σ) cells slots (pc + 1) lv (.int (zI 5) :: st)) : GW p l e R s m args below meth c Q D A nL (wX cA ad σ) cells slots pc lv (.ref (ad y t 0) :: st) :=
  g_alen E 0 rfl (at_R hT) hdg kk
theorem lx_T' {a : St} (E : GE p s m args meth c D (tysX cA) cc nL own Ts ret) {z : Int} (hT : TY y t) (hz : 0 ≤ z ∧ z < 5) (hdg : decode cc pc = .ok (.iaload, 1)) (kk : GW p l e R s m args below meth c Q D A nL (wX cA ad (upY σ y a)) cells slots (pc + 1) lv (.int (a t 0 z.toNat) :: st)) : GW p l e R s m args below meth c Q D A nL (wX cA ad (upY σ y a)) cells slots pc lv (.int (zI z) :: .ref (ad y t 0) :: st) := by
  refine lx_T (σ := upY σ y a) E hT hz hdg ?_
  rw [upY_s]
  exact kk
theorem sx_T' {a : St} (E : GE p s m args meth c D (tysX cA) cc nL own Ts ret) {z : Int} {v : Int32} (hT : TY y t) (hz : 0 ≤ z ∧ z < 5) (hdg : decode cc pc = .ok (.iastore, 1)) (kk : GW p l e R s m args below meth c Q D A nL (wX cA ad (upY σ y (up3 a t 0 z.toNat v))) cells slots (pc + 1) lv st) : GW p l e R s m args below meth c Q D A nL (wX cA ad (upY σ y a)) cells slots pc lv (.int v :: .int (zI z) :: .ref (ad y t 0) :: st) := by
  refine sx_T (σ := upY σ y a) E hT hz hdg ?_
  rw [upY_s, upY_upY]
  exact kk
theorem nx_T' {a : St} (E : GE p s m args meth c D (tysX cA) cc nL own Ts ret) (hT : TY y t) (hdg : decode cc pc = .ok (.arraylength, 1)) (kk : GW p l e R s m args below meth c Q D A nL (wX cA ad (upY σ y a)) cells slots (pc + 1) lv (.int (zI 5) :: st)) : GW p l e R s m args below meth c Q D A nL (wX cA ad (upY σ y a)) cells slots pc lv (.ref (ad y t 0) :: st) :=
  nx_T (σ := upY σ y a) E hT hdg kk
theorem lx_13 (E : GE p s m args meth c D (tysX cA) cc nL own Ts ret) {z : Int} (hi : (2, 13, i) ∈ idsX) (hz : 0 ≤ z ∧ z < ((i + 1 : Nat) : Int)) (hn : i + 1 ≤ 2147483648) (hdg : decode cc pc = .ok (.iaload, 1)) (kk : GW p l e R s m args below meth c Q D A nL (wX cA ad σ) cells slots (pc + 1) lv (.int (zI (stz i z)) :: st)) : GW p l e R s m args below meth c Q D A nL (wX cA ad σ) cells slots pc lv (.int (zI z) :: .ref (ad 2 13 i) :: st) :=
  g_iald E 0 rfl (wX_at hi) (n := i + 1) hz hn (by show zI (stz i (z.toNat : Int)) = zI (stz i z); rw [Int.toNat_of_nonneg hz.1]) hdg kk
theorem nx_13 (E : GE p s m args meth c D (tysX cA) cc nL own Ts ret) (hi : (2, 13, i) ∈ idsX) (hdg : decode cc pc = .ok (.arraylength, 1)) (kk : GW p l e R s m args below meth c Q D A nL (wX cA ad σ) cells slots (pc + 1) lv (.int (zI ((i + 1 : Nat) : Int)) :: st)) : GW p l e R s m args below meth c Q D A nL (wX cA ad σ) cells slots pc lv (.ref (ad 2 13 i) :: st) :=
  g_alen E 0 rfl (wX_at hi) hdg kk
theorem lx_14 (E : GE p s m args meth c D (tysX cA) cc nL own Ts ret) {z : Int} (hi : (2, 14, i) ∈ idsX) (hz : 0 ≤ z ∧ z < (((sq i).toNat : Nat) : Int)) (hn : (sq i).toNat ≤ 2147483648) (hdg : decode cc pc = .ok (.iaload, 1)) (kk : GW p l e R s m args below meth c Q D A nL (wX cA ad σ) cells slots (pc + 1) lv (.int (zI (cov i z)) :: st)) : GW p l e R s m args below meth c Q D A nL (wX cA ad σ) cells slots pc lv (.int (zI z) :: .ref (ad 2 14 i) :: st) :=
  g_iald E 0 rfl (wX_at hi) (n := (sq i).toNat) hz hn (by show zI (cov i (z.toNat : Int)) = zI (cov i z); rw [Int.toNat_of_nonneg hz.1]) hdg kk
theorem nx_14 (E : GE p s m args meth c D (tysX cA) cc nL own Ts ret) (hi : (2, 14, i) ∈ idsX) (hdg : decode cc pc = .ok (.arraylength, 1)) (kk : GW p l e R s m args below meth c Q D A nL (wX cA ad σ) cells slots (pc + 1) lv (.int (zI (((sq i).toNat : Nat) : Int)) :: st)) : GW p l e R s m args below meth c Q D A nL (wX cA ad σ) cells slots pc lv (.ref (ad 2 14 i) :: st) :=
  g_alen E 0 rfl (wX_at hi) hdg kk
theorem lx_10 (E : GE p s m args meth c D (tysX cA) cc nL own Ts ret) {z : Int} (hi : (y, 10, 0) ∈ idsX) (hz : 0 ≤ z ∧ z < 6) (hdg : decode cc pc = .ok (.aaload, 1)) (kk : GW p l e R s m args below meth c Q D A nL (wX cA ad σ) cells slots (pc + 1) lv (.ref (ad y 1 z.toNat) :: st)) : GW p l e R s m args below meth c Q D A nL (wX cA ad σ) cells slots pc lv (.int (zI z) :: .ref (ad y 10 0) :: st) :=
  g_aald E 2 rfl (wX_at hi) (n := 6) hz (by decide) rfl hdg kk
theorem lx_11 (E : GE p s m args meth c D (tysX cA) cc nL own Ts ret) {z : Int} (hi : (y, 11, 0) ∈ idsX) (hz : 0 ≤ z ∧ z < 3) (hdg : decode cc pc = .ok (.aaload, 1)) (kk : GW p l e R s m args below meth c Q D A nL (wX cA ad σ) cells slots (pc + 1) lv (.ref (ad y 3 z.toNat) :: st)) : GW p l e R s m args below meth c Q D A nL (wX cA ad σ) cells slots pc lv (.int (zI z) :: .ref (ad y 11 0) :: st) :=
  g_aald E 3 rfl (wX_at hi) (n := 3) hz (by decide) rfl hdg kk
theorem lx_12 (E : GE p s m args meth c D (tysX cA) cc nL own Ts ret) {z : Int} (hi : (2, 12, 0) ∈ idsX) (hz : 0 ≤ z ∧ z < 6) (hdg : decode cc pc = .ok (.aaload, 1)) (kk : GW p l e R s m args below meth c Q D A nL (wX cA ad σ) cells slots (pc + 1) lv (.ref (ad 2 9 (z.toNat + 1)) :: st)) : GW p l e R s m args below meth c Q D A nL (wX cA ad σ) cells slots pc lv (.int (zI z) :: .ref (ad 2 12 0) :: st) :=
  g_aald E 1 rfl (wX_at hi) (n := 6) hz (by decide) rfl hdg kk
theorem gx_Yard_piles' {a : St} (E : GE p s m args meth c D tys cc nL own Ts ret) {index : Nat} (hi : (y, 0, 0) ∈ idsX) (hin : ∀ w ∈ u_ws RX3 TX3 8, w ∈ Ts) (hlink : Cond.fieldLink own index RX3 "piles" "[LCannonStacks$Pile;" ∈ Ts) (hdg : decode cc pc = .ok (.getfield index, 3)) (kk : GW p l e R s m args below meth c Q D A nL (wX cA ad (upY σ y a)) cells slots (pc + 3) lv (.ref (ad y 10 0) :: st)) : GW p l e R s m args below meth c Q D A nL (wX cA ad (upY σ y a)) cells slots pc lv (.ref (ad y 0 0) :: st) := by
  refine gx_Yard_piles (σ := upY σ y a) E hi hin hlink hdg ?_
  exact kk
theorem gx_Yard_cats' {a : St} (E : GE p s m args meth c D tys cc nL own Ts ret) {index : Nat} (hi : (y, 0, 0) ∈ idsX) (hin : ∀ w ∈ u_ws RX3 TX3 8, w ∈ Ts) (hlink : Cond.fieldLink own index RX3 "cats" "[LCannonStacks$Cat;" ∈ Ts) (hdg : decode cc pc = .ok (.getfield index, 3)) (kk : GW p l e R s m args below meth c Q D A nL (wX cA ad (upY σ y a)) cells slots (pc + 3) lv (.ref (ad y 11 0) :: st)) : GW p l e R s m args below meth c Q D A nL (wX cA ad (upY σ y a)) cells slots pc lv (.ref (ad y 0 0) :: st) := by
  refine gx_Yard_cats (σ := upY σ y a) E hi hin hlink hdg ?_
  exact kk
theorem gx_Yard_loose' {a : St} (E : GE p s m args meth c D tys cc nL own Ts ret) {index : Nat} (hi : (y, 0, 0) ∈ idsX) (hin : ∀ w ∈ u_ws RX3 TX3 8, w ∈ Ts) (hlink : Cond.fieldLink own index RX3 "loose" "LCannonStacks$Tally;" ∈ Ts) (hdg : decode cc pc = .ok (.getfield index, 3)) (kk : GW p l e R s m args below meth c Q D A nL (wX cA ad (upY σ y a)) cells slots (pc + 3) lv (.ref (ad y 15 0) :: st)) : GW p l e R s m args below meth c Q D A nL (wX cA ad (upY σ y a)) cells slots pc lv (.ref (ad y 0 0) :: st) := by
  refine gx_Yard_loose (σ := upY σ y a) E hi hin hlink hdg ?_
  exact kk
theorem gx_Yard_pileCount' {a : St} (E : GE p s m args meth c D tys cc nL own Ts ret) {index : Nat} (hi : (y, 0, 0) ∈ idsX) (hin : ∀ w ∈ u_ws RX3 TX3 8, w ∈ Ts) (hlink : Cond.fieldLink own index RX3 "pileCount" "I" ∈ Ts) (hdg : decode cc pc = .ok (.getfield index, 3)) (kk : GW p l e R s m args below meth c Q D A nL (wX cA ad (upY σ y a)) cells slots (pc + 3) lv (.int (zI (np a)) :: st)) : GW p l e R s m args below meth c Q D A nL (wX cA ad (upY σ y a)) cells slots pc lv (.ref (ad y 0 0) :: st) := by
  refine gx_Yard_pileCount (σ := upY σ y a) E hi hin hlink hdg ?_
  rw [upY_s]; exact kk
theorem px_Yard_pileCount' {a : St} (E : GE p s m args meth c D tys cc nL own Ts ret) {index : Nat} {v : Int32} (hi : (y, 0, 0) ∈ idsX) (hin : ∀ w ∈ u_ws RX3 TX3 8, w ∈ Ts) (hlink : Cond.fieldLink own index RX3 "pileCount" "I" ∈ Ts) (hdg : decode cc pc = .ok (.putfield index, 3)) (kk : GW p l e R s m args below meth c Q D A nL (wX cA ad (upY σ y (up3 a 0 0 0 v))) cells slots (pc + 3) lv st) : GW p l e R s m args below meth c Q D A nL (wX cA ad (upY σ y a)) cells slots pc lv (.int v :: .ref (ad y 0 0) :: st) := by
  refine px_Yard_pileCount (σ := upY σ y a) E hi hin hlink hdg ?_
  rw [upY_s, upY_upY]; exact kk
theorem gx_Yard_catCount' {a : St} (E : GE p s m args meth c D tys cc nL own Ts ret) {index : Nat} (hi : (y, 0, 0) ∈ idsX) (hin : ∀ w ∈ u_ws RX3 TX3 8, w ∈ Ts) (hlink : Cond.fieldLink own index RX3 "catCount" "I" ∈ Ts) (hdg : decode cc pc = .ok (.getfield index, 3)) (kk : GW p l e R s m args below meth c Q D A nL (wX cA ad (upY σ y a)) cells slots (pc + 3) lv (.int (zI (nc a)) :: st)) : GW p l e R s m args below meth c Q D A nL (wX cA ad (upY σ y a)) cells slots pc lv (.ref (ad y 0 0) :: st) := by
  refine gx_Yard_catCount (σ := upY σ y a) E hi hin hlink hdg ?_
  rw [upY_s]; exact kk
theorem px_Yard_catCount' {a : St} (E : GE p s m args meth c D tys cc nL own Ts ret) {index : Nat} {v : Int32} (hi : (y, 0, 0) ∈ idsX) (hin : ∀ w ∈ u_ws RX3 TX3 8, w ∈ Ts) (hlink : Cond.fieldLink own index RX3 "catCount" "I" ∈ Ts) (hdg : decode cc pc = .ok (.putfield index, 3)) (kk : GW p l e R s m args below meth c Q D A nL (wX cA ad (upY σ y (up3 a 0 0 1 v))) cells slots (pc + 3) lv st) : GW p l e R s m args below meth c Q D A nL (wX cA ad (upY σ y a)) cells slots pc lv (.int v :: .ref (ad y 0 0) :: st) := by
  refine px_Yard_catCount (σ := upY σ y a) E hi hin hlink hdg ?_
  rw [upY_s, upY_upY]; exact kk
theorem gx_Yard_day' {a : St} (E : GE p s m args meth c D tys cc nL own Ts ret) {index : Nat} (hi : (y, 0, 0) ∈ idsX) (hin : ∀ w ∈ u_ws RX3 TX3 8, w ∈ Ts) (hlink : Cond.fieldLink own index RX3 "day" "I" ∈ Ts) (hdg : decode cc pc = .ok (.getfield index, 3)) (kk : GW p l e R s m args below meth c Q D A nL (wX cA ad (upY σ y a)) cells slots (pc + 3) lv (.int (a 0 0 2) :: st)) : GW p l e R s m args below meth c Q D A nL (wX cA ad (upY σ y a)) cells slots pc lv (.ref (ad y 0 0) :: st) := by
  refine gx_Yard_day (σ := upY σ y a) E hi hin hlink hdg ?_
  rw [upY_s]; exact kk
theorem px_Yard_day' {a : St} (E : GE p s m args meth c D tys cc nL own Ts ret) {index : Nat} {v : Int32} (hi : (y, 0, 0) ∈ idsX) (hin : ∀ w ∈ u_ws RX3 TX3 8, w ∈ Ts) (hlink : Cond.fieldLink own index RX3 "day" "I" ∈ Ts) (hdg : decode cc pc = .ok (.putfield index, 3)) (kk : GW p l e R s m args below meth c Q D A nL (wX cA ad (upY σ y (up3 a 0 0 2 v))) cells slots (pc + 3) lv st) : GW p l e R s m args below meth c Q D A nL (wX cA ad (upY σ y a)) cells slots pc lv (.int v :: .ref (ad y 0 0) :: st) := by
  refine px_Yard_day (σ := upY σ y a) E hi hin hlink hdg ?_
  rw [upY_s, upY_upY]; exact kk
theorem gx_Yard_rain' {a : St} (E : GE p s m args meth c D tys cc nL own Ts ret) {index : Nat} (hi : (y, 0, 0) ∈ idsX) (hin : ∀ w ∈ u_ws RX3 TX3 8, w ∈ Ts) (hlink : Cond.fieldLink own index RX3 "rain" "I" ∈ Ts) (hdg : decode cc pc = .ok (.getfield index, 3)) (kk : GW p l e R s m args below meth c Q D A nL (wX cA ad (upY σ y a)) cells slots (pc + 3) lv (.int (a 0 0 3) :: st)) : GW p l e R s m args below meth c Q D A nL (wX cA ad (upY σ y a)) cells slots pc lv (.ref (ad y 0 0) :: st) := by
  refine gx_Yard_rain (σ := upY σ y a) E hi hin hlink hdg ?_
  rw [upY_s]; exact kk
theorem px_Yard_rain' {a : St} (E : GE p s m args meth c D tys cc nL own Ts ret) {index : Nat} {v : Int32} (hi : (y, 0, 0) ∈ idsX) (hin : ∀ w ∈ u_ws RX3 TX3 8, w ∈ Ts) (hlink : Cond.fieldLink own index RX3 "rain" "I" ∈ Ts) (hdg : decode cc pc = .ok (.putfield index, 3)) (kk : GW p l e R s m args below meth c Q D A nL (wX cA ad (upY σ y (up3 a 0 0 3 v))) cells slots (pc + 3) lv st) : GW p l e R s m args below meth c Q D A nL (wX cA ad (upY σ y a)) cells slots pc lv (.int v :: .ref (ad y 0 0) :: st) := by
  refine px_Yard_rain (σ := upY σ y a) E hi hin hlink hdg ?_
  rw [upY_s, upY_upY]; exact kk
theorem gx_Yard_limit' {a : St} (E : GE p s m args meth c D tys cc nL own Ts ret) {index : Nat} (hi : (y, 0, 0) ∈ idsX) (hin : ∀ w ∈ u_ws RX3 TX3 8, w ∈ Ts) (hlink : Cond.fieldLink own index RX3 "limit" "I" ∈ Ts) (hdg : decode cc pc = .ok (.getfield index, 3)) (kk : GW p l e R s m args below meth c Q D A nL (wX cA ad (upY σ y a)) cells slots (pc + 3) lv (.int (a 0 0 4) :: st)) : GW p l e R s m args below meth c Q D A nL (wX cA ad (upY σ y a)) cells slots pc lv (.ref (ad y 0 0) :: st) := by
  refine gx_Yard_limit (σ := upY σ y a) E hi hin hlink hdg ?_
  rw [upY_s]; exact kk
theorem px_Yard_limit' {a : St} (E : GE p s m args meth c D tys cc nL own Ts ret) {index : Nat} {v : Int32} (hi : (y, 0, 0) ∈ idsX) (hin : ∀ w ∈ u_ws RX3 TX3 8, w ∈ Ts) (hlink : Cond.fieldLink own index RX3 "limit" "I" ∈ Ts) (hdg : decode cc pc = .ok (.putfield index, 3)) (kk : GW p l e R s m args below meth c Q D A nL (wX cA ad (upY σ y (up3 a 0 0 4 v))) cells slots (pc + 3) lv st) : GW p l e R s m args below meth c Q D A nL (wX cA ad (upY σ y a)) cells slots pc lv (.int v :: .ref (ad y 0 0) :: st) := by
  refine px_Yard_limit (σ := upY σ y a) E hi hin hlink hdg ?_
  rw [upY_s, upY_upY]; exact kk
theorem gx_Pile_calibre' {a : St} (E : GE p s m args meth c D tys cc nL own Ts ret) {index : Nat} (hi : (y, 1, i) ∈ idsX) (hin : ∀ w ∈ u_ws RX1 TX1 4, w ∈ Ts) (hlink : Cond.fieldLink own index RX1 "calibre" "I" ∈ Ts) (hdg : decode cc pc = .ok (.getfield index, 3)) (kk : GW p l e R s m args below meth c Q D A nL (wX cA ad (upY σ y a)) cells slots (pc + 3) lv (.int (zI (cal a i)) :: st)) : GW p l e R s m args below meth c Q D A nL (wX cA ad (upY σ y a)) cells slots pc lv (.ref (ad y 1 i) :: st) := by
  refine gx_Pile_calibre (σ := upY σ y a) E hi hin hlink hdg ?_
  rw [upY_s]; exact kk
theorem px_Pile_calibre' {a : St} (E : GE p s m args meth c D tys cc nL own Ts ret) {index : Nat} {v : Int32} (hi : (y, 1, i) ∈ idsX) (hin : ∀ w ∈ u_ws RX1 TX1 4, w ∈ Ts) (hlink : Cond.fieldLink own index RX1 "calibre" "I" ∈ Ts) (hdg : decode cc pc = .ok (.putfield index, 3)) (kk : GW p l e R s m args below meth c Q D A nL (wX cA ad (upY σ y (up3 a 1 i 0 v))) cells slots (pc + 3) lv st) : GW p l e R s m args below meth c Q D A nL (wX cA ad (upY σ y a)) cells slots pc lv (.int v :: .ref (ad y 1 i) :: st) := by
  refine px_Pile_calibre (σ := upY σ y a) E hi hin hlink hdg ?_
  rw [upY_s, upY_upY]; exact kk
theorem gx_Pile_pyramid' {a : St} (E : GE p s m args meth c D tys cc nL own Ts ret) {index : Nat} (hi : (y, 1, i) ∈ idsX) (hin : ∀ w ∈ u_ws RX1 TX1 4, w ∈ Ts) (hlink : Cond.fieldLink own index RX1 "pyramid" "LCannonStacks$Pyramid;" ∈ Ts) (hdg : decode cc pc = .ok (.getfield index, 3)) (kk : GW p l e R s m args below meth c Q D A nL (wX cA ad (upY σ y a)) cells slots (pc + 3) lv (.ref (ad 2 9 (pyN (a 1 i))) :: st)) : GW p l e R s m args below meth c Q D A nL (wX cA ad (upY σ y a)) cells slots pc lv (.ref (ad y 1 i) :: st) := by
  refine gx_Pile_pyramid (σ := upY σ y a) E hi hin hlink hdg ?_
  rw [upY_s]; exact kk
theorem gx_Pile_balls' {a : St} (E : GE p s m args meth c D tys cc nL own Ts ret) {index : Nat} (hi : (y, 1, i) ∈ idsX) (hin : ∀ w ∈ u_ws RX1 TX1 4, w ∈ Ts) (hlink : Cond.fieldLink own index RX1 "balls" "I" ∈ Ts) (hdg : decode cc pc = .ok (.getfield index, 3)) (kk : GW p l e R s m args below meth c Q D A nL (wX cA ad (upY σ y a)) cells slots (pc + 3) lv (.int (zI (bl a i)) :: st)) : GW p l e R s m args below meth c Q D A nL (wX cA ad (upY σ y a)) cells slots pc lv (.ref (ad y 1 i) :: st) := by
  refine gx_Pile_balls (σ := upY σ y a) E hi hin hlink hdg ?_
  rw [upY_s]; exact kk
theorem px_Pile_balls' {a : St} (E : GE p s m args meth c D tys cc nL own Ts ret) {index : Nat} {v : Int32} (hi : (y, 1, i) ∈ idsX) (hin : ∀ w ∈ u_ws RX1 TX1 4, w ∈ Ts) (hlink : Cond.fieldLink own index RX1 "balls" "I" ∈ Ts) (hdg : decode cc pc = .ok (.putfield index, 3)) (kk : GW p l e R s m args below meth c Q D A nL (wX cA ad (upY σ y (up3 a 1 i 2 v))) cells slots (pc + 3) lv st) : GW p l e R s m args below meth c Q D A nL (wX cA ad (upY σ y a)) cells slots pc lv (.int v :: .ref (ad y 1 i) :: st) := by
  refine px_Pile_balls (σ := upY σ y a) E hi hin hlink hdg ?_
  rw [upY_s, upY_upY]; exact kk
theorem gx_Pile_rust' {a : St} (E : GE p s m args meth c D tys cc nL own Ts ret) {index : Nat} (hi : (y, 1, i) ∈ idsX) (hin : ∀ w ∈ u_ws RX1 TX1 4, w ∈ Ts) (hlink : Cond.fieldLink own index RX1 "rust" "[I" ∈ Ts) (hdg : decode cc pc = .ok (.getfield index, 3)) (kk : GW p l e R s m args below meth c Q D A nL (wX cA ad (upY σ y a)) cells slots (pc + 3) lv (.ref (ad y 2 i) :: st)) : GW p l e R s m args below meth c Q D A nL (wX cA ad (upY σ y a)) cells slots pc lv (.ref (ad y 1 i) :: st) := by
  refine gx_Pile_rust (σ := upY σ y a) E hi hin hlink hdg ?_
  exact kk
theorem gx_Cat_leap' {a : St} (E : GE p s m args meth c D tys cc nL own Ts ret) {index : Nat} (hi : (y, 3, i) ∈ idsX) (hin : ∀ w ∈ u_ws RX0 TX0 3, w ∈ Ts) (hlink : Cond.fieldLink own index RX0 "leap" "I" ∈ Ts) (hdg : decode cc pc = .ok (.getfield index, 3)) (kk : GW p l e R s m args below meth c Q D A nL (wX cA ad (upY σ y a)) cells slots (pc + 3) lv (.int (zI (lp a i)) :: st)) : GW p l e R s m args below meth c Q D A nL (wX cA ad (upY σ y a)) cells slots pc lv (.ref (ad y 3 i) :: st) := by
  refine gx_Cat_leap (σ := upY σ y a) E hi hin hlink hdg ?_
  rw [upY_s]; exact kk
theorem px_Cat_leap' {a : St} (E : GE p s m args meth c D tys cc nL own Ts ret) {index : Nat} {v : Int32} (hi : (y, 3, i) ∈ idsX) (hin : ∀ w ∈ u_ws RX0 TX0 3, w ∈ Ts) (hlink : Cond.fieldLink own index RX0 "leap" "I" ∈ Ts) (hdg : decode cc pc = .ok (.putfield index, 3)) (kk : GW p l e R s m args below meth c Q D A nL (wX cA ad (upY σ y (up3 a 3 i 0 v))) cells slots (pc + 3) lv st) : GW p l e R s m args below meth c Q D A nL (wX cA ad (upY σ y a)) cells slots pc lv (.int v :: .ref (ad y 3 i) :: st) := by
  refine px_Cat_leap (σ := upY σ y a) E hi hin hlink hdg ?_
  rw [upY_s, upY_upY]; exact kk
theorem gx_Cat_on' {a : St} (E : GE p s m args meth c D tys cc nL own Ts ret) {index : Nat} (hi : (y, 3, i) ∈ idsX) (hin : ∀ w ∈ u_ws RX0 TX0 3, w ∈ Ts) (hlink : Cond.fieldLink own index RX0 "on" "I" ∈ Ts) (hdg : decode cc pc = .ok (.getfield index, 3)) (kk : GW p l e R s m args below meth c Q D A nL (wX cA ad (upY σ y a)) cells slots (pc + 3) lv (.int (zI (on a i)) :: st)) : GW p l e R s m args below meth c Q D A nL (wX cA ad (upY σ y a)) cells slots pc lv (.ref (ad y 3 i) :: st) := by
  refine gx_Cat_on (σ := upY σ y a) E hi hin hlink hdg ?_
  rw [upY_s]; exact kk
theorem px_Cat_on' {a : St} (E : GE p s m args meth c D tys cc nL own Ts ret) {index : Nat} {v : Int32} (hi : (y, 3, i) ∈ idsX) (hin : ∀ w ∈ u_ws RX0 TX0 3, w ∈ Ts) (hlink : Cond.fieldLink own index RX0 "on" "I" ∈ Ts) (hdg : decode cc pc = .ok (.putfield index, 3)) (kk : GW p l e R s m args below meth c Q D A nL (wX cA ad (upY σ y (up3 a 3 i 1 v))) cells slots (pc + 3) lv st) : GW p l e R s m args below meth c Q D A nL (wX cA ad (upY σ y a)) cells slots pc lv (.int v :: .ref (ad y 3 i) :: st) := by
  refine px_Cat_on (σ := upY σ y a) E hi hin hlink hdg ?_
  rw [upY_s, upY_upY]; exact kk
theorem gx_Cat_rolledOff' {a : St} (E : GE p s m args meth c D tys cc nL own Ts ret) {index : Nat} (hi : (y, 3, i) ∈ idsX) (hin : ∀ w ∈ u_ws RX0 TX0 3, w ∈ Ts) (hlink : Cond.fieldLink own index RX0 "rolledOff" "I" ∈ Ts) (hdg : decode cc pc = .ok (.getfield index, 3)) (kk : GW p l e R s m args below meth c Q D A nL (wX cA ad (upY σ y a)) cells slots (pc + 3) lv (.int (a 3 i 2) :: st)) : GW p l e R s m args below meth c Q D A nL (wX cA ad (upY σ y a)) cells slots pc lv (.ref (ad y 3 i) :: st) := by
  refine gx_Cat_rolledOff (σ := upY σ y a) E hi hin hlink hdg ?_
  rw [upY_s]; exact kk
theorem px_Cat_rolledOff' {a : St} (E : GE p s m args meth c D tys cc nL own Ts ret) {index : Nat} {v : Int32} (hi : (y, 3, i) ∈ idsX) (hin : ∀ w ∈ u_ws RX0 TX0 3, w ∈ Ts) (hlink : Cond.fieldLink own index RX0 "rolledOff" "I" ∈ Ts) (hdg : decode cc pc = .ok (.putfield index, 3)) (kk : GW p l e R s m args below meth c Q D A nL (wX cA ad (upY σ y (up3 a 3 i 2 v))) cells slots (pc + 3) lv st) : GW p l e R s m args below meth c Q D A nL (wX cA ad (upY σ y a)) cells slots pc lv (.int v :: .ref (ad y 3 i) :: st) := by
  refine px_Cat_rolledOff (σ := upY σ y a) E hi hin hlink hdg ?_
  rw [upY_s, upY_upY]; exact kk
theorem px_Pile_pyramid' {a : St} (E : GE p s m args meth c D tys cc nL own Ts ret) {index e9 : Nat} (he : 1 ≤ e9 ∧ e9 < 7) (hi : (y, 1, i) ∈ idsX) (hin : ∀ w ∈ u_ws RX1 TX1 4, w ∈ Ts) (hlink : Cond.fieldLink own index RX1 "pyramid" "LCannonStacks$Pyramid;" ∈ Ts) (hdg : decode cc pc = .ok (.putfield index, 3)) (kk : GW p l e R s m args below meth c Q D A nL (wX cA ad (upY σ y (up3 a 1 i 1 (zI e9)))) cells slots (pc + 3) lv st) : GW p l e R s m args below meth c Q D A nL (wX cA ad (upY σ y a)) cells slots pc lv (.ref (ad 2 9 e9) :: .ref (ad y 1 i) :: st) := by
  refine px_Pile_pyramid (σ := upY σ y a) E he hi hin hlink hdg ?_
  rw [upY_s, upY_upY]; exact kk
theorem lx_2' {a : St} (E : GE p s m args meth c D (tysX cA) cc nL own Ts ret) {z : Int} (hi : (y, 2, i) ∈ idsX) (hz : 0 ≤ z ∧ z < 91) (hdg : decode cc pc = .ok (.iaload, 1)) (kk : GW p l e R s m args below meth c Q D A nL (wX cA ad (upY σ y a)) cells slots (pc + 1) lv (.int (a 2 i z.toNat) :: st)) : GW p l e R s m args below meth c Q D A nL (wX cA ad (upY σ y a)) cells slots pc lv (.int (zI z) :: .ref (ad y 2 i) :: st) := by
  refine lx_2 (σ := upY σ y a) E hi hz hdg ?_
  rw [upY_s]; exact kk
theorem sx_2' {a : St} (E : GE p s m args meth c D (tysX cA) cc nL own Ts ret) {z : Int} {v : Int32} (hi : (y, 2, i) ∈ idsX) (hz : 0 ≤ z ∧ z < 91) (hdg : decode cc pc = .ok (.iastore, 1)) (kk : GW p l e R s m args below meth c Q D A nL (wX cA ad (upY σ y (up3 a 2 i z.toNat v))) cells slots (pc + 1) lv st) : GW p l e R s m args below meth c Q D A nL (wX cA ad (upY σ y a)) cells slots pc lv (.int v :: .int (zI z) :: .ref (ad y 2 i) :: st) := by
  refine sx_2 (σ := upY σ y a) E hi hz hdg ?_
  rw [upY_s, upY_upY]; exact kk
theorem nx_2' {a : St} (E : GE p s m args meth c D (tysX cA) cc nL own Ts ret) (hi : (y, 2, i) ∈ idsX) (hdg : decode cc pc = .ok (.arraylength, 1)) (kk : GW p l e R s m args below meth c Q D A nL (wX cA ad (upY σ y a)) cells slots (pc + 1) lv (.int (zI 91) :: st)) : GW p l e R s m args below meth c Q D A nL (wX cA ad (upY σ y a)) cells slots pc lv (.ref (ad y 2 i) :: st) := by
  refine nx_2 (σ := upY σ y a) E hi hdg ?_
  exact kk
theorem lx_4' {a : St} (E : GE p s m args meth c D (tysX cA) cc nL own Ts ret) {z : Int} (hi : (y, 4, 0) ∈ idsX) (hz : 0 ≤ z ∧ z < 5) (hdg : decode cc pc = .ok (.iaload, 1)) (kk : GW p l e R s m args below meth c Q D A nL (wX cA ad (upY σ y a)) cells slots (pc + 1) lv (.int (a 4 0 z.toNat) :: st)) : GW p l e R s m args below meth c Q D A nL (wX cA ad (upY σ y a)) cells slots pc lv (.int (zI z) :: .ref (ad y 4 0) :: st) := by
  refine lx_4 (σ := upY σ y a) E hi hz hdg ?_
  rw [upY_s]; exact kk
theorem sx_4' {a : St} (E : GE p s m args meth c D (tysX cA) cc nL own Ts ret) {z : Int} {v : Int32} (hi : (y, 4, 0) ∈ idsX) (hz : 0 ≤ z ∧ z < 5) (hdg : decode cc pc = .ok (.iastore, 1)) (kk : GW p l e R s m args below meth c Q D A nL (wX cA ad (upY σ y (up3 a 4 0 z.toNat v))) cells slots (pc + 1) lv st) : GW p l e R s m args below meth c Q D A nL (wX cA ad (upY σ y a)) cells slots pc lv (.int v :: .int (zI z) :: .ref (ad y 4 0) :: st) := by
  refine sx_4 (σ := upY σ y a) E hi hz hdg ?_
  rw [upY_s, upY_upY]; exact kk
theorem nx_4' {a : St} (E : GE p s m args meth c D (tysX cA) cc nL own Ts ret) (hi : (y, 4, 0) ∈ idsX) (hdg : decode cc pc = .ok (.arraylength, 1)) (kk : GW p l e R s m args below meth c Q D A nL (wX cA ad (upY σ y a)) cells slots (pc + 1) lv (.int (zI 5) :: st)) : GW p l e R s m args below meth c Q D A nL (wX cA ad (upY σ y a)) cells slots pc lv (.ref (ad y 4 0) :: st) := by
  refine nx_4 (σ := upY σ y a) E hi hdg ?_
  exact kk
theorem lx_5' {a : St} (E : GE p s m args meth c D (tysX cA) cc nL own Ts ret) {z : Int} (hi : (0, 5, 0) ∈ idsX) (hz : 0 ≤ z ∧ z < 5) (hdg : decode cc pc = .ok (.iaload, 1)) (kk : GW p l e R s m args below meth c Q D A nL (wX cA ad (upY σ 0 a)) cells slots (pc + 1) lv (.int (a 5 0 z.toNat) :: st)) : GW p l e R s m args below meth c Q D A nL (wX cA ad (upY σ 0 a)) cells slots pc lv (.int (zI z) :: .ref (ad 0 5 0) :: st) := by
  refine lx_5 (σ := upY σ 0 a) E hi hz hdg ?_
  rw [upY_s]; exact kk
theorem sx_5' {a : St} (E : GE p s m args meth c D (tysX cA) cc nL own Ts ret) {z : Int} {v : Int32} (hi : (0, 5, 0) ∈ idsX) (hz : 0 ≤ z ∧ z < 5) (hdg : decode cc pc = .ok (.iastore, 1)) (kk : GW p l e R s m args below meth c Q D A nL (wX cA ad (upY σ 0 (up3 a 5 0 z.toNat v))) cells slots (pc + 1) lv st) : GW p l e R s m args below meth c Q D A nL (wX cA ad (upY σ 0 a)) cells slots pc lv (.int v :: .int (zI z) :: .ref (ad 0 5 0) :: st) := by
  refine sx_5 (σ := upY σ 0 a) E hi hz hdg ?_
  rw [upY_s, upY_upY]; exact kk
theorem lx_6' {a : St} (E : GE p s m args meth c D (tysX cA) cc nL own Ts ret) {z : Int} (hi : (0, 6, 0) ∈ idsX) (hz : 0 ≤ z ∧ z < 5) (hdg : decode cc pc = .ok (.iaload, 1)) (kk : GW p l e R s m args below meth c Q D A nL (wX cA ad (upY σ 0 a)) cells slots (pc + 1) lv (.int (a 6 0 z.toNat) :: st)) : GW p l e R s m args below meth c Q D A nL (wX cA ad (upY σ 0 a)) cells slots pc lv (.int (zI z) :: .ref (ad 0 6 0) :: st) := by
  refine lx_6 (σ := upY σ 0 a) E hi hz hdg ?_
  rw [upY_s]; exact kk
theorem sx_6' {a : St} (E : GE p s m args meth c D (tysX cA) cc nL own Ts ret) {z : Int} {v : Int32} (hi : (0, 6, 0) ∈ idsX) (hz : 0 ≤ z ∧ z < 5) (hdg : decode cc pc = .ok (.iastore, 1)) (kk : GW p l e R s m args below meth c Q D A nL (wX cA ad (upY σ 0 (up3 a 6 0 z.toNat v))) cells slots (pc + 1) lv st) : GW p l e R s m args below meth c Q D A nL (wX cA ad (upY σ 0 a)) cells slots pc lv (.int v :: .int (zI z) :: .ref (ad 0 6 0) :: st) := by
  refine sx_6 (σ := upY σ 0 a) E hi hz hdg ?_
  rw [upY_s, upY_upY]; exact kk
theorem lx_7' {a : St} (E : GE p s m args meth c D (tysX cA) cc nL own Ts ret) {z : Int} (hi : (0, 7, 0) ∈ idsX) (hz : 0 ≤ z ∧ z < 5) (hdg : decode cc pc = .ok (.iaload, 1)) (kk : GW p l e R s m args below meth c Q D A nL (wX cA ad (upY σ 0 a)) cells slots (pc + 1) lv (.int (a 7 0 z.toNat) :: st)) : GW p l e R s m args below meth c Q D A nL (wX cA ad (upY σ 0 a)) cells slots pc lv (.int (zI z) :: .ref (ad 0 7 0) :: st) := by
  refine lx_7 (σ := upY σ 0 a) E hi hz hdg ?_
  rw [upY_s]; exact kk
theorem sx_7' {a : St} (E : GE p s m args meth c D (tysX cA) cc nL own Ts ret) {z : Int} {v : Int32} (hi : (0, 7, 0) ∈ idsX) (hz : 0 ≤ z ∧ z < 5) (hdg : decode cc pc = .ok (.iastore, 1)) (kk : GW p l e R s m args below meth c Q D A nL (wX cA ad (upY σ 0 (up3 a 7 0 z.toNat v))) cells slots (pc + 1) lv st) : GW p l e R s m args below meth c Q D A nL (wX cA ad (upY σ 0 a)) cells slots pc lv (.int v :: .int (zI z) :: .ref (ad 0 7 0) :: st) := by
  refine sx_7 (σ := upY σ 0 a) E hi hz hdg ?_
  rw [upY_s, upY_upY]; exact kk
theorem lx_10' {a : St} (E : GE p s m args meth c D (tysX cA) cc nL own Ts ret) {z : Int} (hi : (y, 10, 0) ∈ idsX) (hz : 0 ≤ z ∧ z < 6) (hdg : decode cc pc = .ok (.aaload, 1)) (kk : GW p l e R s m args below meth c Q D A nL (wX cA ad (upY σ y a)) cells slots (pc + 1) lv (.ref (ad y 1 z.toNat) :: st)) : GW p l e R s m args below meth c Q D A nL (wX cA ad (upY σ y a)) cells slots pc lv (.int (zI z) :: .ref (ad y 10 0) :: st) := by
  refine lx_10 (σ := upY σ y a) E hi hz hdg ?_
  exact kk
theorem lx_11' {a : St} (E : GE p s m args meth c D (tysX cA) cc nL own Ts ret) {z : Int} (hi : (y, 11, 0) ∈ idsX) (hz : 0 ≤ z ∧ z < 3) (hdg : decode cc pc = .ok (.aaload, 1)) (kk : GW p l e R s m args below meth c Q D A nL (wX cA ad (upY σ y a)) cells slots (pc + 1) lv (.ref (ad y 3 z.toNat) :: st)) : GW p l e R s m args below meth c Q D A nL (wX cA ad (upY σ y a)) cells slots pc lv (.int (zI z) :: .ref (ad y 11 0) :: st) := by
  refine lx_11 (σ := upY σ y a) E hi hz hdg ?_
  exact kk
end WX
