/-! ===== NEW: the bastion ===== -/
theorem g_wsv {p : Program} {l : Launch} {e : Env} {R : Room} {s : State} {m : MethodId} {args : Array Value} {below : List Frame} {meth : Method} {c : Code} {Q : State → Prop} {D : va_G} {A : Nat → Prop} {nL : Nat} {ws ws' : va_W} {cells slots pc : Nat} {lv : List (Nat × Value)} {st : List Value} (h1 : ∀ H : Heap, va_P D vwCl ws H → va_P D vwCl ws' H) (h2 : va_D A ws → va_D A ws') (kk : GW p l e R s m args below meth c Q D A nL ws' cells slots pc lv st) : GW p l e R s m args below meth c Q D A nL ws cells slots pc lv st :=
  fun H locs ls hP hD hS hl => kk H locs ls (h1 H hP) (h2 hD) hS hl
theorem vp_extQ {cB : ClassId} {n : Nat} {r r' : Nat → Option Nat} (h : ∀ j : Nat, j < n → r j = r' j) : vp_cell cB (n, .inr (.inr (.inr (.inr r)))) = vp_cell cB (n, .inr (.inr (.inr (.inr r')))) := by
  rw [vp_cell_q, vp_cell_q]
  unfold arrV
  congr 2
  funext j
  exact congrArg va_rf (h j.val j.isLt)
theorem at_ext {D : va_G} {q : Nat} {cB : ClassId} {n : Nat} {r r' : Nat → Int32} {H : Heap} (h : ∀ j : Nat, j < n → r j = r' j) (hA : va_at D vwCl (q, .inl (cB, n, .inl r)) H) : va_at D vwCl (q, .inl (cB, n, .inl r')) H := by
  have hB : H[q]? = some (vp_cell cB (n, .inl r)) := hA
  show H[q]? = some (vp_cell cB (n, .inl r'))
  rw [hB, vp_ext h]
theorem at_extQ {D : va_G} {q : Nat} {cB : ClassId} {n : Nat} {r r' : Nat → Option Nat} {H : Heap} (h : ∀ j : Nat, j < n → r j = r' j) (hA : va_at D vwCl (q, .inl (cB, n, .inr (.inr (.inr (.inr r))))) H) : va_at D vwCl (q, .inl (cB, n, .inr (.inr (.inr (.inr r'))))) H := by
  have hB : H[q]? = some (vp_cell cB (n, .inr (.inr (.inr (.inr r))))) := hA
  show H[q]? = some (vp_cell cB (n, .inr (.inr (.inr (.inr r')))))
  rw [hB, vp_extQ h]
/-- the cells as they are made -/
def rawW (cA : Nat → ClassId) (F : Nat → Nat) : va_W := [((F 0), .inr (4, [.ref (F 1), .ref (F 20), .ref (F 22), .ref (F 24), .ref (F 26), .ref (F 46)])), ((F 1), .inl (cA 1, 6, .inr (.inr (.inr (.inr (va_up (va_up (va_up (va_up (va_up (va_up (fun _ => none) 0 (some (F 2))) 1 (some (F 5))) 2 (some (F 8))) 3 (some (F 11))) 4 (some (F 14))) 5 (some (F 17)))))))), ((F 2), .inr (2, [.int (zI ((1 : Nat) : Int)), .int (zI (sq ((1 : Nat) : Int))), .ref (F 3), .ref (F 4)])), ((F 3), .inl (cA 0, 1 + 1, .inl (stF ((1 : Nat) : Int) (1 + 1)))), ((F 4), .inl (cA 0, (sq ((1 : Nat) : Int)).toNat, .inl (cvF ((1 : Nat) : Int) (sq ((1 : Nat) : Int))))), ((F 5), .inr (2, [.int (zI ((2 : Nat) : Int)), .int (zI (sq ((2 : Nat) : Int))), .ref (F 6), .ref (F 7)])), ((F 6), .inl (cA 0, 2 + 1, .inl (stF ((2 : Nat) : Int) (2 + 1)))), ((F 7), .inl (cA 0, (sq ((2 : Nat) : Int)).toNat, .inl (cvF ((2 : Nat) : Int) (sq ((2 : Nat) : Int))))), ((F 8), .inr (2, [.int (zI ((3 : Nat) : Int)), .int (zI (sq ((3 : Nat) : Int))), .ref (F 9), .ref (F 10)])), ((F 9), .inl (cA 0, 3 + 1, .inl (stF ((3 : Nat) : Int) (3 + 1)))), ((F 10), .inl (cA 0, (sq ((3 : Nat) : Int)).toNat, .inl (cvF ((3 : Nat) : Int) (sq ((3 : Nat) : Int))))), ((F 11), .inr (2, [.int (zI ((4 : Nat) : Int)), .int (zI (sq ((4 : Nat) : Int))), .ref (F 12), .ref (F 13)])), ((F 12), .inl (cA 0, 4 + 1, .inl (stF ((4 : Nat) : Int) (4 + 1)))), ((F 13), .inl (cA 0, (sq ((4 : Nat) : Int)).toNat, .inl (cvF ((4 : Nat) : Int) (sq ((4 : Nat) : Int))))), ((F 14), .inr (2, [.int (zI ((5 : Nat) : Int)), .int (zI (sq ((5 : Nat) : Int))), .ref (F 15), .ref (F 16)])), ((F 15), .inl (cA 0, 5 + 1, .inl (stF ((5 : Nat) : Int) (5 + 1)))), ((F 16), .inl (cA 0, (sq ((5 : Nat) : Int)).toNat, .inl (cvF ((5 : Nat) : Int) (sq ((5 : Nat) : Int))))), ((F 17), .inr (2, [.int (zI ((6 : Nat) : Int)), .int (zI (sq ((6 : Nat) : Int))), .ref (F 18), .ref (F 19)])), ((F 18), .inl (cA 0, 6 + 1, .inl (stF ((6 : Nat) : Int) (6 + 1)))), ((F 19), .inl (cA 0, (sq ((6 : Nat) : Int)).toNat, .inl (cvF ((6 : Nat) : Int) (sq ((6 : Nat) : Int))))), ((F 20), .inr (6, [.ref (F 21)])), ((F 21), .inl (cA 0, 5, .inl (fun _ => 0))), ((F 22), .inr (6, [.ref (F 23)])), ((F 23), .inl (cA 0, 5, .inl (fun _ => 0))), ((F 24), .inr (6, [.ref (F 25)])), ((F 25), .inl (cA 0, 5, .inl (fun _ => 0)))] ++ yardW cA (F 26) (F 2) (fun k => F (27 + k)) ++ yardW cA (F 46) (F 2) (fun k => F (47 + k))
/-- at which place each stands -/
def ixF (y t i : Nat) : Nat := match t with
  | 0 => 26 + 20 * y
  | 1 => 28 + 20 * y + 2 * i
  | 2 => 29 + 20 * y + 2 * i
  | 3 => 41 + 20 * y + i
  | 4 => 45 + 20 * y
  | 5 => 21
  | 6 => 23
  | 7 => 25
  | 8 => 0
  | 9 => 3 * i - 1
  | 10 => 27 + 20 * y
  | 11 => 40 + 20 * y
  | 12 => 1
  | 13 => 3 * i
  | 15 => 44 + 20 * y
  | 16 => 20
  | 17 => 22
  | 18 => 24
  | _ => 3 * i + 1
def adF (F : Nat → Nat) : Ad := fun y t i => F (ixF y t i)
theorem ixF_inj : ∀ z ∈ idsX, ∀ z' ∈ idsX, ixF z.1 z.2.1 z.2.2 = ixF z'.1 z'.2.1 z'.2.2 → z = z' := by decide +kernel
theorem ixF_lt : ∀ z ∈ idsX, ixF z.1 z.2.1 z.2.2 < 66 := by decide +kernel
theorem raw_ad {cA : Nat → ClassId} {F : Nat → Nat} : (rawW cA F).map (fun q => q.1) = (List.range 66).map F := rfl
theorem raw_k {cA : Nat → ClassId} {F : Nat → Nat} {k : Nat} (h : k < 66) : ∃ e : va_E, (rawW cA F)[k]? = some (F k, e) := by
  have h1 : ((rawW cA F).map (fun q => q.1))[k]? = some (F k) := by
    rw [raw_ad, List.getElem?_map, List.getElem?_range h]
    rfl
  rw [List.getElem?_map] at h1
  cases hz : (rawW cA F)[k]? with
  | none => rw [hz] at h1; cases h1
  | some q =>
    rw [hz] at h1
    have h2 : q.1 = F k := Option.some.inj h1
    exact ⟨q.2, by rw [← h2]⟩
theorem raw_D {cA : Nat → ClassId} {F : Nat → Nat} {A : Nat → Prop} {σ : Nat → St} (h : va_D A (rawW cA F)) : va_D A (wX cA (adF F) σ) := by
  have key : ∀ (k : Nat) (q : Nat × va_E), (wX cA (adF F) σ)[k]? = some q → ∃ z : Id3, idsX[k]? = some z ∧ z ∈ idsX ∧ q.1 = F (ixF z.1 z.2.1 z.2.2) := by
    intro k q hk
    rw [wX, List.getElem?_map] at hk
    cases hz : idsX[k]? with
    | none => rw [hz] at hk; cases hk
    | some z =>
      rw [hz] at hk
      cases hk
      exact ⟨z, rfl, List.mem_of_getElem? hz, rfl⟩
  refine ⟨fun i j p q hi hj hpq => ?_, fun k q hk => ?_⟩
  · obtain ⟨z, z1, z2, z3⟩ := key i p hi
    obtain ⟨v, v1, v2, v3⟩ := key j q hj
    obtain ⟨e1, r1⟩ := raw_k (cA := cA) (F := F) (ixF_lt z z2)
    obtain ⟨e2, r2⟩ := raw_k (cA := cA) (F := F) (ixF_lt v v2)
    have h1 := h.1 _ _ _ _ r1 r2 (by show F _ = F _; rw [← z3, ← v3, hpq])
    have h2 := ixF_inj z z2 v v2 h1
    subst h2
    exact nd_inj idsX_nd z1 v1
  · obtain ⟨z, z1, z2, z3⟩ := key k q hk
    obtain ⟨e1, r1⟩ := raw_k (cA := cA) (F := F) (ixF_lt z z2)
    rw [z3]
    exact h.2 _ _ r1
theorem pyN_al0 (i : Nat) : pyN (al0 1 i) = 1 := by
  rw [pyN, al0_0 (by omega) (by omega)]
  decide
def atX (D : va_G) (cA : Nat → ClassId) (F : Nat → Nat) (H : Heap) (z : Id3) : Prop := va_at D vwCl (F (ixF z.1 z.2.1 z.2.2), mB cA (adF F) z.1 z.2.1 z.2.2 (al0 z.2.1 z.2.2)) H
theorem rx_0 {D : va_G} {cA : Nat → ClassId} {F : Nat → Nat} {H : Heap} (h : va_P D vwCl (rawW cA F) H) : atX D cA F H (0, 8, 0) := h 0 _ rfl
theorem rx_1 {D : va_G} {cA : Nat → ClassId} {F : Nat → Nat} {H : Heap} (h : va_P D vwCl (rawW cA F) H) : atX D cA F H (2, 12, 0) := at_extQ (fun j hj => by rcases (show j = 0 ∨ j = 1 ∨ j = 2 ∨ j = 3 ∨ j = 4 ∨ j = 5 by omega) with rfl | rfl | rfl | rfl | rfl | rfl <;> rfl) (h 1 _ rfl)
theorem rx_2 {D : va_G} {cA : Nat → ClassId} {F : Nat → Nat} {H : Heap} (h : va_P D vwCl (rawW cA F) H) : atX D cA F H (0, 16, 0) := h 20 _ rfl
theorem rx_3 {D : va_G} {cA : Nat → ClassId} {F : Nat → Nat} {H : Heap} (h : va_P D vwCl (rawW cA F) H) : atX D cA F H (0, 5, 0) := at_ext (r := fun _ => 0) (fun j _ => (al0_0 (t := 5) (i := 0) (j := j) (by omega) (by omega)).symm) (h 21 _ rfl)
theorem rx_4 {D : va_G} {cA : Nat → ClassId} {F : Nat → Nat} {H : Heap} (h : va_P D vwCl (rawW cA F) H) : atX D cA F H (0, 17, 0) := h 22 _ rfl
theorem rx_5 {D : va_G} {cA : Nat → ClassId} {F : Nat → Nat} {H : Heap} (h : va_P D vwCl (rawW cA F) H) : atX D cA F H (0, 6, 0) := at_ext (r := fun _ => 0) (fun j _ => (al0_0 (t := 6) (i := 0) (j := j) (by omega) (by omega)).symm) (h 23 _ rfl)
theorem rx_6 {D : va_G} {cA : Nat → ClassId} {F : Nat → Nat} {H : Heap} (h : va_P D vwCl (rawW cA F) H) : atX D cA F H (0, 18, 0) := h 24 _ rfl
theorem rx_7 {D : va_G} {cA : Nat → ClassId} {F : Nat → Nat} {H : Heap} (h : va_P D vwCl (rawW cA F) H) : atX D cA F H (0, 7, 0) := at_ext (r := fun _ => 0) (fun j _ => (al0_0 (t := 7) (i := 0) (j := j) (by omega) (by omega)).symm) (h 25 _ rfl)
theorem rx_8 {D : va_G} {cA : Nat → ClassId} {F : Nat → Nat} {H : Heap} (h : va_P D vwCl (rawW cA F) H) : atX D cA F H (0, 0, 0) := h 26 (F 26, .inr (3, [.ref (F 27), .ref (F 40), .ref (F 44), .int 0, .int 0, .int 0, .int 0, .int (zI 6)])) rfl
theorem rx_9 {D : va_G} {cA : Nat → ClassId} {F : Nat → Nat} {H : Heap} (h : va_P D vwCl (rawW cA F) H) : atX D cA F H (0, 10, 0) := at_extQ (fun j hj => by rcases (show j = 0 ∨ j = 1 ∨ j = 2 ∨ j = 3 ∨ j = 4 ∨ j = 5 by omega) with rfl | rfl | rfl | rfl | rfl | rfl <;> rfl) (h 27 _ rfl)
theorem rx_10 {D : va_G} {cA : Nat → ClassId} {F : Nat → Nat} {H : Heap} (h : va_P D vwCl (rawW cA F) H) : atX D cA F H (0, 11, 0) := at_extQ (fun j hj => by rcases (show j = 0 ∨ j = 1 ∨ j = 2 by omega) with rfl | rfl | rfl <;> rfl) (h 40 _ rfl)
theorem rx_11 {D : va_G} {cA : Nat → ClassId} {F : Nat → Nat} {H : Heap} (h : va_P D vwCl (rawW cA F) H) : atX D cA F H (0, 15, 0) := h 44 _ rfl
theorem rx_12 {D : va_G} {cA : Nat → ClassId} {F : Nat → Nat} {H : Heap} (h : va_P D vwCl (rawW cA F) H) : atX D cA F H (0, 4, 0) := at_ext (r := fun _ => 0) (fun j _ => (al0_0 (t := 4) (i := 0) (j := j) (by omega) (by omega)).symm) (h 45 _ rfl)
theorem rx_13 {D : va_G} {cA : Nat → ClassId} {F : Nat → Nat} {H : Heap} (h : va_P D vwCl (rawW cA F) H) : atX D cA F H (0, 1, 0) := h 28 (F 28, .inr (1, [.int 0, .ref (F 2), .int 0, .ref (F 29)])) rfl
theorem rx_14 {D : va_G} {cA : Nat → ClassId} {F : Nat → Nat} {H : Heap} (h : va_P D vwCl (rawW cA F) H) : atX D cA F H (0, 1, 1) := h 30 (F 30, .inr (1, [.int 0, .ref (F 2), .int 0, .ref (F 31)])) rfl
theorem rx_15 {D : va_G} {cA : Nat → ClassId} {F : Nat → Nat} {H : Heap} (h : va_P D vwCl (rawW cA F) H) : atX D cA F H (0, 1, 2) := h 32 (F 32, .inr (1, [.int 0, .ref (F 2), .int 0, .ref (F 33)])) rfl
theorem rx_16 {D : va_G} {cA : Nat → ClassId} {F : Nat → Nat} {H : Heap} (h : va_P D vwCl (rawW cA F) H) : atX D cA F H (0, 1, 3) := h 34 (F 34, .inr (1, [.int 0, .ref (F 2), .int 0, .ref (F 35)])) rfl
theorem rx_17 {D : va_G} {cA : Nat → ClassId} {F : Nat → Nat} {H : Heap} (h : va_P D vwCl (rawW cA F) H) : atX D cA F H (0, 1, 4) := h 36 (F 36, .inr (1, [.int 0, .ref (F 2), .int 0, .ref (F 37)])) rfl
theorem rx_18 {D : va_G} {cA : Nat → ClassId} {F : Nat → Nat} {H : Heap} (h : va_P D vwCl (rawW cA F) H) : atX D cA F H (0, 1, 5) := h 38 (F 38, .inr (1, [.int 0, .ref (F 2), .int 0, .ref (F 39)])) rfl
theorem rx_19 {D : va_G} {cA : Nat → ClassId} {F : Nat → Nat} {H : Heap} (h : va_P D vwCl (rawW cA F) H) : atX D cA F H (0, 2, 0) := at_ext (r := fun _ => 0) (fun j _ => (al0_0 (t := 2) (i := 0) (j := j) (by omega) (by omega)).symm) (h 29 _ rfl)
theorem rx_20 {D : va_G} {cA : Nat → ClassId} {F : Nat → Nat} {H : Heap} (h : va_P D vwCl (rawW cA F) H) : atX D cA F H (0, 2, 1) := at_ext (r := fun _ => 0) (fun j _ => (al0_0 (t := 2) (i := 1) (j := j) (by omega) (by omega)).symm) (h 31 _ rfl)
theorem rx_21 {D : va_G} {cA : Nat → ClassId} {F : Nat → Nat} {H : Heap} (h : va_P D vwCl (rawW cA F) H) : atX D cA F H (0, 2, 2) := at_ext (r := fun _ => 0) (fun j _ => (al0_0 (t := 2) (i := 2) (j := j) (by omega) (by omega)).symm) (h 33 _ rfl)
theorem rx_22 {D : va_G} {cA : Nat → ClassId} {F : Nat → Nat} {H : Heap} (h : va_P D vwCl (rawW cA F) H) : atX D cA F H (0, 2, 3) := at_ext (r := fun _ => 0) (fun j _ => (al0_0 (t := 2) (i := 3) (j := j) (by omega) (by omega)).symm) (h 35 _ rfl)
theorem rx_23 {D : va_G} {cA : Nat → ClassId} {F : Nat → Nat} {H : Heap} (h : va_P D vwCl (rawW cA F) H) : atX D cA F H (0, 2, 4) := at_ext (r := fun _ => 0) (fun j _ => (al0_0 (t := 2) (i := 4) (j := j) (by omega) (by omega)).symm) (h 37 _ rfl)
theorem rx_24 {D : va_G} {cA : Nat → ClassId} {F : Nat → Nat} {H : Heap} (h : va_P D vwCl (rawW cA F) H) : atX D cA F H (0, 2, 5) := at_ext (r := fun _ => 0) (fun j _ => (al0_0 (t := 2) (i := 5) (j := j) (by omega) (by omega)).symm) (h 39 _ rfl)
theorem rx_25 {D : va_G} {cA : Nat → ClassId} {F : Nat → Nat} {H : Heap} (h : va_P D vwCl (rawW cA F) H) : atX D cA F H (0, 3, 0) := h 41 (F 41, .inr (0, [.int 0, .int (zI (-1)), .int 0])) rfl
theorem rx_26 {D : va_G} {cA : Nat → ClassId} {F : Nat → Nat} {H : Heap} (h : va_P D vwCl (rawW cA F) H) : atX D cA F H (0, 3, 1) := h 42 (F 42, .inr (0, [.int 0, .int (zI (-1)), .int 0])) rfl
theorem rx_27 {D : va_G} {cA : Nat → ClassId} {F : Nat → Nat} {H : Heap} (h : va_P D vwCl (rawW cA F) H) : atX D cA F H (0, 3, 2) := h 43 (F 43, .inr (0, [.int 0, .int (zI (-1)), .int 0])) rfl
theorem rx_28 {D : va_G} {cA : Nat → ClassId} {F : Nat → Nat} {H : Heap} (h : va_P D vwCl (rawW cA F) H) : atX D cA F H (1, 0, 0) := h 46 (F 46, .inr (3, [.ref (F 47), .ref (F 60), .ref (F 64), .int 0, .int 0, .int 0, .int 0, .int (zI 6)])) rfl
theorem rx_29 {D : va_G} {cA : Nat → ClassId} {F : Nat → Nat} {H : Heap} (h : va_P D vwCl (rawW cA F) H) : atX D cA F H (1, 10, 0) := at_extQ (fun j hj => by rcases (show j = 0 ∨ j = 1 ∨ j = 2 ∨ j = 3 ∨ j = 4 ∨ j = 5 by omega) with rfl | rfl | rfl | rfl | rfl | rfl <;> rfl) (h 47 _ rfl)
theorem rx_30 {D : va_G} {cA : Nat → ClassId} {F : Nat → Nat} {H : Heap} (h : va_P D vwCl (rawW cA F) H) : atX D cA F H (1, 11, 0) := at_extQ (fun j hj => by rcases (show j = 0 ∨ j = 1 ∨ j = 2 by omega) with rfl | rfl | rfl <;> rfl) (h 60 _ rfl)
theorem rx_31 {D : va_G} {cA : Nat → ClassId} {F : Nat → Nat} {H : Heap} (h : va_P D vwCl (rawW cA F) H) : atX D cA F H (1, 15, 0) := h 64 _ rfl
theorem rx_32 {D : va_G} {cA : Nat → ClassId} {F : Nat → Nat} {H : Heap} (h : va_P D vwCl (rawW cA F) H) : atX D cA F H (1, 4, 0) := at_ext (r := fun _ => 0) (fun j _ => (al0_0 (t := 4) (i := 0) (j := j) (by omega) (by omega)).symm) (h 65 _ rfl)
theorem rx_33 {D : va_G} {cA : Nat → ClassId} {F : Nat → Nat} {H : Heap} (h : va_P D vwCl (rawW cA F) H) : atX D cA F H (1, 1, 0) := h 48 (F 48, .inr (1, [.int 0, .ref (F 2), .int 0, .ref (F 49)])) rfl
theorem rx_34 {D : va_G} {cA : Nat → ClassId} {F : Nat → Nat} {H : Heap} (h : va_P D vwCl (rawW cA F) H) : atX D cA F H (1, 1, 1) := h 50 (F 50, .inr (1, [.int 0, .ref (F 2), .int 0, .ref (F 51)])) rfl
theorem rx_35 {D : va_G} {cA : Nat → ClassId} {F : Nat → Nat} {H : Heap} (h : va_P D vwCl (rawW cA F) H) : atX D cA F H (1, 1, 2) := h 52 (F 52, .inr (1, [.int 0, .ref (F 2), .int 0, .ref (F 53)])) rfl
theorem rx_36 {D : va_G} {cA : Nat → ClassId} {F : Nat → Nat} {H : Heap} (h : va_P D vwCl (rawW cA F) H) : atX D cA F H (1, 1, 3) := h 54 (F 54, .inr (1, [.int 0, .ref (F 2), .int 0, .ref (F 55)])) rfl
theorem rx_37 {D : va_G} {cA : Nat → ClassId} {F : Nat → Nat} {H : Heap} (h : va_P D vwCl (rawW cA F) H) : atX D cA F H (1, 1, 4) := h 56 (F 56, .inr (1, [.int 0, .ref (F 2), .int 0, .ref (F 57)])) rfl
theorem rx_38 {D : va_G} {cA : Nat → ClassId} {F : Nat → Nat} {H : Heap} (h : va_P D vwCl (rawW cA F) H) : atX D cA F H (1, 1, 5) := h 58 (F 58, .inr (1, [.int 0, .ref (F 2), .int 0, .ref (F 59)])) rfl
theorem rx_39 {D : va_G} {cA : Nat → ClassId} {F : Nat → Nat} {H : Heap} (h : va_P D vwCl (rawW cA F) H) : atX D cA F H (1, 2, 0) := at_ext (r := fun _ => 0) (fun j _ => (al0_0 (t := 2) (i := 0) (j := j) (by omega) (by omega)).symm) (h 49 _ rfl)
theorem rx_40 {D : va_G} {cA : Nat → ClassId} {F : Nat → Nat} {H : Heap} (h : va_P D vwCl (rawW cA F) H) : atX D cA F H (1, 2, 1) := at_ext (r := fun _ => 0) (fun j _ => (al0_0 (t := 2) (i := 1) (j := j) (by omega) (by omega)).symm) (h 51 _ rfl)
theorem rx_41 {D : va_G} {cA : Nat → ClassId} {F : Nat → Nat} {H : Heap} (h : va_P D vwCl (rawW cA F) H) : atX D cA F H (1, 2, 2) := at_ext (r := fun _ => 0) (fun j _ => (al0_0 (t := 2) (i := 2) (j := j) (by omega) (by omega)).symm) (h 53 _ rfl)
theorem rx_42 {D : va_G} {cA : Nat → ClassId} {F : Nat → Nat} {H : Heap} (h : va_P D vwCl (rawW cA F) H) : atX D cA F H (1, 2, 3) := at_ext (r := fun _ => 0) (fun j _ => (al0_0 (t := 2) (i := 3) (j := j) (by omega) (by omega)).symm) (h 55 _ rfl)
theorem rx_43 {D : va_G} {cA : Nat → ClassId} {F : Nat → Nat} {H : Heap} (h : va_P D vwCl (rawW cA F) H) : atX D cA F H (1, 2, 4) := at_ext (r := fun _ => 0) (fun j _ => (al0_0 (t := 2) (i := 4) (j := j) (by omega) (by omega)).symm) (h 57 _ rfl)
theorem rx_44 {D : va_G} {cA : Nat → ClassId} {F : Nat → Nat} {H : Heap} (h : va_P D vwCl (rawW cA F) H) : atX D cA F H (1, 2, 5) := at_ext (r := fun _ => 0) (fun j _ => (al0_0 (t := 2) (i := 5) (j := j) (by omega) (by omega)).symm) (h 59 _ rfl)
theorem rx_45 {D : va_G} {cA : Nat → ClassId} {F : Nat → Nat} {H : Heap} (h : va_P D vwCl (rawW cA F) H) : atX D cA F H (1, 3, 0) := h 61 (F 61, .inr (0, [.int 0, .int (zI (-1)), .int 0])) rfl
theorem rx_46 {D : va_G} {cA : Nat → ClassId} {F : Nat → Nat} {H : Heap} (h : va_P D vwCl (rawW cA F) H) : atX D cA F H (1, 3, 1) := h 62 (F 62, .inr (0, [.int 0, .int (zI (-1)), .int 0])) rfl
theorem rx_47 {D : va_G} {cA : Nat → ClassId} {F : Nat → Nat} {H : Heap} (h : va_P D vwCl (rawW cA F) H) : atX D cA F H (1, 3, 2) := h 63 (F 63, .inr (0, [.int 0, .int (zI (-1)), .int 0])) rfl
theorem rx_48 {D : va_G} {cA : Nat → ClassId} {F : Nat → Nat} {H : Heap} (h : va_P D vwCl (rawW cA F) H) : atX D cA F H (2, 9, 1) := h 2 _ rfl
theorem rx_49 {D : va_G} {cA : Nat → ClassId} {F : Nat → Nat} {H : Heap} (h : va_P D vwCl (rawW cA F) H) : atX D cA F H (2, 13, 1) := at_ext (r := stF ((1 : Nat) : Int) (1 + 1)) (fun j hj => if_pos hj) (h 3 _ rfl)
theorem rx_50 {D : va_G} {cA : Nat → ClassId} {F : Nat → Nat} {H : Heap} (h : va_P D vwCl (rawW cA F) H) : atX D cA F H (2, 14, 1) := at_ext (r := cvF ((1 : Nat) : Int) (sq ((1 : Nat) : Int))) (fun j hj => if_pos (Int.lt_toNat.mp (show j < (sq ((1 : Nat) : Int)).toNat from hj))) (h 4 _ rfl)
theorem rx_51 {D : va_G} {cA : Nat → ClassId} {F : Nat → Nat} {H : Heap} (h : va_P D vwCl (rawW cA F) H) : atX D cA F H (2, 9, 2) := h 5 _ rfl
theorem rx_52 {D : va_G} {cA : Nat → ClassId} {F : Nat → Nat} {H : Heap} (h : va_P D vwCl (rawW cA F) H) : atX D cA F H (2, 13, 2) := at_ext (r := stF ((2 : Nat) : Int) (2 + 1)) (fun j hj => if_pos hj) (h 6 _ rfl)
theorem rx_53 {D : va_G} {cA : Nat → ClassId} {F : Nat → Nat} {H : Heap} (h : va_P D vwCl (rawW cA F) H) : atX D cA F H (2, 14, 2) := at_ext (r := cvF ((2 : Nat) : Int) (sq ((2 : Nat) : Int))) (fun j hj => if_pos (Int.lt_toNat.mp (show j < (sq ((2 : Nat) : Int)).toNat from hj))) (h 7 _ rfl)
theorem rx_54 {D : va_G} {cA : Nat → ClassId} {F : Nat → Nat} {H : Heap} (h : va_P D vwCl (rawW cA F) H) : atX D cA F H (2, 9, 3) := h 8 _ rfl
theorem rx_55 {D : va_G} {cA : Nat → ClassId} {F : Nat → Nat} {H : Heap} (h : va_P D vwCl (rawW cA F) H) : atX D cA F H (2, 13, 3) := at_ext (r := stF ((3 : Nat) : Int) (3 + 1)) (fun j hj => if_pos hj) (h 9 _ rfl)
theorem rx_56 {D : va_G} {cA : Nat → ClassId} {F : Nat → Nat} {H : Heap} (h : va_P D vwCl (rawW cA F) H) : atX D cA F H (2, 14, 3) := at_ext (r := cvF ((3 : Nat) : Int) (sq ((3 : Nat) : Int))) (fun j hj => if_pos (Int.lt_toNat.mp (show j < (sq ((3 : Nat) : Int)).toNat from hj))) (h 10 _ rfl)
theorem rx_57 {D : va_G} {cA : Nat → ClassId} {F : Nat → Nat} {H : Heap} (h : va_P D vwCl (rawW cA F) H) : atX D cA F H (2, 9, 4) := h 11 _ rfl
theorem rx_58 {D : va_G} {cA : Nat → ClassId} {F : Nat → Nat} {H : Heap} (h : va_P D vwCl (rawW cA F) H) : atX D cA F H (2, 13, 4) := at_ext (r := stF ((4 : Nat) : Int) (4 + 1)) (fun j hj => if_pos hj) (h 12 _ rfl)
theorem rx_59 {D : va_G} {cA : Nat → ClassId} {F : Nat → Nat} {H : Heap} (h : va_P D vwCl (rawW cA F) H) : atX D cA F H (2, 14, 4) := at_ext (r := cvF ((4 : Nat) : Int) (sq ((4 : Nat) : Int))) (fun j hj => if_pos (Int.lt_toNat.mp (show j < (sq ((4 : Nat) : Int)).toNat from hj))) (h 13 _ rfl)
theorem rx_60 {D : va_G} {cA : Nat → ClassId} {F : Nat → Nat} {H : Heap} (h : va_P D vwCl (rawW cA F) H) : atX D cA F H (2, 9, 5) := h 14 _ rfl
theorem rx_61 {D : va_G} {cA : Nat → ClassId} {F : Nat → Nat} {H : Heap} (h : va_P D vwCl (rawW cA F) H) : atX D cA F H (2, 13, 5) := at_ext (r := stF ((5 : Nat) : Int) (5 + 1)) (fun j hj => if_pos hj) (h 15 _ rfl)
theorem rx_62 {D : va_G} {cA : Nat → ClassId} {F : Nat → Nat} {H : Heap} (h : va_P D vwCl (rawW cA F) H) : atX D cA F H (2, 14, 5) := at_ext (r := cvF ((5 : Nat) : Int) (sq ((5 : Nat) : Int))) (fun j hj => if_pos (Int.lt_toNat.mp (show j < (sq ((5 : Nat) : Int)).toNat from hj))) (h 16 _ rfl)
theorem rx_63 {D : va_G} {cA : Nat → ClassId} {F : Nat → Nat} {H : Heap} (h : va_P D vwCl (rawW cA F) H) : atX D cA F H (2, 9, 6) := h 17 _ rfl
theorem rx_64 {D : va_G} {cA : Nat → ClassId} {F : Nat → Nat} {H : Heap} (h : va_P D vwCl (rawW cA F) H) : atX D cA F H (2, 13, 6) := at_ext (r := stF ((6 : Nat) : Int) (6 + 1)) (fun j hj => if_pos hj) (h 18 _ rfl)
theorem rx_65 {D : va_G} {cA : Nat → ClassId} {F : Nat → Nat} {H : Heap} (h : va_P D vwCl (rawW cA F) H) : atX D cA F H (2, 14, 6) := at_ext (r := cvF ((6 : Nat) : Int) (sq ((6 : Nat) : Int))) (fun j hj => if_pos (Int.lt_toNat.mp (show j < (sq ((6 : Nat) : Int)).toNat from hj))) (h 19 _ rfl)
theorem raw_P {D : va_G} {cA : Nat → ClassId} {F : Nat → Nat} {H : Heap} (h : va_P D vwCl (rawW cA F) H) : va_P D vwCl (wX cA (adF F) (fun _ => al0)) H := by
  have key : ∀ z ∈ idsX, atX D cA F H z := List.forall_mem_cons.mpr ⟨rx_0 h, List.forall_mem_cons.mpr ⟨rx_1 h, List.forall_mem_cons.mpr ⟨rx_2 h, List.forall_mem_cons.mpr ⟨rx_3 h, List.forall_mem_cons.mpr ⟨rx_4 h, List.forall_mem_cons.mpr ⟨rx_5 h, List.forall_mem_cons.mpr ⟨rx_6 h, List.forall_mem_cons.mpr ⟨rx_7 h, List.forall_mem_cons.mpr ⟨rx_8 h, List.forall_mem_cons.mpr ⟨rx_9 h, List.forall_mem_cons.mpr ⟨rx_10 h, List.forall_mem_cons.mpr ⟨rx_11 h, List.forall_mem_cons.mpr ⟨rx_12 h, List.forall_mem_cons.mpr ⟨rx_13 h, List.forall_mem_cons.mpr ⟨rx_14 h, List.forall_mem_cons.mpr ⟨rx_15 h, List.forall_mem_cons.mpr ⟨rx_16 h, List.forall_mem_cons.mpr ⟨rx_17 h, List.forall_mem_cons.mpr ⟨rx_18 h, List.forall_mem_cons.mpr ⟨rx_19 h, List.forall_mem_cons.mpr ⟨rx_20 h, List.forall_mem_cons.mpr ⟨rx_21 h, List.forall_mem_cons.mpr ⟨rx_22 h, List.forall_mem_cons.mpr ⟨rx_23 h, List.forall_mem_cons.mpr ⟨rx_24 h, List.forall_mem_cons.mpr ⟨rx_25 h, List.forall_mem_cons.mpr ⟨rx_26 h, List.forall_mem_cons.mpr ⟨rx_27 h, List.forall_mem_cons.mpr ⟨rx_28 h, List.forall_mem_cons.mpr ⟨rx_29 h, List.forall_mem_cons.mpr ⟨rx_30 h, List.forall_mem_cons.mpr ⟨rx_31 h, List.forall_mem_cons.mpr ⟨rx_32 h, List.forall_mem_cons.mpr ⟨rx_33 h, List.forall_mem_cons.mpr ⟨rx_34 h, List.forall_mem_cons.mpr ⟨rx_35 h, List.forall_mem_cons.mpr ⟨rx_36 h, List.forall_mem_cons.mpr ⟨rx_37 h, List.forall_mem_cons.mpr ⟨rx_38 h, List.forall_mem_cons.mpr ⟨rx_39 h, List.forall_mem_cons.mpr ⟨rx_40 h, List.forall_mem_cons.mpr ⟨rx_41 h, List.forall_mem_cons.mpr ⟨rx_42 h, List.forall_mem_cons.mpr ⟨rx_43 h, List.forall_mem_cons.mpr ⟨rx_44 h, List.forall_mem_cons.mpr ⟨rx_45 h, List.forall_mem_cons.mpr ⟨rx_46 h, List.forall_mem_cons.mpr ⟨rx_47 h, List.forall_mem_cons.mpr ⟨rx_48 h, List.forall_mem_cons.mpr ⟨rx_49 h, List.forall_mem_cons.mpr ⟨rx_50 h, List.forall_mem_cons.mpr ⟨rx_51 h, List.forall_mem_cons.mpr ⟨rx_52 h, List.forall_mem_cons.mpr ⟨rx_53 h, List.forall_mem_cons.mpr ⟨rx_54 h, List.forall_mem_cons.mpr ⟨rx_55 h, List.forall_mem_cons.mpr ⟨rx_56 h, List.forall_mem_cons.mpr ⟨rx_57 h, List.forall_mem_cons.mpr ⟨rx_58 h, List.forall_mem_cons.mpr ⟨rx_59 h, List.forall_mem_cons.mpr ⟨rx_60 h, List.forall_mem_cons.mpr ⟨rx_61 h, List.forall_mem_cons.mpr ⟨rx_62 h, List.forall_mem_cons.mpr ⟨rx_63 h, List.forall_mem_cons.mpr ⟨rx_64 h, List.forall_mem_cons.mpr ⟨rx_65 h, fun _ hh => nomatch hh⟩⟩⟩⟩⟩⟩⟩⟩⟩⟩⟩⟩⟩⟩⟩⟩⟩⟩⟩⟩⟩⟩⟩⟩⟩⟩⟩⟩⟩⟩⟩⟩⟩⟩⟩⟩⟩⟩⟩⟩⟩⟩⟩⟩⟩⟩⟩⟩⟩⟩⟩⟩⟩⟩⟩⟩⟩⟩⟩⟩⟩⟩⟩⟩⟩⟩
  intro k q hk
  rw [wX, List.getElem?_map] at hk
  cases hz : idsX[k]? with
  | none => rw [hz] at hk; cases hk
  | some z =>
    rw [hz] at hk
    cases hk
    exact key z (List.mem_of_getElem? hz)
