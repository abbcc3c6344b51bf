/-! ===== MAIN: what the calls tell ===== -/
theorem mxz {a b : Int} (ha : -2147483648 ≤ a ∧ a < 2147483648) (hb : -2147483648 ≤ b ∧ b < 2147483648) : (if zI a < zI b then zI b else zI a) = zI (max a b) := by
  by_cases h : a < b
  · rw [if_pos ((zI_lt ha hb).mpr h)]; exact congrArg zI (by omega)
  · rw [if_neg (fun q => h ((zI_lt ha hb).mp q))]; exact congrArg zI (by omega)
theorem mnz {a b : Int} (ha : -2147483648 ≤ a ∧ a < 2147483648) (hb : -2147483648 ≤ b ∧ b < 2147483648) : (if zI b < zI a then zI b else zI a) = zI (min a b) := by
  by_cases h : b < a
  · rw [if_pos ((zI_lt hb ha).mpr h)]; exact congrArg zI (by omega)
  · rw [if_neg (fun q => h ((zI_lt hb ha).mp q))]; exact congrArg zI (by omega)
theorem mnz2 {a b : Int} (ha : -2147483648 ≤ a ∧ a < 2147483648) (hb : -2147483648 ≤ b ∧ b < 2147483648) : (if zI b < zI a then zI b else zI a) = zI (if b < a then b else a) := by
  by_cases h : b < a
  · rw [if_pos ((zI_lt hb ha).mpr h), if_pos h]
  · rw [if_neg (fun q => h ((zI_lt hb ha).mp q)), if_neg h]
theorem mul66 {a b : Int} (ha : 0 ≤ a ∧ a ≤ 6) (hb : 0 ≤ b ∧ b ≤ 6) : 0 ≤ a * b ∧ a * b ≤ 36 := ⟨Int.mul_nonneg ha.1 hb.1, Int.mul_le_mul ha.2 hb.2 hb.1 (by decide)⟩
/-- balls on the ball at row r and place q of the layer below k, looked for row by row -/
def inF (e n k r q0 : Int) : Nat → Int
  | 0 => 0
  | j + 1 => inF e n k r q0 j + (if stz e k + r * (e - k) + (q0 + j) < n then 1 else 0)
def outF (e n k r0 q0 q1 : Int) : Nat → Int
  | 0 => 0
  | j + 1 => outF e n k r0 q0 q1 j + inF e n k (r0 + j) q0 (q1 - q0 + 1).toNat
def onX (e n k r q : Int) : Int := outF e n k (max (r - 1) 0) (max (q - 1) 0) (min q (e - k - 1)) (min r (e - k - 1) - max (r - 1) 0 + 1).toNat
def onK (e n k r q : Int) : Int := (if isAt e n k r q then 1 else 0) + (if isAt e n k r (q - 1) then 1 else 0) + (if isAt e n k (r - 1) q then 1 else 0) + (if isAt e n k (r - 1) (q - 1) then 1 else 0)
theorem onN_K (e n b : Int) : onN e n b = onK e n (lf e b + 1) (row e b) (pla e b) := rfl
def onB (e k r q n : Nat) : Bool := decide (onX e n (k + 1) r q = onK e n (k + 1) r q)
theorem onB_1 : (List.range 7).all (fun e => (List.range e).all (fun k => (List.range (e - k)).all (fun r => (List.range (e - k)).all (fun q => (List.range 92).all (fun n => onB e k r q n))))) = true := by decide +kernel
theorem onX_K {e k r q n : Int} (h : e ≤ 6 ∧ 0 ≤ k ∧ k < e ∧ 0 ≤ r ∧ r < e - k ∧ 0 ≤ q ∧ q < e - k ∧ 0 ≤ n ∧ n ≤ 91) : onX e n (k + 1) r q = onK e n (k + 1) r q := by
  obtain ⟨h1, h2, h3, h4, h5, h6, h7, h8, h9⟩ := h
  obtain ⟨k, rfl⟩ := Int.eq_ofNat_of_zero_le h2
  obtain ⟨r, rfl⟩ := Int.eq_ofNat_of_zero_le h4
  obtain ⟨q, rfl⟩ := Int.eq_ofNat_of_zero_le h6
  obtain ⟨n, rfl⟩ := Int.eq_ofNat_of_zero_le h8
  obtain ⟨e, rfl⟩ := Int.eq_ofNat_of_zero_le (show 0 ≤ e by omega)
  have := List.all_eq_true.mp onB_1 e (List.mem_range.mpr (by omega))
  have := List.all_eq_true.mp this k (List.mem_range.mpr (by omega))
  have := List.all_eq_true.mp this r (List.mem_range.mpr (by omega))
  have := List.all_eq_true.mp this q (List.mem_range.mpr (by omega))
  have := List.all_eq_true.mp this n (List.mem_range.mpr (by omega))
  exact of_decide_eq_true this
theorem inF_b (e n k r q0 : Int) : ∀ j : Nat, 0 ≤ inF e n k r q0 j ∧ inF e n k r q0 j ≤ j
  | 0 => ⟨Int.le_refl _, Int.le_refl _⟩
  | j + 1 => by
    have ih := inF_b e n k r q0 j
    unfold inF
    split <;> omega
def eAbout (a : St) (p w : Int) : Int := if ¬ (0 ≤ p ∧ p < np a) then 1 else if ¬ (0 ≤ w ∧ w ≤ 9) then 1 else 0
def abV (a : St) (p : Nat) (w : Int) : Int32 := if w = 0 then zI (cal a p) else if w = 1 then zI (sd a p) else if w = 2 then zI (bl a p) else if w = 3 then zI (sq (sd a p)) else if w = 4 then zI (lb (sd a p) (bl a p)) else if w = 5 then zI (lf (sd a p) (bl a p)) else if w = 6 then zI (bareN a p (bl a p).toNat) else if w = 7 then zI (rustyN a p (a 0 0 4) (bl a p).toNat) else if w = 8 then greatN a p (bl a p).toNat else sumN a p (bl a p).toNat
def eBall (a : St) (p b w : Int) : Int := if ¬ (0 ≤ p ∧ p < np a) then 1 else if ¬ (0 ≤ b ∧ b < bl a p.toNat) then 1 else if ¬ (0 ≤ w ∧ w ≤ 5) then 1 else 0
def blV (a : St) (p : Nat) (b w : Int) : Int32 := if w = 0 then a 2 p b.toNat else if w = 1 then zI (lf (sd a p) b) else if w = 2 then zI (row (sd a p) b) else if w = 3 then zI (pla (sd a p) b) else if w = 4 then zI (if cv a p b then 1 else 0) else zI (onN (sd a p) (bl a p) b)
def eAt (a : St) (p k r q : Int) : Int := if ¬ (0 ≤ p ∧ p < np a) then 1 else if ¬ (0 ≤ k ∧ k < sd a p.toNat) then 1 else if ¬ (0 ≤ r ∧ r < sd a p.toNat - k) then 1 else if ¬ (0 ≤ q ∧ q < sd a p.toNat - k) then 1 else 0
def atV (a : St) (p : Nat) (k r q : Int) : Int := if stz (sd a p) k + r * (sd a p - k) + q < bl a p then stz (sd a p) k + r * (sd a p - k) + q else -1
def eTold (c w : Int) : Int := if ¬ (0 ≤ c ∧ c ≤ 4) then 1 else if ¬ (0 ≤ w ∧ w ≤ 4) then 1 else 0
def toV (a : St) (c w : Int) : Int32 := if w = 0 then a 5 0 c.toNat else if w = 1 then a 4 0 c.toNat else if w = 2 then zI (ofCal a c (np a).toNat) else if w = 3 then a 6 0 c.toNat else a 7 0 c.toNat
def eMou (a : St) (c w : Int) : Int := if ¬ (0 ≤ c ∧ c < nc a) then 1 else if ¬ (0 ≤ w ∧ w ≤ 2) then 1 else 0
def moV (a : St) (c : Nat) (w : Int) : Int32 := if w = 0 then zI (lp a c) else if w = 1 then zI (on a c) else a 3 c 2
def eCnt (w : Int) : Int := if ¬ (0 ≤ w ∧ w ≤ 10) then 1 else 0
def coV (a : St) (w : Int) : Int32 := if w = 0 then a 0 0 2 else if w = 1 then zI (np a) else if w = 2 then zI (nc a) else if w = 3 then sum5 (a 5 0) 5 else if w ≤ 6 then cntV a w else if w = 7 then sum5 (a 6 0) 5 else if w = 8 then sum5 (a 7 0) 5 else if w = 9 then a 0 0 3 else a 0 0 4
