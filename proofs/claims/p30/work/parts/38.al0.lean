/-! ===== the value at first; rows alike ===== -/
def al0 : St := fun t i j => if t = 3 ∧ j = 1 then zI (-1) else if t = 0 ∧ i = 0 ∧ j = 4 then zI 6 else 0
theorem al0_0 {t i j : Nat} (h : ¬ (t = 3 ∧ j = 1)) (h2 : ¬ (t = 0 ∧ i = 0 ∧ j = 4)) : al0 t i j = 0 := by rw [al0, if_neg h, if_neg h2]
theorem vp_ext {cB : ClassId} {n : Nat} {r r' : Nat → Int32} (h : ∀ j : Nat, j < n → r j = r' j) : vp_cell cB (n, .inl r) = vp_cell cB (n, .inl r') := by
  rw [vp_cell_i, vp_cell_i]
  unfold arrV
  congr 2
  funext j
  exact congrArg Value.int (h j.val j.isLt)
