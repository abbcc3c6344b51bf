/-! ===== NEW: a pyramid's numbers ===== -/
def covB (e k r q : Nat) : Bool := decide (cov e (stz e k + (r : Int) * ((e : Int) - k) + q) = stz e (k + 1) + max ((r : Int) - 1) 0 * ((e : Int) - k - 1) + max ((q : Int) - 1) 0)
theorem covB_1 : (List.range 7).all (fun e => (List.range e).all (fun k => (List.range (e - k)).all (fun r => (List.range (e - k)).all (fun q => covB e k r q)))) = true := by decide +kernel
theorem cov_krq {e k r q : Nat} (he : e < 7) (hk : k < e) (hr : r < e - k) (hq : q < e - k) : cov e (stz e k + (r : Int) * ((e : Int) - k) + q) = stz e (k + 1) + max ((r : Int) - 1) 0 * ((e : Int) - k - 1) + max ((q : Int) - 1) 0 := by
  have t := List.all_eq_true.mp covB_1 e (List.mem_range.mpr he)
  have t := List.all_eq_true.mp t k (List.mem_range.mpr hk)
  have t := List.all_eq_true.mp t r (List.mem_range.mpr hr)
  have t := List.all_eq_true.mp t q (List.mem_range.mpr hq)
  exact of_decide_eq_true t
/-- the row of covering balls, filled below n -/
def cvF (e n : Int) : Nat → Int32 := fun b => if (b : Int) < n then zI (cov e b) else 0
theorem cvF_s {e n : Int} {v : Int32} (hn : 0 ≤ n) (hv : v = zI (cov e n)) : upd (cvF e n) n.toNat v = cvF e (n + 1) := by
  funext b
  unfold upd cvF
  by_cases h : b = n.toNat
  · rw [if_pos h, if_pos (by omega), hv, show (b : Int) = n by omega]
  · rw [if_neg h]
    by_cases h2 : (b : Int) < n
    · rw [if_pos h2, if_pos (by omega)]
    · rw [if_neg h2, if_neg (by omega)]
def stF (e : Int) (n : Nat) : Nat → Int32 := fun k => if k < n then zI (stz e k) else 0
theorem stF_s {e : Int} {n : Nat} : upd (stF e n) n (zI (stz e n)) = stF e (n + 1) := by
  funext b
  unfold upd stF
  by_cases h : b = n
  · subst h; rw [if_pos rfl, if_pos (by omega)]
  · rw [if_neg h]
    by_cases h2 : b < n
    · rw [if_pos h2, if_pos (by omega)]
    · rw [if_neg h2, if_neg (by omega)]
theorem cvF_0 (e : Int) : cvF e 0 = fun _ => 0 := by
  funext b
  exact if_neg (by omega)
theorem stF_0 (e : Int) : stF e 0 = fun _ => 0 := by
  funext b
  exact if_neg (by omega)
/-- where layers end: the next begins -/
theorem stz_n : ∀ e : Nat, e < 7 → ∀ k : Nat, k < e → stz e k + ((e : Int) - k) * ((e : Int) - k) = stz e (k + 1) := by decide +kernel
