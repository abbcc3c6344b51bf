/-! ===== what the law's constructors leave ===== -/
def qF (n : Nat) (tr : Nat → Nat) : Nat → Option Nat := fun k => if k < n then some (tr k) else none
def wP (cA : Nat → ClassId) (b : Nat) (c s : Int) (q1 q2 n : Nat) (tr : Nat → Nat) : va_W := [(b, .inr (7, [.int (zI c), .int (zI s), .int 0, .ref q1, .ref q2])), (q1, .inl (cA 0, (sq s).toNat, .inl (fun _ => 0))), (q2, .inl (cA 6, (sq s).toNat, .inr (.inr (.inr (.inr (qF n tr))))))] ++ (List.range n).map (fun k => (tr k, .inl (cA 0, 3, .inl (trF s k))))
theorem wP_0 (cA : Nat → ClassId) (b : Nat) (c s : Int) (q1 q2 : Nat) (tr : Nat → Nat) : [(b, .inr (7, [.int (zI c), .int (zI s), .int 0, .ref q1, .ref q2])), (q1, .inl (cA 0, (sq s).toNat, .inl (fun _ => 0))), (q2, .inl (cA 6, (sq s).toNat, .inr (.inr (.inr (.inr (fun _ => none))))))] = wP cA b c s q1 q2 0 tr := by
  have e : (fun _ : Nat => (none : Option Nat)) = qF 0 tr := by funext k; exact (if_neg (by omega)).symm
  rw [e]
  rfl
theorem wP_s (cA : Nat → ClassId) (b : Nat) (c s : Int) (q1 q2 n q3 : Nat) (tr : Nat → Nat) {l r q : Int} (h1 : lf s n = l) (h2 : row s n = r) (h3 : pla s n = q) : ([(b, .inr (7, [.int (zI c), .int (zI s), .int 0, .ref q1, .ref q2])), (q1, .inl (cA 0, (sq s).toNat, .inl (fun _ => 0))), (q2, .inl (cA 6, (sq s).toNat, .inr (.inr (.inr (.inr (va_up (qF n tr) n (some q3)))))))] ++ (List.range n).map (fun k => (tr k, .inl (cA 0, 3, .inl (trF s k))))) ++ [(q3, .inl (cA 0, 3, .inl (upd (upd (upd (fun _ => 0) 0 (zI l)) 1 (zI r)) 2 (zI q))))] = wP cA b c s q1 q2 (n + 1) (va_up tr n q3) := by
  subst h1; subst h2; subst h3
  have e1 : va_up (qF n tr) n (some q3) = qF (n + 1) (va_up tr n q3) := by
    funext k
    unfold va_up qF
    by_cases h : k = n
    · rw [if_pos h, if_pos (by omega)]
      show some q3 = some (if k = n then q3 else tr k)
      rw [if_pos h]
    · rw [if_neg h]
      by_cases h2 : k < n
      · rw [if_pos h2, if_pos (by omega)]
        show some (tr k) = some (if k = n then q3 else tr k)
        rw [if_neg h]
      · rw [if_neg h2, if_neg (by omega)]
  have e2 : (List.range n).map (fun k => (va_up tr n q3 k, (.inl (cA 0, 3, .inl (trF s k)) : va_E))) = (List.range n).map (fun k => (tr k, .inl (cA 0, 3, .inl (trF s k)))) := by
    refine List.map_congr_left fun k hk => ?_
    have := List.mem_range.mp hk
    rw [show va_up tr n q3 k = tr k from if_neg (by omega)]
  have e3 : (va_up tr n q3 n, (.inl (cA 0, 3, .inl (trF s n)) : va_E)) = (q3, .inl (cA 0, 3, .inl (upd (upd (upd (fun _ => 0) 0 (zI (lf s n))) 1 (zI (row s n))) 2 (zI (pla s n))))) := by
    rw [show va_up tr n q3 n = q3 from if_pos rfl]
    rfl
  unfold wP
  rw [e1, List.range_succ, List.map_append, e2, List.append_assoc, List.map_singleton, e3]
def numC (e l r q : Nat) : Bool := decide (0 ≤ stz e l + ((e : Int) - l) * r + q) && decide (stz e l + ((e : Int) - l) * r + q < sq e) && decide (lf e (stz e l + ((e : Int) - l) * r + q) = l) && decide (row e (stz e l + ((e : Int) - l) * r + q) = r) && decide (pla e (stz e l + ((e : Int) - l) * r + q) = q)
theorem numC_1 : (List.range 7).all (fun e => (List.range e).all (fun l => (List.range (e - l)).all (fun r => (List.range (e - l)).all (fun q => numC e l r q)))) = true := by decide +kernel
theorem num_c {e l r q : Int} (he : 1 ≤ e ∧ e ≤ 6) (hl : 0 ≤ l ∧ l < e) (hr : 0 ≤ r ∧ r < e - l) (hq : 0 ≤ q ∧ q < e - l) : 0 ≤ stz e l + (e - l) * r + q ∧ stz e l + (e - l) * r + q < sq e ∧ lf e (stz e l + (e - l) * r + q) = l ∧ row e (stz e l + (e - l) * r + q) = r ∧ pla e (stz e l + (e - l) * r + q) = q := by
  obtain ⟨i, rfl, h1, h2⟩ := natsq he
  obtain ⟨l, rfl⟩ := Int.eq_ofNat_of_zero_le hl.1
  obtain ⟨r, rfl⟩ := Int.eq_ofNat_of_zero_le hr.1
  obtain ⟨q, rfl⟩ := Int.eq_ofNat_of_zero_le hq.1
  have := List.all_eq_true.mp numC_1 i (List.mem_range.mpr h1)
  have := List.all_eq_true.mp this l (List.mem_range.mpr (by omega))
  have := List.all_eq_true.mp this r (List.mem_range.mpr (by omega))
  have := List.all_eq_true.mp this q (List.mem_range.mpr (by omega))
  simp only [numC, Bool.and_eq_true, decide_eq_true_eq] at this
  obtain ⟨⟨⟨⟨a1, a2⟩, a3⟩, a4⟩, a5⟩ := this
  exact ⟨a1, a2, a3, a4, a5⟩
def stC (e l : Nat) : Bool := decide (stz e ((l : Int) + 1) = stz e l + ((e : Int) - l) * ((e : Int) - l))
theorem stC_1 : (List.range 7).all (fun e => (List.range e).all (fun l => stC e l)) = true := by decide +kernel
theorem stz_s {e l : Int} (he : 1 ≤ e ∧ e ≤ 6) (hl : 0 ≤ l ∧ l < e) : stz e (l + 1) = stz e l + (e - l) * (e - l) := by
  obtain ⟨i, rfl, h1, h2⟩ := natsq he
  obtain ⟨l, rfl⟩ := Int.eq_ofNat_of_zero_le hl.1
  have := List.all_eq_true.mp stC_1 i (List.mem_range.mpr h1)
  have := List.all_eq_true.mp this l (List.mem_range.mpr (by omega))
  exact of_decide_eq_true this
theorem stz_z (e : Int) : stz e 0 = 0 := by
  unfold stz
  rw [show e - 0 = e by omega]
  omega
theorem stz_e (e : Int) : stz e e = sq e := by
  unfold stz
  rw [show e - e = 0 by omega, show sq 0 = 0 by decide]
  omega
theorem sq_s : ∀ k : Nat, k < 7 → sq ((k : Int) + 1) = sq k + ((k : Int) + 1) * ((k : Int) + 1) := by decide +kernel
theorem sq_b3 : ∀ k : Nat, k < 7 → 0 ≤ sq k ∧ sq k ≤ 91 := by decide +kernel
theorem mul_b {x y : Int} (hx : 0 ≤ x ∧ x ≤ 7) (hy : 0 ≤ y ∧ y ≤ 7) : 0 ≤ x * y ∧ x * y ≤ 49 := ⟨Int.mul_nonneg hx.1 hy.1, Int.mul_le_mul hx.2 hy.2 hy.1 (by decide)⟩
