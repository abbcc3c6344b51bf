/-! ===== what the law lays beside what the class tells ===== -/
def tolF (a : St) (c : Nat) : Nat → Int32 := upd (upd (upd (upd (upd (fun _ => 0) 0 (a 5 0 c)) 1 (a 4 0 c)) 2 (zI (ofCal a c (np a).toNat))) 3 (a 6 0 c)) 4 (a 7 0 c)
theorem tol_c {a : St} {c w : Nat} (hw : w < 5) : tolF a c w = toV a (c : Int) (w : Int) := by
  rcases (show w = 0 ∨ w = 1 ∨ w = 2 ∨ w = 3 ∨ w = 4 by omega) with rfl | rfl | rfl | rfl | rfl <;> rfl
def balF (a : St) (p k : Nat) (v : Int) : Nat → Int32 := upd (upd (upd (upd (upd (upd (fun _ => 0) 0 (a 2 p k)) 1 (zI (lf (sd a p) k))) 2 (zI (row (sd a p) k))) 3 (zI (pla (sd a p) k))) 4 (zI v)) 5 (zI (onN (sd a p) (bl a p) k))
theorem bal_c {a : St} {p k w : Nat} (hw : w < 6) : balF a p k (if cv a p k then 1 else 0) w = blV a p (k : Int) (w : Int) := by
  rcases (show w = 0 ∨ w = 1 ∨ w = 2 ∨ w = 3 ∨ w = 4 ∨ w = 5 by omega) with rfl | rfl | rfl | rfl | rfl | rfl <;> rfl
def lopC (e n : Nat) : Bool := decide (lb e n = lf e n ∨ lb e n = lf e n + 1)
theorem lopC_1 : (List.range 7).all (fun e => (List.range ((sq e).toNat + 1)).all (fun n => lopC e n)) = true := by decide +kernel
theorem lop {e n : Int} (he : 1 ≤ e ∧ e ≤ 6) (hn : 0 ≤ n ∧ n ≤ sq e) : lb e n = lf e n ∨ lb e n = lf e n + 1 := by
  obtain ⟨i, rfl, h1, h2⟩ := natsq he
  obtain ⟨k, rfl⟩ := Int.eq_ofNat_of_zero_le hn.1
  have := List.all_eq_true.mp lopC_1 i (List.mem_range.mpr h1)
  have := List.all_eq_true.mp this k (List.mem_range.mpr (by omega))
  exact of_decide_eq_true this
theorem lb_op {a : St} {p : Nat} (hP : PO a p) : lb (sd a p) (bl a p) - opV a p = lf (sd a p) (bl a p) := by
  have h := lop (e := sd a p) (n := bl a p) ⟨hP.1, hP.2.1⟩ ⟨hP.2.2.1, hP.2.2.2⟩
  unfold opV brk
  by_cases q : lb (sd a p) (bl a p) = lf (sd a p) (bl a p)
  · rw [if_neg (by simp [q])]; omega
  · rw [if_pos (by simp [q])]; omega
def aboF (a : St) (p : Nat) (v : Int) : Nat → Int32 := upd (upd (upd (upd (upd (upd (upd (upd (upd (upd (fun _ => 0) 0 (zI (cal a p))) 1 (zI (sd a p))) 2 (zI (bl a p))) 3 (zI (sq (sd a p)))) 4 (zI (lb (sd a p) (bl a p)))) 5 (zI v)) 6 (zI (bareN a p (bl a p).toNat))) 7 (zI (rustyN a p (a 0 0 4) (bl a p).toNat))) 8 (greatN a p (bl a p).toNat)) 9 (sumN a p (bl a p).toNat)
theorem abo_c {a : St} {p w : Nat} (hw : w < 10) : aboF a p (lf (sd a p) (bl a p)) w = abV a p (w : Int) := by
  rcases (show w = 0 ∨ w = 1 ∨ w = 2 ∨ w = 3 ∨ w = 4 ∨ w = 5 ∨ w = 6 ∨ w = 7 ∨ w = 8 ∨ w = 9 by omega) with rfl | rfl | rfl | rfl | rfl | rfl | rfl | rfl | rfl | rfl <;> rfl
theorem at_lie {e k : Int} : stz e (lf e k) + row e k * (e - lf e k) + pla e k = k := by
  have h := Int.mul_ediv_add_emod (k - stz e (lf e k)) (e - lf e k)
  have h2 := Int.mul_comm (e - lf e k) ((k - stz e (lf e k)) / (e - lf e k))
  unfold row pla
  omega
theorem atV_c {a : St} {p : Nat} {k : Int} (hk : k < bl a p) : atV a p (lf (sd a p) k) (row (sd a p) k) (pla (sd a p) k) = k := by
  unfold atV
  rw [at_lie, if_pos hk]
theorem mou_c {a : St} {c w : Nat} (hw : w < 3) : a 3 c w = moV a c (w : Int) := by
  rcases (show w = 0 ∨ w = 1 ∨ w = 2 by omega) with rfl | rfl | rfl
  · exact (zI_self _).symm
  · exact (zI_self _).symm
  · rfl
theorem fp_div2 {x : Int32} {y : UInt64} (hy : fp_pos y = true) : FP.Core.decode FP.Core.b64 (FP.Core.ddiv (FP.Core.i2d x) y).toNat ≠ .nan := by
  unfold fp_pos at hy
  have key : fp_ok (FP.Core.quotient FP.Core.b64 (FP.Core.decode FP.Core.b64 (FP.Core.i2d x).toNat) (FP.Core.decode FP.Core.b64 y.toNat)) := by
    cases h : FP.Core.decode FP.Core.b64 y.toNat with
    | nan => rw [h] at hy; cases hy
    | inf s => rw [h] at hy; cases hy
    | fin t d r =>
      rw [h] at hy
      exact fp_quot (fp_i2d x) (by intro z; subst z; cases hy)
  exact (fp_nn key).2
theorem fp_mean2 {x : Int32} {n : Int} (h : 1 ≤ n ∧ n ≤ 546) : FP.Core.decode FP.Core.b64 (FP.ddiv (FP.i2d x) (FP.i2d (zI n))).toNat ≠ .nan := by
  obtain ⟨k, rfl⟩ := Int.eq_ofNat_of_zero_le (show 0 ≤ n by omega)
  have t := List.all_eq_true.mp fp_cnt k (List.mem_range.mpr (by omega))
  rw [Bool.or_eq_true] at t
  rcases t with t | t
  · have : k = 0 := eq_of_beq t
    omega
  · exact fp_div2 t
theorem cmp_self {x : UInt64} {op : CmpOp} (h : FP.Core.decode FP.Core.b64 x.toNat ≠ .nan) : Op.cmpValue (FP.dcmp x x) op = 0 := by
  have e : FP.dcmp x x = some .eq := by
    show FP.Core.order (FP.Core.decode FP.Core.b64 x.toNat) (FP.Core.decode FP.Core.b64 x.toNat) = some .eq
    cases hx : FP.Core.decode FP.Core.b64 x.toNat with
    | nan => exact absurd hx h
    | inf s => simp [FP.Core.order, compare, compareOfLessAndEq]
    | fin s c q => simp [FP.Core.order, compare, compareOfLessAndEq]
  rw [e]
  rfl
theorem mea_nn {a : St} (h : Inv a) : FP.Core.decode FP.Core.b64 (meaV a).toNat ≠ .nan := by
  have hb := blA_b h (np a).toNat (by have := h.1; omega)
  have h6 := h.1
  unfold meaV
  split
  · decide +kernel
  · exact fp_mean2 (by omega)
