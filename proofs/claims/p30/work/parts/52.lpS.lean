/-! ===== PLACES: where balls lie on each other, counted as the law does ===== -/
theorem pyF {e b : Int} (he : 1 ≤ e ∧ e ≤ 6) (hb : 0 ≤ b ∧ b < sq e) : 0 ≤ lf e b ∧ lf e b < e ∧ stz e (lf e b) ≤ b ∧ b < stz e (lf e b + 1) ∧ 0 ≤ row e b ∧ row e b < e - lf e b ∧ 0 ≤ pla e b ∧ pla e b < e - lf e b ∧ b < cov e b ∧ cov e b ≤ sq e := by
  obtain ⟨i, rfl⟩ := Int.eq_ofNat_of_zero_le (show 0 ≤ e by omega)
  exact pyr_f (i := i) (by omega) hb
/-- whether x lies on y -/
def isO (e x y : Int) : Int := if lf e x = lf e y + 1 ∧ (row e y - row e x = 0 ∨ row e y - row e x = 1) ∧ (pla e y - pla e x = 0 ∨ pla e y - pla e x = 1) then 1 else 0
def onL (e b : Int) : Nat → Int
  | 0 => 0
  | j + 1 => onL e b j + isO e (b + 1 + j) b
def onC (e b k : Nat) : Bool := decide (onN e ((k : Int) + 1) b = onN e k b + isO e k b)
theorem onC_1 : (List.range 7).all (fun e => (List.range (sq e).toNat).all (fun k => (List.range k).all (fun b => onC e b k))) = true := by decide +kernel
def onD (e b : Nat) : Bool := decide (onN e ((b : Int) + 1) b = 0)
theorem onD_1 : (List.range 7).all (fun e => (List.range (sq e).toNat).all (fun b => onD e b)) = true := by decide +kernel
def lbC (e n : Nat) : Bool := decide (lb e ((n : Int) + 1) = lf e n + 1)
theorem lbC_1 : (List.range 7).all (fun e => (List.range (sq e).toNat).all (fun n => lbC e n)) = true := by decide +kernel
def opC (e n : Nat) : Bool := decide (((n : Int) + 1 < sq e ∧ lf e ((n : Int) + 1) = lf e n) ↔ ¬ lb e ((n : Int) + 1) = lf e ((n : Int) + 1))
theorem opC_1 : (List.range 7).all (fun e => (List.range (sq e).toNat).all (fun n => opC e n)) = true := by decide +kernel
theorem natsq {e : Int} (he : 1 ≤ e ∧ e ≤ 6) : ∃ i : Nat, e = i ∧ i < 7 ∧ 1 ≤ i := by
  obtain ⟨i, hi⟩ := Int.eq_ofNat_of_zero_le (show 0 ≤ e by omega)
  exact ⟨i, hi, by omega, by omega⟩
theorem onN_s {e k b : Int} (he : 1 ≤ e ∧ e ≤ 6) (hb : 0 ≤ b ∧ b < k) (hk : k < sq e) : onN e (k + 1) b = onN e k b + isO e k b := by
  obtain ⟨i, rfl, h1, h2⟩ := natsq he
  obtain ⟨b, rfl⟩ := Int.eq_ofNat_of_zero_le hb.1
  obtain ⟨k, rfl⟩ := Int.eq_ofNat_of_zero_le (show 0 ≤ k by omega)
  have := List.all_eq_true.mp onC_1 i (List.mem_range.mpr h1)
  have := List.all_eq_true.mp this k (List.mem_range.mpr (by omega))
  have := List.all_eq_true.mp this b (List.mem_range.mpr (by omega))
  exact of_decide_eq_true this
theorem onN_0 {e b : Int} (he : 1 ≤ e ∧ e ≤ 6) (hb : 0 ≤ b ∧ b < sq e) : onN e (b + 1) b = 0 := by
  obtain ⟨i, rfl, h1, h2⟩ := natsq he
  obtain ⟨b, rfl⟩ := Int.eq_ofNat_of_zero_le hb.1
  have := List.all_eq_true.mp onD_1 i (List.mem_range.mpr h1)
  have := List.all_eq_true.mp this b (List.mem_range.mpr (by omega))
  exact of_decide_eq_true this
theorem lb_s {e n : Int} (he : 1 ≤ e ∧ e ≤ 6) (hn : 1 ≤ n ∧ n ≤ sq e) : lb e n = lf e (n - 1) + 1 := by
  obtain ⟨i, rfl, h1, h2⟩ := natsq he
  obtain ⟨k, hk⟩ := Int.eq_ofNat_of_zero_le (show 0 ≤ n - 1 by omega)
  have := List.all_eq_true.mp lbC_1 i (List.mem_range.mpr h1)
  have := List.all_eq_true.mp this k (List.mem_range.mpr (by omega))
  have := of_decide_eq_true this
  rw [hk, show n = (k : Int) + 1 by omega]
  exact this
theorem lb_z {e : Int} (he : 1 ≤ e ∧ e ≤ 6) : lb e 0 = 0 := e16 (P := fun e => lb e 0 = 0) (by decide) (by decide) (by decide) (by decide) (by decide) (by decide) he
theorem op_iff {e n : Int} (he : 1 ≤ e ∧ e ≤ 6) (hn : 1 ≤ n ∧ n ≤ sq e) : (n < sq e ∧ lf e n = lf e (n - 1)) ↔ ¬ lb e n = lf e n := by
  obtain ⟨i, rfl, h1, h2⟩ := natsq he
  obtain ⟨k, hk⟩ := Int.eq_ofNat_of_zero_le (show 0 ≤ n - 1 by omega)
  have := List.all_eq_true.mp opC_1 i (List.mem_range.mpr h1)
  have := List.all_eq_true.mp this k (List.mem_range.mpr (by omega))
  have := of_decide_eq_true this
  rw [hk, show n = (k : Int) + 1 by omega]
  exact this
theorem onL_N {e b n : Int} (he : 1 ≤ e ∧ e ≤ 6) (hb : 0 ≤ b ∧ b < n) (hn : n ≤ sq e) : onL e b (n - b - 1).toNat = onN e n b := by
  have key : ∀ j : Nat, b + 1 + j ≤ sq e → onL e b j = onN e (b + 1 + j) b := by
    intro j
    induction j with
    | zero => intro h; rw [onL, show b + 1 + ((0 : Nat) : Int) = b + 1 by omega, onN_0 he (by omega)]
    | succ j ih =>
      intro h
      rw [onL, ih (by omega), show b + 1 + ((j + 1 : Nat) : Int) = b + 1 + j + 1 by omega, onN_s he (by omega) (by omega)]
  rw [key _ (by omega)]
  congr 1
  omega
theorem isO_b (e x y : Int) : 0 ≤ isO e x y ∧ isO e x y ≤ 1 := by
  unfold isO
  split <;> omega
theorem onL_b (e b : Int) : ∀ j : Nat, 0 ≤ onL e b j ∧ onL e b j ≤ j
  | 0 => ⟨Int.le_refl _, Int.le_refl _⟩
  | j + 1 => by
    have ih := onL_b e b j
    have h := isO_b e (b + 1 + j) b
    rw [onL]
    omega
/-- open: the topmost layer with balls has room -/
def opV (a : St) (p : Nat) : Int := if brk a p then 1 else 0
theorem op_t {a : St} {p : Nat} (hP : PO a p) (h : 0 < bl a p ∧ bl a p < sq (sd a p) ∧ lf (sd a p) (bl a p) = lf (sd a p) (bl a p - 1)) : opV a p = 1 := by
  have h2 := (op_iff (e := sd a p) (n := bl a p) ⟨hP.1, hP.2.1⟩ ⟨by omega, hP.2.2.2⟩).mp h.2
  unfold opV brk
  rw [if_pos (decide_eq_true h2)]
theorem op_f {a : St} {p : Nat} (hP : PO a p) (h : ¬ (0 < bl a p ∧ bl a p < sq (sd a p) ∧ lf (sd a p) (bl a p) = lf (sd a p) (bl a p - 1))) : opV a p = 0 := by
  unfold opV
  rw [if_neg]
  intro hb
  have h1 := brk_b hP hb
  exact h ⟨by omega, (op_iff (e := sd a p) (n := bl a p) ⟨hP.1, hP.2.1⟩ ⟨h1, hP.2.2.2⟩).mpr (of_decide_eq_true hb)⟩
