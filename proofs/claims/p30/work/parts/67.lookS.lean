/-! ===== LOOKS: what the law looks at ===== -/
def tvI (a : St) (c w : Nat) : Int := (toV a (c : Int) (w : Int)).toInt
def paT (a : St) (c : Nat) : Nat → Int
  | 0 => 0
  | w + 1 => paT a c w + tvI a c w
theorem pa_s (a : St) (c w : Nat) : zI (paT a c w) + toV a (c : Int) (w : Int) = zI (paT a c (w + 1)) := by rw [paT, ← zI_add, tvI, zI_self]
theorem pa_tot {a : St} (h : Inv a) (c : Nat) : paT a c 5 = tot a c := by
  have hb := ofC_b h c (np a).toNat (by have := h.1; omega)
  have h6 := h.1
  have e2 : tvI a c 2 = ofCal a c (np a).toNat := zI_toInt (by omega)
  show 0 + tvI a c 0 + tvI a c 1 + tvI a c 2 + tvI a c 3 + tvI a c 4 = _
  rw [e2, show tvI a c 0 = sto a c from rfl, show tvI a c 1 = loo a c from rfl, show tvI a c 3 = fir a c from rfl, show tvI a c 4 = gon a c from rfl]
  unfold tot
  omega
def alG (a : St) (k : Nat) : Nat → Int32 := fun j => if j < k then zI (tot a j) else 0
theorem alG_00 (a : St) : (fun _ : Nat => (0 : Int32)) = alG a 0 := by
  funext j
  exact (if_neg (by omega)).symm
theorem alG_0 (a : St) (c : Nat) : alG a c = upd (alG a c) c (zI (paT a c 0)) := by
  funext j
  unfold upd
  by_cases h : j = c
  · rw [if_pos h, h]
    exact (if_neg (by omega)).trans zI_0.symm
  · rw [if_neg h]
theorem alG_s (a : St) (c w : Nat) : upd (upd (alG a c) c (zI (paT a c w))) c (zI (paT a c w) + toV a (c : Int) (w : Int)) = upd (alG a c) c (zI (paT a c (w + 1))) := by
  rw [pa_s]
  funext j
  unfold upd
  split <;> rfl
theorem alG_e {a : St} (h : Inv a) (c : Nat) : upd (alG a c) c (zI (paT a c 5)) = alG a (c + 1) := by
  rw [pa_tot h]
  funext j
  unfold upd alG
  by_cases hj : j = c
  · rw [if_pos hj, if_pos (by omega), hj]
  · rw [if_neg hj]
    by_cases h2 : j < c
    · rw [if_pos h2, if_pos (by omega)]
    · rw [if_neg h2, if_neg (by omega)]
theorem upd_at (f : Nat → Int32) (c : Nat) (x : Int32) : upd f c x c = x := if_pos rfl
theorem alG_v {a : St} {c : Nat} (h : c < 5) : alG a 5 c = zI (tot a c) := if_pos h
def suT (a : St) (j c : Nat) : Int32 := sum5 (fun c : Nat => toV a (c : Int) (j : Int)) c
def suG (a : St) (c w : Nat) : Nat → Int32 := fun j => if j < w then suT a j (c + 1) else if j < 5 then suT a j c else 0
theorem suG_00 (a : St) : (fun _ : Nat => (0 : Int32)) = suG a 0 0 := by
  funext j
  unfold suG
  rw [if_neg (by omega)]
  split
  · exact zI_0.symm
  · rfl
theorem suG_s {a : St} {c w : Nat} (hw : w < 5) : upd (suG a c w) w (suT a w c + toV a (c : Int) (w : Int)) = suG a c (w + 1) := by
  funext j
  unfold upd suG
  by_cases h : j = w
  · rw [if_pos h, if_pos (by omega), h]; rfl
  · rw [if_neg h]
    by_cases h2 : j < w
    · rw [if_pos h2, if_pos (by omega)]
    · rw [if_neg h2, if_neg (show ¬ j < w + 1 by omega)]
theorem suG_e (a : St) (c : Nat) : suG a c 5 = suG a (c + 1) 0 := by
  funext j
  unfold suG
  by_cases h : j < 5
  · rw [if_pos h, if_neg (by omega), if_pos h]
  · rw [if_neg h, if_neg h, if_neg (by omega), if_neg h]
theorem suG_w {a : St} {c w : Nat} (hw : w < 5) : suG a c w w = suT a w c := by
  unfold suG
  rw [if_neg (by omega), if_pos hw]
theorem suG_v {a : St} {w : Nat} (hw : w < 5) : suG a 5 0 w = suT a w 5 := by
  unfold suG
  rw [if_neg (by omega), if_pos hw]
theorem su_2 {a : St} (h : Inv a) : suT a 2 5 = coV a 5 := sum5_ofCal (fun p hp => (h.2.1 p hp).2) (np a).toNat (by have := h.1; omega)
def piG (a : St) (p : Nat) : Nat → Int32 := fun c => zI (ofCal a (c : Int) p)
theorem piG_0 (a : St) : (fun _ : Nat => (0 : Int32)) = piG a 0 := by
  funext c
  exact zI_0.symm
theorem piG_s {a : St} {p : Nat} (h : 0 ≤ cal a p) : upd (piG a p) (cal a p).toNat (zI (ofCal a (cal a p) p + bl a p)) = piG a (p + 1) := by
  funext c
  unfold upd piG
  by_cases hc : c = (cal a p).toNat
  · rw [if_pos hc, ofCal, if_pos (by omega), show (c : Int) = cal a p by omega]
  · rw [if_neg hc, ofCal, if_neg (by omega)]
theorem piG_v {a : St} {p : Nat} (h : 0 ≤ cal a p) : piG a p (cal a p).toNat = zI (ofCal a (cal a p) p) := by
  unfold piG
  rw [Int.toNat_of_nonneg h]
def lieS (e n : Int) : Nat → Int
  | 0 => 0
  | k + 1 => lieS e n k + onN e n k
def aboS (e : Int) : Nat → Int
  | 0 => 0
  | k + 1 => aboS e k + (if 0 < lf e k then 1 else 0)
theorem lie_b (e n : Int) : ∀ k : Nat, 0 ≤ lieS e n k ∧ lieS e n k ≤ 4 * k
  | 0 => ⟨Int.le_refl _, Int.le_refl _⟩
  | k + 1 => by
    have ih := lie_b e n k
    have h := onN_b e n k
    rw [lieS]
    omega
theorem abo_b (e : Int) : ∀ k : Nat, 0 ≤ aboS e k ∧ aboS e k ≤ k
  | 0 => ⟨Int.le_refl _, Int.le_refl _⟩
  | k + 1 => by
    have ih := abo_b e k
    rw [aboS]
    split <;> omega
def lieC (e n : Nat) : Bool := decide (lieS e n n = 4 * aboS e n)
theorem lieC_1 : (List.range 7).all (fun e => (List.range ((sq e).toNat + 1)).all (fun n => lieC e n)) = true := by decide +kernel
theorem lie_abo {e n : Int} (he : 1 ≤ e ∧ e ≤ 6) (hn : 0 ≤ n ∧ n ≤ sq e) : lieS e n n.toNat = 4 * aboS e n.toNat := by
  obtain ⟨i, rfl, h1, h2⟩ := natsq he
  obtain ⟨k, rfl⟩ := Int.eq_ofNat_of_zero_le hn.1
  have := List.all_eq_true.mp lieC_1 i (List.mem_range.mpr h1)
  have := List.all_eq_true.mp this k (List.mem_range.mpr (by omega))
  exact of_decide_eq_true this
def lflC (e n k : Nat) : Bool := decide (lf e k < lb e n)
theorem lflC_1 : (List.range 7).all (fun e => (List.range ((sq e).toNat + 1)).all (fun n => (List.range n).all (fun k => lflC e n k))) = true := by decide +kernel
theorem lf_lb {e n k : Int} (he : 1 ≤ e ∧ e ≤ 6) (hn : n ≤ sq e) (hk : 0 ≤ k ∧ k < n) : lf e k < lb e n := by
  obtain ⟨i, rfl, h1, h2⟩ := natsq he
  obtain ⟨n, rfl⟩ := Int.eq_ofNat_of_zero_le (show 0 ≤ n by omega)
  obtain ⟨k, rfl⟩ := Int.eq_ofNat_of_zero_le hk.1
  have := List.all_eq_true.mp lflC_1 i (List.mem_range.mpr h1)
  have := List.all_eq_true.mp this n (List.mem_range.mpr (by omega))
  have := List.all_eq_true.mp this k (List.mem_range.mpr (by omega))
  exact of_decide_eq_true this
def lowV (e k i : Int) : Int := stz e (lf e k - 1) + (row e k + i / 2) * (e - (lf e k - 1)) + (pla e k + i % 2)
def lowC (e k i : Nat) : Bool := decide (lf e k ≤ 0) || (decide (0 ≤ lowV e k i) && decide (lowV e k i < k))
theorem lowC_1 : (List.range 7).all (fun e => (List.range (sq e).toNat).all (fun k => (List.range 4).all (fun i => lowC e k i))) = true := by decide +kernel
theorem low_b {e k i : Int} (he : 1 ≤ e ∧ e ≤ 6) (hk : 0 ≤ k ∧ k < sq e) (hi : 0 ≤ i ∧ i < 4) (hl : 0 < lf e k) : 0 ≤ lowV e k i ∧ lowV e k i < k := by
  obtain ⟨x, rfl, h1, h2⟩ := natsq he
  obtain ⟨k, rfl⟩ := Int.eq_ofNat_of_zero_le hk.1
  obtain ⟨i, rfl⟩ := Int.eq_ofNat_of_zero_le hi.1
  have := List.all_eq_true.mp lowC_1 x (List.mem_range.mpr h1)
  have := List.all_eq_true.mp this k (List.mem_range.mpr (by omega))
  have := List.all_eq_true.mp this i (List.mem_range.mpr (by omega))
  simp only [lowC, Bool.or_eq_true, Bool.and_eq_true, decide_eq_true_eq] at this
  omega
theorem at_low {a : St} {p : Nat} {k i : Int} (hk : k < bl a p) (h : lowV (sd a p) k i < k) : atV a p (lf (sd a p) k - 1) (row (sd a p) k + i / 2) (pla (sd a p) k + i % 2) = lowV (sd a p) k i := by
  unfold atV
  have e : stz (sd a p) (lf (sd a p) k - 1) + (row (sd a p) k + i / 2) * (sd a p - (lf (sd a p) k - 1)) + (pla (sd a p) k + i % 2) = lowV (sd a p) k i := rfl
  rw [e, if_pos (by omega)]
theorem top_cv {a : St} {p : Nat} (hP : PO a p) (h : 1 ≤ bl a p) : cv a p (bl a p - 1) = false := by
  have h2 := (pyF ⟨hP.1, hP.2.1⟩ (b := bl a p - 1) (by have := hP.2.2.2; omega)).2.2.2.2.2.2.2.2.1
  exact cv_f (by omega)
