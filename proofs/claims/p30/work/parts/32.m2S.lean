/-! ===== MODEL: where balls lie, sums, the same numbers two ways ===== -/
def lieV (e b w : Int) : Int := if w = 0 then lf e b else if w = 1 then row e b else pla e b
theorem isAt_iff {e n k r q : Int} : isAt e n k r q = true ↔ 0 ≤ r ∧ r < e - k ∧ 0 ≤ q ∧ q < e - k ∧ stz e k + (e - k) * r + q < n := by
  unfold isAt
  simp only [Bool.and_eq_true, decide_eq_true_eq]
  omega
def bAtV (e n k r q : Int) : Int := if isAt e n k r q then stz e k + (e - k) * r + q else -1
theorem bAt_t {e n k r q : Int} (h : 0 ≤ r ∧ r < e - k ∧ 0 ≤ q ∧ q < e - k ∧ stz e k + (e - k) * r + q < n) : bAtV e n k r q = stz e k + (e - k) * r + q := if_pos (isAt_iff.mpr h)
theorem bAt_f {e n k r q : Int} (h : ¬ (0 ≤ r ∧ r < e - k ∧ 0 ≤ q ∧ q < e - k ∧ stz e k + (e - k) * r + q < n)) : bAtV e n k r q = -1 := if_neg (fun z => h (isAt_iff.mp z))
theorem bAt_ne {e n k r q : Int} (hs : 0 ≤ stz e k) : (¬ bAtV e n k r q = -1 → isAt e n k r q = true) ∧ (bAtV e n k r q = -1 → isAt e n k r q = false) := by
  cases h : isAt e n k r q with
  | true =>
    have h2 := isAt_iff.mp h
    have hm := Int.mul_nonneg (show 0 ≤ e - k by omega) h2.1
    rw [bAt_t h2]
    exact ⟨fun _ => rfl, fun z => absurd z (by omega)⟩
  | false => exact ⟨fun z => absurd (if_neg (by rw [h]; decide)) z, fun _ => rfl⟩
def onP (e n k r q : Int) : Nat → Int
  | 0 => 0
  | j + 1 => onP e n k r q j + (if isAt e n k (r - (j : Int) / 2) (q - (j : Int) % 2) then 1 else 0)
theorem onP_4 (e n k r q : Int) : onP e n k r q 4 = onK e n k r q := by
  show 0 + (if isAt e n k (r - (0 : Int) / 2) (q - (0 : Int) % 2) then 1 else 0) + (if isAt e n k (r - (1 : Int) / 2) (q - (1 : Int) % 2) then 1 else 0) + (if isAt e n k (r - (2 : Int) / 2) (q - (2 : Int) % 2) then 1 else 0) + (if isAt e n k (r - (3 : Int) / 2) (q - (3 : Int) % 2) then 1 else 0) = onK e n k r q
  rw [show r - (0 : Int) / 2 = r by omega, show q - (0 : Int) % 2 = q by omega, show r - (1 : Int) / 2 = r by omega, show q - (1 : Int) % 2 = q - 1 by omega, show r - (2 : Int) / 2 = r - 1 by omega, show q - (2 : Int) % 2 = q by omega, show r - (3 : Int) / 2 = r - 1 by omega, show q - (3 : Int) % 2 = q - 1 by omega]
  unfold onK
  omega
theorem onP_b (e n k r q : Int) : ∀ j : Nat, 0 ≤ onP e n k r q j ∧ onP e n k r q j ≤ j
  | 0 => ⟨Int.le_refl _, Int.le_refl _⟩
  | j + 1 => by
    have ih := onP_b e n k r q j
    unfold onP
    split <;> omega
theorem onN_b (e n b : Int) : 0 ≤ onN e n b ∧ onN e n b ≤ 4 := by
  rw [onN_K, ← onP_4]
  exact onP_b _ _ _ _ _ 4
/-- covered just if a ball lies on it -/
def cvC (e k r q n : Nat) : Bool := (decide (0 < onK e n (k + 1) r q)) == (decide (stz e (k + 1) + max ((r : Int) - 1) 0 * ((e : Int) - k - 1) + max ((q : Int) - 1) 0 < n))
/-- n balls, no more than the pyramid's room -/
theorem cvC_1 : (List.range 7).all (fun e => (List.range e).all (fun k => (List.range (e - k)).all (fun r => (List.range (e - k)).all (fun q => (List.range 92).all (fun n => (decide ((n : Int) ≤ sq e)) == false || cvC e k r q n))))) = true := by decide +kernel
theorem cv_on {a : St} {p : Nat} (hP : PO a p) {k : Int} (hk : 0 ≤ k ∧ k < bl a p) : (0 < onN (sd a p) (bl a p) k ↔ cv a p k = true) := by
  obtain ⟨h1, h2, h3, h4⟩ := hP
  have hsq := sq_le (e := sd a p) ⟨h1, h2⟩
  obtain ⟨e, he⟩ := Int.eq_ofNat_of_zero_le (show 0 ≤ sd a p by omega)
  obtain ⟨n, hn⟩ := Int.eq_ofNat_of_zero_le h3
  have hf := pyr_f (i := e) (b := k) (by omega) (by rw [← he]; omega)
  obtain ⟨l, hl⟩ := Int.eq_ofNat_of_zero_le hf.1
  obtain ⟨r, hr⟩ := Int.eq_ofNat_of_zero_le hf.2.2.2.2.1
  obtain ⟨q, hq⟩ := Int.eq_ofNat_of_zero_le hf.2.2.2.2.2.2.1
  have t := List.all_eq_true.mp cvC_1 e (List.mem_range.mpr (by omega))
  have t := List.all_eq_true.mp t l (List.mem_range.mpr (by omega))
  have t := List.all_eq_true.mp t r (List.mem_range.mpr (by omega))
  have t := List.all_eq_true.mp t q (List.mem_range.mpr (by omega))
  have t := List.all_eq_true.mp t n (List.mem_range.mpr (by omega))
  have hle : decide ((n : Int) ≤ sq e) = true := decide_eq_true (by rw [← he]; omega)
  rw [hle] at t
  simp only [Bool.true_beq, Bool.false_or] at t
  have t2 : decide (0 < onK e n (l + 1) r q) = decide (stz e (l + 1) + max ((r : Int) - 1) 0 * ((e : Int) - l - 1) + max ((q : Int) - 1) 0 < n) := eq_of_beq t
  have e1 : onN (sd a p) (bl a p) k = onK e n (l + 1) r q := by rw [onN_K, he, hn, hl, hr, hq]
  have e2 : cov (sd a p) k = stz e (l + 1) + max ((r : Int) - 1) 0 * ((e : Int) - l - 1) + max ((q : Int) - 1) 0 := by unfold cov; rw [he, hl, hr, hq]
  unfold cv
  rw [e1, e2, hn]
  exact (decide_eq_decide.mp t2).trans decide_eq_true_iff.symm
theorem cv_on0 {a : St} {p : Nat} (hP : PO a p) {k : Int} (hk : 0 ≤ k ∧ k < bl a p) : (onN (sd a p) (bl a p) k = 0 ↔ cv a p k = false) := by
  have h := cv_on hP hk
  have hb := onN_b (sd a p) (bl a p) k
  constructor
  · intro z
    exact Bool.eq_false_iff.mpr (fun q => by have := h.mpr q; omega)
  · intro z
    rcases (show onN (sd a p) (bl a p) k = 0 ∨ 0 < onN (sd a p) (bl a p) k by omega) with q | q
    · exact q
    · rw [h.mp q] at z; cases z
def allV (a : St) (w : Int) : Int32 := sum5 (fun c => toV a c w) 5
theorem sum5_cong {f g : Nat → Int32} : ∀ n : Nat, (∀ c : Nat, c < n → f c = g c) → sum5 f n = sum5 g n
  | 0, _ => rfl
  | n + 1, h => by rw [sum5, sum5, sum5_cong n (fun c hc => h c (by omega)), h n (by omega)]
theorem sum5_ofCal {a : St} (h : ∀ p : Nat, (p : Int) < np a → 0 ≤ cal a p ∧ cal a p ≤ 4) : ∀ n : Nat, (n : Int) ≤ np a → sum5 (fun c => zI (ofCal a c n)) 5 = zI (blAll a n)
  | 0, _ => by show sum5 (fun _ => zI 0) 5 = zI 0; decide
  | n + 1, hn => by
    have ih := sum5_ofCal h n (by omega)
    have hc := h n (by omega)
    have e : ∀ c : Nat, zI (ofCal a c (n + 1)) = zI (ofCal a c n) + (if cal a n = (c : Int) then zI (bl a n) else zI 0) := by
      intro c
      rw [ofCal]
      split
      · rw [zI_add]
      · rw [zI_add]; congr 1; omega
    show sum5 (fun c : Nat => zI (ofCal a c (n + 1))) 5 = zI (blAll a n + bl a n)
    rw [← zI_add, ← ih]
    simp only [sum5, e]
    rcases (show cal a n = 0 ∨ cal a n = 1 ∨ cal a n = 2 ∨ cal a n = 3 ∨ cal a n = 4 by omega) with q | q | q | q | q <;> rw [q] <;> simp [zI_0] <;> ac_rfl
theorem onP_t {e n k r q : Int} {j : Nat} (h : isAt e n k (r - (j : Int) / 2) (q - (j : Int) % 2) = true) : onP e n k r q (j + 1) = onP e n k r q j + 1 := by rw [onP, if_pos h]
theorem onP_f {e n k r q : Int} {j : Nat} (h : isAt e n k (r - (j : Int) / 2) (q - (j : Int) % 2) = false) : onP e n k r q (j + 1) = onP e n k r q j := by rw [onP, if_neg (by rw [h]; decide)]; omega
theorem bAt_b {e n k r q : Int} (hs : 0 ≤ stz e k) : -1 ≤ bAtV e n k r q ∧ (bAtV e n k r q < n ∨ bAtV e n k r q = -1) := by
  by_cases h : 0 ≤ r ∧ r < e - k ∧ 0 ≤ q ∧ q < e - k ∧ stz e k + (e - k) * r + q < n
  · have hm := Int.mul_nonneg (show 0 ≤ e - k by omega) h.1
    rw [bAt_t h]; omega
  · rw [bAt_f h]; omega
theorem mnI_c (x y : Int32) : mnI x y = mnI y x := by
  unfold mnI
  by_cases h : y < x
  · rw [if_pos h, if_neg (fun q => Int32.lt_irrefl (Int32.lt_trans h q))]
  · by_cases h2 : x < y
    · rw [if_neg h, if_pos h2]
    · rw [if_neg h, if_neg h2]; exact Int32.le_antisymm (Int32.not_lt.mp h) (Int32.not_lt.mp h2)
theorem ra_tM {a : St} {p n : Nat} {rain : Int32} (h : cv (raS a p rain n) p n = true) : raS a p rain (n + 1) = up3 (raS a p rain n) 2 p n (mnI (zI 9) ((raS a p rain n) 2 p n + rain / zI 2)) := (ra_t h).trans (by rw [mnI_c])
theorem ra_fM {a : St} {p n : Nat} {rain : Int32} (h : cv (raS a p rain n) p n = false) : raS a p rain (n + 1) = up3 (raS a p rain n) 2 p n (mnI (zI 9) ((raS a p rain n) 2 p n + (zI 1 + rain))) := (ra_f h).trans (by rw [mnI_c])
theorem sc_fM {a : St} {p n : Nat} (h : cv (scL a p n).1 p n = false) : scL a p (n + 1) = (up3 (scL a p n).1 2 p n ((scL a p n).1 2 p n - mnI (zI 3) ((scL a p n).1 2 p n)), (scL a p n).2 + mnI (zI 3) ((scL a p n).1 2 p n)) := (sc_f h).trans (by rw [mnI_c])
/-- what days leave alone -/
theorem ljS_o {a : St} {c t i j : Nat} (h : (t = 0 ∧ j ≠ 2) ∨ (t = 1 ∧ j ≠ 2) ∨ (t = 3 ∧ j = 0)) : ljS a c t i j = a t i j := by
  have h1 : jmpS a c t i j = a t i j := up3_n (by omega)
  unfold ljS
  split
  · rw [offS, up3_n (by omega), up3_n (by omega), topS, up3_n (by omega)]; exact h1
  · exact h1
theorem jumpAll_o {a : St} {t i j : Nat} (h : (t = 0 ∧ j ≠ 2) ∨ (t = 1 ∧ j ≠ 2) ∨ (t = 3 ∧ j = 0)) : ∀ n : Nat, (jumpAll a n).1 t i j = a t i j
  | 0 => rfl
  | n + 1 => by
    show ljS (jumpAll a n).1 n t i j = _
    rw [ljS_o h]; exact jumpAll_o h n
theorem dayS_o {a : St} {t i j : Nat} (h : (t = 0 ∧ j ≠ 2) ∨ (t = 1 ∧ j ≠ 2) ∨ (t = 3 ∧ j = 0)) : dayS a t i j = a t i j := by
  have h1 : raAll a (np a).toNat t i j = a t i j := raAll_e a _ t i j (by omega)
  rw [dayS, up3_n (by omega), catsS]
  split
  · rw [jumpAll_o h]; exact h1
  · exact h1
theorem passL_o {a : St} {t i j : Nat} (h : (t = 0 ∧ j ≠ 2) ∨ (t = 1 ∧ j ≠ 2) ∨ (t = 3 ∧ j = 0)) : ∀ n : Nat, (passL a n).1 t i j = a t i j
  | 0 => rfl
  | n + 1 => by
    show dayS (passL a n).1 t i j = _
    rw [dayS_o h]; exact passL_o h n
