/-! ===== PILES: what their methods do, as functions of the value ===== -/
theorem ite1 {C : Prop} [Decidable C] (h : ¬ (if C then (1 : Int) else 0) = 0) : C := by
  by_cases hc : C
  · exact hc
  · rw [if_neg hc] at h; exact absurd rfl h
theorem ite0 {C : Prop} [Decidable C] (h : (if C then (1 : Int) else 0) = 0) : ¬ C := by
  intro hc
  rw [if_pos hc] at h
  exact absurd h (by decide)
def mnI (x y : Int32) : Int32 := if y < x then y else x
def mxI (x y : Int32) : Int32 := if x < y then y else x
/-- a pile as it may be -/
def PO (a : St) (p : Nat) : Prop := 1 ≤ sd a p ∧ sd a p ≤ 6 ∧ 0 ≤ bl a p ∧ bl a p ≤ sq (sd a p)
theorem pyN_c {a : St} {p : Nat} (h : 1 ≤ sd a p ∧ sd a p ≤ 6) : 1 ≤ pyN (a 1 p) ∧ pyN (a 1 p) < 7 ∧ (pyN (a 1 p) : Int) = sd a p := by
  have h1 : pyN (a 1 p) = (max 1 (sd a p)).toNat := rfl
  omega
/-- nothing but rust is other -/
def eqR (a b : St) : Prop := ∀ t i j : Nat, t ≠ 2 → b t i j = a t i j
theorem eqR.refl (a : St) : eqR a a := fun _ _ _ _ => rfl
theorem eqR.up {a b : St} (h : eqR a b) {i j : Nat} {v : Int32} : eqR a (up3 b 2 i j v) := fun t i' j' ht => by rw [up3_n (fun q => ht q.1)]; exact h t i' j' ht
theorem eqR.bl {a b : St} (h : eqR a b) {p : Nat} : bl b p = bl a p := congrArg Int32.toInt (h 1 p 2 (by decide))
theorem eqR.sd {a b : St} (h : eqR a b) {p : Nat} : sd b p = sd a p := congrArg Int32.toInt (h 1 p 1 (by decide))
theorem eqR.po {a b : St} (h : eqR a b) {p : Nat} (hp : PO a p) : PO b p := by
  unfold PO at hp ⊢
  rw [h.bl, h.sd]
  exact hp
def cv (a : St) (p : Nat) (k : Int) : Bool := decide (cov (sd a p) k < bl a p)
theorem cv_t {a : St} {p : Nat} {k : Int} (h : cov (sd a p) k < bl a p) : cv a p k = true := decide_eq_true h
theorem cv_f {a : St} {p : Nat} {k : Int} (h : ¬ cov (sd a p) k < bl a p) : cv a p k = false := decide_eq_false h
theorem eqR.cvE {a b : St} (h : eqR a b) {p : Nat} {k : Int} : cv b p k = cv a p k := by
  unfold cv
  rw [h.bl, h.sd]
def putS (a : St) (p : Nat) (v : Int32) : St := up3 (up3 a 2 p (bl a p).toNat v) 1 p 2 (zI (bl a p + 1))
def topV (a : St) (p : Nat) : Int32 := a 2 p (bl a p - 1).toNat
def topS (a : St) (p : Nat) : St := up3 a 1 p 2 (zI (bl a p - 1))
def rustyN (a : St) (p : Nat) (lim : Int32) : Nat → Int
  | 0 => 0
  | n + 1 => if a 2 p n < lim then rustyN a p lim n else rustyN a p lim n + 1
def bareN (a : St) (p : Nat) : Nat → Int
  | 0 => 0
  | n + 1 => if cv a p n then bareN a p n else bareN a p n + 1
def greatN (a : St) (p : Nat) : Nat → Int32
  | 0 => zI 0
  | n + 1 => mxI (greatN a p n) (a 2 p n)
def sumN (a : St) (p : Nat) : Nat → Int32
  | 0 => zI 0
  | n + 1 => sumN a p n + a 2 p n
def scL (a : St) (p : Nat) : Nat → St × Int32
  | 0 => (a, zI 0)
  | n + 1 => if cv (scL a p n).1 p n then scL a p n else (up3 (scL a p n).1 2 p n ((scL a p n).1 2 p n - mnI ((scL a p n).1 2 p n) (zI 3)), (scL a p n).2 + mnI ((scL a p n).1 2 p n) (zI 3))
def taL (a : St) (p : Nat) (lim : Int32) : Nat → St × Nat
  | 0 => (a, 0)
  | n + 1 => if (taL a p lim n).1 2 p n < lim then (up3 (taL a p lim n).1 2 p (taL a p lim n).2 ((taL a p lim n).1 2 p n), (taL a p lim n).2 + 1) else taL a p lim n
def raS (a : St) (p : Nat) (rain : Int32) : Nat → St
  | 0 => a
  | n + 1 => up3 (raS a p rain n) 2 p n (mnI ((raS a p rain n) 2 p n + (if cv (raS a p rain n) p n then rain / zI 2 else zI 1 + rain)) (zI 9))
theorem rusty_t {a : St} {p n : Nat} {lim : Int32} (h : a 2 p n < lim) : rustyN a p lim (n + 1) = rustyN a p lim n := if_pos h
theorem rusty_f {a : St} {p n : Nat} {lim : Int32} (h : ¬ a 2 p n < lim) : rustyN a p lim (n + 1) = rustyN a p lim n + 1 := if_neg h
theorem rusty_b (a : St) (p : Nat) (lim : Int32) : ∀ n : Nat, 0 ≤ rustyN a p lim n ∧ rustyN a p lim n ≤ n
  | 0 => ⟨Int.le_refl _, Int.le_refl _⟩
  | n + 1 => by
    have ih := rusty_b a p lim n
    by_cases h : a 2 p n < lim
    · rw [rusty_t h]; omega
    · rw [rusty_f h]; omega
theorem bare_t {a : St} {p n : Nat} (h : cv a p n = true) : bareN a p (n + 1) = bareN a p n := if_pos h
theorem bare_f {a : St} {p n : Nat} (h : cv a p n = false) : bareN a p (n + 1) = bareN a p n + 1 := if_neg (by rw [h]; decide)
theorem sc_t {a : St} {p n : Nat} (h : cv (scL a p n).1 p n = true) : scL a p (n + 1) = scL a p n := if_pos h
theorem sc_f {a : St} {p n : Nat} (h : cv (scL a p n).1 p n = false) : scL a p (n + 1) = (up3 (scL a p n).1 2 p n ((scL a p n).1 2 p n - mnI ((scL a p n).1 2 p n) (zI 3)), (scL a p n).2 + mnI ((scL a p n).1 2 p n) (zI 3)) := if_neg (by rw [h]; decide)
theorem sc_e (a : St) (p : Nat) : ∀ n : Nat, eqR a (scL a p n).1
  | 0 => eqR.refl a
  | n + 1 => by
    cases h : cv (scL a p n).1 p n with
    | true => rw [sc_t h]; exact sc_e a p n
    | false => rw [sc_f h]; exact (sc_e a p n).up
theorem ta_t {a : St} {p n : Nat} {lim : Int32} (h : (taL a p lim n).1 2 p n < lim) : taL a p lim (n + 1) = (up3 (taL a p lim n).1 2 p (taL a p lim n).2 ((taL a p lim n).1 2 p n), (taL a p lim n).2 + 1) := if_pos h
theorem ta_f {a : St} {p n : Nat} {lim : Int32} (h : ¬ (taL a p lim n).1 2 p n < lim) : taL a p lim (n + 1) = taL a p lim n := if_neg h
theorem ta_e (a : St) (p : Nat) (lim : Int32) : ∀ n : Nat, eqR a (taL a p lim n).1 ∧ (taL a p lim n).2 ≤ n
  | 0 => ⟨eqR.refl a, Nat.le_refl _⟩
  | n + 1 => by
    have ih := ta_e a p lim n
    by_cases h : (taL a p lim n).1 2 p n < lim
    · rw [ta_t h]; exact ⟨ih.1.up, Nat.succ_le_succ ih.2⟩
    · rw [ta_f h]; exact ⟨ih.1, Nat.le_succ_of_le ih.2⟩
theorem ra_t {a : St} {p n : Nat} {rain : Int32} (h : cv (raS a p rain n) p n = true) : raS a p rain (n + 1) = up3 (raS a p rain n) 2 p n (mnI ((raS a p rain n) 2 p n + rain / zI 2) (zI 9)) := by
  rw [raS, if_pos h]
theorem ra_f {a : St} {p n : Nat} {rain : Int32} (h : cv (raS a p rain n) p n = false) : raS a p rain (n + 1) = up3 (raS a p rain n) 2 p n (mnI ((raS a p rain n) 2 p n + (zI 1 + rain)) (zI 9)) := by
  rw [raS, if_neg (by rw [h]; decide)]
theorem ra_e (a : St) (p : Nat) (rain : Int32) : ∀ n : Nat, eqR a (raS a p rain n)
  | 0 => eqR.refl a
  | n + 1 => by rw [raS]; exact (ra_e a p rain n).up
/-- the pile after an inspection; how many balls are thrown away -/
def insS (a : St) (p : Nat) (lim : Int32) : St := up3 (taL a p lim (bl a p).toNat).1 1 p 2 (zI (taL a p lim (bl a p).toNat).2)
def insV (a : St) (p : Nat) (lim : Int32) : Int := bl a p - (taL a p lim (bl a p).toNat).2
/-- a broken layer -/
def brk (a : St) (p : Nat) : Bool := decide (¬ lb (sd a p) (bl a p) = lf (sd a p) (bl a p))
