/-! ===== SPEC: the bastion as one mathematical value; what pyramids are ===== -/
abbrev St : Type := Nat → Nat → Nat → Int32
def upR (f : St) (t i : Nat) (r : Nat → Int32) : St := fun t' i' => if t' = t ∧ i' = i then r else f t' i'
theorem upR_s {f : St} {t i : Nat} {r : Nat → Int32} : upR f t i r t i = r := by simp [upR]
theorem upR_n {f : St} {t i t' i' : Nat} {r : Nat → Int32} (h : ¬ (t' = t ∧ i' = i)) : upR f t i r t' i' = f t' i' := by simp only [upR, if_neg h]
def up3 (f : St) (t i j : Nat) (v : Int32) : St := upR f t i (upd (f t i) j v)
theorem up3_e {f : St} {t i j t' i' j' : Nat} {v : Int32} : up3 f t i j v t' i' j' = if t' = t ∧ i' = i ∧ j' = j then v else f t' i' j' := by
  by_cases h : t' = t ∧ i' = i
  · obtain ⟨rfl, rfl⟩ := h
    simp [up3, upR, upd]
  · rw [up3, upR_n h, if_neg (fun q => h ⟨q.1, q.2.1⟩)]
theorem up3_s {f : St} {t i j : Nat} {v : Int32} : up3 f t i j v t i j = v := by rw [up3_e, if_pos ⟨rfl, rfl, rfl⟩]
theorem up3_n {f : St} {t i j t' i' j' : Nat} {v : Int32} (h : ¬ (t' = t ∧ i' = i ∧ j' = j)) : up3 f t i j v t' i' j' = f t' i' j' := by rw [up3_e, if_neg h]
def upY (σ : Nat → St) (y : Nat) (a : St) : Nat → St := fun y' => if y' = y then a else σ y'
theorem upY_s {σ : Nat → St} {y : Nat} {a : St} : upY σ y a y = a := by simp [upY]
theorem upY_n {σ : Nat → St} {y y' : Nat} {a : St} (h : ¬ y' = y) : upY σ y a y' = σ y' := by simp [upY, h]
theorem upY_upY {σ : Nat → St} {y : Nat} {a b : St} : upY (upY σ y a) y b = upY σ y b := by
  funext y'
  by_cases h : y' = y <;> simp [upY, h]
theorem upY_self {σ : Nat → St} {y : Nat} : upY σ y (σ y) = σ := by
  funext y'
  by_cases h : y' = y
  · subst h; simp [upY]
  · simp [upY, h]
-- tags: 0 numbers of a yard (0 piles, 1 cats, 2 day, 3 rain, 4 limit); 1 piles (0 calibre, 1 side, 2 balls); 2 rust; 3 cats (0 leap, 1 on, 2 rolled off); 4 loose; 5 store; 6 fired; 7 thrown away
def np (a : St) : Int := (a 0 0 0).toInt
def nc (a : St) : Int := (a 0 0 1).toInt
def cal (a : St) (p : Nat) : Int := (a 1 p 0).toInt
def sd (a : St) (p : Nat) : Int := (a 1 p 1).toInt
def bl (a : St) (p : Nat) : Int := (a 1 p 2).toInt
def lp (a : St) (c : Nat) : Int := (a 3 c 0).toInt
def on (a : St) (c : Nat) : Int := (a 3 c 1).toInt
/-- squares up to n, added -/
def sq (n : Int) : Int := n * (n + 1) * (2 * n + 1) / 6
/-- where layer k starts in a pyramid with the edge e -/
def stz (e k : Int) : Int := sq e - sq (e - k)
/-- full layers among b balls, of n looked at from k on -/
def lfA (e b : Int) : Nat → Int → Int
  | 0, k => k
  | n + 1, k => if k < e ∧ stz e (k + 1) ≤ b then lfA e b n (k + 1) else k
def lf (e b : Int) : Int := lfA e b 7 0
/-- layers begun -/
def lbA (e b : Int) : Nat → Int → Int
  | 0, k => k
  | n + 1, k => if k < e ∧ stz e k < b then lbA e b n (k + 1) else k
def lb (e b : Int) : Int := lbA e b 7 0
def row (e b : Int) : Int := (b - stz e (lf e b)) / (e - lf e b)
def pla (e b : Int) : Int := (b - stz e (lf e b)) % (e - lf e b)
/-- the least number of a ball that lies on b -/
def cov (e b : Int) : Int := stz e (lf e b + 1) + max (row e b - 1) 0 * (e - lf e b - 1) + max (pla e b - 1) 0
/-- is there a ball at this row and place of this layer, among n -/
def isAt (e n k r q : Int) : Bool := decide (0 ≤ r) && decide (r < e - k) && decide (0 ≤ q) && decide (q < e - k) && decide (stz e k + (e - k) * r + q < n)
/-- how many of n balls lie on b -/
def onN (e n b : Int) : Int := (if isAt e n (lf e b + 1) (row e b) (pla e b) then 1 else 0) + (if isAt e n (lf e b + 1) (row e b) (pla e b - 1) then 1 else 0) + (if isAt e n (lf e b + 1) (row e b - 1) (pla e b) then 1 else 0) + (if isAt e n (lf e b + 1) (row e b - 1) (pla e b - 1) then 1 else 0)
theorem e16 {P : Int → Prop} (h1 : P 1) (h2 : P 2) (h3 : P 3) (h4 : P 4) (h5 : P 5) (h6 : P 6) {e : Int} (h : 1 ≤ e ∧ e ≤ 6) : P e := by
  rcases (show e = 1 ∨ e = 2 ∨ e = 3 ∨ e = 4 ∨ e = 5 ∨ e = 6 by omega) with rfl | rfl | rfl | rfl | rfl | rfl <;> assumption
theorem sq_le {e : Int} (h : 1 ≤ e ∧ e ≤ 6) : 1 ≤ sq e ∧ sq e ≤ 91 := e16 (P := fun e => 1 ≤ sq e ∧ sq e ≤ 91) (by decide) (by decide) (by decide) (by decide) (by decide) (by decide) h
