/-! ===== MAIN: what the calls do, as functions of the value; by which number each is refused ===== -/
abbrev R31 (z : Int) : Prop := -2147483648 ≤ z ∧ z < 2147483648
/-- thrown by the name that stands at place k - 1 -/
def exn (L : List String) (E : String) (k : Int) : Prop := ∃ j : Nat, k = (j : Int) + 1 ∧ L[j]? = some E
abbrev iP (a : St) (p : Int) : Prop := 0 ≤ p ∧ p < np a
abbrev iC (a : St) (c : Int) : Prop := 0 ≤ c ∧ c < nc a
def ePile (a : St) (c s : Int) : Int := if ¬ (0 ≤ c ∧ c ≤ 4) then 1 else if ¬ (1 ≤ s ∧ s ≤ 6) then 2 else if ¬ np a < 6 then 3 else 0
def newP (a : St) (c s : Int) : St := up3 (up3 (up3 (up3 a 1 (np a).toNat 0 (zI c)) 1 (np a).toNat 1 (zI s)) 1 (np a).toNat 2 (zI 0)) 0 0 0 (zI (np a + 1))
def eCat (a : St) (k : Int) : Int := if ¬ (1 ≤ k ∧ k ≤ 5) then 1 else if ¬ nc a < 3 then 2 else 0
def newC (a : St) (k : Int) : St := up3 (up3 a 3 (nc a).toNat 0 (zI k)) 0 0 1 (zI (nc a + 1))
def eGive (c m : Int) : Int := if ¬ (0 ≤ c ∧ c ≤ 4) then 1 else if ¬ (1 ≤ m ∧ m ≤ 99) then 2 else 0
def givS (a : St) (c m : Int) : St := up3 a 5 0 c.toNat (a 5 0 c.toNat + zI m)
def eIn (lo hi v : Int) : Int := if ¬ (lo ≤ v ∧ v ≤ hi) then 1 else 0
def eP (a : St) (p : Int) : Int := if ¬ iP a p then 1 else 0
def eC (a : St) (c : Int) : Int := if ¬ iC a c then 1 else 0
def eStack (a : St) (p m : Int) : Int := if ¬ iP a p then 1 else if ¬ (1 ≤ m ∧ m ≤ 91) then 2 else if a 5 0 (cal a p.toNat).toNat < zI m ∨ sq (sd a p.toNat) - bl a p.toNat < m then 3 else 0
/-- m balls without rust -/
def putN (a : St) (p : Nat) : Nat → St
  | 0 => a
  | n + 1 => putS (putN a p n) p (zI 0)
def stkS (a : St) (p : Nat) (m : Int) : St := up3 (putN a p m.toNat) 5 0 (cal a p).toNat (a 5 0 (cal a p).toNat - zI m)
def eFire (a : St) (p m : Int) : Int := if ¬ iP a p then 1 else if ¬ (1 ≤ m ∧ m ≤ 91) then 2 else if bl a p.toNat < m then 3 else 0
def firL (a : St) (p : Nat) : Nat → St × Int32
  | 0 => (a, zI 0)
  | n + 1 => (topS (firL a p n).1 p, (firL a p n).2 + topV (firL a p n).1 p)
def firS (a : St) (p : Nat) (m : Int) : St := up3 (firL a p m.toNat).1 6 0 (cal a p).toNat (a 6 0 (cal a p).toNat + zI m)
def inspS (a : St) (p : Nat) : St := up3 (insS a p (a 0 0 4)) 7 0 (cal a p).toNat (a 7 0 (cal a p).toNat + zI (insV a p (a 0 0 4)))
def eShift (a : St) (f t : Int) : Int := if ¬ iP a f then 1 else if ¬ iP a t then 1 else if f = t then 2 else if ¬ cal a f.toNat = cal a t.toNat then 2 else 0
def shN (a : St) (f t : Nat) : Nat → St
  | 0 => a
  | n + 1 => putS (topS (shN a f t n) f) t (topV (shN a f t n) f)
def shM (a : St) (f t : Nat) : Int := if sq (sd a t) - bl a t < bl a f then sq (sd a t) - bl a t else bl a f
def gaL (a : St) : Nat → St × Int32
  | 0 => (a, zI 0)
  | n + 1 => (up3 (up3 (gaL a n).1 5 0 n ((gaL a n).1 5 0 n + (gaL a n).1 4 0 n)) 4 0 n (zI 0), (gaL a n).2 + (gaL a n).1 4 0 n)
theorem putS_bl {a : St} {p : Nat} {v : Int32} (h : -2147483648 ≤ bl a p + 1 ∧ bl a p + 1 < 2147483648) : bl (putS a p v) p = bl a p + 1 := bl_s h
theorem putS_o {a : St} {p t i j : Nat} {v : Int32} (h1 : ¬ (t = 1 ∧ i = p ∧ j = 2)) (h2 : ¬ (t = 2 ∧ i = p)) : putS a p v t i j = a t i j := by rw [putS, up3_n (by omega), up3_n (by omega)]
theorem putS_bn {a : St} {p q : Nat} {v : Int32} (h : ¬ q = p) : bl (putS a p v) q = bl a q := congrArg Int32.toInt (putS_o (by omega) (by omega))
theorem topS_bl {a : St} {p : Nat} (h : -2147483648 ≤ bl a p - 1 ∧ bl a p - 1 < 2147483648) : bl (topS a p) p = bl a p - 1 := bl_s h
theorem topS_bn {a : St} {p q : Nat} (h : ¬ q = p) : bl (topS a p) q = bl a q := bl_up (by omega)
theorem topS_o {a : St} {p t i j : Nat} (h1 : ¬ (t = 1 ∧ i = p ∧ j = 2)) : topS a p t i j = a t i j := up3_n (by omega)
theorem putS_i {a : St} (h : Inv a) {p : Nat} {v : Int32} (hp : (p : Int) < np a) (hr : bl a p < sq (sd a p)) : Inv (putS a p v) := by
  have hP := (h.2.1 p hp).1
  unfold PO at hP
  have e : np (up3 a 2 p (bl a p).toNat v) = np a := np_up (by omega)
  have e2 : sd (up3 a 2 p (bl a p).toNat v) p = sd a p := sd_up (by omega)
  have h1 : Inv (up3 a 2 p (bl a p).toNat v) := h.up (by omega) (by decide) (by omega) (fun _ => hp) (by omega)
  exact h1.upBl (by rw [e]; exact hp) (by rw [e2]; omega)
theorem putS_np (a : St) (p : Nat) (v : Int32) : np (putS a p v) = np a := congrArg Int32.toInt (putS_o (by omega) (by omega))
theorem putS_nc (a : St) (p : Nat) (v : Int32) : nc (putS a p v) = nc a := congrArg Int32.toInt (putS_o (by omega) (by omega))
theorem putS_sd (a : St) (p q : Nat) (v : Int32) : sd (putS a p v) q = sd a q := congrArg Int32.toInt (putS_o (by omega) (by omega))
theorem putS_cal (a : St) (p q : Nat) (v : Int32) : cal (putS a p v) q = cal a q := congrArg Int32.toInt (putS_o (by omega) (by omega))
theorem topS_sd (a : St) (p q : Nat) : sd (topS a p) q = sd a q := sd_up (by omega)
theorem topS_cal (a : St) (p q : Nat) : cal (topS a p) q = cal a q := cal_up (by omega)
theorem putN_i {a : St} (h : Inv a) {p : Nat} (hp : (p : Int) < np a) : ∀ n : Nat, bl a p + n ≤ sq (sd a p) → Inv (putN a p n) ∧ np (putN a p n) = np a ∧ nc (putN a p n) = nc a ∧ bl (putN a p n) p = bl a p + n ∧ (∀ q : Nat, sd (putN a p n) q = sd a q ∧ cal (putN a p n) q = cal a q) ∧ (∀ j : Nat, putN a p n 5 0 j = a 5 0 j)
  | 0, _ => ⟨h, rfl, rfl, by show bl a p = bl a p + 0; omega, fun _ => ⟨rfl, rfl⟩, fun _ => rfl⟩
  | n + 1, hn => by
    obtain ⟨i1, i2, i3, i4, i5, i6⟩ := putN_i h hp n (by omega)
    have hP := (h.2.1 p hp).1
    unfold PO at hP
    have hs := sq_le (e := sd a p) ⟨hP.1, hP.2.1⟩
    refine ⟨putS_i i1 (by rw [i2]; exact hp) (by rw [i4, (i5 p).1]; omega), by show np (putS _ _ _) = _; rw [putS_np, i2], by show nc (putS _ _ _) = _; rw [putS_nc, i3], ?_, fun q => ⟨by show sd (putS _ _ _) q = _; rw [putS_sd]; exact (i5 q).1, by show cal (putS _ _ _) q = _; rw [putS_cal]; exact (i5 q).2⟩, fun j => by show putS _ _ _ 5 0 j = _; rw [putS_o (by omega) (by omega)]; exact i6 j⟩
    show bl (putS _ _ _) p = _
    rw [putS_bl (by omega), i4]
    omega
theorem firL_i {a : St} (h : Inv a) {p : Nat} (hp : (p : Int) < np a) : ∀ n : Nat, (n : Int) ≤ bl a p → Inv (firL a p n).1 ∧ np (firL a p n).1 = np a ∧ nc (firL a p n).1 = nc a ∧ bl (firL a p n).1 p = bl a p - n ∧ (∀ q : Nat, sd (firL a p n).1 q = sd a q ∧ cal (firL a p n).1 q = cal a q) ∧ (∀ j : Nat, (firL a p n).1 6 0 j = a 6 0 j)
  | 0, _ => ⟨h, rfl, rfl, by show bl a p = bl a p - 0; omega, fun _ => ⟨rfl, rfl⟩, fun _ => rfl⟩
  | n + 1, hn => by
    obtain ⟨i1, i2, i3, i4, i5, i6⟩ := firL_i h hp n (by omega)
    have hP := (h.2.1 p hp).1
    unfold PO at hP
    have hs := sq_le (e := sd a p) ⟨hP.1, hP.2.1⟩
    refine ⟨topS_i i1 (by rw [i2]; exact hp) (by rw [i4]; omega), by show np (topS _ _) = _; rw [topS_np, i2], by show nc (topS _ _) = _; rw [topS_nc, i3], ?_, fun q => ⟨by show sd (topS _ _) q = _; rw [topS_sd]; exact (i5 q).1, by show cal (topS _ _) q = _; rw [topS_cal]; exact (i5 q).2⟩, fun j => by show topS (firL a p n).1 p 6 0 j = _; rw [topS_o (by omega)]; exact i6 j⟩
    show bl (topS _ _) p = _
    rw [topS_bl (by omega), i4]
    omega
theorem shN_i {a : St} (h : Inv a) {f t : Nat} (hf : (f : Int) < np a) (ht : (t : Int) < np a) (hne : ¬ f = t) : ∀ n : Nat, (n : Int) ≤ bl a f → bl a t + n ≤ sq (sd a t) → Inv (shN a f t n) ∧ np (shN a f t n) = np a ∧ nc (shN a f t n) = nc a ∧ bl (shN a f t n) f = bl a f - n ∧ bl (shN a f t n) t = bl a t + n ∧ (∀ q : Nat, sd (shN a f t n) q = sd a q ∧ cal (shN a f t n) q = cal a q)
  | 0, _, _ => ⟨h, rfl, rfl, by show bl a f = bl a f - 0; omega, by show bl a t = bl a t + 0; omega, fun _ => ⟨rfl, rfl⟩⟩
  | n + 1, hn, hm => by
    obtain ⟨i1, i2, i3, i4, i5, i6⟩ := shN_i h hf ht hne n (by omega) (by omega)
    have hP := (h.2.1 f hf).1
    have hQ := (h.2.1 t ht).1
    unfold PO at hP hQ
    have hs := sq_le (e := sd a f) ⟨hP.1, hP.2.1⟩
    have hs2 := sq_le (e := sd a t) ⟨hQ.1, hQ.2.1⟩
    have j1 := topS_i i1 (p := f) (by rw [i2]; exact hf) (by rw [i4]; omega)
    have e1 : bl (topS (shN a f t n) f) t = bl (shN a f t n) t := topS_bn (fun q => hne q.symm)
    refine ⟨putS_i j1 (by rw [topS_np, i2]; exact ht) (by rw [e1, i5, topS_sd, (i6 t).1]; omega), by show np (putS _ _ _) = _; rw [putS_np, topS_np, i2], by show nc (putS _ _ _) = _; rw [putS_nc, topS_nc, i3], ?_, ?_, fun q => ⟨by show sd (putS _ _ _) q = _; rw [putS_sd, topS_sd]; exact (i6 q).1, by show cal (putS _ _ _) q = _; rw [putS_cal, topS_cal]; exact (i6 q).2⟩⟩
    · show bl (putS _ _ _) f = _
      rw [putS_bn hne, topS_bl (by omega), i4]
      omega
    · show bl (putS _ _ _) t = _
      rw [putS_bl (by rw [e1]; omega), e1, i5]
      omega
