/-! ===== YARDS: a day, as a function of the value; what stays true ===== -/
theorem np_up {a : St} {t i j : Nat} {v : Int32} (h : ¬ (t = 0 ∧ i = 0 ∧ j = 0)) : np (up3 a t i j v) = np a := congrArg Int32.toInt (up3_n (fun q => h ⟨q.1.symm, q.2.1.symm, q.2.2.symm⟩))
theorem nc_up {a : St} {t i j : Nat} {v : Int32} (h : ¬ (t = 0 ∧ i = 0 ∧ j = 1)) : nc (up3 a t i j v) = nc a := congrArg Int32.toInt (up3_n (fun q => h ⟨q.1.symm, q.2.1.symm, q.2.2.symm⟩))
theorem cal_up {a : St} {t i j p : Nat} {v : Int32} (h : ¬ (t = 1 ∧ i = p ∧ j = 0)) : cal (up3 a t i j v) p = cal a p := congrArg Int32.toInt (up3_n (fun q => h ⟨q.1.symm, q.2.1.symm, q.2.2.symm⟩))
theorem sd_up {a : St} {t i j p : Nat} {v : Int32} (h : ¬ (t = 1 ∧ i = p ∧ j = 1)) : sd (up3 a t i j v) p = sd a p := congrArg Int32.toInt (up3_n (fun q => h ⟨q.1.symm, q.2.1.symm, q.2.2.symm⟩))
theorem bl_up {a : St} {t i j p : Nat} {v : Int32} (h : ¬ (t = 1 ∧ i = p ∧ j = 2)) : bl (up3 a t i j v) p = bl a p := congrArg Int32.toInt (up3_n (fun q => h ⟨q.1.symm, q.2.1.symm, q.2.2.symm⟩))
theorem lp_up {a : St} {t i j p : Nat} {v : Int32} (h : ¬ (t = 3 ∧ i = p ∧ j = 0)) : lp (up3 a t i j v) p = lp a p := congrArg Int32.toInt (up3_n (fun q => h ⟨q.1.symm, q.2.1.symm, q.2.2.symm⟩))
theorem on_up {a : St} {t i j p : Nat} {v : Int32} (h : ¬ (t = 3 ∧ i = p ∧ j = 1)) : on (up3 a t i j v) p = on a p := congrArg Int32.toInt (up3_n (fun q => h ⟨q.1.symm, q.2.1.symm, q.2.2.symm⟩))
theorem bl_s {a : St} {p : Nat} {z : Int} (h : -2147483648 ≤ z ∧ z < 2147483648) : bl (up3 a 1 p 2 (zI z)) p = z := by rw [bl, up3_s, zI_toInt h]
theorem on_s {a : St} {c : Nat} {z : Int} (h : -2147483648 ≤ z ∧ z < 2147483648) : on (up3 a 3 c 1 (zI z)) c = z := by rw [on, up3_s, zI_toInt h]
/-- what isn't made yet is as at first -/
def Fresh (a : St) : Prop := (∀ p : Nat, np a ≤ p → p < 6 → a 1 p 0 = 0 ∧ a 1 p 1 = 0 ∧ a 1 p 2 = 0 ∧ ∀ k : Nat, k < 91 → a 2 p k = 0) ∧ ∀ c : Nat, nc a ≤ c → c < 3 → a 3 c 0 = 0 ∧ a 3 c 1 = zI (-1) ∧ a 3 c 2 = 0
def PI (a : St) (p : Nat) : Prop := PO a p ∧ 0 ≤ cal a p ∧ cal a p ≤ 4
def CI (a : St) (c : Nat) : Prop := 1 ≤ lp a c ∧ lp a c ≤ 5 ∧ -1 ≤ on a c ∧ (on a c = -1 ∨ on a c < np a)
def Inv (a : St) : Prop := (0 ≤ np a ∧ np a ≤ 6 ∧ 0 ≤ nc a ∧ nc a ≤ 3) ∧ (∀ p : Nat, (p : Int) < np a → PI a p) ∧ (∀ c : Nat, (c : Int) < nc a → CI a c) ∧ Fresh a
/-- a change of a number that no other speaks of -/
theorem Inv.up {a : St} (h : Inv a) {t i j : Nat} {v : Int32} (h0 : ¬ (t = 0 ∧ i = 0 ∧ j < 2)) (h1 : ¬ t = 1) (h3 : ¬ (t = 3 ∧ j < 2)) (h2 : t = 2 → (i : Int) < np a) (h4 : t = 3 → (i : Int) < nc a) : Inv (up3 a t i j v) := by
  have en : np (up3 a t i j v) = np a := np_up (by omega)
  have ec : nc (up3 a t i j v) = nc a := nc_up (by omega)
  obtain ⟨q0, q1, q2, q3, q4⟩ := h
  refine ⟨by rw [en, ec]; exact q0, fun p hp => ?_, fun c hc => ?_, fun p hp hp6 => ?_, fun c hc hc3 => ?_⟩
  · rw [en] at hp
    have := q1 p hp
    unfold PI PO at this ⊢
    rw [bl_up (by omega), sd_up (by omega), cal_up (by omega)]
    exact this
  · rw [ec] at hc
    have := q2 c hc
    unfold CI at this ⊢
    rw [lp_up (by omega), on_up (by omega), en]
    exact this
  · rw [en] at hp
    obtain ⟨a1, a2, a3, a4⟩ := q3 p hp hp6
    refine ⟨by rw [up3_n (by omega)]; exact a1, by rw [up3_n (by omega)]; exact a2, by rw [up3_n (by omega)]; exact a3, fun k hk => ?_⟩
    rw [up3_n (by rintro ⟨rfl, rfl, -⟩; have := h2 rfl; omega)]
    exact a4 k hk
  · rw [ec] at hc
    obtain ⟨a1, a2, a3⟩ := q4 c hc hc3
    refine ⟨by rw [up3_n (by rintro ⟨rfl, rfl, -⟩; have := h4 rfl; omega)]; exact a1, by rw [up3_n (by rintro ⟨rfl, rfl, -⟩; have := h4 rfl; omega)]; exact a2, by rw [up3_n (by rintro ⟨rfl, rfl, -⟩; have := h4 rfl; omega)]; exact a3⟩
theorem Inv.upBl {a : St} (h : Inv a) {p : Nat} {z : Int} (hp : (p : Int) < np a) (hz : 0 ≤ z ∧ z ≤ sq (sd a p)) : Inv (up3 a 1 p 2 (zI z)) := by
  have en : np (up3 a 1 p 2 (zI z)) = np a := np_up (by omega)
  have ec : nc (up3 a 1 p 2 (zI z)) = nc a := nc_up (by omega)
  obtain ⟨q0, q1, q2, q3, q4⟩ := h
  have hs := (q1 p hp).1
  have hsq := sq_le (e := sd a p) ⟨hs.1, hs.2.1⟩
  refine ⟨by rw [en, ec]; exact q0, fun p' hp' => ?_, fun c hc => ?_, fun p' hp' hp6 => ?_, fun c hc hc3 => ?_⟩
  · rw [en] at hp'
    have := q1 p' hp'
    unfold PI PO at this ⊢
    rw [sd_up (by omega), cal_up (by omega)]
    by_cases e : p' = p
    · subst e
      rw [bl_s (by omega)]
      exact ⟨⟨this.1.1, this.1.2.1, hz⟩, this.2⟩
    · rw [bl_up (by omega)]
      exact this
  · rw [ec] at hc
    have := q2 c hc
    unfold CI at this ⊢
    rw [lp_up (by omega), on_up (by omega), en]
    exact this
  · rw [en] at hp'
    obtain ⟨a1, a2, a3, a4⟩ := q3 p' hp' hp6
    exact ⟨by rw [up3_n (by omega)]; exact a1, by rw [up3_n (by omega)]; exact a2, by rw [up3_n (by omega)]; exact a3, fun k hk => by rw [up3_n (by omega)]; exact a4 k hk⟩
  · rw [ec] at hc
    obtain ⟨a1, a2, a3⟩ := q4 c hc hc3
    exact ⟨by rw [up3_n (by omega)]; exact a1, by rw [up3_n (by omega)]; exact a2, by rw [up3_n (by omega)]; exact a3⟩
theorem Inv.upOn {a : St} (h : Inv a) {c : Nat} {z : Int} (hc : (c : Int) < nc a) (hz : z = -1 ∨ 0 ≤ z ∧ z < np a) : Inv (up3 a 3 c 1 (zI z)) := by
  have en : np (up3 a 3 c 1 (zI z)) = np a := np_up (by omega)
  have ec : nc (up3 a 3 c 1 (zI z)) = nc a := nc_up (by omega)
  obtain ⟨q0, q1, q2, q3, q4⟩ := h
  refine ⟨by rw [en, ec]; exact q0, fun p' hp' => ?_, fun c' hc' => ?_, fun p' hp' hp6 => ?_, fun c' hc' hc3 => ?_⟩
  · rw [en] at hp'
    have := q1 p' hp'
    unfold PI PO at this ⊢
    rw [sd_up (by omega), cal_up (by omega), bl_up (by omega)]
    exact this
  · rw [ec] at hc'
    have := q2 c' hc'
    unfold CI at this ⊢
    rw [lp_up (by omega), en]
    by_cases e : c' = c
    · subst e
      rw [on_s (by omega)]
      omega
    · rw [on_up (by omega)]
      exact this
  · rw [en] at hp'
    obtain ⟨a1, a2, a3, a4⟩ := q3 p' hp' hp6
    exact ⟨by rw [up3_n (by omega)]; exact a1, by rw [up3_n (by omega)]; exact a2, by rw [up3_n (by omega)]; exact a3, fun k hk => by rw [up3_n (by omega)]; exact a4 k hk⟩
  · rw [ec] at hc'
    obtain ⟨a1, a2, a3⟩ := q4 c' hc' hc3
    exact ⟨by rw [up3_n (by omega)]; exact a1, by rw [up3_n (by omega)]; exact a2, by rw [up3_n (by omega)]; exact a3⟩
theorem raS_i {a : St} (h : Inv a) {p : Nat} (hp : (p : Int) < np a) (rain : Int32) : ∀ n : Nat, Inv (raS a p rain n)
  | 0 => h
  | n + 1 => by
    have ih := raS_i h hp rain n
    have e : np (raS a p rain n) = np a := congrArg Int32.toInt (ra_e a p rain n 0 0 0 (by decide))
    rw [raS]
    exact ih.up (by omega) (by decide) (by omega) (fun _ => by rw [e]; exact hp) (by omega)
/-- all piles rust -/
def raAll (a : St) : Nat → St
  | 0 => a
  | n + 1 => raS (raAll a n) n ((raAll a n) 0 0 3) (bl (raAll a n) n).toNat
theorem raAll_e (a : St) : ∀ n : Nat, eqR a (raAll a n)
  | 0 => eqR.refl a
  | n + 1 => fun t i j ht => by rw [raAll, ra_e _ _ _ _ t i j ht]; exact raAll_e a n t i j ht
theorem raAll_i {a : St} (h : Inv a) : ∀ n : Nat, (n : Int) ≤ np a → Inv (raAll a n)
  | 0, _ => h
  | n + 1, hn => by
    have ih := raAll_i h n (by omega)
    have e : np (raAll a n) = np a := congrArg Int32.toInt (raAll_e a n 0 0 0 (by decide))
    rw [raAll]
    exact raS_i ih (by rw [e]; omega) _ _
/-- where a cat jumps -/
def jmpO (a : St) (c : Nat) : Int := if on a c = -1 ∨ np a < 1 then 0 else (on a c + lp a c) % np a
def jmpS (a : St) (c : Nat) : St := up3 a 3 c 1 (zI (jmpO a c))
def jmpP (a : St) (c : Nat) : Nat := (jmpO a c).toNat
/-- a ball rolls off pile p by cat c -/
def offS (a : St) (p c : Nat) : St := up3 (up3 (topS a p) 4 0 (cal a p).toNat (a 4 0 (cal a p).toNat + zI 1)) 3 c 2 (a 3 c 2 + zI 1)
def ljS (a : St) (c : Nat) : St := if brk (jmpS a c) (jmpP a c) then offS (jmpS a c) (jmpP a c) c else jmpS a c
def ljV (a : St) (c : Nat) : Int := if brk (jmpS a c) (jmpP a c) then 1 else 0
def jumpAll (a : St) : Nat → St × Int
  | 0 => (a, 0)
  | n + 1 => (ljS (jumpAll a n).1 n, (jumpAll a n).2 + ljV (jumpAll a n).1 n)
def catsS (a : St) : St × Int := if 0 < np a then jumpAll a (nc a).toNat else (a, 0)
def dayS (a : St) : St := up3 (catsS (raAll a (np a).toNat)).1 0 0 2 ((catsS (raAll a (np a).toNat)).1 0 0 2 + zI 1)
def dayV (a : St) : Int := (catsS (raAll a (np a).toNat)).2
def passL (a : St) : Nat → St × Int
  | 0 => (a, 0)
  | n + 1 => (dayS (passL a n).1, (passL a n).2 + dayV (passL a n).1)
theorem jmpO_b {a : St} (h : Inv a) {c : Nat} (hc : (c : Int) < nc a) (hn : 0 < np a) : 0 ≤ jmpO a c ∧ jmpO a c < np a := by
  unfold jmpO
  split
  · omega
  · exact ⟨Int.emod_nonneg _ (by omega), Int.emod_lt_of_pos _ (by omega)⟩
theorem brk_b0 : ∀ i : Nat, i < 7 → lb i 0 = lf i 0 := by decide +kernel
theorem brk_b {a : St} {p : Nat} (h : PO a p) (hb : brk a p = true) : 1 ≤ bl a p := by
  obtain ⟨h1, h2, h3, h4⟩ := h
  obtain ⟨i, hi⟩ := Int.eq_ofNat_of_zero_le (show 0 ≤ sd a p by omega)
  have hq := of_decide_eq_true hb
  rcases (show bl a p = 0 ∨ 1 ≤ bl a p by omega) with e | e
  · rw [e, hi] at hq
    exact absurd (brk_b0 i (by omega)) hq
  · exact e
theorem jmpS_i {a : St} (h : Inv a) {c : Nat} (hc : (c : Int) < nc a) (hn : 0 < np a) : Inv (jmpS a c) := h.upOn hc (Or.inr (jmpO_b h hc hn))
theorem jmpS_np (a : St) (c : Nat) : np (jmpS a c) = np a := np_up (by omega)
theorem jmpS_nc (a : St) (c : Nat) : nc (jmpS a c) = nc a := nc_up (by omega)
theorem topS_np (a : St) (p : Nat) : np (topS a p) = np a := np_up (by omega)
theorem topS_nc (a : St) (p : Nat) : nc (topS a p) = nc a := nc_up (by omega)
theorem topS_i {a : St} (h : Inv a) {p : Nat} (hp : (p : Int) < np a) (hb : 1 ≤ bl a p) : Inv (topS a p) := h.upBl hp (by have := (h.2.1 p hp).1; unfold PO at this; omega)
theorem offS_i {a : St} (h : Inv a) {p c : Nat} (hp : (p : Int) < np a) (hb : 1 ≤ bl a p) (hc : (c : Int) < nc a) : Inv (offS a p c) := by
  have h1 := topS_i h hp hb
  have h2 : Inv (up3 (topS a p) 4 0 (cal a p).toNat (a 4 0 (cal a p).toNat + zI 1)) := h1.up (by omega) (by decide) (by omega) (by omega) (by omega)
  exact h2.up (by omega) (by decide) (by omega) (by omega) (fun _ => by rw [nc_up (by omega), topS_nc]; exact hc)
theorem offS_np (a : St) (p c : Nat) : np (offS a p c) = np a := by
  unfold offS
  rw [np_up (by omega), np_up (by omega), topS_np]
theorem offS_nc (a : St) (p c : Nat) : nc (offS a p c) = nc a := by
  unfold offS
  rw [nc_up (by omega), nc_up (by omega), topS_nc]
theorem ljS_np (a : St) (c : Nat) : np (ljS a c) = np a := by
  unfold ljS
  split
  · rw [offS_np, jmpS_np]
  · rw [jmpS_np]
theorem ljS_nc (a : St) (c : Nat) : nc (ljS a c) = nc a := by
  unfold ljS
  split
  · rw [offS_nc, jmpS_nc]
  · rw [jmpS_nc]
theorem ljS_i {a : St} (h : Inv a) {c : Nat} (hc : (c : Int) < nc a) (hn : 0 < np a) : Inv (ljS a c) := by
  have h1 := jmpS_i h hc hn
  have hb := jmpO_b h hc hn
  have hp : (jmpP a c : Int) < np (jmpS a c) := by rw [jmpS_np, jmpP]; omega
  unfold ljS
  split
  · exact offS_i h1 hp (brk_b (h1.2.1 _ hp).1 (by assumption)) (by rw [jmpS_nc]; exact hc)
  · exact h1
theorem jumpAll_i {a : St} (h : Inv a) (hn : 0 < np a) : ∀ n : Nat, (n : Int) ≤ nc a → Inv (jumpAll a n).1 ∧ np (jumpAll a n).1 = np a ∧ nc (jumpAll a n).1 = nc a
  | 0, _ => ⟨h, rfl, rfl⟩
  | n + 1, hc => by
    obtain ⟨i1, i2, i3⟩ := jumpAll_i h hn n (by omega)
    exact ⟨ljS_i i1 (by rw [i3]; omega) (by rw [i2]; exact hn), by show np (ljS _ _) = _; rw [ljS_np, i2], by show nc (ljS _ _) = _; rw [ljS_nc, i3]⟩
theorem catsS_i {a : St} (h : Inv a) : Inv (catsS a).1 ∧ np (catsS a).1 = np a ∧ nc (catsS a).1 = nc a := by
  unfold catsS
  split
  · exact jumpAll_i h (by assumption) _ (by have := h.1; omega)
  · exact ⟨h, rfl, rfl⟩
theorem dayS_i {a : St} (h : Inv a) : Inv (dayS a) ∧ np (dayS a) = np a ∧ nc (dayS a) = nc a := by
  have h1 := raAll_i h (np a).toNat (by have := h.1; omega)
  have e1 : np (raAll a (np a).toNat) = np a := congrArg Int32.toInt (raAll_e a _ 0 0 0 (by decide))
  have e2 : nc (raAll a (np a).toNat) = nc a := congrArg Int32.toInt (raAll_e a _ 0 0 1 (by decide))
  obtain ⟨i1, i2, i3⟩ := catsS_i h1
  exact ⟨i1.up (by omega) (by decide) (by omega) (by omega) (by omega), by rw [dayS, np_up (by omega), i2, e1], by rw [dayS, nc_up (by omega), i3, e2]⟩
theorem passL_i {a : St} (h : Inv a) : ∀ n : Nat, Inv (passL a n).1 ∧ np (passL a n).1 = np a ∧ nc (passL a n).1 = nc a
  | 0 => ⟨h, rfl, rfl⟩
  | n + 1 => by
    obtain ⟨i1, i2, i3⟩ := passL_i h n
    obtain ⟨j1, j2, j3⟩ := dayS_i i1
    exact ⟨j1, j2.trans i2, j3.trans i3⟩
/-- sums over piles, over calibres -/
def ofCal (a : St) (c : Int) : Nat → Int
  | 0 => 0
  | n + 1 => if cal a n = c then ofCal a c n + bl a n else ofCal a c n
def blAll (a : St) : Nat → Int
  | 0 => 0
  | n + 1 => blAll a n + bl a n
def ruAll (a : St) : Nat → Int
  | 0 => 0
  | n + 1 => ruAll a n + rustyN a n (a 0 0 4) (bl a n).toNat
def sum5 (f : Nat → Int32) : Nat → Int32
  | 0 => zI 0
  | n + 1 => sum5 f n + f n
def cntV (a : St) (w : Int) : Int32 := if w = 4 then sum5 (a 4 0) 5 else if w = 6 then zI (ruAll a (np a).toNat) else zI (blAll a (np a).toNat)
