/-! ===== INVARIANTS: each call's new value is one that may be ===== -/
theorem itz {C : Prop} [Decidable C] {k x : Int} (hk : ¬ k = 0) (h : (if C then k else x) = 0) : ¬ C ∧ x = 0 := by
  by_cases hc : C
  · rw [if_pos hc] at h; exact absurd h hk
  · rw [if_neg hc] at h; exact ⟨hc, h⟩
def gdN (a N : St) : Prop := Inv N ∧ np a ≤ np N ∧ nc a ≤ nc N ∧ N 0 0 2 = a 0 0 2
theorem gdN.refl {a : St} (h : Inv a) : gdN a a := ⟨h, Int.le_refl _, Int.le_refl _, rfl⟩
theorem gdN.up {a N : St} (g : gdN a N) {t i j : Nat} {v : Int32} (h0 : ¬ (t = 0 ∧ i = 0 ∧ j < 3)) (h1 : ¬ t = 1) (h3 : ¬ (t = 3 ∧ j < 2)) (h2 : t = 2 → (i : Int) < np N) (h4 : t = 3 → (i : Int) < nc N) : gdN a (up3 N t i j v) :=
  ⟨g.1.up (by omega) h1 h3 h2 h4, by rw [np_up (by omega)]; exact g.2.1, by rw [nc_up (by omega)]; exact g.2.2.1, by rw [up3_n (by omega)]; exact g.2.2.2⟩
theorem newP_g {a : St} (h : Inv a) {c s : Int} (e : ePile a c s = 0) : gdN a (newP a c s) := by
  obtain ⟨e1, e⟩ := itz (by decide) e
  obtain ⟨e2, e⟩ := itz (by decide) e
  obtain ⟨e3, -⟩ := itz (by decide) e
  obtain ⟨q0, q1, q2, q3, q4⟩ := h
  obtain ⟨n, hn⟩ := Int.eq_ofNat_of_zero_le q0.1
  have hn2 : (np a).toNat = n := by omega
  unfold newP
  rw [hn2]
  have key : ∀ t i j : Nat, up3 (up3 (up3 (up3 a 1 n 0 (zI c)) 1 n 1 (zI s)) 1 n 2 (zI 0)) 0 0 0 (zI (np a + 1)) t i j = if t = 0 ∧ i = 0 ∧ j = 0 then zI (np a + 1) else if t = 1 ∧ i = n ∧ j = 2 then zI 0 else if t = 1 ∧ i = n ∧ j = 1 then zI s else if t = 1 ∧ i = n ∧ j = 0 then zI c else a t i j := fun t i j => by rw [up3_e, up3_e, up3_e, up3_e]
  generalize up3 (up3 (up3 (up3 a 1 n 0 (zI c)) 1 n 1 (zI s)) 1 n 2 (zI 0)) 0 0 0 (zI (np a + 1)) = N at key ⊢
  have ko : ∀ t i j : Nat, ¬ (t = 0 ∧ i = 0 ∧ j = 0) → ¬ (t = 1 ∧ i = n) → N t i j = a t i j := fun t i j h1 h2 => by rw [key, if_neg h1, if_neg (by omega), if_neg (by omega), if_neg (by omega)]
  have en : np N = np a + 1 := by
    show (N 0 0 0).toInt = _
    rw [key, if_pos ⟨rfl, rfl, rfl⟩, zI_toInt (by omega)]
  have ec : nc N = nc a := congrArg Int32.toInt (ko 0 0 1 (by omega) (by omega))
  refine ⟨⟨⟨by omega, by omega, by omega, by omega⟩, fun p hp => ?_, fun c' hc => ?_, fun p hp hp6 => ?_, fun c' hc hc3 => ?_⟩, by omega, by omega, ko 0 0 2 (by omega) (by omega)⟩
  · by_cases hpn : p = n
    · subst hpn
      have b2 : bl N p = 0 := by
        show (N 1 p 2).toInt = _
        rw [key, if_neg (by omega), if_pos ⟨rfl, rfl, rfl⟩, zI_toInt (by omega)]
      have b1 : sd N p = s := by
        show (N 1 p 1).toInt = _
        rw [key, if_neg (by omega), if_neg (by omega), if_pos ⟨rfl, rfl, rfl⟩, zI_toInt (by omega)]
      have b0 : cal N p = c := by
        show (N 1 p 0).toInt = _
        rw [key, if_neg (by omega), if_neg (by omega), if_neg (by omega), if_pos ⟨rfl, rfl, rfl⟩, zI_toInt (by omega)]
      unfold PI PO
      rw [b0, b1, b2]
      have := sq_le (e := s) (by omega)
      omega
    · have := q1 p (by omega)
      have b2 : bl N p = bl a p := congrArg Int32.toInt (ko 1 p 2 (by omega) (by omega))
      have b1 : sd N p = sd a p := congrArg Int32.toInt (ko 1 p 1 (by omega) (by omega))
      have b0 : cal N p = cal a p := congrArg Int32.toInt (ko 1 p 0 (by omega) (by omega))
      unfold PI PO at this ⊢
      rw [b0, b1, b2]
      exact this
  · have := q2 c' (by omega)
    have l1 : lp N c' = lp a c' := congrArg Int32.toInt (ko 3 c' 0 (by omega) (by omega))
    have l2 : on N c' = on a c' := congrArg Int32.toInt (ko 3 c' 1 (by omega) (by omega))
    unfold CI at this ⊢
    rw [l1, l2, en]
    omega
  · obtain ⟨a1, a2, a3, a4⟩ := q3 p (by omega) hp6
    exact ⟨(ko 1 p 0 (by omega) (by omega)).trans a1, (ko 1 p 1 (by omega) (by omega)).trans a2, (ko 1 p 2 (by omega) (by omega)).trans a3, fun k hk => (ko 2 p k (by omega) (by omega)).trans (a4 k hk)⟩
  · obtain ⟨a1, a2, a3⟩ := q4 c' (by omega) hc3
    exact ⟨(ko 3 c' 0 (by omega) (by omega)).trans a1, (ko 3 c' 1 (by omega) (by omega)).trans a2, (ko 3 c' 2 (by omega) (by omega)).trans a3⟩
theorem newC_g {a : St} (h : Inv a) {k : Int} (e : eCat a k = 0) : gdN a (newC a k) := by
  obtain ⟨e1, e⟩ := itz (by decide) e
  obtain ⟨e2, -⟩ := itz (by decide) e
  obtain ⟨q0, q1, q2, q3, q4⟩ := h
  obtain ⟨n, hn⟩ := Int.eq_ofNat_of_zero_le q0.2.2.1
  have hn2 : (nc a).toNat = n := by omega
  unfold newC
  rw [hn2]
  have key : ∀ t i j : Nat, up3 (up3 a 3 n 0 (zI k)) 0 0 1 (zI (nc a + 1)) t i j = if t = 0 ∧ i = 0 ∧ j = 1 then zI (nc a + 1) else if t = 3 ∧ i = n ∧ j = 0 then zI k else a t i j := fun t i j => by rw [up3_e, up3_e]
  generalize up3 (up3 a 3 n 0 (zI k)) 0 0 1 (zI (nc a + 1)) = N at key ⊢
  have ko : ∀ t i j : Nat, ¬ (t = 0 ∧ i = 0 ∧ j = 1) → ¬ (t = 3 ∧ i = n ∧ j = 0) → N t i j = a t i j := fun t i j h1 h2 => by rw [key, if_neg h1, if_neg h2]
  have ec : nc N = nc a + 1 := by
    show (N 0 0 1).toInt = _
    rw [key, if_pos ⟨rfl, rfl, rfl⟩, zI_toInt (by omega)]
  have en : np N = np a := congrArg Int32.toInt (ko 0 0 0 (by omega) (by omega))
  refine ⟨⟨⟨by omega, by omega, by omega, by omega⟩, fun p hp => ?_, fun c' hc => ?_, fun p hp hp6 => ?_, fun c' hc hc3 => ?_⟩, by omega, by omega, ko 0 0 2 (by omega) (by omega)⟩
  · have := q1 p (by omega)
    have b2 : bl N p = bl a p := congrArg Int32.toInt (ko 1 p 2 (by omega) (by omega))
    have b1 : sd N p = sd a p := congrArg Int32.toInt (ko 1 p 1 (by omega) (by omega))
    have b0 : cal N p = cal a p := congrArg Int32.toInt (ko 1 p 0 (by omega) (by omega))
    unfold PI PO at this ⊢
    rw [b0, b1, b2]
    exact this
  · have l2 : on N c' = on a c' := congrArg Int32.toInt (ko 3 c' 1 (by omega) (by omega))
    by_cases hcn : c' = n
    · subst hcn
      have l1 : lp N c' = k := by
        show (N 3 c' 0).toInt = _
        rw [key, if_neg (by omega), if_pos ⟨rfl, rfl, rfl⟩, zI_toInt (by omega)]
      have l3 : on a c' = -1 := by
        show (a 3 c' 1).toInt = _
        rw [(q4 c' (by omega) (by omega)).2.1, zI_toInt (by omega)]
      unfold CI
      rw [l1, l2, l3]
      omega
    · have := q2 c' (by omega)
      have l1 : lp N c' = lp a c' := congrArg Int32.toInt (ko 3 c' 0 (by omega) (by omega))
      unfold CI at this ⊢
      rw [l1, l2, en]
      exact this
  · obtain ⟨a1, a2, a3, a4⟩ := q3 p (by omega) hp6
    exact ⟨(ko 1 p 0 (by omega) (by omega)).trans a1, (ko 1 p 1 (by omega) (by omega)).trans a2, (ko 1 p 2 (by omega) (by omega)).trans a3, fun k hk => (ko 2 p k (by omega) (by omega)).trans (a4 k hk)⟩
  · obtain ⟨a1, a2, a3⟩ := q4 c' (by omega) hc3
    exact ⟨(ko 3 c' 0 (by omega) (by omega)).trans a1, (ko 3 c' 1 (by omega) (by omega)).trans a2, (ko 3 c' 2 (by omega) (by omega)).trans a3⟩
theorem givS_g {a : St} (h : Inv a) {c m : Int} : gdN a (givS a c m) := (gdN.refl h).up (by omega) (by decide) (by omega) (by omega) (by omega)
theorem rain_g {a : St} (h : Inv a) {v : Int32} : gdN a (up3 a 0 0 3 v) := (gdN.refl h).up (by omega) (by decide) (by omega) (by omega) (by omega)
theorem limit_g {a : St} (h : Inv a) {v : Int32} : gdN a (up3 a 0 0 4 v) := (gdN.refl h).up (by omega) (by decide) (by omega) (by omega) (by omega)
theorem putN_d {a : St} {p : Nat} : ∀ n : Nat, putN a p n 0 0 2 = a 0 0 2
  | 0 => rfl
  | n + 1 => by rw [putN, putS_o (by omega) (by omega)]; exact putN_d n
theorem firL_d {a : St} {p : Nat} : ∀ n : Nat, (firL a p n).1 0 0 2 = a 0 0 2
  | 0 => rfl
  | n + 1 => by
    show topS (firL a p n).1 p 0 0 2 = _
    rw [topS_o (by omega)]; exact firL_d n
theorem shN_d {a : St} {f t : Nat} : ∀ n : Nat, shN a f t n 0 0 2 = a 0 0 2
  | 0 => rfl
  | n + 1 => by rw [shN, putS_o (by omega) (by omega), topS_o (by omega)]; exact shN_d n
theorem stkS_g {a : St} (h : Inv a) {p m : Int} (e : eStack a p m = 0) : gdN a (stkS a p.toNat m) := by
  obtain ⟨e1, e⟩ := itz (by decide) e
  obtain ⟨e2, e⟩ := itz (by decide) e
  obtain ⟨e3, -⟩ := itz (by decide) e
  have e4 : ¬ sq (sd a p.toNat) - bl a p.toNat < m := fun q => e3 (Or.inr q)
  have hi := putN_i h (p := p.toNat) (by omega) m.toNat (by omega)
  unfold stkS
  exact gdN.up ⟨hi.1, by omega, by omega, putN_d _⟩ (by omega) (by decide) (by omega) (by omega) (by omega)
theorem firS_g {a : St} (h : Inv a) {p m : Int} (e : eFire a p m = 0) : gdN a (firS a p.toNat m) := by
  obtain ⟨e1, e⟩ := itz (by decide) e
  obtain ⟨e2, e⟩ := itz (by decide) e
  obtain ⟨e3, -⟩ := itz (by decide) e
  have hi := firL_i h (p := p.toNat) (by omega) m.toNat (by omega)
  unfold firS
  exact gdN.up ⟨hi.1, by omega, by omega, firL_d _⟩ (by omega) (by decide) (by omega) (by omega) (by omega)
theorem scL_g {a : St} (h : Inv a) {p : Nat} (hp : (p : Int) < np a) : ∀ n : Nat, gdN a (scL a p n).1
  | 0 => gdN.refl h
  | n + 1 => by
    have ih := scL_g h hp n
    cases hc : cv (scL a p n).1 p n with
    | true => rw [sc_t hc]; exact ih
    | false =>
      rw [sc_f hc]
      exact ih.up (by omega) (by decide) (by omega) (fun _ => by have := ih.2.1; omega) (by omega)
theorem scour_g {a : St} (h : Inv a) {p : Int} (e : eP a p = 0) (n : Nat) : gdN a (scL a p.toNat n).1 := by
  obtain ⟨e1, -⟩ := itz (by decide) e
  exact scL_g h (by omega) n
theorem taL_g {a : St} (h : Inv a) {p : Nat} (hp : (p : Int) < np a) (lim : Int32) : ∀ n : Nat, gdN a (taL a p lim n).1
  | 0 => gdN.refl h
  | n + 1 => by
    have ih := taL_g h hp lim n
    by_cases hc : (taL a p lim n).1 2 p n < lim
    · rw [ta_t hc]
      exact ih.up (by omega) (by decide) (by omega) (fun _ => by have := ih.2.1; omega) (by omega)
    · rw [ta_f hc]; exact ih
theorem insS_g {a : St} (h : Inv a) {p : Nat} (hp : (p : Int) < np a) (lim : Int32) : gdN a (insS a p lim) := by
  have g := taL_g h hp lim (bl a p).toNat
  have he := ta_e a p lim (bl a p).toNat
  have hP := (h.2.1 p hp).1
  unfold PO at hP
  have hs := he.1.sd (p := p)
  have g1 := g.2.1
  unfold insS
  exact ⟨g.1.upBl (by omega) (by rw [hs]; have := he.2; omega), by rw [np_up (by omega)]; exact g.2.1, by rw [nc_up (by omega)]; exact g.2.2.1, by rw [up3_n (by omega)]; exact g.2.2.2⟩
theorem inspS_g {a : St} (h : Inv a) {p : Int} (e : eP a p = 0) : gdN a (inspS a p.toNat) := by
  obtain ⟨e1, -⟩ := itz (by decide) e
  unfold inspS
  exact (insS_g h (by omega) _).up (by omega) (by decide) (by omega) (by omega) (by omega)
theorem shift_g {a : St} (h : Inv a) {f t : Int} (e : eShift a f t = 0) : gdN a (shN a f.toNat t.toNat (shM a f.toNat t.toNat).toNat) := by
  obtain ⟨e1, e⟩ := itz (by decide) e
  obtain ⟨e2, e⟩ := itz (by decide) e
  obtain ⟨e3, e⟩ := itz (by decide) e
  have hP := (h.2.1 f.toNat (by omega)).1
  have hQ := (h.2.1 t.toNat (by omega)).1
  unfold PO at hP hQ
  have hm : 0 ≤ shM a f.toNat t.toNat ∧ shM a f.toNat t.toNat ≤ bl a f.toNat ∧ bl a t.toNat + shM a f.toNat t.toNat ≤ sq (sd a t.toNat) := by
    unfold shM
    split <;> omega
  have hi := shN_i h (f := f.toNat) (t := t.toNat) (by omega) (by omega) (by omega) (shM a f.toNat t.toNat).toNat (by omega) (by omega)
  exact ⟨hi.1, by omega, by omega, shN_d _⟩
theorem gaL_g {a : St} (h : Inv a) : ∀ n : Nat, gdN a (gaL a n).1
  | 0 => gdN.refl h
  | n + 1 => by
    have ih := gaL_g h n
    exact (ih.up (by omega) (by decide) (by omega) (by omega) (by omega)).up (by omega) (by decide) (by omega) (by omega) (by omega)
theorem chase_g {a : St} (h : Inv a) {c : Int} (e : eC a c = 0) : gdN a (up3 a 3 c.toNat 1 (zI (-1))) := by
  obtain ⟨e1, -⟩ := itz (by decide) e
  exact ⟨h.upOn (by omega) (Or.inl rfl), by rw [np_up (by omega)]; exact Int.le_refl _, by rw [nc_up (by omega)]; exact Int.le_refl _, by rw [up3_n (by omega)]⟩
theorem ljS_d (a : St) (c : Nat) : ljS a c 0 0 2 = a 0 0 2 := by
  unfold ljS
  split
  · unfold offS jmpS
    rw [up3_n (by omega), up3_n (by omega), topS_o (by omega), up3_n (by omega)]
  · unfold jmpS
    rw [up3_n (by omega)]
theorem jumpAll_d (a : St) : ∀ n : Nat, (jumpAll a n).1 0 0 2 = a 0 0 2
  | 0 => rfl
  | n + 1 => by
    show ljS (jumpAll a n).1 n 0 0 2 = _
    rw [ljS_d]; exact jumpAll_d a n
theorem dayS_d (a : St) : dayS a 0 0 2 = a 0 0 2 + zI 1 := by
  have h1 : (catsS (raAll a (np a).toNat)).1 0 0 2 = a 0 0 2 := by
    unfold catsS
    split
    · rw [jumpAll_d]; exact raAll_e a _ 0 0 2 (by decide)
    · exact raAll_e a _ 0 0 2 (by decide)
  rw [dayS, up3_s, h1]
theorem passL_d (a : St) : ∀ n : Nat, (passL a n).1 0 0 2 = a 0 0 2 + zI (n : Int)
  | 0 => by
    show a 0 0 2 = a 0 0 2 + zI 0
    rw [zI_0, Int32.add_zero]
  | n + 1 => by
    show dayS (passL a n).1 0 0 2 = _
    rw [dayS_d, passL_d a n, Int32.add_assoc, zI_add]
    rfl
theorem pass_g {a : St} (h : Inv a) {n : Int} (e : eIn 1 60 n = 0) : Inv (passL a n.toNat).1 ∧ np (passL a n.toNat).1 = np a ∧ nc (passL a n.toNat).1 = nc a ∧ (passL a n.toNat).1 0 0 2 = a 0 0 2 + zI n := by
  obtain ⟨e1, -⟩ := itz (by decide) e
  have hi := passL_i h n.toNat
  refine ⟨hi.1, hi.2.1, hi.2.2, ?_⟩
  rw [passL_d, show ((n.toNat : Nat) : Int) = n by omega]
theorem Inv0 : Inv al0 := by
  have e0 : np al0 = 0 := by
    show (al0 0 0 0).toInt = 0
    rw [al0_0 (by omega) (by omega)]; decide
  have e1 : nc al0 = 0 := by
    show (al0 0 0 1).toInt = 0
    rw [al0_0 (by omega) (by omega)]; decide
  refine ⟨by omega, fun p hp => by omega, fun c hc => by omega, fun p _ _ => ⟨al0_0 (by omega) (by omega), al0_0 (by omega) (by omega), al0_0 (by omega) (by omega), fun k _ => al0_0 (by omega) (by omega)⟩, fun c _ _ => ⟨al0_0 (by omega) (by omega), ?_, al0_0 (by omega) (by omega)⟩⟩
  rw [al0, if_pos ⟨rfl, rfl⟩]
theorem day0 : al0 0 0 2 = 0 := al0_0 (by omega) (by omega)
