/-! ===== ACTS: each keeps the balls of each calibre ===== -/
theorem give_aj {t srt : Int} {a : St} (h : J t a) (ht : 0 ≤ t ∧ t ≤ 100) (hs : srt = 2 ∨ srt = 3) {c m : Int} (hc : 0 ≤ c ∧ c < 5) (hm : 1 ≤ m ∧ m ≤ 99) : AJ t srt a (givS a c m) := by
  have hN := h.2.2.2.1 c.toNat (by omega)
  have k := (h.kd c).row h ht (by omega) (t' := 5) (by omega) (v := m) hc (by unfold sto at hN; omega)
  have hb := (h.kd c).bd h ht (by omega) (c := c.toNat) (by omega)
  have e : up3 a 5 0 c.toNat (a 5 0 c.toNat + zI m) = givS a c m := rfl
  rw [e] at k
  obtain ⟨k1, k2, k3, k4, k5, k6, -⟩ := k
  obtain ⟨-, -, -, -, h5, h6, h7⟩ := h
  refine ⟨⟨k1, k2, k3, k4, fun j hj => ?_, by omega, by omega⟩, fun j hj => ?_, by omega⟩
  · have h1 := k5 j hj; have := h5 j hj; split at h1 <;> omega
  · rw [if_pos hs]
    have h1 := k5 j hj
    have hv : sto (givS a c m) j = if j = c.toNat then sto a j + m else sto a j := by
      unfold sto givS
      rw [row_v]
      by_cases hq : j = c.toNat
      · subst hq
        rw [if_pos ⟨rfl, rfl⟩, if_pos rfl]
        exact tI (by unfold sto at hb; omega)
      · rw [if_neg (fun z => hq z.2), if_neg hq]
    rw [hv]
    by_cases hq : j = c.toNat
    · rw [if_pos hq]; rw [if_pos (by omega)] at h1; omega
    · rw [if_neg hq]; rw [if_neg (by omega)] at h1; omega
theorem rain_kd {t : Int} {a : St} (h : J t a) {r : Int} (hr : 0 ≤ r ∧ r ≤ 3) : KD a (up3 a 0 0 3 (zI r)) 0 0 0 := by
  have hw := h.2.2.1
  refine (h.kd 0).num (by omega) ?_ ?_
  · unfold WB rn lim at hw ⊢
    rw [up3_s, up3_n (by omega), zI_toInt (by omega)]
    omega
  · unfold dy
    rw [up3_n (by omega)]
    omega
theorem limit_kd {t : Int} {a : St} (h : J t a) {r : Int} (hr : 1 ≤ r ∧ r ≤ 9) : KD a (up3 a 0 0 4 (zI r)) 0 0 0 := by
  have hw := h.2.2.1
  refine (h.kd 0).num (by omega) ?_ ?_
  · unfold WB rn lim at hw ⊢
    rw [up3_s, up3_n (by omega), zI_toInt (by omega)]
    omega
  · unfold dy
    rw [up3_n (by omega)]
    omega
theorem newP_kj {t : Int} {a : St} (h : J t a) {c s : Int} (he : ePile a c s = 0) (hs : 1 ≤ s ∧ s ≤ 6) : KJ a (newP a c s) := by
  have hI := h.1
  have hg := newP_g hI he
  have e1 := newP_np (a := a) (c := c) (s := s) ⟨hI.1.1, hI.1.2.1⟩
  have hn := hI.1
  have hbn : bl (newP a c s) (np a).toNat = 0 := by
    show (newP a c s 1 _ 2).toInt = _
    rw [newP_v, if_neg (by omega), if_pos ⟨rfl, rfl, rfl⟩]
    rfl
  have ho : ∀ p : Nat, ¬ p = (np a).toNat → bl (newP a c s) p = bl a p ∧ cal (newP a c s) p = cal a p := fun p hp => ⟨congrArg Int32.toInt (newP_o (by omega) (by omega)), congrArg Int32.toInt (newP_o (by omega) (by omega))⟩
  refine KJ.mk hg.1 (fun p k hp hk => ?_) ?_ (fun j hj => ?_) (fun j hj => ?_) (congrArg Int32.toInt (newP_o (by omega) (by omega)))
  · by_cases hpn : p = (np a).toNat
    · subst hpn; rw [hbn] at hk; omega
    · rw [(ho p hpn).1] at hk
      have := h.2.1 p k (by omega) hk
      unfold rs at this ⊢
      rw [newP_o (by omega) (by omega)]
      exact this
  · have := h.2.2.1
    unfold WB rn lim at this ⊢
    rw [newP_o (by omega) (by omega), newP_o (by omega) (by omega)]
    exact this
  · have := h.2.2.2.1 j hj
    unfold sto loo fir gon at this ⊢
    rw [newP_o (by omega) (by omega), newP_o (by omega) (by omega), newP_o (by omega) (by omega), newP_o (by omega) (by omega)]
    exact this
  · have hof := ofC_same (a := a) (b := newP a c s) (fun p hp => ⟨(ho p (by omega)).2, (ho p (by omega)).1⟩) j (np a).toNat (by omega)
    unfold tot sto loo fir gon
    rw [newP_o (by omega) (by omega), newP_o (by omega) (by omega), newP_o (by omega) (by omega), newP_o (by omega) (by omega), e1, show (np a + 1).toNat = (np a).toNat + 1 by omega, ofCal, hbn, hof]
    split <;> omega
theorem newC_kj {t : Int} {a : St} (h : J t a) {k : Int} (he : eCat a k = 0) : KJ a (newC a k) := by
  have hI := h.1
  have hg := newC_g hI he
  refine KJ.mk hg.1 (fun p j hp hj => ?_) ?_ (fun j hj => ?_) (fun j hj => ?_) (congrArg Int32.toInt (newC_o (by omega) (by omega)))
  · rw [newC_np] at hp
    rw [show bl (newC a k) p = bl a p from congrArg Int32.toInt (newC_o (by omega) (by omega))] at hj
    have := h.2.1 p j hp hj
    unfold rs at this ⊢
    rw [newC_o (by omega) (by omega)]
    exact this
  · have := h.2.2.1
    unfold WB rn lim at this ⊢
    rw [newC_o (by omega) (by omega), newC_o (by omega) (by omega)]
    exact this
  · have := h.2.2.2.1 j hj
    unfold sto loo fir gon at this ⊢
    rw [newC_o (by omega) (by omega), newC_o (by omega) (by omega), newC_o (by omega) (by omega), newC_o (by omega) (by omega)]
    exact this
  · have hof := ofC_same (a := a) (b := newC a k) (fun p hp => ⟨congrArg Int32.toInt (newC_o (by omega) (by omega)), congrArg Int32.toInt (newC_o (by omega) (by omega))⟩) j (np a).toNat (by have := hI.1; omega)
    unfold tot sto loo fir gon
    rw [newC_o (by omega) (by omega), newC_o (by omega) (by omega), newC_o (by omega) (by omega), newC_o (by omega) (by omega), newC_np, hof]
theorem subN (x : Int32) (m : Int) : x - zI m = x + zI (-m) := by rw [← zI_neg, Int32.sub_eq_add_neg]
theorem putN_kd {t : Int} {a : St} (h : J t a) {p : Nat} (hp : (p : Int) < np a) : ∀ n : Nat, bl a p + n ≤ sq (sd a p) → KD a (putN a p n) (cal a p) n 0
  | 0, _ => h.kd _
  | n + 1, hn => by
    obtain ⟨i1, i2, i3, i4, i5, i6⟩ := putN_i h.1 hp n (by omega)
    exact (putN_kd h hp n (by omega)).put (by rw [i2]; exact hp) (by rw [i4, (i5 p).1]; omega) (by decide) (i5 p).2
theorem stk_kd {t : Int} {a : St} (h : J t a) (ht : 0 ≤ t ∧ t ≤ 100) {p : Nat} (hp : (p : Int) < np a) {m : Int} (hm : 1 ≤ m ∧ m ≤ sto a (cal a p).toNat ∧ bl a p + m ≤ sq (sd a p)) : KD a (stkS a p m) (cal a p) 0 0 := by
  obtain ⟨hPO, hc⟩ := h.1.2.1 p hp
  have hPO2 := hPO
  unfold PO at hPO2
  have hsq := sq_le (e := sd a p) ⟨hPO.1, hPO.2.1⟩
  obtain ⟨i1, i2, i3, i4, i5, i6⟩ := putN_i h.1 hp m.toNat (by omega)
  have k := (putN_kd h hp m.toNat (by omega)).row h ht (by omega) (t' := 5) (by omega) (v := -m) (by omega) (by rw [i6]; unfold sto at hm; omega)
  rw [show ((m.toNat : Nat) : Int) + -m = 0 by omega] at k
  have e : up3 (putN a p m.toNat) 5 0 (cal a p).toNat (putN a p m.toNat 5 0 (cal a p).toNat + zI (-m)) = stkS a p m := by
    rw [i6, ← subN]
    rfl
  rw [e] at k
  exact k
theorem firL_kd {t : Int} {a : St} (h : J t a) {p : Nat} (hp : (p : Int) < np a) : ∀ n : Nat, (n : Int) ≤ bl a p → KD a (firL a p n).1 (cal a p) (-(n : Int)) 0
  | 0, _ => h.kd _
  | n + 1, hn => by
    obtain ⟨i1, i2, i3, i4, i5, i6⟩ := firL_i h.1 hp n (by omega)
    have k := (firL_kd h hp n (by omega)).top (p := p) (by rw [i2]; exact hp) (by rw [i4]; omega) (i5 p).2
    rw [show -(n : Int) + -1 = -((n + 1 : Nat) : Int) by omega] at k
    exact k
theorem fir_kd {t : Int} {a : St} (h : J t a) (ht : 0 ≤ t ∧ t ≤ 100) {p : Nat} (hp : (p : Int) < np a) {m : Int} (hm : 1 ≤ m ∧ m ≤ bl a p) : KD a (firS a p m) (cal a p) 0 0 := by
  obtain ⟨hPO, hc⟩ := h.1.2.1 p hp
  have hPO2 := hPO
  unfold PO at hPO2
  have hsq := sq_le (e := sd a p) ⟨hPO.1, hPO.2.1⟩
  obtain ⟨i1, i2, i3, i4, i5, i6⟩ := firL_i h.1 hp m.toNat (by omega)
  have hN := h.2.2.2.1 (cal a p).toNat (by omega)
  have k := (firL_kd h hp m.toNat (by omega)).row h ht (by omega) (t' := 6) (by omega) (v := m) (by omega) (by rw [i6]; unfold fir at hN; omega)
  rw [show -((m.toNat : Nat) : Int) + m = 0 by omega] at k
  have e : up3 (firL a p m.toNat).1 6 0 (cal a p).toNat ((firL a p m.toNat).1 6 0 (cal a p).toNat + zI m) = firS a p m := by
    rw [i6]
    rfl
  rw [e] at k
  exact k
theorem mn3_b {x : Int32} (h : 0 ≤ x.toInt ∧ x.toInt ≤ 9) : 0 ≤ (x - mnI x (zI 3)).toInt ∧ (x - mnI x (zI 3)).toInt ≤ 9 := by
  have e3 : (zI 3).toInt = 3 := by decide
  unfold mnI
  split
  · have h2 : (3 : Int) < x.toInt := by rw [← e3]; exact Int32.lt_iff_toInt_lt.mp (by assumption)
    rw [tS (by omega)]
    omega
  · rw [show x - x = zI 0 by rw [Int32.sub_self, zI_0]]
    decide
theorem sc_kd {t : Int} {a : St} (h : J t a) {p : Nat} (hp : (p : Int) < np a) : ∀ n : Nat, (n : Int) ≤ bl a p → KD a (scL a p n).1 0 0 0
  | 0, _ => h.kd _
  | n + 1, hn => by
    have ih := sc_kd h hp n (by omega)
    have eb := (sc_e a p n).bl (p := p)
    cases hc : cv (scL a p n).1 p n with
    | true => rw [sc_t hc]; exact ih
    | false =>
      rw [sc_f hc]
      have hk := ih.2.1 p n (by rw [ih.2.2.2.2.2.2.2.1]; exact hp) (by rw [eb]; omega)
      exact ih.rust (by rw [ih.2.2.2.2.2.2.2.1]; exact hp) (mn3_b hk)
theorem ta_kd {t : Int} {a : St} (h : J t a) {p : Nat} (hp : (p : Int) < np a) (lim : Int32) : ∀ n : Nat, (n : Int) ≤ bl a p → KD a (taL a p lim n).1 0 0 0
  | 0, _ => h.kd _
  | n + 1, hn => by
    have ih := ta_kd h hp lim n (by omega)
    have eb := (ta_e a p lim n).1.bl (p := p)
    by_cases hc : (taL a p lim n).1 2 p n < lim
    · rw [ta_t hc]
      have hk := ih.2.1 p n (by rw [ih.2.2.2.2.2.2.2.1]; exact hp) (by rw [eb]; omega)
      exact ih.rust (by rw [ih.2.2.2.2.2.2.2.1]; exact hp) hk
    · rw [ta_f hc]; exact ih
theorem ins_kd {t : Int} {a : St} (h : J t a) (ht : 0 ≤ t ∧ t ≤ 100) {p : Nat} (hp : (p : Int) < np a) : KD a (inspS a p) (cal a p) 0 0 := by
  obtain ⟨hPO, hc⟩ := h.1.2.1 p hp
  have hPO2 := hPO
  unfold PO at hPO2
  have hsq := sq_le (e := sd a p) ⟨hPO.1, hPO.2.1⟩
  have k0 := (ta_kd h hp (a 0 0 4) (bl a p).toNat (by omega)).cc0 (cal a p)
  obtain ⟨et, en⟩ := ta_e a p (a 0 0 4) (bl a p).toNat
  have ep : np (taL a p (a 0 0 4) (bl a p).toNat).1 = np a := congrArg Int32.toInt (et 0 0 0 (by decide))
  have eb := et.bl (p := p)
  have ec : cal (taL a p (a 0 0 4) (bl a p).toNat).1 p = cal a p := congrArg Int32.toInt (et 1 p 0 (by decide))
  have hbl : bl (insS a p (a 0 0 4)) p = (taL a p (a 0 0 4) (bl a p).toNat).2 := bl_s (by omega)
  have k1 := k0.pile (b2 := insS a p (a 0 0 4)) (p := p) (x := (taL a p (a 0 0 4) (bl a p).toNat).2 - bl a p) (insS_g h.1 hp _).1 (fun q j hq hj => by
      have hq2 : (q : Int) < np a := by rw [show np (insS a p (a 0 0 4)) = np (taL a p (a 0 0 4) (bl a p).toNat).1 from np_up (by omega), ep] at hq; exact hq
      have hb2 : bl (insS a p (a 0 0 4)) q ≤ bl (taL a p (a 0 0 4) (bl a p).toNat).1 q := by
        by_cases hqp : q = p
        · subst hqp; rw [hbl, eb]; omega
        · rw [show bl (insS a p (a 0 0 4)) q = bl (taL a p (a 0 0 4) (bl a p).toNat).1 q from bl_up (by omega)]; omega
      have := k0.2.1 q j (by rw [ep]; exact hq2) (by omega)
      unfold rs at this ⊢
      rw [insS, up3_n (by omega)]
      exact this) (fun j => up3_n (by omega)) (fun t' j ht' => up3_n (by omega)) (fun q => cal_up (by omega)) (fun q hq => bl_up (by omega)) (by rw [ep]; exact hp) (by rw [hbl, eb]; omega) ec
  have hN := h.2.2.2.1 (cal a p).toNat (by omega)
  have e7 : insS a p (a 0 0 4) 7 0 (cal a p).toNat = a 7 0 (cal a p).toNat := by rw [insS, up3_n (by omega), et 7 0 _ (by decide)]
  have hv : insV a p (a 0 0 4) = bl a p - (taL a p (a 0 0 4) (bl a p).toNat).2 := rfl
  have k := k1.row h ht (by omega) (t' := 7) (by omega) (v := insV a p (a 0 0 4)) (by omega) (by rw [e7, hv]; unfold gon at hN; omega)
  rw [e7, hv, show (0 : Int) + ((taL a p (a 0 0 4) (bl a p).toNat).2 - bl a p) + (bl a p - (taL a p (a 0 0 4) (bl a p).toNat).2) = 0 by omega] at k
  exact k
theorem sh_kd {t : Int} {a : St} (h : J t a) {f g : Nat} (hf : (f : Int) < np a) (hg : (g : Int) < np a) (hne : ¬ f = g) (hc : cal a f = cal a g) : ∀ n : Nat, (n : Int) ≤ bl a f → bl a g + n ≤ sq (sd a g) → KD a (shN a f g n) (cal a f) 0 0
  | 0, _, _ => h.kd _
  | n + 1, hn, hm => by
    obtain ⟨i1, i2, i3, i4, i5, i6⟩ := shN_i h.1 hf hg hne n (by omega) (by omega)
    have ih := sh_kd h hf hg hne hc n (by omega) (by omega)
    have k1 := ih.top (p := f) (by rw [i2]; exact hf) (by rw [i4]; omega) (i6 f).2
    have hr := ih.2.1 f (bl (shN a f g n) f - 1).toNat (by rw [i2]; exact hf) (by omega)
    have k2 := k1.put (p := g) (v := topV (shN a f g n) f) (by rw [topS_np, i2]; exact hg) (by rw [topS_bn (fun q => hne q.symm), topS_sd, i5, (i6 g).1]; omega) hr (by rw [topS_cal, (i6 g).2, hc])
    rw [show (0 : Int) + -1 + 1 = 0 by omega] at k2
    exact k2
theorem KD.bd9 {t : Int} {a b : St} {cc e : Int} (h : J t a) (ht : 0 ≤ t ∧ t ≤ 100) (k : KD a b cc 0 e) {c : Nat} (hc : c < 5) : 0 ≤ sto b c ∧ sto b c ≤ 9900 ∧ 0 ≤ loo b c ∧ loo b c ≤ 9900 := by
  obtain ⟨k1, k2, k3, k4, k5, k6, -⟩ := k
  have h1 := k5 c hc
  have h2 := h.2.2.2.2.1 c hc
  have h3 := ofC_b k1 c (np b).toNat (by have := k1.1; omega)
  have h4 := k4 c hc
  unfold tot at h1
  unfold tot at h2
  split at h1 <;> omega
theorem ga_kd {t : Int} {a : St} (h : J t a) (ht : 0 ≤ t ∧ t ≤ 100) : ∀ n : Nat, n ≤ 5 → KD a (gaL a n).1 0 0 0
  | 0, _ => h.kd _
  | n + 1, hn => by
    have k0 := (ga_kd h ht n (by omega)).cc0 n
    obtain ⟨b1, b2, b3, b4⟩ := k0.bd9 h ht (c := n) (by omega)
    have k1 := k0.row h ht (by omega) (t' := 5) (by omega) (v := loo (gaL a n).1 n) (by omega) (by show 0 ≤ ((gaL a n).1 5 0 n).toInt + _ ∧ _; unfold sto at b1; omega)
    have e5 : up3 (gaL a n).1 5 0 ((n : Nat) : Int).toNat ((gaL a n).1 5 0 ((n : Nat) : Int).toNat + zI (loo (gaL a n).1 n)) = up3 (gaL a n).1 5 0 n ((gaL a n).1 5 0 n + (gaL a n).1 4 0 n) := by
      show up3 (gaL a n).1 5 0 n ((gaL a n).1 5 0 n + zI (loo (gaL a n).1 n)) = _
      rw [loo, zI_self]
    rw [e5] at k1
    have e4 : up3 (gaL a n).1 5 0 n ((gaL a n).1 5 0 n + (gaL a n).1 4 0 n) 4 0 n = (gaL a n).1 4 0 n := up3_n (by omega)
    have k2 := k1.row h ht (by omega) (t' := 4) (by omega) (v := -(loo (gaL a n).1 n)) (by omega) (by show 0 ≤ (up3 _ 5 0 n _ 4 0 n).toInt + _ ∧ _; rw [e4]; unfold loo at b3 b4 ⊢; omega)
    have e6 : up3 (up3 (gaL a n).1 5 0 n ((gaL a n).1 5 0 n + (gaL a n).1 4 0 n)) 4 0 ((n : Nat) : Int).toNat (up3 (gaL a n).1 5 0 n ((gaL a n).1 5 0 n + (gaL a n).1 4 0 n) 4 0 ((n : Nat) : Int).toNat + zI (-(loo (gaL a n).1 n))) = (gaL a (n + 1)).1 := by
      show up3 (up3 (gaL a n).1 5 0 n ((gaL a n).1 5 0 n + (gaL a n).1 4 0 n)) 4 0 n (up3 (gaL a n).1 5 0 n ((gaL a n).1 5 0 n + (gaL a n).1 4 0 n) 4 0 n + zI (-(loo (gaL a n).1 n))) = _
      rw [e4, show (gaL a n).1 4 0 n = zI (loo (gaL a n).1 n) from (zI_self _).symm, zI_add, Int.add_right_neg]
      show _ = up3 (up3 (gaL a n).1 5 0 n ((gaL a n).1 5 0 n + (gaL a n).1 4 0 n)) 4 0 n (zI 0)
      rw [show (gaL a n).1 4 0 n = zI (loo (gaL a n).1 n) from (zI_self _).symm]
    rw [e6, show (0 : Int) + loo (gaL a n).1 n + -(loo (gaL a n).1 n) = 0 by omega] at k2
    exact k2.cc0 0
theorem ru_b {x y : Int32} (hx : 0 ≤ x.toInt ∧ x.toInt ≤ 9) (hy : 0 ≤ y.toInt ∧ y.toInt ≤ 4) : 0 ≤ (mnI (x + y) (zI 9)).toInt ∧ (mnI (x + y) (zI 9)).toInt ≤ 9 := by
  have e9 : (zI 9).toInt = 9 := by decide
  have e := tI (x := x) (v := y.toInt) (by omega)
  rw [zI_self] at e
  unfold mnI
  split
  · rw [e9]; omega
  · have h2 : ¬ (zI 9).toInt < (x + y).toInt := fun q => absurd (Int32.lt_iff_toInt_lt.mpr q) (by assumption)
    rw [e9, e] at h2
    rw [e]
    omega
theorem rain_b {r : Int32} (h : 0 ≤ r.toInt ∧ r.toInt ≤ 3) : (0 ≤ (r / zI 2).toInt ∧ (r / zI 2).toInt ≤ 4) ∧ 0 ≤ (zI 1 + r).toInt ∧ (zI 1 + r).toInt ≤ 4 := by
  have e : r = zI r.toInt := (zI_self r).symm
  refine ⟨?_, ?_⟩
  · rw [e, zI_div (by omega) (by omega), zI_toInt (by omega)]; omega
  · rw [e, zI_add, zI_toInt (by omega)]; omega
section KDP
variable {a b : St} {cc d e t : Int}
theorem KD.ras (k : KD a b cc d e) {p : Nat} (hp : (p : Int) < np b) {rain : Int32} (hr : 0 ≤ rain.toInt ∧ rain.toInt ≤ 3) : ∀ n : Nat, (n : Int) ≤ bl b p → KD a (raS b p rain n) cc d e
  | 0, _ => k
  | n + 1, hn => by
    have ih := k.ras hp hr n (by omega)
    have en : np (raS b p rain n) = np b := congrArg Int32.toInt (ra_e b p rain n 0 0 0 (by decide))
    have eb := (ra_e b p rain n).bl (p := p)
    have hv := ih.2.1 p n (by rw [en]; exact hp) (by rw [eb]; omega)
    rw [raS]
    refine ih.rust (by rw [en]; exact hp) ?_
    have hrb := rain_b hr
    split
    · exact ru_b hv hrb.1
    · exact ru_b hv hrb.2
theorem KD.raa (k : KD a b cc d e) : ∀ n : Nat, (n : Int) ≤ np b → KD a (raAll b n) cc d e
  | 0, _ => k
  | n + 1, hn => by
    have ih := k.raa n (by omega)
    have en : np (raAll b n) = np b := congrArg Int32.toInt (raAll_e b n 0 0 0 (by decide))
    have hb := ((ih.1.2.1 n (by rw [en]; omega)).1).2.2.1
    have hw := ih.2.2.1
    unfold WB rn at hw
    rw [raAll]
    exact ih.ras (by rw [en]; omega) ⟨hw.1, hw.2.1⟩ _ (by omega)
theorem KD.lj (h : J t a) (ht : 0 ≤ t ∧ t ≤ 100) (k : KD a b 0 0 e) {c : Nat} (hc : (c : Int) < nc b) (hn : 0 < np b) : KD a (ljS b c) 0 0 e := by
  have hj := jmpO_b k.1 hc hn
  have hIj := jmpS_i k.1 hc hn
  have kj : KD a (jmpS b c) 0 0 e := k.cat hIj
  have hp : (jmpP b c : Int) < np (jmpS b c) := by rw [jmpS_np, jmpP]; omega
  unfold ljS
  by_cases hb : brk (jmpS b c) (jmpP b c) = true
  · rw [if_pos hb]
    obtain ⟨hPO, hcl⟩ := hIj.2.1 _ hp
    have h1 := brk_b hPO hb
    have k1 := (kj.cc0 (cal (jmpS b c) (jmpP b c))).top hp h1 rfl
    have e4 : topS (jmpS b c) (jmpP b c) 4 0 (cal (jmpS b c) (jmpP b c)).toNat = jmpS b c 4 0 (cal (jmpS b c) (jmpP b c)).toNat := topS_o (by omega)
    have hN := kj.2.2.2.1 (cal (jmpS b c) (jmpP b c)).toNat (by omega)
    have k2 := k1.row h ht (by omega) (t' := 4) (by omega) (v := 1) (by omega) (by rw [e4]; unfold loo at hN; omega)
    rw [e4] at k2
    have k3 := k2.cat (q := c) (j := 2) (v := jmpS b c 3 c 2 + zI 1) (offS_i hIj hp h1 (by rw [jmpS_nc]; exact hc))
    rw [show (0 : Int) + -1 + 1 = 0 by omega] at k3
    exact k3.cc0 0
  · rw [if_neg hb]
    exact kj
theorem KD.ja (h : J t a) (ht : 0 ≤ t ∧ t ≤ 100) (k : KD a b 0 0 e) (hn : 0 < np b) : ∀ n : Nat, (n : Int) ≤ nc b → KD a (jumpAll b n).1 0 0 e
  | 0, _ => k
  | n + 1, hc => by
    obtain ⟨i1, i2, i3⟩ := jumpAll_i k.1 hn n (by omega)
    exact (k.ja h ht hn n (by omega)).lj h ht (by rw [i3]; omega) (by rw [i2]; exact hn)
theorem KD.day (h : J t a) (ht : 0 ≤ t ∧ t ≤ 100) (k : KD a b 0 0 e) (he : 0 ≤ e ∧ e ≤ 100) : KD a (dayS b) 0 0 (e + 1) := by
  have k1 := k.raa (np b).toNat (by have := k.1.1; omega)
  have k2 : KD a (catsS (raAll b (np b).toNat)).1 0 0 e := by
    unfold catsS
    split
    · exact k1.ja h ht (by assumption) _ (by have := k1.1.1; omega)
    · exact k1
  have hd := k2.2.2.2.2.2.1
  have hd0 := h.2.2.2.2.2
  unfold dy at hd hd0
  rw [dayS]
  refine k2.num (by omega) ?_ ?_
  · have hw := k2.2.2.1
    unfold WB rn lim at hw ⊢
    rw [up3_n (by omega), up3_n (by omega)]
    exact hw
  · unfold dy
    rw [up3_s, tI (by omega)]
    omega
end KDP
theorem pass_kd {t : Int} {a : St} (h : J t a) (ht : 0 ≤ t ∧ t ≤ 100) : ∀ n : Nat, n ≤ 50 → KD a (passL a n).1 0 0 n
  | 0, _ => h.kd 0
  | n + 1, hn => by
    have := (pass_kd h ht n (by omega)).day h ht (by omega)
    exact this
/-- two changes change places -/
theorem up3_c {f : St} {t i j t' i' j' : Nat} {v v' : Int32} (h : ¬ (t = t' ∧ i = i' ∧ j = j')) : up3 (up3 f t i j v) t' i' j' v' = up3 (up3 f t' i' j' v') t i j v := by
  funext x y z
  rw [up3_e, up3_e, up3_e, up3_e]
  by_cases h1 : x = t' ∧ y = i' ∧ z = j'
  · rw [if_pos h1, if_neg (by omega), if_pos h1]
  · rw [if_neg h1]
    by_cases h2 : x = t ∧ y = i ∧ z = j
    · rw [if_pos h2, if_pos h2]
    · rw [if_neg h2, if_neg h2, if_neg h1]
theorem putN_5 (a : St) (p c : Nat) (v : Int32) : ∀ n : Nat, putN (up3 a 5 0 c v) p n = up3 (putN a p n) 5 0 c v
  | 0 => rfl
  | n + 1 => by
    have e : bl (up3 (putN a p n) 5 0 c v) p = bl (putN a p n) p := bl_up (by omega)
    show putS (putN (up3 a 5 0 c v) p n) p (zI 0) = up3 (putS (putN a p n) p (zI 0)) 5 0 c v
    rw [putN_5 a p c v n, putS, putS, e, up3_c (t := 5) (t' := 2) (by omega), up3_c (t := 5) (t' := 1) (by omega)]
/-- an inspection as the law does it: k balls looked at -/
def tkS (a : St) (p : Nat) (lim : Int32) (k : Nat) : St := up3 (taL a p lim k).1 1 p 2 (zI (taL a p lim k).2)
theorem tk_0 (a : St) (p : Nat) (lim : Int32) : up3 a 1 p 2 (zI 0) = tkS a p lim 0 := rfl
theorem tk_2 (a : St) (p : Nat) (lim : Int32) (k j : Nat) : tkS a p lim k 2 p j = (taL a p lim k).1 2 p j := up3_n (by omega)
theorem tk_bl {a : St} {p : Nat} {lim : Int32} {k : Nat} (hk : k ≤ 91) : bl (tkS a p lim k) p = (taL a p lim k).2 := bl_s (by have := (ta_e a p lim k).2; omega)
theorem up3_up3 {f : St} {t i j : Nat} {v w : Int32} : up3 (up3 f t i j v) t i j w = up3 f t i j w := by
  funext x y z
  rw [up3_e, up3_e, up3_e]
  split <;> rfl
theorem tk_s {a : St} {p : Nat} {lim : Int32} {k : Nat} (hk : k ≤ 91) (h : (taL a p lim k).1 2 p k < lim) : putS (tkS a p lim k) p ((taL a p lim k).1 2 p k) = tkS a p lim (k + 1) := by
  rw [putS, tk_bl hk, tkS, tkS, ta_t h, up3_c (by omega), up3_up3]
  show _ = up3 (up3 (taL a p lim k).1 2 p (taL a p lim k).2 ((taL a p lim k).1 2 p k)) 1 p 2 (zI (((taL a p lim k).2 : Int) + 1))
  first | rfl | (rw [up3_c (t := 1) (t' := 2) (by omega)]; rfl)
theorem tk_f {a : St} {p : Nat} {lim : Int32} {k : Nat} (h : ¬ (taL a p lim k).1 2 p k < lim) : tkS a p lim k = tkS a p lim (k + 1) := by
  rw [tkS, tkS, ta_f h]
theorem mn3 {x : Int32} : (¬ zI 3 ≤ x → x = mnI x (zI 3)) ∧ (zI 3 ≤ x → zI 3 = mnI x (zI 3)) := by
  unfold mnI
  refine ⟨fun h => ?_, fun h => ?_⟩
  · rw [if_neg (fun q => h (Int32.le_of_lt q))]
  · by_cases q : zI 3 < x
    · rw [if_pos q]
    · rw [if_neg q]; exact Int32.le_antisymm h (Int32.not_lt.mp q)
/-- a number below n, as the law draws it -/
def beV (v : Int32) (n : Int) : Int := (v &&& 2147483647).toInt % n
theorem and_nn (x : Int32) : 0 ≤ (x &&& 2147483647).toInt := by
  show 0 ≤ (x.toBitVec &&& 2147483647#32).toInt
  rw [BitVec.toInt_eq_msb_cond, BitVec.msb_and, show (2147483647#32).msb = false from by decide, Bool.and_false]
  exact Int.natCast_nonneg _
theorem beV_b (v : Int32) {n : Int} (hn : 1 ≤ n) : 0 ≤ beV v n ∧ beV v n < n := ⟨Int.emod_nonneg _ (by omega), Int.emod_lt_of_pos _ (by omega)⟩
theorem AJ.of_kj {t srt : Int} {a b : St} (h : J t a) (ht : 0 ≤ t) (hs : ¬ (srt = 2 ∨ srt = 3)) (k : KJ a b) : AJ t srt a b := KJ.aj h ht hs k
