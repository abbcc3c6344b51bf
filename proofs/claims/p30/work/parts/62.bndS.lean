/-! ===== BOUNDS: what a bastion keeps under the acts of the law ===== -/
theorem i32_ar (x y z : Int32) : x + y + z = x + z + y := by rw [Int32.add_assoc, Int32.add_comm y z, ← Int32.add_assoc]
theorem sum5_add {f g : Nat → Int32} {v : Int32} {c : Nat} (h : ∀ j : Nat, g j = if j = c then f j + v else f j) : ∀ n : Nat, sum5 g n = if c < n then sum5 f n + v else sum5 f n
  | 0 => by rw [if_neg (by omega)]; rfl
  | n + 1 => by
    rw [sum5, sum5, sum5_add h n, h n]
    by_cases h1 : c < n
    · rw [if_pos h1, if_neg (by omega), if_pos (by omega), i32_ar]
    · by_cases h2 : n = c
      · rw [if_neg h1, if_pos h2, if_pos (by omega), Int32.add_assoc]
      · rw [if_neg h1, if_neg h2, if_neg (by omega)]
theorem ljM {a : St} (h : Inv a) {c : Nat} (hc : (c : Int) < nc a) (hn : 0 < np a) : sum5 (ljS a c 4 0) 5 = sum5 (a 4 0) 5 + zI (ljV a c) := by
  have hj := jmpO_b h hc hn
  have hJ := (jmpS_i h hc hn).2.1 (jmpP a c) (by rw [jmpS_np, jmpP]; omega)
  have e0 : ∀ j : Nat, jmpS a c 4 0 j = a 4 0 j := fun j => up3_n (by omega)
  unfold ljS ljV
  by_cases hb : brk (jmpS a c) (jmpP a c) = true
  · rw [if_pos hb, if_pos hb]
    rw [sum5_add (f := a 4 0) (v := zI 1) (c := (cal (jmpS a c) (jmpP a c)).toNat) (fun j => ?_) 5, if_pos (by have := hJ.2; omega)]
    rw [offS, up3_n (by omega), up3_e]
    by_cases hq : j = (cal (jmpS a c) (jmpP a c)).toNat
    · rw [if_pos ⟨rfl, rfl, hq⟩, if_pos hq, e0, hq]
    · rw [if_neg (fun z => hq z.2.2), if_neg hq, topS, up3_n (by omega), e0]
  · rw [if_neg hb, if_neg hb, zI_0, Int32.add_zero]
    exact congrArg (fun f => sum5 f 5) (funext e0)
theorem jumpM {a : St} (h : Inv a) (hn : 0 < np a) : ∀ n : Nat, (n : Int) ≤ nc a → sum5 ((jumpAll a n).1 4 0) 5 = sum5 (a 4 0) 5 + zI (jumpAll a n).2
  | 0, _ => by show sum5 (a 4 0) 5 = _ + zI 0; rw [zI_0, Int32.add_zero]
  | n + 1, hc => by
    obtain ⟨i1, i2, i3⟩ := jumpAll_i h hn n (by omega)
    show sum5 (ljS (jumpAll a n).1 n 4 0) 5 = _ + zI ((jumpAll a n).2 + ljV (jumpAll a n).1 n)
    rw [ljM i1 (by omega) (by omega), jumpM h hn n (by omega), ← zI_add, Int32.add_assoc]
theorem dayVM {a : St} (h : Inv a) : sum5 (dayS a 4 0) 5 = sum5 (a 4 0) 5 + zI (dayV a) := by
  have h1 := raAll_i h (np a).toNat (by have := h.1; omega)
  have e4 : raAll a (np a).toNat 4 0 = a 4 0 := funext (fun j => raAll_e a _ 4 0 j (by decide))
  have ed : dayS a 4 0 = (catsS (raAll a (np a).toNat)).1 4 0 := by
    rw [dayS]
    show upR _ 0 0 _ 4 0 = _
    exact upR_n (by omega)
  rw [ed, dayV, catsS]
  by_cases hn : 0 < np (raAll a (np a).toNat)
  · rw [if_pos hn, jumpM h1 hn _ (by have := h1.1; omega), e4]
  · rw [if_neg hn, zI_0, Int32.add_zero]
    exact congrArg (fun f => sum5 f 5) e4
theorem passVM {a : St} (h : Inv a) : ∀ n : Nat, sum5 ((passL a n).1 4 0) 5 = sum5 (a 4 0) 5 + zI (passL a n).2
  | 0 => by show sum5 (a 4 0) 5 = _ + zI 0; rw [zI_0, Int32.add_zero]
  | n + 1 => by
    show sum5 (dayS (passL a n).1 4 0) 5 = _ + zI ((passL a n).2 + dayV (passL a n).1)
    rw [dayVM (passL_i h n).1, passVM h n, ← zI_add, Int32.add_assoc]
def sto (a : St) (c : Nat) : Int := (a 5 0 c).toInt
def loo (a : St) (c : Nat) : Int := (a 4 0 c).toInt
def fir (a : St) (c : Nat) : Int := (a 6 0 c).toInt
def gon (a : St) (c : Nat) : Int := (a 7 0 c).toInt
def rs (a : St) (p k : Nat) : Int := (a 2 p k).toInt
def rn (a : St) : Int := (a 0 0 3).toInt
def lim (a : St) : Int := (a 0 0 4).toInt
def dy (a : St) : Int := (a 0 0 2).toInt
def tot (a : St) (c : Nat) : Int := sto a c + loo a c + ofCal a c (np a).toNat + fir a c + gon a c
def RB (a : St) : Prop := ∀ p k : Nat, (p : Int) < np a → (k : Int) < bl a p → 0 ≤ rs a p k ∧ rs a p k ≤ 9
def NB (a : St) : Prop := ∀ c : Nat, c < 5 → 0 ≤ sto a c ∧ 0 ≤ loo a c ∧ 0 ≤ fir a c ∧ 0 ≤ gon a c
def WB (a : St) : Prop := 0 ≤ rn a ∧ rn a ≤ 3 ∧ 1 ≤ lim a ∧ lim a ≤ 9
def J (t : Int) (a : St) : Prop := Inv a ∧ RB a ∧ WB a ∧ NB a ∧ (∀ c : Nat, c < 5 → tot a c ≤ 99 * t) ∧ 0 ≤ dy a ∧ dy a ≤ 3 * t
/-- what an act keeps -/
def AJ (t srt : Int) (a b : St) : Prop := J (t + 1) b ∧ (∀ c : Nat, c < 5 → tot b c = tot a c + (if srt = 2 ∨ srt = 3 then sto b c - sto a c else 0)) ∧ dy a ≤ dy b
/-- what every act but give keeps, step by step -/
def KJ (a b : St) : Prop := Inv b ∧ RB b ∧ WB b ∧ NB b ∧ (∀ c : Nat, c < 5 → tot b c = tot a c ∧ sto b c + loo b c + fir b c + gon b c + ofCal b c (np b).toNat = tot a c) ∧ dy b = dy a
theorem KJ.mk {a b : St} (h1 : Inv b) (h2 : RB b) (h3 : WB b) (h4 : NB b) (h5 : ∀ c : Nat, c < 5 → tot b c = tot a c) (h6 : dy b = dy a) : KJ a b := ⟨h1, h2, h3, h4, fun c hc => ⟨h5 c hc, by have := h5 c hc; unfold tot at this ⊢; omega⟩, h6⟩
theorem J.kj {t : Int} {a : St} (h : J t a) : KJ a a := KJ.mk h.1 h.2.1 h.2.2.1 h.2.2.2.1 (fun _ _ => rfl) rfl
theorem KJ.aj {t srt : Int} {a b : St} (h : J t a) (ht : 0 ≤ t) (hs : ¬ (srt = 2 ∨ srt = 3)) (k : KJ a b) : AJ t srt a b := by
  obtain ⟨k1, k2, k3, k4, k5, k6⟩ := k
  obtain ⟨-, -, -, -, h5, h6, h7⟩ := h
  refine ⟨⟨k1, k2, k3, k4, fun c hc => ?_, by omega, by omega⟩, fun c hc => ?_, by omega⟩
  · have := (k5 c hc).1; have := h5 c hc; omega
  · rw [if_neg hs]; have := (k5 c hc).1; omega
theorem J.aj {t srt : Int} {a : St} (h : J t a) (ht : 0 ≤ t) : AJ t srt a a := by
  obtain ⟨k1, k2, k3, k4, h5, h6, h7⟩ := h
  refine ⟨⟨k1, k2, k3, k4, fun c hc => ?_, by omega, by omega⟩, fun c hc => ?_, by omega⟩
  · have := h5 c hc; omega
  · split <;> omega
theorem ofC_b {a : St} (h : Inv a) (c : Int) : ∀ n : Nat, (n : Int) ≤ np a → 0 ≤ ofCal a c n ∧ ofCal a c n ≤ 91 * n
  | 0, _ => ⟨Int.le_refl _, Int.le_refl _⟩
  | n + 1, hn => by
    have ih := ofC_b h c n (by omega)
    have hP := (h.2.1 n (by omega)).1
    unfold PO at hP
    have hs := sq_le (e := sd a n) ⟨hP.1, hP.2.1⟩
    rw [ofCal]
    split <;> omega
theorem ofC_same {a b : St} (h : ∀ p : Nat, (p : Int) < np a → cal b p = cal a p ∧ bl b p = bl a p) (c : Int) : ∀ n : Nat, (n : Int) ≤ np a → ofCal b c n = ofCal a c n
  | 0, _ => rfl
  | n + 1, hn => by
    have hp := h n (by omega)
    rw [ofCal, ofCal, hp.1, hp.2, ofC_same h c n (by omega)]
/-- the balls of one pile are others -/
theorem ofC_one {a b : St} {p : Nat} (hc : ∀ q : Nat, cal b q = cal a q) (hb : ∀ q : Nat, ¬ q = p → bl b q = bl a q) (c : Int) : ∀ n : Nat, ofCal b c n = ofCal a c n + (if p < n ∧ cal a p = c then bl b p - bl a p else 0)
  | 0 => by rw [if_neg (by omega)]; rfl
  | n + 1 => by
    rw [ofCal, ofCal, ofC_one hc hb c n, hc n]
    by_cases hp : n = p
    · subst hp
      rw [if_neg (show ¬ (n < n ∧ cal a n = c) by omega)]
      by_cases hcc : cal a n = c
      · rw [if_pos hcc, if_pos hcc, if_pos ⟨by omega, hcc⟩]; omega
      · rw [if_neg hcc, if_neg hcc, if_neg (fun q => hcc q.2)]
    · rw [hb n hp]
      by_cases hq : p < n ∧ cal a p = c
      · rw [if_pos hq, if_pos (show p < n + 1 ∧ cal a p = c from ⟨by omega, hq.2⟩)]
        split <;> omega
      · rw [if_neg hq, if_neg (show ¬ (p < n + 1 ∧ cal a p = c) from fun z => hq ⟨by omega, z.2⟩)]
        split <;> omega
theorem tI {x : Int32} {v : Int} (hx : -2147483648 ≤ x.toInt + v ∧ x.toInt + v < 2147483648) : (x + zI v).toInt = x.toInt + v := by
  rw [show x = zI x.toInt from (zI_self x).symm, zI_add, zI_toInt hx, zI_self]
theorem tS {x : Int32} {v : Int} (hx : -2147483648 ≤ x.toInt - v ∧ x.toInt - v < 2147483648) : (x - zI v).toInt = x.toInt - v := by
  rw [show x = zI x.toInt from (zI_self x).symm, zI_sub, zI_toInt hx, zI_self]
/-- a change of one of the four rows leaves the rest -/
theorem row_o {a : St} {t i j : Nat} {v : Int32} (h : 4 ≤ t ∧ t ≤ 7) : (RB a → RB (up3 a t i j v)) ∧ (WB a → WB (up3 a t i j v)) ∧ dy (up3 a t i j v) = dy a ∧ ∀ c : Int, ofCal (up3 a t i j v) c (np (up3 a t i j v)).toNat = ofCal a c (np a).toNat := by
  have en : np (up3 a t i j v) = np a := np_up (by omega)
  refine ⟨fun hr p k hp hk => ?_, fun hw => ?_, congrArg Int32.toInt (up3_n (by omega)), fun c => ?_⟩
  · rw [en] at hp
    rw [bl_up (by omega)] at hk
    have := hr p k hp hk
    unfold rs at this ⊢
    rw [up3_n (by omega)]
    exact this
  · unfold WB rn lim at hw ⊢
    rw [up3_n (by omega), up3_n (by omega)]
    exact hw
  · rw [en]
    have := ofC_one (a := a) (b := up3 a t i j v) (p := (np a).toNat) (fun q => cal_up (by omega)) (fun q _ => bl_up (by omega)) c (np a).toNat
    rw [this, if_neg (by omega)]
    omega
theorem row_v (a : St) (t j : Nat) (v : Int32) (t' c : Nat) : (up3 a t 0 j v t' 0 c).toInt = if t' = t ∧ c = j then v.toInt else (a t' 0 c).toInt := by
  rw [up3_e]
  by_cases h : t' = t ∧ c = j
  · rw [if_pos ⟨h.1, rfl, h.2⟩, if_pos h]
  · rw [if_neg (fun q => h ⟨q.1, q.2.2⟩), if_neg h]
/-- two rows of one calibre change against each other, or one against a pile -/
theorem KJ.bd {a b : St} {t : Int} (h : J t a) (ht : 0 ≤ t ∧ t ≤ 100) (k : KJ a b) {c : Nat} (hc : c < 5) : 0 ≤ sto b c ∧ sto b c ≤ 9900 ∧ 0 ≤ loo b c ∧ loo b c ≤ 9900 ∧ 0 ≤ fir b c ∧ fir b c ≤ 9900 ∧ 0 ≤ gon b c ∧ gon b c ≤ 9900 ∧ 0 ≤ ofCal b c (np b).toNat ∧ ofCal b c (np b).toNat ≤ 9900 := by
  obtain ⟨k1, k2, k3, k4, k5, k6⟩ := k
  have h1 := (k5 c hc).2
  have h2 := h.2.2.2.2.1 c hc
  have h3 := ofC_b k1 c (np b).toNat (by have := k1.1; omega)
  have h4 := k4 c hc
  omega
/-- on the way: d balls of the calibre cc more than there were, e days -/
def KD (a b : St) (cc d e : Int) : Prop := Inv b ∧ RB b ∧ WB b ∧ NB b ∧ (∀ c : Nat, c < 5 → tot b c = tot a c + (if (c : Int) = cc then d else 0)) ∧ dy b = dy a + e ∧ (∀ q : Nat, cal b q = cal a q) ∧ np b = np a ∧ nc b = nc a
section KDS
variable {a b : St} {cc d e t : Int}
theorem KD.fin {srt : Int} (h : J t a) (ht : 0 ≤ t) (hs : ¬ (srt = 2 ∨ srt = 3)) (k : KD a b cc 0 e) (he : 0 ≤ e ∧ e ≤ 3) : AJ t srt a b := by
  obtain ⟨k1, k2, k3, k4, k5, k6, -⟩ := k
  obtain ⟨-, -, -, -, h5, h6, h7⟩ := h
  refine ⟨⟨k1, k2, k3, k4, fun c hc => ?_, by omega, by omega⟩, fun c hc => ?_, by omega⟩
  · have h1 := k5 c hc; have := h5 c hc; split at h1 <;> omega
  · rw [if_neg hs]; have h1 := k5 c hc; split at h1 <;> omega
theorem J.kd (h : J t a) (cc : Int) : KD a a cc 0 0 := ⟨h.1, h.2.1, h.2.2.1, h.2.2.2.1, fun c _ => by split <;> omega, by omega, fun _ => rfl, rfl, rfl⟩
theorem KD.cc0 (k : KD a b cc 0 e) (c2 : Int) : KD a b c2 0 e := by
  obtain ⟨k1, k2, k3, k4, k5, k6⟩ := k
  exact ⟨k1, k2, k3, k4, fun c hc => by have h1 := k5 c hc; split at h1 <;> split <;> omega, k6⟩
theorem KD.bd (h : J t a) (ht : 0 ≤ t ∧ t ≤ 100) (k : KD a b cc d e) (hd : -11000 ≤ d ∧ d ≤ 11000) {c : Nat} (hc : c < 5) : 0 ≤ sto b c ∧ sto b c ≤ 21000 ∧ 0 ≤ loo b c ∧ loo b c ≤ 21000 ∧ 0 ≤ fir b c ∧ fir b c ≤ 21000 ∧ 0 ≤ gon b c ∧ gon b c ≤ 21000 := by
  obtain ⟨k1, k2, k3, k4, k5, k6, -⟩ := k
  have h1 := k5 c hc
  have h2 := h.2.2.2.2.1 c hc
  have h3 := ofC_b k1 c (np b).toNat (by have := k1.1; omega)
  have h4 := k4 c hc
  unfold tot at h1
  unfold tot at h2
  split at h1 <;> omega
theorem KD.row (h : J t a) (ht : 0 ≤ t ∧ t ≤ 100) (k : KD a b cc d e) (hd : -11000 ≤ d ∧ d ≤ 11000) {t' : Nat} (h4 : 4 ≤ t' ∧ t' ≤ 7) {v : Int} (hcc : 0 ≤ cc ∧ cc < 5) (hv : 0 ≤ (b t' 0 cc.toNat).toInt + v ∧ -21000 ≤ v ∧ v ≤ 21000) : KD a (up3 b t' 0 cc.toNat (b t' 0 cc.toNat + zI v)) cc (d + v) e := by
  obtain ⟨b1, b2, b3, b4, b5, b6, b7, b8⟩ := k.bd h ht hd (c := cc.toNat) (by omega)
  obtain ⟨k1, k2, k3, k4, k5, k6, k7, k8, k9⟩ := k
  obtain ⟨r1, r2, r3, r4⟩ := row_o (a := b) (t := t') (i := 0) (j := cc.toNat) (v := b t' 0 cc.toNat + zI v) h4
  have hbt : 0 ≤ (b t' 0 cc.toNat).toInt ∧ (b t' 0 cc.toNat).toInt ≤ 21000 := by
    rcases (show t' = 4 ∨ t' = 5 ∨ t' = 6 ∨ t' = 7 by omega) with rfl | rfl | rfl | rfl
    · exact ⟨b3, b4⟩
    · exact ⟨b1, b2⟩
    · exact ⟨b5, b6⟩
    · exact ⟨b7, b8⟩
  have ev := tI (x := b t' 0 cc.toNat) (v := v) (by omega)
  have rv := fun t2 c2 => row_v b t' cc.toNat (b t' 0 cc.toNat + zI v) t2 c2
  refine ⟨k1.up (by omega) (by omega) (by omega) (by omega) (by omega), r1 k2, r2 k3, fun c hc => ?_, fun c hc => ?_, by rw [r3]; exact k6, fun q => by rw [cal_up (by omega)]; exact k7 q, by rw [np_up (by omega)]; exact k8, by rw [nc_up (by omega)]; exact k9⟩
  · have := k4 c hc
    unfold sto loo fir gon at this ⊢
    rw [rv, rv, rv, rv, ev]
    refine ⟨?_, ?_, ?_, ?_⟩
    all_goals
      split
      · omega
      · omega
  · have hk := k5 c hc
    unfold tot at hk ⊢
    rw [r4]
    unfold sto loo fir gon at hk ⊢
    rw [rv, rv, rv, rv, ev]
    by_cases hcq : c = cc.toNat
    · subst hcq
      rw [if_pos (show ((cc.toNat : Nat) : Int) = cc by omega)] at hk ⊢
      generalize ofCal b ((cc.toNat : Nat) : Int) (np b).toNat = OB at hk ⊢
      generalize ofCal a ((cc.toNat : Nat) : Int) (np a).toNat = OA at hk ⊢
      rcases (show t' = 4 ∨ t' = 5 ∨ t' = 6 ∨ t' = 7 by omega) with rfl | rfl | rfl | rfl <;> simp <;> omega
    · rw [if_neg (show ¬ (c : Int) = cc by omega)] at hk ⊢
      rw [if_neg (fun q => hcq q.2), if_neg (fun q => hcq q.2), if_neg (fun q => hcq q.2), if_neg (fun q => hcq q.2)]
      exact hk
/-- what a pile's change leaves of the rest -/
theorem KD.pile (k : KD a b cc d e) {b2 : St} {p : Nat} {x : Int} (hI : Inv b2) (hr : RB b2) (h0 : ∀ j : Nat, b2 0 0 j = b 0 0 j) (h4 : ∀ t' j : Nat, 4 ≤ t' → b2 t' 0 j = b t' 0 j) (hcl : ∀ q : Nat, cal b2 q = cal b q) (hb : ∀ q : Nat, ¬ q = p → bl b2 q = bl b q) (hp : (p : Int) < np b) (hx : bl b2 p = bl b p + x) (hcc : cal b p = cc) : KD a b2 cc (d + x) e := by
  obtain ⟨k1, k2, k3, k4, k5, k6, k7, k8, k9⟩ := k
  have en : np b2 = np b := congrArg Int32.toInt (h0 0)
  refine ⟨hI, hr, ?_, fun c hc => ?_, fun c hc => ?_, ?_, fun q => (hcl q).trans (k7 q), en.trans k8, (congrArg Int32.toInt (h0 1)).trans k9⟩
  · unfold WB rn lim at k3 ⊢
    rw [h0, h0]
    exact k3
  · have := k4 c hc
    unfold sto loo fir gon at this ⊢
    rw [h4 _ _ (by omega), h4 _ _ (by omega), h4 _ _ (by omega), h4 _ _ (by omega)]
    exact this
  · have hk := k5 c hc
    have ho := ofC_one hcl hb c (np b).toNat
    unfold tot sto loo fir gon at hk ⊢
    rw [h4 _ _ (by omega), h4 _ _ (by omega), h4 _ _ (by omega), h4 _ _ (by omega), en, ho, hcc, hx]
    by_cases hq : cc = (c : Int)
    · rw [if_pos ⟨by omega, hq⟩, if_pos hq.symm]
      rw [if_pos hq.symm] at hk
      omega
    · rw [if_neg (fun z => hq z.2), if_neg (fun z => hq z.symm)]
      rw [if_neg (fun z => hq z.symm)] at hk
      omega
  · unfold dy at k6 ⊢
    rw [h0]
    exact k6
theorem KD.put (k : KD a b cc d e) {p : Nat} {v : Int32} (hp : (p : Int) < np b) (hr : bl b p < sq (sd b p)) (hv : 0 ≤ v.toInt ∧ v.toInt ≤ 9) (hcc : cal b p = cc) : KD a (putS b p v) cc (d + 1) e := by
  have hP := (k.1.2.1 p hp).1
  unfold PO at hP
  have hsq := sq_le (e := sd b p) ⟨hP.1, hP.2.1⟩
  refine k.pile (p := p) (putS_i k.1 hp hr) (fun q j hq hj => ?_) (fun j => putS_o (by omega) (by omega)) (fun t' j h => putS_o (by omega) (by omega)) (fun q => putS_cal _ _ _ _) (fun q h => putS_bn h) hp (putS_bl (by omega)) hcc
  rw [putS_np] at hq
  have ho := k.2.1 q j hq
  unfold rs at ho ⊢
  by_cases hqp : q = p
  · subst hqp
    rw [putS_bl (by omega)] at hj
    rw [putS, up3_n (by omega), up3_e]
    by_cases hjb : j = (bl b q).toNat
    · rw [if_pos ⟨rfl, rfl, hjb⟩]; exact hv
    · rw [if_neg (fun z => hjb z.2.2)]; exact ho (by omega)
  · rw [putS_bn hqp] at hj
    rw [putS_o (by omega) (by omega)]
    exact ho hj
theorem KD.top (k : KD a b cc d e) {p : Nat} (hp : (p : Int) < np b) (hr : 1 ≤ bl b p) (hcc : cal b p = cc) : KD a (topS b p) cc (d + -1) e := by
  have hP := (k.1.2.1 p hp).1
  unfold PO at hP
  have hsq := sq_le (e := sd b p) ⟨hP.1, hP.2.1⟩
  have hbl : bl (topS b p) p = bl b p - 1 := topS_bl (by omega)
  refine k.pile (p := p) (topS_i k.1 hp hr) (fun q j hq hj => ?_) (fun j => topS_o (by omega)) (fun t' j h => topS_o (by omega)) (fun q => topS_cal _ _ _) (fun q h => topS_bn h) hp (by rw [hbl]; omega) hcc
  rw [topS_np] at hq
  have ho := k.2.1 q j hq
  unfold rs at ho ⊢
  rw [topS_o (by omega)]
  by_cases hqp : q = p
  · subst hqp
    exact ho (by omega)
  · rw [topS_bn hqp] at hj
    exact ho hj
theorem KD.rust (k : KD a b cc d e) {p j : Nat} {v : Int32} (hp : (p : Int) < np b) (hv : 0 ≤ v.toInt ∧ v.toInt ≤ 9) : KD a (up3 b 2 p j v) cc d e := by
  obtain ⟨k1, k2, k3, k4, k5, k6, k7, k8, k9⟩ := k
  have en : np (up3 b 2 p j v) = np b := np_up (by omega)
  refine ⟨k1.up (by omega) (by omega) (by omega) (fun _ => hp) (by omega), fun q i hq hi => ?_, ?_, fun c hc => ?_, fun c hc => ?_, ?_, fun q => by rw [cal_up (by omega)]; exact k7 q, en.trans k8, (nc_up (by omega)).trans k9⟩
  · rw [en] at hq
    rw [bl_up (by omega)] at hi
    have := k2 q i hq hi
    unfold rs at this ⊢
    rw [up3_e]
    split
    · exact hv
    · exact this
  · unfold WB rn lim at k3 ⊢
    rw [up3_n (by omega), up3_n (by omega)]
    exact k3
  · have := k4 c hc
    unfold sto loo fir gon at this ⊢
    rw [up3_n (by omega), up3_n (by omega), up3_n (by omega), up3_n (by omega)]
    exact this
  · have hk := k5 c hc
    have ho := ofC_same (a := b) (b := up3 b 2 p j v) (fun q _ => ⟨cal_up (by omega), bl_up (by omega)⟩) c (np b).toNat (by have := k1.1; omega)
    unfold tot sto loo fir gon at hk ⊢
    rw [up3_n (by omega), up3_n (by omega), up3_n (by omega), up3_n (by omega), en, ho]
    exact hk
  · unfold dy at k6 ⊢
    rw [up3_n (by omega)]
    exact k6
theorem KD.cat (k : KD a b cc d e) {q j : Nat} {v : Int32} (hI : Inv (up3 b 3 q j v)) : KD a (up3 b 3 q j v) cc d e := by
  obtain ⟨k1, k2, k3, k4, k5, k6, k7, k8, k9⟩ := k
  have en : np (up3 b 3 q j v) = np b := np_up (by omega)
  refine ⟨hI, fun p i hq hi => ?_, ?_, fun c hc => ?_, fun c hc => ?_, ?_, fun q => by rw [cal_up (by omega)]; exact k7 q, en.trans k8, (nc_up (by omega)).trans k9⟩
  · rw [en] at hq
    rw [bl_up (by omega)] at hi
    have := k2 p i hq hi
    unfold rs at this ⊢
    rw [up3_n (by omega)]
    exact this
  · unfold WB rn lim at k3 ⊢
    rw [up3_n (by omega), up3_n (by omega)]
    exact k3
  · have := k4 c hc
    unfold sto loo fir gon at this ⊢
    rw [up3_n (by omega), up3_n (by omega), up3_n (by omega), up3_n (by omega)]
    exact this
  · have hk := k5 c hc
    have ho := ofC_same (a := b) (b := up3 b 3 q j v) (fun q _ => ⟨cal_up (by omega), bl_up (by omega)⟩) c (np b).toNat (by have := k1.1; omega)
    unfold tot sto loo fir gon at hk ⊢
    rw [up3_n (by omega), up3_n (by omega), up3_n (by omega), up3_n (by omega), en, ho]
    exact hk
  · unfold dy at k6 ⊢
    rw [up3_n (by omega)]
    exact k6
/-- rain, limit, day -/
theorem KD.num (k : KD a b cc d e) {j : Nat} {v : Int32} (hj : 2 ≤ j) {e2 : Int} (hw : WB (up3 b 0 0 j v)) (he : dy (up3 b 0 0 j v) = dy a + e2) : KD a (up3 b 0 0 j v) cc d e2 := by
  obtain ⟨k1, k2, k3, k4, k5, k6, k7, k8, k9⟩ := k
  have en : np (up3 b 0 0 j v) = np b := np_up (by omega)
  refine ⟨k1.up (by omega) (by omega) (by omega) (by omega) (by omega), fun p i hq hi => ?_, hw, fun c hc => ?_, fun c hc => ?_, he, fun q => by rw [cal_up (by omega)]; exact k7 q, en.trans k8, (nc_up (by omega)).trans k9⟩
  · rw [en] at hq
    rw [bl_up (by omega)] at hi
    have := k2 p i hq hi
    unfold rs at this ⊢
    rw [up3_n (by omega)]
    exact this
  · have := k4 c hc
    unfold sto loo fir gon at this ⊢
    rw [up3_n (by omega), up3_n (by omega), up3_n (by omega), up3_n (by omega)]
    exact this
  · have hk := k5 c hc
    have ho := ofC_same (a := b) (b := up3 b 0 0 j v) (fun q _ => ⟨cal_up (by omega), bl_up (by omega)⟩) c (np b).toNat (by have := k1.1; omega)
    unfold tot sto loo fir gon at hk ⊢
    rw [up3_n (by omega), up3_n (by omega), up3_n (by omega), up3_n (by omega), en, ho]
    exact hk
end KDS
