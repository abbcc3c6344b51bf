/-! ===== the law's bastion grows: its world in new cells ===== -/
def wG (am : Ad) (L : List Id3) (cell : Id3 → va_E) : va_W := L.map (fun z : Id3 => (am z.1 z.2.1 z.2.2, cell z))
def DI (am : Ad) (L : List Id3) : Prop := ∀ z1 z2 : Id3, z1 ∈ L → z2 ∈ L → am z1.1 z1.2.1 z1.2.2 = am z2.1 z2.2.1 z2.2.2 → z1 = z2
section GROW
variable {A : Nat → Prop} {D : va_G} {am : Ad} {L N : List Id3} {cell : Id3 → va_E} {H : Heap} {w w2 : va_W}
theorem wG_at {k : Nat} {z : Id3} (h : L[k]? = some z) : (wG am L cell)[k]? = some (am z.1 z.2.1 z.2.2, cell z) := by rw [wG, List.getElem?_map, h]; rfl
theorem wG_in {k : Nat} {q : Nat × va_E} (h : (wG am L cell)[k]? = some q) : ∃ z : Id3, L[k]? = some z ∧ q = (am z.1 z.2.1 z.2.2, cell z) := by
  rw [wG, List.getElem?_map] at h
  cases hz : L[k]? with
  | none => rw [hz] at h; cases h
  | some z => rw [hz] at h; cases h; exact ⟨z, rfl, rfl⟩
theorem DI_of (hD : va_D A (wG am L cell)) : DI am L := by
  intro z1 z2 h1 h2 he
  obtain ⟨i, hi⟩ := List.getElem?_of_mem h1
  obtain ⟨j, hj⟩ := List.getElem?_of_mem h2
  have e := hD.1 i j _ _ (wG_at hi) (wG_at hj) he
  subst e
  rw [hi] at hj
  exact Option.some.inj hj
theorem A_of (hD : va_D A (wG am L cell)) {z : Id3} (h : z ∈ L) : A (am z.1 z.2.1 z.2.2) := by
  obtain ⟨i, hi⟩ := List.getElem?_of_mem h
  exact hD.2 i _ (wG_at hi)
theorem D_to (hN : L.Nodup) (hI : DI am L) (hA : ∀ z : Id3, z ∈ L → A (am z.1 z.2.1 z.2.2)) : va_D A (wG am L cell) := by
  refine ⟨fun i j p q hi hj e => ?_, fun k q hk => ?_⟩
  · obtain ⟨z1, k1, rfl⟩ := wG_in hi
    obtain ⟨z2, k2, rfl⟩ := wG_in hj
    have := hI z1 z2 (List.mem_of_getElem? k1) (List.mem_of_getElem? k2) e
    subst this
    exact nd_inj hN k1 k2
  · obtain ⟨z, k1, rfl⟩ := wG_in hk
    exact hA z (List.mem_of_getElem? k1)
theorem P_to (h : ∀ z : Id3, z ∈ L → va_at D vwCl (am z.1 z.2.1 z.2.2, cell z) H) : va_P D vwCl (wG am L cell) H := fun k q hk => by
  obtain ⟨z, k1, rfl⟩ := wG_in hk
  exact h z (List.mem_of_getElem? k1)
theorem P_of (hP : va_P D vwCl (wG am L cell) H) {z : Id3} (h : z ∈ L) : va_at D vwCl (am z.1 z.2.1 z.2.2, cell z) H := by
  obtain ⟨i, hi⟩ := List.getElem?_of_mem h
  exact hP i _ (wG_at hi)
theorem X_of (hD : va_D A (wG am L cell ++ w)) {z : Id3} (h : z ∈ L) {j : Nat} {q : Nat × va_E} (hj : w[j]? = some q) : am z.1 z.2.1 z.2.2 ≠ q.1 := by
  obtain ⟨i, hi⟩ := List.getElem?_of_mem h
  exact D_lr hD (wG_at hi) hj
/-- ids whose addresses are those of a list of cells -/
theorem DI_list (h : N.map (fun z => am z.1 z.2.1 z.2.2) = w.map Prod.fst) (hD : va_D A w) : DI am N ∧ ∀ z : Id3, z ∈ N → ∃ (j : Nat) (q : Nat × va_E), w[j]? = some q ∧ q.1 = am z.1 z.2.1 z.2.2 := by
  have key : ∀ (i : Nat) (z : Id3), N[i]? = some z → ∃ q : Nat × va_E, w[i]? = some q ∧ q.1 = am z.1 z.2.1 z.2.2 := by
    intro i z hi
    have h1 : (N.map (fun z => am z.1 z.2.1 z.2.2))[i]? = some (am z.1 z.2.1 z.2.2) := by rw [List.getElem?_map, hi]; rfl
    rw [h, List.getElem?_map] at h1
    cases hq : w[i]? with
    | none => rw [hq] at h1; cases h1
    | some q => rw [hq] at h1; exact ⟨q, rfl, Option.some.inj h1⟩
  refine ⟨fun z1 z2 h1 h2 e => ?_, fun z hz => ?_⟩
  · obtain ⟨i, hi⟩ := List.getElem?_of_mem h1
    obtain ⟨j, hj⟩ := List.getElem?_of_mem h2
    obtain ⟨p, k1, e1⟩ := key i z1 hi
    obtain ⟨q, k2, e2⟩ := key j z2 hj
    have := hD.1 i j p q k1 k2 (by rw [e1, e2]; exact e)
    subst this
    rw [hi] at hj
    exact Option.some.inj hj
  · obtain ⟨i, hi⟩ := List.getElem?_of_mem hz
    obtain ⟨q, k1, e1⟩ := key i z hi
    exact ⟨i, q, k1, e1⟩
theorem P_in (hP : va_P D vwCl w H) (i : Nat) {q : Nat × va_E} (h : w[i]? = some q) : va_at D vwCl q H := hP i q h
end GROW
/-- the law's new pile -/
def amP (am : Ad) (n qa b q1 q2 : Nat) (tr : Nat → Nat) : Ad := fun t i j => if t = 10 ∧ i = 0 ∧ j = 0 then qa else if t = 1 ∧ i = n then b else if t = 2 ∧ i = n then q1 else if t = 12 ∧ i = n then q2 else if t = 13 ∧ i = n then tr j else am t i j
def NP (n m : Nat) : List Id3 := [(1, n, 0), (2, n, 0), (12, n, 0)] ++ (List.range m).map (fun k => (13, n, k))
theorem NP_in {n m : Nat} {z : Id3} (h : z ∈ NP n m) : z.2.1 = n ∧ (z = (1, n, 0) ∨ z = (2, n, 0) ∨ z = (12, n, 0) ∨ ∃ k : Nat, k < m ∧ z = (13, n, k)) := by
  rcases List.mem_append.mp h with h | h
  · simp only [List.mem_cons, List.not_mem_nil, or_false] at h
    rcases h with rfl | rfl | rfl
    · exact ⟨rfl, Or.inl rfl⟩
    · exact ⟨rfl, Or.inr (Or.inl rfl)⟩
    · exact ⟨rfl, Or.inr (Or.inr (Or.inl rfl))⟩
  · obtain ⟨k, hk, rfl⟩ := List.mem_map.mp h
    exact ⟨rfl, Or.inr (Or.inr (Or.inr ⟨k, List.mem_range.mp hk, rfl⟩))⟩
theorem NP_13 {n m k : Nat} (h : k < m) : (13, n, k) ∈ NP n m := List.mem_append.mpr (Or.inr (List.mem_map.mpr ⟨k, List.mem_range.mpr h, rfl⟩))
theorem NP_nd (n m : Nat) : (NP n m).Nodup := by
  refine List.nodup_append.mpr ⟨?_, ?_, ?_⟩
  · simp
  · exact List.pairwise_map.mpr (List.nodup_range.imp (fun h e => h (by cases e; rfl)))
  · intro x hx y hy e
    subst e
    obtain ⟨k, -, rfl⟩ := List.mem_map.mp hy
    simp at hx
theorem newP_v (a : St) (c s : Int) (t i j : Nat) : newP a c s t i j = if t = 0 ∧ i = 0 ∧ j = 0 then zI (np a + 1) else if t = 1 ∧ i = (np a).toNat ∧ j = 2 then zI 0 else if t = 1 ∧ i = (np a).toNat ∧ j = 1 then zI s else if t = 1 ∧ i = (np a).toNat ∧ j = 0 then zI c else a t i j := by
  unfold newP
  rw [up3_e, up3_e, up3_e, up3_e]
theorem newP_o {a : St} {c s : Int} {t i j : Nat} (h1 : ¬ (t = 0 ∧ i = 0 ∧ j = 0)) (h2 : ¬ (t = 1 ∧ i = (np a).toNat)) : newP a c s t i j = a t i j := by
  rw [newP_v, if_neg h1, if_neg (by omega), if_neg (by omega), if_neg (by omega)]
theorem newP_np {a : St} {c s : Int} (h : 0 ≤ np a ∧ np a ≤ 6) : np (newP a c s) = np a + 1 := by
  show (newP a c s 0 0 0).toInt = _
  rw [newP_v, if_pos ⟨rfl, rfl, rfl⟩, zI_toInt (by omega)]
theorem newP_nc {a : St} {c s : Int} : nc (newP a c s) = nc a := congrArg Int32.toInt (newP_o (by omega) (by omega))
theorem newP_sd {a : St} {c s : Int} (hs : 1 ≤ s ∧ s ≤ 6) : sd (newP a c s) (np a).toNat = s := by
  show (newP a c s 1 _ 1).toInt = _
  rw [newP_v, if_neg (by omega), if_neg (by omega), if_pos ⟨rfl, rfl, rfl⟩, zI_toInt (by omega)]
theorem newP_sdo {a : St} {c s : Int} {p : Nat} (h : ¬ p = (np a).toNat) : sd (newP a c s) p = sd a p := congrArg Int32.toInt (newP_o (by omega) (by omega))
theorem SH.newP {L : List Id3} {a : St} (h : SH L a) (hn : 0 ≤ np a ∧ np a ≤ 6) {c s : Int} (hs : 1 ≤ s ∧ s ≤ 6) : SH (L ++ NP (np a).toNat (sq s).toNat) (newP a c s) := by
  obtain ⟨⟨q0, q01⟩, q1, q2, q3, q4, q5, q6⟩ := h
  have e1 := newP_np (a := a) (c := c) (s := s) hn
  have e2 := newP_nc (a := a) (c := c) (s := s)
  have hsq := sq_le hs
  have inL : ∀ {z : Id3}, z ∈ L → z ∈ L ++ NP (np a).toNat (sq s).toNat := fun hz => List.mem_append.mpr (Or.inl hz)
  have inN : ∀ {z : Id3}, z ∈ NP (np a).toNat (sq s).toNat → z ∈ L ++ NP (np a).toNat (sq s).toNat := fun hz => List.mem_append.mpr (Or.inr hz)
  refine ⟨⟨List.nodup_append.mpr ⟨q0, NP_nd _ _, ?_⟩, ?_⟩, ⟨inL q1.1, inL q1.2.1, inL q1.2.2.1, inL q1.2.2.2.1, inL q1.2.2.2.2.1, inL q1.2.2.2.2.2.1, inL q1.2.2.2.2.2.2⟩, ?_, ?_, ?_, ?_, ?_⟩
  · intro x hx y hy e
    subst e
    obtain ⟨h1, h2⟩ := NP_in hy
    have := q4 x hx (by rcases h2 with rfl | rfl | rfl | ⟨k, -, rfl⟩ <;> simp)
    omega
  · intro z hz ht
    rcases List.mem_append.mp hz with hz | hz
    · exact q01 z hz ht
    · rcases (NP_in hz).2 with rfl | rfl | rfl | ⟨k, -, rfl⟩
      · rfl
      · rfl
      · rfl
      · exact absurd rfl ht
  · intro p hp
    rw [e1] at hp
    by_cases hpn : p = (np a).toNat
    · subst hpn
      refine ⟨inN (by simp [NP]), inN (by simp [NP]), inN (by simp [NP]), fun k hk => ?_⟩
      rw [newP_sd hs] at hk
      exact inN (NP_13 (by omega))
    · obtain ⟨h1, h2, h3, h4⟩ := q2 p (by omega)
      exact ⟨inL h1, inL h2, inL h3, fun k hk => by rw [newP_sdo hpn] at hk; exact inL (h4 k hk)⟩
  · intro c' hc
    rw [e2] at hc
    exact inL (q3 c' hc)
  · intro z hz ht
    rw [e1]
    rcases List.mem_append.mp hz with hz | hz
    · have := q4 z hz ht; omega
    · have := (NP_in hz).1; omega
  · intro z hz ht
    rw [e2]
    rcases List.mem_append.mp hz with hz | hz
    · exact q5 z hz ht
    · rcases (NP_in hz).2 with rfl | rfl | rfl | ⟨k, -, rfl⟩ <;> simp at ht
  · intro z hz
    rcases List.mem_append.mp hz with hz | hz
    · exact q6 z hz
    · rcases (NP_in hz).2 with rfl | rfl | rfl | ⟨k, -, rfl⟩ <;> simp
theorem amP_o {am : Ad} {n qa b q1 q2 : Nat} {tr : Nat → Nat} {t i j : Nat} (h1 : ¬ (t = 10 ∧ i = 0 ∧ j = 0)) (h2 : ¬ (i = n ∧ (t = 1 ∨ t = 2 ∨ t = 12 ∨ t = 13))) : amP am n qa b q1 q2 tr t i j = am t i j := by
  unfold amP
  rw [if_neg h1, if_neg (by omega), if_neg (by omega), if_neg (by omega), if_neg (by omega)]
theorem amP_1 {am : Ad} {n qa b q1 q2 : Nat} {tr : Nat → Nat} {j : Nat} : amP am n qa b q1 q2 tr 1 n j = b := by
  unfold amP
  rw [if_neg (by omega), if_pos ⟨rfl, rfl⟩]
theorem amP_2 {am : Ad} {n qa b q1 q2 : Nat} {tr : Nat → Nat} {j : Nat} : amP am n qa b q1 q2 tr 2 n j = q1 := by
  unfold amP
  rw [if_neg (by omega), if_neg (by omega), if_pos ⟨rfl, rfl⟩]
theorem amP_12 {am : Ad} {n qa b q1 q2 : Nat} {tr : Nat → Nat} {j : Nat} : amP am n qa b q1 q2 tr 12 n j = q2 := by
  unfold amP
  rw [if_neg (by omega), if_neg (by omega), if_neg (by omega), if_pos ⟨rfl, rfl⟩]
theorem amP_13 {am : Ad} {n qa b q1 q2 : Nat} {tr : Nat → Nat} {j : Nat} : amP am n qa b q1 q2 tr 13 n j = tr j := by
  unfold amP
  rw [if_neg (by omega), if_neg (by omega), if_neg (by omega), if_neg (by omega), if_pos ⟨rfl, rfl⟩]
/-- the Sim's cell while its row of piles is another -/
def cPu (cA : Nat → ClassId) (am : Ad) (a : St) (qa : Nat) (z : Id3) : va_E := if z = (0, 0, 0) then .inr (5, [.int (a 0 0 2), .int (a 0 0 3), .int (a 0 0 4), .ref (am 5 0 0), .ref (am 4 0 0), .ref (am 6 0 0), .ref (am 7 0 0), .ref qa, .ref (am 11 0 0)]) else mS cA am a z.1 z.2.1 z.2.2
theorem mS_old {cA : Nat → ClassId} {am : Ad} {L : List Id3} {a : St} {c s : Int} {qa b q1 q2 : Nat} {tr : Nat → Nat} (h : SH L a) {z : Id3} (hz : z ∈ L) (h0 : ¬ z = (0, 0, 0)) (h10 : ¬ z = (10, 0, 0)) : mS cA (amP am (np a).toNat qa b q1 q2 tr) (newP a c s) z.1 z.2.1 z.2.2 = mS cA am a z.1 z.2.1 z.2.2 := by
  obtain ⟨⟨q0, q01⟩, -, q2', q3, q4, q5, q6⟩ := h
  obtain ⟨t, i, j⟩ := z
  have hj := q01 _ hz
  have hi := q4 _ hz
  have hc := q5 _ hz
  obtain ⟨ht, ht0⟩ := q6 _ hz
  simp only at hj hi hc ht ht0
  have hrow : ∀ t', ¬ (t' = 0 ∧ i = 0) → ¬ (t' = 1 ∧ i = (np a).toNat) → newP a c s t' i = a t' i := fun t' h1 h2 => by
    funext j'
    exact newP_o (fun q => h1 ⟨q.1, q.2.1⟩) h2
  rcases (show t = 0 ∨ t = 1 ∨ t = 2 ∨ t = 3 ∨ t = 4 ∨ t = 5 ∨ t = 6 ∨ t = 7 ∨ t = 10 ∨ t = 11 ∨ t = 12 ∨ t = 13 by omega) with rfl | rfl | rfl | rfl | rfl | rfl | rfl | rfl | rfl | rfl | rfl | rfl
  · have e1 := ht0 (Or.inl rfl); have e2 := hj (by decide); subst e1; subst e2; exact absurd rfl h0
  · have hn := hi (Or.inl rfl)
    simp only [mS]
    rw [hrow 1 (by omega) (by omega), amP_o (by omega) (by omega), amP_o (by omega) (by omega)]
  · have hn := hi (Or.inr (Or.inl rfl))
    simp only [mS]
    rw [hrow 2 (by omega) (by omega), newP_sdo (by omega)]
  · simp only [mS]
    rw [hrow 3 (by omega) (by omega)]
  · simp only [mS]
    rw [hrow 4 (by omega) (by omega)]
  · simp only [mS]
    rw [hrow 5 (by omega) (by omega)]
  · simp only [mS]
    rw [hrow 6 (by omega) (by omega)]
  · simp only [mS]
    rw [hrow 7 (by omega) (by omega)]
  · have e1 := ht0 (Or.inr (Or.inl rfl)); have e2 := hj (by decide); subst e1; subst e2; exact absurd rfl h10
  · simp only [mS]
    rw [newP_nc]
    have e : (fun k => some (amP am (np a).toNat qa b q1 q2 tr 3 k 0)) = fun k => some (am 3 k 0) := by funext k; rw [amP_o (by omega) (by omega)]
    rw [e]
  · have hn := hi (Or.inr (Or.inr (Or.inl rfl)))
    simp only [mS]
    have e : (fun k => some (amP am (np a).toNat qa b q1 q2 tr 13 i k)) = fun k => some (am 13 i k) := by funext k; rw [amP_o (by omega) (by omega)]
    rw [newP_sdo (by omega), e]
  · have hn := hi (Or.inr (Or.inr (Or.inr rfl)))
    simp only [mS]
    rw [newP_sdo (by omega)]
theorem P_newP {cA : Nat → ClassId} {am : Ad} {L : List Id3} {a : St} {c s : Int} {qa b q1 q2 : Nat} {tr : Nat → Nat} {D : va_G} {H : Heap} {w2 : va_W} {f : Nat → Option Nat} (h : SH L a) (hI : Inv a) (hc : 0 ≤ c ∧ c ≤ 4) (hs : 1 ≤ s ∧ s ≤ 6) (hf : ∀ k : Nat, k < (np a).toNat → f k = some (am 1 k 0)) (hfn : f (np a).toNat = some b) (hn6 : np a < 6)
    (hP : va_P D vwCl ((wG am L (cPu cA am a qa) ++ (w2 ++ [(qa, .inl (cA 5, (np a).toNat + 1, .inr (.inr (.inr (.inr f)))))])) ++ wP cA b c s q1 q2 (sq s).toNat tr) H) : va_P D vwCl (wS cA (amP am (np a).toNat qa b q1 q2 tr) (L ++ NP (np a).toNat (sq s).toNat) (newP a c s) ++ w2) H := by
  have hL := P_l (P_l hP)
  have hW := P_l (P_r (P_l hP))
  have hQ := P_r (P_r (P_l hP))
  have hN := P_r hP
  have hn0 := hI.1.1
  have hsq := sq_le hs
  have e1 := newP_np (a := a) (c := c) (s := s) (by omega)
  refine va_P.app (P_to (cell := fun z => mS cA (amP am (np a).toNat qa b q1 q2 tr) (newP a c s) z.1 z.2.1 z.2.2) fun z hz => ?_) hW
  rcases List.mem_append.mp hz with hz | hz
  · have hold := P_of hL hz
    have haddr : ¬ z = (10, 0, 0) → amP am (np a).toNat qa b q1 q2 tr z.1 z.2.1 z.2.2 = am z.1 z.2.1 z.2.2 := fun h10 => amP_o (fun q => h10 (Prod.ext q.1 (Prod.ext q.2.1 q.2.2))) (fun q => by have := h.2.2.2.2.1 z hz (by omega); omega)
    by_cases h0 : z = (0, 0, 0)
    · subst h0
      rw [haddr (by simp)]
      rw [cPu, if_pos rfl] at hold
      have : mS cA (amP am (np a).toNat qa b q1 q2 tr) (newP a c s) 0 0 0 = .inr (5, [.int (a 0 0 2), .int (a 0 0 3), .int (a 0 0 4), .ref (am 5 0 0), .ref (am 4 0 0), .ref (am 6 0 0), .ref (am 7 0 0), .ref qa, .ref (am 11 0 0)]) := by
        simp only [mS]
        rw [newP_o (by omega) (by omega), newP_o (by omega) (by omega), newP_o (by omega) (by omega), amP_o (t := 5) (by omega) (by omega), amP_o (t := 4) (by omega) (by omega), amP_o (t := 6) (by omega) (by omega), amP_o (t := 7) (by omega) (by omega), amP_o (t := 11) (by omega) (by omega), show amP am (np a).toNat qa b q1 q2 tr 10 0 0 = qa from if_pos ⟨rfl, rfl, rfl⟩]
      rw [this]
      exact hold
    · by_cases h10 : z = (10, 0, 0)
      · subst h10
        have hq : va_at D vwCl (qa, .inl (cA 5, (np a).toNat + 1, .inr (.inr (.inr (.inr f))))) H := P_in hQ 0 rfl
        have e : mS cA (amP am (np a).toNat qa b q1 q2 tr) (newP a c s) 10 0 0 = .inl (cA 5, (np a).toNat + 1, .inr (.inr (.inr (.inr fun k => some (amP am (np a).toNat qa b q1 q2 tr 1 k 0))))) := by
          simp only [mS]
          rw [e1, show (np a + 1).toNat = (np a).toNat + 1 by omega]
        show va_at D vwCl (amP am (np a).toNat qa b q1 q2 tr 10 0 0, mS cA (amP am (np a).toNat qa b q1 q2 tr) (newP a c s) 10 0 0) H
        rw [e]
        refine at_extQ (fun k hk => ?_) hq
        by_cases hkn : k = (np a).toNat
        · subst hkn; rw [hfn, amP_1]
        · rw [hf k (by omega), amP_o (by omega) (by omega)]
      · rw [haddr h10, mS_old h hz h0 h10]
        rw [cPu, if_neg h0] at hold
        exact hold
  · obtain ⟨-, h2⟩ := NP_in hz
    rcases h2 with rfl | rfl | rfl | ⟨k, hk, rfl⟩
    · have hq : va_at D vwCl (b, .inr (7, [.int (zI c), .int (zI s), .int 0, .ref q1, .ref q2])) H := P_in hN 0 rfl
      have e : mS cA (amP am (np a).toNat qa b q1 q2 tr) (newP a c s) 1 (np a).toNat 0 = .inr (7, [.int (zI c), .int (zI s), .int 0, .ref q1, .ref q2]) := by
        simp only [mS]
        rw [amP_2, amP_12, newP_v, newP_v, newP_v]
        simp [zI_0]
      show va_at D vwCl (amP am (np a).toNat qa b q1 q2 tr 1 (np a).toNat 0, mS cA (amP am (np a).toNat qa b q1 q2 tr) (newP a c s) 1 (np a).toNat 0) H
      rw [e, amP_1]
      exact hq
    · have hq : va_at D vwCl (q1, .inl (cA 0, (sq s).toNat, .inl (fun _ => 0))) H := P_in hN 1 rfl
      have e : mS cA (amP am (np a).toNat qa b q1 q2 tr) (newP a c s) 2 (np a).toNat 0 = .inl (cA 0, (sq s).toNat, .inl (newP a c s 2 (np a).toNat)) := by
        simp only [mS]
        rw [newP_sd hs]
      show va_at D vwCl (amP am (np a).toNat qa b q1 q2 tr 2 (np a).toNat 0, mS cA (amP am (np a).toNat qa b q1 q2 tr) (newP a c s) 2 (np a).toNat 0) H
      rw [e, amP_2]
      refine at_ext (fun k hk => ?_) hq
      rw [newP_o (by omega) (by omega), (hI.2.2.2.1 (np a).toNat (by omega) (by omega)).2.2.2 k (by omega)]
    · have hq : va_at D vwCl (q2, .inl (cA 6, (sq s).toNat, .inr (.inr (.inr (.inr (qF (sq s).toNat tr)))))) H := P_in hN 2 rfl
      have e : mS cA (amP am (np a).toNat qa b q1 q2 tr) (newP a c s) 12 (np a).toNat 0 = .inl (cA 6, (sq s).toNat, .inr (.inr (.inr (.inr fun k => some (amP am (np a).toNat qa b q1 q2 tr 13 (np a).toNat k))))) := by
        simp only [mS]
        rw [newP_sd hs]
      show va_at D vwCl (amP am (np a).toNat qa b q1 q2 tr 12 (np a).toNat 0, mS cA (amP am (np a).toNat qa b q1 q2 tr) (newP a c s) 12 (np a).toNat 0) H
      rw [e, amP_12]
      exact at_extQ (fun k hk => by rw [amP_13]; exact if_pos hk) hq
    · have hq : va_at D vwCl (tr k, .inl (cA 0, 3, .inl (trF s k))) H := P_r hN k _ (by rw [List.getElem?_map, List.getElem?_range hk]; rfl)
      have e : mS cA (amP am (np a).toNat qa b q1 q2 tr) (newP a c s) 13 (np a).toNat k = .inl (cA 0, 3, .inl (trF s k)) := by
        simp only [mS]
        rw [newP_sd hs]
      show va_at D vwCl (amP am (np a).toNat qa b q1 q2 tr 13 (np a).toNat k, mS cA (amP am (np a).toNat qa b q1 q2 tr) (newP a c s) 13 (np a).toNat k) H
      rw [e, amP_13]
      exact hq
theorem D_newP {cA : Nat → ClassId} {am : Ad} {L : List Id3} {a : St} {c s : Int} {qa b q1 q2 : Nat} {tr : Nat → Nat} {A : Nat → Prop} {w2 : va_W} {cell : Id3 → va_E} {y : va_E} (h : SH L a) (hn : 0 ≤ np a ∧ np a ≤ 6) (hs : 1 ≤ s ∧ s ≤ 6)
    (hD : va_D A ((wG am L cell ++ (w2 ++ [(qa, y)])) ++ wP cA b c s q1 q2 (sq s).toNat tr)) : va_D A (wS cA (amP am (np a).toNat qa b q1 q2 tr) (L ++ NP (np a).toNat (sq s).toNat) (newP a c s) ++ w2) := by
  have hDL := D_l0 (D_l0 hD)
  have hDW := D_l0 (D_r (D_l0 hD))
  have hDQ := D_r (D_r (D_l0 hD))
  have hDN := D_r hD
  have hI0 := DI_of hDL
  have haddr : ∀ z : Id3, z ∈ L → ¬ z = (10, 0, 0) → amP am (np a).toNat qa b q1 q2 tr z.1 z.2.1 z.2.2 = am z.1 z.2.1 z.2.2 := fun z hz h10 => amP_o (fun q => h10 (Prod.ext q.1 (Prod.ext q.2.1 q.2.2))) (fun q => by have := h.2.2.2.2.1 z hz (by omega); omega)
  have h10a : amP am (np a).toNat qa b q1 q2 tr 10 0 0 = qa := if_pos ⟨rfl, rfl, rfl⟩
  have hlist : (NP (np a).toNat (sq s).toNat).map (fun z => amP am (np a).toNat qa b q1 q2 tr z.1 z.2.1 z.2.2) = (wP cA b c s q1 q2 (sq s).toNat tr).map Prod.fst := by
    unfold NP wP
    rw [List.map_append, List.map_append, List.map_map, List.map_map]
    congr 1
    · show [amP am (np a).toNat qa b q1 q2 tr 1 (np a).toNat 0, amP am (np a).toNat qa b q1 q2 tr 2 (np a).toNat 0, amP am (np a).toNat qa b q1 q2 tr 12 (np a).toNat 0] = [b, q1, q2]
      rw [amP_1, amP_2, amP_12]
    · refine List.map_congr_left fun k _ => ?_
      exact amP_13
  obtain ⟨hIN, hNx⟩ := DI_list hlist hDN
  have hqx : ∀ z : Id3, z ∈ L → am z.1 z.2.1 z.2.2 ≠ qa := fun z hz => by
    have hx : va_D A (wG am L cell ++ [(qa, y)]) := by
      have h1 := D_sw (D_l0 hD)
      rw [List.append_assoc] at h1
      exact D_sw (D_r h1)
    exact X_of hx hz (j := 0) (q := (qa, y)) rfl
  have hA9 : ∀ (i : Nat) (q : Nat × va_E), ((wG am L cell ++ (w2 ++ [(qa, y)])) ++ wP cA b c s q1 q2 (sq s).toNat tr)[i]? = some q → A q.1 := hD.2
  have hAq : A qa := hDQ.2 0 (qa, y) rfl
  have hqN : ∀ (j : Nat) (q : Nat × va_E), (wP cA b c s q1 q2 (sq s).toNat tr)[j]? = some q → qa ≠ q.1 := fun j q hj => by
    have h1 := D_sw hD
    have h2 : va_D A (wP cA b c s q1 q2 (sq s).toNat tr ++ (wG am L cell ++ (w2 ++ [(qa, y)]))) := h1
    rw [← List.append_assoc, ← List.append_assoc] at h2
    have h3 := D_sw h2
    obtain ⟨k, hk⟩ : ∃ k, ((wP cA b c s q1 q2 (sq s).toNat tr ++ wG am L cell) ++ w2)[k]? = some q := by
      obtain ⟨k, hk⟩ := at_l (w2 := wG am L cell) ⟨j, hj⟩
      exact at_l ⟨k, hk⟩
    exact D_lr h3 (i := 0) (p := (qa, y)) rfl hk
  have hLN : ∀ z : Id3, z ∈ L → ∀ (j : Nat) (q : Nat × va_E), (wP cA b c s q1 q2 (sq s).toNat tr)[j]? = some q → am z.1 z.2.1 z.2.2 ≠ q.1 := fun z hz j q hj => by
    obtain ⟨i, hi⟩ := List.getElem?_of_mem hz
    obtain ⟨k, hk⟩ := at_l (w2 := w2 ++ [(qa, y)]) ⟨i, wG_at (am := am) (cell := cell) hi⟩
    exact D_lr hD hk hj
  have hWq : ∀ (j : Nat) (q : Nat × va_E), w2[j]? = some q → qa ≠ q.1 := fun j q hj e => D_lr (D_r (D_l0 hD)) hj (j := 0) (q := (qa, y)) rfl e.symm
  have hWN : ∀ (i : Nat) (x : Nat × va_E), w2[i]? = some x → ∀ (j : Nat) (q : Nat × va_E), (wP cA b c s q1 q2 (sq s).toNat tr)[j]? = some q → x.1 ≠ q.1 := fun i x hi j q hj => by
    obtain ⟨k, hk⟩ := at_r (w1 := wG am L cell) (at_l (w2 := [(qa, y)]) ⟨i, hi⟩)
    exact D_lr hD hk hj
  have hLW : ∀ z : Id3, z ∈ L → ∀ (j : Nat) (q : Nat × va_E), w2[j]? = some q → am z.1 z.2.1 z.2.2 ≠ q.1 := fun z hz j q hj => by
    obtain ⟨k, hk⟩ := at_l (w2 := [(qa, y)]) ⟨j, hj⟩
    exact X_of (D_l0 hD) hz hk
  have hSH := h.newP hn (c := c) hs
  refine va_D.app (D_to (cell := fun z => mS cA (amP am (np a).toNat qa b q1 q2 tr) (newP a c s) z.1 z.2.1 z.2.2) hSH.1.1 ?_ ?_) hDW ?_
  · intro z1 z2 h1 h2 e
    rcases List.mem_append.mp h1 with h1 | h1 <;> rcases List.mem_append.mp h2 with h2 | h2
    · by_cases t1 : z1 = (10, 0, 0) <;> by_cases t2 : z2 = (10, 0, 0)
      · rw [t1, t2]
      · subst t1
        rw [haddr z2 h2 t2] at e
        exact absurd (e.symm.trans h10a) (hqx z2 h2)
      · subst t2
        rw [haddr z1 h1 t1] at e
        exact absurd (e.trans h10a) (hqx z1 h1)
      · rw [haddr z1 h1 t1, haddr z2 h2 t2] at e
        exact hI0 z1 z2 h1 h2 e
    · obtain ⟨j, q, hj, hq⟩ := hNx z2 h2
      rw [← hq] at e
      by_cases t1 : z1 = (10, 0, 0)
      · subst t1
        exact absurd (h10a.symm.trans e) (hqN j q hj)
      · rw [haddr z1 h1 t1] at e
        exact absurd e (hLN z1 h1 j q hj)
    · obtain ⟨j, q, hj, hq⟩ := hNx z1 h1
      rw [← hq] at e
      by_cases t2 : z2 = (10, 0, 0)
      · subst t2
        exact absurd (h10a.symm.trans e.symm) (hqN j q hj)
      · rw [haddr z2 h2 t2] at e
        exact absurd e.symm (hLN z2 h2 j q hj)
    · exact hIN z1 z2 h1 h2 e
  · intro z hz
    rcases List.mem_append.mp hz with hz | hz
    · by_cases t1 : z = (10, 0, 0)
      · subst t1
        show A (amP am (np a).toNat qa b q1 q2 tr 10 0 0)
        rw [h10a]
        exact hAq
      · rw [haddr z hz t1]
        exact A_of hDL hz
    · obtain ⟨j, q, hj, hq⟩ := hNx z hz
      rw [← hq]
      exact hDN.2 j q hj
  · intro i j p q hi hj e
    obtain ⟨z, hz, rfl⟩ := wG_in hi
    have hz := List.mem_of_getElem? hz
    rcases List.mem_append.mp hz with hz | hz
    · by_cases t1 : z = (10, 0, 0)
      · subst t1
        exact hWq j q hj (h10a.symm.trans e)
      · exact hLW z hz j q hj ((haddr z hz t1).symm.trans e)
    · obtain ⟨k, x, hk, hx⟩ := hNx z hz
      exact hWN j q hj k x hk (e.symm.trans hx.symm)
/-- the law's new cat -/
def amC (am : Ad) (n qa q3 : Nat) : Ad := fun t i j => if t = 11 ∧ i = 0 ∧ j = 0 then qa else if t = 3 ∧ i = n then q3 else am t i j
theorem amC_o {am : Ad} {n qa q3 t i j : Nat} (h1 : ¬ (t = 11 ∧ i = 0 ∧ j = 0)) (h2 : ¬ (t = 3 ∧ i = n)) : amC am n qa q3 t i j = am t i j := by
  unfold amC
  rw [if_neg h1, if_neg h2]
theorem amC_3 {am : Ad} {n qa q3 j : Nat} : amC am n qa q3 3 n j = q3 := by
  unfold amC
  rw [if_neg (by omega), if_pos ⟨rfl, rfl⟩]
theorem newC_v (a : St) (k : Int) (t i j : Nat) : newC a k t i j = if t = 0 ∧ i = 0 ∧ j = 1 then zI (nc a + 1) else if t = 3 ∧ i = (nc a).toNat ∧ j = 0 then zI k else a t i j := by
  unfold newC
  rw [up3_e, up3_e]
theorem newC_o {a : St} {k : Int} {t i j : Nat} (h1 : ¬ (t = 0 ∧ i = 0 ∧ j = 1)) (h2 : ¬ (t = 3 ∧ i = (nc a).toNat ∧ j = 0)) : newC a k t i j = a t i j := by
  rw [newC_v, if_neg h1, if_neg h2]
theorem newC_nc {a : St} {k : Int} (h : 0 ≤ nc a ∧ nc a ≤ 3) : nc (newC a k) = nc a + 1 := by
  show (newC a k 0 0 1).toInt = _
  rw [newC_v, if_pos ⟨rfl, rfl, rfl⟩, zI_toInt (by omega)]
theorem newC_np {a : St} {k : Int} : np (newC a k) = np a := congrArg Int32.toInt (newC_o (by omega) (by omega))
theorem newC_sd {a : St} {k : Int} {p : Nat} : sd (newC a k) p = sd a p := congrArg Int32.toInt (newC_o (by omega) (by omega))
theorem SH.newC {L : List Id3} {a : St} (h : SH L a) (hn : 0 ≤ nc a ∧ nc a ≤ 3) {k : Int} : SH (L ++ [(3, (nc a).toNat, 0)]) (newC a k) := by
  obtain ⟨⟨q0, q01⟩, q1, q2, q3, q4, q5, q6⟩ := h
  have e1 := newC_nc (a := a) (k := k) hn
  have e2 := newC_np (a := a) (k := k)
  have inL : ∀ {z : Id3}, z ∈ L → z ∈ L ++ [(3, (nc a).toNat, 0)] := fun hz => List.mem_append.mpr (Or.inl hz)
  refine ⟨⟨List.nodup_append.mpr ⟨q0, by simp, ?_⟩, ?_⟩, ⟨inL q1.1, inL q1.2.1, inL q1.2.2.1, inL q1.2.2.2.1, inL q1.2.2.2.2.1, inL q1.2.2.2.2.2.1, inL q1.2.2.2.2.2.2⟩, ?_, ?_, ?_, ?_, ?_⟩
  · intro x hx y hy e
    subst e
    have := List.mem_singleton.mp hy
    subst this
    have := q5 _ hx rfl
    simp only at this
    omega
  · intro z hz ht
    rcases List.mem_append.mp hz with hz | hz
    · exact q01 z hz ht
    · rw [List.mem_singleton.mp hz]
  · intro p hp
    rw [e2] at hp
    obtain ⟨h1, h2, h3, h4⟩ := q2 p hp
    exact ⟨inL h1, inL h2, inL h3, fun k hk => by rw [newC_sd] at hk; exact inL (h4 k hk)⟩
  · intro c' hc
    rw [e1] at hc
    by_cases hcn : c' = (nc a).toNat
    · subst hcn
      exact List.mem_append.mpr (Or.inr (List.mem_singleton.mpr rfl))
    · exact inL (q3 c' (by omega))
  · intro z hz ht
    rw [e2]
    rcases List.mem_append.mp hz with hz | hz
    · exact q4 z hz ht
    · rw [List.mem_singleton.mp hz] at ht; simp at ht
  · intro z hz ht
    rw [e1]
    rcases List.mem_append.mp hz with hz | hz
    · have := q5 z hz ht; omega
    · rw [List.mem_singleton.mp hz]; simp only; omega
  · intro z hz
    rcases List.mem_append.mp hz with hz | hz
    · exact q6 z hz
    · rw [List.mem_singleton.mp hz]; simp
def cCu (cA : Nat → ClassId) (am : Ad) (a : St) (qa : Nat) (z : Id3) : va_E := if z = (0, 0, 0) then .inr (5, [.int (a 0 0 2), .int (a 0 0 3), .int (a 0 0 4), .ref (am 5 0 0), .ref (am 4 0 0), .ref (am 6 0 0), .ref (am 7 0 0), .ref (am 10 0 0), .ref qa]) else mS cA am a z.1 z.2.1 z.2.2
def caF (k : Int) : Nat → Int32 := upd (upd (upd (fun _ => 0) 0 (zI k)) 1 (zI (-1))) 2 (zI 0)
theorem mS_oldC {cA : Nat → ClassId} {am : Ad} {L : List Id3} {a : St} {k : Int} {qa q3 : Nat} (h : SH L a) {z : Id3} (hz : z ∈ L) (h0 : ¬ z = (0, 0, 0)) (h11 : ¬ z = (11, 0, 0)) : mS cA (amC am (nc a).toNat qa q3) (newC a k) z.1 z.2.1 z.2.2 = mS cA am a z.1 z.2.1 z.2.2 := by
  obtain ⟨⟨q0, q01⟩, -, q2', q3', q4, q5, q6⟩ := h
  obtain ⟨t, i, j⟩ := z
  have hj := q01 _ hz
  have hi := q4 _ hz
  have hc := q5 _ hz
  obtain ⟨ht, ht0⟩ := q6 _ hz
  simp only at hj hi hc ht ht0
  have hrow : ∀ t', ¬ (t' = 0 ∧ i = 0) → ¬ (t' = 3 ∧ i = (nc a).toNat) → newC a k t' i = a t' i := fun t' h1 h2 => by
    funext j'
    exact newC_o (fun q => h1 ⟨q.1, q.2.1⟩) (fun q => h2 ⟨q.1, q.2.1⟩)
  rcases (show t = 0 ∨ t = 1 ∨ t = 2 ∨ t = 3 ∨ t = 4 ∨ t = 5 ∨ t = 6 ∨ t = 7 ∨ t = 10 ∨ t = 11 ∨ t = 12 ∨ t = 13 by omega) with rfl | rfl | rfl | rfl | rfl | rfl | rfl | rfl | rfl | rfl | rfl | rfl
  · have e1 := ht0 (Or.inl rfl); have e2 := hj (by decide); subst e1; subst e2; exact absurd rfl h0
  · simp only [mS]
    rw [hrow 1 (by omega) (by omega), amC_o (by omega) (by omega), amC_o (by omega) (by omega)]
  · simp only [mS]
    rw [hrow 2 (by omega) (by omega), newC_sd]
  · have hn := hc rfl
    simp only [mS]
    rw [hrow 3 (by omega) (by omega)]
  · simp only [mS]
    rw [hrow 4 (by omega) (by omega)]
  · simp only [mS]
    rw [hrow 5 (by omega) (by omega)]
  · simp only [mS]
    rw [hrow 6 (by omega) (by omega)]
  · simp only [mS]
    rw [hrow 7 (by omega) (by omega)]
  · simp only [mS]
    have e : (fun k => some (amC am (nc a).toNat qa q3 1 k 0)) = fun k => some (am 1 k 0) := by funext k; rw [amC_o (by omega) (by omega)]
    rw [newC_np, e]
  · have e1 := ht0 (Or.inr (Or.inr rfl)); have e2 := hj (by decide); subst e1; subst e2; exact absurd rfl h11
  · simp only [mS]
    have e : (fun k => some (amC am (nc a).toNat qa q3 13 i k)) = fun k => some (am 13 i k) := by funext k; rw [amC_o (by omega) (by omega)]
    rw [newC_sd, e]
  · simp only [mS]
    rw [newC_sd]
theorem P_newC {cA : Nat → ClassId} {am : Ad} {L : List Id3} {a : St} {k : Int} {qa q3 : Nat} {D : va_G} {H : Heap} {w2 : va_W} {f : Nat → Option Nat} (h : SH L a) (hI : Inv a) (hf : ∀ c : Nat, c < (nc a).toNat → f c = some (am 3 c 0)) (hfn : f (nc a).toNat = some q3) (hn3 : nc a < 3)
    (hP : va_P D vwCl ((wG am L (cCu cA am a qa) ++ (w2 ++ [(qa, .inl (cA 6, (nc a).toNat + 1, .inr (.inr (.inr (.inr f)))))])) ++ [(q3, .inl (cA 0, 3, .inl (caF k)))]) H) : va_P D vwCl (wS cA (amC am (nc a).toNat qa q3) (L ++ [(3, (nc a).toNat, 0)]) (newC a k) ++ w2) H := by
  have hL := P_l (P_l hP)
  have hW := P_l (P_r (P_l hP))
  have hQ := P_r (P_r (P_l hP))
  have hN := P_r hP
  have hn0 := hI.1.2.2.1
  have e1 := newC_nc (a := a) (k := k) (by omega)
  refine va_P.app (P_to (cell := fun z => mS cA (amC am (nc a).toNat qa q3) (newC a k) z.1 z.2.1 z.2.2) fun z hz => ?_) hW
  rcases List.mem_append.mp hz with hz | hz
  · have hold := P_of hL hz
    have haddr : ¬ z = (11, 0, 0) → amC am (nc a).toNat qa q3 z.1 z.2.1 z.2.2 = am z.1 z.2.1 z.2.2 := fun h11 => amC_o (fun q => h11 (Prod.ext q.1 (Prod.ext q.2.1 q.2.2))) (fun q => by have := h.2.2.2.2.2.1 z hz q.1; omega)
    by_cases h0 : z = (0, 0, 0)
    · subst h0
      rw [haddr (by simp)]
      rw [cCu, if_pos rfl] at hold
      have : mS cA (amC am (nc a).toNat qa q3) (newC a k) 0 0 0 = .inr (5, [.int (a 0 0 2), .int (a 0 0 3), .int (a 0 0 4), .ref (am 5 0 0), .ref (am 4 0 0), .ref (am 6 0 0), .ref (am 7 0 0), .ref (am 10 0 0), .ref qa]) := by
        simp only [mS]
        rw [newC_o (by omega) (by omega), newC_o (by omega) (by omega), newC_o (by omega) (by omega), amC_o (by omega) (by omega), amC_o (by omega) (by omega), amC_o (by omega) (by omega), amC_o (by omega) (by omega), amC_o (by omega) (by omega)]
        rfl
      rw [this]
      exact hold
    · by_cases h11 : z = (11, 0, 0)
      · subst h11
        have hq : va_at D vwCl (qa, .inl (cA 6, (nc a).toNat + 1, .inr (.inr (.inr (.inr f))))) H := P_in hQ 0 rfl
        have e : mS cA (amC am (nc a).toNat qa q3) (newC a k) 11 0 0 = .inl (cA 6, (nc a).toNat + 1, .inr (.inr (.inr (.inr fun k => some (amC am (nc a).toNat qa q3 3 k 0))))) := by
          simp only [mS]
          rw [e1, show (nc a + 1).toNat = (nc a).toNat + 1 by omega]
        show va_at D vwCl (amC am (nc a).toNat qa q3 11 0 0, mS cA (amC am (nc a).toNat qa q3) (newC a k) 11 0 0) H
        rw [e]
        refine at_extQ (fun k hk => ?_) hq
        by_cases hkn : k = (nc a).toNat
        · subst hkn; rw [hfn, amC_3]
        · rw [hf k (by omega), amC_o (by omega) (by omega)]
      · rw [haddr h11, mS_oldC h hz h0 h11]
        rw [cCu, if_neg h0] at hold
        exact hold
  · have := List.mem_singleton.mp hz
    subst this
    have hq : va_at D vwCl (q3, .inl (cA 0, 3, .inl (caF k))) H := P_in hN 0 rfl
    show va_at D vwCl (amC am (nc a).toNat qa q3 3 (nc a).toNat 0, .inl (cA 0, 3, .inl (newC a k 3 (nc a).toNat))) H
    rw [amC_3]
    refine at_ext (fun j hj => ?_) hq
    obtain ⟨f0, f1, f2⟩ := hI.2.2.2.2 (nc a).toNat (by omega) (by omega)
    rcases (show j = 0 ∨ j = 1 ∨ j = 2 by omega) with rfl | rfl | rfl
    · rw [newC_v, if_neg (by omega), if_pos ⟨rfl, rfl, rfl⟩]; rfl
    · rw [newC_o (by omega) (by omega), f1]; rfl
    · rw [newC_o (by omega) (by omega), f2]; exact zI_0
theorem D_newC {cA : Nat → ClassId} {am : Ad} {L : List Id3} {a : St} {k : Int} {qa q3 : Nat} {A : Nat → Prop} {w2 : va_W} {cell : Id3 → va_E} {y y3 : va_E} (h : SH L a) (hn : 0 ≤ nc a ∧ nc a ≤ 3)
    (hD : va_D A ((wG am L cell ++ (w2 ++ [(qa, y)])) ++ [(q3, y3)])) : va_D A (wS cA (amC am (nc a).toNat qa q3) (L ++ [(3, (nc a).toNat, 0)]) (newC a k) ++ w2) := by
  have hDL := D_l0 (D_l0 hD)
  have hDW := D_l0 (D_r (D_l0 hD))
  have hI0 := DI_of hDL
  have haddr : ∀ z : Id3, z ∈ L → ¬ z = (11, 0, 0) → amC am (nc a).toNat qa q3 z.1 z.2.1 z.2.2 = am z.1 z.2.1 z.2.2 := fun z hz h11 => amC_o (fun q => h11 (Prod.ext q.1 (Prod.ext q.2.1 q.2.2))) (fun q => by have := h.2.2.2.2.2.1 z hz q.1; omega)
  have h11a : amC am (nc a).toNat qa q3 11 0 0 = qa := if_pos ⟨rfl, rfl, rfl⟩
  have hqx : ∀ z : Id3, z ∈ L → am z.1 z.2.1 z.2.2 ≠ qa := fun z hz => by
    have hx : va_D A (wG am L cell ++ [(qa, y)]) := by
      have h1 := D_sw (D_l0 hD)
      rw [List.append_assoc] at h1
      exact D_sw (D_r h1)
    exact X_of hx hz (j := 0) (q := (qa, y)) rfl
  have hAq : A qa := (D_r (D_r (D_l0 hD))).2 0 (qa, y) rfl
  have hA3 : A q3 := (D_r hD).2 0 (q3, y3) rfl
  have h3x : ∀ (i : Nat) (x : Nat × va_E), (wG am L cell ++ (w2 ++ [(qa, y)]))[i]? = some x → x.1 ≠ q3 := fun i x hi => D_lr hD hi (j := 0) (q := (q3, y3)) rfl
  have hL3 : ∀ z : Id3, z ∈ L → am z.1 z.2.1 z.2.2 ≠ q3 := fun z hz => by
    obtain ⟨i, hi⟩ := List.getElem?_of_mem hz
    obtain ⟨k, hk⟩ := at_l (w2 := w2 ++ [(qa, y)]) ⟨i, wG_at (am := am) (cell := cell) hi⟩
    exact h3x k _ hk
  have hq3 : qa ≠ q3 := by
    obtain ⟨k, hk⟩ := at_r (w1 := wG am L cell) (at_r (w1 := w2) (at_i (w2 := [(qa, y)]) 0 rfl))
    exact h3x k _ hk
  have hW3 : ∀ (j : Nat) (q : Nat × va_E), w2[j]? = some q → q.1 ≠ q3 := fun j q hj => by
    obtain ⟨k, hk⟩ := at_r (w1 := wG am L cell) (at_l (w2 := [(qa, y)]) ⟨j, hj⟩)
    exact h3x k _ hk
  have hWq : ∀ (j : Nat) (q : Nat × va_E), w2[j]? = some q → qa ≠ q.1 := fun j q hj e => D_lr (D_r (D_l0 hD)) hj (j := 0) (q := (qa, y)) rfl e.symm
  have hLW : ∀ z : Id3, z ∈ L → ∀ (j : Nat) (q : Nat × va_E), w2[j]? = some q → am z.1 z.2.1 z.2.2 ≠ q.1 := fun z hz j q hj => by
    obtain ⟨k, hk⟩ := at_l (w2 := [(qa, y)]) ⟨j, hj⟩
    exact X_of (D_l0 hD) hz hk
  have hSH := h.newC hn (k := k)
  have hold : ∀ z : Id3, z ∈ L → amC am (nc a).toNat qa q3 z.1 z.2.1 z.2.2 ≠ q3 := fun z hz => by
    by_cases t1 : z = (11, 0, 0)
    · subst t1
      show amC am (nc a).toNat qa q3 11 0 0 ≠ q3
      rw [h11a]; exact hq3
    · rw [haddr z hz t1]; exact hL3 z hz
  refine va_D.app (D_to (cell := fun z => mS cA (amC am (nc a).toNat qa q3) (newC a k) z.1 z.2.1 z.2.2) hSH.1.1 ?_ ?_) hDW ?_
  · intro z1 z2 h1 h2 e
    rcases List.mem_append.mp h1 with h1 | h1 <;> rcases List.mem_append.mp h2 with h2 | h2
    · by_cases t1 : z1 = (11, 0, 0) <;> by_cases t2 : z2 = (11, 0, 0)
      · rw [t1, t2]
      · subst t1
        rw [haddr z2 h2 t2] at e
        exact absurd (e.symm.trans h11a) (hqx z2 h2)
      · subst t2
        rw [haddr z1 h1 t1] at e
        exact absurd (e.trans h11a) (hqx z1 h1)
      · rw [haddr z1 h1 t1, haddr z2 h2 t2] at e
        exact hI0 z1 z2 h1 h2 e
    · have := List.mem_singleton.mp h2
      subst this
      exact absurd (e.trans amC_3) (hold z1 h1)
    · have := List.mem_singleton.mp h1
      subst this
      exact absurd (e.symm.trans amC_3) (hold z2 h2)
    · rw [List.mem_singleton.mp h1, List.mem_singleton.mp h2]
  · intro z hz
    rcases List.mem_append.mp hz with hz | hz
    · by_cases t1 : z = (11, 0, 0)
      · subst t1
        show A (amC am (nc a).toNat qa q3 11 0 0)
        rw [h11a]
        exact hAq
      · rw [haddr z hz t1]
        exact A_of hDL hz
    · rw [List.mem_singleton.mp hz]
      show A (amC am (nc a).toNat qa q3 3 (nc a).toNat 0)
      rw [amC_3]
      exact hA3
  · intro i j p q hi hj e
    obtain ⟨z, hz, rfl⟩ := wG_in hi
    have hz := List.mem_of_getElem? hz
    rcases List.mem_append.mp hz with hz | hz
    · by_cases t1 : z = (11, 0, 0)
      · subst t1
        exact hWq j q hj (h11a.symm.trans e)
      · exact hLW z hz j q hj ((haddr z hz t1).symm.trans e)
    · have := List.mem_singleton.mp hz
      subst this
      exact hW3 j q hj (e.symm.trans (amC_3 (am := am) (n := (nc a).toNat) (qa := qa) (q3 := q3) (j := 0)))
/-- the law's bastion as it is made -/
def am0 (b q1 q2 q3 q4 q5 q6 : Nat) : Ad := fun t _ _ => match t with
  | 0 => b
  | 5 => q1
  | 4 => q2
  | 6 => q3
  | 7 => q4
  | 10 => q5
  | _ => q6
def L0 : List Id3 := [(0, 0, 0), (5, 0, 0), (4, 0, 0), (6, 0, 0), (7, 0, 0), (10, 0, 0), (11, 0, 0)]
theorem SH0 : SH L0 al0 := by
  have e1 : np al0 = 0 := by decide
  have e2 : nc al0 = 0 := by decide
  refine ⟨⟨by decide, by decide⟩, ⟨by decide, by decide, by decide, by decide, by decide, by decide, by decide⟩, ?_, ?_, ?_, ?_, by decide⟩
  · intro p hp; rw [e1] at hp; omega
  · intro c hc; rw [e2] at hc; omega
  · intro z hz ht
    exfalso
    revert z
    decide
  · intro z hz ht
    exfalso
    revert z
    decide
theorem P_new0 {cA : Nat → ClassId} {b q1 q2 q3 q4 q5 q6 : Nat} {D : va_G} {H : Heap} (h : va_P D vwCl [(b, .inr (5, [.int 0, .int 0, .int (zI 6), .ref q1, .ref q2, .ref q3, .ref q4, .ref q5, .ref q6])), (q1, .inl (cA 0, 5, .inl (fun _ => 0))), (q2, .inl (cA 0, 5, .inl (fun _ => 0))), (q3, .inl (cA 0, 5, .inl (fun _ => 0))), (q4, .inl (cA 0, 5, .inl (fun _ => 0))), (q5, .inl (cA 5, 0, .inr (.inr (.inr (.inr (fun _ => none)))))), (q6, .inl (cA 6, 0, .inr (.inr (.inr (.inr (fun _ => none))))))] H) : va_P D vwCl (wS cA (am0 b q1 q2 q3 q4 q5 q6) L0 al0) H := by
  have er : ∀ t : Nat, ¬ t = 3 → ¬ t = 0 → al0 t 0 = fun _ => 0 := fun t h1 h2 => by funext j; exact al0_0 (by omega) (by omega)
  have e : wS cA (am0 b q1 q2 q3 q4 q5 q6) L0 al0 = [(b, .inr (5, [.int (al0 0 0 2), .int (al0 0 0 3), .int (al0 0 0 4), .ref q1, .ref q2, .ref q3, .ref q4, .ref q5, .ref q6])), (q1, .inl (cA 0, 5, .inl (al0 5 0))), (q2, .inl (cA 0, 5, .inl (al0 4 0))), (q3, .inl (cA 0, 5, .inl (al0 6 0))), (q4, .inl (cA 0, 5, .inl (al0 7 0))), (q5, .inl (cA 5, (np al0).toNat, .inr (.inr (.inr (.inr (fun k => some (am0 b q1 q2 q3 q4 q5 q6 1 k 0))))))), (q6, .inl (cA 6, (nc al0).toNat, .inr (.inr (.inr (.inr (fun k => some (am0 b q1 q2 q3 q4 q5 q6 3 k 0)))))))] := rfl
  rw [e, er 5 (by omega) (by omega), er 4 (by omega) (by omega), er 6 (by omega) (by omega), er 7 (by omega) (by omega), show al0 0 0 2 = 0 from al0_0 (by omega) (by omega), show al0 0 0 3 = 0 from al0_0 (by omega) (by omega), show al0 0 0 4 = zI 6 from rfl, show (np al0).toNat = 0 by decide, show (nc al0).toNat = 0 by decide]
  intro k q hk
  match k, hk with
  | 0, hk => exact h 0 q hk
  | 1, hk => exact h 1 q hk
  | 2, hk => exact h 2 q hk
  | 3, hk => exact h 3 q hk
  | 4, hk => exact h 4 q hk
  | 5, hk => cases hk; exact at_extQ (fun j hj => absurd hj (by omega)) (h 5 _ rfl)
  | 6, hk => cases hk; exact at_extQ (fun j hj => absurd hj (by omega)) (h 6 _ rfl)
  | k + 7, hk => simp at hk
theorem D_fst {A : Nat → Prop} {w w' : va_W} (h : w'.map Prod.fst = w.map Prod.fst) (hD : va_D A w) : va_D A w' := by
  have key : ∀ (i : Nat) (x : Nat × va_E), w'[i]? = some x → ∃ q : Nat × va_E, w[i]? = some q ∧ q.1 = x.1 := by
    intro i x hi
    have h1 : (w'.map Prod.fst)[i]? = some x.1 := by rw [List.getElem?_map, hi]; rfl
    rw [h, List.getElem?_map] at h1
    cases hq : w[i]? with
    | none => rw [hq] at h1; cases h1
    | some q => rw [hq] at h1; exact ⟨q, rfl, Option.some.inj h1⟩
  refine ⟨fun i j p q hi hj e => ?_, fun k q hk => ?_⟩
  · obtain ⟨p', k1, e1⟩ := key i p hi
    obtain ⟨q', k2, e2⟩ := key j q hj
    exact hD.1 i j p' q' k1 k2 (by rw [e1, e2]; exact e)
  · obtain ⟨q', k1, e1⟩ := key k q hk
    rw [← e1]
    exact hD.2 k q' k1
section GROWR
variable {p : Program} {l : Launch} {e : Env} {R : Room} {s : State} {m : MethodId} {args : Array Value} {below : List Frame} {meth : Method} {c : Code} {Q : State → Prop} {D : va_G} {A : Nat → Prop} {nL : Nat} {w2 : va_W} {cells slots pc : Nat} {lv : List (Nat × Value)} {st : List Value} {cc : ByteArray} {own : String} {Ts : List Cond} {ret : Option FieldType} {cA : Nat → ClassId} {am : Ad} {L : List Id3} {a : St}
theorem g_newPile (E : GE p s m args meth c D (tysX cA) cc nL own Ts ret) (h : SH L a) (hI : Inv a) {c9 s9 : Int} (hc : 0 ≤ c9 ∧ c9 ≤ 4) (hs : 1 ≤ s9 ∧ s9 ≤ 6) (hn6 : np a < 6) {qa b q1 q2 : Nat} {tr : Nat → Nat} {f : Nat → Option Nat} (hf : ∀ k : Nat, k < (np a).toNat → f k = some (am 1 k 0)) (hfn : f (np a).toNat = some b) {index : Nat} (hin : ∀ w ∈ u_ws RX5 TX5 9, w ∈ Ts) (hlink : Cond.fieldLink own index RX5 "piles" "[LCannonStacksLaw$Pile;" ∈ Ts) (hdg : decode cc pc = .ok (.putfield index, 3))
    (kk : GW p l e R s m args below meth c Q D A nL (wS cA (amP am (np a).toNat qa b q1 q2 tr) (L ++ NP (np a).toNat (sq s9).toNat) (newP a c9 s9) ++ w2) cells slots (pc + 3) lv st) : GW p l e R s m args below meth c Q D A nL ((wS cA am L a ++ (w2 ++ [(qa, .inl (cA 5, (np a).toNat + 1, .inr (.inr (.inr (.inr f)))))])) ++ wP cA b c9 s9 q1 q2 (sq s9).toNat tr) cells slots pc lv (.ref qa :: .ref (am 0 0 0) :: st) := by
  refine g_putf (ty := .array (.object "CannonStacksLaw$Pile")) (k := 7) (ws' := (wG am L (cPu cA am a qa) ++ (w2 ++ [(qa, .inl (cA 5, (np a).toNat + 1, .inr (.inr (.inr (.inr f)))))])) ++ wP cA b c9 s9 q1 q2 (sq s9).toNat tr) E hin (T := TX5) tyX5_ok nmX5 rfl (by decide) hlink rfl rfl (by decide +kernel) rfl rfl (Nat.le_of_ble_eq_true rfl) (se_l (se_l (wl_set (f := fun z : Id3 => (am z.1 z.2.1 z.2.2, mS cA am a z.1 z.2.1 z.2.2)) (f' := fun z : Id3 => (am z.1 z.2.1 z.2.2, cPu cA am a qa z)) h.1.1 h.2.1.1 ?_ ?_))) hdg ?_
  · show (am 0 0 0, cPu cA am a qa (0, 0, 0)) = _
    rw [cPu, if_pos rfl]
    rfl
  · intro z _ hne
    show (am z.1 z.2.1 z.2.2, cPu cA am a qa z) = _
    rw [cPu, if_neg hne]
  · exact g_wsv (fun H hP => P_newP h hI hc hs hf hfn hn6 hP) (fun hD => D_newP h ⟨hI.1.1, by omega⟩ hs hD) kk
theorem g_newCat (E : GE p s m args meth c D (tysX cA) cc nL own Ts ret) (h : SH L a) (hI : Inv a) {k9 : Int} (hn3 : nc a < 3) {qa q3 : Nat} {f : Nat → Option Nat} (hf : ∀ k : Nat, k < (nc a).toNat → f k = some (am 3 k 0)) (hfn : f (nc a).toNat = some q3) {index : Nat} (hin : ∀ w ∈ u_ws RX5 TX5 9, w ∈ Ts) (hlink : Cond.fieldLink own index RX5 "cats" "[[I" ∈ Ts) (hdg : decode cc pc = .ok (.putfield index, 3))
    (kk : GW p l e R s m args below meth c Q D A nL (wS cA (amC am (nc a).toNat qa q3) (L ++ [(3, (nc a).toNat, 0)]) (newC a k9) ++ w2) cells slots (pc + 3) lv st) : GW p l e R s m args below meth c Q D A nL ((wS cA am L a ++ (w2 ++ [(qa, .inl (cA 6, (nc a).toNat + 1, .inr (.inr (.inr (.inr f)))))])) ++ [(q3, .inl (cA 0, 3, .inl (caF k9)))]) cells slots pc lv (.ref qa :: .ref (am 0 0 0) :: st) := by
  refine g_putf (ty := .array (.array .int)) (k := 8) (ws' := (wG am L (cCu cA am a qa) ++ (w2 ++ [(qa, .inl (cA 6, (nc a).toNat + 1, .inr (.inr (.inr (.inr f)))))])) ++ [(q3, .inl (cA 0, 3, .inl (caF k9)))]) E hin (T := TX5) tyX5_ok nmX5 rfl (by decide) hlink rfl rfl (by decide +kernel) rfl rfl (Nat.le_of_ble_eq_true rfl) (se_l (se_l (wl_set (f := fun z : Id3 => (am z.1 z.2.1 z.2.2, mS cA am a z.1 z.2.1 z.2.2)) (f' := fun z : Id3 => (am z.1 z.2.1 z.2.2, cCu cA am a qa z)) h.1.1 h.2.1.1 ?_ ?_))) hdg ?_
  · show (am 0 0 0, cCu cA am a qa (0, 0, 0)) = _
    rw [cCu, if_pos rfl]
    rfl
  · intro z _ hne
    show (am z.1 z.2.1 z.2.2, cCu cA am a qa z) = _
    rw [cCu, if_neg hne]
  · exact g_wsv (fun H hP => P_newC h hI hf hfn hn3 hP) (fun hD => D_newC h ⟨hI.1.2.2.1, by omega⟩ hD) kk
theorem g_new0 {b q1 q2 q3 q4 q5 q6 : Nat} (kk : GW p l e R s m args below meth c Q D A nL (wS cA (am0 b q1 q2 q3 q4 q5 q6) L0 al0 ++ w2) cells slots pc lv st) : GW p l e R s m args below meth c Q D A nL (w2 ++ [(b, .inr (5, [.int 0, .int 0, .int (zI 6), .ref q1, .ref q2, .ref q3, .ref q4, .ref q5, .ref q6])), (q1, .inl (cA 0, 5, .inl (fun _ => 0))), (q2, .inl (cA 0, 5, .inl (fun _ => 0))), (q3, .inl (cA 0, 5, .inl (fun _ => 0))), (q4, .inl (cA 0, 5, .inl (fun _ => 0))), (q5, .inl (cA 5, 0, .inr (.inr (.inr (.inr (fun _ => none)))))), (q6, .inl (cA 6, 0, .inr (.inr (.inr (.inr (fun _ => none))))))]) cells slots pc lv st :=
  g_wsv (fun H hP => (P_new0 (P_r hP)).app (P_l hP)) (fun hD => D_sw (D_fst (w := w2 ++ [(b, .inr (5, [.int 0, .int 0, .int (zI 6), .ref q1, .ref q2, .ref q3, .ref q4, .ref q5, .ref q6])), (q1, .inl (cA 0, 5, .inl (fun _ => 0))), (q2, .inl (cA 0, 5, .inl (fun _ => 0))), (q3, .inl (cA 0, 5, .inl (fun _ => 0))), (q4, .inl (cA 0, 5, .inl (fun _ => 0))), (q5, .inl (cA 5, 0, .inr (.inr (.inr (.inr (fun _ => none)))))), (q6, .inl (cA 6, 0, .inr (.inr (.inr (.inr (fun _ => none))))))]) (by rw [List.map_append, List.map_append]; rfl) hD)) kk
end GROWR
