/-! ===== the law's bastion: what its methods do ===== -/
def sumsF (a : St) (k p : Nat) : Nat → Int32 := fun j => if j = 0 then sum5 (a 5 0) k else if j = 1 then sum5 (a 4 0) k else if j = 2 then zI (blAll a p) else if j = 3 then sum5 (a 6 0) k else if j = 4 then sum5 (a 7 0) k else 0
theorem sums_0 (a : St) : (fun _ : Nat => (0 : Int32)) = sumsF a 0 0 := by
  funext j
  simp only [sumsF, sum5, blAll, zI_0]
  repeat' split
  all_goals rfl
theorem sums_s (a : St) (k : Nat) : upd (upd (upd (upd (sumsF a k 0) 0 (sum5 (a 5 0) k + a 5 0 k)) 1 (sum5 (a 4 0) k + a 4 0 k)) 3 (sum5 (a 6 0) k + a 6 0 k)) 4 (sum5 (a 7 0) k + a 7 0 k) = sumsF a (k + 1) 0 := by
  funext j
  simp only [sumsF, sum5, upd]
  repeat' split
  all_goals first | rfl | omega
theorem sums_p (a : St) (p : Nat) : upd (sumsF a 5 p) 2 (zI (blAll a p + bl a p)) = sumsF a 5 (p + 1) := by
  funext j
  simp only [sumsF, blAll, upd]
  repeat' split
  all_goals first | rfl | omega
/-- the counts as the law lays them -/
def allF (a : St) (r : Int32) : Nat → Int32 := upd (upd (upd (upd (upd (upd (upd (upd (upd (upd (upd (fun _ => 0) 0 (a 0 0 2)) 1 (zI (np a))) 2 (zI (nc a))) 3 (sum5 (a 5 0) 5)) 4 (sum5 (a 4 0) 5)) 5 (zI (blAll a (np a).toNat))) 6 r) 7 (sum5 (a 6 0) 5)) 8 (sum5 (a 7 0) 5)) 9 (a 0 0 3)) 10 (a 0 0 4)
theorem all_c {a : St} {w : Nat} (hw : w < 11) : allF a (zI (ruAll a (np a).toNat)) w = coV a w := by
  rcases (show w = 0 ∨ w = 1 ∨ w = 2 ∨ w = 3 ∨ w = 4 ∨ w = 5 ∨ w = 6 ∨ w = 7 ∨ w = 8 ∨ w = 9 ∨ w = 10 by omega) with rfl | rfl | rfl | rfl | rfl | rfl | rfl | rfl | rfl | rfl | rfl <;> rfl
/-- covered balls, the first k told -/
def covF (a : St) (p k : Nat) : Nat → Int32 := fun j => if j < k then zI (if cv a p j then 1 else 0) else 0
theorem covF_0 (a : St) (p : Nat) : (fun _ : Nat => (0 : Int32)) = covF a p 0 := by
  funext j
  exact (if_neg (by omega)).symm
theorem covF_s {a : St} {p k : Nat} {v : Int32} (h : v = zI (if cv a p k then 1 else 0)) : upd (covF a p k) k v = covF a p (k + 1) := by
  subst h
  funext j
  unfold upd covF
  by_cases h : j = k
  · subst h
    rw [if_pos rfl, if_pos (show j < j + 1 by omega)]
  · rw [if_neg h]
    by_cases h2 : j < k
    · rw [if_pos h2, if_pos (show j < k + 1 by omega)]
    · rw [if_neg h2, if_neg (show ¬ j < k + 1 by omega)]
theorem covF_at {a : St} {p k j : Nat} (h : j < k) : covF a p k j = zI (if cv a p j then 1 else 0) := if_pos h
theorem cov_st (a : St) (p : Nat) (rain : Int32) (n : Nat) (x : Int32) (h : x = mnI (raS a p rain n 2 p n + (if cv (raS a p rain n) p n then rain / zI 2 else zI 1 + rain)) (zI 9)) : up3 (raS a p rain n) 2 p n x = raS a p rain (n + 1) := by
  subst h
  rfl
theorem mn9 {x : Int32} : (¬ x ≤ zI 9 → zI 9 = mnI x (zI 9)) ∧ (x ≤ zI 9 → x = mnI x (zI 9)) := by
  unfold mnI
  refine ⟨fun h => ?_, fun h => ?_⟩
  · rw [if_pos (Int32.not_le.mp h)]
  · rw [if_neg (fun q => absurd h (Int32.not_le.mpr q))]
theorem jm_0 {a : St} {c : Nat} (h : on a c = -1) : up3 a 3 c 1 (zI 0) = jmpS a c := by
  rw [jmpS, jmpO, if_pos (Or.inl h)]
theorem jm_1 {a : St} {c : Nat} (h : ¬ on a c = -1) (hn : 1 ≤ np a) : up3 a 3 c 1 (zI ((on a c + lp a c) % np a)) = jmpS a c := by
  rw [jmpS, jmpO, if_neg (by omega)]
theorem jm_v (a : St) (c : Nat) : jmpS a c 3 c 1 = zI (jmpO a c) := up3_s
theorem of_1 (a : St) (p c : Nat) : up3 (topS a p) 4 0 (cal (topS a p) p).toNat (topS a p 4 0 (cal (topS a p) p).toNat + zI 1) = up3 (topS a p) 4 0 (cal a p).toNat (a 4 0 (cal a p).toNat + zI 1) := by
  rw [topS_cal, topS_o (by omega)]
theorem of_2 (a : St) (p c : Nat) : up3 (up3 (topS a p) 4 0 (cal a p).toNat (a 4 0 (cal a p).toNat + zI 1)) 3 c 2 (up3 (topS a p) 4 0 (cal a p).toNat (a 4 0 (cal a p).toNat + zI 1) 3 c 2 + zI 1) = offS a p c := by
  rw [offS, up3_n (by omega), topS_o (by omega)]
theorem lj_1 {a : St} {c : Nat} (h : ¬ opV (jmpS a c) (jmpP a c) = 0) : offS (jmpS a c) (jmpP a c) c = ljS a c := by
  unfold opV at h
  rw [ljS, if_pos (ite1 h)]
theorem lj_0 {a : St} {c : Nat} (h : opV (jmpS a c) (jmpP a c) = 0) : jmpS a c = ljS a c := by
  unfold opV at h
  rw [ljS, if_neg (ite0 h)]
theorem cats_e {a : St} {k : Nat} (h1 : np a = 0 → k = 0) (h2 : (k : Int) = nc a ∨ np a = 0) (hn : 0 ≤ np a) : (jumpAll a k).1 = (catsS a).1 := by
  unfold catsS
  split
  · rcases h2 with h2 | h2
    · rw [← h2]; rfl
    · omega
  · rw [h1 (by omega)]; rfl
theorem opV_b (a : St) (p : Nat) : 0 ≤ opV a p ∧ opV a p ≤ 1 := by
  unfold opV
  split <;> omega
theorem SH.ra {L : List Id3} {a : St} (h : SH L a) (n : Nat) : SH L (raAll a n) := h.to (congrArg Int32.toInt (raAll_e a n 0 0 0 (by decide))) (congrArg Int32.toInt (raAll_e a n 0 0 1 (by decide))) (fun _ => (raAll_e a n).sd)
theorem SH.ja {L : List Id3} {a : St} (h : SH L a) (n : Nat) : SH L (jumpAll a n).1 := h.to (congrArg Int32.toInt (jumpAll_o (by omega) n)) (congrArg Int32.toInt (jumpAll_o (by omega) n)) (fun _ => congrArg Int32.toInt (jumpAll_o (by omega) n))
theorem SH.up {L : List Id3} {a : St} (h : SH L a) {t i j : Nat} {v : Int32} (hs : saf t i j) : SH L (up3 a t i j v) := by
  have h1 := hs.1
  have h2 := hs.2.1
  exact h.to (np_up (by omega)) (nc_up (by omega)) (fun _ => sd_up (by omega))
theorem SH.jm {L : List Id3} {a : St} (h : SH L a) (c : Nat) : SH L (jmpS a c) := h.up (by unfold saf; omega)
theorem SH.day {L : List Id3} {a : St} (h : SH L a) : SH L (dayS a) := h.to (congrArg Int32.toInt (dayS_o (by omega))) (congrArg Int32.toInt (dayS_o (by omega))) (fun _ => congrArg Int32.toInt (dayS_o (by omega)))
theorem SH.pl {L : List Id3} {a : St} (h : SH L a) : ∀ n : Nat, SH L (passL a n).1
  | 0 => h
  | n + 1 => (SH.pl h n).day
theorem zif0 {C : Prop} [Decidable C] (h : zI (if C then 1 else 0) = 0) : ¬ C := fun hc => by
  rw [if_pos hc] at h
  exact absurd h (by decide)
theorem zif1 {C : Prop} [Decidable C] (h : ¬ zI (if C then 1 else 0) = 0) : C := by
  by_cases hc : C
  · exact hc
  · rw [if_neg hc] at h
    exact absurd zI_0 h
theorem jumpAll_j {a : St} (h : Inv a) {n : Nat} (hn : (n : Int) ≤ nc a) (h0 : np a = 0 → n = 0) : Inv (jumpAll a n).1 ∧ np (jumpAll a n).1 = np a ∧ nc (jumpAll a n).1 = nc a := by
  by_cases hz : np a = 0
  · rw [h0 hz]; exact ⟨h, rfl, rfl⟩
  · exact jumpAll_i h (by have := h.1; omega) n hn
