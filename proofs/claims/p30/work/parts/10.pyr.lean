/-! ===== PYRAMID ===== -/
theorem sq_b : ∀ n : Nat, n ≤ 20 → 0 ≤ (n : Int) * (n + 1) * (2 * n + 1) ∧ (n : Int) * (n + 1) * (2 * n + 1) < 2147483648 := by decide +kernel
theorem sq_bz {n : Int} (h : 0 ≤ n ∧ n ≤ 20) : 0 ≤ n * (n + 1) * (2 * n + 1) ∧ n * (n + 1) * (2 * n + 1) < 2147483648 := by
  obtain ⟨k, rfl⟩ := Int.eq_ofNat_of_zero_le h.1
  exact sq_b k (by omega)
def pyr_fB (i b : Nat) : Bool := decide (1 ≤ i → (b : Int) < sq i → 0 ≤ lf i b ∧ lf i b < i ∧ stz i (lf i b) ≤ b) && decide (1 ≤ i → (b : Int) < sq i → b < stz i (lf i b + 1) ∧ 0 ≤ row i b ∧ row i b < i - lf i b) && decide (1 ≤ i → (b : Int) < sq i → 0 ≤ pla i b ∧ pla i b < i - lf i b ∧ b < cov i b ∧ cov i b ≤ sq i)
theorem pyr_fT : ∀ i : Nat, i < 7 → ∀ b : Nat, b < 91 → pyr_fB i b = true := by decide +kernel
theorem pyr_f0 (i : Nat) (h1 : i < 7) (b : Nat) (h2 : b < 91) (h3 : 1 ≤ i) (h4 : (b : Int) < sq i) : 0 ≤ lf i b ∧ lf i b < i ∧ stz i (lf i b) ≤ b ∧ b < stz i (lf i b + 1) ∧ 0 ≤ row i b ∧ row i b < i - lf i b ∧ 0 ≤ pla i b ∧ pla i b < i - lf i b ∧ b < cov i b ∧ cov i b ≤ sq i := by
  have h := pyr_fT i h1 b h2
  simp only [pyr_fB, Bool.and_eq_true, decide_eq_true_eq] at h
  obtain ⟨⟨ha, hb⟩, hc⟩ := h
  have ha := ha h3 h4
  have hb := hb h3 h4
  have hc := hc h3 h4
  exact ⟨ha.1, ha.2.1, ha.2.2, hb.1, hb.2.1, hb.2.2, hc⟩
theorem pyr_f {i : Nat} {b : Int} (hi : 1 ≤ i ∧ i < 7) (hb : 0 ≤ b ∧ b < sq i) : 0 ≤ lf i b ∧ lf i b < i ∧ stz i (lf i b) ≤ b ∧ b < stz i (lf i b + 1) ∧ 0 ≤ row i b ∧ row i b < i - lf i b ∧ 0 ≤ pla i b ∧ pla i b < i - lf i b ∧ b < cov i b ∧ cov i b ≤ sq i := by
  obtain ⟨k, rfl⟩ := Int.eq_ofNat_of_zero_le hb.1
  have := sq_le (e := i) (by omega)
  exact pyr_f0 i hi.2 k (by omega) hi.1 hb.2
theorem stz_b0 : ∀ i : Nat, i < 7 → ∀ k : Nat, k ≤ i → 0 ≤ stz i k ∧ stz i k ≤ 91 := by decide +kernel
theorem stz_b {i : Nat} {k : Int} (hi : 1 ≤ i ∧ i < 7) (hk : 0 ≤ k ∧ k ≤ i) : 0 ≤ stz i k ∧ stz i k ≤ 91 := by
  obtain ⟨j, rfl⟩ := Int.eq_ofNat_of_zero_le hk.1
  exact stz_b0 i hi.2 j (by omega)
theorem lfA_s {e b k : Int} {n : Nat} (h : 0 < n) : lfA e b n k = if k < e ∧ stz e (k + 1) ≤ b then lfA e b (n - 1) (k + 1) else k := by
  obtain ⟨m, rfl⟩ : ∃ m, n = m + 1 := ⟨n - 1, by omega⟩
  rfl
theorem lbA_s {e b k : Int} {n : Nat} (h : 0 < n) : lbA e b n k = if k < e ∧ stz e k < b then lbA e b (n - 1) (k + 1) else k := by
  obtain ⟨m, rfl⟩ : ∃ m, n = m + 1 := ⟨n - 1, by omega⟩
  rfl
set_option maxHeartbeats 800000 in
set_option maxRecDepth 100000 in
/-- Pyramid.squares(n) -/
theorem c_X2_squares (l : Launch) (D : va_G) (tys : gT) (A : Nat → Prop) (ws : va_W) (n : Int) (hn : 0 ≤ n ∧ n ≤ 20) : Met l yX2_squares wsX2_squares ({ frames := 0, cells := 0, slots := 0, locals := 0 }) (PcG D tys A (ws) [.int (zI n)]) (va_Qi (fun (r : Int32) ws' => r = zI (sq n) ∧ ws' = ws) (gB D A) A) 0 0 A := by
  refine g_met (cc := cX2_squares) (maxL := 1) (ret := (some .int)) (own := RX2) rfl (by decide) rfl (Nat.le_of_ble_eq_true rfl) ?_
  intro p e s m below meth c E
  have hb := sq_bz hn
  refine g_loc (lv' := [(0, .int (zI n))]) ⟨rfl, trivial⟩ ?_
  refine g_iload_n E dX2_squares_0 rfl ?_
  refine g_iload_n E dX2_squares_1 rfl ?_
  refine g_iconst E dX2_squares_2 ?_
  refine g_iadd E dX2_squares_3 ?_
  refine g_imul E dX2_squares_4 ?_
  refine g_iconst E dX2_squares_5 ?_
  refine g_iload_n E dX2_squares_6 rfl ?_
  refine g_imul E dX2_squares_7 ?_
  refine g_iconst E dX2_squares_8 ?_
  refine g_iadd E dX2_squares_9 ?_
  refine g_imul E dX2_squares_10 ?_
  refine g_bipush E dX2_squares_11 (by decide) ?_
  refine g_idiv E dX2_squares_13 (by omega) (by omega) ?_
  exact g_iret E (⟨rfl, rfl⟩) dX2_squares_14
set_option maxHeartbeats 800000 in
set_option maxRecDepth 100000 in
/-- Pyramid.startOf(k) -/
theorem c_X2_startOf (l : Launch) (D : va_G) (cA : Nat → ClassId) (A : Nat → Prop) (ad : Ad) (σ : Nat → St) (i : Nat) (hi : 1 ≤ i ∧ i < 7) (e9 : Int) (he : (i : Int) = e9) (k : Int) (hk : 0 ≤ k ∧ k ≤ e9) : Met l yX2_startOf wsX2_startOf ({ frames := 0, cells := 0, slots := 0, locals := 0 }) (PcG D (tysX cA) A (wX cA ad σ) [.ref (ad 2 9 i), .int (zI k)]) (va_Qi (fun (r : Int32) ws' => r = zI (stz e9 k) ∧ ws' = wX cA ad σ) (gB D A) A) 0 0 A := by
  refine g_met (cc := cX2_startOf) (maxL := 2) (ret := (some .int)) (own := RX2) rfl (by decide) rfl (Nat.le_of_ble_eq_true rfl) ?_
  intro p e s m below meth c E
  have hin2 : ∀ w ∈ u_ws RX2 TX2 4, w ∈ wsX2_startOf := by decide +kernel
  subst he
  refine g_loc (lv' := [(0, .ref (ad 2 9 i)), (1, .int (zI k))]) ⟨rfl, rfl, trivial⟩ ?_
  refine g_iload_n E dX2_startOf_0 rfl ?_
  refine g_if_lt (tgt := 22) E dX2_startOf_1 (by decide) (by omega) (fun c_1 => ?_) (fun c_1 => ?_)
  · exact absurd c_1 (by omega)
  · refine g_iload_n E dX2_startOf_4 rfl ?_
    refine g_aload_n E dX2_startOf_5 rfl ?_
    refine gx_Pyr_starts E (mem_9 _ (by omega) (by omega)) hin2 (by decide +kernel) dX2_startOf_6 ?_
    refine nx_13 E (mem_13 _ (by omega) (by omega)) dX2_startOf_9 ?_
    refine g_icmp_ge (tgt := 22) E dX2_startOf_10 (by decide) (by omega) (by omega) (fun c_10 => ?_) (fun c_10 => ?_)
    · exact absurd c_10 (by omega)
    · refine g_aload_n E dX2_startOf_13 rfl ?_
      refine gx_Pyr_starts E (mem_9 _ (by omega) (by omega)) hin2 (by decide +kernel) dX2_startOf_14 ?_
      refine g_iload_n E dX2_startOf_17 rfl ?_
      refine lx_13 E (mem_13 _ (by omega) (by omega)) (by omega) (by omega) dX2_startOf_18 ?_
      refine g_goto (tgt := 26) E dX2_startOf_19 (by decide) ?_
      exact g_iret E (⟨rfl, rfl⟩) dX2_startOf_26
set_option maxHeartbeats 800000 in
set_option maxRecDepth 100000 in
/-- Pyramid.firstOn(b) -/
theorem c_X2_firstOn (l : Launch) (D : va_G) (cA : Nat → ClassId) (A : Nat → Prop) (ad : Ad) (σ : Nat → St) (i : Nat) (hi : 1 ≤ i ∧ i < 7) (e9 : Int) (he : (i : Int) = e9) (b : Int) (hb : 0 ≤ b ∧ b < sq e9) : Met l yX2_firstOn wsX2_firstOn ({ frames := 0, cells := 0, slots := 0, locals := 0 }) (PcG D (tysX cA) A (wX cA ad σ) [.ref (ad 2 9 i), .int (zI b)]) (va_Qi (fun (r : Int32) ws' => r = zI (cov e9 b) ∧ ws' = wX cA ad σ) (gB D A) A) 0 0 A := by
  refine g_met (cc := cX2_firstOn) (maxL := 2) (ret := (some .int)) (own := RX2) rfl (by decide) rfl (Nat.le_of_ble_eq_true rfl) ?_
  intro p e s m below meth c E
  have hin2 : ∀ w ∈ u_ws RX2 TX2 4, w ∈ wsX2_firstOn := by decide +kernel
  subst he
  have hs := sq_le (e := i) (by omega)
  refine g_loc (lv' := [(0, .ref (ad 2 9 i)), (1, .int (zI b))]) ⟨rfl, rfl, trivial⟩ ?_
  refine g_iload_n E dX2_firstOn_0 rfl ?_
  refine g_if_lt (tgt := 22) E dX2_firstOn_1 (by decide) (by omega) (fun c_1 => ?_) (fun c_1 => ?_)
  · exact absurd c_1 (by omega)
  · refine g_iload_n E dX2_firstOn_4 rfl ?_
    refine g_aload_n E dX2_firstOn_5 rfl ?_
    refine gx_Pyr_coverers E (mem_9 _ (by omega) (by omega)) hin2 (by decide +kernel) dX2_firstOn_6 ?_
    refine nx_14 E (mem_14 _ (by omega) (by omega)) dX2_firstOn_9 ?_
    refine g_icmp_ge (tgt := 22) E dX2_firstOn_10 (by decide) (by omega) (by omega) (fun c_10 => ?_) (fun c_10 => ?_)
    · exact absurd c_10 (by omega)
    · refine g_aload_n E dX2_firstOn_13 rfl ?_
      refine gx_Pyr_coverers E (mem_9 _ (by omega) (by omega)) hin2 (by decide +kernel) dX2_firstOn_14 ?_
      refine g_iload_n E dX2_firstOn_17 rfl ?_
      refine lx_14 E (mem_14 _ (by omega) (by omega)) (by omega) (by omega) dX2_firstOn_18 ?_
      refine g_goto (tgt := 26) E dX2_firstOn_19 (by decide) ?_
      exact g_iret E (⟨rfl, rfl⟩) dX2_firstOn_26
set_option maxHeartbeats 800000 in
set_option maxRecDepth 100000 in
/-- Pyramid.layersBegun(b) -/
theorem c_X2_layersBegun (l : Launch) (D : va_G) (cA : Nat → ClassId) (A : Nat → Prop) (ad : Ad) (σ : Nat → St) (i : Nat) (hi : 1 ≤ i ∧ i < 7) (e9 : Int) (he : (i : Int) = e9) (b : Int) (hb : 0 ≤ b ∧ b ≤ 100) : Met l yX2_layersBegun wsX2_layersBegun ({ frames := 0, cells := 0, slots := 0, locals := 0 }) (PcG D (tysX cA) A (wX cA ad σ) [.ref (ad 2 9 i), .int (zI b)]) (va_Qi (fun (r : Int32) ws' => r = zI (lb e9 b) ∧ ws' = wX cA ad σ) (gB D A) A) 0 0 A := by
  refine g_met (cc := cX2_layersBegun) (maxL := 3) (ret := (some .int)) (own := RX2) rfl (by decide) rfl (Nat.le_of_ble_eq_true rfl) ?_
  intro p e s m below meth c E
  have hin2 : ∀ w ∈ u_ws RX2 TX2 4, w ∈ wsX2_layersBegun := by decide +kernel
  subst he
  refine g_loc (lv' := [(0, .ref (ad 2 9 i)), (1, .int (zI b))]) ⟨rfl, rfl, trivial⟩ ?_
  refine g_iconst E dX2_layersBegun_0 ?_
  refine g_istore_n E dX2_layersBegun_1 (by decide) ?_
  have key_k : ∀ (n_k k : Nat), (k : Int) ≤ (i : Int) → (i : Int) + 1 ≤ (k : Int) + n_k → (lbA i b (7 - k) k = lb i b) → GW p l e (headSpec wsX2_layersBegun ({ frames := 0, cells := 0, slots := 0, locals := 0 })).room s m ([.ref (ad 2 9 i), .int (zI b)] : List Value).toArray below meth c (MQ below (va_Qi (fun (r : Int32) ws' => r = zI (lb (i : Int) b) ∧ ws' = wX cA ad σ) (gB D A) A) ([.ref (ad 2 9 i), .int (zI b)] : List Value).toArray s 0 0 A) D A 3 (wX cA ad σ) 0 0 2 [(0, .ref (ad 2 9 i)), (1, .int (zI b)), (2, .int (zI (k : Int)))] [] := by
    intro n_k
    induction n_k with
    | zero => intro k h1 h2; exact absurd h2 (by omega)
    | succ n_k ih_k =>
      intro k hle_k hfu_k hi0_k
      have hst := stz_b hi (k := k) (by omega)
      have hst1 : (k : Int) < i → 0 ≤ stz i (k + 1) ∧ stz i (k + 1) ≤ 91 := fun h => stz_b hi (by omega)
      refine g_iload_n E dX2_layersBegun_2 rfl ?_
      refine g_aload_n E dX2_layersBegun_3 rfl ?_
      refine gx_Pyr_edge E (mem_9 _ (by omega) (by omega)) hin2 (by decide +kernel) dX2_layersBegun_4 ?_
      refine g_icmp_ge (tgt := 26) E dX2_layersBegun_7 (by decide) (by omega) (by omega) (fun c_7 => ?_) (fun c_7 => ?_)
      · refine g_iload_n E dX2_layersBegun_26 rfl ?_
        exact g_iret E (⟨by rw [← hi0_k, lbA_s (by omega), if_neg (fun h => by omega)], rfl⟩) dX2_layersBegun_27
      · refine g_aload_n E dX2_layersBegun_10 rfl ?_
        refine gx_Pyr_starts E (mem_9 _ (by omega) (by omega)) hin2 (by decide +kernel) dX2_layersBegun_11 ?_
        refine g_iload_n E dX2_layersBegun_14 rfl ?_
        refine lx_13 E (mem_13 _ (by omega) (by omega)) (by omega) (by omega) dX2_layersBegun_15 ?_
        refine g_iload_n E dX2_layersBegun_16 rfl ?_
        refine g_icmp_ge (tgt := 26) E dX2_layersBegun_17 (by decide) (by omega) (by omega) (fun c_17 => ?_) (fun c_17 => ?_)
        · refine g_iload_n E dX2_layersBegun_26 rfl ?_
          exact g_iret E (⟨by rw [← hi0_k, lbA_s (by omega), if_neg (fun h => by omega)], rfl⟩) dX2_layersBegun_27
        · refine g_iinc E dX2_layersBegun_20 rfl (by decide) ?_
          refine g_goto (tgt := 2) E dX2_layersBegun_23 (by decide) ?_
          refine g_loc (lv' := [(0, .ref (ad 2 9 i)), (1, .int (zI b)), (2, .int (zI ((k + 1) : Int)))]) ⟨rfl, rfl, rfl, trivial⟩ ?_
          exact ih_k (k + 1) (by omega) (by omega) (by rw [← hi0_k, lbA_s (by omega) (n := 7 - k), if_pos ⟨by omega, by omega⟩]; rfl)
  refine g_loc (lv' := [(0, .ref (ad 2 9 i)), (1, .int (zI b)), (2, .int (zI (0 : Int)))]) ⟨rfl, rfl, rfl, trivial⟩ ?_
  exact key_k (((i : Int)) + 1).toNat.succ 0 (by omega) (by omega) (rfl)
set_option maxHeartbeats 800000 in
set_option maxRecDepth 100000 in
/-- Pyramid.layersFull(b) -/
theorem c_X2_layersFull (l : Launch) (D : va_G) (cA : Nat → ClassId) (A : Nat → Prop) (ad : Ad) (σ : Nat → St) (i : Nat) (hi : 1 ≤ i ∧ i < 7) (e9 : Int) (he : (i : Int) = e9) (b : Int) (hb : 0 ≤ b ∧ b ≤ 100) : Met l yX2_layersFull wsX2_layersFull ({ frames := 0, cells := 0, slots := 0, locals := 0 }) (PcG D (tysX cA) A (wX cA ad σ) [.ref (ad 2 9 i), .int (zI b)]) (va_Qi (fun (r : Int32) ws' => r = zI (lf e9 b) ∧ ws' = wX cA ad σ) (gB D A) A) 0 0 A := by
  refine g_met (cc := cX2_layersFull) (maxL := 3) (ret := (some .int)) (own := RX2) rfl (by decide) rfl (Nat.le_of_ble_eq_true rfl) ?_
  intro p e s m below meth c E
  have hin2 : ∀ w ∈ u_ws RX2 TX2 4, w ∈ wsX2_layersFull := by decide +kernel
  subst he
  refine g_loc (lv' := [(0, .ref (ad 2 9 i)), (1, .int (zI b))]) ⟨rfl, rfl, trivial⟩ ?_
  refine g_iconst E dX2_layersFull_0 ?_
  refine g_istore_n E dX2_layersFull_1 (by decide) ?_
  have key_k : ∀ (n_k k : Nat), (k : Int) ≤ (i : Int) → (i : Int) + 1 ≤ (k : Int) + n_k → (lfA i b (7 - k) k = lf i b) → GW p l e (headSpec wsX2_layersFull ({ frames := 0, cells := 0, slots := 0, locals := 0 })).room s m ([.ref (ad 2 9 i), .int (zI b)] : List Value).toArray below meth c (MQ below (va_Qi (fun (r : Int32) ws' => r = zI (lf (i : Int) b) ∧ ws' = wX cA ad σ) (gB D A) A) ([.ref (ad 2 9 i), .int (zI b)] : List Value).toArray s 0 0 A) D A 3 (wX cA ad σ) 0 0 2 [(0, .ref (ad 2 9 i)), (1, .int (zI b)), (2, .int (zI (k : Int)))] [] := by
    intro n_k
    induction n_k with
    | zero => intro k h1 h2; exact absurd h2 (by omega)
    | succ n_k ih_k =>
      intro k hle_k hfu_k hi0_k
      have hst := stz_b hi (k := k) (by omega)
      have hst1 : (k : Int) < i → 0 ≤ stz i (k + 1) ∧ stz i (k + 1) ≤ 91 := fun h => stz_b hi (by omega)
      refine g_iload_n E dX2_layersFull_2 rfl ?_
      refine g_aload_n E dX2_layersFull_3 rfl ?_
      refine gx_Pyr_edge E (mem_9 _ (by omega) (by omega)) hin2 (by decide +kernel) dX2_layersFull_4 ?_
      refine g_icmp_ge (tgt := 28) E dX2_layersFull_7 (by decide) (by omega) (by omega) (fun c_7 => ?_) (fun c_7 => ?_)
      · refine g_iload_n E dX2_layersFull_28 rfl ?_
        exact g_iret E (⟨by rw [← hi0_k, lfA_s (by omega), if_neg (fun h => by omega)], rfl⟩) dX2_layersFull_29
      · refine g_aload_n E dX2_layersFull_10 rfl ?_
        refine gx_Pyr_starts E (mem_9 _ (by omega) (by omega)) hin2 (by decide +kernel) dX2_layersFull_11 ?_
        refine g_iload_n E dX2_layersFull_14 rfl ?_
        refine g_iconst E dX2_layersFull_15 ?_
        refine g_iadd E dX2_layersFull_16 ?_
        refine lx_13 E (mem_13 _ (by omega) (by omega)) (by omega) (by omega) dX2_layersFull_17 ?_
        refine g_iload_n E dX2_layersFull_18 rfl ?_
        refine g_icmp_gt (tgt := 28) E dX2_layersFull_19 (by decide) (by omega) (by omega) (fun c_19 => ?_) (fun c_19 => ?_)
        · refine g_iload_n E dX2_layersFull_28 rfl ?_
          exact g_iret E (⟨by rw [← hi0_k, lfA_s (by omega), if_neg (fun h => by omega)], rfl⟩) dX2_layersFull_29
        · refine g_iinc E dX2_layersFull_22 rfl (by decide) ?_
          refine g_goto (tgt := 2) E dX2_layersFull_25 (by decide) ?_
          refine g_loc (lv' := [(0, .ref (ad 2 9 i)), (1, .int (zI b)), (2, .int (zI ((k + 1) : Int)))]) ⟨rfl, rfl, rfl, trivial⟩ ?_
          exact ih_k (k + 1) (by omega) (by omega) (by rw [← hi0_k, lfA_s (by omega) (n := 7 - k), if_pos ⟨by omega, by omega⟩]; rfl)
  refine g_loc (lv' := [(0, .ref (ad 2 9 i)), (1, .int (zI b)), (2, .int (zI (0 : Int)))]) ⟨rfl, rfl, rfl, trivial⟩ ?_
  exact key_k (((i : Int)) + 1).toNat.succ 0 (by omega) (by omega) (rfl)
set_option maxHeartbeats 800000 in
set_option maxRecDepth 100000 in
/-- Pyramid.layerOf(b) -/
theorem c_X2_layerOf (l : Launch) (D : va_G) (cA : Nat → ClassId) (A : Nat → Prop) (ad : Ad) (σ : Nat → St) (i : Nat) (hi : 1 ≤ i ∧ i < 7) (e9 : Int) (he : (i : Int) = e9) (b : Int) (hb : 0 ≤ b ∧ b ≤ 100) : Met l yX2_layerOf wsX2_layerOf ({ frames := 1, cells := 0, slots := 0, locals := 22 }) (PcG D (tysX cA) A (wX cA ad σ) [.ref (ad 2 9 i), .int (zI b)]) (va_Qi (fun (r : Int32) ws' => r = zI (lf e9 b) ∧ ws' = wX cA ad σ) (gB D A) A) 0 0 A := by
  refine g_met (cc := cX2_layerOf) (maxL := 2) (ret := (some .int)) (own := RX2) rfl (by decide) rfl (Nat.le_of_ble_eq_true rfl) ?_
  intro p e s m below meth c E
  have hin2 : ∀ w ∈ u_ws RX2 TX2 4, w ∈ wsX2_layerOf := by decide +kernel
  subst he
  refine g_loc (lv' := [(0, .ref (ad 2 9 i)), (1, .int (zI b))]) ⟨rfl, rfl, trivial⟩ ?_
  refine g_aload_n E dX2_layerOf_0 rfl ?_
  refine g_iload_n E dX2_layerOf_1 rfl ?_
  refine g_callVi (T := TX2) (ci := 2) (n := 1) (As := [_]) (rest := _) E (c_X2_layersFull l D cA A ad _ _ (by omega) _ rfl _ (by omega)) gX2_layerOf_X2_layersFull rfl ⟨rfl, rfl⟩ (by decide +kernel) ⟨Nat.le_of_ble_eq_true rfl, Nat.le_of_ble_eq_true rfl⟩ (ob_9 (mem_9 _ (by omega) (by omega))) rfl rfl rfl (Nat.le_of_ble_eq_true rfl) ⟨Nat.le_of_ble_eq_true rfl, Nat.le_of_ble_eq_true rfl⟩ dX2_layerOf_2 ?_
  rintro r_2 ws_2 ⟨rfl, rfl⟩
  exact g_iret E (⟨rfl, rfl⟩) dX2_layerOf_5
set_option maxHeartbeats 800000 in
set_option maxRecDepth 100000 in
/-- Pyramid.rowOf(b) -/
theorem c_X2_rowOf (l : Launch) (D : va_G) (cA : Nat → ClassId) (A : Nat → Prop) (ad : Ad) (σ : Nat → St) (i : Nat) (hi : 1 ≤ i ∧ i < 7) (e9 : Int) (he : (i : Int) = e9) (b : Int) (hb : 0 ≤ b ∧ b < sq e9) : Met l yX2_rowOf wsX2_rowOf ({ frames := 2, cells := 0, slots := 0, locals := 43 }) (PcG D (tysX cA) A (wX cA ad σ) [.ref (ad 2 9 i), .int (zI b)]) (va_Qi (fun (r : Int32) ws' => r = zI (row e9 b) ∧ ws' = wX cA ad σ) (gB D A) A) 0 0 A := by
  refine g_met (cc := cX2_rowOf) (maxL := 4) (ret := (some .int)) (own := RX2) rfl (by decide) rfl (Nat.le_of_ble_eq_true rfl) ?_
  intro p e s m below meth c E
  have hin2 : ∀ w ∈ u_ws RX2 TX2 4, w ∈ wsX2_rowOf := by decide +kernel
  subst he
  have hs := sq_le (e := i) (by omega)
  have hf := pyr_f hi hb
  have hst := stz_b hi (k := lf i b) (by omega)
  refine g_loc (lv' := [(0, .ref (ad 2 9 i)), (1, .int (zI b))]) ⟨rfl, rfl, trivial⟩ ?_
  refine g_aload_n E dX2_rowOf_0 rfl ?_
  refine g_iload_n E dX2_rowOf_1 rfl ?_
  refine g_callVi (T := TX2) (ci := 2) (n := 1) (As := [_]) (rest := _) E (c_X2_layerOf l D cA A ad _ _ (by omega) _ rfl _ (by omega)) gX2_rowOf_X2_layerOf rfl ⟨rfl, rfl⟩ (by decide +kernel) ⟨Nat.le_of_ble_eq_true rfl, Nat.le_of_ble_eq_true rfl⟩ (ob_9 (mem_9 _ (by omega) (by omega))) rfl rfl rfl (Nat.le_of_ble_eq_true rfl) ⟨Nat.le_of_ble_eq_true rfl, Nat.le_of_ble_eq_true rfl⟩ dX2_rowOf_2 ?_
  rintro r_2 ws_2 ⟨rfl, rfl⟩
  refine g_istore_n E dX2_rowOf_5 (by decide) ?_
  refine g_aload_n E dX2_rowOf_6 rfl ?_
  refine gx_Pyr_edge E (mem_9 _ (by omega) (by omega)) hin2 (by decide +kernel) dX2_rowOf_7 ?_
  refine g_iload_n E dX2_rowOf_10 rfl ?_
  refine g_isub E dX2_rowOf_11 ?_
  refine g_istore_n E dX2_rowOf_12 (by decide) ?_
  refine g_iload_n E dX2_rowOf_13 rfl ?_
  refine g_if_le (tgt := 29) E dX2_rowOf_14 (by decide) (by omega) (fun c_14 => ?_) (fun c_14 => ?_)
  · exact absurd c_14 (by omega)
  · refine g_iload_n E dX2_rowOf_17 rfl ?_
    refine g_aload_n E dX2_rowOf_18 rfl ?_
    refine g_iload_n E dX2_rowOf_19 rfl ?_
    refine g_callVi (T := TX2) (ci := 2) (n := 1) (As := [_]) (rest := _) E (c_X2_startOf l D cA A ad _ _ (by omega) _ rfl _ (by omega)) gX2_rowOf_X2_startOf rfl ⟨rfl, rfl⟩ (by decide +kernel) ⟨Nat.le_of_ble_eq_true rfl, Nat.le_of_ble_eq_true rfl⟩ (ob_9 (mem_9 _ (by omega) (by omega))) rfl rfl rfl (Nat.le_of_ble_eq_true rfl) ⟨Nat.le_of_ble_eq_true rfl, Nat.le_of_ble_eq_true rfl⟩ dX2_rowOf_20 ?_
    rintro r_20 ws_20 ⟨rfl, rfl⟩
    refine g_isub E dX2_rowOf_23 ?_
    refine g_iload_n E dX2_rowOf_24 rfl ?_
    refine g_idiv E dX2_rowOf_25 (by omega) (by omega) ?_
    refine g_goto (tgt := 30) E dX2_rowOf_26 (by decide) ?_
    exact g_iret E (⟨rfl, rfl⟩) dX2_rowOf_30
set_option maxHeartbeats 800000 in
set_option maxRecDepth 100000 in
/-- Pyramid.placeOf(b) -/
theorem c_X2_placeOf (l : Launch) (D : va_G) (cA : Nat → ClassId) (A : Nat → Prop) (ad : Ad) (σ : Nat → St) (i : Nat) (hi : 1 ≤ i ∧ i < 7) (e9 : Int) (he : (i : Int) = e9) (b : Int) (hb : 0 ≤ b ∧ b < sq e9) : Met l yX2_placeOf wsX2_placeOf ({ frames := 2, cells := 0, slots := 0, locals := 43 }) (PcG D (tysX cA) A (wX cA ad σ) [.ref (ad 2 9 i), .int (zI b)]) (va_Qi (fun (r : Int32) ws' => r = zI (pla e9 b) ∧ ws' = wX cA ad σ) (gB D A) A) 0 0 A := by
  refine g_met (cc := cX2_placeOf) (maxL := 4) (ret := (some .int)) (own := RX2) rfl (by decide) rfl (Nat.le_of_ble_eq_true rfl) ?_
  intro p e s m below meth c E
  have hin2 : ∀ w ∈ u_ws RX2 TX2 4, w ∈ wsX2_placeOf := by decide +kernel
  subst he
  have hs := sq_le (e := i) (by omega)
  have hf := pyr_f hi hb
  have hst := stz_b hi (k := lf i b) (by omega)
  refine g_loc (lv' := [(0, .ref (ad 2 9 i)), (1, .int (zI b))]) ⟨rfl, rfl, trivial⟩ ?_
  refine g_aload_n E dX2_placeOf_0 rfl ?_
  refine g_iload_n E dX2_placeOf_1 rfl ?_
  refine g_callVi (T := TX2) (ci := 2) (n := 1) (As := [_]) (rest := _) E (c_X2_layerOf l D cA A ad _ _ (by omega) _ rfl _ (by omega)) gX2_placeOf_X2_layerOf rfl ⟨rfl, rfl⟩ (by decide +kernel) ⟨Nat.le_of_ble_eq_true rfl, Nat.le_of_ble_eq_true rfl⟩ (ob_9 (mem_9 _ (by omega) (by omega))) rfl rfl rfl (Nat.le_of_ble_eq_true rfl) ⟨Nat.le_of_ble_eq_true rfl, Nat.le_of_ble_eq_true rfl⟩ dX2_placeOf_2 ?_
  rintro r_2 ws_2 ⟨rfl, rfl⟩
  refine g_istore_n E dX2_placeOf_5 (by decide) ?_
  refine g_aload_n E dX2_placeOf_6 rfl ?_
  refine gx_Pyr_edge E (mem_9 _ (by omega) (by omega)) hin2 (by decide +kernel) dX2_placeOf_7 ?_
  refine g_iload_n E dX2_placeOf_10 rfl ?_
  refine g_isub E dX2_placeOf_11 ?_
  refine g_istore_n E dX2_placeOf_12 (by decide) ?_
  refine g_iload_n E dX2_placeOf_13 rfl ?_
  refine g_if_le (tgt := 29) E dX2_placeOf_14 (by decide) (by omega) (fun c_14 => ?_) (fun c_14 => ?_)
  · exact absurd c_14 (by omega)
  · refine g_iload_n E dX2_placeOf_17 rfl ?_
    refine g_aload_n E dX2_placeOf_18 rfl ?_
    refine g_iload_n E dX2_placeOf_19 rfl ?_
    refine g_callVi (T := TX2) (ci := 2) (n := 1) (As := [_]) (rest := _) E (c_X2_startOf l D cA A ad _ _ (by omega) _ rfl _ (by omega)) gX2_placeOf_X2_startOf rfl ⟨rfl, rfl⟩ (by decide +kernel) ⟨Nat.le_of_ble_eq_true rfl, Nat.le_of_ble_eq_true rfl⟩ (ob_9 (mem_9 _ (by omega) (by omega))) rfl rfl rfl (Nat.le_of_ble_eq_true rfl) ⟨Nat.le_of_ble_eq_true rfl, Nat.le_of_ble_eq_true rfl⟩ dX2_placeOf_20 ?_
    rintro r_20 ws_20 ⟨rfl, rfl⟩
    refine g_isub E dX2_placeOf_23 ?_
    refine g_iload_n E dX2_placeOf_24 rfl ?_
    refine g_irem E dX2_placeOf_25 (by omega) (by omega) ?_
    refine g_goto (tgt := 30) E dX2_placeOf_26 (by decide) ?_
    exact g_iret E (⟨rfl, rfl⟩) dX2_placeOf_30
set_option maxHeartbeats 800000 in
set_option maxRecDepth 100000 in
/-- Pyramid.numberOf(k, r, q) -/
theorem c_X2_numberOf (l : Launch) (D : va_G) (cA : Nat → ClassId) (A : Nat → Prop) (ad : Ad) (σ : Nat → St) (i : Nat) (hi : 1 ≤ i ∧ i < 7) (e9 : Int) (he : (i : Int) = e9) (k ro q : Int) (hk : 0 ≤ k ∧ k ≤ e9) : Met l yX2_numberOf wsX2_numberOf ({ frames := 1, cells := 0, slots := 0, locals := 21 }) (PcG D (tysX cA) A (wX cA ad σ) [.ref (ad 2 9 i), .int (zI k), .int (zI ro), .int (zI q)]) (va_Qi (fun (r : Int32) ws' => r = zI (stz e9 k + ro * (e9 - k) + q) ∧ ws' = wX cA ad σ) (gB D A) A) 0 0 A := by
  refine g_met (cc := cX2_numberOf) (maxL := 4) (ret := (some .int)) (own := RX2) rfl (by decide) rfl (Nat.le_of_ble_eq_true rfl) ?_
  intro p e s m below meth c E
  have hin2 : ∀ w ∈ u_ws RX2 TX2 4, w ∈ wsX2_numberOf := by decide +kernel
  subst he
  refine g_loc (lv' := [(0, .ref (ad 2 9 i)), (1, .int (zI k)), (2, .int (zI ro)), (3, .int (zI q))]) ⟨rfl, rfl, rfl, rfl, trivial⟩ ?_
  refine g_aload_n E dX2_numberOf_0 rfl ?_
  refine g_iload_n E dX2_numberOf_1 rfl ?_
  refine g_callVi (T := TX2) (ci := 2) (n := 1) (As := [_]) (rest := _) E (c_X2_startOf l D cA A ad _ _ (by omega) _ rfl _ (by omega)) gX2_numberOf_X2_startOf rfl ⟨rfl, rfl⟩ (by decide +kernel) ⟨Nat.le_of_ble_eq_true rfl, Nat.le_of_ble_eq_true rfl⟩ (ob_9 (mem_9 _ (by omega) (by omega))) rfl rfl rfl (Nat.le_of_ble_eq_true rfl) ⟨Nat.le_of_ble_eq_true rfl, Nat.le_of_ble_eq_true rfl⟩ dX2_numberOf_2 ?_
  rintro r_2 ws_2 ⟨rfl, rfl⟩
  refine g_iload_n E dX2_numberOf_5 rfl ?_
  refine g_aload_n E dX2_numberOf_6 rfl ?_
  refine gx_Pyr_edge E (mem_9 _ (by omega) (by omega)) hin2 (by decide +kernel) dX2_numberOf_7 ?_
  refine g_iload_n E dX2_numberOf_10 rfl ?_
  refine g_isub E dX2_numberOf_11 ?_
  refine g_imul E dX2_numberOf_12 ?_
  refine g_iadd E dX2_numberOf_13 ?_
  refine g_iload_n E dX2_numberOf_14 rfl ?_
  refine g_iadd E dX2_numberOf_15 ?_
  exact g_iret E (⟨rfl, rfl⟩) dX2_numberOf_16
