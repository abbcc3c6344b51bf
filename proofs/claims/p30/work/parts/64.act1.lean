/-! ===== ACT: the law's acts, one by one ===== -/
/-- what an act leaves -/
def ActP (cA : Nat → ClassId) (am ad : Ad) (σ : Nat → St) (w3 : va_W) (a : St) (t srt : Int) : Int32 → va_W → Prop := fun r ws' => r = zI 1 ∧ ∃ (am' : Ad) (L' : List Id3) (a' : St), am' 0 0 0 = am 0 0 0 ∧ SH L' a' ∧ AJ t srt a a' ∧ ws' = wS cA am' L' a' ++ (wX cA ad (upY σ 0 a') ++ w3)
theorem exn_0 {L : List String} {E : String} : ¬ exn L E 0 := fun ⟨j, h, _⟩ => by omega
theorem e_pile {a : St} {c s : Int} (h : 0 ≤ c ∧ c ≤ 4) (h2 : 1 ≤ s ∧ s ≤ 6) (h3 : np a < 6) : ePile a c s = 0 := (if_neg (fun q => q h)).trans ((if_neg (fun q => q h2)).trans (if_neg (fun q => q h3)))
theorem e_cat {a : St} {k : Int} (h : 1 ≤ k ∧ k ≤ 5) (h2 : nc a < 3) : eCat a k = 0 := (if_neg (fun q => q h)).trans (if_neg (fun q => q h2))
theorem e_give {c m : Int} (h : 0 ≤ c ∧ c ≤ 4) (h2 : 1 ≤ m ∧ m ≤ 99) : eGive c m = 0 := (if_neg (fun q => q h)).trans (if_neg (fun q => q h2))
theorem e_in {lo hi v : Int} (h : lo ≤ v ∧ v ≤ hi) : eIn lo hi v = 0 := if_neg (fun q => q h)
theorem e_p {a : St} {p : Nat} (h : (p : Int) < np a) : eP a (p : Int) = 0 := if_neg (fun q => q ⟨by omega, h⟩)
theorem e_c {a : St} {c : Int} (h : 0 ≤ c ∧ c < nc a) : eC a c = 0 := if_neg (fun q => q h)
theorem e_fire {a : St} {p : Nat} {m : Int} (h : (p : Int) < np a) (hm : 1 ≤ m ∧ m ≤ 91) (h3 : m ≤ bl a p) : eFire a (p : Int) m = 0 := (if_neg (fun q => q ⟨by omega, h⟩)).trans ((if_neg (fun q => q hm)).trans (if_neg (fun q => by have : bl a p < m := q; omega)))
theorem e_stack {a : St} {p : Nat} {m : Int} (h : (p : Int) < np a) (hm : 1 ≤ m ∧ m ≤ 91) (h3 : m ≤ sto a (cal a p).toNat) (h4 : m ≤ sq (sd a p) - bl a p) : eStack a (p : Int) m = 0 := (if_neg (fun q => q ⟨by omega, h⟩)).trans ((if_neg (fun q => q hm)).trans (if_neg (fun q => by
  rcases q with q | q
  · have := Int32.lt_iff_toInt_lt.mp q
    rw [zI_toInt (by omega)] at this
    unfold sto at h3
    exact absurd h3 (by show ¬ m ≤ (a 5 0 (cal a p).toNat).toInt; exact Int.not_le.mpr this)
  · have : sq (sd a p) - bl a p < m := q
    omega)))
theorem e_shift {a : St} {f g : Nat} (h : (f : Int) < np a) (h2 : (g : Int) < np a) (hne : ¬ f = g) (hc : cal a f = cal a g) : eShift a (f : Int) (g : Int) = 0 := (if_neg (fun q => q ⟨by omega, h⟩)).trans ((if_neg (fun q => q ⟨by omega, h2⟩)).trans ((if_neg (by omega)).trans (if_neg (fun q => q hc))))
theorem qF_0 (tr : Nat → Nat) : (fun _ : Nat => (none : Option Nat)) = qF 0 tr := by
  funext k
  exact (if_neg (by omega)).symm
theorem qF_s (n : Nat) (tr : Nat → Nat) : va_up (qF n tr) n (some (tr n)) = qF (n + 1) tr := by
  funext k
  unfold va_up qF
  by_cases h : k = n
  · rw [if_pos h, if_pos (by omega), h]
  · rw [if_neg h]
    by_cases h2 : k < n
    · rw [if_pos h2, if_pos (by omega)]
    · rw [if_neg h2, if_neg (by omega)]
theorem qF_v {n : Nat} {tr : Nat → Nat} {b : Nat} : (∀ k : Nat, k < n → va_up (qF n tr) n (some b) k = some (tr k)) ∧ va_up (qF n tr) n (some b) n = some b := by
  refine ⟨fun k hk => ?_, if_pos rfl⟩
  unfold va_up qF
  rw [if_neg (by omega), if_pos hk]
theorem newP_cal {a : St} {c s : Int} (hc : 0 ≤ c ∧ c ≤ 4) : cal (newP a c s) (np a).toNat = c := by
  show (newP a c s 1 _ 0).toInt = _
  rw [newP_v, if_neg (by omega), if_neg (by omega), if_neg (by omega), if_pos ⟨rfl, rfl, rfl⟩, zI_toInt (by omega)]
theorem newC_lp {a : St} {k : Int} : newC a k 3 (nc a).toNat 0 = zI k := by rw [newC_v, if_neg (by omega), if_pos ⟨rfl, rfl, rfl⟩]
theorem qne {p n j : Int} (hp : 0 ≤ p ∧ p < n) (hn : 2 ≤ n ∧ n ≤ 6) (hj : 0 ≤ j ∧ j < n - 1) : 0 ≤ (p + 1 + j) % n ∧ (p + 1 + j) % n < n ∧ ¬ (p + 1 + j) % n = p := by
  rcases (show n = 2 ∨ n = 3 ∨ n = 4 ∨ n = 5 ∨ n = 6 by omega) with rfl | rfl | rfl | rfl | rfl <;> omega
section ACTR
variable {p : Program} {l : Launch} {e : Env} {R : Room} {s : State} {m : MethodId} {args : Array Value} {below : List Frame} {meth : Method} {c : Code} {Q : State → Prop} {D : va_G} {tys : gT} {A : Nat → Prop} {nL : Nat} {ws : va_W} {cells slots pc : Nat} {lv : List (Nat × Value)} {st : List Value} {cc : ByteArray} {own : String} {Ts : List Cond} {ret : Option FieldType}
theorem g_ishr (E : GE p s m args meth c D tys cc nL own Ts ret) {x y : Int32} (hdg : decode cc pc = .ok (.ishr, 1)) (kk : GW p l e R s m args below meth c Q D A nL ws cells slots (pc + 1) lv (.int (x >>> (y &&& 31)) :: st)) : GW p l e R s m args below meth c Q D A nL ws cells slots pc lv (.int y :: .int x :: st) :=
  fun H locs ls hP hD hS h => lv_ishr E.1 E.2.1 hdg (kk H locs ls hP hD hS h)
theorem g_aastE {cB : ClassId} {r : vw_C} {n a v ci : Nat} {f : Nat → Option Nat} {z : Int} {ws' : va_W} (t0 : Nat) (E : GE p s m args meth c D tys cc nL own Ts ret) (hc : vwCl[ci]? = some r) (ht : tys[t0]? = some (cB, .object r.1)) (hz : 0 ≤ z ∧ z < n) (hn : n ≤ 2147483648) (hv : ∃ (qk : Nat) (vs : List Value), ws[qk]? = some (v, .inr (ci, vs))) (he : ∃ q0 : Nat, ws[q0]? = some (a, .inl (cB, n, .inr (.inr (.inr (.inr f))))) ∧ ws.set q0 (a, .inl (cB, n, .inr (.inr (.inr (.inr (va_up f z.toNat (some v))))))) = ws') (hdg : decode cc pc = .ok (.aastore, 1))
    (kk : GW p l e R s m args below meth c Q D A nL ws' cells slots (pc + 1) lv st) : GW p l e R s m args below meth c Q D A nL ws cells slots pc lv (.ref v :: .int (zI z) :: .ref a :: st) := by
  obtain ⟨qk, vs, hv⟩ := hv
  obtain ⟨q0, ha, hw⟩ := he
  exact g_aast E q0 t0 qk ci ha hv hc ht hz hn hw hdg kk
theorem at_ob {b ci : Nat} {fs : List Value} (h : ∃ q0 : Nat, ws[q0]? = some (b, .inr (ci, fs))) : ∃ (q0 : Nat) (fs : List Value), ws[q0]? = some (b, .inr (ci, fs)) := let ⟨q, h⟩ := h; ⟨q, _, h⟩
end ACTR
set_option maxHeartbeats 800000 in
set_option maxRecDepth 100000 in
/-- below(v, n) -/
theorem c_L_below (l : Launch) (D : va_G) (cA : Nat → ClassId) (A : Nat → Prop) (ws : va_W) (v9 : Int32) (n9 : Int) (hn : 1 ≤ n9 ∧ n9 < 2147483648) : Met l yL_below wsL_below ({ frames := 0, cells := 0, slots := 0, locals := 0 }) (PcG D (tysX cA) A (ws) [.int v9, .int (zI n9)]) (va_Qi (fun (r : Int32) ws' => r = zI (beV v9 n9) ∧ ws' = ws) (gB D A) A) 0 0 A := by
  refine g_met (cc := cL_below) (maxL := 2) (ret := (some .int)) (own := RL) rfl (by decide) rfl (Nat.le_of_ble_eq_true rfl) ?_
  intro p e s m below meth c E
  have han := and_nn v9
  have hrg := i32_rng (v9 &&& 2147483647)
  refine g_loc (lv' := [(0, .int v9), (1, .int (zI n9))]) ⟨rfl, rfl, trivial⟩ ?_
  refine g_iload_n E dL_below_0 rfl ?_
  refine g_ldc (v := 2147483647) E (by decide +kernel) dL_below_1 ?_
  refine g_iand E dL_below_3 ?_
  refine g_top (v' := .int (zI (v9 &&& 2147483647).toInt)) (congrArg Value.int (zI_self _).symm) ?_
  refine g_iload_n E dL_below_4 rfl ?_
  refine g_irem E dL_below_5 (by omega) (by omega) ?_
  exact g_iret E (⟨rfl, rfl⟩) dL_below_6
set_option maxHeartbeats 1600000 in
set_option maxRecDepth 100000 in
/-- 4: rain -/
theorem act_4 {p : Program} {l : Launch} {e : Env} {s : State} {m : MethodId} {below : List Frame} {meth : Method} {c : Code} {D : va_G} {A : Nat → Prop} {cA : Nat → ClassId} {am ad : Ad} {σ : Nat → St} {L : List Id3} {w3 : va_W} {a : St} {t : Int} {x9 : Int32} {p9 : Nat} {vits : Value} {srt : Int} (hl0 : l.stackTraces = false) (E : GE p s m ([.ref (ad 0 8 0), .ref (am 0 0 0), .int x9] : List Value).toArray meth c D (tysX cA) cL_act 26 RL wsL_act (some .boolean)) (Z : gZ A s) (X : gX s) (hS : SH L a) (hJ : J t a) (ht : 0 ≤ t ∧ t ≤ 100) (hits : np a = 0 ∨ (vits = .ref (am 1 p9 0) ∧ (p9 : Int) < np a)) (hs : ¬ (srt = 2 ∨ srt = 3)) : GW p l e (headSpec wsL_act ({ frames := 9, cells := 120, slots := 2000, locals := 200 })).room s m ([.ref (ad 0 8 0), .ref (am 0 0 0), .int x9] : List Value).toArray below meth c (MQ below (va_Qi (ActP cA am ad σ w3 a t srt) (gB D A) A) ([.ref (ad 0 8 0), .ref (am 0 0 0), .int x9] : List Value).toArray s 120 2000 A) D A 26 (wS cA am L a ++ (wX cA ad (upY σ 0 a) ++ w3)) (0) (0) 409 [(0, .ref (ad 0 8 0)), (1, .ref (am 0 0 0)), (2, .int x9), (3, .int (zI (np a))), (4, .int (zI (p9 : Int))), (5, vits)] [] := by
  have hA : ∀ q, s.heap.size ≤ q → A q := Z.2.1
  have hin5 : ∀ w ∈ u_ws RX5 TX5 9, w ∈ wsL_act := by decide +kernel
  have hin7 : ∀ w ∈ u_ws RX7 TX7 5, w ∈ wsL_act := by decide +kernel
  have hI := hJ.1
  obtain ⟨hL, hB, hPm, hCm, -, -⟩ := id hS
  obtain ⟨⟨hn0, hn6, hc0, hc3⟩, hPI, hCI, hFr⟩ := id hI
  refine g_aload_n E dL_act_409 rfl ?_
  refine gs_Sim_rain E hB.1 hin5 (by decide +kernel) dL_act_410 ?_
  refine g_istore E dL_act_413 (by decide) ?_
  refine g_aload_n E dL_act_415 rfl ?_
  refine g_iload_n E dL_act_416 rfl ?_
  refine g_iconst E dL_act_417 ?_
  refine g_ishr E dL_act_418 ?_
  refine g_iconst E dL_act_419 ?_
  refine g_callTi (n := 2) (As := [_, _]) (rest := _) E (c_L_below l D cA A _ (x9 >>> (zI 1 &&& 31)) (4 : Int) (by omega)) gL_act_L_below rfl ⟨rfl, rfl⟩ (by decide +kernel) ⟨Nat.le_of_ble_eq_true rfl, Nat.le_of_ble_eq_true rfl⟩ rfl rfl (Nat.le_of_ble_eq_true rfl) ⟨by show (_ : Nat) ≤ 120; omega, by show (_ : Nat) ≤ 2000; omega⟩ dL_act_420 ?_
  rintro r_420 ws_420 ⟨rfl, rfl⟩
  have hb_420 := beV_b (x9 >>> (zI 1 &&& 31)) (show (1 : Int) ≤ (4 : Int) by omega)
  refine ps_Sim_rain E hL hB.1 hin5 (by decide +kernel) dL_act_423 ?_
  refine g_aload_n E dL_act_426 rfl ?_
  refine g_aload_n E dL_act_427 rfl ?_
  refine gs_Sim_rain E hB.1 hin5 (by decide +kernel) dL_act_428 ?_
  refine g_top (v' := .int (zI (beV (x9 >>> (zI 1 &&& 31)) 4))) (congrArg Value.int up3_s) ?_
  refine g_mZi (T := TX4) (ci := 4) (n := 1) (As := [_]) (rest := _) E Z (c_X4_setRain l hl0 D cA _ ad σ a hI (beV (x9 >>> (zI 1 &&& 31)) 4) ⟨by omega, by omega⟩) gL_act_X4_setRain rfl ⟨rfl, rfl⟩ (by decide +kernel) ⟨Nat.le_of_ble_eq_true rfl, Nat.le_of_ble_eq_true rfl⟩ (ob_8 mem_8) rfl rfl rfl (Nat.le_of_ble_eq_true rfl) ⟨by show (_ : Nat) ≤ 120; omega, by show (_ : Nat) ≤ 2000; omega⟩ dL_act_431 (fun E9 h => exn_0 (by rw [e_in (by omega)] at h; exact h)) ?_
  rintro r_431 ws_431 ⟨-, rfl, rfl⟩
  refine g_iload E dL_act_434 rfl ?_
  refine g_icmp_neR (tgt := 443) E dL_act_436 (by decide) (fun c_436 => ?_) (fun c_436 => ?_)
  · exact absurd rfl c_436
  · have hS2 : SH L (up3 a 0 0 3 (zI (beV (x9 >>> (zI 1 &&& 31)) 4))) := hS.up (by unfold saf; omega)
    refine g_iconst E dL_act_439 ?_
    refine g_goto (tgt := 444) E dL_act_440 (by decide) ?_
    refine g_wid (k := 120) (n := 2000) (by omega) (by omega) ?_
    exact g_zret E (by decide) (⟨rfl, am, L, (up3 a 0 0 3 (zI (beV (x9 >>> (zI 1 &&& 31)) 4))), rfl, hS2, (rain_kd hJ (by omega)).fin hJ ht.1 hs (by omega), rfl⟩) dL_act_444
set_option maxHeartbeats 1600000 in
set_option maxRecDepth 100000 in
/-- 5: limit -/
theorem act_5 {p : Program} {l : Launch} {e : Env} {s : State} {m : MethodId} {below : List Frame} {meth : Method} {c : Code} {D : va_G} {A : Nat → Prop} {cA : Nat → ClassId} {am ad : Ad} {σ : Nat → St} {L : List Id3} {w3 : va_W} {a : St} {t : Int} {x9 : Int32} {p9 : Nat} {vits : Value} {srt : Int} (hl0 : l.stackTraces = false) (E : GE p s m ([.ref (ad 0 8 0), .ref (am 0 0 0), .int x9] : List Value).toArray meth c D (tysX cA) cL_act 26 RL wsL_act (some .boolean)) (Z : gZ A s) (X : gX s) (hS : SH L a) (hJ : J t a) (ht : 0 ≤ t ∧ t ≤ 100) (hits : np a = 0 ∨ (vits = .ref (am 1 p9 0) ∧ (p9 : Int) < np a)) (hs : ¬ (srt = 2 ∨ srt = 3)) : GW p l e (headSpec wsL_act ({ frames := 9, cells := 120, slots := 2000, locals := 200 })).room s m ([.ref (ad 0 8 0), .ref (am 0 0 0), .int x9] : List Value).toArray below meth c (MQ below (va_Qi (ActP cA am ad σ w3 a t srt) (gB D A) A) ([.ref (ad 0 8 0), .ref (am 0 0 0), .int x9] : List Value).toArray s 120 2000 A) D A 26 (wS cA am L a ++ (wX cA ad (upY σ 0 a) ++ w3)) (0) (0) 445 [(0, .ref (ad 0 8 0)), (1, .ref (am 0 0 0)), (2, .int x9), (3, .int (zI (np a))), (4, .int (zI (p9 : Int))), (5, vits)] [] := by
  have hA : ∀ q, s.heap.size ≤ q → A q := Z.2.1
  have hin5 : ∀ w ∈ u_ws RX5 TX5 9, w ∈ wsL_act := by decide +kernel
  have hin7 : ∀ w ∈ u_ws RX7 TX7 5, w ∈ wsL_act := by decide +kernel
  have hI := hJ.1
  obtain ⟨hL, hB, hPm, hCm, -, -⟩ := id hS
  obtain ⟨⟨hn0, hn6, hc0, hc3⟩, hPI, hCI, hFr⟩ := id hI
  refine g_aload_n E dL_act_445 rfl ?_
  refine gs_Sim_limit E hB.1 hin5 (by decide +kernel) dL_act_446 ?_
  refine g_istore E dL_act_449 (by decide) ?_
  refine g_aload_n E dL_act_451 rfl ?_
  refine g_iconst E dL_act_452 ?_
  refine g_iload_n E dL_act_453 rfl ?_
  refine g_iconst E dL_act_454 ?_
  refine g_ishr E dL_act_455 ?_
  refine g_bipush E dL_act_456 (by decide) ?_
  refine g_callTi (n := 2) (As := [_, _]) (rest := _) E (c_L_below l D cA A _ (x9 >>> (zI 1 &&& 31)) (9 : Int) (by omega)) gL_act_L_below rfl ⟨rfl, rfl⟩ (by decide +kernel) ⟨Nat.le_of_ble_eq_true rfl, Nat.le_of_ble_eq_true rfl⟩ rfl rfl (Nat.le_of_ble_eq_true rfl) ⟨by show (_ : Nat) ≤ 120; omega, by show (_ : Nat) ≤ 2000; omega⟩ dL_act_458 ?_
  rintro r_458 ws_458 ⟨rfl, rfl⟩
  have hb_458 := beV_b (x9 >>> (zI 1 &&& 31)) (show (1 : Int) ≤ (9 : Int) by omega)
  refine g_iadd E dL_act_461 ?_
  refine ps_Sim_limit E hL hB.1 hin5 (by decide +kernel) dL_act_462 ?_
  refine g_aload_n E dL_act_465 rfl ?_
  refine g_aload_n E dL_act_466 rfl ?_
  refine gs_Sim_limit E hB.1 hin5 (by decide +kernel) dL_act_467 ?_
  refine g_top (v' := .int (zI (1 + beV (x9 >>> (zI 1 &&& 31)) 9))) (congrArg Value.int up3_s) ?_
  refine g_mZi (T := TX4) (ci := 4) (n := 1) (As := [_]) (rest := _) E Z (c_X4_setLimit l hl0 D cA _ ad σ a hI (1 + beV (x9 >>> (zI 1 &&& 31)) 9) ⟨by omega, by omega⟩) gL_act_X4_setLimit rfl ⟨rfl, rfl⟩ (by decide +kernel) ⟨Nat.le_of_ble_eq_true rfl, Nat.le_of_ble_eq_true rfl⟩ (ob_8 mem_8) rfl rfl rfl (Nat.le_of_ble_eq_true rfl) ⟨by show (_ : Nat) ≤ 120; omega, by show (_ : Nat) ≤ 2000; omega⟩ dL_act_470 (fun E9 h => exn_0 (by rw [e_in (by omega)] at h; exact h)) ?_
  rintro r_470 ws_470 ⟨-, rfl, rfl⟩
  refine g_iload E dL_act_473 rfl ?_
  refine g_icmp_neR (tgt := 482) E dL_act_475 (by decide) (fun c_475 => ?_) (fun c_475 => ?_)
  · exact absurd rfl c_475
  · have hS2 : SH L (up3 a 0 0 4 (zI (1 + beV (x9 >>> (zI 1 &&& 31)) 9))) := hS.up (by unfold saf; omega)
    refine g_iconst E dL_act_478 ?_
    refine g_goto (tgt := 483) E dL_act_479 (by decide) ?_
    refine g_wid (k := 120) (n := 2000) (by omega) (by omega) ?_
    exact g_zret E (by decide) (⟨rfl, am, L, (up3 a 0 0 4 (zI (1 + beV (x9 >>> (zI 1 &&& 31)) 9))), rfl, hS2, (limit_kd hJ (by omega)).fin hJ ht.1 hs (by omega), rfl⟩) dL_act_483
set_option maxHeartbeats 1600000 in
set_option maxRecDepth 100000 in
/-- 2, 3: give -/
theorem act_2 {p : Program} {l : Launch} {e : Env} {s : State} {m : MethodId} {below : List Frame} {meth : Method} {c : Code} {D : va_G} {A : Nat → Prop} {cA : Nat → ClassId} {am ad : Ad} {σ : Nat → St} {L : List Id3} {w3 : va_W} {a : St} {t : Int} {x9 : Int32} {p9 : Nat} {vits : Value} {srt : Int} (hl0 : l.stackTraces = false) (E : GE p s m ([.ref (ad 0 8 0), .ref (am 0 0 0), .int x9] : List Value).toArray meth c D (tysX cA) cL_act 26 RL wsL_act (some .boolean)) (Z : gZ A s) (X : gX s) (hS : SH L a) (hJ : J t a) (ht : 0 ≤ t ∧ t ≤ 100) (hits : np a = 0 ∨ (vits = .ref (am 1 p9 0) ∧ (p9 : Int) < np a)) (hs : srt = 2 ∨ srt = 3) : GW p l e (headSpec wsL_act ({ frames := 9, cells := 120, slots := 2000, locals := 200 })).room s m ([.ref (ad 0 8 0), .ref (am 0 0 0), .int x9] : List Value).toArray below meth c (MQ below (va_Qi (ActP cA am ad σ w3 a t srt) (gB D A) A) ([.ref (ad 0 8 0), .ref (am 0 0 0), .int x9] : List Value).toArray s 120 2000 A) D A 26 (wS cA am L a ++ (wX cA ad (upY σ 0 a) ++ w3)) (0) (0) 352 [(0, .ref (ad 0 8 0)), (1, .ref (am 0 0 0)), (2, .int x9), (3, .int (zI (np a))), (4, .int (zI (p9 : Int))), (5, vits)] [] := by
  have hA : ∀ q, s.heap.size ≤ q → A q := Z.2.1
  have hin5 : ∀ w ∈ u_ws RX5 TX5 9, w ∈ wsL_act := by decide +kernel
  have hin7 : ∀ w ∈ u_ws RX7 TX7 5, w ∈ wsL_act := by decide +kernel
  have hI := hJ.1
  obtain ⟨hL, hB, hPm, hCm, -, -⟩ := id hS
  obtain ⟨⟨hn0, hn6, hc0, hc3⟩, hPI, hCI, hFr⟩ := id hI
  refine g_iload_n E dL_act_352 rfl ?_
  refine g_iconst E dL_act_353 ?_
  refine g_ishr E dL_act_354 ?_
  refine g_iconst E dL_act_355 ?_
  refine g_callTi (n := 2) (As := [_, _]) (rest := _) E (c_L_below l D cA A _ (x9 >>> (zI 1 &&& 31)) (3 : Int) (by omega)) gL_act_L_below rfl ⟨rfl, rfl⟩ (by decide +kernel) ⟨Nat.le_of_ble_eq_true rfl, Nat.le_of_ble_eq_true rfl⟩ rfl rfl (Nat.le_of_ble_eq_true rfl) ⟨by show (_ : Nat) ≤ 120; omega, by show (_ : Nat) ≤ 2000; omega⟩ dL_act_356 ?_
  rintro r_356 ws_356 ⟨rfl, rfl⟩
  have hb_356 := beV_b (x9 >>> (zI 1 &&& 31)) (show (1 : Int) ≤ (3 : Int) by omega)
  refine g_istore E dL_act_359 (by decide) ?_
  refine g_iconst E dL_act_361 ?_
  refine g_iload_n E dL_act_362 rfl ?_
  refine g_iconst E dL_act_363 ?_
  refine g_ishr E dL_act_364 ?_
  refine g_bipush E dL_act_365 (by decide) ?_
  refine g_callTi (n := 2) (As := [_, _]) (rest := _) E (c_L_below l D cA A _ (x9 >>> (zI 3 &&& 31)) (99 : Int) (by omega)) gL_act_L_below rfl ⟨rfl, rfl⟩ (by decide +kernel) ⟨Nat.le_of_ble_eq_true rfl, Nat.le_of_ble_eq_true rfl⟩ rfl rfl (Nat.le_of_ble_eq_true rfl) ⟨by show (_ : Nat) ≤ 120; omega, by show (_ : Nat) ≤ 2000; omega⟩ dL_act_367 ?_
  rintro r_367 ws_367 ⟨rfl, rfl⟩
  have hb_367 := beV_b (x9 >>> (zI 3 &&& 31)) (show (1 : Int) ≤ (99 : Int) by omega)
  refine g_iadd E dL_act_370 ?_
  refine g_istore E dL_act_371 (by decide) ?_
  refine g_aload_n E dL_act_373 rfl ?_
  refine gs_Sim_store E hB.1 hin5 (by decide +kernel) dL_act_374 ?_
  refine g_iload E dL_act_377 rfl ?_
  refine g_dup2 E dL_act_379 rfl rfl ?_
  refine ls_5 E hB.2.2.1 (by omega) rfl dL_act_380 ?_
  refine g_top (v' := .int (a 5 0 (beV (x9 >>> (zI 1 &&& 31)) 3).toNat)) rfl ?_
  refine g_iload E dL_act_381 rfl ?_
  refine g_iaddR E dL_act_383 ?_
  refine ss_5 E hL hB.2.2.1 (by omega) dL_act_384 ?_
  refine g_st (ws' := wS cA am L (givS a (beV (x9 >>> (zI 1 &&& 31)) 3) (1 + beV (x9 >>> (zI 3 &&& 31)) 99)) ++ (wX cA ad (upY σ 0 a) ++ w3)) rfl rfl rfl ?_
  have hS2 : SH L (givS a (beV (x9 >>> (zI 1 &&& 31)) 3) (1 + beV (x9 >>> (zI 3 &&& 31)) 99)) := hS.up (by unfold saf; omega)
  refine g_aload_n E dL_act_385 rfl ?_
  refine g_iload E dL_act_386 rfl ?_
  refine g_iload E dL_act_388 rfl ?_
  refine g_mZi (T := TX4) (ci := 4) (n := 2) (As := [_, _]) (rest := _) E Z (c_X4_give l hl0 D cA _ ad σ a hI (beV (x9 >>> (zI 1 &&& 31)) 3) (1 + beV (x9 >>> (zI 3 &&& 31)) 99) ⟨by omega, by omega⟩ ⟨by omega, by omega⟩) gL_act_X4_give rfl ⟨rfl, rfl⟩ (by decide +kernel) ⟨Nat.le_of_ble_eq_true rfl, Nat.le_of_ble_eq_true rfl⟩ (ob_8 mem_8) rfl rfl rfl (Nat.le_of_ble_eq_true rfl) ⟨by show (_ : Nat) ≤ 120; omega, by show (_ : Nat) ≤ 2000; omega⟩ dL_act_390 (fun E9 h => exn_0 (by rw [e_give (by omega) (by omega)] at h; exact h)) ?_
  rintro r_390 ws_390 ⟨-, rfl, rfl⟩
  refine g_aload_n E dL_act_393 rfl ?_
  refine gs_Sim_store E hB.1 hin5 (by decide +kernel) dL_act_394 ?_
  refine g_iload E dL_act_397 rfl ?_
  refine ls_5 E hB.2.2.1 (by omega) rfl dL_act_399 ?_
  refine g_top (v' := .int (givS a (beV (x9 >>> (zI 1 &&& 31)) 3) (1 + beV (x9 >>> (zI 3 &&& 31)) 99) 5 0 (beV (x9 >>> (zI 1 &&& 31)) 3).toNat)) rfl ?_
  refine g_icmp_neR (tgt := 407) E dL_act_400 (by decide) (fun c_400 => ?_) (fun c_400 => ?_)
  · exact absurd rfl c_400
  · refine g_iconst E dL_act_403 ?_
    refine g_goto (tgt := 408) E dL_act_404 (by decide) ?_
    refine g_wid (k := 120) (n := 2000) (by omega) (by omega) ?_
    exact g_zret E (by decide) (⟨rfl, am, L, (givS a (beV (x9 >>> (zI 1 &&& 31)) 3) (1 + beV (x9 >>> (zI 3 &&& 31)) 99)), rfl, hS2, give_aj hJ ht hs (by omega) (by omega), rfl⟩) dL_act_408
set_option maxHeartbeats 1600000 in
set_option maxRecDepth 100000 in
/-- 6 to 9: stack -/
theorem act_6 {p : Program} {l : Launch} {e : Env} {s : State} {m : MethodId} {below : List Frame} {meth : Method} {c : Code} {D : va_G} {A : Nat → Prop} {cA : Nat → ClassId} {am ad : Ad} {σ : Nat → St} {L : List Id3} {w3 : va_W} {a : St} {t : Int} {x9 : Int32} {p9 : Nat} {vits : Value} {srt : Int} (hl0 : l.stackTraces = false) (E : GE p s m ([.ref (ad 0 8 0), .ref (am 0 0 0), .int x9] : List Value).toArray meth c D (tysX cA) cL_act 26 RL wsL_act (some .boolean)) (Z : gZ A s) (X : gX s) (hS : SH L a) (hJ : J t a) (ht : 0 ≤ t ∧ t ≤ 100) (hits : np a = 0 ∨ (vits = .ref (am 1 p9 0) ∧ (p9 : Int) < np a)) (hs : ¬ (srt = 2 ∨ srt = 3)) : GW p l e (headSpec wsL_act ({ frames := 9, cells := 120, slots := 2000, locals := 200 })).room s m ([.ref (ad 0 8 0), .ref (am 0 0 0), .int x9] : List Value).toArray below meth c (MQ below (va_Qi (ActP cA am ad σ w3 a t srt) (gB D A) A) ([.ref (ad 0 8 0), .ref (am 0 0 0), .int x9] : List Value).toArray s 120 2000 A) D A 26 (wS cA am L a ++ (wX cA ad (upY σ 0 a) ++ w3)) (0) (0) 484 [(0, .ref (ad 0 8 0)), (1, .ref (am 0 0 0)), (2, .int x9), (3, .int (zI (np a))), (4, .int (zI (p9 : Int))), (5, vits)] [] := by
  have hA : ∀ q, s.heap.size ≤ q → A q := Z.2.1
  have hin5 : ∀ w ∈ u_ws RX5 TX5 9, w ∈ wsL_act := by decide +kernel
  have hin7 : ∀ w ∈ u_ws RX7 TX7 5, w ∈ wsL_act := by decide +kernel
  have hI := hJ.1
  obtain ⟨hL, hB, hPm, hCm, -, -⟩ := id hS
  obtain ⟨⟨hn0, hn6, hc0, hc3⟩, hPI, hCI, hFr⟩ := id hI
  refine g_iload_n E dL_act_484 rfl ?_
  refine g_if_ne (tgt := 490) E dL_act_485 (by decide) (by omega) (fun c_485 => ?_) (fun c_485 => ?_)
  · obtain ⟨rfl, hp⟩ : vits = .ref (am 1 p9 0) ∧ (p9 : Int) < np a := hits.resolve_left (by omega); obtain ⟨hPO, hk0, hk4⟩ := hPI p9 hp; obtain ⟨he1, he6, hb0, hbq⟩ := id hPO; have hsq := sq_le ⟨he1, he6⟩; have hsto := hJ.2.2.2.1 (cal a p9).toNat (by omega); have hstb := (hJ.kd 0).bd hJ ht (by omega) (c := (cal a p9).toNat) (by omega)
    refine g_aload_n E dL_act_490 rfl ?_
    refine gs_Sim_store E hB.1 hin5 (by decide +kernel) dL_act_491 ?_
    refine g_aload E dL_act_494 rfl ?_
    refine gs_LP_calibre E (hPm p9 (by omega)).1 hin7 (by decide +kernel) dL_act_496 ?_
    refine ls_5 E hB.2.2.1 (by omega) rfl dL_act_499 ?_
    refine g_top (v' := .int (zI (sto a (cal a p9).toNat))) (congrArg Value.int (zI_self _).symm) ?_
    refine g_aload E dL_act_500 rfl ?_
    refine gs_LP_rust E (hPm p9 (by omega)).1 hin7 (by decide +kernel) dL_act_502 ?_
    refine ns_2 E (hPm p9 (by omega)).2.1 (by omega) dL_act_505 ?_
    refine g_aload E dL_act_506 rfl ?_
    refine gs_LP_many E (hPm p9 (by omega)).1 hin7 (by decide +kernel) dL_act_508 ?_
    refine g_isub E dL_act_511 ?_
    refine g_mmin E (by decide +kernel) (by decide +kernel) (by decide +kernel) (by decide +kernel) (Nat.le_of_ble_eq_true rfl) (Nat.le_of_ble_eq_true rfl) (by show (_ : Nat) ≤ 120; omega) (by show (_ : Nat) ≤ 2000; omega) dL_act_512 ?_
    refine g_top (v' := .int (zI (min (sto a (cal a p9).toNat) (sq (sd a p9) - bl a p9)))) (congrArg Value.int (mnz (by omega) (by omega))) ?_
    obtain ⟨ca9, hca9⟩ : ∃ z : Int, (min (sto a (cal a p9).toNat) (sq (sd a p9) - bl a p9)) = z := ⟨_, rfl⟩
    rw [hca9]
    refine g_istore E dL_act_515 (by decide) ?_
    refine g_iload E dL_act_517 rfl ?_
    refine g_if_ne (tgt := 524) E dL_act_519 (by decide) (by omega) (fun c_519 => ?_) (fun c_519 => ?_)
    · refine g_iconst E dL_act_524 ?_
      refine g_iload_n E dL_act_525 rfl ?_
      refine g_iconst E dL_act_526 ?_
      refine g_ishr E dL_act_527 ?_
      refine g_iload E dL_act_528 rfl ?_
      refine g_callTi (n := 2) (As := [_, _]) (rest := _) E (c_L_below l D cA A _ (x9 >>> (zI 3 &&& 31)) ca9 (by omega)) gL_act_L_below rfl ⟨rfl, rfl⟩ (by decide +kernel) ⟨Nat.le_of_ble_eq_true rfl, Nat.le_of_ble_eq_true rfl⟩ rfl rfl (Nat.le_of_ble_eq_true rfl) ⟨by show (_ : Nat) ≤ 120; omega, by show (_ : Nat) ≤ 2000; omega⟩ dL_act_530 ?_
      rintro r_530 ws_530 ⟨rfl, rfl⟩
      have hb_530 := beV_b (x9 >>> (zI 3 &&& 31)) (show (1 : Int) ≤ ca9 by omega)
      refine g_iadd E dL_act_533 ?_
      obtain ⟨m9, hm9⟩ : ∃ z : Int, (1 + beV (x9 >>> (zI 3 &&& 31)) ca9) = z := ⟨_, rfl⟩
      rw [hm9]
      refine g_istore E dL_act_534 (by decide) ?_
      refine g_aload_n E dL_act_536 rfl ?_
      refine gs_Sim_store E hB.1 hin5 (by decide +kernel) dL_act_537 ?_
      refine g_aload E dL_act_540 rfl ?_
      refine gs_LP_calibre E (hPm p9 (by omega)).1 hin7 (by decide +kernel) dL_act_542 ?_
      refine g_dup2 E dL_act_545 rfl rfl ?_
      refine ls_5 E hB.2.2.1 (by omega) rfl dL_act_546 ?_
      refine g_top (v' := .int (a 5 0 (cal a p9).toNat)) (rfl) ?_
      refine g_iload E dL_act_547 rfl ?_
      refine g_isubR E dL_act_549 ?_
      refine ss_5 E hL hB.2.2.1 (by omega) dL_act_550 ?_
      refine g_st (ws' := wS cA am L (up3 a 5 0 (cal a p9).toNat (a 5 0 (cal a p9).toNat - zI m9)) ++ (wX cA ad (upY σ 0 a) ++ w3)) rfl rfl rfl ?_
      obtain ⟨V, hV⟩ : ∃ z : St, (up3 a 5 0 (cal a p9).toNat (a 5 0 (cal a p9).toNat - zI m9)) = z := ⟨_, rfl⟩
      rw [hV]
      have hI0 : Inv V := (by rw [← hV]; exact hI.up (by omega) (by omega) (by omega) (by omega) (by omega))
      have hVn : np V = np a := (by rw [← hV]; exact np_up (by omega))
      have hVc : nc V = nc a := (by rw [← hV]; exact nc_up (by omega))
      have hVb : bl V p9 = bl a p9 := (by rw [← hV]; exact bl_up (by omega))
      have hVs : ∀ q : Nat, sd V q = sd a q := fun q => (by rw [← hV]; exact sd_up (by omega))
      have hVq : sq (sd V p9) = sq (sd a p9) := congrArg sq (hVs p9)
      obtain ⟨hm1, hm2, hm3, hm4, hm5, hm6⟩ := putN_i hI hp m9.toNat (by omega)
      refine g_iconst E dL_act_551 ?_
      refine g_istore E dL_act_552 (by decide) ?_
      refine g_wid (k := 0) (n := 0) (by omega) (by omega) ?_
      have key_kk : ∀ (n_kk kk : Nat), (kk : Int) ≤ m9 → m9 + 1 ≤ (kk : Int) + n_kk → GW p l e (headSpec wsL_act ({ frames := 9, cells := 120, slots := 2000, locals := 200 })).room s m ([.ref (ad 0 8 0), .ref (am 0 0 0), .int x9] : List Value).toArray below meth c (MQ below (va_Qi (ActP cA am ad σ w3 a t srt) (gB D A) A) ([.ref (ad 0 8 0), .ref (am 0 0 0), .int x9] : List Value).toArray s 120 2000 A) D A 26 (wS cA am L (putN V p9 kk) ++ (wX cA ad (upY σ 0 a) ++ w3)) (0) (0) 554 [(0, .ref (ad 0 8 0)), (1, .ref (am 0 0 0)), (2, .int x9), (3, .int (zI (np a))), (4, .int (zI (p9 : Int))), (5, .ref (am 1 p9 0)), (12, .int (zI ca9)), (13, .int (zI m9)), (14, .int (zI (kk : Int)))] [] := by
        intro n_kk
        induction n_kk with
        | zero => intro kk h1 h2; exact absurd h2 (by omega)
        | succ n_kk ih_kk =>
          intro kk hle_kk hfu_kk
          obtain ⟨hk1, hk2, hk3, hk4b, hk5, hk6⟩ := putN_i hI0 (p := p9) (by omega) kk (by omega)
          have hSk : SH L (putN V p9 kk) := hS.to (hk2.trans hVn) (hk3.trans hVc) (fun q => (hk5 q).1.trans (hVs q))
          refine g_iload E dL_act_554 rfl ?_
          refine g_iload E dL_act_556 rfl ?_
          refine g_icmp_ge (tgt := 573) E dL_act_558 (by decide) (by omega) (by omega) (fun c_558 => ?_) (fun c_558 => ?_)
          · obtain rfl : kk = m9.toNat := (by omega)
            refine g_aload_n E dL_act_573 rfl ?_
            refine g_iload E dL_act_574 rfl ?_
            refine g_iload E dL_act_576 rfl ?_
            refine g_mZi (T := TX4) (ci := 4) (n := 2) (As := [_, _]) (rest := _) E Z (c_X4_stack l hl0 D cA _ ad σ a hI (p9 : Int) m9 ⟨by omega, by omega⟩ ⟨by omega, by omega⟩) gL_act_X4_stack rfl ⟨rfl, rfl⟩ (by decide +kernel) ⟨Nat.le_of_ble_eq_true rfl, Nat.le_of_ble_eq_true rfl⟩ (ob_8 mem_8) rfl rfl rfl (Nat.le_of_ble_eq_true rfl) ⟨by show (_ : Nat) ≤ 120; omega, by show (_ : Nat) ≤ 2000; omega⟩ dL_act_578 (fun E9 h => exn_0 (by rw [e_stack hp (by omega) (by omega) (by omega)] at h; exact h)) ?_
            rintro r_578 ws_578 ⟨-, rfl, rfl⟩
            refine g_top (v' := .int (zI (bl a p9 + m9))) (rfl) ?_
            refine g_st (ws' := wS cA am L (stkS a p9 m9) ++ (wX cA ad (upY σ 0 (stkS a p9 m9)) ++ w3)) (by rw [← hV, putN_5]; rfl) rfl rfl ?_
            have hS2 : SH L (stkS a p9 m9) := (hS.to hm2 hm3 (fun q => (hm5 q).1)).up (by unfold saf; omega)
            have hbs : bl (stkS a p9 m9) p9 = bl a p9 + m9 := (show bl (stkS a p9 m9) p9 = bl (putN a p9 m9.toNat) p9 from bl_up (by omega)).trans (hm4.trans (by omega))
            refine g_aload E dL_act_581 rfl ?_
            refine gs_LP_many E (hPm p9 (by omega)).1 hin7 (by decide +kernel) dL_act_583 ?_
            refine g_icmp_ne (tgt := 593) E dL_act_586 (by decide) (by omega) (by omega) (fun c_586 => ?_) (fun c_586 => ?_)
            · exact absurd (by omega) c_586
            · refine g_iconst E dL_act_589 ?_
              refine g_goto (tgt := 594) E dL_act_590 (by decide) ?_
              refine g_wid (k := 120) (n := 2000) (by omega) (by omega) ?_
              exact g_zret E (by decide) (⟨rfl, am, L, (stkS a p9 m9), rfl, hS2, (stk_kd hJ ht hp (by omega)).fin hJ ht.1 hs (by omega), rfl⟩) dL_act_594
          · refine g_aload E dL_act_561 rfl ?_
            refine g_iconst E dL_act_563 ?_
            refine g_callVv (T := TX7) (ci := 7) (n := 1) (As := [_]) (rest := _) E (c_X7_put l D cA A am L _ (putN V p9 kk) hSk p9 (by omega) (hk1.2.1 p9 (by omega)).1 _ (by rw [hk4b, (hk5 p9).1]; omega)) gL_act_X7_put rfl ⟨rfl, rfl⟩ (by decide +kernel) ⟨Nat.le_of_ble_eq_true rfl, Nat.le_of_ble_eq_true rfl⟩ (os_7 (hPm p9 (by omega)).1) rfl rfl rfl (Nat.le_of_ble_eq_true rfl) ⟨by show (_ : Nat) ≤ 120; omega, by show (_ : Nat) ≤ 2000; omega⟩ dL_act_564 ?_
            rintro ws_564 rfl
            refine g_iinc E dL_act_567 rfl (by decide) ?_
            refine g_goto (tgt := 554) E dL_act_570 (by decide) ?_
            refine g_wid (k := 0) (n := 0) (by omega) (by omega) ?_
            refine g_st (ws' := wS cA am L (putN V p9 (kk + 1)) ++ (wX cA ad (upY σ 0 a) ++ w3)) (rfl) rfl rfl ?_
            refine g_loc (lv' := [(0, .ref (ad 0 8 0)), (1, .ref (am 0 0 0)), (2, .int x9), (3, .int (zI (np a))), (4, .int (zI (p9 : Int))), (5, .ref (am 1 p9 0)), (12, .int (zI ca9)), (13, .int (zI m9)), (14, .int (zI ((kk + 1) : Int)))]) ⟨rfl, rfl, rfl, rfl, rfl, rfl, rfl, rfl, rfl, trivial⟩ ?_
            exact ih_kk (kk + 1) (by omega) (by omega)
      refine g_st (ws' := wS cA am L (putN V p9 0) ++ (wX cA ad (upY σ 0 a) ++ w3)) (rfl) rfl rfl ?_
      refine g_loc (lv' := [(0, .ref (ad 0 8 0)), (1, .ref (am 0 0 0)), (2, .int x9), (3, .int (zI (np a))), (4, .int (zI (p9 : Int))), (5, .ref (am 1 p9 0)), (12, .int (zI ca9)), (13, .int (zI m9)), (14, .int (zI (0 : Int)))]) ⟨rfl, rfl, rfl, rfl, rfl, rfl, rfl, rfl, rfl, trivial⟩ ?_
      exact key_kk ((m9) + 1).toNat.succ 0 (by omega) (by omega)
    · refine g_iconst E dL_act_522 ?_
      refine g_wid (k := 120) (n := 2000) (by omega) (by omega) ?_
      exact g_zret E (by decide) (⟨rfl, am, L, a, rfl, hS, hJ.aj ht.1, rfl⟩) dL_act_523
  · refine g_iconst E dL_act_488 ?_
    refine g_wid (k := 120) (n := 2000) (by omega) (by omega) ?_
    exact g_zret E (by decide) (⟨rfl, am, L, a, rfl, hS, hJ.aj ht.1, rfl⟩) dL_act_489
set_option maxHeartbeats 1600000 in
set_option maxRecDepth 100000 in
/-- 10: fire -/
theorem act_10 {p : Program} {l : Launch} {e : Env} {s : State} {m : MethodId} {below : List Frame} {meth : Method} {c : Code} {D : va_G} {A : Nat → Prop} {cA : Nat → ClassId} {am ad : Ad} {σ : Nat → St} {L : List Id3} {w3 : va_W} {a : St} {t : Int} {x9 : Int32} {p9 : Nat} {vits : Value} {srt : Int} (hl0 : l.stackTraces = false) (E : GE p s m ([.ref (ad 0 8 0), .ref (am 0 0 0), .int x9] : List Value).toArray meth c D (tysX cA) cL_act 26 RL wsL_act (some .boolean)) (Z : gZ A s) (X : gX s) (hS : SH L a) (hJ : J t a) (ht : 0 ≤ t ∧ t ≤ 100) (hits : np a = 0 ∨ (vits = .ref (am 1 p9 0) ∧ (p9 : Int) < np a)) (hs : ¬ (srt = 2 ∨ srt = 3)) : GW p l e (headSpec wsL_act ({ frames := 9, cells := 120, slots := 2000, locals := 200 })).room s m ([.ref (ad 0 8 0), .ref (am 0 0 0), .int x9] : List Value).toArray below meth c (MQ below (va_Qi (ActP cA am ad σ w3 a t srt) (gB D A) A) ([.ref (ad 0 8 0), .ref (am 0 0 0), .int x9] : List Value).toArray s 120 2000 A) D A 26 (wS cA am L a ++ (wX cA ad (upY σ 0 a) ++ w3)) (0) (0) 595 [(0, .ref (ad 0 8 0)), (1, .ref (am 0 0 0)), (2, .int x9), (3, .int (zI (np a))), (4, .int (zI (p9 : Int))), (5, vits)] [] := by
  have hA : ∀ q, s.heap.size ≤ q → A q := Z.2.1
  have hin5 : ∀ w ∈ u_ws RX5 TX5 9, w ∈ wsL_act := by decide +kernel
  have hin7 : ∀ w ∈ u_ws RX7 TX7 5, w ∈ wsL_act := by decide +kernel
  have hI := hJ.1
  obtain ⟨hL, hB, hPm, hCm, -, -⟩ := id hS
  obtain ⟨⟨hn0, hn6, hc0, hc3⟩, hPI, hCI, hFr⟩ := id hI
  refine g_iload_n E dL_act_595 rfl ?_
  refine g_if_eq (tgt := 607) E dL_act_596 (by decide) (by omega) (fun c_596 => ?_) (fun c_596 => ?_)
  · refine g_iconst E dL_act_607 ?_
    refine g_wid (k := 120) (n := 2000) (by omega) (by omega) ?_
    exact g_zret E (by decide) (⟨rfl, am, L, a, rfl, hS, hJ.aj ht.1, rfl⟩) dL_act_608
  · obtain ⟨rfl, hp⟩ : vits = .ref (am 1 p9 0) ∧ (p9 : Int) < np a := hits.resolve_left (by omega); obtain ⟨hPO, hk0, hk4⟩ := hPI p9 hp; obtain ⟨he1, he6, hb0, hbq⟩ := id hPO; have hsq := sq_le ⟨he1, he6⟩
    refine g_aload E dL_act_599 rfl ?_
    refine gs_LP_many E (hPm p9 (by omega)).1 hin7 (by decide +kernel) dL_act_601 ?_
    refine g_if_ne (tgt := 609) E dL_act_604 (by decide) (by omega) (fun c_604 => ?_) (fun c_604 => ?_)
    · refine g_iconst E dL_act_609 ?_
      refine g_iload_n E dL_act_610 rfl ?_
      refine g_iconst E dL_act_611 ?_
      refine g_ishr E dL_act_612 ?_
      refine g_bipush E dL_act_613 (by decide) ?_
      refine g_aload E dL_act_615 rfl ?_
      refine gs_LP_many E (hPm p9 (by omega)).1 hin7 (by decide +kernel) dL_act_617 ?_
      refine g_mmin E (by decide +kernel) (by decide +kernel) (by decide +kernel) (by decide +kernel) (Nat.le_of_ble_eq_true rfl) (Nat.le_of_ble_eq_true rfl) (by show (_ : Nat) ≤ 120; omega) (by show (_ : Nat) ≤ 2000; omega) dL_act_620 ?_
      refine g_top (v' := .int (zI (min 9 (bl a p9)))) (congrArg Value.int (mnz (by omega) (by omega))) ?_
      obtain ⟨ca9, hca9⟩ : ∃ z : Int, (min 9 (bl a p9)) = z := ⟨_, rfl⟩
      rw [hca9]
      refine g_callTi (n := 2) (As := [_, _]) (rest := _) E (c_L_below l D cA A _ (x9 >>> (zI 3 &&& 31)) ca9 (by omega)) gL_act_L_below rfl ⟨rfl, rfl⟩ (by decide +kernel) ⟨Nat.le_of_ble_eq_true rfl, Nat.le_of_ble_eq_true rfl⟩ rfl rfl (Nat.le_of_ble_eq_true rfl) ⟨by show (_ : Nat) ≤ 120; omega, by show (_ : Nat) ≤ 2000; omega⟩ dL_act_623 ?_
      rintro r_623 ws_623 ⟨rfl, rfl⟩
      have hb_623 := beV_b (x9 >>> (zI 3 &&& 31)) (show (1 : Int) ≤ ca9 by omega)
      refine g_iadd E dL_act_626 ?_
      obtain ⟨m9, hm9⟩ : ∃ z : Int, (1 + beV (x9 >>> (zI 3 &&& 31)) ca9) = z := ⟨_, rfl⟩
      rw [hm9]
      refine g_istore E dL_act_627 (by decide) ?_
      refine g_iconst E dL_act_629 ?_
      refine g_istore E dL_act_630 (by decide) ?_
      refine g_iconst E dL_act_632 ?_
      refine g_istore E dL_act_633 (by decide) ?_
      refine g_wid (k := 0) (n := 0) (by omega) (by omega) ?_
      have key_kk : ∀ (n_kk kk : Nat), (kk : Int) ≤ m9 → m9 + 1 ≤ (kk : Int) + n_kk → GW p l e (headSpec wsL_act ({ frames := 9, cells := 120, slots := 2000, locals := 200 })).room s m ([.ref (ad 0 8 0), .ref (am 0 0 0), .int x9] : List Value).toArray below meth c (MQ below (va_Qi (ActP cA am ad σ w3 a t srt) (gB D A) A) ([.ref (ad 0 8 0), .ref (am 0 0 0), .int x9] : List Value).toArray s 120 2000 A) D A 26 (wS cA am L ((firL a p9 kk).1) ++ (wX cA ad (upY σ 0 a) ++ w3)) (0) (0) 635 [(0, .ref (ad 0 8 0)), (1, .ref (am 0 0 0)), (2, .int x9), (3, .int (zI (np a))), (4, .int (zI (p9 : Int))), (5, .ref (am 1 p9 0)), (14, .int (zI m9)), (15, .int (firL a p9 kk).2), (16, .int (zI (kk : Int)))] [] := by
        intro n_kk
        induction n_kk with
        | zero => intro kk h1 h2; exact absurd h2 (by omega)
        | succ n_kk ih_kk =>
          intro kk hle_kk hfu_kk
          obtain ⟨hk1, hk2, hk3, hk4b, hk5, hk6⟩ := firL_i hI hp kk (by omega)
          refine g_iload E dL_act_635 rfl ?_
          refine g_iload E dL_act_637 rfl ?_
          refine g_icmp_ge (tgt := 675) E dL_act_639 (by decide) (by omega) (by omega) (fun c_639 => ?_) (fun c_639 => ?_)
          · obtain rfl : kk = m9.toNat := (by omega); obtain ⟨hm1, hm2, hm3, hm4, hm5, hm6⟩ := firL_i hI hp m9.toNat (by omega); have hmc : cal (firL a p9 m9.toNat).1 p9 = cal a p9 := (hm5 p9).2
            refine g_aload_n E dL_act_675 rfl ?_
            refine gs_Sim_fired E hB.1 hin5 (by decide +kernel) dL_act_676 ?_
            refine g_aload E dL_act_679 rfl ?_
            refine gs_LP_calibre E (hPm p9 (by omega)).1 hin7 (by decide +kernel) dL_act_681 ?_
            refine g_dup2 E dL_act_684 rfl rfl ?_
            refine ls_6 E hB.2.2.2.1 (by omega) rfl dL_act_685 ?_
            refine g_top (v' := .int ((firL a p9 m9.toNat).1 6 0 (cal (firL a p9 m9.toNat).1 p9).toNat)) (rfl) ?_
            refine g_iload E dL_act_686 rfl ?_
            refine g_iaddR E dL_act_688 ?_
            refine ss_6 E hL hB.2.2.2.1 (by omega) dL_act_689 ?_
            refine g_st (ws' := wS cA am L (firS a p9 m9) ++ (wX cA ad (upY σ 0 a) ++ w3)) (congrArg (fun z => wS cA am L z ++ (wX cA ad (upY σ 0 a) ++ w3)) (by rw [(hm5 p9).2, hm6]; rfl)) rfl rfl ?_
            have hS2 : SH L (firS a p9 m9) := (hS.to hm2 hm3 (fun q => (hm5 q).1)).up (by unfold saf; omega)
            refine g_aload_n E dL_act_690 rfl ?_
            refine g_iload E dL_act_691 rfl ?_
            refine g_iload E dL_act_693 rfl ?_
            refine g_mZi (T := TX4) (ci := 4) (n := 2) (As := [_, _]) (rest := _) E Z (c_X4_fire l hl0 D cA _ ad σ a hI (p9 : Int) m9 ⟨by omega, by omega⟩ ⟨by omega, by omega⟩) gL_act_X4_fire rfl ⟨rfl, rfl⟩ (by decide +kernel) ⟨Nat.le_of_ble_eq_true rfl, Nat.le_of_ble_eq_true rfl⟩ (ob_8 mem_8) rfl rfl rfl (Nat.le_of_ble_eq_true rfl) ⟨by show (_ : Nat) ≤ 120; omega, by show (_ : Nat) ≤ 2000; omega⟩ dL_act_695 (fun E9 h => exn_0 (by rw [e_fire hp (by omega) (by omega)] at h; exact h)) ?_
            rintro r_695 ws_695 ⟨-, rfl, rfl⟩
            refine g_top (v' := .int ((firL a p9 m9.toNat).2)) (rfl) ?_
            refine g_iload E dL_act_698 rfl ?_
            refine g_icmp_neR (tgt := 707) E dL_act_700 (by decide) (fun c_700 => ?_) (fun c_700 => ?_)
            · exact absurd rfl c_700
            · refine g_iconst E dL_act_703 ?_
              refine g_goto (tgt := 708) E dL_act_704 (by decide) ?_
              refine g_wid (k := 120) (n := 2000) (by omega) (by omega) ?_
              exact g_zret E (by decide) (⟨rfl, am, L, (firS a p9 m9), rfl, hS2, (fir_kd hJ ht hp (by omega)).fin hJ ht.1 hs (by omega), rfl⟩) dL_act_708
          · refine g_aload E dL_act_642 rfl ?_
            refine g_dup E dL_act_644 rfl ?_
            refine gs_LP_many E (hPm p9 (by omega)).1 hin7 (by decide +kernel) dL_act_645 ?_
            refine g_iconst E dL_act_648 ?_
            refine g_isub E dL_act_649 ?_
            refine ps_LP_many E hL (hPm p9 (by omega)).1 hin7 (by decide +kernel) dL_act_650 ?_
            refine g_st (ws' := wS cA am L (topS (firL a p9 kk).1 p9) ++ (wX cA ad (upY σ 0 a) ++ w3)) rfl rfl rfl ?_
            have hbt : bl (topS (firL a p9 kk).1 p9) p9 = bl (firL a p9 kk).1 p9 - 1 := topS_bl (by omega)
            have hst : sq (sd (topS (firL a p9 kk).1 p9) p9) = sq (sd a p9) := congrArg sq ((topS_sd _ _ _).trans (hk5 p9).1)
            refine g_iload E dL_act_653 rfl ?_
            refine g_aload E dL_act_655 rfl ?_
            refine gs_LP_rust E (hPm p9 (by omega)).1 hin7 (by decide +kernel) dL_act_657 ?_
            refine g_aload E dL_act_660 rfl ?_
            refine gs_LP_many E (hPm p9 (by omega)).1 hin7 (by decide +kernel) dL_act_662 ?_
            refine ls_2 E (hPm p9 (by omega)).2.1 (by omega) rfl dL_act_665 ?_
            refine g_top (v' := .int (topV (firL a p9 kk).1 p9)) (congrArg Value.int (by show topS (firL a p9 kk).1 p9 2 p9 (bl (topS (firL a p9 kk).1 p9) p9).toNat = _; rw [hbt, topS_o (by omega)]; rfl)) ?_
            refine g_iaddR E dL_act_666 ?_
            refine g_istore E dL_act_667 (by decide) ?_
            refine g_iinc E dL_act_669 rfl (by decide) ?_
            refine g_goto (tgt := 635) E dL_act_672 (by decide) ?_
            refine g_wid (k := 0) (n := 0) (by omega) (by omega) ?_
            refine g_st (ws' := wS cA am L ((firL a p9 (kk + 1)).1) ++ (wX cA ad (upY σ 0 a) ++ w3)) (rfl) rfl rfl ?_
            refine g_loc (lv' := [(0, .ref (ad 0 8 0)), (1, .ref (am 0 0 0)), (2, .int x9), (3, .int (zI (np a))), (4, .int (zI (p9 : Int))), (5, .ref (am 1 p9 0)), (14, .int (zI m9)), (15, .int (firL a p9 (kk + 1)).2), (16, .int (zI ((kk + 1) : Int)))]) ⟨rfl, rfl, rfl, rfl, rfl, rfl, rfl, rfl, rfl, trivial⟩ ?_
            exact ih_kk (kk + 1) (by omega) (by omega)
      refine g_st (ws' := wS cA am L ((firL a p9 0).1) ++ (wX cA ad (upY σ 0 a) ++ w3)) (rfl) rfl rfl ?_
      refine g_loc (lv' := [(0, .ref (ad 0 8 0)), (1, .ref (am 0 0 0)), (2, .int x9), (3, .int (zI (np a))), (4, .int (zI (p9 : Int))), (5, .ref (am 1 p9 0)), (14, .int (zI m9)), (15, .int (firL a p9 0).2), (16, .int (zI (0 : Int)))]) ⟨rfl, rfl, rfl, rfl, rfl, rfl, rfl, rfl, rfl, trivial⟩ ?_
      exact key_kk ((m9) + 1).toNat.succ 0 (by omega) (by omega)
    · refine g_iconst E dL_act_607 ?_
      refine g_wid (k := 120) (n := 2000) (by omega) (by omega) ?_
      exact g_zret E (by decide) (⟨rfl, am, L, a, rfl, hS, hJ.aj ht.1, rfl⟩) dL_act_608
set_option maxHeartbeats 1600000 in
set_option maxRecDepth 100000 in
/-- 11: scour -/
theorem act_11 {p : Program} {l : Launch} {e : Env} {s : State} {m : MethodId} {below : List Frame} {meth : Method} {c : Code} {D : va_G} {A : Nat → Prop} {cA : Nat → ClassId} {am ad : Ad} {σ : Nat → St} {L : List Id3} {w3 : va_W} {a : St} {t : Int} {x9 : Int32} {p9 : Nat} {vits : Value} {srt : Int} (hl0 : l.stackTraces = false) (E : GE p s m ([.ref (ad 0 8 0), .ref (am 0 0 0), .int x9] : List Value).toArray meth c D (tysX cA) cL_act 26 RL wsL_act (some .boolean)) (Z : gZ A s) (X : gX s) (hS : SH L a) (hJ : J t a) (ht : 0 ≤ t ∧ t ≤ 100) (hits : np a = 0 ∨ (vits = .ref (am 1 p9 0) ∧ (p9 : Int) < np a)) (hs : ¬ (srt = 2 ∨ srt = 3)) : GW p l e (headSpec wsL_act ({ frames := 9, cells := 120, slots := 2000, locals := 200 })).room s m ([.ref (ad 0 8 0), .ref (am 0 0 0), .int x9] : List Value).toArray below meth c (MQ below (va_Qi (ActP cA am ad σ w3 a t srt) (gB D A) A) ([.ref (ad 0 8 0), .ref (am 0 0 0), .int x9] : List Value).toArray s 120 2000 A) D A 26 (wS cA am L a ++ (wX cA ad (upY σ 0 a) ++ w3)) (0) (0) 709 [(0, .ref (ad 0 8 0)), (1, .ref (am 0 0 0)), (2, .int x9), (3, .int (zI (np a))), (4, .int (zI (p9 : Int))), (5, vits)] [] := by
  have hA : ∀ q, s.heap.size ≤ q → A q := Z.2.1
  have hin5 : ∀ w ∈ u_ws RX5 TX5 9, w ∈ wsL_act := by decide +kernel
  have hin7 : ∀ w ∈ u_ws RX7 TX7 5, w ∈ wsL_act := by decide +kernel
  have hI := hJ.1
  obtain ⟨hL, hB, hPm, hCm, -, -⟩ := id hS
  obtain ⟨⟨hn0, hn6, hc0, hc3⟩, hPI, hCI, hFr⟩ := id hI
  refine g_iload_n E dL_act_709 rfl ?_
  refine g_if_ne (tgt := 715) E dL_act_710 (by decide) (by omega) (fun c_710 => ?_) (fun c_710 => ?_)
  · obtain ⟨rfl, hp⟩ : vits = .ref (am 1 p9 0) ∧ (p9 : Int) < np a := hits.resolve_left (by omega); obtain ⟨hPO, hk0, hk4⟩ := hPI p9 hp; obtain ⟨he1, he6, hb0, hbq⟩ := id hPO; have hsq := sq_le ⟨he1, he6⟩
    refine g_iconst E dL_act_715 ?_
    refine g_istore E dL_act_716 (by decide) ?_
    refine g_iconst E dL_act_718 ?_
    refine g_istore E dL_act_719 (by decide) ?_
    refine g_wid (k := 0) (n := 0) (by omega) (by omega) ?_
    have key_kk : ∀ (n_kk kk : Nat), (kk : Int) ≤ bl a p9 → bl a p9 + 1 ≤ (kk : Int) + n_kk → GW p l e (headSpec wsL_act ({ frames := 9, cells := 120, slots := 2000, locals := 200 })).room s m ([.ref (ad 0 8 0), .ref (am 0 0 0), .int x9] : List Value).toArray below meth c (MQ below (va_Qi (ActP cA am ad σ w3 a t srt) (gB D A) A) ([.ref (ad 0 8 0), .ref (am 0 0 0), .int x9] : List Value).toArray s 120 2000 A) D A 26 (wS cA am L ((scL a p9 kk).1) ++ (wX cA ad (upY σ 0 a) ++ w3)) (0) (0) 721 [(0, .ref (ad 0 8 0)), (1, .ref (am 0 0 0)), (2, .int x9), (3, .int (zI (np a))), (4, .int (zI (p9 : Int))), (5, .ref (am 1 p9 0)), (16, .int (scL a p9 kk).2), (17, .int (zI (kk : Int)))] [] := by
      intro n_kk
      induction n_kk with
      | zero => intro kk h1 h2; exact absurd h2 (by omega)
      | succ n_kk ih_kk =>
        intro kk hle_kk hfu_kk
        have hen : np (scL a p9 kk).1 = np a := congrArg Int32.toInt (sc_e a p9 kk 0 0 0 (by decide))
        have hec : nc (scL a p9 kk).1 = nc a := congrArg Int32.toInt (sc_e a p9 kk 0 0 1 (by decide))
        have heb : bl (scL a p9 kk).1 p9 = bl a p9 := (sc_e a p9 kk).bl
        have hes : sq (sd (scL a p9 kk).1 p9) = sq (sd a p9) := congrArg sq (sc_e a p9 kk).sd
        have hPk : PO (scL a p9 kk).1 p9 := (sc_e a p9 kk).po hPO
        have hSk : SH L (scL a p9 kk).1 := hS.to hen hec (fun q => (sc_e a p9 kk).sd)
        refine g_iload E dL_act_721 rfl ?_
        refine g_aload E dL_act_723 rfl ?_
        refine gs_LP_many E (hPm p9 (by omega)).1 hin7 (by decide +kernel) dL_act_725 ?_
        refine g_icmp_ge (tgt := 796) E dL_act_728 (by decide) (by omega) (by omega) (fun c_728 => ?_) (fun c_728 => ?_)
        · obtain rfl : kk = (bl a p9).toNat := (by omega); have hS2 := hSk
          refine g_aload_n E dL_act_796 rfl ?_
          refine g_iload E dL_act_797 rfl ?_
          refine g_mZi (T := TX4) (ci := 4) (n := 1) (As := [_]) (rest := _) E Z (c_X4_scour l hl0 D cA _ ad σ a hI (p9 : Int) ⟨by omega, by omega⟩) gL_act_X4_scour rfl ⟨rfl, rfl⟩ (by decide +kernel) ⟨Nat.le_of_ble_eq_true rfl, Nat.le_of_ble_eq_true rfl⟩ (ob_8 mem_8) rfl rfl rfl (Nat.le_of_ble_eq_true rfl) ⟨by show (_ : Nat) ≤ 120; omega, by show (_ : Nat) ≤ 2000; omega⟩ dL_act_799 (fun E9 h => exn_0 (by rw [e_p hp] at h; exact h)) ?_
          rintro r_799 ws_799 ⟨-, rfl, rfl⟩
          refine g_top (v' := .int ((scL a p9 (bl a p9).toNat).2)) (rfl) ?_
          refine g_iload E dL_act_802 rfl ?_
          refine g_icmp_neR (tgt := 811) E dL_act_804 (by decide) (fun c_804 => ?_) (fun c_804 => ?_)
          · exact absurd rfl c_804
          · refine g_iconst E dL_act_807 ?_
            refine g_goto (tgt := 812) E dL_act_808 (by decide) ?_
            refine g_wid (k := 120) (n := 2000) (by omega) (by omega) ?_
            exact g_zret E (by decide) (⟨rfl, am, L, (scL a p9 (bl a p9).toNat).1, rfl, hS2, ((sc_kd hJ hp _ (by omega))).fin hJ ht.1 hs (by omega), rfl⟩) dL_act_812
        · refine g_aload E dL_act_731 rfl ?_
          refine g_iload E dL_act_733 rfl ?_
          refine g_callVi (T := TX7) (ci := 7) (n := 1) (As := [_]) (rest := _) E (c_X7_on l D cA A am L _ (scL a p9 kk).1 hSk p9 (by omega) hPk kk (by omega)) gL_act_X7_on rfl ⟨rfl, rfl⟩ (by decide +kernel) ⟨Nat.le_of_ble_eq_true rfl, Nat.le_of_ble_eq_true rfl⟩ (os_7 (hPm p9 (by omega)).1) rfl rfl rfl (Nat.le_of_ble_eq_true rfl) ⟨by show (_ : Nat) ≤ 120; omega, by show (_ : Nat) ≤ 2000; omega⟩ dL_act_735 ?_
          rintro r_735 ws_735 ⟨rfl, rfl⟩
          have hb_735 := onN_b (sd (scL a p9 kk).1 p9) (bl (scL a p9 kk).1 p9) kk; have hcv_735 := cv_on hPk (k := (kk : Int)) (by omega); have hcf_735 := fun q => (cv_on0 hPk (k := (kk : Int)) (by omega)).mp q
          refine g_if_le (tgt := 744) E dL_act_738 (by decide) (by omega) (fun c_738 => ?_) (fun c_738 => ?_)
          · refine g_aload E dL_act_744 rfl ?_
            refine gs_LP_rust E (hPm p9 (by omega)).1 hin7 (by decide +kernel) dL_act_746 ?_
            refine g_iload E dL_act_749 rfl ?_
            refine ls_2 E (hPm p9 (by omega)).2.1 (by omega) rfl dL_act_751 ?_
            refine g_top (v' := .int ((scL a p9 kk).1 2 p9 kk)) (rfl) ?_
            refine g_iconst E dL_act_752 ?_
            refine g_icmp_geR (tgt := 767) E dL_act_753 (by decide) (fun c_753 => ?_) (fun c_753 => ?_)
            · refine g_iconst E dL_act_767 ?_
              refine g_istore E dL_act_768 (by decide) ?_
              refine g_aload E dL_act_770 rfl ?_
              refine gs_LP_rust E (hPm p9 (by omega)).1 hin7 (by decide +kernel) dL_act_772 ?_
              refine g_iload E dL_act_775 rfl ?_
              refine g_dup2 E dL_act_777 rfl rfl ?_
              refine ls_2 E (hPm p9 (by omega)).2.1 (by omega) rfl dL_act_778 ?_
              refine g_top (v' := .int ((scL a p9 kk).1 2 p9 kk)) (rfl) ?_
              refine g_iload E dL_act_779 rfl ?_
              refine g_isubR E dL_act_781 ?_
              refine ss_2 E hL (hPm p9 (by omega)).2.1 (by omega) dL_act_782 ?_
              refine g_iload E dL_act_783 rfl ?_
              refine g_iload E dL_act_785 rfl ?_
              refine g_iaddR E dL_act_787 ?_
              refine g_istore E dL_act_788 (by decide) ?_
              refine g_iinc E dL_act_790 rfl (by decide) ?_
              refine g_goto (tgt := 721) E dL_act_793 (by decide) ?_
              refine g_wid (k := 0) (n := 0) (by omega) (by omega) ?_
              refine g_st (ws' := wS cA am L ((scL a p9 (kk + 1)).1) ++ (wX cA ad (upY σ 0 a) ++ w3)) (congrArg (fun z => wS cA am L z ++ (wX cA ad (upY σ 0 a) ++ w3)) (by first | (rw [sc_t (hcv_735.mp (by omega))]) | (rw [sc_f (hcf_735 (by omega))]; first | (rw [← mn3.1 c_753]; rfl) | (rw [← mn3.2 c_753]; rfl)))) rfl rfl ?_
              refine g_loc (lv' := [(0, .ref (ad 0 8 0)), (1, .ref (am 0 0 0)), (2, .int x9), (3, .int (zI (np a))), (4, .int (zI (p9 : Int))), (5, .ref (am 1 p9 0)), (16, .int (scL a p9 (kk + 1)).2), (17, .int (zI ((kk + 1) : Int)))]) ⟨rfl, rfl, rfl, rfl, rfl, rfl, congrArg (fun z => some (Value.int z)) (by first | (rw [sc_t (hcv_735.mp (by omega))]) | (rw [sc_f (hcf_735 (by omega))]; first | (rw [← mn3.1 c_753]) | (rw [← mn3.2 c_753]))), rfl, trivial⟩ ?_
              exact ih_kk (kk + 1) (by omega) (by omega)
            · refine g_aload E dL_act_756 rfl ?_
              refine gs_LP_rust E (hPm p9 (by omega)).1 hin7 (by decide +kernel) dL_act_758 ?_
              refine g_iload E dL_act_761 rfl ?_
              refine ls_2 E (hPm p9 (by omega)).2.1 (by omega) rfl dL_act_763 ?_
              refine g_top (v' := .int ((scL a p9 kk).1 2 p9 kk)) (rfl) ?_
              refine g_goto (tgt := 768) E dL_act_764 (by decide) ?_
              refine g_istore E dL_act_768 (by decide) ?_
              refine g_aload E dL_act_770 rfl ?_
              refine gs_LP_rust E (hPm p9 (by omega)).1 hin7 (by decide +kernel) dL_act_772 ?_
              refine g_iload E dL_act_775 rfl ?_
              refine g_dup2 E dL_act_777 rfl rfl ?_
              refine ls_2 E (hPm p9 (by omega)).2.1 (by omega) rfl dL_act_778 ?_
              refine g_top (v' := .int ((scL a p9 kk).1 2 p9 kk)) (rfl) ?_
              refine g_iload E dL_act_779 rfl ?_
              refine g_isubR E dL_act_781 ?_
              refine ss_2 E hL (hPm p9 (by omega)).2.1 (by omega) dL_act_782 ?_
              refine g_iload E dL_act_783 rfl ?_
              refine g_iload E dL_act_785 rfl ?_
              refine g_iaddR E dL_act_787 ?_
              refine g_istore E dL_act_788 (by decide) ?_
              refine g_iinc E dL_act_790 rfl (by decide) ?_
              refine g_goto (tgt := 721) E dL_act_793 (by decide) ?_
              refine g_wid (k := 0) (n := 0) (by omega) (by omega) ?_
              refine g_st (ws' := wS cA am L ((scL a p9 (kk + 1)).1) ++ (wX cA ad (upY σ 0 a) ++ w3)) (congrArg (fun z => wS cA am L z ++ (wX cA ad (upY σ 0 a) ++ w3)) (by first | (rw [sc_t (hcv_735.mp (by omega))]) | (rw [sc_f (hcf_735 (by omega))]; first | (rw [← mn3.1 c_753]; rfl) | (rw [← mn3.2 c_753]; rfl)))) rfl rfl ?_
              refine g_loc (lv' := [(0, .ref (ad 0 8 0)), (1, .ref (am 0 0 0)), (2, .int x9), (3, .int (zI (np a))), (4, .int (zI (p9 : Int))), (5, .ref (am 1 p9 0)), (16, .int (scL a p9 (kk + 1)).2), (17, .int (zI ((kk + 1) : Int)))]) ⟨rfl, rfl, rfl, rfl, rfl, rfl, congrArg (fun z => some (Value.int z)) (by first | (rw [sc_t (hcv_735.mp (by omega))]) | (rw [sc_f (hcf_735 (by omega))]; first | (rw [← mn3.1 c_753]) | (rw [← mn3.2 c_753]))), rfl, trivial⟩ ?_
              exact ih_kk (kk + 1) (by omega) (by omega)
          · refine g_goto (tgt := 790) E dL_act_741 (by decide) ?_
            refine g_iinc E dL_act_790 rfl (by decide) ?_
            refine g_goto (tgt := 721) E dL_act_793 (by decide) ?_
            refine g_wid (k := 0) (n := 0) (by omega) (by omega) ?_
            refine g_st (ws' := wS cA am L ((scL a p9 (kk + 1)).1) ++ (wX cA ad (upY σ 0 a) ++ w3)) (congrArg (fun z => wS cA am L z ++ (wX cA ad (upY σ 0 a) ++ w3)) (by first | (rw [sc_t (hcv_735.mp (by omega))]) | (rw [sc_f (hcf_735 (by omega))]; first | (rw [← mn3.1 c_753]; rfl) | (rw [← mn3.2 c_753]; rfl)))) rfl rfl ?_
            refine g_loc (lv' := [(0, .ref (ad 0 8 0)), (1, .ref (am 0 0 0)), (2, .int x9), (3, .int (zI (np a))), (4, .int (zI (p9 : Int))), (5, .ref (am 1 p9 0)), (16, .int (scL a p9 (kk + 1)).2), (17, .int (zI ((kk + 1) : Int)))]) ⟨rfl, rfl, rfl, rfl, rfl, rfl, congrArg (fun z => some (Value.int z)) (by first | (rw [sc_t (hcv_735.mp (by omega))]) | (rw [sc_f (hcf_735 (by omega))]; first | (rw [← mn3.1 c_753]) | (rw [← mn3.2 c_753]))), rfl, trivial⟩ ?_
            exact ih_kk (kk + 1) (by omega) (by omega)
    refine g_st (ws' := wS cA am L ((scL a p9 0).1) ++ (wX cA ad (upY σ 0 a) ++ w3)) (rfl) rfl rfl ?_
    refine g_loc (lv' := [(0, .ref (ad 0 8 0)), (1, .ref (am 0 0 0)), (2, .int x9), (3, .int (zI (np a))), (4, .int (zI (p9 : Int))), (5, .ref (am 1 p9 0)), (16, .int (scL a p9 0).2), (17, .int (zI (0 : Int)))]) ⟨rfl, rfl, rfl, rfl, rfl, rfl, rfl, rfl, trivial⟩ ?_
    exact key_kk ((bl a p9) + 1).toNat.succ 0 (by omega) (by omega)
  · refine g_iconst E dL_act_713 ?_
    refine g_wid (k := 120) (n := 2000) (by omega) (by omega) ?_
    exact g_zret E (by decide) (⟨rfl, am, L, a, rfl, hS, hJ.aj ht.1, rfl⟩) dL_act_714
set_option maxHeartbeats 1600000 in
set_option maxRecDepth 100000 in
/-- 12: inspect -/
theorem act_12 {p : Program} {l : Launch} {e : Env} {s : State} {m : MethodId} {below : List Frame} {meth : Method} {c : Code} {D : va_G} {A : Nat → Prop} {cA : Nat → ClassId} {am ad : Ad} {σ : Nat → St} {L : List Id3} {w3 : va_W} {a : St} {t : Int} {x9 : Int32} {p9 : Nat} {vits : Value} {srt : Int} (hl0 : l.stackTraces = false) (E : GE p s m ([.ref (ad 0 8 0), .ref (am 0 0 0), .int x9] : List Value).toArray meth c D (tysX cA) cL_act 26 RL wsL_act (some .boolean)) (Z : gZ A s) (X : gX s) (hS : SH L a) (hJ : J t a) (ht : 0 ≤ t ∧ t ≤ 100) (hits : np a = 0 ∨ (vits = .ref (am 1 p9 0) ∧ (p9 : Int) < np a)) (hs : ¬ (srt = 2 ∨ srt = 3)) : GW p l e (headSpec wsL_act ({ frames := 9, cells := 120, slots := 2000, locals := 200 })).room s m ([.ref (ad 0 8 0), .ref (am 0 0 0), .int x9] : List Value).toArray below meth c (MQ below (va_Qi (ActP cA am ad σ w3 a t srt) (gB D A) A) ([.ref (ad 0 8 0), .ref (am 0 0 0), .int x9] : List Value).toArray s 120 2000 A) D A 26 (wS cA am L a ++ (wX cA ad (upY σ 0 a) ++ w3)) (0) (0) 813 [(0, .ref (ad 0 8 0)), (1, .ref (am 0 0 0)), (2, .int x9), (3, .int (zI (np a))), (4, .int (zI (p9 : Int))), (5, vits)] [] := by
  have hA : ∀ q, s.heap.size ≤ q → A q := Z.2.1
  have hin5 : ∀ w ∈ u_ws RX5 TX5 9, w ∈ wsL_act := by decide +kernel
  have hin7 : ∀ w ∈ u_ws RX7 TX7 5, w ∈ wsL_act := by decide +kernel
  have hI := hJ.1
  obtain ⟨hL, hB, hPm, hCm, -, -⟩ := id hS
  obtain ⟨⟨hn0, hn6, hc0, hc3⟩, hPI, hCI, hFr⟩ := id hI
  refine g_iload_n E dL_act_813 rfl ?_
  refine g_if_ne (tgt := 819) E dL_act_814 (by decide) (by omega) (fun c_814 => ?_) (fun c_814 => ?_)
  · obtain ⟨rfl, hp⟩ : vits = .ref (am 1 p9 0) ∧ (p9 : Int) < np a := hits.resolve_left (by omega); obtain ⟨hPO, hk0, hk4⟩ := hPI p9 hp; obtain ⟨he1, he6, hb0, hbq⟩ := id hPO; have hsq := sq_le ⟨he1, he6⟩
    refine g_aload E dL_act_819 rfl ?_
    refine gs_LP_many E (hPm p9 (by omega)).1 hin7 (by decide +kernel) dL_act_821 ?_
    refine g_istore E dL_act_824 (by decide) ?_
    refine g_aload E dL_act_826 rfl ?_
    refine g_iconst E dL_act_828 ?_
    refine ps_LP_many E hL (hPm p9 (by omega)).1 hin7 (by decide +kernel) dL_act_829 ?_
    refine g_st (ws' := wS cA am L (tkS a p9 (a 0 0 4) 0) ++ (wX cA ad (upY σ 0 a) ++ w3)) rfl rfl rfl ?_
    refine g_iconst E dL_act_832 ?_
    refine g_istore E dL_act_833 (by decide) ?_
    refine g_wid (k := 0) (n := 0) (by omega) (by omega) ?_
    have key_kk : ∀ (n_kk kk : Nat), (kk : Int) ≤ bl a p9 → bl a p9 + 1 ≤ (kk : Int) + n_kk → GW p l e (headSpec wsL_act ({ frames := 9, cells := 120, slots := 2000, locals := 200 })).room s m ([.ref (ad 0 8 0), .ref (am 0 0 0), .int x9] : List Value).toArray below meth c (MQ below (va_Qi (ActP cA am ad σ w3 a t srt) (gB D A) A) ([.ref (ad 0 8 0), .ref (am 0 0 0), .int x9] : List Value).toArray s 120 2000 A) D A 26 (wS cA am L (tkS a p9 (a 0 0 4) kk) ++ (wX cA ad (upY σ 0 a) ++ w3)) (0) (0) 835 [(0, .ref (ad 0 8 0)), (1, .ref (am 0 0 0)), (2, .int x9), (3, .int (zI (np a))), (4, .int (zI (p9 : Int))), (5, .ref (am 1 p9 0)), (17, .int (zI (bl a p9))), (18, .int (zI (kk : Int)))] [] := by
      intro n_kk
      induction n_kk with
      | zero => intro kk h1 h2; exact absurd h2 (by omega)
      | succ n_kk ih_kk =>
        intro kk hle_kk hfu_kk
        have hek : bl (tkS a p9 (a 0 0 4) kk) p9 = (taL a p9 (a 0 0 4) kk).2 := tk_bl (by omega)
        obtain ⟨het, hec⟩ := ta_e a p9 (a 0 0 4) kk
        have hen : np (tkS a p9 (a 0 0 4) kk) = np a := (np_up (by omega)).trans (congrArg Int32.toInt (het 0 0 0 (by decide)))
        have hnn : nc (tkS a p9 (a 0 0 4) kk) = nc a := (nc_up (by omega)).trans (congrArg Int32.toInt (het 0 0 1 (by decide)))
        have hss : ∀ q : Nat, sd (tkS a p9 (a 0 0 4) kk) q = sd a q := fun q => (sd_up (by omega)).trans het.sd
        have hsqk : sq (sd (tkS a p9 (a 0 0 4) kk) p9) = sq (sd a p9) := congrArg sq (hss p9)
        have hSk : SH L (tkS a p9 (a 0 0 4) kk) := hS.to hen hnn hss
        have hPk : PO (tkS a p9 (a 0 0 4) kk) p9 := (by unfold PO; rw [hss, hek]; omega)
        refine g_iload E dL_act_835 rfl ?_
        refine g_iload E dL_act_837 rfl ?_
        refine g_icmp_ge (tgt := 876) E dL_act_839 (by decide) (by omega) (by omega) (fun c_839 => ?_) (fun c_839 => ?_)
        · obtain rfl : kk = (bl a p9).toNat := (by omega); have hen_cal : cal (tkS a p9 (a 0 0 4) (bl a p9).toNat) p9 = cal a p9 := (cal_up (by omega)).trans (congrArg Int32.toInt (het 1 p9 0 (by decide))); have hek7 : ∀ j : Nat, (tkS a p9 (a 0 0 4) (bl a p9).toNat) 7 0 j = a 7 0 j := fun j => (up3_n (by omega)).trans (het 7 0 j (by decide))
          refine g_aload_n E dL_act_876 rfl ?_
          refine gs_Sim_gone E hB.1 hin5 (by decide +kernel) dL_act_877 ?_
          refine g_aload E dL_act_880 rfl ?_
          refine gs_LP_calibre E (hPm p9 (by omega)).1 hin7 (by decide +kernel) dL_act_882 ?_
          refine g_dup2 E dL_act_885 rfl rfl ?_
          refine ls_7 E hB.2.2.2.2.1 (by omega) rfl dL_act_886 ?_
          refine g_iload E dL_act_887 rfl ?_
          refine g_aload E dL_act_889 rfl ?_
          refine gs_LP_many E (hPm p9 (by omega)).1 hin7 (by decide +kernel) dL_act_891 ?_
          refine g_isub E dL_act_894 ?_
          refine g_iaddR E dL_act_895 ?_
          refine ss_7 E hL hB.2.2.2.2.1 (by omega) dL_act_896 ?_
          refine g_st (ws' := wS cA am L (inspS a p9) ++ (wX cA ad (upY σ 0 a) ++ w3)) (congrArg (fun z => wS cA am L z ++ (wX cA ad (upY σ 0 a) ++ w3)) (by rw [hen_cal, hek7, hek]; rfl)) rfl rfl ?_
          have hS2 : SH L (inspS a p9) := hSk.up (by unfold saf; omega)
          have hbi : bl (inspS a p9) p9 = (taL a p9 (a 0 0 4) (bl a p9).toNat).2 := (show bl (inspS a p9) p9 = bl (tkS a p9 (a 0 0 4) (bl a p9).toNat) p9 from bl_up (by omega)).trans hek
          refine g_aload_n E dL_act_897 rfl ?_
          refine g_iload E dL_act_898 rfl ?_
          refine g_mZi (T := TX4) (ci := 4) (n := 1) (As := [_]) (rest := _) E Z (c_X4_inspect l hl0 D cA _ ad σ a hI (p9 : Int) ⟨by omega, by omega⟩) gL_act_X4_inspect rfl ⟨rfl, rfl⟩ (by decide +kernel) ⟨Nat.le_of_ble_eq_true rfl, Nat.le_of_ble_eq_true rfl⟩ (ob_8 mem_8) rfl rfl rfl (Nat.le_of_ble_eq_true rfl) ⟨by show (_ : Nat) ≤ 120; omega, by show (_ : Nat) ≤ 2000; omega⟩ dL_act_900 (fun E9 h => exn_0 (by rw [e_p hp] at h; exact h)) ?_
          rintro r_900 ws_900 ⟨-, rfl, rfl⟩
          refine g_top (v' := .int (zI (insV a p9 (a 0 0 4)))) (rfl) ?_
          have hiv : insV a p9 (a 0 0 4) = bl a p9 - (taL a p9 (a 0 0 4) (bl a p9).toNat).2 := rfl
          refine g_iload E dL_act_903 rfl ?_
          refine g_aload E dL_act_905 rfl ?_
          refine gs_LP_many E (hPm p9 (by omega)).1 hin7 (by decide +kernel) dL_act_907 ?_
          refine g_isub E dL_act_910 ?_
          refine g_icmp_ne (tgt := 918) E dL_act_911 (by decide) (by omega) (by omega) (fun c_911 => ?_) (fun c_911 => ?_)
          · exact absurd (by have hv : insV a p9 (a 0 0 4) = bl a p9 - (taL a p9 (a 0 0 4) (bl a p9).toNat).2 := rfl; omega) c_911
          · refine g_iconst E dL_act_914 ?_
            refine g_goto (tgt := 919) E dL_act_915 (by decide) ?_
            refine g_wid (k := 120) (n := 2000) (by omega) (by omega) ?_
            exact g_zret E (by decide) (⟨rfl, am, L, (inspS a p9), rfl, hS2, (ins_kd hJ ht hp).fin hJ ht.1 hs (by omega), rfl⟩) dL_act_919
        · refine g_aload E dL_act_842 rfl ?_
          refine gs_LP_rust E (hPm p9 (by omega)).1 hin7 (by decide +kernel) dL_act_844 ?_
          refine g_iload E dL_act_847 rfl ?_
          refine ls_2 E (hPm p9 (by omega)).2.1 (by omega) rfl dL_act_849 ?_
          refine g_top (v' := .int ((taL a p9 (a 0 0 4) kk).1 2 p9 kk)) (congrArg Value.int (tk_2 _ _ _ _ _)) ?_
          refine g_aload_n E dL_act_850 rfl ?_
          refine gs_Sim_limit E hB.1 hin5 (by decide +kernel) dL_act_851 ?_
          refine g_top (v' := .int (a 0 0 4)) (congrArg Value.int ((up3_n (by omega)).trans ((ta_e a p9 (a 0 0 4) kk).1 0 0 4 (by decide)))) ?_
          refine g_icmp_geR (tgt := 870) E dL_act_854 (by decide) (fun c_854 => ?_) (fun c_854 => ?_)
          · refine g_iinc E dL_act_870 rfl (by decide) ?_
            refine g_goto (tgt := 835) E dL_act_873 (by decide) ?_
            refine g_wid (k := 0) (n := 0) (by omega) (by omega) ?_
            refine g_st (ws' := wS cA am L (tkS a p9 (a 0 0 4) (kk + 1)) ++ (wX cA ad (upY σ 0 a) ++ w3)) (congrArg (fun z => wS cA am L z ++ (wX cA ad (upY σ 0 a) ++ w3)) (by first | exact tk_f (Int32.not_lt.mpr c_854) | exact tk_s (by omega) (Int32.not_le.mp c_854))) rfl rfl ?_
            refine g_loc (lv' := [(0, .ref (ad 0 8 0)), (1, .ref (am 0 0 0)), (2, .int x9), (3, .int (zI (np a))), (4, .int (zI (p9 : Int))), (5, .ref (am 1 p9 0)), (17, .int (zI (bl a p9))), (18, .int (zI ((kk + 1) : Int)))]) ⟨rfl, rfl, rfl, rfl, rfl, rfl, rfl, rfl, trivial⟩ ?_
            exact ih_kk (kk + 1) (by omega) (by omega)
          · refine g_aload E dL_act_857 rfl ?_
            refine g_aload E dL_act_859 rfl ?_
            refine gs_LP_rust E (hPm p9 (by omega)).1 hin7 (by decide +kernel) dL_act_861 ?_
            refine g_iload E dL_act_864 rfl ?_
            refine ls_2 E (hPm p9 (by omega)).2.1 (by omega) rfl dL_act_866 ?_
            refine g_top (v' := .int ((taL a p9 (a 0 0 4) kk).1 2 p9 kk)) (congrArg Value.int (tk_2 _ _ _ _ _)) ?_
            refine g_callVv (T := TX7) (ci := 7) (n := 1) (As := [_]) (rest := _) E (c_X7_put l D cA A am L _ (tkS a p9 (a 0 0 4) kk) hSk p9 (by omega) hPk _ (by omega)) gL_act_X7_put rfl ⟨rfl, rfl⟩ (by decide +kernel) ⟨Nat.le_of_ble_eq_true rfl, Nat.le_of_ble_eq_true rfl⟩ (os_7 (hPm p9 (by omega)).1) rfl rfl rfl (Nat.le_of_ble_eq_true rfl) ⟨by show (_ : Nat) ≤ 120; omega, by show (_ : Nat) ≤ 2000; omega⟩ dL_act_867 ?_
            rintro ws_867 rfl
            refine g_iinc E dL_act_870 rfl (by decide) ?_
            refine g_goto (tgt := 835) E dL_act_873 (by decide) ?_
            refine g_wid (k := 0) (n := 0) (by omega) (by omega) ?_
            refine g_st (ws' := wS cA am L (tkS a p9 (a 0 0 4) (kk + 1)) ++ (wX cA ad (upY σ 0 a) ++ w3)) (congrArg (fun z => wS cA am L z ++ (wX cA ad (upY σ 0 a) ++ w3)) (by first | exact tk_f (Int32.not_lt.mpr c_854) | exact tk_s (by omega) (Int32.not_le.mp c_854))) rfl rfl ?_
            refine g_loc (lv' := [(0, .ref (ad 0 8 0)), (1, .ref (am 0 0 0)), (2, .int x9), (3, .int (zI (np a))), (4, .int (zI (p9 : Int))), (5, .ref (am 1 p9 0)), (17, .int (zI (bl a p9))), (18, .int (zI ((kk + 1) : Int)))]) ⟨rfl, rfl, rfl, rfl, rfl, rfl, rfl, rfl, trivial⟩ ?_
            exact ih_kk (kk + 1) (by omega) (by omega)
    refine g_st (ws' := wS cA am L (tkS a p9 (a 0 0 4) 0) ++ (wX cA ad (upY σ 0 a) ++ w3)) (rfl) rfl rfl ?_
    refine g_loc (lv' := [(0, .ref (ad 0 8 0)), (1, .ref (am 0 0 0)), (2, .int x9), (3, .int (zI (np a))), (4, .int (zI (p9 : Int))), (5, .ref (am 1 p9 0)), (17, .int (zI (bl a p9))), (18, .int (zI (0 : Int)))]) ⟨rfl, rfl, rfl, rfl, rfl, rfl, rfl, rfl, trivial⟩ ?_
    exact key_kk ((bl a p9) + 1).toNat.succ 0 (by omega) (by omega)
  · refine g_iconst E dL_act_817 ?_
    refine g_wid (k := 120) (n := 2000) (by omega) (by omega) ?_
    exact g_zret E (by decide) (⟨rfl, am, L, a, rfl, hS, hJ.aj ht.1, rfl⟩) dL_act_818
set_option maxHeartbeats 1600000 in
set_option maxRecDepth 100000 in
/-- 13: shift -/
theorem act_13 {p : Program} {l : Launch} {e : Env} {s : State} {m : MethodId} {below : List Frame} {meth : Method} {c : Code} {D : va_G} {A : Nat → Prop} {cA : Nat → ClassId} {am ad : Ad} {σ : Nat → St} {L : List Id3} {w3 : va_W} {a : St} {t : Int} {x9 : Int32} {p9 : Nat} {vits : Value} {srt : Int} (hl0 : l.stackTraces = false) (E : GE p s m ([.ref (ad 0 8 0), .ref (am 0 0 0), .int x9] : List Value).toArray meth c D (tysX cA) cL_act 26 RL wsL_act (some .boolean)) (Z : gZ A s) (X : gX s) (hS : SH L a) (hJ : J t a) (ht : 0 ≤ t ∧ t ≤ 100) (hits : np a = 0 ∨ (vits = .ref (am 1 p9 0) ∧ (p9 : Int) < np a)) (hs : ¬ (srt = 2 ∨ srt = 3)) : GW p l e (headSpec wsL_act ({ frames := 9, cells := 120, slots := 2000, locals := 200 })).room s m ([.ref (ad 0 8 0), .ref (am 0 0 0), .int x9] : List Value).toArray below meth c (MQ below (va_Qi (ActP cA am ad σ w3 a t srt) (gB D A) A) ([.ref (ad 0 8 0), .ref (am 0 0 0), .int x9] : List Value).toArray s 120 2000 A) D A 26 (wS cA am L a ++ (wX cA ad (upY σ 0 a) ++ w3)) (0) (0) 920 [(0, .ref (ad 0 8 0)), (1, .ref (am 0 0 0)), (2, .int x9), (3, .int (zI (np a))), (4, .int (zI (p9 : Int))), (5, vits)] [] := by
  have hA : ∀ q, s.heap.size ≤ q → A q := Z.2.1
  have hin5 : ∀ w ∈ u_ws RX5 TX5 9, w ∈ wsL_act := by decide +kernel
  have hin7 : ∀ w ∈ u_ws RX7 TX7 5, w ∈ wsL_act := by decide +kernel
  have hI := hJ.1
  obtain ⟨hL, hB, hPm, hCm, -, -⟩ := id hS
  obtain ⟨⟨hn0, hn6, hc0, hc3⟩, hPI, hCI, hFr⟩ := id hI
  refine g_iload_n E dL_act_920 rfl ?_
  refine g_iconst E dL_act_921 ?_
  refine g_icmp_ge (tgt := 927) E dL_act_922 (by decide) (by omega) (by omega) (fun c_922 => ?_) (fun c_922 => ?_)
  · obtain ⟨rfl, hp⟩ : vits = .ref (am 1 p9 0) ∧ (p9 : Int) < np a := hits.resolve_left (by omega); obtain ⟨hPO, hk0, hk4⟩ := hPI p9 hp; obtain ⟨he1, he6, hb0, hbq⟩ := id hPO; have hsq := sq_le ⟨he1, he6⟩
    refine g_iload E dL_act_927 rfl ?_
    refine g_iconst E dL_act_929 ?_
    refine g_iadd E dL_act_930 ?_
    refine g_iload_n E dL_act_931 rfl ?_
    refine g_iconst E dL_act_932 ?_
    refine g_ishr E dL_act_933 ?_
    refine g_iload_n E dL_act_934 rfl ?_
    refine g_iconst E dL_act_935 ?_
    refine g_isub E dL_act_936 ?_
    refine g_callTi (n := 2) (As := [_, _]) (rest := _) E (c_L_below l D cA A _ (x9 >>> (zI 4 &&& 31)) (np a - 1) (by omega)) gL_act_L_below rfl ⟨rfl, rfl⟩ (by decide +kernel) ⟨Nat.le_of_ble_eq_true rfl, Nat.le_of_ble_eq_true rfl⟩ rfl rfl (Nat.le_of_ble_eq_true rfl) ⟨by show (_ : Nat) ≤ 120; omega, by show (_ : Nat) ≤ 2000; omega⟩ dL_act_937 ?_
    rintro r_937 ws_937 ⟨rfl, rfl⟩
    have hb_937 := beV_b (x9 >>> (zI 4 &&& 31)) (show (1 : Int) ≤ (np a - 1) by omega)
    refine g_iadd E dL_act_940 ?_
    refine g_iload_n E dL_act_941 rfl ?_
    refine g_irem E dL_act_942 (by omega) (by omega) ?_
    obtain ⟨hq1, hq2, hq3⟩ := qne (p := (p9 : Int)) (n := np a) (j := beV (x9 >>> (zI 4 &&& 31)) (np a - 1)) (by omega) (by omega) (by omega)
    obtain ⟨q9, hq9⟩ := Int.eq_ofNat_of_zero_le hq1
    rw [hq9]
    have hq : (q9 : Int) < np a := (by omega)
    have hne : ¬ p9 = q9 := (by omega)
    obtain ⟨hPQ, hj0, hj4⟩ := hPI q9 hq
    obtain ⟨hf1, hf6, hg0, hgq⟩ := id hPQ
    have hsqq := sq_le ⟨hf1, hf6⟩
    refine g_istore E dL_act_943 (by decide) ?_
    refine g_aload_n E dL_act_945 rfl ?_
    refine gs_Sim_piles E hB.1 hin5 (by decide +kernel) dL_act_946 ?_
    refine g_iload E dL_act_949 rfl ?_
    refine ls_10 E hB.2.2.2.2.2.1 (by omega) dL_act_951 ?_
    refine g_top (v' := .ref (am 1 q9 0)) (rfl) ?_
    refine g_astore E dL_act_952 (by decide) ?_
    refine g_aload E dL_act_954 rfl ?_
    refine gs_LP_calibre E (hPm q9 (by omega)).1 hin7 (by decide +kernel) dL_act_956 ?_
    refine g_aload E dL_act_959 rfl ?_
    refine gs_LP_calibre E (hPm p9 (by omega)).1 hin7 (by decide +kernel) dL_act_961 ?_
    refine g_icmp_eq (tgt := 969) E dL_act_964 (by decide) (by omega) (by omega) (fun c_964 => ?_) (fun c_964 => ?_)
    · have hcq : cal a p9 = cal a q9 := (by omega); obtain ⟨hsh0, hsh1, hsh2, hsh3⟩ : 0 ≤ shM a p9 q9 ∧ shM a p9 q9 ≤ bl a p9 ∧ shM a p9 q9 ≤ sq (sd a q9) - bl a q9 ∧ (shM a p9 q9 = bl a p9 ∨ shM a p9 q9 = sq (sd a q9) - bl a q9) := (by unfold shM; split <;> omega)
      refine g_iconst E dL_act_969 ?_
      refine g_istore E dL_act_970 (by decide) ?_
      refine g_wid (k := 0) (n := 0) (by omega) (by omega) ?_
      have key_kk : ∀ (n_kk kk : Nat), (kk : Int) ≤ shM a p9 q9 → shM a p9 q9 + 1 ≤ (kk : Int) + n_kk → GW p l e (headSpec wsL_act ({ frames := 9, cells := 120, slots := 2000, locals := 200 })).room s m ([.ref (ad 0 8 0), .ref (am 0 0 0), .int x9] : List Value).toArray below meth c (MQ below (va_Qi (ActP cA am ad σ w3 a t srt) (gB D A) A) ([.ref (ad 0 8 0), .ref (am 0 0 0), .int x9] : List Value).toArray s 120 2000 A) D A 26 (wS cA am L (shN a p9 q9 kk) ++ (wX cA ad (upY σ 0 a) ++ w3)) (0) (0) 972 [(0, .ref (ad 0 8 0)), (1, .ref (am 0 0 0)), (2, .int x9), (3, .int (zI (np a))), (4, .int (zI (p9 : Int))), (5, .ref (am 1 p9 0)), (18, .int (zI (q9 : Int))), (19, .ref (am 1 q9 0)), (20, .int (zI (kk : Int)))] [] := by
        intro n_kk
        induction n_kk with
        | zero => intro kk h1 h2; exact absurd h2 (by omega)
        | succ n_kk ih_kk =>
          intro kk hle_kk hfu_kk
          obtain ⟨hk1, hk2, hk3, hk4b, hk5, hk6⟩ := shN_i hI hp hq hne kk (by omega) (by omega)
          have hSk : SH L (shN a p9 q9 kk) := hS.to hk2 hk3 (fun q => (hk6 q).1)
          have hsk : sq (sd (shN a p9 q9 kk) q9) = sq (sd a q9) := congrArg sq (hk6 q9).1
          refine g_aload E dL_act_972 rfl ?_
          refine gs_LP_many E (hPm p9 (by omega)).1 hin7 (by decide +kernel) dL_act_974 ?_
          refine g_if_le (tgt := 1027) E dL_act_977 (by decide) (by omega) (fun c_977 => ?_) (fun c_977 => ?_)
          · obtain rfl : kk = (shM a p9 q9).toNat := (by omega); have hS2 := hSk
            refine g_aload_n E dL_act_1027 rfl ?_
            refine g_iload E dL_act_1028 rfl ?_
            refine g_iload E dL_act_1030 rfl ?_
            refine g_mZi (T := TX4) (ci := 4) (n := 2) (As := [_, _]) (rest := _) E Z (c_X4_shift l hl0 D cA _ ad σ a hI (p9 : Int) (q9 : Int) ⟨by omega, by omega⟩ ⟨by omega, by omega⟩) gL_act_X4_shift rfl ⟨rfl, rfl⟩ (by decide +kernel) ⟨Nat.le_of_ble_eq_true rfl, Nat.le_of_ble_eq_true rfl⟩ (ob_8 mem_8) rfl rfl rfl (Nat.le_of_ble_eq_true rfl) ⟨by show (_ : Nat) ≤ 120; omega, by show (_ : Nat) ≤ 2000; omega⟩ dL_act_1032 (fun E9 h => exn_0 (by rw [e_shift hp hq hne hcq] at h; exact h)) ?_
            rintro r_1032 ws_1032 ⟨-, rfl, rfl⟩
            refine g_top (v' := .int (zI (shM a p9 q9))) (rfl) ?_
            refine g_iload E dL_act_1035 rfl ?_
            refine g_icmp_ne (tgt := 1044) E dL_act_1037 (by decide) (by omega) (by omega) (fun c_1037 => ?_) (fun c_1037 => ?_)
            · exact absurd (by omega) c_1037
            · refine g_iconst E dL_act_1040 ?_
              refine g_goto (tgt := 1045) E dL_act_1041 (by decide) ?_
              refine g_wid (k := 120) (n := 2000) (by omega) (by omega) ?_
              exact g_zret E (by decide) (⟨rfl, am, L, (shN a p9 q9 (shM a p9 q9).toNat), rfl, hS2, (sh_kd hJ hp hq hne hcq (shM a p9 q9).toNat (by omega) (by omega)).fin hJ ht.1 hs (by omega), rfl⟩) dL_act_1045
          · refine g_aload E dL_act_980 rfl ?_
            refine gs_LP_many E (hPm q9 (by omega)).1 hin7 (by decide +kernel) dL_act_982 ?_
            refine g_aload E dL_act_985 rfl ?_
            refine gs_LP_rust E (hPm q9 (by omega)).1 hin7 (by decide +kernel) dL_act_987 ?_
            refine ns_2 E (hPm q9 (by omega)).2.1 (by omega) dL_act_990 ?_
            refine g_icmp_ge (tgt := 1027) E dL_act_991 (by decide) (by omega) (by omega) (fun c_991 => ?_) (fun c_991 => ?_)
            · obtain rfl : kk = (shM a p9 q9).toNat := (by omega); have hS2 := hSk
              refine g_aload_n E dL_act_1027 rfl ?_
              refine g_iload E dL_act_1028 rfl ?_
              refine g_iload E dL_act_1030 rfl ?_
              refine g_mZi (T := TX4) (ci := 4) (n := 2) (As := [_, _]) (rest := _) E Z (c_X4_shift l hl0 D cA _ ad σ a hI (p9 : Int) (q9 : Int) ⟨by omega, by omega⟩ ⟨by omega, by omega⟩) gL_act_X4_shift rfl ⟨rfl, rfl⟩ (by decide +kernel) ⟨Nat.le_of_ble_eq_true rfl, Nat.le_of_ble_eq_true rfl⟩ (ob_8 mem_8) rfl rfl rfl (Nat.le_of_ble_eq_true rfl) ⟨by show (_ : Nat) ≤ 120; omega, by show (_ : Nat) ≤ 2000; omega⟩ dL_act_1032 (fun E9 h => exn_0 (by rw [e_shift hp hq hne hcq] at h; exact h)) ?_
              rintro r_1032 ws_1032 ⟨-, rfl, rfl⟩
              refine g_top (v' := .int (zI (shM a p9 q9))) (rfl) ?_
              refine g_iload E dL_act_1035 rfl ?_
              refine g_icmp_ne (tgt := 1044) E dL_act_1037 (by decide) (by omega) (by omega) (fun c_1037 => ?_) (fun c_1037 => ?_)
              · exact absurd (by omega) c_1037
              · refine g_iconst E dL_act_1040 ?_
                refine g_goto (tgt := 1045) E dL_act_1041 (by decide) ?_
                refine g_wid (k := 120) (n := 2000) (by omega) (by omega) ?_
                exact g_zret E (by decide) (⟨rfl, am, L, (shN a p9 q9 (shM a p9 q9).toNat), rfl, hS2, (sh_kd hJ hp hq hne hcq (shM a p9 q9).toNat (by omega) (by omega)).fin hJ ht.1 hs (by omega), rfl⟩) dL_act_1045
            · refine g_aload E dL_act_994 rfl ?_
              refine g_dup E dL_act_996 rfl ?_
              refine gs_LP_many E (hPm p9 (by omega)).1 hin7 (by decide +kernel) dL_act_997 ?_
              refine g_iconst E dL_act_1000 ?_
              refine g_isub E dL_act_1001 ?_
              refine ps_LP_many E hL (hPm p9 (by omega)).1 hin7 (by decide +kernel) dL_act_1002 ?_
              refine g_st (ws' := wS cA am L (topS (shN a p9 q9 kk) p9) ++ (wX cA ad (upY σ 0 a) ++ w3)) rfl rfl rfl ?_
              have hbt : bl (topS (shN a p9 q9 kk) p9) p9 = bl (shN a p9 q9 kk) p9 - 1 := topS_bl (by omega)
              have hst : sq (sd (topS (shN a p9 q9 kk) p9) p9) = sq (sd a p9) := congrArg sq ((topS_sd _ _ _).trans (hk6 p9).1)
              have hsq2 : sq (sd (topS (shN a p9 q9 kk) p9) q9) = sq (sd a q9) := congrArg sq ((topS_sd _ _ _).trans (hk6 q9).1)
              have hbq : bl (topS (shN a p9 q9 kk) p9) q9 = bl (shN a p9 q9 kk) q9 := topS_bn (fun z => hne z.symm)
              have hSt : SH L (topS (shN a p9 q9 kk) p9) := hSk.up (by unfold saf; omega)
              have hPt : PO (topS (shN a p9 q9 kk) p9) q9 := ((topS_i hk1 (p := p9) (by omega) (by omega)).2.1 q9 (by rw [topS_np]; omega)).1
              refine g_aload E dL_act_1005 rfl ?_
              refine g_aload E dL_act_1007 rfl ?_
              refine gs_LP_rust E (hPm p9 (by omega)).1 hin7 (by decide +kernel) dL_act_1009 ?_
              refine g_aload E dL_act_1012 rfl ?_
              refine gs_LP_many E (hPm p9 (by omega)).1 hin7 (by decide +kernel) dL_act_1014 ?_
              refine ls_2 E (hPm p9 (by omega)).2.1 (by omega) rfl dL_act_1017 ?_
              refine g_top (v' := .int (topV (shN a p9 q9 kk) p9)) (congrArg Value.int (by show topS (shN a p9 q9 kk) p9 2 p9 (bl (topS (shN a p9 q9 kk) p9) p9).toNat = _; rw [hbt, topS_o (by omega)]; rfl)) ?_
              refine g_callVv (T := TX7) (ci := 7) (n := 1) (As := [_]) (rest := _) E (c_X7_put l D cA A am L _ (topS (shN a p9 q9 kk) p9) hSt q9 (by rw [topS_np]; omega) hPt _ (by omega)) gL_act_X7_put rfl ⟨rfl, rfl⟩ (by decide +kernel) ⟨Nat.le_of_ble_eq_true rfl, Nat.le_of_ble_eq_true rfl⟩ (os_7 (hPm q9 (by omega)).1) rfl rfl rfl (Nat.le_of_ble_eq_true rfl) ⟨by show (_ : Nat) ≤ 120; omega, by show (_ : Nat) ≤ 2000; omega⟩ dL_act_1018 ?_
              rintro ws_1018 rfl
              refine g_iinc E dL_act_1021 rfl (by decide) ?_
              refine g_goto (tgt := 972) E dL_act_1024 (by decide) ?_
              refine g_wid (k := 0) (n := 0) (by omega) (by omega) ?_
              refine g_st (ws' := wS cA am L (shN a p9 q9 (kk + 1)) ++ (wX cA ad (upY σ 0 a) ++ w3)) (rfl) rfl rfl ?_
              refine g_loc (lv' := [(0, .ref (ad 0 8 0)), (1, .ref (am 0 0 0)), (2, .int x9), (3, .int (zI (np a))), (4, .int (zI (p9 : Int))), (5, .ref (am 1 p9 0)), (18, .int (zI (q9 : Int))), (19, .ref (am 1 q9 0)), (20, .int (zI ((kk + 1) : Int)))]) ⟨rfl, rfl, rfl, rfl, rfl, rfl, rfl, rfl, rfl, trivial⟩ ?_
              exact ih_kk (kk + 1) (by omega) (by omega)
      refine g_st (ws' := wS cA am L (shN a p9 q9 0) ++ (wX cA ad (upY σ 0 a) ++ w3)) (rfl) rfl rfl ?_
      refine g_loc (lv' := [(0, .ref (ad 0 8 0)), (1, .ref (am 0 0 0)), (2, .int x9), (3, .int (zI (np a))), (4, .int (zI (p9 : Int))), (5, .ref (am 1 p9 0)), (18, .int (zI (q9 : Int))), (19, .ref (am 1 q9 0)), (20, .int (zI (0 : Int)))]) ⟨rfl, rfl, rfl, rfl, rfl, rfl, rfl, rfl, rfl, trivial⟩ ?_
      exact key_kk ((shM a p9 q9) + 1).toNat.succ 0 (by omega) (by omega)
    · refine g_iconst E dL_act_967 ?_
      refine g_wid (k := 120) (n := 2000) (by omega) (by omega) ?_
      exact g_zret E (by decide) (⟨rfl, am, L, a, rfl, hS, hJ.aj ht.1, rfl⟩) dL_act_968
  · refine g_iconst E dL_act_925 ?_
    refine g_wid (k := 120) (n := 2000) (by omega) (by omega) ?_
    exact g_zret E (by decide) (⟨rfl, am, L, a, rfl, hS, hJ.aj ht.1, rfl⟩) dL_act_926
set_option maxHeartbeats 1600000 in
set_option maxRecDepth 100000 in
/-- 14: gather -/
theorem act_14 {p : Program} {l : Launch} {e : Env} {s : State} {m : MethodId} {below : List Frame} {meth : Method} {c : Code} {D : va_G} {A : Nat → Prop} {cA : Nat → ClassId} {am ad : Ad} {σ : Nat → St} {L : List Id3} {w3 : va_W} {a : St} {t : Int} {x9 : Int32} {p9 : Nat} {vits : Value} {srt : Int} (hl0 : l.stackTraces = false) (E : GE p s m ([.ref (ad 0 8 0), .ref (am 0 0 0), .int x9] : List Value).toArray meth c D (tysX cA) cL_act 26 RL wsL_act (some .boolean)) (Z : gZ A s) (X : gX s) (hS : SH L a) (hJ : J t a) (ht : 0 ≤ t ∧ t ≤ 100) (hits : np a = 0 ∨ (vits = .ref (am 1 p9 0) ∧ (p9 : Int) < np a)) (hs : ¬ (srt = 2 ∨ srt = 3)) : GW p l e (headSpec wsL_act ({ frames := 9, cells := 120, slots := 2000, locals := 200 })).room s m ([.ref (ad 0 8 0), .ref (am 0 0 0), .int x9] : List Value).toArray below meth c (MQ below (va_Qi (ActP cA am ad σ w3 a t srt) (gB D A) A) ([.ref (ad 0 8 0), .ref (am 0 0 0), .int x9] : List Value).toArray s 120 2000 A) D A 26 (wS cA am L a ++ (wX cA ad (upY σ 0 a) ++ w3)) (0) (0) 1046 [(0, .ref (ad 0 8 0)), (1, .ref (am 0 0 0)), (2, .int x9), (3, .int (zI (np a))), (4, .int (zI (p9 : Int))), (5, vits)] [] := by
  have hA : ∀ q, s.heap.size ≤ q → A q := Z.2.1
  have hin5 : ∀ w ∈ u_ws RX5 TX5 9, w ∈ wsL_act := by decide +kernel
  have hin7 : ∀ w ∈ u_ws RX7 TX7 5, w ∈ wsL_act := by decide +kernel
  have hI := hJ.1
  obtain ⟨hL, hB, hPm, hCm, -, -⟩ := id hS
  obtain ⟨⟨hn0, hn6, hc0, hc3⟩, hPI, hCI, hFr⟩ := id hI
  refine g_iconst E dL_act_1046 ?_
  refine g_istore E dL_act_1047 (by decide) ?_
  refine g_iconst E dL_act_1049 ?_
  refine g_istore E dL_act_1050 (by decide) ?_
  refine g_wid (k := 0) (n := 0) (by omega) (by omega) ?_
  have key_kk : ∀ (n_kk kk : Nat), (kk : Int) ≤ (5 : Int) → (5 : Int) + 1 ≤ (kk : Int) + n_kk → GW p l e (headSpec wsL_act ({ frames := 9, cells := 120, slots := 2000, locals := 200 })).room s m ([.ref (ad 0 8 0), .ref (am 0 0 0), .int x9] : List Value).toArray below meth c (MQ below (va_Qi (ActP cA am ad σ w3 a t srt) (gB D A) A) ([.ref (ad 0 8 0), .ref (am 0 0 0), .int x9] : List Value).toArray s 120 2000 A) D A 26 (wS cA am L ((gaL a kk).1) ++ (wX cA ad (upY σ 0 a) ++ w3)) (0) (0) 1052 [(0, .ref (ad 0 8 0)), (1, .ref (am 0 0 0)), (2, .int x9), (3, .int (zI (np a))), (4, .int (zI (p9 : Int))), (5, vits), (21, .int (gaL a kk).2), (22, .int (zI (kk : Int)))] [] := by
    intro n_kk
    induction n_kk with
    | zero => intro kk h1 h2; exact absurd h2 (by omega)
    | succ n_kk ih_kk =>
      intro kk hle_kk hfu_kk
      refine g_iload E dL_act_1052 rfl ?_
      refine g_iconst E dL_act_1054 ?_
      refine g_icmp_ge (tgt := 1101) E dL_act_1055 (by decide) (by omega) (by omega) (fun c_1055 => ?_) (fun c_1055 => ?_)
      · obtain rfl : kk = 5 := (by omega); have hk5 := ga_kd hJ ht 5 (by omega); have hS2 : SH L (gaL a 5).1 := hS.to hk5.2.2.2.2.2.2.2.1 hk5.2.2.2.2.2.2.2.2 (fun q => rfl)
        refine g_aload_n E dL_act_1101 rfl ?_
        refine g_mVi (T := TX4) (ci := 4) (n := 0) (As := []) (rest := _) E (c_X4_gather l D cA _ ad σ a hI) gL_act_X4_gather rfl ⟨rfl, rfl⟩ (by decide +kernel) ⟨Nat.le_of_ble_eq_true rfl, Nat.le_of_ble_eq_true rfl⟩ (ob_8 mem_8) rfl rfl rfl (Nat.le_of_ble_eq_true rfl) ⟨by show (_ : Nat) ≤ 120; omega, by show (_ : Nat) ≤ 2000; omega⟩ dL_act_1102 ?_
        rintro r_1102 ws_1102 ⟨rfl, rfl⟩
        refine g_iload E dL_act_1105 rfl ?_
        refine g_icmp_neR (tgt := 1114) E dL_act_1107 (by decide) (fun c_1107 => ?_) (fun c_1107 => ?_)
        · exact absurd rfl c_1107
        · refine g_iconst E dL_act_1110 ?_
          refine g_goto (tgt := 1115) E dL_act_1111 (by decide) ?_
          refine g_wid (k := 120) (n := 2000) (by omega) (by omega) ?_
          exact g_zret E (by decide) (⟨rfl, am, L, (gaL a 5).1, rfl, hS2, (ga_kd hJ ht 5 (by omega)).fin hJ ht.1 hs (by omega), rfl⟩) dL_act_1115
      · refine g_iload E dL_act_1058 rfl ?_
        refine g_aload_n E dL_act_1060 rfl ?_
        refine gs_Sim_loose E hB.1 hin5 (by decide +kernel) dL_act_1061 ?_
        refine g_iload E dL_act_1064 rfl ?_
        refine ls_4 E hB.2.1 (by omega) rfl dL_act_1066 ?_
        refine g_top (v' := .int ((gaL a kk).1 4 0 kk)) (rfl) ?_
        refine g_iaddR E dL_act_1067 ?_
        refine g_istore E dL_act_1068 (by decide) ?_
        refine g_aload_n E dL_act_1070 rfl ?_
        refine gs_Sim_store E hB.1 hin5 (by decide +kernel) dL_act_1071 ?_
        refine g_iload E dL_act_1074 rfl ?_
        refine g_dup2 E dL_act_1076 rfl rfl ?_
        refine ls_5 E hB.2.2.1 (by omega) rfl dL_act_1077 ?_
        refine g_top (v' := .int ((gaL a kk).1 5 0 kk)) (rfl) ?_
        refine g_aload_n E dL_act_1078 rfl ?_
        refine gs_Sim_loose E hB.1 hin5 (by decide +kernel) dL_act_1079 ?_
        refine g_iload E dL_act_1082 rfl ?_
        refine ls_4 E hB.2.1 (by omega) rfl dL_act_1084 ?_
        refine g_top (v' := .int ((gaL a kk).1 4 0 kk)) (rfl) ?_
        refine g_iaddR E dL_act_1085 ?_
        refine ss_5 E hL hB.2.2.1 (by omega) dL_act_1086 ?_
        refine g_aload_n E dL_act_1087 rfl ?_
        refine gs_Sim_loose E hB.1 hin5 (by decide +kernel) dL_act_1088 ?_
        refine g_iload E dL_act_1091 rfl ?_
        refine g_iconst E dL_act_1093 ?_
        refine ss_4 E hL hB.2.1 (by omega) dL_act_1094 ?_
        refine g_iinc E dL_act_1095 rfl (by decide) ?_
        refine g_goto (tgt := 1052) E dL_act_1098 (by decide) ?_
        refine g_wid (k := 0) (n := 0) (by omega) (by omega) ?_
        refine g_st (ws' := wS cA am L ((gaL a (kk + 1)).1) ++ (wX cA ad (upY σ 0 a) ++ w3)) (rfl) rfl rfl ?_
        refine g_loc (lv' := [(0, .ref (ad 0 8 0)), (1, .ref (am 0 0 0)), (2, .int x9), (3, .int (zI (np a))), (4, .int (zI (p9 : Int))), (5, vits), (21, .int (gaL a (kk + 1)).2), (22, .int (zI ((kk + 1) : Int)))]) ⟨rfl, rfl, rfl, rfl, rfl, rfl, rfl, rfl, trivial⟩ ?_
        exact ih_kk (kk + 1) (by omega) (by omega)
  refine g_st (ws' := wS cA am L ((gaL a 0).1) ++ (wX cA ad (upY σ 0 a) ++ w3)) (rfl) rfl rfl ?_
  refine g_loc (lv' := [(0, .ref (ad 0 8 0)), (1, .ref (am 0 0 0)), (2, .int x9), (3, .int (zI (np a))), (4, .int (zI (p9 : Int))), (5, vits), (21, .int (gaL a 0).2), (22, .int (zI (0 : Int)))]) ⟨rfl, rfl, rfl, rfl, rfl, rfl, rfl, rfl, trivial⟩ ?_
  exact key_kk (((5 : Int)) + 1).toNat.succ 0 (by omega) (by omega)
set_option maxHeartbeats 1600000 in
set_option maxRecDepth 100000 in
/-- 15: chase -/
theorem act_15 {p : Program} {l : Launch} {e : Env} {s : State} {m : MethodId} {below : List Frame} {meth : Method} {c : Code} {D : va_G} {A : Nat → Prop} {cA : Nat → ClassId} {am ad : Ad} {σ : Nat → St} {L : List Id3} {w3 : va_W} {a : St} {t : Int} {x9 : Int32} {p9 : Nat} {vits : Value} {srt : Int} (hl0 : l.stackTraces = false) (E : GE p s m ([.ref (ad 0 8 0), .ref (am 0 0 0), .int x9] : List Value).toArray meth c D (tysX cA) cL_act 26 RL wsL_act (some .boolean)) (Z : gZ A s) (X : gX s) (hS : SH L a) (hJ : J t a) (ht : 0 ≤ t ∧ t ≤ 100) (hits : np a = 0 ∨ (vits = .ref (am 1 p9 0) ∧ (p9 : Int) < np a)) (hs : ¬ (srt = 2 ∨ srt = 3)) : GW p l e (headSpec wsL_act ({ frames := 9, cells := 120, slots := 2000, locals := 200 })).room s m ([.ref (ad 0 8 0), .ref (am 0 0 0), .int x9] : List Value).toArray below meth c (MQ below (va_Qi (ActP cA am ad σ w3 a t srt) (gB D A) A) ([.ref (ad 0 8 0), .ref (am 0 0 0), .int x9] : List Value).toArray s 120 2000 A) D A 26 (wS cA am L a ++ (wX cA ad (upY σ 0 a) ++ w3)) (0) (0) 1116 [(0, .ref (ad 0 8 0)), (1, .ref (am 0 0 0)), (2, .int x9), (3, .int (zI (np a))), (4, .int (zI (p9 : Int))), (5, vits)] [] := by
  have hA : ∀ q, s.heap.size ≤ q → A q := Z.2.1
  have hin5 : ∀ w ∈ u_ws RX5 TX5 9, w ∈ wsL_act := by decide +kernel
  have hin7 : ∀ w ∈ u_ws RX7 TX7 5, w ∈ wsL_act := by decide +kernel
  have hI := hJ.1
  obtain ⟨hL, hB, hPm, hCm, -, -⟩ := id hS
  obtain ⟨⟨hn0, hn6, hc0, hc3⟩, hPI, hCI, hFr⟩ := id hI
  refine g_aload_n E dL_act_1116 rfl ?_
  refine gs_Sim_cats E hB.1 hin5 (by decide +kernel) dL_act_1117 ?_
  refine ns_11 E hB.2.2.2.2.2.2 (by omega) dL_act_1120 ?_
  refine g_if_ne (tgt := 1126) E dL_act_1121 (by decide) (by omega) (fun c_1121 => ?_) (fun c_1121 => ?_)
  · refine g_iload_n E dL_act_1126 rfl ?_
    refine g_iconst E dL_act_1127 ?_
    refine g_ishr E dL_act_1128 ?_
    refine g_aload_n E dL_act_1129 rfl ?_
    refine gs_Sim_cats E hB.1 hin5 (by decide +kernel) dL_act_1130 ?_
    refine ns_11 E hB.2.2.2.2.2.2 (by omega) dL_act_1133 ?_
    refine g_callTi (n := 2) (As := [_, _]) (rest := _) E (c_L_below l D cA A _ (x9 >>> (zI 1 &&& 31)) (nc a) (by omega)) gL_act_L_below rfl ⟨rfl, rfl⟩ (by decide +kernel) ⟨Nat.le_of_ble_eq_true rfl, Nat.le_of_ble_eq_true rfl⟩ rfl rfl (Nat.le_of_ble_eq_true rfl) ⟨by show (_ : Nat) ≤ 120; omega, by show (_ : Nat) ≤ 2000; omega⟩ dL_act_1134 ?_
    rintro r_1134 ws_1134 ⟨rfl, rfl⟩
    have hb_1134 := beV_b (x9 >>> (zI 1 &&& 31)) (show (1 : Int) ≤ (nc a) by omega)
    obtain ⟨c9, hc9⟩ := Int.eq_ofNat_of_zero_le hb_1134.1
    rw [hc9]
    refine g_istore E dL_act_1137 (by decide) ?_
    refine g_aload_n E dL_act_1139 rfl ?_
    refine gs_Sim_cats E hB.1 hin5 (by decide +kernel) dL_act_1140 ?_
    refine g_iload E dL_act_1143 rfl ?_
    refine ls_11 E hB.2.2.2.2.2.2 (by omega) dL_act_1145 ?_
    refine g_top (v' := .ref (am 3 c9 0)) (rfl) ?_
    refine g_iconst E dL_act_1146 ?_
    refine ls_3 E (hCm c9 (by omega)) (by omega) rfl dL_act_1147 ?_
    refine g_top (v' := .int (a 3 c9 1)) (rfl) ?_
    refine g_istore E dL_act_1148 (by decide) ?_
    refine g_aload_n E dL_act_1150 rfl ?_
    refine gs_Sim_cats E hB.1 hin5 (by decide +kernel) dL_act_1151 ?_
    refine g_iload E dL_act_1154 rfl ?_
    refine ls_11 E hB.2.2.2.2.2.2 (by omega) dL_act_1156 ?_
    refine g_top (v' := .ref (am 3 c9 0)) (rfl) ?_
    refine g_iconst E dL_act_1157 ?_
    refine g_iconst E dL_act_1158 ?_
    refine ss_3 E hL (hCm c9 (by omega)) (by omega) dL_act_1159 ?_
    refine g_st (ws' := wS cA am L (up3 a 3 c9 1 (zI (-1))) ++ (wX cA ad (upY σ 0 a) ++ w3)) rfl rfl rfl ?_
    have hS2 : SH L (up3 a 3 c9 1 (zI (-1))) := hS.up (by unfold saf; omega)
    refine g_aload_n E dL_act_1160 rfl ?_
    refine g_iload E dL_act_1161 rfl ?_
    refine g_mZi (T := TX4) (ci := 4) (n := 1) (As := [_]) (rest := _) E Z (c_X4_chase l hl0 D cA _ ad σ a hI (c9 : Int) ⟨by omega, by omega⟩) gL_act_X4_chase rfl ⟨rfl, rfl⟩ (by decide +kernel) ⟨Nat.le_of_ble_eq_true rfl, Nat.le_of_ble_eq_true rfl⟩ (ob_8 mem_8) rfl rfl rfl (Nat.le_of_ble_eq_true rfl) ⟨by show (_ : Nat) ≤ 120; omega, by show (_ : Nat) ≤ 2000; omega⟩ dL_act_1163 (fun E9 h => exn_0 (by rw [e_c ⟨by omega, by omega⟩] at h; exact h)) ?_
    rintro r_1163 ws_1163 ⟨-, rfl, rfl⟩
    refine g_top (v' := .int (a 3 c9 1)) (congrArg Value.int (zI_self _)) ?_
    refine g_iload E dL_act_1166 rfl ?_
    refine g_icmp_neR (tgt := 1175) E dL_act_1168 (by decide) (fun c_1168 => ?_) (fun c_1168 => ?_)
    · exact absurd rfl c_1168
    · refine g_iconst E dL_act_1171 ?_
      refine g_goto (tgt := 1176) E dL_act_1172 (by decide) ?_
      refine g_wid (k := 120) (n := 2000) (by omega) (by omega) ?_
      exact g_zret E (by decide) (⟨rfl, am, L, (up3 a 3 c9 1 (zI (-1))), rfl, hS2, ((hJ.kd 0).cat (chase_g hI (e_c (c := (c9 : Int)) ⟨by omega, by omega⟩)).1).fin hJ ht.1 hs (by omega), rfl⟩) dL_act_1176
  · refine g_iconst E dL_act_1124 ?_
    refine g_wid (k := 120) (n := 2000) (by omega) (by omega) ?_
    exact g_zret E (by decide) (⟨rfl, am, L, a, rfl, hS, hJ.aj ht.1, rfl⟩) dL_act_1125
set_option maxHeartbeats 1600000 in
set_option maxRecDepth 100000 in
/-- the rest: days -/
theorem act_16 {p : Program} {l : Launch} {e : Env} {s : State} {m : MethodId} {below : List Frame} {meth : Method} {c : Code} {D : va_G} {A : Nat → Prop} {cA : Nat → ClassId} {am ad : Ad} {σ : Nat → St} {L : List Id3} {w3 : va_W} {a : St} {t : Int} {x9 : Int32} {p9 : Nat} {vits : Value} {srt : Int} (hl0 : l.stackTraces = false) (E : GE p s m ([.ref (ad 0 8 0), .ref (am 0 0 0), .int x9] : List Value).toArray meth c D (tysX cA) cL_act 26 RL wsL_act (some .boolean)) (Z : gZ A s) (X : gX s) (hS : SH L a) (hJ : J t a) (ht : 0 ≤ t ∧ t ≤ 100) (hits : np a = 0 ∨ (vits = .ref (am 1 p9 0) ∧ (p9 : Int) < np a)) (hs : ¬ (srt = 2 ∨ srt = 3)) : GW p l e (headSpec wsL_act ({ frames := 9, cells := 120, slots := 2000, locals := 200 })).room s m ([.ref (ad 0 8 0), .ref (am 0 0 0), .int x9] : List Value).toArray below meth c (MQ below (va_Qi (ActP cA am ad σ w3 a t srt) (gB D A) A) ([.ref (ad 0 8 0), .ref (am 0 0 0), .int x9] : List Value).toArray s 120 2000 A) D A 26 (wS cA am L a ++ (wX cA ad (upY σ 0 a) ++ w3)) (0) (0) 1177 [(0, .ref (ad 0 8 0)), (1, .ref (am 0 0 0)), (2, .int x9), (3, .int (zI (np a))), (4, .int (zI (p9 : Int))), (5, vits)] [] := by
  have hA : ∀ q, s.heap.size ≤ q → A q := Z.2.1
  have hin5 : ∀ w ∈ u_ws RX5 TX5 9, w ∈ wsL_act := by decide +kernel
  have hin7 : ∀ w ∈ u_ws RX7 TX7 5, w ∈ wsL_act := by decide +kernel
  have hI := hJ.1
  obtain ⟨hL, hB, hPm, hCm, -, -⟩ := id hS
  obtain ⟨⟨hn0, hn6, hc0, hc3⟩, hPI, hCI, hFr⟩ := id hI
  refine g_iconst E dL_act_1177 ?_
  refine g_iload_n E dL_act_1178 rfl ?_
  refine g_iconst E dL_act_1179 ?_
  refine g_ishr E dL_act_1180 ?_
  refine g_iconst E dL_act_1181 ?_
  refine g_callTi (n := 2) (As := [_, _]) (rest := _) E (c_L_below l D cA A _ (x9 >>> (zI 2 &&& 31)) (3 : Int) (by omega)) gL_act_L_below rfl ⟨rfl, rfl⟩ (by decide +kernel) ⟨Nat.le_of_ble_eq_true rfl, Nat.le_of_ble_eq_true rfl⟩ rfl rfl (Nat.le_of_ble_eq_true rfl) ⟨by show (_ : Nat) ≤ 120; omega, by show (_ : Nat) ≤ 2000; omega⟩ dL_act_1182 ?_
  rintro r_1182 ws_1182 ⟨rfl, rfl⟩
  have hb_1182 := beV_b (x9 >>> (zI 2 &&& 31)) (show (1 : Int) ≤ (3 : Int) by omega)
  refine g_iadd E dL_act_1185 ?_
  obtain ⟨d9, hd9⟩ : ∃ z : Int, (1 + beV (x9 >>> (zI 2 &&& 31)) 3) = z := ⟨_, rfl⟩
  rw [hd9]
  obtain ⟨hI2, hn2, hc2⟩ := passL_i hI d9.toNat
  have hS2 : SH L (passL a d9.toNat).1 := hS.pl d9.toNat
  have hpv := passVM hI d9.toNat
  refine g_istore E dL_act_1186 (by decide) ?_
  refine g_aload_n E dL_act_1188 rfl ?_
  refine g_iconst E dL_act_1189 ?_
  refine g_zVi (T := TX5) (ci := 5) (n := 1) (As := [_]) (rest := _) E Z (c_X5_counted l D cA A am L _ a hS hI (4 : Int) ⟨by omega, by omega⟩) gL_act_X5_counted rfl ⟨rfl, rfl⟩ (by decide +kernel) ⟨Nat.le_of_ble_eq_true rfl, Nat.le_of_ble_eq_true rfl⟩ (os_5 hB.1) rfl rfl rfl (Nat.le_of_ble_eq_true rfl) ⟨by show (_ : Nat) ≤ 120; omega, by show (_ : Nat) ≤ 2000; omega⟩ dL_act_1190 ?_
  rintro r_1190 ws_1190 ⟨rfl, rfl⟩
  refine g_top (v' := .int (sum5 (a 4 0) 5)) (rfl) ?_
  refine g_istore E dL_act_1193 (by decide) ?_
  refine g_aload_n E dL_act_1195 rfl ?_
  refine g_iload E dL_act_1196 rfl ?_
  refine g_zVr (T := TX5) (ci := 5) (n := 1) (As := [_]) (rest := _) E Z (c_X5_behind l D cA A am L _ a hS hI d9 (by omega)) gL_act_X5_behind rfl ⟨rfl, rfl⟩ (by decide +kernel) ⟨Nat.le_of_ble_eq_true rfl, Nat.le_of_ble_eq_true rfl⟩ (os_5 hB.1) rfl rfl rfl (Nat.le_of_ble_eq_true rfl) ⟨by show (_ : Nat) ≤ 120; omega, by show (_ : Nat) ≤ 2000; omega⟩ dL_act_1198 ?_
  rintro r_1198 ws_1198 ⟨rfl, rfl⟩
  refine g_pop E dL_act_1201 rfl ?_
  refine g_aload_n E dL_act_1202 rfl ?_
  refine g_iload E dL_act_1203 rfl ?_
  refine g_mZi (T := TX4) (ci := 4) (n := 1) (As := [_]) (rest := _) E Z (c_X4_pass l hl0 D cA _ ad σ a hI d9 ⟨by omega, by omega⟩) gL_act_X4_pass rfl ⟨rfl, rfl⟩ (by decide +kernel) ⟨Nat.le_of_ble_eq_true rfl, Nat.le_of_ble_eq_true rfl⟩ (ob_8 mem_8) rfl rfl rfl (Nat.le_of_ble_eq_true rfl) ⟨by show (_ : Nat) ≤ 120; omega, by show (_ : Nat) ≤ 2000; omega⟩ dL_act_1205 (fun E9 h => exn_0 (by rw [e_in (by omega)] at h; exact h)) ?_
  rintro r_1205 ws_1205 ⟨-, rfl, rfl⟩
  refine g_aload_n E dL_act_1208 rfl ?_
  refine g_iconst E dL_act_1209 ?_
  refine g_zVi (T := TX5) (ci := 5) (n := 1) (As := [_]) (rest := _) E Z (c_X5_counted l D cA A am L _ (passL a d9.toNat).1 hS2 hI2 (4 : Int) ⟨by omega, by omega⟩) gL_act_X5_counted rfl ⟨rfl, rfl⟩ (by decide +kernel) ⟨Nat.le_of_ble_eq_true rfl, Nat.le_of_ble_eq_true rfl⟩ (os_5 hB.1) rfl rfl rfl (Nat.le_of_ble_eq_true rfl) ⟨by show (_ : Nat) ≤ 120; omega, by show (_ : Nat) ≤ 2000; omega⟩ dL_act_1210 ?_
  rintro r_1210 ws_1210 ⟨rfl, rfl⟩
  refine g_top (v' := .int (sum5 ((passL a d9.toNat).1 4 0) 5)) (rfl) ?_
  refine g_iload E dL_act_1213 rfl ?_
  refine g_isubR E dL_act_1215 ?_
  refine g_icmp_neR (tgt := 1223) E dL_act_1216 (by decide) (fun c_1216 => ?_) (fun c_1216 => ?_)
  · exact absurd (by rw [hpv, Int32.add_comm, Int32.add_sub_cancel]) c_1216
  · refine g_iconst E dL_act_1219 ?_
    refine g_goto (tgt := 1224) E dL_act_1220 (by decide) ?_
    refine g_wid (k := 120) (n := 2000) (by omega) (by omega) ?_
    exact g_zret E (by decide) (⟨rfl, am, L, (passL a d9.toNat).1, rfl, hS2, (pass_kd hJ ht d9.toNat (by omega)).fin hJ ht.1 hs (by omega), rfl⟩) dL_act_1224
