/-! ===== COPIES: the trial becomes the yard ===== -/
/-- what can be seen of a row -/
def visR (t : Nat) (r r' : Nat → Int32) : Prop := match t with
  | 0 => ∀ j : Nat, j < 5 → r j = r' j
  | 1 => r 0 = r' 0 ∧ pyN r = pyN r' ∧ r 2 = r' 2
  | 2 => ∀ j : Nat, j < 91 → r j = r' j
  | 3 => ∀ j : Nat, j < 3 → r j = r' j
  | 4 => ∀ j : Nat, j < 5 → r j = r' j
  | _ => True
theorem vp_ext {cB : ClassId} {n : Nat} {r r' : Nat → Int32} (h : ∀ j : Nat, j < n → r j = r' j) : vp_cell cB (n, .inl r) = vp_cell cB (n, .inl r') := by
  rw [vp_cell_i, vp_cell_i]
  unfold arrV
  congr 2
  funext j
  exact congrArg Value.int (h j.val j.isLt)
theorem mB_ext {cA : Nat → ClassId} {ad : Ad} {D : va_G} {t i : Nat} {r r' : Nat → Int32} {H : Heap} {q : Nat} (ht : t < 5 ∨ t = 10 ∨ t = 11 ∨ t = 15) (h : visR t r r') (hA : va_at D vwCl (q, mB cA ad 1 t i r) H) : va_at D vwCl (q, mB cA ad 1 t i r') H := by
  rcases (show t = 0 ∨ t = 1 ∨ t = 2 ∨ t = 3 ∨ t = 4 ∨ t = 10 ∨ t = 11 ∨ t = 15 by omega) with rfl | rfl | rfl | rfl | rfl | rfl | rfl | rfl
  · have e : mB cA ad 1 0 i r = mB cA ad 1 0 i r' := by
      show (Sum.inr (3, [.ref (ad 1 10 0), .ref (ad 1 11 0), .ref (ad 1 15 0), .int (r 0), .int (r 1), .int (r 2), .int (r 3), .int (r 4)]) : va_E) = _
      rw [h 0 (by decide), h 1 (by decide), h 2 (by decide), h 3 (by decide), h 4 (by decide)]
      rfl
    rw [← e]; exact hA
  · have e : mB cA ad 1 1 i r = mB cA ad 1 1 i r' := by
      show (Sum.inr (1, [.int (r 0), .ref (ad 2 9 (pyN r)), .int (r 2), .ref (ad 1 2 i)]) : va_E) = _
      rw [h.1, h.2.1, h.2.2]
      rfl
    rw [← e]; exact hA
  · have hB : H[q]? = some (vp_cell (cA 0) (91, .inl r)) := hA
    show H[q]? = some (vp_cell (cA 0) (91, .inl r'))
    rw [hB, vp_ext h]
  · have e : mB cA ad 1 3 i r = mB cA ad 1 3 i r' := by
      show (Sum.inr (0, [.int (r 0), .int (r 1), .int (r 2)]) : va_E) = _
      rw [h 0 (by decide), h 1 (by decide), h 2 (by decide)]
      rfl
    rw [← e]; exact hA
  · have hB : H[q]? = some (vp_cell (cA 0) (5, .inl r)) := hA
    show H[q]? = some (vp_cell (cA 0) (5, .inl r'))
    rw [hB, vp_ext h]
  · exact hA
  · exact hA
  · exact hA
theorem ids_1 : ∀ q ∈ idsX, q.1 = 1 → q.2.1 < 5 ∨ q.2.1 = 10 ∨ q.2.1 = 11 ∨ q.2.1 = 15 := by decide +kernel
theorem ids_i : ∀ q ∈ idsX, q.1 = 1 → (q.2.1 = 0 → q.2.2 = 0) ∧ (q.2.1 = 1 → q.2.2 < 6) ∧ (q.2.1 = 2 → q.2.2 < 6) ∧ (q.2.1 = 3 → q.2.2 < 3) ∧ (q.2.1 = 4 → q.2.2 = 0) := by decide +kernel
def Vis (B C : St) : Prop := ∀ q ∈ idsX, q.1 = 1 → visR q.2.1 (B q.2.1 q.2.2) (C q.2.1 q.2.2)
theorem wX_extP {cA : Nat → ClassId} {ad : Ad} {D : va_G} {σ : Nat → St} {B C : St} {H : Heap} (hv : Vis B C) (hP : va_P D vwCl (wX cA ad (upY σ 1 B)) H) : va_P D vwCl (wX cA ad (upY σ 1 C)) H := by
  intro k q hk
  rw [wX, List.getElem?_map] at hk
  cases hz : idsX[k]? with
  | none => rw [hz] at hk; cases hk
  | some z =>
    rw [hz] at hk
    cases hk
    have h1 := hP k (ad z.1 z.2.1 z.2.2, mB cA ad z.1 z.2.1 z.2.2 (upY σ 1 B z.1 z.2.1 z.2.2)) (by rw [wX, List.getElem?_map, hz]; rfl)
    show va_at D vwCl (ad z.1 z.2.1 z.2.2, mB cA ad z.1 z.2.1 z.2.2 (upY σ 1 C z.1 z.2.1 z.2.2)) H
    have hm := List.mem_of_getElem? hz
    by_cases hy : z.1 = 1
    · obtain ⟨y, t, i⟩ := z
      have hy : y = 1 := hy
      subst hy
      rw [upY_s] at h1 ⊢
      exact mB_ext (ids_1 _ hm rfl) (hv _ hm rfl) h1
    · rw [upY_n hy] at h1 ⊢
      exact h1
theorem wX_extD {cA : Nat → ClassId} {ad : Ad} {A : Nat → Prop} {σ σ' : Nat → St} (hD : va_D A (wX cA ad σ)) : va_D A (wX cA ad σ') := by
  have key : ∀ (k : Nat) (q : Nat × va_E), (wX cA ad σ')[k]? = some q → ∃ q0, (wX cA ad σ)[k]? = some q0 ∧ q0.1 = q.1 := by
    intro k q hk
    rw [wX, List.getElem?_map] at hk ⊢
    cases hz : idsX[k]? with
    | none => rw [hz] at hk; cases hk
    | some z => rw [hz] at hk; cases hk; exact ⟨_, rfl, rfl⟩
  refine ⟨fun i j p q hi hj e => ?_, fun k q hk => ?_⟩
  · obtain ⟨p0, h1, h2⟩ := key i p hi
    obtain ⟨q0, h3, h4⟩ := key j q hj
    exact hD.1 i j p0 q0 h1 h3 (h2.trans (e.trans h4.symm))
  · obtain ⟨q0, h1, h2⟩ := key k q hk
    rw [← h2]
    exact hD.2 k q0 h1
theorem g_ext {p : Program} {l : Launch} {e : Env} {R : Room} {s : State} {m : MethodId} {args : Array Value} {below : List Frame} {meth : Method} {c : Code} {Q : State → Prop} {D : va_G} {A : Nat → Prop} {nL : Nat} {cells slots pc : Nat} {lv : List (Nat × Value)} {st : List Value} {cA : Nat → ClassId} {ad : Ad} {σ : Nat → St} {B C : St} (hv : Vis B C)
    (kk : GW p l e R s m args below meth c Q D A nL (wX cA ad (upY σ 1 C)) cells slots pc lv st) : GW p l e R s m args below meth c Q D A nL (wX cA ad (upY σ 1 B)) cells slots pc lv st :=
  fun H locs ls hP hD hS hl => kk H locs ls (wX_extP hv hP) (wX_extD hD) hS hl
/-- System.arraycopy between two rows of the value -/
theorem g_copy {p : Program} {l : Launch} {e : Env} {R : Room} {s : State} {m : MethodId} {args : Array Value} {below : List Frame} {meth : Method} {c : Code} {Q : State → Prop} {D : va_G} {A : Nat → Prop} {nL : Nat} {cells slots pc : Nat} {lv : List (Nat × Value)} {st : List Value} {cc : ByteArray} {own : String} {Ts : List Cond} {ret : Option FieldType} {cA : Nat → ClassId} {ad : Ad} {σ : Nat → St} {index t i n y0 y1 : Nat} (E : GE p s m args meth c D (tysX cA) cc nL own Ts ret)
    (h0 : (y0, t, i) ∈ idsX) (h1 : (y1, t, i) ∈ idsX) (hm : ∀ y r, mB cA ad y t i r = .inl (cA 0, n, .inl r)) (hn : n < 1000)
    (hlink : Cond.methodLink own index arraycopyName ∈ Ts) (hnat : Cond.native arraycopyName ∈ Ts) (hstat : Cond.static arraycopyName ∈ Ts) (hini : Cond.initialized "java/lang/System" ∈ Ts)
    (hframes : 1 ≤ R.frames) (hlocals : (st.map fun v => v.category).sum + (nativeFrameWords "java/lang/System" "arraycopy" 5 + 11) ≤ R.locals) (hdg : decode cc pc = .ok (.invokestatic index, 3))
    (kk : GW p l e R s m args below meth c Q D A nL (wX cA ad (upY σ y1 (upR (σ y1) t i (va_cpy (σ y0 t i) (σ y1 t i) 0 0 n)))) cells slots (pc + 3) lv st) : GW p l e R s m args below meth c Q D A nL (wX cA ad σ) cells slots pc lv (.int (zI n) :: .int (zI 0) :: .ref (ad y1 t i) :: .int (zI 0) :: .ref (ad y0 t i) :: st) := by
  intro H locs ls hP hD hS hl
  obtain ⟨q0, hq0⟩ := wX_at (cA := cA) (ad := ad) (σ := σ) h0
  obtain ⟨q1, hq1, hset⟩ := wX_set (cA := cA) (ad := ad) (σ := σ) h1 (r := va_cpy (σ y0 t i) (σ y1 t i) 0 0 n) (hm _ _) (hm _ _)
  rw [hm] at hq0
  have z0 : (zI 0).toNatClampNeg = 0 := by rw [zI_cl (by omega)]; rfl
  have zn : (zI n).toNatClampNeg = n := by rw [zI_cl (by omega)]; rfl
  have n0 : ¬ zI 0 < 0 := by rw [zI_0]; decide
  have nn : ¬ zI n < 0 := by
    intro h
    rw [← zI_0, zI_lt (by omega) (by omega)] at h
    omega
  refine va_copyi E.1 E.2.1 (E.2.2.1.trans hl.1.symm) E.2.2.2.1 (E.2.2.2.2.1 _ hlink) (E.2.2.2.2.1 _ hnat) (E.2.2.2.2.1 _ hstat) (E.2.2.2.2.1 _ hini) E.2.2.2.2.2.1.1 hP hD hS q0 q1 0 0 hq0 hq1 rfl rfl rfl n0 n0 nn (by rw [z0, zn]; omega) (by rw [z0, zn]; omega) (fun _ _ => rfl) hframes hlocals hdg ?_
  intro H1 locs1 hP hD hS
  rw [z0, zn] at hP hD
  rw [hset] at hP hD
  exact kk H1 locs1 ls hP hD hS hl
/-- pile p of s, copied over b's -/
def cpP (s b : St) (p : Nat) : St := upR (up3 (up3 (up3 b 1 p 0 (zI (cal s p))) 1 p 1 (zI (pyN (s 1 p)))) 1 p 2 (zI (bl s p))) 2 p (va_cpy (s 2 p) ((up3 (up3 (up3 b 1 p 0 (zI (cal s p))) 1 p 1 (zI (pyN (s 1 p)))) 1 p 2 (zI (bl s p))) 2 p) 0 0 91)
def cpC (s b : St) (c : Nat) : St := up3 (up3 (up3 b 3 c 0 (zI (lp s c))) 3 c 1 (zI (on s c))) 3 c 2 (s 3 c 2)
def cpPs (s b : St) : Nat → St
  | 0 => up3 b 0 0 0 (zI (np s))
  | n + 1 => cpP s (cpPs s b n) n
def cpCs (s b : St) : Nat → St
  | 0 => up3 (cpPs s b (np s).toNat) 0 0 1 (zI (nc s))
  | n + 1 => cpC s (cpCs s b n) n
def cpL (s b : St) : St := upR (cpCs s b (nc s).toNat) 4 0 (va_cpy (s 4 0) ((cpCs s b (nc s).toNat) 4 0) 0 0 5)
def cpY (s b : St) : St := up3 (up3 (up3 (cpL s b) 0 0 2 (s 0 0 2)) 0 0 3 (s 0 0 3)) 0 0 4 (s 0 0 4)
theorem upR_o {f : St} {t i t' i' j : Nat} {r : Nat → Int32} (h : ¬ (t' = t ∧ i' = i)) : upR f t i r t' i' j = f t' i' j := congrFun (upR_n h) j
theorem cpP_o {s b : St} {p t i j : Nat} (h : ¬ ((t = 1 ∨ t = 2) ∧ i = p)) : cpP s b p t i j = b t i j := by
  rw [cpP, upR_o (by omega), up3_n (by omega), up3_n (by omega), up3_n (by omega)]
theorem cpP_1 {s b : St} {p : Nat} : cpP s b p 1 p 0 = s 1 p 0 ∧ cpP s b p 1 p 1 = zI (pyN (s 1 p)) ∧ cpP s b p 1 p 2 = s 1 p 2 := by
  refine ⟨?_, ?_, ?_⟩
  · rw [cpP, upR_o (by omega), up3_n (by omega), up3_n (by omega), up3_s]; exact zI_self _
  · rw [cpP, upR_o (by omega), up3_n (by omega), up3_s]
  · rw [cpP, upR_o (by omega), up3_s]; exact zI_self _
theorem cpP_2 {s b : St} {p k : Nat} (hk : k < 91) : cpP s b p 2 p k = s 2 p k := by
  rw [cpP, upR_s, pk_cpy_in (by omega) (by omega)]
  congr 1
  omega
theorem cpC_o {s b : St} {c t i j : Nat} (h : ¬ (t = 3 ∧ i = c)) : cpC s b c t i j = b t i j := by
  rw [cpC, up3_n (by omega), up3_n (by omega), up3_n (by omega)]
theorem cpC_3 {s b : St} {c : Nat} : cpC s b c 3 c 0 = s 3 c 0 ∧ cpC s b c 3 c 1 = s 3 c 1 ∧ cpC s b c 3 c 2 = s 3 c 2 := by
  refine ⟨?_, ?_, ?_⟩
  · rw [cpC, up3_n (by omega), up3_n (by omega), up3_s]; exact zI_self _
  · rw [cpC, up3_n (by omega), up3_s]; exact zI_self _
  · rw [cpC, up3_s]
theorem cpPs_o {s b : St} {t i j : Nat} : ∀ n : Nat, ¬ ((t = 1 ∨ t = 2) ∧ i < n) → ¬ (t = 0 ∧ i = 0 ∧ j = 0) → cpPs s b n t i j = b t i j
  | 0, _, h => up3_n h
  | n + 1, h, h0 => by rw [cpPs, cpP_o (by omega)]; exact cpPs_o n (by omega) h0
theorem cpPs_np {s b : St} : ∀ n : Nat, cpPs s b n 0 0 0 = s 0 0 0
  | 0 => by rw [cpPs, up3_s]; exact zI_self _
  | n + 1 => by rw [cpPs, cpP_o (by omega)]; exact cpPs_np n
theorem cpPs_1 {s b : St} {p : Nat} : ∀ n : Nat, p < n → cpPs s b n 1 p 0 = s 1 p 0 ∧ cpPs s b n 1 p 1 = zI (pyN (s 1 p)) ∧ cpPs s b n 1 p 2 = s 1 p 2 ∧ ∀ k : Nat, k < 91 → cpPs s b n 2 p k = s 2 p k
  | 0, h => absurd h (Nat.not_lt_zero p)
  | n + 1, h => by
    by_cases e : p = n
    · subst e
      exact ⟨cpP_1.1, cpP_1.2.1, cpP_1.2.2, fun k hk => cpP_2 hk⟩
    · obtain ⟨h1, h2, h3, h4⟩ := cpPs_1 (s := s) (b := b) n (show p < n by omega)
      refine ⟨?_, ?_, ?_, fun k hk => ?_⟩
      · rw [cpPs, cpP_o (by omega)]; exact h1
      · rw [cpPs, cpP_o (by omega)]; exact h2
      · rw [cpPs, cpP_o (by omega)]; exact h3
      · rw [cpPs, cpP_o (by omega)]; exact h4 k hk
theorem cpCs_o {s b : St} {t i j : Nat} : ∀ n : Nat, ¬ (t = 3 ∧ i < n) → ¬ (t = 0 ∧ i = 0 ∧ j = 1) → cpCs s b n t i j = cpPs s b (np s).toNat t i j
  | 0, _, h => up3_n h
  | n + 1, h, h0 => by rw [cpCs, cpC_o (by omega)]; exact cpCs_o n (by omega) h0
theorem cpCs_nc {s b : St} : ∀ n : Nat, cpCs s b n 0 0 1 = s 0 0 1
  | 0 => by rw [cpCs, up3_s]; exact zI_self _
  | n + 1 => by rw [cpCs, cpC_o (by omega)]; exact cpCs_nc n
theorem cpCs_3 {s b : St} {c : Nat} : ∀ n : Nat, c < n → cpCs s b n 3 c 0 = s 3 c 0 ∧ cpCs s b n 3 c 1 = s 3 c 1 ∧ cpCs s b n 3 c 2 = s 3 c 2
  | 0, h => absurd h (Nat.not_lt_zero c)
  | n + 1, h => by
    by_cases e : c = n
    · subst e
      exact cpC_3
    · obtain ⟨h1, h2, h3⟩ := cpCs_3 (s := s) (b := b) n (show c < n by omega)
      refine ⟨?_, ?_, ?_⟩
      · rw [cpCs, cpC_o (by omega)]; exact h1
      · rw [cpCs, cpC_o (by omega)]; exact h2
      · rw [cpCs, cpC_o (by omega)]; exact h3
/-- what the trial may be -/
def TrI (s b : St) : Prop := Fresh b ∧ np b ≤ np s ∧ nc b ≤ nc s
theorem cpY_o {s b : St} {t i j : Nat} (h : ¬ t = 0) (h4 : ¬ t = 4) : cpY s b t i j = cpCs s b (nc s).toNat t i j := by
  rw [cpY, up3_n (by omega), up3_n (by omega), up3_n (by omega), cpL, upR_o (by omega)]
theorem cpY_vis {s b : St} (hI : Inv s) (hT : TrI s b) : Vis (cpY s b) s := by
  obtain ⟨⟨hn0, hn6, hc0, hc3⟩, hPI, hCI, hFr⟩ := hI
  obtain ⟨hFb, hnb, hcb⟩ := hT
  rintro ⟨y, t, i⟩ hm rfl
  have hi := ids_i _ hm rfl
  rcases ids_1 _ hm rfl with ht | ht | ht | ht
  · have ht : t < 5 := ht
    rcases (show t = 0 ∨ t = 1 ∨ t = 2 ∨ t = 3 ∨ t = 4 by omega) with rfl | rfl | rfl | rfl | rfl
    · have hi : i = 0 := hi.1 rfl
      subst hi
      intro j hj
      show cpY s b 0 0 j = s 0 0 j
      rcases (show j = 0 ∨ j = 1 ∨ j = 2 ∨ j = 3 ∨ j = 4 by omega) with rfl | rfl | rfl | rfl | rfl
      · rw [cpY, up3_n (by omega), up3_n (by omega), up3_n (by omega), cpL, upR_o (by omega), cpCs_o _ (by omega) (by omega)]; exact cpPs_np _
      · rw [cpY, up3_n (by omega), up3_n (by omega), up3_n (by omega), cpL, upR_o (by omega)]; exact cpCs_nc _
      · rw [cpY, up3_n (by omega), up3_n (by omega), up3_s]
      · rw [cpY, up3_n (by omega), up3_s]
      · rw [cpY, up3_s]
    · have hi : i < 6 := hi.2.1 rfl
      have e : ∀ j : Nat, cpY s b 1 i j = cpPs s b (np s).toNat 1 i j := fun j => by rw [cpY_o (by omega) (by omega), cpCs_o _ (by omega) (by omega)]
      show cpY s b 1 i 0 = s 1 i 0 ∧ pyN (cpY s b 1 i) = pyN (s 1 i) ∧ cpY s b 1 i 2 = s 1 i 2
      have hpy : pyN (cpY s b 1 i) = (max 1 (cpPs s b (np s).toNat 1 i 1).toInt).toNat := by unfold pyN; rw [e]
      by_cases hp : i < (np s).toNat
      · obtain ⟨h1, h2, h3, -⟩ := cpPs_1 (s := s) (b := b) (np s).toNat hp
        have hP := (hPI i (by omega)).1
        have hq := pyN_c (a := s) (p := i) ⟨hP.1, hP.2.1⟩
        refine ⟨(e 0).trans h1, ?_, (e 2).trans h3⟩
        rw [hpy, h2, zI_toInt (by omega)]
        omega
      · obtain ⟨f1, f2, f3, -⟩ := hFr.1 i (by omega) hi
        obtain ⟨g1, g2, g3, -⟩ := hFb.1 i (by omega) hi
        have o : ∀ j : Nat, cpPs s b (np s).toNat 1 i j = b 1 i j := fun j => cpPs_o _ (by omega) (by omega)
        refine ⟨by rw [e, o, f1, g1], ?_, by rw [e, o, f3, g3]⟩
        rw [hpy, o, g2]
        unfold pyN
        rw [f2]
    · have hi : i < 6 := hi.2.2.1 rfl
      intro k hk
      show cpY s b 2 i k = s 2 i k
      rw [cpY_o (by omega) (by omega), cpCs_o _ (by omega) (by omega)]
      by_cases hp : i < (np s).toNat
      · exact (cpPs_1 (np s).toNat hp).2.2.2 k hk
      · rw [cpPs_o _ (by omega) (by omega), (hFr.1 i (by omega) hi).2.2.2 k hk, (hFb.1 i (by omega) hi).2.2.2 k hk]
    · have hi : i < 3 := hi.2.2.2.1 rfl
      intro j hj
      show cpY s b 3 i j = s 3 i j
      rw [cpY_o (by omega) (by omega)]
      by_cases hp : i < (nc s).toNat
      · obtain ⟨h1, h2, h3⟩ := cpCs_3 (s := s) (b := b) (nc s).toNat hp
        rcases (show j = 0 ∨ j = 1 ∨ j = 2 by omega) with rfl | rfl | rfl <;> assumption
      · obtain ⟨f1, f2, f3⟩ := hFr.2 i (by omega) hi
        obtain ⟨g1, g2, g3⟩ := hFb.2 i (by omega) hi
        rw [cpCs_o _ (by omega) (by omega), cpPs_o _ (by omega) (by omega)]
        rcases (show j = 0 ∨ j = 1 ∨ j = 2 by omega) with rfl | rfl | rfl
        · rw [f1, g1]
        · rw [f2, g2]
        · rw [f3, g3]
    · have hi : i = 0 := hi.2.2.2.2 rfl
      subst hi
      intro j hj
      show cpY s b 4 0 j = s 4 0 j
      rw [cpY, up3_n (by omega), up3_n (by omega), up3_n (by omega), cpL, upR_s, pk_cpy_in (by omega) (by omega)]
      congr 1
      omega
  · have ht : t = 10 := ht
    subst ht; exact trivial
  · have ht : t = 11 := ht
    subst ht; exact trivial
  · have ht : t = 15 := ht
    subst ht; exact trivial
def unA (a : St) (p : Nat) : Nat → Nat → Int
  | 0, _ => -1
  | n + 1, d => if 0 < rustyN (passL a d).1 p ((passL a d).1 0 0 4) (bl (passL a d).1 p).toNat then d else unA a p n (d + 1)
def unV (a : St) (p : Nat) : Int := unA a p 41 0
def eFor (d w : Int) : Int := if ¬ (1 ≤ d ∧ d ≤ 30) then 1 else if ¬ (4 ≤ w ∧ w ≤ 6) then 2 else 0
theorem Inv.tr {a b : St} (h : Inv b) (h1 : np b = np a) (h2 : nc b = nc a) : TrI a b := ⟨h.2.2.2, by omega, by omega⟩
