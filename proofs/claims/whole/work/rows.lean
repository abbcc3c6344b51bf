section
-- ===== PART A: goes FIRST, ahead of the names: the tables' words, and 'selects' of the private methods out of them =====
/-- a private method of a class that the tables say can be made, by its rows of tables_1 -/
def lw_okq (q : MethodName × Nat) : Prop := (q.1.cls ≠ "java/lang/invoke/MethodHandle" ∧ q.1.cls ≠ "java/lang/invoke/VarHandle") ∧ Cond.instantiable q.1.cls q.2 ∈ tables_1 ∧ Cond.privateMethod q.1 ∈ tables_1 ∧ Cond.instanceMethod q.1 ∈ tables_1
theorem lw_p0 : lw_okq (⟨"java/lang/Throwable", "fillInStackTrace", "(I)Ljava/lang/Throwable;"⟩, 6) := ⟨⟨by decide +kernel, by decide +kernel⟩, List.mem_of_getElem? (i := 237) (by decide +kernel), List.mem_of_getElem? (i := 235) (by decide +kernel), List.mem_of_getElem? (i := 236) (by decide +kernel)⟩
theorem lw_p1 : lw_okq (⟨"CannonStacks", "digestOfPile", "(JI)J"⟩, 6) := ⟨⟨by decide +kernel, by decide +kernel⟩, List.mem_of_getElem? (i := 16) (by decide +kernel), List.mem_of_getElem? (i := 283) (by decide +kernel), List.mem_of_getElem? (i := 284) (by decide +kernel)⟩
theorem lw_p2 : lw_okq (⟨"CannonStacks", "checkPile", "(I)V"⟩, 6) := ⟨⟨by decide +kernel, by decide +kernel⟩, List.mem_of_getElem? (i := 16) (by decide +kernel), List.mem_of_getElem? (i := 291) (by decide +kernel), List.mem_of_getElem? (i := 292) (by decide +kernel)⟩
theorem lw_p3 : lw_okq (⟨"CannonStacks", "checkCat", "(I)V"⟩, 6) := ⟨⟨by decide +kernel, by decide +kernel⟩, List.mem_of_getElem? (i := 16) (by decide +kernel), List.mem_of_getElem? (i := 330) (by decide +kernel), List.mem_of_getElem? (i := 331) (by decide +kernel)⟩
theorem lw_p4 : lw_okq (⟨"CannonStacks$Pyramid", "startOf", "(I)I"⟩, 4) := ⟨⟨by decide +kernel, by decide +kernel⟩, List.mem_of_getElem? (i := 25) (by decide +kernel), List.mem_of_getElem? (i := 507) (by decide +kernel), List.mem_of_getElem? (i := 508) (by decide +kernel)⟩
theorem lw_p5 : lw_okq (⟨"CannonStacks$Yard", "passOneDay", "()I"⟩, 8) := ⟨⟨by decide +kernel, by decide +kernel⟩, List.mem_of_getElem? (i := 55) (by decide +kernel), List.mem_of_getElem? (i := 577) (by decide +kernel), List.mem_of_getElem? (i := 578) (by decide +kernel)⟩
theorem lw_p6 : lw_okq (⟨"CannonStacks$Yard", "letJump", "(LCannonStacks$Cat;)I"⟩, 8) := ⟨⟨by decide +kernel, by decide +kernel⟩, List.mem_of_getElem? (i := 55) (by decide +kernel), List.mem_of_getElem? (i := 585) (by decide +kernel), List.mem_of_getElem? (i := 586) (by decide +kernel)⟩
theorem lw_p7 : lw_okq (⟨"CannonStacksModel", "fail", "(I)I"⟩, 19) := ⟨⟨by decide +kernel, by decide +kernel⟩, List.mem_of_getElem? (i := 638) (by decide +kernel), List.mem_of_getElem? (i := 716) (by decide +kernel), List.mem_of_getElem? (i := 717) (by decide +kernel)⟩
theorem lw_p8 : lw_okq (⟨"CannonStacksModel", "more", "(III)V"⟩, 19) := ⟨⟨by decide +kernel, by decide +kernel⟩, List.mem_of_getElem? (i := 638) (by decide +kernel), List.mem_of_getElem? (i := 728) (by decide +kernel), List.mem_of_getElem? (i := 729) (by decide +kernel)⟩
theorem lw_p9 : lw_okq (⟨"CannonStacksModel", "isPile", "(I)Z"⟩, 19) := ⟨⟨by decide +kernel, by decide +kernel⟩, List.mem_of_getElem? (i := 638) (by decide +kernel), List.mem_of_getElem? (i := 744) (by decide +kernel), List.mem_of_getElem? (i := 745) (by decide +kernel)⟩
theorem lw_p10 : lw_okq (⟨"CannonStacksModel", "of", "(II)I"⟩, 19) := ⟨⟨by decide +kernel, by decide +kernel⟩, List.mem_of_getElem? (i := 638) (by decide +kernel), List.mem_of_getElem? (i := 748) (by decide +kernel), List.mem_of_getElem? (i := 749) (by decide +kernel)⟩
theorem lw_p11 : lw_okq (⟨"CannonStacksModel", "left", "(I)I"⟩, 19) := ⟨⟨by decide +kernel, by decide +kernel⟩, List.mem_of_getElem? (i := 638) (by decide +kernel), List.mem_of_getElem? (i := 752) (by decide +kernel), List.mem_of_getElem? (i := 753) (by decide +kernel)⟩
theorem lw_p12 : lw_okq (⟨"CannonStacksModel", "put", "(II)V"⟩, 19) := ⟨⟨by decide +kernel, by decide +kernel⟩, List.mem_of_getElem? (i := 638) (by decide +kernel), List.mem_of_getElem? (i := 759) (by decide +kernel), List.mem_of_getElem? (i := 760) (by decide +kernel)⟩
theorem lw_p13 : lw_okq (⟨"CannonStacksModel", "rustOf", "(II)I"⟩, 19) := ⟨⟨by decide +kernel, by decide +kernel⟩, List.mem_of_getElem? (i := 638) (by decide +kernel), List.mem_of_getElem? (i := 767) (by decide +kernel), List.mem_of_getElem? (i := 768) (by decide +kernel)⟩
theorem lw_p14 : lw_okq (⟨"CannonStacksModel", "on", "(II)I"⟩, 19) := ⟨⟨by decide +kernel, by decide +kernel⟩, List.mem_of_getElem? (i := 638) (by decide +kernel), List.mem_of_getElem? (i := 775) (by decide +kernel), List.mem_of_getElem? (i := 776) (by decide +kernel)⟩
theorem lw_p15 : lw_okq (⟨"CannonStacksModel", "lies", "(III)I"⟩, 19) := ⟨⟨by decide +kernel, by decide +kernel⟩, List.mem_of_getElem? (i := 638) (by decide +kernel), List.mem_of_getElem? (i := 779) (by decide +kernel), List.mem_of_getElem? (i := 780) (by decide +kernel)⟩
def lw_privs_1 : List (MethodName × Nat) := [(⟨"java/lang/Throwable", "fillInStackTrace", "(I)Ljava/lang/Throwable;"⟩, 6), (⟨"CannonStacks", "digestOfPile", "(JI)J"⟩, 6), (⟨"CannonStacks", "checkPile", "(I)V"⟩, 6), (⟨"CannonStacks", "checkCat", "(I)V"⟩, 6), (⟨"CannonStacks$Pyramid", "startOf", "(I)I"⟩, 4), (⟨"CannonStacks$Yard", "passOneDay", "()I"⟩, 8), (⟨"CannonStacks$Yard", "letJump", "(LCannonStacks$Cat;)I"⟩, 8), (⟨"CannonStacksModel", "fail", "(I)I"⟩, 19), (⟨"CannonStacksModel", "more", "(III)V"⟩, 19), (⟨"CannonStacksModel", "isPile", "(I)Z"⟩, 19), (⟨"CannonStacksModel", "of", "(II)I"⟩, 19), (⟨"CannonStacksModel", "left", "(I)I"⟩, 19), (⟨"CannonStacksModel", "put", "(II)V"⟩, 19), (⟨"CannonStacksModel", "rustOf", "(II)I"⟩, 19), (⟨"CannonStacksModel", "on", "(II)I"⟩, 19), (⟨"CannonStacksModel", "lies", "(III)I"⟩, 19)]
theorem lw_r1 : ∀ q ∈ lw_privs_1, lw_okq q := List.forall_mem_cons.mpr ⟨lw_p0, List.forall_mem_cons.mpr ⟨lw_p1, List.forall_mem_cons.mpr ⟨lw_p2, List.forall_mem_cons.mpr ⟨lw_p3, List.forall_mem_cons.mpr ⟨lw_p4, List.forall_mem_cons.mpr ⟨lw_p5, List.forall_mem_cons.mpr ⟨lw_p6, List.forall_mem_cons.mpr ⟨lw_p7, List.forall_mem_cons.mpr ⟨lw_p8, List.forall_mem_cons.mpr ⟨lw_p9, List.forall_mem_cons.mpr ⟨lw_p10, List.forall_mem_cons.mpr ⟨lw_p11, List.forall_mem_cons.mpr ⟨lw_p12, List.forall_mem_cons.mpr ⟨lw_p13, List.forall_mem_cons.mpr ⟨lw_p14, List.forall_mem_cons.mpr ⟨lw_p15, fun _ h => absurd h List.not_mem_nil⟩⟩⟩⟩⟩⟩⟩⟩⟩⟩⟩⟩⟩⟩⟩⟩
theorem lw_p16 : lw_okq (⟨"CannonStacksModel", "full", "(II)I"⟩, 19) := ⟨⟨by decide +kernel, by decide +kernel⟩, List.mem_of_getElem? (i := 638) (by decide +kernel), List.mem_of_getElem? (i := 783) (by decide +kernel), List.mem_of_getElem? (i := 784) (by decide +kernel)⟩
theorem lw_p17 : lw_okq (⟨"CannonStacksModel", "room", "(II)I"⟩, 19) := ⟨⟨by decide +kernel, by decide +kernel⟩, List.mem_of_getElem? (i := 638) (by decide +kernel), List.mem_of_getElem? (i := 787) (by decide +kernel), List.mem_of_getElem? (i := 788) (by decide +kernel)⟩
theorem lw_p18 : lw_okq (⟨"CannonStacksModel", "ballAt", "(IIII)I"⟩, 19) := ⟨⟨by decide +kernel, by decide +kernel⟩, List.mem_of_getElem? (i := 638) (by decide +kernel), List.mem_of_getElem? (i := 791) (by decide +kernel), List.mem_of_getElem? (i := 792) (by decide +kernel)⟩
theorem lw_p19 : lw_okq (⟨"CannonStacksModel", "pileTold", "(II)I"⟩, 19) := ⟨⟨by decide +kernel, by decide +kernel⟩, List.mem_of_getElem? (i := 638) (by decide +kernel), List.mem_of_getElem? (i := 816) (by decide +kernel), List.mem_of_getElem? (i := 817) (by decide +kernel)⟩
theorem lw_p20 : lw_okq (⟨"CannonStacksModel", "layers", "(II)I"⟩, 19) := ⟨⟨by decide +kernel, by decide +kernel⟩, List.mem_of_getElem? (i := 638) (by decide +kernel), List.mem_of_getElem? (i := 820) (by decide +kernel), List.mem_of_getElem? (i := 821) (by decide +kernel)⟩
theorem lw_p21 : lw_okq (⟨"CannonStacksModel", "full", "(I)I"⟩, 19) := ⟨⟨by decide +kernel, by decide +kernel⟩, List.mem_of_getElem? (i := 638) (by decide +kernel), List.mem_of_getElem? (i := 824) (by decide +kernel), List.mem_of_getElem? (i := 825) (by decide +kernel)⟩
theorem lw_p22 : lw_okq (⟨"CannonStacksModel", "rusty", "(I)I"⟩, 19) := ⟨⟨by decide +kernel, by decide +kernel⟩, List.mem_of_getElem? (i := 638) (by decide +kernel), List.mem_of_getElem? (i := 828) (by decide +kernel), List.mem_of_getElem? (i := 829) (by decide +kernel)⟩
theorem lw_p23 : lw_okq (⟨"CannonStacksModel", "calibreTold", "(II)I"⟩, 19) := ⟨⟨by decide +kernel, by decide +kernel⟩, List.mem_of_getElem? (i := 638) (by decide +kernel), List.mem_of_getElem? (i := 845) (by decide +kernel), List.mem_of_getElem? (i := 846) (by decide +kernel)⟩
theorem lw_p24 : lw_okq (⟨"CannonStacksModel", "inPiles", "(I)I"⟩, 19) := ⟨⟨by decide +kernel, by decide +kernel⟩, List.mem_of_getElem? (i := 638) (by decide +kernel), List.mem_of_getElem? (i := 849) (by decide +kernel), List.mem_of_getElem? (i := 850) (by decide +kernel)⟩
theorem lw_p25 : lw_okq (⟨"CannonStacksModel", "catTold", "(II)I"⟩, 19) := ⟨⟨by decide +kernel, by decide +kernel⟩, List.mem_of_getElem? (i := 638) (by decide +kernel), List.mem_of_getElem? (i := 857) (by decide +kernel), List.mem_of_getElem? (i := 858) (by decide +kernel)⟩
theorem lw_p26 : lw_okq (⟨"CannonStacksModel", "counted", "(I)I"⟩, 19) := ⟨⟨by decide +kernel, by decide +kernel⟩, List.mem_of_getElem? (i := 638) (by decide +kernel), List.mem_of_getElem? (i := 865) (by decide +kernel), List.mem_of_getElem? (i := 866) (by decide +kernel)⟩
theorem lw_p27 : lw_okq (⟨"CannonStacksModel", "all", "(I)I"⟩, 19) := ⟨⟨by decide +kernel, by decide +kernel⟩, List.mem_of_getElem? (i := 638) (by decide +kernel), List.mem_of_getElem? (i := 869) (by decide +kernel), List.mem_of_getElem? (i := 870) (by decide +kernel)⟩
theorem lw_p28 : lw_okq (⟨"CannonStacksModel", "dayOn", "()V"⟩, 19) := ⟨⟨by decide +kernel, by decide +kernel⟩, List.mem_of_getElem? (i := 638) (by decide +kernel), List.mem_of_getElem? (i := 885) (by decide +kernel), List.mem_of_getElem? (i := 886) (by decide +kernel)⟩
theorem lw_p29 : lw_okq (⟨"CannonStacksModel", "leap", "(I)V"⟩, 19) := ⟨⟨by decide +kernel, by decide +kernel⟩, List.mem_of_getElem? (i := 638) (by decide +kernel), List.mem_of_getElem? (i := 889) (by decide +kernel), List.mem_of_getElem? (i := 890) (by decide +kernel)⟩
theorem lw_p30 : lw_okq (⟨"CannonStacksModel", "keep", "()V"⟩, 19) := ⟨⟨by decide +kernel, by decide +kernel⟩, List.mem_of_getElem? (i := 638) (by decide +kernel), List.mem_of_getElem? (i := 897) (by decide +kernel), List.mem_of_getElem? (i := 898) (by decide +kernel)⟩
theorem lw_p31 : lw_okq (⟨"CannonStacksModel", "bringBack", "()V"⟩, 19) := ⟨⟨by decide +kernel, by decide +kernel⟩, List.mem_of_getElem? (i := 638) (by decide +kernel), List.mem_of_getElem? (i := 902) (by decide +kernel), List.mem_of_getElem? (i := 903) (by decide +kernel)⟩
def lw_privs_2 : List (MethodName × Nat) := [(⟨"CannonStacksModel", "full", "(II)I"⟩, 19), (⟨"CannonStacksModel", "room", "(II)I"⟩, 19), (⟨"CannonStacksModel", "ballAt", "(IIII)I"⟩, 19), (⟨"CannonStacksModel", "pileTold", "(II)I"⟩, 19), (⟨"CannonStacksModel", "layers", "(II)I"⟩, 19), (⟨"CannonStacksModel", "full", "(I)I"⟩, 19), (⟨"CannonStacksModel", "rusty", "(I)I"⟩, 19), (⟨"CannonStacksModel", "calibreTold", "(II)I"⟩, 19), (⟨"CannonStacksModel", "inPiles", "(I)I"⟩, 19), (⟨"CannonStacksModel", "catTold", "(II)I"⟩, 19), (⟨"CannonStacksModel", "counted", "(I)I"⟩, 19), (⟨"CannonStacksModel", "all", "(I)I"⟩, 19), (⟨"CannonStacksModel", "dayOn", "()V"⟩, 19), (⟨"CannonStacksModel", "leap", "(I)V"⟩, 19), (⟨"CannonStacksModel", "keep", "()V"⟩, 19), (⟨"CannonStacksModel", "bringBack", "()V"⟩, 19)]
theorem lw_r2 : ∀ q ∈ lw_privs_2, lw_okq q := List.forall_mem_cons.mpr ⟨lw_p16, List.forall_mem_cons.mpr ⟨lw_p17, List.forall_mem_cons.mpr ⟨lw_p18, List.forall_mem_cons.mpr ⟨lw_p19, List.forall_mem_cons.mpr ⟨lw_p20, List.forall_mem_cons.mpr ⟨lw_p21, List.forall_mem_cons.mpr ⟨lw_p22, List.forall_mem_cons.mpr ⟨lw_p23, List.forall_mem_cons.mpr ⟨lw_p24, List.forall_mem_cons.mpr ⟨lw_p25, List.forall_mem_cons.mpr ⟨lw_p26, List.forall_mem_cons.mpr ⟨lw_p27, List.forall_mem_cons.mpr ⟨lw_p28, List.forall_mem_cons.mpr ⟨lw_p29, List.forall_mem_cons.mpr ⟨lw_p30, List.forall_mem_cons.mpr ⟨lw_p31, fun _ h => absurd h List.not_mem_nil⟩⟩⟩⟩⟩⟩⟩⟩⟩⟩⟩⟩⟩⟩⟩⟩
def lw_privs : List (MethodName × Nat) := lw_privs_1 ++ (lw_privs_2)
def lw_tbl : List Cond := k2_sels lw_privs ++ tables_1
theorem lw_privs_ok : ∀ q ∈ lw_privs, lw_okq q := by
  show ∀ q ∈ lw_privs_1 ++ (lw_privs_2), lw_okq q
  exact List.forall_mem_append.mpr ⟨lw_r1, lw_r2⟩
/-- the streams that the claim lets the run draw from -/
abbrev lw_cs : List Choice := [Jvm.Choice.named "NaN.bits"]
theorem lw_bits : nanBits ∈ lw_cs := by first | decide | exact List.mem_cons_self | simp [lw_cs, nanBits]
-- ===== end of PART A; then your names; then what follows =====
end
section
/-! ===== BEGIN words of one list among another's, by their places ===== -/
theorem goodIn_r {big : List Cond} (ws : List Cond) (ps : List Nat) (hp : ws = ps.filterMap (fun i => big[i]?)) (h : ws.all goodWord = true) : GoodIn big ws := by
  intro w hw
  have h1 := List.all_eq_true.mp h w hw
  rw [hp] at hw
  obtain ⟨i, -, hi⟩ := List.mem_filterMap.mp hw
  have hm : w ∈ big := by first | exact List.mem_of_getElem? hi | exact List.getElem?_mem hi
  exact ⟨hm, good_of_word h1⟩
theorem goodIn_app {big a b : List Cond} (ha : GoodIn big a) (hb : GoodIn big b) : GoodIn big (a ++ b) := fun w h => (List.mem_append.mp h).elim (ha w) (hb w)
theorem goodIn_ca {big a b : List Cond} {c : Cond} (ha : GoodIn big (c :: a)) (hb : GoodIn big b) : GoodIn big (c :: (a ++ b)) := fun w h => (List.mem_cons.mp h).elim (fun e => ha w (List.mem_cons.mpr (Or.inl e))) (fun h => (List.mem_append.mp h).elim (fun h => ha w (List.mem_cons.mpr (Or.inr h))) (hb w))
theorem goodIn_sub {big ws : List Cond} (hm : ∀ w ∈ ws, w ∈ big) (h : ws.all goodWord = true) : GoodIn big ws := fun w hw => ⟨hm w hw, good_of_word (List.all_eq_true.mp h w hw)⟩
/-! ===== END ===== -/

/-! ===== BEGIN exceptions that leave a method, and their catching by the caller (launches without stack traces) ===== -/
section VXA
/-! The laws vx_back, vx_callV, vx_callS, vx_callSW, vx_throw0, vx_throwS follow proofs of the library, with one case more: JvmDerived/Free/Laws.lean (Back.of_free), Shelf42/LK1.lean (callV, callS), Shelf/KitTraced.lean (throwNew0V, throwNewS). -/
/-- where a method has thrown q: the class by its name, the cell, what was written, the world -/
def vx_T (XC : String → State → State → Prop) (st : State) (q : Addr) (t : State) (mc ms : Nat) (free : Addr → Prop) : Prop :=
  ∃ (E : String) (ce : Cell) (L : List Loc), XC E st t ∧ t.heap[q]? = some ce ∧ ce.vm = .none ∧ st.vm.findClass E = some ce.cls ∧ st.WarmedH t.vm ∧ st.sameButNew ({ t with vm := st.vm } : State) L mc ms ∧ ∀ z ∈ L, free z.base
def vx_Q (Qc : Array Value → State → Outcome → State → Prop) (XC : String → State → State → Prop) (mc ms : Nat) (free : Addr → Prop) : Array Value → State → Outcome → State → Prop := fun a st o t =>
  (Qc a st o t ∧ ∃ L, FrameEnd st o t L mc ms ∧ ∀ q ∈ L, free q.base) ∨ ∃ q, o = .threw q ∧ vx_T XC st q t mc ms free
/-- a callee that returns or throws -/
def vx_Met (l : Launch) (y : MethodName) (ws : List Cond) (rm : Room) (Pc : Array Value → State → Prop) (Qc : Array Value → State → Outcome → State → Prop) (XC : String → State → State → Prop) (mc ms : Nat) (free : Addr → Prop) : Prop :=
  MetFree l y (headSpec ws rm) Pc (fun _ _ _ _ _ => True) (vx_Q Qc XC mc ms free)
def vx_Post (XC : String → State → State → Prop) (mc ms : Nat) (free : Addr → Prop) : Pt → Array Value → Addr → Pt → Prop := fun A a q B =>
  ∃ (g : JFrame) (mk : MethodId) (t : State) (L : List Loc) (E : String) (ce : Cell), B.U.heap = t.heap ∧ B.U.vm = t.vm ∧ XC E (A.U.calling g mk a) t ∧ t.heap[q]? = some ce ∧ ce.vm = .none ∧ A.U.vm.findClass E = some ce.cls ∧ B.locs = A.locs ++ L ∧ (∀ z ∈ L, free z.base) ∧ B.cells = A.cells + mc ∧ B.slots = A.slots + ms
def vx_Back (l : Launch) (R : Room) (p : Program) (e : Env) (below : List Frame) (s : State) (sargs : Array Value) (y : MethodName) (len W9 : Nat)
    (Pre : Pt → Array Value → Prop) (Post : Pt → Array Value → Option Value → Pt → Prop) (PostX : Pt → Array Value → Addr → Pt → Prop) : Prop :=
  ∀ (m : MethodId) (meth : Method) (c : Code) (A : Pt) (g : JFrame) (ig : Instr) (mk : MethodId) (a : Array Value),
    Stand p l e R s m sargs below meth c A.U A.locs A.cells A.slots → g.method = m → g.locals.size = c.maxLocals → decode c.code g.pc = .ok (ig, len) →
    2 * g.monitorRoom + (g.stack.map fun v => v.category).sum ≤ W9 → A.U.methodNamed? y = some mk → Pre A a →
    (∃ (v : Option Value) (B : Pt), Stand p l e R s m sargs below meth c B.U B.locs B.cells B.slots ∧ Post A a v B ∧
      Steps p.tables e below (doInvoke e (A.U.setTop g) [] mk a).1 (B.U.setTop { g with pc := g.pc + len, stack := v.toList ++ g.stack })) ∨
    (∃ (q : Addr) (B : Pt), Stand p l e R s m sargs below meth c B.U B.locs B.cells B.slots ∧ PostX A a q B ∧
      Steps p.tables e below (doInvoke e (A.U.setTop g) [] mk a).1 ((B.U.setTop g).pushFrame (.throwing q)))
section Payer
variable {l : Launch} {R : Room} {p : Program} {e : Env} {below : List Frame} {s : State} {sargs : Array Value} {y : MethodName} {len W9 : Nat}
theorem vx_back {ws : List Cond} {rm : Room} {Pc : Array Value → State → Prop} {Qc : Array Value → State → Outcome → State → Prop} {XC : String → State → State → Prop} {mc ms : Nat} {free : Addr → Prop} {bytes : ByteArray} {maxL : Nat} {ret : Option FieldType}
    (hM : vx_Met l y ws rm Pc Qc XC mc ms free) (hblind : FrameBlind Pc) (hrc : rm.cells = mc) (hrs : rm.slots = ms)
    (hframes : rm.frames + 1 ≤ R.frames) (hlocals : W9 + (maxL + 11) + rm.locals ≤ R.locals)
    (hws : ∀ w ∈ ws, ∀ a' U, s.WarmedH U.vm → w.before a' U = true) (hcode : Cond.code y bytes maxL ret ∈ ws) (hinit : ∀ a' U, s.WarmedH U.vm → (Cond.initialized y.cls).before a' U = true) :
    vx_Back l R p e below s sargs y len W9 (PreOf R mc ms Pc) (PostOf Qc mc ms free) (vx_Post XC mc ms free) := by
  intro m meth c A g ig mk a X hg hsize hdg hW hn hp
  have h1 : (headSpec ws rm).pre.before a A.U = true := atoms_intro fun w hw => hws w hw _ _ X.warmed
  have h2 : (Cond.code y bytes maxL ret).before a A.U = true := hws _ hcode _ _ X.warmed
  have h3 : (Cond.initialized y.cls).before a A.U = true := hinit _ _ X.warmed
  have h4 : A.cells + (headSpec ws rm).room.cells ≤ R.cells := by rw [show (headSpec ws rm).room.cells = mc from hrc]; exact hp.1
  have h5 : A.slots + (headSpec ws rm).room.slots ≤ R.slots := by rw [show (headSpec ws rm).room.slots = ms from hrs]; exact hp.2.1
  have hPc : Pc a (A.U.calling g mk a) := hblind _ _ _ _ hp.2.2
  obtain ⟨U, Ls, c0, s0⟩ := A
  dsimp only [Pt.U, Pt.locs, Pt.cells, Pt.slots] at h1 h2 h3 h4 h5 X hn hPc ⊢
  obtain ⟨methY, cY, hmY, hcY, -, hlY, -, -, -, -⟩ := Cond.code_spec hn h2
  obtain ⟨kY, hkY, -⟩ := className_of_methodNamed hn
  have hinitY : kY.init = .initialized := Cond.initialized_spec (findClass_of_methodNamed hn) hkY h3
  have h : At U g.method c below := by rw [hg]; exact X.here
  have hlocals9 : W9 + (maxL + 11) + (headSpec ws rm).room.locals ≤ R.locals := hlocals
  have happ : (headSpec ws rm).appliesLoose y e.platform (U.calling g mk a) = true :=
    Spec.appliesLoose_calling (g := g) h hdg hn hkY hinitY
      (X.room_calling (g := g) (R' := (headSpec ws rm).room) hsize hmY hcY hframes (by rw [hlY]; omega) h4 h5) h1
  obtain ⟨mid, hmid⟩ := h.above
  have hfr : (U.setTop g).frames = (.java g :: mid) ++ below := by rw [State.frames_setTop' g h.top, hmid]; rfl
  obtain ⟨o, s₂, hsteps, -, hend, hq⟩ := Steps.callFree hM p X.admits X.cas X.clock (acts := []) hfr happ hPc trivial
  have hq' : vx_Q Qc XC mc ms free a (U.calling g mk a) o s₂ := hq
  rw [State.frames_setTop' g h.top] at hend
  obtain ⟨g₀, hg0⟩ := Option.isSome_iff_exists.mp h.top
  obtain ⟨r, hr⟩ := State.topJava?_eq_some.mp hg0
  have hr' : (({ U with heap := s₂.heap, slotsUsed := s₂.slotsUsed } : State).setVm s₂.vm).frames = .java g₀ :: r := hr
  rcases hq' with ⟨hqc, L, hfe, hL⟩ | ⟨q, rfl, E, ce, L, hx, hce, hcv, hcl, hW₂, hsm, hL⟩
  · obtain ⟨⟨v, rfl⟩, hW₂, e2, q2, q3, q4, q5, q6⟩ := id hfe
    have e3 : s₂ = ({ (U.calling g mk a).setFrames s₂.frames with heap := s₂.heap, slotsUsed := s₂.slotsUsed } : State).setVm s₂.vm := by
      have : s₂ = ({ s₂ with vm := (U.calling g mk a).vm } : State).setVm s₂.vm := rfl
      rw [e2] at this
      exact this
    obtain ⟨c₂, i₂, len₂, hc₂, hd₂, hf₂⟩ := hend
    have hW' : U.WarmedH s₂.vm := hW₂
    have hcc : c₂ = c := by
      have h1 : s₂.code? g.method = U.code? g.method := by
        rw [State.code?_eq, State.code?_eq, hW'.alike.method?]
      exact Option.some.inj (hc₂.symm.trans (h1.trans h.code))
    subst hcc
    have hlen : len₂ = len := by rw [hdg] at hd₂; cases hd₂; rfl
    subst hlen
    have hs₂ : s₂ = (({ U with heap := s₂.heap, slotsUsed := s₂.slotsUsed } : State).setVm s₂.vm).setTop { g with pc := g.pc + len₂, stack := v.toList ++ g.stack } := by
      refine e3.trans ?_
      rw [hf₂, State.calling_eq h.top, State.setFrames_setFrames, State.setTop_of_frames _ hr', hr]
      rfl
    have hsame : U.sameButNew ({ U with heap := s₂.heap, slotsUsed := s₂.slotsUsed } : State) L mc ms := by
      refine ⟨?_, q2, q3, q4, q5, q6⟩
      obtain ⟨t, ht, -⟩ := State.frames_cons hr
      show ({ U with heap := s₂.heap, slotsUsed := s₂.slotsUsed } : State) = { U.setFrames U.frames with heap := s₂.heap, slotsUsed := s₂.slotsUsed }
      rw [State.setFrames_self ht]
    subst hg
    refine Or.inl ⟨v, ⟨(({ U with heap := s₂.heap, slotsUsed := s₂.slotsUsed } : State).setVm s₂.vm), Ls ++ L, c0 + mc, s0 + ms⟩,
      ⟨X.admits, X.cas, X.clock, X.frames, X.room, X.hears, X.method, X.code, (X.here.setHeapUsed s₂.heap s₂.slotsUsed).setVm hW'.alike, X.tail, State.WarmedH.trans X.warmed hW', X.limits, X.bytes, X.same.trans (hsame.setVm s.vm)⟩,
      ⟨g, mk, s₂, L, rfl, rfl, hqc, rfl, hL, rfl, rfl⟩, ?_⟩
    show Steps p.tables e below _ ((({ U with heap := s₂.heap, slotsUsed := s₂.slotsUsed } : State).setVm s₂.vm).setTop { g with pc := g.pc + len₂, stack := v.toList ++ g.stack })
    rw [← hs₂]
    exact hsteps
  · obtain ⟨e2, q2, q3, q4, q5, q6⟩ := id hsm
    have e3 : s₂ = ({ (U.calling g mk a).setFrames s₂.frames with heap := s₂.heap, slotsUsed := s₂.slotsUsed } : State).setVm s₂.vm := by
      have : s₂ = ({ s₂ with vm := (U.calling g mk a).vm } : State).setVm s₂.vm := rfl
      rw [e2] at this
      exact this
    have hf₂ : s₂.frames = .throwing q :: .java g :: U.frames.tail := hend
    have hW' : U.WarmedH s₂.vm := hW₂
    have hs₂ : s₂ = ((({ U with heap := s₂.heap, slotsUsed := s₂.slotsUsed } : State).setVm s₂.vm).setTop g).pushFrame (.throwing q) := by
      refine e3.trans ?_
      rw [hf₂, State.calling_eq h.top, State.setFrames_setFrames, State.pushFrame, State.frames_setTop _ hr', State.setTop_of_frames _ hr', State.setFrames_setFrames, hr]
      rfl
    have hsame : U.sameButNew ({ U with heap := s₂.heap, slotsUsed := s₂.slotsUsed } : State) L mc ms := by
      refine ⟨?_, q2, q3, q4, q5, q6⟩
      obtain ⟨t, ht, -⟩ := State.frames_cons hr
      show ({ U with heap := s₂.heap, slotsUsed := s₂.slotsUsed } : State) = { U.setFrames U.frames with heap := s₂.heap, slotsUsed := s₂.slotsUsed }
      rw [State.setFrames_self ht]
    subst hg
    refine Or.inr ⟨q, ⟨(({ U with heap := s₂.heap, slotsUsed := s₂.slotsUsed } : State).setVm s₂.vm), Ls ++ L, c0 + mc, s0 + ms⟩,
      ⟨X.admits, X.cas, X.clock, X.frames, X.room, X.hears, X.method, X.code, (X.here.setHeapUsed s₂.heap s₂.slotsUsed).setVm hW'.alike, X.tail, State.WarmedH.trans X.warmed hW', X.limits, X.bytes, X.same.trans (hsame.setVm s.vm)⟩,
      ⟨g, mk, s₂, L, E, ce, rfl, rfl, hx, hce, hcv, hcl, rfl, hL, rfl, rfl⟩, ?_⟩
    show Steps p.tables e below _ (((({ U with heap := s₂.heap, slotsUsed := s₂.slotsUsed } : State).setVm s₂.vm).setTop g).pushFrame (.throwing q))
    rw [← hs₂]
    exact hsteps
end Payer
section Calls
variable {p : Program} {l : Launch} {e : Env} {R : Room} {s : State} {m : MethodId} {args : Array Value} {below : List Frame} {meth : Method} {c : Code} {T : State} {locs : List Loc} {cells slots : Nat}
theorem vx_callV (X : Stand p l e R s m args below meth c T locs cells slots) (hexec : p.tables.exec = Jvm.exec) {own C : String} {index : Nat} {y : MethodName} {bytes : ByteArray} {maxL : Nat} {ret : Option FieldType}
    (hown : s.vm.findClass own = some m.cls) (hlink : (Cond.methodLink own index y).before args s = true) (hinst : (Cond.instanceMethod y).before args s = true) (hsel : (Cond.selects C y y).before args s = true)
    (hcode : (Cond.code y bytes maxL ret).before args s = true) (hy : y.cls ≠ "java/lang/invoke/MethodHandle" ∧ y.cls ≠ "java/lang/invoke/VarHandle")
    {W9 : Nat} {Pre : Pt → Array Value → Prop} {Post : Pt → Array Value → Option Value → Pt → Prop} {PostX : Pt → Array Value → Addr → Pt → Prop} (hK : vx_Back l R p e below s args y 3 W9 Pre Post PostX)
    {b : Addr} {cellB : Cell} (hcell : T.heap[b]? = some cellB) (hobj : cellB.vm.isStatics = false) (hcls : s.vm.findClass C = some cellB.cls)
    {g : JFrame} (hg : g.method = m) (hsize : g.locals.size = c.maxLocals) {argsL rest : List Value} (hlen : ∀ sig, parseMethodDescriptor y.desc = some sig → argsL.length = sig.parameters.length)
    (hstack : g.stack = argsL.reverse ++ .ref b :: rest) (hW : 2 * g.monitorRoom + (rest.map fun v => v.category).sum ≤ W9) (hdg : decode c.code g.pc = .ok (.invokevirtual index, 3))
    (hpre : ∀ vm₁, s.WarmedH vm₁ → Pre ⟨T.setVm vm₁, locs, cells, slots⟩ (Value.ref b :: argsL).toArray) :
    (∃ (v : Option Value) (vm₁ : Vm) (B : Pt), s.WarmedH vm₁ ∧ Stand p l e R s m args below meth c B.U B.locs B.cells B.slots ∧ Post ⟨T.setVm vm₁, locs, cells, slots⟩ (Value.ref b :: argsL).toArray v B ∧
      ∀ target, Steps p.tables e below (B.U.setTop { g with pc := g.pc + 3, stack := v.toList ++ rest }) target → Steps p.tables e below (T.setTop g) target) ∨
    (∃ (q : Addr) (vm₁ : Vm) (B : Pt), s.WarmedH vm₁ ∧ Stand p l e R s m args below meth c B.U B.locs B.cells B.slots ∧ PostX ⟨T.setVm vm₁, locs, cells, slots⟩ (Value.ref b :: argsL).toArray q B ∧
      Steps p.tables e below (T.setTop g) ((B.U.setTop { g with stack := rest }).pushFrame (.throwing q))) := by
  obtain ⟨mk, methM, hnamed, hmethM, hstM, habM⟩ := Cond.instanceMethod_spec hinst
  obtain ⟨methM', cM, hmethM', -, -, -, -, -, -, hsigM⟩ := Cond.code_spec hnamed hcode
  cases hmethM.symm.trans hmethM'
  obtain ⟨c2, r2, m2, q1, q2, q3, q4, kP, hkP, hkPi⟩ := Cond.selects_spec hsel
  cases hcls.symm.trans q1
  cases (State.methodFound?_of_named hnamed hy).symm.trans q2
  cases hnamed.symm.trans q3
  have hselP : selectMethod e.platform s.vm cellB.cls mk = .method mk := by rw [Launch.admits_selectMethod X.admits]; exact q4
  obtain ⟨vm₁, X₁, hstep₁⟩ := X.invokevirtual hexec hown hlink hnamed hmethM hstM hkP hkPi hy (a := b) (cell := cellB) hcell
    (fun z h => by rw [h] at hobj; cases hobj) hselP hmethM habM hkP hkPi (g := g) hg (argsL := argsL) (rest := rest) (hlen _ hsigM) hstack hdg
  rcases hK m meth c ⟨T.setVm vm₁, locs, cells, slots⟩ { g with stack := rest } (.invokevirtual index) mk (Value.ref b :: argsL).toArray X₁ hg hsize hdg hW (X₁.named hnamed) (hpre vm₁ X₁.warmed) with ⟨v, B, X', hpost, hsteps⟩ | ⟨q, B, X', hpost, hsteps⟩
  · exact Or.inl ⟨v, vm₁, B, X₁.warmed, X', hpost, fun target h => hstep₁ _ fun acts => by rw [doInvoke_state]; exact hsteps.trans h⟩
  · exact Or.inr ⟨q, vm₁, B, X₁.warmed, X', hpost, hstep₁ _ fun acts => by rw [doInvoke_state]; exact hsteps⟩
theorem vx_callS (X : Stand p l e R s m args below meth c T locs cells slots) (hexec : p.tables.exec = Jvm.exec) {own : String} {index : Nat} {y : MethodName} {bytes : ByteArray} {maxL : Nat} {ret : Option FieldType}
    (hown : s.vm.findClass own = some m.cls) (hlink : (Cond.methodLink own index y).before args s = true) (hstat : (Cond.static y).before args s = true) (hinit : (Cond.initialized y.cls).before args s = true)
    (hcode : (Cond.code y bytes maxL ret).before args s = true) (hy : y.cls ≠ "java/lang/invoke/MethodHandle" ∧ y.cls ≠ "java/lang/invoke/VarHandle")
    {W9 : Nat} {Pre : Pt → Array Value → Prop} {Post : Pt → Array Value → Option Value → Pt → Prop} {PostX : Pt → Array Value → Addr → Pt → Prop} (hK : vx_Back l R p e below s args y 3 W9 Pre Post PostX)
    {g : JFrame} (hg : g.method = m) (hsize : g.locals.size = c.maxLocals) {argsL rest : List Value} (hlen : ∀ sig, parseMethodDescriptor y.desc = some sig → argsL.length = sig.parameters.length)
    (hstack : g.stack = argsL.reverse ++ rest) (hW : 2 * g.monitorRoom + (rest.map fun v => v.category).sum ≤ W9) (hdg : decode c.code g.pc = .ok (.invokestatic index, 3))
    (hpre : ∀ vm₁, s.WarmedH vm₁ → Pre ⟨T.setVm vm₁, locs, cells, slots⟩ argsL.toArray) :
    (∃ (v : Option Value) (vm₁ : Vm) (B : Pt), s.WarmedH vm₁ ∧ Stand p l e R s m args below meth c B.U B.locs B.cells B.slots ∧ Post ⟨T.setVm vm₁, locs, cells, slots⟩ argsL.toArray v B ∧
      ∀ target, Steps p.tables e below (B.U.setTop { g with pc := g.pc + 3, stack := v.toList ++ rest }) target → Steps p.tables e below (T.setTop g) target) ∨
    (∃ (q : Addr) (vm₁ : Vm) (B : Pt), s.WarmedH vm₁ ∧ Stand p l e R s m args below meth c B.U B.locs B.cells B.slots ∧ PostX ⟨T.setVm vm₁, locs, cells, slots⟩ argsL.toArray q B ∧
      Steps p.tables e below (T.setTop g) ((B.U.setTop { g with stack := rest }).pushFrame (.throwing q))) := by
  obtain ⟨mk, hnamed⟩ := Cond.code_named hcode
  obtain ⟨methM, cM, hmethM, -, -, -, -, -, -, hsigM⟩ := Cond.code_spec hnamed hcode
  have hstatic : methM.isStatic = true := Cond.static_spec hnamed hmethM hstat
  obtain ⟨kP, hkP, -⟩ := className_of_methodNamed hnamed
  have hinitP : kP.init = .initialized := Cond.initialized_spec (findClass_of_methodNamed hnamed) hkP hinit
  obtain ⟨vm₁, X₁, hstep₁⟩ := X.invokestatic hexec hown hlink hnamed hmethM hstatic hkP hinitP hy (g := g) hg (argsL := argsL) (rest := rest) (hlen _ hsigM) hstack hdg
  rcases hK m meth c ⟨T.setVm vm₁, locs, cells, slots⟩ { g with stack := rest } (.invokestatic index) mk argsL.toArray X₁ hg hsize hdg hW (X₁.named hnamed) (hpre vm₁ X₁.warmed) with ⟨v, B, X', hpost, hsteps⟩ | ⟨q, B, X', hpost, hsteps⟩
  · exact Or.inl ⟨v, vm₁, B, X₁.warmed, X', hpost, fun target h => hstep₁ _ fun acts => by rw [doInvoke_state]; exact hsteps.trans h⟩
  · exact Or.inr ⟨q, vm₁, B, X₁.warmed, X', hpost, hstep₁ _ fun acts => by rw [doInvoke_state]; exact hsteps⟩
end Calls
theorem vx_cls {s : State} {T : State} {vm₁ : Vm} {E : String} {k : ClassId} (hW : s.WarmedH vm₁) (h : (T.setVm vm₁).vm.findClass E = some k) : s.vm.findClass E = some k := by
  have h1 : vm₁.findClass E = some k := h
  rw [hW.alike.findClass] at h1
  exact h1
/-- the method's frame g, with q thrown over it -/
def vx_W (p : Program) (l : Launch) (e : Env) (R : Room) (s : State) (m : MethodId) (args : Array Value) (below : List Frame) (meth : Method) (c : Code) (H : Heap) (locs : List Loc) (cells slots : Nat) (Q : State → Prop) (g : JFrame) (q : Addr) : Prop :=
  ∀ T : State, T.heap = H → Stand p l e R s m args below meth c T locs cells slots → ∃ t, Steps p.tables e below ((T.setTop g).pushFrame (.throwing q)) t ∧ Q t
def vx_Run (p : Program) (l : Launch) (e : Env) (R : Room) (s : State) (m : MethodId) (args : Array Value) (below : List Frame) (meth : Method) (c : Code) (H : Heap) (locs : List Loc) (cells slots mc ms : Nat) (g : JFrame) (rest : List Value) (Qa : State → Outcome → State → Prop) (XC : String → State → State → Prop) (free : Addr → Prop) : Prop :=
  ∀ T : State, T.heap = H → Stand p l e R s m args below meth c T locs cells slots →
    (∃ (v : Option Value) (st₀ t T' : State) (L : List Loc), st₀.heap = H ∧ Stand p l e R s m args below meth c T' (locs ++ L) (cells + mc) (slots + ms) ∧ (∀ q ∈ L, free q.base) ∧ T'.heap = t.heap ∧ T'.vm = t.vm ∧ Qa st₀ (.returned v) t ∧
      Goes p e below T g T' { g with pc := g.pc + 3, stack := v.toList ++ rest }) ∨
    (∃ (q : Addr) (st₀ t T' : State) (L : List Loc) (E : String) (ce : Cell), st₀.heap = H ∧ Stand p l e R s m args below meth c T' (locs ++ L) (cells + mc) (slots + ms) ∧ (∀ z ∈ L, free z.base) ∧ T'.heap = t.heap ∧ T'.vm = t.vm ∧ XC E st₀ t ∧ t.heap[q]? = some ce ∧ ce.vm = .none ∧ s.vm.findClass E = some ce.cls ∧
      Steps p.tables e below (T.setTop g) ((T'.setTop { g with stack := rest }).pushFrame (.throwing q)))
def vx_X {S : Type} (px : S → Prop) (B : String → S → State → Prop) (A : Nat → Prop) : String → State → State → Prop := fun E st t => ∃ u : S, px u ∧ B E u t ∧ va_F A st t
section Runs
variable {p : Program} {l : Launch} {e : Env} {R : Room} {s : State} {m : MethodId} {args : Array Value} {below : List Frame} {meth : Method} {c : Code} {H : Heap} {locs : List Loc} {cells slots : Nat}
variable {y : MethodName} {bytes cc : ByteArray} {maxL nL mc ms n index : Nat} {ret : Option FieldType} {ws : List Cond} {rm : Room} {Pc : Array Value → State → Prop} {Qc : Array Value → State → Outcome → State → Prop} {XC : String → State → State → Prop} {free : Addr → Prop} {Ts : List Cond} {own C : String} {b : Addr} {As rest : List Value} {g : JFrame}
theorem vx_callBack (cb : CallB R s args own index y bytes maxL ret ws rm mc ms n) (hM : vx_Met l y ws rm Pc Qc XC mc ms free) (hbl : FrameBlind Pc) : vx_Back l R p e below s args y 3 8 (PreOf R mc ms Pc) (PostOf Qc mc ms free) (vx_Post XC mc ms free) := by
  obtain ⟨hrc, hrs, hfr, hlo, hws, hcw, -, hini, -⟩ := cb
  exact vx_back (bytes := bytes) (maxL := maxL) (ret := ret) hM hbl hrc hrs hfr hlo hws hcw (fun a' U hW => word_at hW (Or.inl (by first | rfl | simp [Cond.onTables, Cond.keeps, Cond.steady])) hini)
theorem vx_runV (S : CallFix p m c cc nL s args Ts own) (hM : vx_Met l y ws rm Pc Qc XC mc ms free) (cw : CallW R s args own C index y bytes maxL ret ws rm mc ms n) (hp : PreV s H C b Pc As)
    (hg : g.method = m) (hn : As.length = n) (hsize : g.locals.size = nL) (hstack : g.stack = As.reverse ++ .ref b :: rest) (hW : 2 * g.monitorRoom + (rest.map fun v => v.category).sum ≤ 8) (hdg : decode cc g.pc = .ok (.invokevirtual index, 3)) (hf : cells + mc ≤ R.cells ∧ slots + ms ≤ R.slots) :
    vx_Run p l e R s m args below meth c H locs cells slots mc ms g rest (Qc (Value.ref b :: As).toArray) XC free := by
  have hK : vx_Back l R p e below s args y 3 8 (PreOf R mc ms Pc) (PostOf Qc mc ms free) (vx_Post XC mc ms free) := vx_callBack cw.1 hM hp.1
  obtain ⟨⟨-, -, -, -, -, -, hcode, -, hy, hlen, hl⟩, hin, hse⟩ := cw
  obtain ⟨hx, hb, hml, ho, -⟩ := S
  obtain ⟨-, ⟨cellB, hcB, hoB, hclB⟩, hPc⟩ := hp
  intro T hT X
  rcases vx_callV X hx (C := C) (bytes := bytes) (maxL := maxL) (ret := ret) ho hl hin hse hcode hy hK (by rw [hT]; exact hcB) hoB hclB hg (hsize.trans hml.symm) (argsL := As) (rest := rest) (fun sig h => hn.trans (hlen sig h)) hstack hW (by rw [hb]; exact hdg)
    (fun vm₁ hW₁ => ⟨hf.1, hf.2, hPc (T.setVm vm₁) hT hW₁⟩) with ⟨v, vm₁, ⟨U', l2, c2, s2⟩, hW₁, X', ⟨g', mk, t, L, e1, e2, hq, h1, hL, h2, h3⟩, st⟩ | ⟨q, vm₁, ⟨U', l2, c2, s2⟩, hW₁, X', ⟨g', mk, t, L, E, ce, e1, e2, hq, hce, hcv, hcl, h1, hL, h2, h3⟩, st⟩
  · dsimp only [Pt.U, Pt.locs, Pt.cells, Pt.slots] at X' e1 e2 h1 h2 h3 st
    subst h1; subst h2; subst h3
    exact Or.inl ⟨v, (T.setVm vm₁).calling g' mk (Value.ref b :: As).toArray, t, U', L, hT, X', hL, e1, e2, hq, st⟩
  · dsimp only [Pt.U, Pt.locs, Pt.cells, Pt.slots] at X' e1 e2 h1 h2 h3 st hcl
    subst h1; subst h2; subst h3
    exact Or.inr ⟨q, (T.setVm vm₁).calling g' mk (Value.ref b :: As).toArray, t, U', L, E, ce, hT, X', hL, e1, e2, hq, hce, hcv, vx_cls hW₁ hcl, st⟩
theorem vx_runS (S : CallFix p m c cc nL s args Ts own) (hM : vx_Met l y ws rm Pc Qc XC mc ms free) (cw : CallB R s args own index y bytes maxL ret ws rm mc ms n ∧ (Cond.static y).before args s = true) (hp : PreS s H Pc As)
    (hg : g.method = m) (hn : As.length = n) (hsize : g.locals.size = nL) (hstack : g.stack = As.reverse ++ rest) (hW : 2 * g.monitorRoom + (rest.map fun v => v.category).sum ≤ 8) (hdg : decode cc g.pc = .ok (.invokestatic index, 3)) (hf : cells + mc ≤ R.cells ∧ slots + ms ≤ R.slots) :
    vx_Run p l e R s m args below meth c H locs cells slots mc ms g rest (Qc As.toArray) XC free := by
  have hK : vx_Back l R p e below s args y 3 8 (PreOf R mc ms Pc) (PostOf Qc mc ms free) (vx_Post XC mc ms free) := vx_callBack cw.1 hM hp.1
  obtain ⟨⟨-, -, -, -, -, -, hcode, hini, hy, hlen, hl⟩, hstt⟩ := cw
  obtain ⟨hx, hb, hml, ho, -⟩ := S
  intro T hT X
  rcases vx_callS X hx (bytes := bytes) (maxL := maxL) (ret := ret) ho hl hstt hini hcode hy hK hg (hsize.trans hml.symm) (argsL := As) (rest := rest) (fun sig h => hn.trans (hlen sig h)) hstack hW (by rw [hb]; exact hdg)
    (fun vm₁ hW₁ => ⟨hf.1, hf.2, hp.2 (T.setVm vm₁) hT hW₁⟩) with ⟨v, vm₁, ⟨U', l2, c2, s2⟩, hW₁, X', ⟨g', mk, t, L, e1, e2, hq, h1, hL, h2, h3⟩, st⟩ | ⟨q, vm₁, ⟨U', l2, c2, s2⟩, hW₁, X', ⟨g', mk, t, L, E, ce, e1, e2, hq, hce, hcv, hcl, h1, hL, h2, h3⟩, st⟩
  · dsimp only [Pt.U, Pt.locs, Pt.cells, Pt.slots] at X' e1 e2 h1 h2 h3 st
    subst h1; subst h2; subst h3
    exact Or.inl ⟨v, (T.setVm vm₁).calling g' mk As.toArray, t, U', L, hT, X', hL, e1, e2, hq, st⟩
  · dsimp only [Pt.U, Pt.locs, Pt.cells, Pt.slots] at X' e1 e2 h1 h2 h3 st hcl
    subst h1; subst h2; subst h3
    exact Or.inr ⟨q, (T.setVm vm₁).calling g' mk As.toArray, t, U', L, E, ce, hT, X', hL, e1, e2, hq, hce, hcv, vx_cls hW₁ hcl, st⟩
end Runs
section Rows
variable {p : Program} {l : Launch} {e : Env} {R : Room} {s : State} {m : MethodId} {args : Array Value} {below : List Frame} {meth : Method} {c : Code} {H : Heap} {locs : List Loc} {cells slots : Nat} {Q : State → Prop}
variable {mc ms : Nat} {free : Addr → Prop} {A0 A1 : Nat → Prop} {H0 : Heap} {a : Array Value} {pc : Nat} {ls : Array Slot} {st0 rest : List Value}
theorem vx_keep {st₀ t T' : State} {L : List Loc} (h0 : st₀.heap = H) (e1 : T'.heap = t.heap) (hS : va_S A0 H0 H locs) (hA : ∀ q, q < H.size → A1 q → A0 q) (hf : ∀ q, free q → A0 q) (hL : ∀ q ∈ L, free q.base) (hF : va_F A1 st₀ t) :
    H.size ≤ T'.heap.size ∧ (∀ q : Nat, q < H.size → ¬ A1 q → T'.heap[q]? = H[q]?) ∧ va_S A0 H0 T'.heap (locs ++ L) := by
  obtain ⟨hz, hk⟩ := hF
  rw [h0] at hz hk
  exact ⟨by rw [e1]; exact hz, fun q h1 h2 => by rw [e1]; exact hk q h1 h2,
    ⟨Nat.le_trans hS.1 (by rw [e1]; exact hz), fun q h1 h2 => by rw [e1, hk q (Nat.lt_of_lt_of_le h1 hS.1) (fun z => h2 (hA q (Nat.lt_of_lt_of_le h1 hS.1) z))]; exact hS.2.1 q h1 h2, fun q hq => by
      rcases List.mem_append.mp hq with h | h
      · exact hS.2.2 q h
      · exact hf _ (hL q h)⟩⟩
theorem vx_calli {S SX : Type} {post : Int32 → S → Prop} {px : SX → Prop} {B : S → State → Prop} {BX : String → SX → State → Prop} {AX : Nat → Prop} (hr : vx_Run p l e R s m args below meth c H locs cells slots mc ms (F0 m pc ls st0) rest (va_Qi post B A1 a) (vx_X px BX AX) free) (hS : va_S A0 H0 H locs) (hA : ∀ q, q < H.size → A1 q → A0 q) (hf : ∀ q, free q → A0 q) (hAX : ∀ q, q < H.size → AX q → A0 q)
    (kx : ∀ (E : String) (ce : Cell) (q9 : Addr) (u : SX) (t : State) (H1 : Heap) (locs1 : List Loc), t.heap = H1 → s.vm.Alike t.vm → px u → BX E u t → H.size ≤ H1.size → (∀ q : Nat, q < H.size → ¬ AX q → H1[q]? = H[q]?) → va_S A0 H0 H1 locs1 → H1[q9]? = some ce → ce.vm = .none → s.vm.findClass E = some ce.cls → vx_W p l e R s m args below meth c H1 locs1 (cells + mc) (slots + ms) Q (F0 m pc ls rest) q9)
    (kk : ∀ (r : Int32) (u : S) (t : State) (H1 : Heap) (locs1 : List Loc), t.heap = H1 → s.vm.Alike t.vm → post r u → B u t → H.size ≤ H1.size → (∀ q : Nat, q < H.size → ¬ A1 q → H1[q]? = H[q]?) → va_S A0 H0 H1 locs1 → W p l e R s m args below meth c H1 locs1 (cells + mc) (slots + ms) Q (F0 m (pc + 3) ls (.int r :: rest))) : W p l e R s m args below meth c H locs cells slots Q (F0 m pc ls st0) := by
  intro T hT X
  rcases hr T hT X with ⟨v, st₀, t, T', L, h0, X', hL, e1, e2, ⟨⟨r, u, hv, hp, hb⟩, hF⟩, st⟩ | ⟨q, st₀, t, T', L, E, ce, h0, X', hL, e1, e2, ⟨u, hp, hb, hF⟩, hce, hcv, hcl, st⟩
  · cases hv
    obtain ⟨k1, k2, k3⟩ := vx_keep h0 e1 hS hA hf hL hF
    obtain ⟨t2, a1, b1⟩ := kk r u t T'.heap (locs ++ L) e1.symm (by rw [← e2]; exact X'.warmed.alike) hp hb k1 k2 k3 T' rfl X'
    exact ⟨t2, st t2 a1, b1⟩
  · obtain ⟨k1, k2, k3⟩ := vx_keep h0 e1 hS hAX hf hL hF
    obtain ⟨t2, a1, b1⟩ := kx E ce q u t T'.heap (locs ++ L) e1.symm (by rw [← e2]; exact X'.warmed.alike) hp hb k1 k2 k3 (by rw [e1]; exact hce) hcv hcl T' rfl X'
    exact ⟨t2, st.trans a1, b1⟩
theorem vx_calll {S SX : Type} {post : Int64 → S → Prop} {px : SX → Prop} {B : S → State → Prop} {BX : String → SX → State → Prop} {AX : Nat → Prop} (hr : vx_Run p l e R s m args below meth c H locs cells slots mc ms (F0 m pc ls st0) rest (va_Ql post B A1 a) (vx_X px BX AX) free) (hS : va_S A0 H0 H locs) (hA : ∀ q, q < H.size → A1 q → A0 q) (hf : ∀ q, free q → A0 q) (hAX : ∀ q, q < H.size → AX q → A0 q)
    (kx : ∀ (E : String) (ce : Cell) (q9 : Addr) (u : SX) (t : State) (H1 : Heap) (locs1 : List Loc), t.heap = H1 → s.vm.Alike t.vm → px u → BX E u t → H.size ≤ H1.size → (∀ q : Nat, q < H.size → ¬ AX q → H1[q]? = H[q]?) → va_S A0 H0 H1 locs1 → H1[q9]? = some ce → ce.vm = .none → s.vm.findClass E = some ce.cls → vx_W p l e R s m args below meth c H1 locs1 (cells + mc) (slots + ms) Q (F0 m pc ls rest) q9)
    (kk : ∀ (r : Int64) (u : S) (t : State) (H1 : Heap) (locs1 : List Loc), t.heap = H1 → s.vm.Alike t.vm → post r u → B u t → H.size ≤ H1.size → (∀ q : Nat, q < H.size → ¬ A1 q → H1[q]? = H[q]?) → va_S A0 H0 H1 locs1 → W p l e R s m args below meth c H1 locs1 (cells + mc) (slots + ms) Q (F0 m (pc + 3) ls (.long r :: rest))) : W p l e R s m args below meth c H locs cells slots Q (F0 m pc ls st0) := by
  intro T hT X
  rcases hr T hT X with ⟨v, st₀, t, T', L, h0, X', hL, e1, e2, ⟨⟨r, u, hv, hp, hb⟩, hF⟩, st⟩ | ⟨q, st₀, t, T', L, E, ce, h0, X', hL, e1, e2, ⟨u, hp, hb, hF⟩, hce, hcv, hcl, st⟩
  · cases hv
    obtain ⟨k1, k2, k3⟩ := vx_keep h0 e1 hS hA hf hL hF
    obtain ⟨t2, a1, b1⟩ := kk r u t T'.heap (locs ++ L) e1.symm (by rw [← e2]; exact X'.warmed.alike) hp hb k1 k2 k3 T' rfl X'
    exact ⟨t2, st t2 a1, b1⟩
  · obtain ⟨k1, k2, k3⟩ := vx_keep h0 e1 hS hAX hf hL hF
    obtain ⟨t2, a1, b1⟩ := kx E ce q u t T'.heap (locs ++ L) e1.symm (by rw [← e2]; exact X'.warmed.alike) hp hb k1 k2 k3 (by rw [e1]; exact hce) hcv hcl T' rfl X'
    exact ⟨t2, st.trans a1, b1⟩
theorem vx_callf {S SX : Type} {post : UInt32 → S → Prop} {px : SX → Prop} {B : S → State → Prop} {BX : String → SX → State → Prop} {AX : Nat → Prop} (hr : vx_Run p l e R s m args below meth c H locs cells slots mc ms (F0 m pc ls st0) rest (va_Qf post B A1 a) (vx_X px BX AX) free) (hS : va_S A0 H0 H locs) (hA : ∀ q, q < H.size → A1 q → A0 q) (hf : ∀ q, free q → A0 q) (hAX : ∀ q, q < H.size → AX q → A0 q)
    (kx : ∀ (E : String) (ce : Cell) (q9 : Addr) (u : SX) (t : State) (H1 : Heap) (locs1 : List Loc), t.heap = H1 → s.vm.Alike t.vm → px u → BX E u t → H.size ≤ H1.size → (∀ q : Nat, q < H.size → ¬ AX q → H1[q]? = H[q]?) → va_S A0 H0 H1 locs1 → H1[q9]? = some ce → ce.vm = .none → s.vm.findClass E = some ce.cls → vx_W p l e R s m args below meth c H1 locs1 (cells + mc) (slots + ms) Q (F0 m pc ls rest) q9)
    (kk : ∀ (r : UInt32) (u : S) (t : State) (H1 : Heap) (locs1 : List Loc), t.heap = H1 → s.vm.Alike t.vm → post r u → B u t → H.size ≤ H1.size → (∀ q : Nat, q < H.size → ¬ A1 q → H1[q]? = H[q]?) → va_S A0 H0 H1 locs1 → W p l e R s m args below meth c H1 locs1 (cells + mc) (slots + ms) Q (F0 m (pc + 3) ls (.float r :: rest))) : W p l e R s m args below meth c H locs cells slots Q (F0 m pc ls st0) := by
  intro T hT X
  rcases hr T hT X with ⟨v, st₀, t, T', L, h0, X', hL, e1, e2, ⟨⟨r, u, hv, hp, hb⟩, hF⟩, st⟩ | ⟨q, st₀, t, T', L, E, ce, h0, X', hL, e1, e2, ⟨u, hp, hb, hF⟩, hce, hcv, hcl, st⟩
  · cases hv
    obtain ⟨k1, k2, k3⟩ := vx_keep h0 e1 hS hA hf hL hF
    obtain ⟨t2, a1, b1⟩ := kk r u t T'.heap (locs ++ L) e1.symm (by rw [← e2]; exact X'.warmed.alike) hp hb k1 k2 k3 T' rfl X'
    exact ⟨t2, st t2 a1, b1⟩
  · obtain ⟨k1, k2, k3⟩ := vx_keep h0 e1 hS hAX hf hL hF
    obtain ⟨t2, a1, b1⟩ := kx E ce q u t T'.heap (locs ++ L) e1.symm (by rw [← e2]; exact X'.warmed.alike) hp hb k1 k2 k3 (by rw [e1]; exact hce) hcv hcl T' rfl X'
    exact ⟨t2, st.trans a1, b1⟩
theorem vx_calld {S SX : Type} {post : UInt64 → S → Prop} {px : SX → Prop} {B : S → State → Prop} {BX : String → SX → State → Prop} {AX : Nat → Prop} (hr : vx_Run p l e R s m args below meth c H locs cells slots mc ms (F0 m pc ls st0) rest (va_Qd post B A1 a) (vx_X px BX AX) free) (hS : va_S A0 H0 H locs) (hA : ∀ q, q < H.size → A1 q → A0 q) (hf : ∀ q, free q → A0 q) (hAX : ∀ q, q < H.size → AX q → A0 q)
    (kx : ∀ (E : String) (ce : Cell) (q9 : Addr) (u : SX) (t : State) (H1 : Heap) (locs1 : List Loc), t.heap = H1 → s.vm.Alike t.vm → px u → BX E u t → H.size ≤ H1.size → (∀ q : Nat, q < H.size → ¬ AX q → H1[q]? = H[q]?) → va_S A0 H0 H1 locs1 → H1[q9]? = some ce → ce.vm = .none → s.vm.findClass E = some ce.cls → vx_W p l e R s m args below meth c H1 locs1 (cells + mc) (slots + ms) Q (F0 m pc ls rest) q9)
    (kk : ∀ (r : UInt64) (u : S) (t : State) (H1 : Heap) (locs1 : List Loc), t.heap = H1 → s.vm.Alike t.vm → post r u → B u t → H.size ≤ H1.size → (∀ q : Nat, q < H.size → ¬ A1 q → H1[q]? = H[q]?) → va_S A0 H0 H1 locs1 → W p l e R s m args below meth c H1 locs1 (cells + mc) (slots + ms) Q (F0 m (pc + 3) ls (.double r :: rest))) : W p l e R s m args below meth c H locs cells slots Q (F0 m pc ls st0) := by
  intro T hT X
  rcases hr T hT X with ⟨v, st₀, t, T', L, h0, X', hL, e1, e2, ⟨⟨r, u, hv, hp, hb⟩, hF⟩, st⟩ | ⟨q, st₀, t, T', L, E, ce, h0, X', hL, e1, e2, ⟨u, hp, hb, hF⟩, hce, hcv, hcl, st⟩
  · cases hv
    obtain ⟨k1, k2, k3⟩ := vx_keep h0 e1 hS hA hf hL hF
    obtain ⟨t2, a1, b1⟩ := kk r u t T'.heap (locs ++ L) e1.symm (by rw [← e2]; exact X'.warmed.alike) hp hb k1 k2 k3 T' rfl X'
    exact ⟨t2, st t2 a1, b1⟩
  · obtain ⟨k1, k2, k3⟩ := vx_keep h0 e1 hS hAX hf hL hF
    obtain ⟨t2, a1, b1⟩ := kx E ce q u t T'.heap (locs ++ L) e1.symm (by rw [← e2]; exact X'.warmed.alike) hp hb k1 k2 k3 (by rw [e1]; exact hce) hcv hcl T' rfl X'
    exact ⟨t2, st.trans a1, b1⟩
theorem vx_callv {S SX : Type} {post : S → Prop} {px : SX → Prop} {B : S → State → Prop} {BX : String → SX → State → Prop} {AX : Nat → Prop} (hr : vx_Run p l e R s m args below meth c H locs cells slots mc ms (F0 m pc ls st0) rest (va_Qv post B A1 a) (vx_X px BX AX) free) (hS : va_S A0 H0 H locs) (hA : ∀ q, q < H.size → A1 q → A0 q) (hf : ∀ q, free q → A0 q) (hAX : ∀ q, q < H.size → AX q → A0 q)
    (kx : ∀ (E : String) (ce : Cell) (q9 : Addr) (u : SX) (t : State) (H1 : Heap) (locs1 : List Loc), t.heap = H1 → s.vm.Alike t.vm → px u → BX E u t → H.size ≤ H1.size → (∀ q : Nat, q < H.size → ¬ AX q → H1[q]? = H[q]?) → va_S A0 H0 H1 locs1 → H1[q9]? = some ce → ce.vm = .none → s.vm.findClass E = some ce.cls → vx_W p l e R s m args below meth c H1 locs1 (cells + mc) (slots + ms) Q (F0 m pc ls rest) q9)
    (kk : ∀ (u : S) (t : State) (H1 : Heap) (locs1 : List Loc), t.heap = H1 → s.vm.Alike t.vm → post u → B u t → H.size ≤ H1.size → (∀ q : Nat, q < H.size → ¬ A1 q → H1[q]? = H[q]?) → va_S A0 H0 H1 locs1 → W p l e R s m args below meth c H1 locs1 (cells + mc) (slots + ms) Q (F0 m (pc + 3) ls (rest))) : W p l e R s m args below meth c H locs cells slots Q (F0 m pc ls st0) := by
  intro T hT X
  rcases hr T hT X with ⟨v, st₀, t, T', L, h0, X', hL, e1, e2, ⟨⟨u, hv, hp, hb⟩, hF⟩, st⟩ | ⟨q, st₀, t, T', L, E, ce, h0, X', hL, e1, e2, ⟨u, hp, hb, hF⟩, hce, hcv, hcl, st⟩
  · cases hv
    obtain ⟨k1, k2, k3⟩ := vx_keep h0 e1 hS hA hf hL hF
    obtain ⟨t2, a1, b1⟩ := kk u t T'.heap (locs ++ L) e1.symm (by rw [← e2]; exact X'.warmed.alike) hp hb k1 k2 k3 T' rfl X'
    exact ⟨t2, st t2 a1, b1⟩
  · obtain ⟨k1, k2, k3⟩ := vx_keep h0 e1 hS hAX hf hL hF
    obtain ⟨t2, a1, b1⟩ := kx E ce q u t T'.heap (locs ++ L) e1.symm (by rw [← e2]; exact X'.warmed.alike) hp hb k1 k2 k3 (by rw [e1]; exact hce) hcv hcl T' rfl X'
    exact ⟨t2, st.trans a1, b1⟩
/-- caught by the row x of this method's table; the rows ahead don't take it -/
theorem vx_catch {own name : String} {E : String} {ce : Cell} {q : Addr} (hown : s.vm.findClass own = some m.cls) (pre : List ExceptionTableEntry) (x : ExceptionTableEntry) (suf : List ExceptionTableEntry) (hsplit : c.exceptionTable.toList = pre ++ x :: suf)
    (hpass : ∀ z ∈ pre, covers z pc = false ∨ (z.catchType ≠ 0 ∧ ∃ nm : String, (Cond.classLink own z.catchType nm).before args s = true ∧ va_Nc E nm s)) (hx : covers x pc = true) (h0 : x.catchType ≠ 0)
    (hlink : (Cond.classLink own x.catchType name).before args s = true) (hcast : (Cond.castable E name).before args s = true) (hcell : H[q]? = some ce) (hv : ce.vm = .none) (hcl : s.vm.findClass E = some ce.cls)
    (kk : W p l e R s m args below meth c H locs cells slots Q (F0 m x.handlerPc ls [.ref q])) : vx_W p l e R s m args below meth c H locs cells slots Q (F0 m pc ls rest) q := by
  intro T hT X
  have hpl : e.platform.magicAccessors = ({} : Platform).magicAccessors := by rw [X.admits.platform]
  obtain ⟨c3, c4, hc3, hc4, hasg⟩ := Cond.castable_spec hcast
  cases Option.some.inj (hc3.symm.trans hcl)
  obtain ⟨c5, hc5, hcl5⟩ := Cond.classLink_spec hown hlink e.platform hpl
  cases Option.some.inj (hc4.symm.trans hc5)
  obtain ⟨vm', X', st⟩ := X.thenCaughtThrough q (g := F0 m pc ls rest) rfl (Steps.refl _) (by rw [hT]; exact hcell) (by rw [hv]; rfl) (by obtain ⟨k9, h9, -⟩ := Vm.findClass_spec hcl; exact ⟨k9, h9⟩) pre x suf hsplit
    (fun z hz => by
      rcases hpass z hz with h | ⟨hz0, nm, hl1, hn1⟩
      · exact Or.inl h
      · obtain ⟨c6, hc6, hcl6⟩ := Cond.classLink_spec hown hl1 e.platform hpl
        obtain ⟨a8, b8, h1, h2, h3⟩ := hn1
        cases Option.some.inj (h1.symm.trans hcl)
        cases Option.some.inj (h2.symm.trans hc6)
        exact Or.inr ⟨hz0, _, hcl6, h3⟩) hx (Or.inr ⟨h0, c4, hcl5, hasg⟩)
  obtain ⟨t, a1, b1⟩ := kk (T.setVm vm') hT X'
  exact ⟨t, st.trans a1, b1⟩
end Rows
section Ends
variable {p : Program} {l : Launch} {e : Env} {R : Room} {s : State} {m : MethodId} {args : Array Value} {below : List Frame} {meth : Method} {c : Code} {H : Heap} {locs : List Loc} {cells slots : Nat} {Q : State → Prop}
variable {mc ms : Nat} {free : Addr → Prop} {A0 A1 : Nat → Prop} {H0 : Heap} {a : Array Value} {ls : Array Slot} {st0 rest : List Value}
variable {Qc : Array Value → State → Outcome → State → Prop} {XC : String → State → State → Prop}
/-- what a body that may throw owes at its end -/
def vx_MQ (below : List Frame) (Qc : Array Value → State → Outcome → State → Prop) (XC : String → State → State → Prop) (a : Array Value) (s : State) (mc ms : Nat) (free : Addr → Prop) : State → Prop := fun t =>
  ∃ o, t.status = .running ∧ Ended t below o ∧ vx_Q Qc XC mc ms free a s o t
theorem vx_ret {g : JFrame} {mc ms : Nat} (k : W p l e R s m args below meth c H locs cells slots (MQ below Qc args s mc ms free) g) : W p l e R s m args below meth c H locs cells slots (vx_MQ below Qc XC args s mc ms free) g := by
  intro T hT X
  obtain ⟨t, a1, o, b1, b2, b3, b4⟩ := k T hT X
  exact ⟨t, a1, o, b1, b2, Or.inl ⟨b3, b4⟩⟩
/-- not caught here: it goes on to the caller -/
theorem vx_widen {g : JFrame} {q : Addr} {k n : Nat} (h1 : cells ≤ k) (h2 : slots ≤ n) (kk : vx_W p l e R s m args below meth c H locs k n Q g q) : vx_W p l e R s m args below meth c H locs cells slots Q g q := fun T hT X => kk T hT (stand_widen X h1 h2)
theorem vx_out {pc : Nat} {E : String} {ce : Cell} {q : Addr} {mc ms : Nat} (hout : ∀ x ∈ c.exceptionTable.toList, covers x pc = false) (hlocks : meth.locks = false) (hcell : H[q]? = some ce) (hv : ce.vm = .none) (hcl : s.vm.findClass E = some ce.cls)
    (hx : ∀ t : State, t.heap = H → s.vm.Alike t.vm → XC E s t) (hf : ∀ z ∈ locs, free z.base) (hc : cells ≤ mc) (hs : slots ≤ ms) :
    vx_W p l e R s m args below meth c H locs cells slots (vx_MQ below Qc XC args s mc ms free) (F0 m pc ls rest) q := by
  intro T hT X
  obtain ⟨st1, hrun, hend, hW, hsm⟩ := X.leaveThrown q (g := F0 m pc ls rest) rfl rfl rfl hout hlocks
  have hcell9 : (T.setFrames (.throwing q :: below)).heap[q]? = some ce := by
    show T.heap[q]? = some ce
    rw [hT]; exact hcell
  exact ⟨_, st1, .threw q, hrun, hend, Or.inr ⟨q, rfl, E, ce, locs, hx _ hT hW.alike, hcell9, hv, hcl, hW, hsm.mono hc hs, hf⟩⟩
theorem vx_frame {U : State} {k n : Nat} (h : s.sameButNew ({ U with vm := s.vm } : State) locs k n) : s.heap.size ≤ U.heap.size ∧ ∀ q : Nat, q < s.heap.size → (∀ z ∈ locs, z.base ≠ q) → U.heap[q]? = s.heap[q]? := by
  obtain ⟨-, h2, -, -, -, h6⟩ := h
  refine ⟨h2, fun q hq hz => ?_⟩
  obtain ⟨c9, e1, e2, e3, e4⟩ := h6 q _ (Array.getElem?_eq_getElem hq)
  have hs : c9.slots = (s.heap[q]).slots := Array.ext_getElem? fun i => e4 i fun hm => hz _ hm rfl
  have h9 : c9 = s.heap[q] := by
    rw [hs] at e2
    exact e2
  have e5 : U.heap[q]? = some c9 := e1
  rw [e5, h9, Array.getElem?_eq_getElem hq]
/-- the words of a throw but the four that speak of the heap -/
def vx_no (w : Cond) : Bool := decide (w ≠ .isRef (.static Bundle.tN "UNASSIGNED_STACK" Bundle.steD)) && decide (w ≠ .isRef (.static Bundle.tN "SUPPRESSED_SENTINEL" Bundle.listD)) && decide (w ≠ .laysStatic Bundle.tN "UNASSIGNED_STACK" Bundle.steD) && decide (w ≠ .laysStatic Bundle.tN "SUPPRESSED_SENTINEL" Bundle.listD)
def vx_at0 (own : String) (ic : Nat) (X : String) (names : List String) : List Cond := (Bundle.ownAtoms0 own ic X names).filter vx_no
def vx_atS (own : String) (ic : Nat) (X : String) (names : List String) : List Cond := (Bundle.ownAtoms own ic X names).filter vx_no
/-- a word that the tables alone decide, or a good one -/
def vx_ot (w : Cond) : Bool := w.onTables || goodWord w
theorem vx_ot_at {args a' : Array Value} {s U : State} {w : Cond} (hW : s.WarmedH U.vm) (hvm : s.vm = U.vm) (hg : vx_ot w = true) (h : w.before args s = true) : w.before a' U = true := by
  simp only [vx_ot, Bool.or_eq_true] at hg
  rcases hg with hg | hg
  · exact va_tabs hg hvm h
  · exact word_at hW (good_of_word hg) h
/-- a list's words: the good ones out of the method's own list, the others by premises of their own -/
theorem vx_hat {args : Array Value} {s : State} {L B : List Cond} (h1 : ∀ w ∈ L.filter goodWord, w.before args s = true) (h2 : ∀ w ∈ L.filter (fun w => !goodWord w), w ∈ B) (h3 : ∀ w ∈ B, w.before args s = true) : ∀ w ∈ L, w.before args s = true := by
  intro w hw
  by_cases g : goodWord w = true
  · exact h1 w (List.mem_filter.mpr ⟨hw, g⟩)
  · refine h3 w (h2 w (List.mem_filter.mpr ⟨hw, ?_⟩))
    show (!goodWord w) = true
    cases hgw : goodWord w
    · rfl
    · exact absurd hgw g
theorem vx_c {args : Array Value} {s : State} {w : Cond} {B : List Cond} (h : w.before args s = true) (t : ∀ w ∈ B, w.before args s = true) : ∀ w' ∈ w :: B, w'.before args s = true := fun w' h' => (List.mem_cons.mp h').elim (fun e => by rw [e]; exact h) (t w')
theorem vx_n {args : Array Value} {s : State} : ∀ w ∈ ([] : List Cond), w.before args s = true := fun _ h => nomatch h
theorem vx_own {args : Array Value} {s : State} {L : List Cond} (h1 : ∀ w ∈ L.filter vx_no, w.before args s = true)
    (hU : (Cond.isRef (.static Bundle.tN "UNASSIGNED_STACK" Bundle.steD)).before args s = true) (hN : (Cond.isRef (.static Bundle.tN "SUPPRESSED_SENTINEL" Bundle.listD)).before args s = true)
    (lU : (Cond.laysStatic Bundle.tN "UNASSIGNED_STACK" Bundle.steD).before args s = true) (lN : (Cond.laysStatic Bundle.tN "SUPPRESSED_SENTINEL" Bundle.listD).before args s = true) : ∀ w ∈ L, w.before args s = true := by
  intro w hw
  by_cases e1 : w = .isRef (.static Bundle.tN "UNASSIGNED_STACK" Bundle.steD)
  · rw [e1]; exact hU
  · by_cases e2 : w = .isRef (.static Bundle.tN "SUPPRESSED_SENTINEL" Bundle.listD)
    · rw [e2]; exact hN
    · by_cases e3 : w = .laysStatic Bundle.tN "UNASSIGNED_STACK" Bundle.steD
      · rw [e3]; exact lU
      · by_cases e4 : w = .laysStatic Bundle.tN "SUPPRESSED_SENTINEL" Bundle.listD
        · rw [e4]; exact lN
        · exact h1 w (List.mem_filter.mpr ⟨hw, by unfold vx_no; rw [decide_eq_true e1, decide_eq_true e2, decide_eq_true e3, decide_eq_true e4]; rfl⟩)
/-- where a static field lies, its class's statics cell in H -/
def vx_L (C n d : String) (A : Nat → Prop) (U : State) (H : Heap) : Prop := ∃ (c : ClassId) (k : Class) (i : Nat) (f : Field) (a : Nat) (cell : Cell), U.vm.findClass C = some c ∧ U.fieldFound? C n d = some (c, k, i, f) ∧ f.isStatic = true ∧ k.statics = some a ∧ H[a]? = some cell ∧ cell.vm.isStatics = true ∧ cell.cls = c ∧ f.slot < cell.slots.size ∧ k.staticTypes[f.slot]? = some f.type ∧ ¬ A a
theorem vx_L.moved {C n d : String} {A : Nat → Prop} {u U : State} {H : Heap} (hvm : u.vm.Alike U.vm) (h : vx_L C n d A u H) : vx_L C n d A U H := by
  obtain ⟨c, k, i, f, a, cell, h1, h2, h3, h4, h5, h6, h7, h8, h9, h10⟩ := h
  obtain ⟨k', hi', he⟩ := State.fieldFound?_setVm hvm h2
  exact ⟨c, k', i, f, a, cell, by rw [hvm.findClass]; exact h1, hi', h3, by rw [he]; exact h4, h5, h6, h7, h8, by rw [he]; exact h9, h10⟩
theorem vx_L.kept {C n d : String} {A : Nat → Prop} {U : State} {H H1 : Heap} (h : vx_L C n d A U H) (hq : ∀ a : Nat, a < H.size → ¬ A a → H1[a]? = H[a]?) : vx_L C n d A U H1 := by
  obtain ⟨c, k, i, f, a, cell, h1, h2, h3, h4, h5, h6, h7, h8, h9, h10⟩ := h
  exact ⟨c, k, i, f, a, cell, h1, h2, h3, h4, by rw [hq a (Array.getElem?_eq_some_iff.mp h5).1 h10]; exact h5, h6, h7, h8, h9, h10⟩
theorem vx_L.narrow {C n d : String} {A B : Nat → Prop} {U : State} {H : Heap} (h : vx_L C n d A U H) (hAB : ∀ q, B q → A q) : vx_L C n d B U H := by
  obtain ⟨c, k, i, f, a, cell, h1, h2, h3, h4, h5, h6, h7, h8, h9, h10⟩ := h
  exact ⟨c, k, i, f, a, cell, h1, h2, h3, h4, h5, h6, h7, h8, h9, fun z => h10 (hAB _ z)⟩
theorem vx_L.word {C n d : String} {A : Nat → Prop} {s : State} {args : Array Value} (h : vx_L C n d A s s.heap) : (Cond.laysStatic C n d).before args s = true := by
  obtain ⟨c, k, i, f, a, cell, h1, h2, h3, h4, h5, h6, h7, h8, h9, -⟩ := h
  show (Cond.laysStatic C n d).holds args s none s [] = true
  exact Cond.laysStatic_of h1 h2 h3 h4 h5 h6 h7 h8 h9
/-- .. and what it holds: null or some reference -/
def vx_Zq (C n d : String) (A : Nat → Prop) (U : State) (H : Heap) : Prop := va_Zq C n d A U H ∧ vx_L C n d A U H
theorem vx_Zq.moved {C n d : String} {A : Nat → Prop} {u U : State} {H : Heap} (hvm : u.vm.Alike U.vm) (h : vx_Zq C n d A u H) : vx_Zq C n d A U H := ⟨va_Zq.moved hvm h.1, vx_L.moved hvm h.2⟩
theorem vx_Zq.kept {C n d : String} {A : Nat → Prop} {U : State} {H H1 : Heap} (h : vx_Zq C n d A U H) (hq : ∀ a : Nat, a < H.size → ¬ A a → H1[a]? = H[a]?) : vx_Zq C n d A U H1 := ⟨va_Zq.kept h.1 hq, vx_L.kept h.2 hq⟩
theorem vx_Zq.narrow {C n d : String} {A B : Nat → Prop} {U : State} {H : Heap} (h : vx_Zq C n d A U H) (hAB : ∀ q, B q → A q) : vx_Zq C n d B U H := ⟨va_Zq.narrow h.1 hAB, vx_L.narrow h.2 hAB⟩
theorem vx_Zqof {args : Array Value} {s : State} {C n d : String} {A : Nat → Prop} (hl : (Cond.laysStatic C n d).before args s = true) (hini : (Cond.initialized C).before args s = true) (h : (Cond.isRef (.static C n d)).before args s = true) (hA : ∀ a : Nat, a < s.heap.size → ¬ A a) : vx_Zq C n d A s s.heap := by
  refine ⟨va_Zqof hl hini h hA, ?_⟩
  obtain ⟨c, k, i, f, a, cell, h1, h2, h3, h4, h5, h6, h7, h8, h9⟩ := Cond.laysStatic_spec hl
  exact ⟨c, k, i, f, a, cell, h1, h2, h3, h4, h5, h6, h7, h8, h9, hA a (Array.getElem?_eq_some_iff.mp h5).1⟩
theorem vx_isRef {C n d : String} {v : Value} {A : Nat → Prop} {s : State} {args : Array Value} (h : va_Z C n d v A s s.heap) (hv : v.isRef = true) : (Cond.isRef (.static C n d)).before args s = true := by
  obtain ⟨cf, kf, fi, f, a, cell, h1, h2, h3, h4, h5, h6, h7, -⟩ := h
  have he : (Term.static C n d).eval args s none [] s = some v := by
    simp [Term.eval, State.fieldNamed?, h1, h2, h4, h5, h6, h7]
  simp only [Cond.before, Cond.holds, Cond.value, he]
  cases v <;> simp_all [Value.isRef]
theorem vx_isRefq {C n d : String} {A : Nat → Prop} {s : State} {args : Array Value} (h : va_Zq C n d A s s.heap) : (Cond.isRef (.static C n d)).before args s = true := by
  rcases h with h | ⟨t, h⟩
  · exact vx_isRef h rfl
  · exact vx_isRef h rfl
/-- the same frame, seen from here: as if the method were called anew in this heap -/
theorem vx_rebase {T : State} (X : Stand p l e R s m args below meth c T locs cells slots) {R' : Room} (hf : R'.frames ≤ R.frames) (hl : R'.locals ≤ R.locals) (hc : cells + R'.cells ≤ R.cells) (hs : slots + R'.slots ≤ R.slots) :
    Stand p l e R' ((T.setVm s.vm).setFrames (.invoking m args :: below)) m args below meth c T [] 0 0 := by
  have htop : (T.setVm s.vm).topJava?.isSome := X.here.top
  have hF : ((T.setVm s.vm).setFrames (.invoking m args :: below)).frames = .invoking m args :: below := State.frames_setFrames _ (State.cur_lt_of_top htop)
  obtain ⟨g₀, hg0⟩ := Option.isSome_iff_exists.mp htop
  obtain ⟨r, hr⟩ := State.topJava?_eq_some.mp hg0
  have hl9 : e.platform.stackLimits (T.setVm s.vm).me = e.platform.stackLimits s.me := X.limits
  have hb9 : (T.setVm s.vm).me.stackBytes = s.me.stackBytes := X.bytes
  refine ⟨X.admits, X.cas, X.clock, hF, ?_, X.hears, X.method, X.code, X.here, X.tail, X.warmed, ?_, ?_, ?_⟩
  · have h := X.room
    have hU : ((T.setVm s.vm).setFrames (.invoking m args :: below)).localsInUse = s.localsInUse := by
      rw [State.localsInUse_invoking hF (meth := meth) (c := c) X.method X.code, State.localsInUse_invoking X.frames X.method X.code]
    simp only [State.hasRoom, Bool.and_eq_true, decide_eq_true_eq] at h ⊢
    obtain ⟨⟨⟨⟨h1, h2, h3, h4, h5, h6⟩, h7⟩, h8⟩, h9⟩ := h
    rw [X.frames, List.length_cons] at h2 h3
    have q1 := X.heapSize
    have q2 := X.used
    simp only [hF, hU, List.length_cons, State.stackLimits_setFrames, State.stackBytes_setFrames, hl9, hb9]
    refine ⟨⟨⟨⟨by omega, by omega, by omega, by omega, by omega, h6⟩, ?_⟩, ?_⟩, X.book⟩
    · show T.heap.size + R'.cells ≤ e.platform.maxCells
      omega
    · show T.slotsUsed + R'.slots ≤ e.platform.maxSlots
      omega
  · rw [State.stackLimits_setFrames]; rfl
  · rw [State.stackBytes_setFrames]; rfl
  · refine ⟨?_, Nat.le_refl _, Nat.le_refl _, ?_, ?_, fun a c9 h9 => ⟨c9, h9, rfl, rfl, fun _ _ => rfl⟩⟩
    · obtain ⟨t, ht, -⟩ := State.frames_cons hr
      show T.setVm s.vm = { ((T.setVm s.vm).setFrames (.invoking m args :: below)).setFrames (T.setVm s.vm).frames with heap := T.heap, slotsUsed := T.slotsUsed }
      rw [State.setFrames_setFrames, State.setFrames_self ht]
      rfl
    · show T.slotsUsed = T.slotsUsed + ((T.heap.toList.drop T.heap.size).map (·.slots.size)).sum
      rw [List.drop_eq_nil_of_le (Nat.le_of_eq Array.length_toList)]
      rfl
    · show ((T.heap.toList.drop T.heap.size).map (·.slots.size)).sum ≤ 0
      rw [List.drop_eq_nil_of_le (Nat.le_of_eq Array.length_toList)]
      exact Nat.le_refl _
/-- 'throw new E()': new; dup; invokespecial; athrow -/
theorem vx_throw0 {cc : ByteArray} {pc : Nat} (hexec : p.tables.exec = Jvm.exec) (hb : c.code = cc) (hl : l.stackTraces = false) {own cls : String} {names : List String} {ik ic mc ms : Nat} {A : Nat → Prop}
    (hown : s.vm.findClass own = some m.cls) (hcls : Bundle.fit cls = true) (hnames : ∀ n ∈ names, Bundle.fit n = true)
    (hk : (Cond.classLink own ik cls).before args s = true) (hini : (Cond.initialized cls).before args s = true) (hat : ∀ w ∈ vx_at0 own ic cls names, w.before args s = true)
    (hgood : ∀ w ∈ Cond.classLink own ik cls :: Cond.initialized cls :: vx_at0 own ic cls names, vx_ot w = true)
    (hU : vx_Zq Bundle.tN "UNASSIGNED_STACK" Bundle.steD A s s.heap) (hN : vx_Zq Bundle.tN "SUPPRESSED_SENTINEL" Bundle.listD A s s.heap) (hS : va_S A s.heap H locs) (hsize : ls.size = c.maxLocals)
    (d0 : decode cc pc = .ok (.new ik, 3)) (d3 : decode cc (pc + 3) = .ok (.dup, 1)) (d4 : decode cc (pc + 4) = .ok (.invokespecial ic, 3)) (d7 : decode cc (pc + 7) = .ok (.athrow, 1))
    (hout : ∀ x ∈ c.exceptionTable.toList, covers x (pc + 7) = false)
    (hRframes : names.length + 3 < R.frames) (hRlocals : (rest.map fun v => v.category).sum + (13 * (names.length + 1) + 42) ≤ R.locals) (hRcells : cells + 1 ≤ R.cells) (hRslots : slots + 6 ≤ R.slots) (hlocks : meth.locks = false)
    (hx : ∀ t : State, s.vm.Alike t.vm → H.size ≤ t.heap.size → (∀ q : Nat, q < H.size → t.heap[q]? = H[q]?) → XC cls s t)
    (hf : ∀ z ∈ locs, free z.base) (hc : cells + 1 ≤ mc) (hs : slots + 6 ≤ ms) :
    W p l e R s m args below meth c H locs cells slots (vx_MQ below Qc XC args s mc ms free) (F0 m pc ls rest) := by
  intro T hT X
  have htr : e.platform.stackTraces = false := (show e.platform.stackTraces = l.stackTraces by rw [X.admits.platform]).trans hl
  have Y := vx_rebase X (R' := { frames := R.frames, locals := R.locals, cells := 1, slots := 6 }) (Nat.le_refl _) (Nat.le_refl _) hRcells hRslots
  obtain ⟨s', hA⟩ : ∃ z, z = (T.setVm s.vm).setFrames (.invoking m args :: below) := ⟨_, rfl⟩
  rw [← hA] at Y
  have hvm : s'.vm = s.vm := by rw [hA]; rfl
  have hhp : s'.heap = H := by rw [hA]; exact hT
  have hW0 : s.WarmedH s'.vm := by rw [hvm]; exact State.WarmedH.refl s
  have hat' : ∀ w ∈ vx_at0 own ic cls names, w.before args s' = true := fun w hw => vx_ot_at hW0 hvm.symm (hgood w (List.mem_cons_of_mem _ (List.mem_cons_of_mem _ hw))) (hat w hw)
  have hk' : (Cond.classLink own ik cls).before args s' = true := vx_ot_at hW0 hvm.symm (hgood _ List.mem_cons_self) hk
  have hini' : (Cond.initialized cls).before args s' = true := vx_ot_at hW0 hvm.symm (hgood _ (List.mem_cons_of_mem _ List.mem_cons_self)) hini
  have hU' : vx_Zq Bundle.tN "UNASSIGNED_STACK" Bundle.steD A s' s'.heap := by rw [hhp]; exact vx_Zq.moved hW0.alike (hU.kept hS.2.1)
  have hN' : vx_Zq Bundle.tN "SUPPRESSED_SENTINEL" Bundle.listD A s' s'.heap := by rw [hhp]; exact vx_Zq.moved hW0.alike (hN.kept hS.2.1)
  have h : ∀ w ∈ Bundle.ownAtoms0 own ic cls names, w.before args s' = true := vx_own hat' (vx_isRefq hU'.1) (vx_isRefq hN'.1) hU'.2.word hN'.2.word
  have hown' : s'.vm.findClass own = some m.cls := by rw [hvm]; exact hown
  have hins : (Cond.instantiable cls 6).before args s' = true := h _ (by simp [Bundle.ownAtoms0])
  obtain ⟨vm₁, cX, kX, hfX, hkX, -, -, X₁, st1⟩ := Y.newCold hexec (own := own) (C := cls) (index := ik) (n := 6) hown' hk' hins hini'
    (g := F0 m pc ls rest) rfl (by rw [hb]; exact d0) (Nat.le_refl _) (Nat.le_refl _)
  generalize hT1 : (T.setVm vm₁).pushCell { cls := cX, slots := kX.instanceTypes.map defaultValue, vm := .none } = T1 at X₁ st1
  have hcat : (Value.ref T.heap.size).category = 1 := rfl
  have hcellA : T1.heap[T.heap.size]? = some (freshCell cX kX) := by rw [← hT1]; exact State.heap_pushCell_size _ _
  have d3' : decode c.code (pc + 3) = .ok (.dup, 1) := by rw [hb]; exact d3
  obtain ⟨U, hsteps, hrun, hend, hW, hsame, ce, hce, hO⟩ := X₁.ctorThrow0 hexec htr (own := own) (cls := cls) (names := names) (ic := ic) hown' hcls hnames h (fun x hx => nomatch hx) hfX hkX hcellA (by rw [hhp, hT]; exact Nat.le_refl _)
    (g := { method := m, pc := pc + 4, locals := ls, stack := .ref T.heap.size :: .ref T.heap.size :: rest, locked := none }) rfl hsize rfl rfl (rest := rest) rfl
    (by rw [hb]; exact d4) (by rw [hb]; exact d7) hout hRframes (by simp only [List.map_cons, List.sum_cons, hcat]; omega) hlocks
  obtain ⟨f1, f2⟩ := vx_frame hsame
  rw [hhp] at f1 f2
  have hWs : s.WarmedH U.vm := State.WarmedH.trans hW0 hW
  have hcl : s.vm.findClass cls = some ce.cls := by
    have h9 := hO.cls
    rw [hvm] at h9
    exact h9
  have hall : s.sameButNew ({ U with vm := s.vm } : State) locs mc ms := by
    subst hA
    obtain ⟨e1, e2⟩ := hsame
    rw [State.setFrames_setFrames] at e1
    have h2 : (T.setVm s.vm).sameButNew ({ U with vm := s.vm } : State) [] (0 + 1) (0 + 6) := ⟨e1, e2⟩
    have h3 := X.same.trans h2
    rw [List.append_nil] at h3
    exact h3.mono hc hs
  refine ⟨U, ?_, .threw T.heap.size, hrun, hend, Or.inr ⟨T.heap.size, rfl, cls, ce, locs, hx U hWs.alike f1 (fun q hq => f2 q hq (fun z hz => nomatch hz)), hce, hO.vm, hcl, hWs, hall, hf⟩⟩
  refine st1 _ ?_
  show Steps p.tables e below (T1.setTop { method := m, pc := pc + 3, locals := ls, stack := .ref T.heap.size :: rest, locked := none }) _
  jvm_step X₁.here [X₁.here.top, hexec, d3', Value.category]
  exact hsteps
/-- 'throw new E("text")': new; dup; ldc; invokespecial; athrow -/
theorem vx_throwS {cc : ByteArray} {pc : Nat} (hexec : p.tables.exec = Jvm.exec) (hb : c.code = cc) (hl : l.stackTraces = false) {own cls text : String} {names : List String} {ik is ic mc ms sa : Nat} {A : Nat → Prop}
    (hown : s.vm.findClass own = some m.cls) (hcls : Bundle.fit cls = true) (hnames : ∀ n ∈ names, Bundle.fit n = true)
    (hk : (Cond.classLink own ik cls).before args s = true) (hini : (Cond.initialized cls).before args s = true) (hstr : vk_R own is text sa s) (hat : ∀ w ∈ vx_atS own ic cls names, w.before args s = true)
    (hgood : ∀ w ∈ Cond.classLink own ik cls :: Cond.initialized cls :: vx_atS own ic cls names, vx_ot w = true)
    (hU : vx_Zq Bundle.tN "UNASSIGNED_STACK" Bundle.steD A s s.heap) (hN : vx_Zq Bundle.tN "SUPPRESSED_SENTINEL" Bundle.listD A s s.heap) (hS : va_S A s.heap H locs) (hsize : ls.size = c.maxLocals)
    (d0 : decode cc pc = .ok (.new ik, 3)) (d3 : decode cc (pc + 3) = .ok (.dup, 1)) (d4 : decode cc (pc + 4) = .ok (.ldc is, 2)) (d6 : decode cc (pc + 6) = .ok (.invokespecial ic, 3)) (d9 : decode cc (pc + 9) = .ok (.athrow, 1))
    (hout : ∀ x ∈ c.exceptionTable.toList, covers x (pc + 9) = false)
    (hRframes : names.length + 3 < R.frames) (hRlocals : (rest.map fun v => v.category).sum + (13 * (names.length + 1) + 43) ≤ R.locals) (hRcells : cells + 1 ≤ R.cells) (hRslots : slots + 6 ≤ R.slots) (hlocks : meth.locks = false)
    (hx : ∀ t : State, s.vm.Alike t.vm → H.size ≤ t.heap.size → (∀ q : Nat, q < H.size → t.heap[q]? = H[q]?) → XC cls s t)
    (hf : ∀ z ∈ locs, free z.base) (hc : cells + 1 ≤ mc) (hs : slots + 6 ≤ ms) :
    W p l e R s m args below meth c H locs cells slots (vx_MQ below Qc XC args s mc ms free) (F0 m pc ls rest) := by
  intro T hT X
  have htr : e.platform.stackTraces = false := (show e.platform.stackTraces = l.stackTraces by rw [X.admits.platform]).trans hl
  have Y := vx_rebase X (R' := { frames := R.frames, locals := R.locals, cells := 1, slots := 6 }) (Nat.le_refl _) (Nat.le_refl _) hRcells hRslots
  obtain ⟨s', hA⟩ : ∃ z, z = (T.setVm s.vm).setFrames (.invoking m args :: below) := ⟨_, rfl⟩
  rw [← hA] at Y
  have hvm : s'.vm = s.vm := by rw [hA]; rfl
  have hhp : s'.heap = H := by rw [hA]; exact hT
  have hW0 : s.WarmedH s'.vm := by rw [hvm]; exact State.WarmedH.refl s
  have hat' : ∀ w ∈ vx_atS own ic cls names, w.before args s' = true := fun w hw => vx_ot_at hW0 hvm.symm (hgood w (List.mem_cons_of_mem _ (List.mem_cons_of_mem _ hw))) (hat w hw)
  have hk' : (Cond.classLink own ik cls).before args s' = true := vx_ot_at hW0 hvm.symm (hgood _ List.mem_cons_self) hk
  have hini' : (Cond.initialized cls).before args s' = true := vx_ot_at hW0 hvm.symm (hgood _ (List.mem_cons_of_mem _ List.mem_cons_self)) hini
  have hU' : vx_Zq Bundle.tN "UNASSIGNED_STACK" Bundle.steD A s' s'.heap := by rw [hhp]; exact vx_Zq.moved hW0.alike (hU.kept hS.2.1)
  have hN' : vx_Zq Bundle.tN "SUPPRESSED_SENTINEL" Bundle.listD A s' s'.heap := by rw [hhp]; exact vx_Zq.moved hW0.alike (hN.kept hS.2.1)
  have h : ∀ w ∈ Bundle.ownAtoms own ic cls names, w.before args s' = true := vx_own hat' (vx_isRefq hU'.1) (vx_isRefq hN'.1) hU'.2.word hN'.2.word
  have hown' : s'.vm.findClass own = some m.cls := by rw [hvm]; exact hown
  have hins : (Cond.instantiable cls 6).before args s' = true := h _ (by simp [Bundle.ownAtoms])
  obtain ⟨vm₁, cX, kX, hfX, hkX, -, -, X₁, st1⟩ := Y.newCold hexec (own := own) (C := cls) (index := ik) (n := 6) hown' hk' hins hini'
    (g := F0 m pc ls rest) rfl (by rw [hb]; exact d0) (Nat.le_refl _) (Nat.le_refl _)
  generalize hT1 : (T.setVm vm₁).pushCell { cls := cX, slots := kX.instanceTypes.map defaultValue, vm := .none } = T1 at X₁ st1
  have hcat : (Value.ref T.heap.size).category = 1 := rfl
  have hcellA : T1.heap[T.heap.size]? = some (freshCell cX kX) := by rw [← hT1]; exact State.heap_pushCell_size _ _
  have d3' : decode c.code (pc + 3) = .ok (.dup, 1) := by rw [hb]; exact d3
  have d4' : decode c.code (pc + 4) = .ok (.ldc is, 2) := by rw [hb]; exact d4
  have hstr' : vk_R own is text sa s' := vk_R.warm hW0 hstr
  obtain ⟨U, hsteps, hrun, hend, hW, hsame, ce, hce, hO⟩ := X₁.ctorThrowS hexec htr (own := own) (cls := cls) (names := names) (ic := ic) hown' hcls hnames h (fun x hx => nomatch hx) hfX hkX hcellA (by rw [hhp, hT]; exact Nat.le_refl _) (msg := .ref sa) rfl
    (g := { method := m, pc := pc + 6, locals := ls, stack := .ref sa :: .ref T.heap.size :: .ref T.heap.size :: rest, locked := none }) rfl hsize rfl rfl (rest := rest) rfl
    (by rw [hb]; exact d6) (by rw [hb]; exact d9) hout hRframes (by simp only [List.map_cons, List.sum_cons, hcat]; omega) hlocks
  obtain ⟨f1, f2⟩ := vx_frame hsame
  rw [hhp] at f1 f2
  have hWs : s.WarmedH U.vm := State.WarmedH.trans hW0 hW
  have hcl : s.vm.findClass cls = some ce.cls := by
    have h9 := hO.cls
    rw [hvm] at h9
    exact h9
  have hall : s.sameButNew ({ U with vm := s.vm } : State) locs mc ms := by
    subst hA
    obtain ⟨e1, e2⟩ := hsame
    rw [State.setFrames_setFrames] at e1
    have h2 : (T.setVm s.vm).sameButNew ({ U with vm := s.vm } : State) [] (0 + 1) (0 + 6) := ⟨e1, e2⟩
    have h3 := X.same.trans h2
    rw [List.append_nil] at h3
    exact h3.mono hc hs
  refine ⟨U, ?_, .threw T.heap.size, hrun, hend, Or.inr ⟨T.heap.size, rfl, cls, ce, locs, hx U hWs.alike f1 (fun q hq => f2 q hq (fun z hz => nomatch hz)), hce, hO.vm, hcl, hWs, hall, hf⟩⟩
  refine st1 _ ?_
  show Steps p.tables e below (T1.setTop { method := m, pc := pc + 3, locals := ls, stack := .ref T.heap.size :: rest, locked := none }) _
  jvm_step X₁.here [X₁.here.top, hexec, d3', Value.category]
  exact X₁.ldcString hexec (own := own) (text := text) (index := is) (a := sa) hown' hstr'.1 hstr'.2
    (g := { method := m, pc := pc + 4, locals := ls, stack := .ref T.heap.size :: .ref T.heap.size :: rest, locked := none }) rfl d4' _ hsteps
/-- 'throw new E("text")', the text by a wide index -/
theorem vx_throwSW {cc : ByteArray} {pc : Nat} (hexec : p.tables.exec = Jvm.exec) (hb : c.code = cc) (hl : l.stackTraces = false) {own cls text : String} {names : List String} {ik is ic mc ms sa : Nat} {A : Nat → Prop}
    (hown : s.vm.findClass own = some m.cls) (hcls : Bundle.fit cls = true) (hnames : ∀ n ∈ names, Bundle.fit n = true)
    (hk : (Cond.classLink own ik cls).before args s = true) (hini : (Cond.initialized cls).before args s = true) (hstr : vk_R own is text sa s) (hat : ∀ w ∈ vx_atS own ic cls names, w.before args s = true)
    (hgood : ∀ w ∈ Cond.classLink own ik cls :: Cond.initialized cls :: vx_atS own ic cls names, vx_ot w = true)
    (hU : vx_Zq Bundle.tN "UNASSIGNED_STACK" Bundle.steD A s s.heap) (hN : vx_Zq Bundle.tN "SUPPRESSED_SENTINEL" Bundle.listD A s s.heap) (hS : va_S A s.heap H locs) (hsize : ls.size = c.maxLocals)
    (d0 : decode cc pc = .ok (.new ik, 3)) (d3 : decode cc (pc + 3) = .ok (.dup, 1)) (d4 : decode cc (pc + 4) = .ok (.ldc_w is, 3)) (d7 : decode cc (pc + 7) = .ok (.invokespecial ic, 3)) (d10 : decode cc (pc + 10) = .ok (.athrow, 1))
    (hout : ∀ x ∈ c.exceptionTable.toList, covers x (pc + 10) = false)
    (hRframes : names.length + 3 < R.frames) (hRlocals : (rest.map fun v => v.category).sum + (13 * (names.length + 1) + 43) ≤ R.locals) (hRcells : cells + 1 ≤ R.cells) (hRslots : slots + 6 ≤ R.slots) (hlocks : meth.locks = false)
    (hx : ∀ t : State, s.vm.Alike t.vm → H.size ≤ t.heap.size → (∀ q : Nat, q < H.size → t.heap[q]? = H[q]?) → XC cls s t)
    (hf : ∀ z ∈ locs, free z.base) (hc : cells + 1 ≤ mc) (hs : slots + 6 ≤ ms) :
    W p l e R s m args below meth c H locs cells slots (vx_MQ below Qc XC args s mc ms free) (F0 m pc ls rest) := by
  intro T hT X
  have htr : e.platform.stackTraces = false := (show e.platform.stackTraces = l.stackTraces by rw [X.admits.platform]).trans hl
  have Y := vx_rebase X (R' := { frames := R.frames, locals := R.locals, cells := 1, slots := 6 }) (Nat.le_refl _) (Nat.le_refl _) hRcells hRslots
  obtain ⟨s', hA⟩ : ∃ z, z = (T.setVm s.vm).setFrames (.invoking m args :: below) := ⟨_, rfl⟩
  rw [← hA] at Y
  have hvm : s'.vm = s.vm := by rw [hA]; rfl
  have hhp : s'.heap = H := by rw [hA]; exact hT
  have hW0 : s.WarmedH s'.vm := by rw [hvm]; exact State.WarmedH.refl s
  have hat' : ∀ w ∈ vx_atS own ic cls names, w.before args s' = true := fun w hw => vx_ot_at hW0 hvm.symm (hgood w (List.mem_cons_of_mem _ (List.mem_cons_of_mem _ hw))) (hat w hw)
  have hk' : (Cond.classLink own ik cls).before args s' = true := vx_ot_at hW0 hvm.symm (hgood _ List.mem_cons_self) hk
  have hini' : (Cond.initialized cls).before args s' = true := vx_ot_at hW0 hvm.symm (hgood _ (List.mem_cons_of_mem _ List.mem_cons_self)) hini
  have hU' : vx_Zq Bundle.tN "UNASSIGNED_STACK" Bundle.steD A s' s'.heap := by rw [hhp]; exact vx_Zq.moved hW0.alike (hU.kept hS.2.1)
  have hN' : vx_Zq Bundle.tN "SUPPRESSED_SENTINEL" Bundle.listD A s' s'.heap := by rw [hhp]; exact vx_Zq.moved hW0.alike (hN.kept hS.2.1)
  have h : ∀ w ∈ Bundle.ownAtoms own ic cls names, w.before args s' = true := vx_own hat' (vx_isRefq hU'.1) (vx_isRefq hN'.1) hU'.2.word hN'.2.word
  have hown' : s'.vm.findClass own = some m.cls := by rw [hvm]; exact hown
  have hins : (Cond.instantiable cls 6).before args s' = true := h _ (by simp [Bundle.ownAtoms])
  obtain ⟨vm₁, cX, kX, hfX, hkX, -, -, X₁, st1⟩ := Y.newCold hexec (own := own) (C := cls) (index := ik) (n := 6) hown' hk' hins hini'
    (g := F0 m pc ls rest) rfl (by rw [hb]; exact d0) (Nat.le_refl _) (Nat.le_refl _)
  generalize hT1 : (T.setVm vm₁).pushCell { cls := cX, slots := kX.instanceTypes.map defaultValue, vm := .none } = T1 at X₁ st1
  have hcat : (Value.ref T.heap.size).category = 1 := rfl
  have hcellA : T1.heap[T.heap.size]? = some (freshCell cX kX) := by rw [← hT1]; exact State.heap_pushCell_size _ _
  have d3' : decode c.code (pc + 3) = .ok (.dup, 1) := by rw [hb]; exact d3
  have d4' : decode c.code (pc + 4) = .ok (.ldc_w is, 3) := by rw [hb]; exact d4
  have hstr' : vk_R own is text sa s' := vk_R.warm hW0 hstr
  obtain ⟨U, hsteps, hrun, hend, hW, hsame, ce, hce, hO⟩ := X₁.ctorThrowS hexec htr (own := own) (cls := cls) (names := names) (ic := ic) hown' hcls hnames h (fun x hx => nomatch hx) hfX hkX hcellA (by rw [hhp, hT]; exact Nat.le_refl _) (msg := .ref sa) rfl
    (g := { method := m, pc := pc + 7, locals := ls, stack := .ref sa :: .ref T.heap.size :: .ref T.heap.size :: rest, locked := none }) rfl hsize rfl rfl (rest := rest) rfl
    (by rw [hb]; exact d7) (by rw [hb]; exact d10) hout hRframes (by simp only [List.map_cons, List.sum_cons, hcat]; omega) hlocks
  obtain ⟨f1, f2⟩ := vx_frame hsame
  rw [hhp] at f1 f2
  have hWs : s.WarmedH U.vm := State.WarmedH.trans hW0 hW
  have hcl : s.vm.findClass cls = some ce.cls := by
    have h9 := hO.cls
    rw [hvm] at h9
    exact h9
  have hall : s.sameButNew ({ U with vm := s.vm } : State) locs mc ms := by
    subst hA
    obtain ⟨e1, e2⟩ := hsame
    rw [State.setFrames_setFrames] at e1
    have h2 : (T.setVm s.vm).sameButNew ({ U with vm := s.vm } : State) [] (0 + 1) (0 + 6) := ⟨e1, e2⟩
    have h3 := X.same.trans h2
    rw [List.append_nil] at h3
    exact h3.mono hc hs
  refine ⟨U, ?_, .threw T.heap.size, hrun, hend, Or.inr ⟨T.heap.size, rfl, cls, ce, locs, hx U hWs.alike f1 (fun q hq => f2 q hq (fun z hz => nomatch hz)), hce, hO.vm, hcl, hWs, hall, hf⟩⟩
  refine st1 _ ?_
  show Steps p.tables e below (T1.setTop { method := m, pc := pc + 3, locals := ls, stack := .ref T.heap.size :: rest, locked := none }) _
  jvm_step X₁.here [X₁.here.top, hexec, d3', Value.category]
  exact X₁.ldcStringW hexec (own := own) (text := text) (index := is) (a := sa) hown' hstr'.1 hstr'.2
    (g := { method := m, pc := pc + 4, locals := ls, stack := .ref T.heap.size :: .ref T.heap.size :: rest, locked := none }) rfl d4' _ hsteps
end Ends
section Bodies
variable {l : Launch}
theorem vx_ofW {y : MethodName} {ws ws' : List Cond} {rm : Room} {Pc : Array Value → State → Prop} {Qc : Array Value → State → Outcome → State → Prop} {XC : String → State → State → Prop} {mc ms : Nat} {free : Addr → Prop} {cc : ByteArray} {maxL : Nat} {ret : Option FieldType}
    (hy : plainName y.cls = true) (hw : ws = Cond.code y cc maxL ret :: ws')
    (body : ∀ p e s m args below meth c s₁, BodyLoose p l y (headSpec ws rm) cc maxL ret e s m args below meth c s₁ → c.maxLocals = maxL → (∀ x ∈ c.exceptionTable.toList, False) → Pc args s →
      W p l e (headSpec ws rm).room s m args below meth c s.heap [] 0 0 (vx_MQ below Qc XC args s mc ms free) (entryFrame m args maxL)) : vx_Met l y ws rm Pc Qc XC mc ms free := by
  refine MetFree.of_bodyS (code := cc) (maxLocals := maxL) (ret := ret) hy ?_ ?_
  · intro args s m h hn
    obtain ⟨meth, c, h1, h2, h3, h4, h5, h6, -, -⟩ := Cond.code_spec hn (atoms_spec (ws := ws) h _ (by rw [hw]; exact List.mem_cons_self))
    exact ⟨meth, c, h1, h2, h3, h4, h5, h6⟩
  · intro p e s m args below meth c s₁ B hml hP _
    have hh0 : s₁.heap = s.heap := by rw [B.state]; rfl
    have ht : ∀ x ∈ c.exceptionTable.toList, False := by
      obtain ⟨meth9, c9, h1, h2, -, -, -, -, h7, -⟩ := Cond.code_spec B.named (atoms_spec (ws := ws) B.pre _ (by rw [hw]; exact List.mem_cons_self))
      cases Option.some.inj (h1.symm.trans B.method)
      cases Option.some.inj (h2.symm.trans (Stand.of_body B).code)
      intro x hx
      rw [Array.isEmpty_iff.mp h7] at hx
      cases hx
    obtain ⟨t, a1, o, b1, b2, b3⟩ := body p e s m args below meth c s₁ B hml ht hP s₁ hh0 (Stand.of_body B)
    exact ⟨t, o, a1, b1, b2, b3⟩
/-- the table of a body with handlers -/
theorem vx_table {p : Program} {x y : MethodName} {S : Spec} {cc bytes : ByteArray} {maxL maxL' : Nat} {ret ret' : Option FieldType} {e : Env} {s s₁ : State} {m : MethodId} {args : Array Value} {below : List Frame} {meth : Method} {c : Code} {hh : List (Nat × Nat × Nat × Nat)}
    (B : BodyLoose p l y S cc maxL ret e s m args below meth c s₁) (h : (Cond.codeWith y bytes maxL' ret' hh).before args s = true) : c.exceptionTable.toList = tableOf hh := by
  obtain ⟨m9, meth9, c9, hn9, h1, h2, -, -, h6, -⟩ := Cond.codeWith_spec h
  cases Option.some.inj (hn9.symm.trans B.named)
  cases Option.some.inj (h1.symm.trans B.method)
  cases Option.some.inj (h2.symm.trans (Stand.of_body B).code)
  rw [← h6, table_eq]
end Bodies
end VXA
/-! ===== END ===== -/
/-! ===== BEGIN a static call of a method with an exception table ===== -/
section VXS
variable {p : Program} {l : Launch} {e : Env} {R : Room} {s : State} {m : MethodId} {args : Array Value} {below : List Frame} {meth : Method} {c : Code} {T : State} {H : Heap} {locs : List Loc} {cells slots : Nat}
abbrev vx_CSW (R : Room) (s : State) (args : Array Value) (own : String) (index : Nat) (y : MethodName) (bytes : ByteArray) (maxL : Nat) (ret : Option FieldType) (hh : List (Nat × Nat × Nat × Nat)) (ws : List Cond) (rm : Room) (mc ms n : Nat) : Prop :=
  (rm.cells = mc ∧ rm.slots = ms ∧ rm.frames + 1 ≤ R.frames ∧ 8 + (maxL + 11) + rm.locals ≤ R.locals ∧ (∀ w ∈ ws, ∀ (a' : Array Value) (U : State), s.WarmedH U.vm → w.before a' U = true) ∧ Cond.codeWith y bytes maxL ret hh ∈ ws) ∧
  (Cond.codeWith y bytes maxL ret hh).before args s = true ∧ (Cond.initialized y.cls).before args s = true ∧ (y.cls ≠ "java/lang/invoke/MethodHandle" ∧ y.cls ≠ "java/lang/invoke/VarHandle") ∧
  (∀ sig, parseMethodDescriptor y.desc = some sig → n = sig.parameters.length) ∧ (Cond.methodLink own index y).before args s = true ∧ (Cond.static y).before args s = true
theorem vx_cwSW {own : String} {index maxL mc ms : Nat} {y : MethodName} {bytes : ByteArray} {ret : Option FieldType} {hh : List (Nat × Nat × Nat × Nat)} {Ts ws ws' : List Cond} {rm : Room} (n : Nat) (ht : ∀ w ∈ Ts, w.before args s = true) (hT : GoodIn Ts (va_wsS own index y ws)) (hw : ws = Cond.codeWith y bytes maxL ret hh :: ws') (hrc : rm.cells = mc) (hrs : rm.slots = ms)
    (hd : y.cls ≠ "java/lang/invoke/MethodHandle" ∧ y.cls ≠ "java/lang/invoke/VarHandle" ∧ (parseMethodDescriptor y.desc).map (fun d => d.parameters.length) = some n) (hR : rm.frames + 1 ≤ R.frames ∧ 8 + (maxL + 11) + rm.locals ≤ R.locals) :
    vx_CSW R s args own index y bytes maxL ret hh ws rm mc ms n := by
  have ok : ∀ w ∈ va_wsS own index y ws, w.before args s = true := fun w h => ht w (hT w h).1
  have hG : GoodIn Ts ws := fun w h => hT w (by unfold va_wsS; exact List.mem_append_right _ h)
  have hc : Cond.codeWith y bytes maxL ret hh ∈ ws := by rw [hw]; exact List.mem_cons_self
  refine ⟨⟨hrc, hrs, hR.1, hR.2, pay_in ht hG, hc⟩, ht _ (hG _ hc).1, ok _ (by simp [va_wsS]), ⟨hd.1, hd.2.1⟩, fun sig h => ?_, ok _ (by simp [va_wsS]), ok _ (by simp [va_wsS])⟩
  have h2 := hd.2.2
  rw [h] at h2
  exact (Option.some.inj h2).symm
theorem vx_callSW (X : Stand p l e R s m args below meth c T locs cells slots) (hexec : p.tables.exec = Jvm.exec) {own : String} {index : Nat} {y : MethodName} {bytes : ByteArray} {maxL : Nat} {ret : Option FieldType} {hh : List (Nat × Nat × Nat × Nat)}
    (hown : s.vm.findClass own = some m.cls) (hlink : (Cond.methodLink own index y).before args s = true) (hstat : (Cond.static y).before args s = true) (hinit : (Cond.initialized y.cls).before args s = true)
    (hcode : (Cond.codeWith y bytes maxL ret hh).before args s = true) (hy : y.cls ≠ "java/lang/invoke/MethodHandle" ∧ y.cls ≠ "java/lang/invoke/VarHandle")
    {W9 : Nat} {Pre : Pt → Array Value → Prop} {Post : Pt → Array Value → Option Value → Pt → Prop} (hK : Back l R p e below s args y 3 W9 Pre Post)
    {g : JFrame} (hg : g.method = m) (hsize : g.locals.size = c.maxLocals) {argsL rest : List Value} (hlen : ∀ sig, parseMethodDescriptor y.desc = some sig → argsL.length = sig.parameters.length)
    (hstack : g.stack = argsL.reverse ++ rest) (hW : 2 * g.monitorRoom + (rest.map fun v => v.category).sum ≤ W9) (hdg : decode c.code g.pc = .ok (.invokestatic index, 3))
    (hpre : ∀ vm₁, s.WarmedH vm₁ → Pre ⟨T.setVm vm₁, locs, cells, slots⟩ argsL.toArray) :
    ∃ (v : Option Value) (vm₁ : Vm) (B : Pt), s.WarmedH vm₁ ∧ Stand p l e R s m args below meth c B.U B.locs B.cells B.slots ∧ Post ⟨T.setVm vm₁, locs, cells, slots⟩ argsL.toArray v B ∧
      ∀ target, Steps p.tables e below (B.U.setTop { g with pc := g.pc + 3, stack := v.toList ++ rest }) target → Steps p.tables e below (T.setTop g) target := by
  obtain ⟨mk, methM, cM, hnamed, hmethM, -, -, -, -, -, -, hsigM⟩ := Cond.codeWith_spec hcode
  have hstatic : methM.isStatic = true := Cond.static_spec hnamed hmethM hstat
  obtain ⟨kP, hkP, -⟩ := className_of_methodNamed hnamed
  have hinitP : kP.init = .initialized := Cond.initialized_spec (findClass_of_methodNamed hnamed) hkP hinit
  obtain ⟨vm₁, X₁, hstep₁⟩ := X.invokestatic hexec hown hlink hnamed hmethM hstatic hkP hinitP hy (g := g) hg (argsL := argsL) (rest := rest) (hlen _ hsigM) hstack hdg
  obtain ⟨v, B, X', hpost, hsteps⟩ := hK m meth c ⟨T.setVm vm₁, locs, cells, slots⟩ { g with stack := rest } (.invokestatic index) mk argsL.toArray X₁ hg hsize hdg hW (X₁.named hnamed) (hpre vm₁ X₁.warmed)
  exact ⟨v, vm₁, B, X₁.warmed, X', hpost, fun target h => hstep₁ _ fun acts => by rw [doInvoke_state]; exact hsteps.trans h⟩
theorem vx_runSW {y : MethodName} {bytes cc : ByteArray} {maxL nL mc ms n index : Nat} {ret : Option FieldType} {hh : List (Nat × Nat × Nat × Nat)} {ws : List Cond} {rm : Room} {Pc : Array Value → State → Prop} {Qc : Array Value → State → Outcome → State → Prop} {free : Addr → Prop} {Ts : List Cond} {own : String} {As rest : List Value} {g : JFrame}
    (S : CallFix p m c cc nL s args Ts own) (hM : Met l y ws rm Pc Qc mc ms free) (cw : vx_CSW R s args own index y bytes maxL ret hh ws rm mc ms n) (hp : PreS s H Pc As)
    (hg : g.method = m) (hn : As.length = n) (hsize : g.locals.size = nL) (hstack : g.stack = As.reverse ++ rest) (hW : 2 * g.monitorRoom + (rest.map fun v => v.category).sum ≤ 8) (hdg : decode cc g.pc = .ok (.invokestatic index, 3)) (hf : cells + mc ≤ R.cells ∧ slots + ms ≤ R.slots) :
    va_Run p l e R s m args below meth c H locs cells slots mc ms g rest (Qc As.toArray) (free) := by
  obtain ⟨⟨hrc, hrs, hfr, hlo, hws, hcw⟩, hcode, hini, hy, hlen, hl, hstt⟩ := cw
  have hK : Back l R p e below s args y 3 8 (PreOf R mc ms Pc) (PostOf Qc mc ms free) := va_backW (hh := hh) (bytes := bytes) (maxL := maxL) (ret := ret) hM hp.1 hrc hrs hfr hlo hws hcw (fun a' U hW => word_at hW (Or.inl (by first | rfl | simp [Cond.onTables, Cond.keeps, Cond.steady])) hini)
  obtain ⟨hx, hb, hml, ho, -⟩ := S
  intro T hT X
  obtain ⟨v, vm₁, ⟨U', l2, c2, s2⟩, hW₁, X', ⟨g', mk, t, L, e1, e2, hq, h1, hL, h2, h3⟩, st⟩ := vx_callSW X hx (hh := hh) (bytes := bytes) (maxL := maxL) (ret := ret) ho hl hstt hini hcode hy hK hg (hsize.trans hml.symm) (argsL := As) (rest := rest) (fun sig h => hn.trans (hlen sig h)) hstack hW (by rw [hb]; exact hdg)
    (fun vm₁ hW₁ => ⟨hf.1, hf.2, hp.2 (T.setVm vm₁) hT hW₁⟩)
  dsimp only [Pt.U, Pt.locs, Pt.cells, Pt.slots] at X' e1 e2 h1 h2 h3 st
  subst h1; subst h2; subst h3
  exact ⟨v, (T.setVm vm₁).calling g' mk As.toArray, t, U', L, hT, X', hL, e1, e2, hq, st⟩
/-- not caught here, past rows that name other classes: it goes on to the caller -/
theorem vx_outP {p : Program} {l : Launch} {e : Env} {R : Room} {s : State} {m : MethodId} {args : Array Value} {below : List Frame} {meth : Method} {c : Code} {H : Heap} {locs : List Loc} {cells slots : Nat} {free : Addr → Prop} {ls : Array Slot} {rest : List Value} {Qc : Array Value → State → Outcome → State → Prop} {XC : String → State → State → Prop}
    {pc : Nat} {own E : String} {ce : Cell} {q : Addr} {mc ms : Nat} (hown : s.vm.findClass own = some m.cls) (hlocks : meth.locks = false)
    (hpass : ∀ z ∈ c.exceptionTable.toList, covers z pc = false ∨ (z.catchType ≠ 0 ∧ ∃ nm : String, (Cond.classLink own z.catchType nm).before args s = true ∧ va_Nc E nm s)) (hcell : H[q]? = some ce) (hv : ce.vm = .none) (hcl : s.vm.findClass E = some ce.cls)
    (hx : ∀ t : State, t.heap = H → s.vm.Alike t.vm → XC E s t) (hf : ∀ z ∈ locs, free z.base) (hc : cells ≤ mc) (hs : slots ≤ ms) :
    vx_W p l e R s m args below meth c H locs cells slots (vx_MQ below Qc XC args s mc ms free) (F0 m pc ls rest) q := by
  intro T hT X
  have hpl : e.platform.magicAccessors = ({} : Platform).magicAccessors := by rw [X.admits.platform]
  obtain ⟨vm', hW', X', st⟩ := X.outThrough hlocks q (g := F0 m pc ls rest) rfl rfl rfl (cell := ce) (by rw [hT]; exact hcell) (by rw [hv]; rfl)
    (by obtain ⟨k9, h9, -⟩ := Vm.findClass_spec hcl; exact ⟨k9, h9⟩) (fun z hz => by
      rcases hpass z hz with h | ⟨hz0, nm, hl1, hn1⟩
      · exact Or.inl h
      · obtain ⟨c6, hc6, hcl6⟩ := Cond.classLink_spec hown hl1 e.platform hpl
        obtain ⟨a8, b8, h1, h2, h3⟩ := hn1
        cases Option.some.inj (h1.symm.trans hcl)
        cases Option.some.inj (h2.symm.trans hc6)
        exact Or.inr ⟨hz0, _, hcl6, h3⟩)
  obtain ⟨g₀, hfr⟩ := X'.frames_eq
  have hcell9 : ((T.setVm vm').setFrames (.throwing q :: below)).heap[q]? = some ce := by
    show T.heap[q]? = some ce
    rw [hT]; exact hcell
  have hend : Ended ((T.setVm vm').setFrames (.throwing q :: below)) below (.threw q) := State.frames_setFrames _ (State.cur_lt_of_frames hfr)
  refine ⟨(T.setVm vm').setFrames (.throwing q :: below), ?_, .threw q, X'.here.running, hend, Or.inr ⟨q, rfl, E, ce, locs, hx _ hT (X'.ends _).1.alike, hcell9, hv, hcl, (X'.ends _).1, (X'.ends _).2.mono hc hs, hf⟩⟩
  rw [X.pushThrowing_eq]
  exact st
/-- a thing of a world lies in the heap -/
theorem vx_lt {D : va_G} {cl : List vw_C} {ws : va_W} {H1 : Heap} (h : va_P D cl ws H1) {k : Nat} {q : Nat × va_E} (hk : ws[k]? = some q) : q.1 < H1.size := (h k q hk).lt
end VXS
/-! ===== END ===== -/
/-! ===== BEGIN methods with a table of their own: called by a name, returning or throwing ===== -/
section VXH
/-! vx_backW, vx_callVX, vx_callSX, vx_callVW, vx_runVW, vx_runVX, vx_runSX, vx_ofWH follow the same proofs as their sisters above (Free/Laws.lean, Shelf42/LK1.lean); vx_outP calls Shelf42/NT130.lean (outThrough). -/
section
variable {l : Launch} {R : Room} {p : Program} {e : Env} {below : List Frame} {s : State} {sargs : Array Value} {y : MethodName} {len W9 : Nat}
theorem vx_backW {ws : List Cond} {rm : Room} {Pc : Array Value → State → Prop} {Qc : Array Value → State → Outcome → State → Prop} {XC : String → State → State → Prop} {mc ms : Nat} {free : Addr → Prop} {bytes : ByteArray} {maxL : Nat} {ret : Option FieldType} {hh : List (Nat × Nat × Nat × Nat)}
    (hM : vx_Met l y ws rm Pc Qc XC mc ms free) (hblind : FrameBlind Pc) (hrc : rm.cells = mc) (hrs : rm.slots = ms)
    (hframes : rm.frames + 1 ≤ R.frames) (hlocals : W9 + (maxL + 11) + rm.locals ≤ R.locals)
    (hws : ∀ w ∈ ws, ∀ a' U, s.WarmedH U.vm → w.before a' U = true) (hcode : Cond.codeWith y bytes maxL ret hh ∈ ws) (hinit : ∀ a' U, s.WarmedH U.vm → (Cond.initialized y.cls).before a' U = true) :
    vx_Back l R p e below s sargs y len W9 (PreOf R mc ms Pc) (PostOf Qc mc ms free) (vx_Post XC mc ms free) := by
  intro m meth c A g ig mk a X hg hsize hdg hW hn hp
  have h1 : (headSpec ws rm).pre.before a A.U = true := atoms_intro fun w hw => hws w hw _ _ X.warmed
  have h2 : (Cond.codeWith y bytes maxL ret hh).before a A.U = true := hws _ hcode _ _ X.warmed
  have h3 : (Cond.initialized y.cls).before a A.U = true := hinit _ _ X.warmed
  have h4 : A.cells + (headSpec ws rm).room.cells ≤ R.cells := by rw [show (headSpec ws rm).room.cells = mc from hrc]; exact hp.1
  have h5 : A.slots + (headSpec ws rm).room.slots ≤ R.slots := by rw [show (headSpec ws rm).room.slots = ms from hrs]; exact hp.2.1
  have hPc : Pc a (A.U.calling g mk a) := hblind _ _ _ _ hp.2.2
  obtain ⟨U, Ls, c0, s0⟩ := A
  dsimp only [Pt.U, Pt.locs, Pt.cells, Pt.slots] at h1 h2 h3 h4 h5 X hn hPc ⊢
  obtain ⟨m9, methY, cY, hn9, hmY, hcY, -, hlY, -⟩ := Cond.codeWith_spec h2
  cases Option.some.inj (hn9.symm.trans hn)
  obtain ⟨kY, hkY, -⟩ := className_of_methodNamed hn
  have hinitY : kY.init = .initialized := Cond.initialized_spec (findClass_of_methodNamed hn) hkY h3
  have h : At U g.method c below := by rw [hg]; exact X.here
  have hlocals9 : W9 + (maxL + 11) + (headSpec ws rm).room.locals ≤ R.locals := hlocals
  have happ : (headSpec ws rm).appliesLoose y e.platform (U.calling g mk a) = true :=
    Spec.appliesLoose_calling (g := g) h hdg hn hkY hinitY
      (X.room_calling (g := g) (R' := (headSpec ws rm).room) hsize hmY hcY hframes (by rw [hlY]; omega) h4 h5) h1
  obtain ⟨mid, hmid⟩ := h.above
  have hfr : (U.setTop g).frames = (.java g :: mid) ++ below := by rw [State.frames_setTop' g h.top, hmid]; rfl
  obtain ⟨o, s₂, hsteps, -, hend, hq⟩ := Steps.callFree hM p X.admits X.cas X.clock (acts := []) hfr happ hPc trivial
  have hq' : vx_Q Qc XC mc ms free a (U.calling g mk a) o s₂ := hq
  rw [State.frames_setTop' g h.top] at hend
  obtain ⟨g₀, hg0⟩ := Option.isSome_iff_exists.mp h.top
  obtain ⟨r, hr⟩ := State.topJava?_eq_some.mp hg0
  have hr' : (({ U with heap := s₂.heap, slotsUsed := s₂.slotsUsed } : State).setVm s₂.vm).frames = .java g₀ :: r := hr
  rcases hq' with ⟨hqc, L, hfe, hL⟩ | ⟨q, rfl, E, ce, L, hx, hce, hcv, hcl, hW₂, hsm, hL⟩
  · obtain ⟨⟨v, rfl⟩, hW₂, e2, q2, q3, q4, q5, q6⟩ := id hfe
    have e3 : s₂ = ({ (U.calling g mk a).setFrames s₂.frames with heap := s₂.heap, slotsUsed := s₂.slotsUsed } : State).setVm s₂.vm := by
      have : s₂ = ({ s₂ with vm := (U.calling g mk a).vm } : State).setVm s₂.vm := rfl
      rw [e2] at this
      exact this
    obtain ⟨c₂, i₂, len₂, hc₂, hd₂, hf₂⟩ := hend
    have hW' : U.WarmedH s₂.vm := hW₂
    have hcc : c₂ = c := by
      have h1 : s₂.code? g.method = U.code? g.method := by
        rw [State.code?_eq, State.code?_eq, hW'.alike.method?]
      exact Option.some.inj (hc₂.symm.trans (h1.trans h.code))
    subst hcc
    have hlen : len₂ = len := by rw [hdg] at hd₂; cases hd₂; rfl
    subst hlen
    have hs₂ : s₂ = (({ U with heap := s₂.heap, slotsUsed := s₂.slotsUsed } : State).setVm s₂.vm).setTop { g with pc := g.pc + len₂, stack := v.toList ++ g.stack } := by
      refine e3.trans ?_
      rw [hf₂, State.calling_eq h.top, State.setFrames_setFrames, State.setTop_of_frames _ hr', hr]
      rfl
    have hsame : U.sameButNew ({ U with heap := s₂.heap, slotsUsed := s₂.slotsUsed } : State) L mc ms := by
      refine ⟨?_, q2, q3, q4, q5, q6⟩
      obtain ⟨t, ht, -⟩ := State.frames_cons hr
      show ({ U with heap := s₂.heap, slotsUsed := s₂.slotsUsed } : State) = { U.setFrames U.frames with heap := s₂.heap, slotsUsed := s₂.slotsUsed }
      rw [State.setFrames_self ht]
    subst hg
    refine Or.inl ⟨v, ⟨(({ U with heap := s₂.heap, slotsUsed := s₂.slotsUsed } : State).setVm s₂.vm), Ls ++ L, c0 + mc, s0 + ms⟩,
      ⟨X.admits, X.cas, X.clock, X.frames, X.room, X.hears, X.method, X.code, (X.here.setHeapUsed s₂.heap s₂.slotsUsed).setVm hW'.alike, X.tail, State.WarmedH.trans X.warmed hW', X.limits, X.bytes, X.same.trans (hsame.setVm s.vm)⟩,
      ⟨g, mk, s₂, L, rfl, rfl, hqc, rfl, hL, rfl, rfl⟩, ?_⟩
    show Steps p.tables e below _ ((({ U with heap := s₂.heap, slotsUsed := s₂.slotsUsed } : State).setVm s₂.vm).setTop { g with pc := g.pc + len₂, stack := v.toList ++ g.stack })
    rw [← hs₂]
    exact hsteps
  · obtain ⟨e2, q2, q3, q4, q5, q6⟩ := id hsm
    have e3 : s₂ = ({ (U.calling g mk a).setFrames s₂.frames with heap := s₂.heap, slotsUsed := s₂.slotsUsed } : State).setVm s₂.vm := by
      have : s₂ = ({ s₂ with vm := (U.calling g mk a).vm } : State).setVm s₂.vm := rfl
      rw [e2] at this
      exact this
    have hf₂ : s₂.frames = .throwing q :: .java g :: U.frames.tail := hend
    have hW' : U.WarmedH s₂.vm := hW₂
    have hs₂ : s₂ = ((({ U with heap := s₂.heap, slotsUsed := s₂.slotsUsed } : State).setVm s₂.vm).setTop g).pushFrame (.throwing q) := by
      refine e3.trans ?_
      rw [hf₂, State.calling_eq h.top, State.setFrames_setFrames, State.pushFrame, State.frames_setTop _ hr', State.setTop_of_frames _ hr', State.setFrames_setFrames, hr]
      rfl
    have hsame : U.sameButNew ({ U with heap := s₂.heap, slotsUsed := s₂.slotsUsed } : State) L mc ms := by
      refine ⟨?_, q2, q3, q4, q5, q6⟩
      obtain ⟨t, ht, -⟩ := State.frames_cons hr
      show ({ U with heap := s₂.heap, slotsUsed := s₂.slotsUsed } : State) = { U.setFrames U.frames with heap := s₂.heap, slotsUsed := s₂.slotsUsed }
      rw [State.setFrames_self ht]
    subst hg
    refine Or.inr ⟨q, ⟨(({ U with heap := s₂.heap, slotsUsed := s₂.slotsUsed } : State).setVm s₂.vm), Ls ++ L, c0 + mc, s0 + ms⟩,
      ⟨X.admits, X.cas, X.clock, X.frames, X.room, X.hears, X.method, X.code, (X.here.setHeapUsed s₂.heap s₂.slotsUsed).setVm hW'.alike, X.tail, State.WarmedH.trans X.warmed hW', X.limits, X.bytes, X.same.trans (hsame.setVm s.vm)⟩,
      ⟨g, mk, s₂, L, E, ce, rfl, rfl, hx, hce, hcv, hcl, rfl, hL, rfl, rfl⟩, ?_⟩
    show Steps p.tables e below _ (((({ U with heap := s₂.heap, slotsUsed := s₂.slotsUsed } : State).setVm s₂.vm).setTop g).pushFrame (.throwing q))
    rw [← hs₂]
    exact hsteps
end
variable {p : Program} {l : Launch} {e : Env} {R : Room} {s : State} {m : MethodId} {args : Array Value} {below : List Frame} {meth : Method} {c : Code} {T : State} {H : Heap} {locs : List Loc} {cells slots : Nat}
theorem vx_callVX (X : Stand p l e R s m args below meth c T locs cells slots) (hexec : p.tables.exec = Jvm.exec) {own C : String} {index : Nat} {y : MethodName} {bytes : ByteArray} {maxL : Nat} {ret : Option FieldType} {hh : List (Nat × Nat × Nat × Nat)}
    (hown : s.vm.findClass own = some m.cls) (hlink : (Cond.methodLink own index y).before args s = true) (hinst : (Cond.instanceMethod y).before args s = true) (hsel : (Cond.selects C y y).before args s = true)
    (hcode : (Cond.codeWith y bytes maxL ret hh).before args s = true) (hy : y.cls ≠ "java/lang/invoke/MethodHandle" ∧ y.cls ≠ "java/lang/invoke/VarHandle")
    {W9 : Nat} {Pre : Pt → Array Value → Prop} {Post : Pt → Array Value → Option Value → Pt → Prop} {PostX : Pt → Array Value → Addr → Pt → Prop} (hK : vx_Back l R p e below s args y 3 W9 Pre Post PostX)
    {b : Addr} {cellB : Cell} (hcell : T.heap[b]? = some cellB) (hobj : cellB.vm.isStatics = false) (hcls : s.vm.findClass C = some cellB.cls)
    {g : JFrame} (hg : g.method = m) (hsize : g.locals.size = c.maxLocals) {argsL rest : List Value} (hlen : ∀ sig, parseMethodDescriptor y.desc = some sig → argsL.length = sig.parameters.length)
    (hstack : g.stack = argsL.reverse ++ .ref b :: rest) (hW : 2 * g.monitorRoom + (rest.map fun v => v.category).sum ≤ W9) (hdg : decode c.code g.pc = .ok (.invokevirtual index, 3))
    (hpre : ∀ vm₁, s.WarmedH vm₁ → Pre ⟨T.setVm vm₁, locs, cells, slots⟩ (Value.ref b :: argsL).toArray) :
    (∃ (v : Option Value) (vm₁ : Vm) (B : Pt), s.WarmedH vm₁ ∧ Stand p l e R s m args below meth c B.U B.locs B.cells B.slots ∧ Post ⟨T.setVm vm₁, locs, cells, slots⟩ (Value.ref b :: argsL).toArray v B ∧
      ∀ target, Steps p.tables e below (B.U.setTop { g with pc := g.pc + 3, stack := v.toList ++ rest }) target → Steps p.tables e below (T.setTop g) target) ∨
    (∃ (q : Addr) (vm₁ : Vm) (B : Pt), s.WarmedH vm₁ ∧ Stand p l e R s m args below meth c B.U B.locs B.cells B.slots ∧ PostX ⟨T.setVm vm₁, locs, cells, slots⟩ (Value.ref b :: argsL).toArray q B ∧
      Steps p.tables e below (T.setTop g) ((B.U.setTop { g with stack := rest }).pushFrame (.throwing q))) := by
  obtain ⟨mk, methM, hnamed, hmethM, hstM, habM⟩ := Cond.instanceMethod_spec hinst
  obtain ⟨m8, methM', cM, hn8, hmethM', -, -, -, -, -, -, hsigM⟩ := Cond.codeWith_spec hcode
  cases Option.some.inj (hn8.symm.trans hnamed)
  cases hmethM.symm.trans hmethM'
  obtain ⟨c2, r2, m2, q1, q2, q3, q4, kP, hkP, hkPi⟩ := Cond.selects_spec hsel
  cases hcls.symm.trans q1
  cases (State.methodFound?_of_named hnamed hy).symm.trans q2
  cases hnamed.symm.trans q3
  have hselP : selectMethod e.platform s.vm cellB.cls mk = .method mk := by rw [Launch.admits_selectMethod X.admits]; exact q4
  obtain ⟨vm₁, X₁, hstep₁⟩ := X.invokevirtual hexec hown hlink hnamed hmethM hstM hkP hkPi hy (a := b) (cell := cellB) hcell
    (fun z h => by rw [h] at hobj; cases hobj) hselP hmethM habM hkP hkPi (g := g) hg (argsL := argsL) (rest := rest) (hlen _ hsigM) hstack hdg
  rcases hK m meth c ⟨T.setVm vm₁, locs, cells, slots⟩ { g with stack := rest } (.invokevirtual index) mk (Value.ref b :: argsL).toArray X₁ hg hsize hdg hW (X₁.named hnamed) (hpre vm₁ X₁.warmed) with ⟨v, B, X', hpost, hsteps⟩ | ⟨q, B, X', hpost, hsteps⟩
  · exact Or.inl ⟨v, vm₁, B, X₁.warmed, X', hpost, fun target h => hstep₁ _ fun acts => by rw [doInvoke_state]; exact hsteps.trans h⟩
  · exact Or.inr ⟨q, vm₁, B, X₁.warmed, X', hpost, hstep₁ _ fun acts => by rw [doInvoke_state]; exact hsteps⟩
theorem vx_callSX (X : Stand p l e R s m args below meth c T locs cells slots) (hexec : p.tables.exec = Jvm.exec) {own : String} {index : Nat} {y : MethodName} {bytes : ByteArray} {maxL : Nat} {ret : Option FieldType} {hh : List (Nat × Nat × Nat × Nat)}
    (hown : s.vm.findClass own = some m.cls) (hlink : (Cond.methodLink own index y).before args s = true) (hstat : (Cond.static y).before args s = true) (hinit : (Cond.initialized y.cls).before args s = true)
    (hcode : (Cond.codeWith y bytes maxL ret hh).before args s = true) (hy : y.cls ≠ "java/lang/invoke/MethodHandle" ∧ y.cls ≠ "java/lang/invoke/VarHandle")
    {W9 : Nat} {Pre : Pt → Array Value → Prop} {Post : Pt → Array Value → Option Value → Pt → Prop} {PostX : Pt → Array Value → Addr → Pt → Prop} (hK : vx_Back l R p e below s args y 3 W9 Pre Post PostX)
    {g : JFrame} (hg : g.method = m) (hsize : g.locals.size = c.maxLocals) {argsL rest : List Value} (hlen : ∀ sig, parseMethodDescriptor y.desc = some sig → argsL.length = sig.parameters.length)
    (hstack : g.stack = argsL.reverse ++ rest) (hW : 2 * g.monitorRoom + (rest.map fun v => v.category).sum ≤ W9) (hdg : decode c.code g.pc = .ok (.invokestatic index, 3))
    (hpre : ∀ vm₁, s.WarmedH vm₁ → Pre ⟨T.setVm vm₁, locs, cells, slots⟩ argsL.toArray) :
    (∃ (v : Option Value) (vm₁ : Vm) (B : Pt), s.WarmedH vm₁ ∧ Stand p l e R s m args below meth c B.U B.locs B.cells B.slots ∧ Post ⟨T.setVm vm₁, locs, cells, slots⟩ argsL.toArray v B ∧
      ∀ target, Steps p.tables e below (B.U.setTop { g with pc := g.pc + 3, stack := v.toList ++ rest }) target → Steps p.tables e below (T.setTop g) target) ∨
    (∃ (q : Addr) (vm₁ : Vm) (B : Pt), s.WarmedH vm₁ ∧ Stand p l e R s m args below meth c B.U B.locs B.cells B.slots ∧ PostX ⟨T.setVm vm₁, locs, cells, slots⟩ argsL.toArray q B ∧
      Steps p.tables e below (T.setTop g) ((B.U.setTop { g with stack := rest }).pushFrame (.throwing q))) := by
  obtain ⟨mk, methM, cM, hnamed, hmethM, -, -, -, -, -, -, hsigM⟩ := Cond.codeWith_spec hcode
  have hstatic : methM.isStatic = true := Cond.static_spec hnamed hmethM hstat
  obtain ⟨kP, hkP, -⟩ := className_of_methodNamed hnamed
  have hinitP : kP.init = .initialized := Cond.initialized_spec (findClass_of_methodNamed hnamed) hkP hinit
  obtain ⟨vm₁, X₁, hstep₁⟩ := X.invokestatic hexec hown hlink hnamed hmethM hstatic hkP hinitP hy (g := g) hg (argsL := argsL) (rest := rest) (hlen _ hsigM) hstack hdg
  rcases hK m meth c ⟨T.setVm vm₁, locs, cells, slots⟩ { g with stack := rest } (.invokestatic index) mk argsL.toArray X₁ hg hsize hdg hW (X₁.named hnamed) (hpre vm₁ X₁.warmed) with ⟨v, B, X', hpost, hsteps⟩ | ⟨q, B, X', hpost, hsteps⟩
  · exact Or.inl ⟨v, vm₁, B, X₁.warmed, X', hpost, fun target h => hstep₁ _ fun acts => by rw [doInvoke_state]; exact hsteps.trans h⟩
  · exact Or.inr ⟨q, vm₁, B, X₁.warmed, X', hpost, hstep₁ _ fun acts => by rw [doInvoke_state]; exact hsteps⟩
theorem vx_callVW (X : Stand p l e R s m args below meth c T locs cells slots) (hexec : p.tables.exec = Jvm.exec) {own C : String} {index : Nat} {y : MethodName} {bytes : ByteArray} {maxL : Nat} {ret : Option FieldType} {hh : List (Nat × Nat × Nat × Nat)}
    (hown : s.vm.findClass own = some m.cls) (hlink : (Cond.methodLink own index y).before args s = true) (hinst : (Cond.instanceMethod y).before args s = true) (hsel : (Cond.selects C y y).before args s = true)
    (hcode : (Cond.codeWith y bytes maxL ret hh).before args s = true) (hy : y.cls ≠ "java/lang/invoke/MethodHandle" ∧ y.cls ≠ "java/lang/invoke/VarHandle")
    {W9 : Nat} {Pre : Pt → Array Value → Prop} {Post : Pt → Array Value → Option Value → Pt → Prop} (hK : Back l R p e below s args y 3 W9 Pre Post)
    {b : Addr} {cellB : Cell} (hcell : T.heap[b]? = some cellB) (hobj : cellB.vm.isStatics = false) (hcls : s.vm.findClass C = some cellB.cls)
    {g : JFrame} (hg : g.method = m) (hsize : g.locals.size = c.maxLocals) {argsL rest : List Value} (hlen : ∀ sig, parseMethodDescriptor y.desc = some sig → argsL.length = sig.parameters.length)
    (hstack : g.stack = argsL.reverse ++ .ref b :: rest) (hW : 2 * g.monitorRoom + (rest.map fun v => v.category).sum ≤ W9) (hdg : decode c.code g.pc = .ok (.invokevirtual index, 3))
    (hpre : ∀ vm₁, s.WarmedH vm₁ → Pre ⟨T.setVm vm₁, locs, cells, slots⟩ (Value.ref b :: argsL).toArray) :
    ∃ (v : Option Value) (vm₁ : Vm) (B : Pt), s.WarmedH vm₁ ∧ Stand p l e R s m args below meth c B.U B.locs B.cells B.slots ∧ Post ⟨T.setVm vm₁, locs, cells, slots⟩ (Value.ref b :: argsL).toArray v B ∧
      ∀ target, Steps p.tables e below (B.U.setTop { g with pc := g.pc + 3, stack := v.toList ++ rest }) target → Steps p.tables e below (T.setTop g) target := by
  obtain ⟨mk, methM, hnamed, hmethM, hstM, habM⟩ := Cond.instanceMethod_spec hinst
  obtain ⟨m8, methM', cM, hn8, hmethM', -, -, -, -, -, -, hsigM⟩ := Cond.codeWith_spec hcode
  cases Option.some.inj (hn8.symm.trans hnamed)
  cases hmethM.symm.trans hmethM'
  obtain ⟨c2, r2, m2, q1, q2, q3, q4, kP, hkP, hkPi⟩ := Cond.selects_spec hsel
  cases hcls.symm.trans q1
  cases (State.methodFound?_of_named hnamed hy).symm.trans q2
  cases hnamed.symm.trans q3
  have hselP : selectMethod e.platform s.vm cellB.cls mk = .method mk := by rw [Launch.admits_selectMethod X.admits]; exact q4
  obtain ⟨vm₁, X₁, hstep₁⟩ := X.invokevirtual hexec hown hlink hnamed hmethM hstM hkP hkPi hy (a := b) (cell := cellB) hcell
    (fun z h => by rw [h] at hobj; cases hobj) hselP hmethM habM hkP hkPi (g := g) hg (argsL := argsL) (rest := rest) (hlen _ hsigM) hstack hdg
  obtain ⟨v, B, X', hpost, hsteps⟩ := hK m meth c ⟨T.setVm vm₁, locs, cells, slots⟩ { g with stack := rest } (.invokevirtual index) mk (Value.ref b :: argsL).toArray X₁ hg hsize hdg hW (X₁.named hnamed) (hpre vm₁ X₁.warmed)
  exact ⟨v, vm₁, B, X₁.warmed, X', hpost, fun target h => hstep₁ _ fun acts => by rw [doInvoke_state]; exact hsteps.trans h⟩
abbrev vx_CVW (R : Room) (s : State) (args : Array Value) (own C : String) (index : Nat) (y : MethodName) (bytes : ByteArray) (maxL : Nat) (ret : Option FieldType) (hh : List (Nat × Nat × Nat × Nat)) (ws : List Cond) (rm : Room) (mc ms n : Nat) : Prop :=
  (rm.cells = mc ∧ rm.slots = ms ∧ rm.frames + 1 ≤ R.frames ∧ 8 + (maxL + 11) + rm.locals ≤ R.locals ∧ (∀ w ∈ ws, ∀ (a' : Array Value) (U : State), s.WarmedH U.vm → w.before a' U = true) ∧ Cond.codeWith y bytes maxL ret hh ∈ ws) ∧
  (Cond.codeWith y bytes maxL ret hh).before args s = true ∧ (Cond.initialized y.cls).before args s = true ∧ (y.cls ≠ "java/lang/invoke/MethodHandle" ∧ y.cls ≠ "java/lang/invoke/VarHandle") ∧
  (∀ sig, parseMethodDescriptor y.desc = some sig → n = sig.parameters.length) ∧ (Cond.methodLink own index y).before args s = true ∧ (Cond.instanceMethod y).before args s = true ∧ (Cond.selects C y y).before args s = true
theorem vx_cwVW {own C : String} {index maxL mc ms : Nat} {y : MethodName} {bytes : ByteArray} {ret : Option FieldType} {hh : List (Nat × Nat × Nat × Nat)} {Ts ws ws' : List Cond} {rm : Room} (n : Nat) (ht : ∀ w ∈ Ts, w.before args s = true) (hT : GoodIn Ts (wsV own index C y ws)) (hw : ws = Cond.codeWith y bytes maxL ret hh :: ws') (hrc : rm.cells = mc) (hrs : rm.slots = ms)
    (hd : y.cls = C ∧ y.cls ≠ "java/lang/invoke/MethodHandle" ∧ y.cls ≠ "java/lang/invoke/VarHandle" ∧ (parseMethodDescriptor y.desc).map (fun d => d.parameters.length) = some n) (hR : rm.frames + 1 ≤ R.frames ∧ 8 + (maxL + 11) + rm.locals ≤ R.locals) :
    vx_CVW R s args own C index y bytes maxL ret hh ws rm mc ms n := by
  obtain ⟨hC, hd⟩ := hd
  subst hC
  have ok : ∀ w ∈ wsV own index y.cls y ws, w.before args s = true := fun w h => ht w (hT w h).1
  have hG : GoodIn Ts ws := fun w h => hT w (by unfold wsV; exact List.mem_append_right _ h)
  have hc : Cond.codeWith y bytes maxL ret hh ∈ ws := by rw [hw]; exact List.mem_cons_self
  refine ⟨⟨hrc, hrs, hR.1, hR.2, pay_in ht hG, hc⟩, ht _ (hG _ hc).1, ok _ (by simp [wsV]), ⟨hd.1, hd.2.1⟩, fun sig h => ?_, ok _ (by simp [wsV]), ok _ (by simp [wsV]), ok _ (by simp [wsV])⟩
  have h2 := hd.2.2
  rw [h] at h2
  exact (Option.some.inj h2).symm
theorem vx_runVW {y : MethodName} {bytes cc : ByteArray} {maxL nL mc ms n index : Nat} {ret : Option FieldType} {hh : List (Nat × Nat × Nat × Nat)} {ws : List Cond} {rm : Room} {Pc : Array Value → State → Prop} {Qc : Array Value → State → Outcome → State → Prop} {free : Addr → Prop} {Ts : List Cond} {own C : String} {b : Addr} {As rest : List Value} {g : JFrame}
    (S : CallFix p m c cc nL s args Ts own) (hM : Met l y ws rm Pc Qc mc ms free) (cw : vx_CVW R s args own C index y bytes maxL ret hh ws rm mc ms n) (hp : PreV s H C b Pc As)
    (hg : g.method = m) (hn : As.length = n) (hsize : g.locals.size = nL) (hstack : g.stack = As.reverse ++ .ref b :: rest) (hW : 2 * g.monitorRoom + (rest.map fun v => v.category).sum ≤ 8) (hdg : decode cc g.pc = .ok (.invokevirtual index, 3)) (hf : cells + mc ≤ R.cells ∧ slots + ms ≤ R.slots) :
    va_Run p l e R s m args below meth c H locs cells slots mc ms g rest (Qc (Value.ref b :: As).toArray) free := by
  obtain ⟨⟨hrc, hrs, hfr, hlo, hws, hcw⟩, hcode, hini, hy, hlen, hl, hin, hse⟩ := cw
  have hK : Back l R p e below s args y 3 8 (PreOf R mc ms Pc) (PostOf Qc mc ms free) := va_backW (hh := hh) (bytes := bytes) (maxL := maxL) (ret := ret) hM hp.1 hrc hrs hfr hlo hws hcw (fun a' U hW => word_at hW (Or.inl (by first | rfl | simp [Cond.onTables, Cond.keeps, Cond.steady])) hini)
  obtain ⟨hx, hb, hml, ho, -⟩ := S
  obtain ⟨-, ⟨cellB, hcB, hoB, hclB⟩, hPc⟩ := hp
  intro T hT X
  obtain ⟨v, vm₁, ⟨U', l2, c2, s2⟩, hW₁, X', ⟨g', mk, t, L, e1, e2, hq, h1, hL, h2, h3⟩, st⟩ := vx_callVW X hx (C := C) (hh := hh) (bytes := bytes) (maxL := maxL) (ret := ret) ho hl hin hse hcode hy hK (by rw [hT]; exact hcB) hoB hclB hg (hsize.trans hml.symm) (argsL := As) (rest := rest) (fun sig h => hn.trans (hlen sig h)) hstack hW (by rw [hb]; exact hdg)
    (fun vm₁ hW₁ => ⟨hf.1, hf.2, hPc (T.setVm vm₁) hT hW₁⟩)
  dsimp only [Pt.U, Pt.locs, Pt.cells, Pt.slots] at X' e1 e2 h1 h2 h3 st
  subst h1; subst h2; subst h3
  exact ⟨v, (T.setVm vm₁).calling g' mk (Value.ref b :: As).toArray, t, U', L, hT, X', hL, e1, e2, hq, st⟩
section
variable {y : MethodName} {bytes cc : ByteArray} {maxL nL mc ms n index : Nat} {ret : Option FieldType} {ws : List Cond} {rm : Room} {Pc : Array Value → State → Prop} {Qc : Array Value → State → Outcome → State → Prop} {XC : String → State → State → Prop} {free : Addr → Prop} {Ts : List Cond} {own C : String} {b : Addr} {As rest : List Value} {g : JFrame}
theorem vx_runVX {hh : List (Nat × Nat × Nat × Nat)} (S : CallFix p m c cc nL s args Ts own) (hM : vx_Met l y ws rm Pc Qc XC mc ms free) (cw : vx_CVW R s args own C index y bytes maxL ret hh ws rm mc ms n) (hp : PreV s H C b Pc As)
    (hg : g.method = m) (hn : As.length = n) (hsize : g.locals.size = nL) (hstack : g.stack = As.reverse ++ .ref b :: rest) (hW : 2 * g.monitorRoom + (rest.map fun v => v.category).sum ≤ 8) (hdg : decode cc g.pc = .ok (.invokevirtual index, 3)) (hf : cells + mc ≤ R.cells ∧ slots + ms ≤ R.slots) :
    vx_Run p l e R s m args below meth c H locs cells slots mc ms g rest (Qc (Value.ref b :: As).toArray) XC free := by
  obtain ⟨⟨hrc, hrs, hfr, hlo, hws, hcw⟩, hcode, hini, hy, hlen, hl, hin, hse⟩ := cw
  have hK : vx_Back l R p e below s args y 3 8 (PreOf R mc ms Pc) (PostOf Qc mc ms free) (vx_Post XC mc ms free) := vx_backW (hh := hh) (bytes := bytes) (maxL := maxL) (ret := ret) hM hp.1 hrc hrs hfr hlo hws hcw (fun a' U hW => word_at hW (Or.inl (by first | rfl | simp [Cond.onTables, Cond.keeps, Cond.steady])) hini)
  obtain ⟨hx, hb, hml, ho, -⟩ := S
  obtain ⟨-, ⟨cellB, hcB, hoB, hclB⟩, hPc⟩ := hp
  intro T hT X
  rcases vx_callVX X hx (C := C) (hh := hh) (bytes := bytes) (maxL := maxL) (ret := ret) ho hl hin hse hcode hy hK (by rw [hT]; exact hcB) hoB hclB hg (hsize.trans hml.symm) (argsL := As) (rest := rest) (fun sig h => hn.trans (hlen sig h)) hstack hW (by rw [hb]; exact hdg)
    (fun vm₁ hW₁ => ⟨hf.1, hf.2, hPc (T.setVm vm₁) hT hW₁⟩) with ⟨v, vm₁, ⟨U', l2, c2, s2⟩, hW₁, X', ⟨g', mk, t, L, e1, e2, hq, h1, hL, h2, h3⟩, st⟩ | ⟨q, vm₁, ⟨U', l2, c2, s2⟩, hW₁, X', ⟨g', mk, t, L, E, ce, e1, e2, hq, hce, hcv, hcl, h1, hL, h2, h3⟩, st⟩
  · dsimp only [Pt.U, Pt.locs, Pt.cells, Pt.slots] at X' e1 e2 h1 h2 h3 st
    subst h1; subst h2; subst h3
    exact Or.inl ⟨v, (T.setVm vm₁).calling g' mk (Value.ref b :: As).toArray, t, U', L, hT, X', hL, e1, e2, hq, st⟩
  · dsimp only [Pt.U, Pt.locs, Pt.cells, Pt.slots] at X' e1 e2 h1 h2 h3 st hcl
    subst h1; subst h2; subst h3
    exact Or.inr ⟨q, (T.setVm vm₁).calling g' mk (Value.ref b :: As).toArray, t, U', L, E, ce, hT, X', hL, e1, e2, hq, hce, hcv, vx_cls hW₁ hcl, st⟩
theorem vx_runSX {hh : List (Nat × Nat × Nat × Nat)} (S : CallFix p m c cc nL s args Ts own) (hM : vx_Met l y ws rm Pc Qc XC mc ms free) (cw : vx_CSW R s args own index y bytes maxL ret hh ws rm mc ms n) (hp : PreS s H Pc As)
    (hg : g.method = m) (hn : As.length = n) (hsize : g.locals.size = nL) (hstack : g.stack = As.reverse ++ rest) (hW : 2 * g.monitorRoom + (rest.map fun v => v.category).sum ≤ 8) (hdg : decode cc g.pc = .ok (.invokestatic index, 3)) (hf : cells + mc ≤ R.cells ∧ slots + ms ≤ R.slots) :
    vx_Run p l e R s m args below meth c H locs cells slots mc ms g rest (Qc As.toArray) XC free := by
  obtain ⟨⟨hrc, hrs, hfr, hlo, hws, hcw⟩, hcode, hini, hy, hlen, hl, hstt⟩ := cw
  have hK : vx_Back l R p e below s args y 3 8 (PreOf R mc ms Pc) (PostOf Qc mc ms free) (vx_Post XC mc ms free) := vx_backW (hh := hh) (bytes := bytes) (maxL := maxL) (ret := ret) hM hp.1 hrc hrs hfr hlo hws hcw (fun a' U hW => word_at hW (Or.inl (by first | rfl | simp [Cond.onTables, Cond.keeps, Cond.steady])) hini)
  obtain ⟨hx, hb, hml, ho, -⟩ := S
  intro T hT X
  rcases vx_callSX X hx (hh := hh) (bytes := bytes) (maxL := maxL) (ret := ret) ho hl hstt hini hcode hy hK hg (hsize.trans hml.symm) (argsL := As) (rest := rest) (fun sig h => hn.trans (hlen sig h)) hstack hW (by rw [hb]; exact hdg)
    (fun vm₁ hW₁ => ⟨hf.1, hf.2, hp.2 (T.setVm vm₁) hT hW₁⟩) with ⟨v, vm₁, ⟨U', l2, c2, s2⟩, hW₁, X', ⟨g', mk, t, L, e1, e2, hq, h1, hL, h2, h3⟩, st⟩ | ⟨q, vm₁, ⟨U', l2, c2, s2⟩, hW₁, X', ⟨g', mk, t, L, E, ce, e1, e2, hq, hce, hcv, hcl, h1, hL, h2, h3⟩, st⟩
  · dsimp only [Pt.U, Pt.locs, Pt.cells, Pt.slots] at X' e1 e2 h1 h2 h3 st
    subst h1; subst h2; subst h3
    exact Or.inl ⟨v, (T.setVm vm₁).calling g' mk As.toArray, t, U', L, hT, X', hL, e1, e2, hq, st⟩
  · dsimp only [Pt.U, Pt.locs, Pt.cells, Pt.slots] at X' e1 e2 h1 h2 h3 st hcl
    subst h1; subst h2; subst h3
    exact Or.inr ⟨q, (T.setVm vm₁).calling g' mk As.toArray, t, U', L, E, ce, hT, X', hL, e1, e2, hq, hce, hcv, vx_cls hW₁ hcl, st⟩
end
end VXH
theorem vx_ofWH {l : Launch} {y : MethodName} {ws ws' : List Cond} {rm : Room} {Pc : Array Value → State → Prop} {Qc : Array Value → State → Outcome → State → Prop} {XC : String → State → State → Prop} {mc ms : Nat} {free : Addr → Prop} {cc : ByteArray} {maxL : Nat} {ret : Option FieldType} {hh : List (Nat × Nat × Nat × Nat)}
    (hy : plainName y.cls = true) (hw : ws = Cond.codeWith y cc maxL ret hh :: ws')
    (body : ∀ p e s m args below meth c s₁, BodyLoose p l y (headSpec ws rm) cc maxL ret e s m args below meth c s₁ → c.maxLocals = maxL → Pc args s →
      W p l e (headSpec ws rm).room s m args below meth c s.heap [] 0 0 (vx_MQ below Qc XC args s mc ms free) (entryFrame m args maxL)) : vx_Met l y ws rm Pc Qc XC mc ms free := by
  refine MetFree.of_bodyS (code := cc) (maxLocals := maxL) (ret := ret) hy ?_ ?_
  · intro args s m h hn
    obtain ⟨m9, meth, c, hn9, h1, h2, h3, h4, -, h5, h6, -⟩ := Cond.codeWith_spec (atoms_spec (ws := ws) h _ (by rw [hw]; exact List.mem_cons_self))
    cases hn.symm.trans hn9
    exact ⟨meth, c, h1, h2, h3, h4, h5, h6⟩
  · intro p e s m args below meth c s₁ B hml hP _
    have hh0 : s₁.heap = s.heap := by rw [B.state]; rfl
    obtain ⟨t, a1, o, b1, b2, b3⟩ := body p e s m args below meth c s₁ B hml hP s₁ hh0 (Stand.of_body B)
    exact ⟨t, o, a1, b1, b2, b3⟩
/-! ===== END ===== -/

/-! ===== BEGIN printed: names, fields, word lists, decode rows ===== -/
def RX0 : String := "CannonStacks$Cat"
def TX0 : u_T := fun k => match k with
  | 0 => ("CannonStacks$Cat", "leap", "I", false)
  | 1 => ("CannonStacks$Cat", "on", "I", false)
  | _ => ("CannonStacks$Cat", "rolledOff", "I", false)
def tyX0 : Nat → FieldType := fun k => match k with
  | 0 => .int
  | 1 => .int
  | _ => .int
abbrev wsX00 : List Cond := u_ws RX0 TX0 3
theorem nmX0 : ∀ a, a < 3 → ∀ b, b < 3 → a ≠ b → (TX0 a).2.1 ≠ (TX0 b).2.1 := by decide +kernel
theorem tyX0_ok : ∀ k, k < 3 → parseFieldDescriptor (TX0 k).2.2.1 = some (tyX0 k) := by decide +kernel
abbrev cX0_init : ByteArray := prog_2_method_1_code
def yX0_init : MethodName := ⟨RX0, "<init>", "()V"⟩
abbrev cX0_copyFrom : ByteArray := prog_2_method_2_code
def yX0_copyFrom : MethodName := ⟨RX0, "copyFrom", "(LCannonStacks$Cat;)V"⟩
abbrev cX0_jump : ByteArray := prog_2_method_3_code
def yX0_jump : MethodName := ⟨RX0, "jump", "(I)V"⟩
def RX1 : String := "CannonStacks$Pile"
def TX1 : u_T := fun k => match k with
  | 0 => ("CannonStacks$Pile", "calibre", "I", false)
  | 1 => ("CannonStacks$Pile", "pyramid", "LCannonStacks$Pyramid;", false)
  | 2 => ("CannonStacks$Pile", "balls", "I", false)
  | _ => ("CannonStacks$Pile", "rust", "[I", true)
def tyX1 : Nat → FieldType := fun k => match k with
  | 0 => .int
  | 1 => .object "CannonStacks$Pyramid"
  | 2 => .int
  | _ => .array .int
abbrev wsX10 : List Cond := u_ws RX1 TX1 4
theorem nmX1 : ∀ a, a < 4 → ∀ b, b < 4 → a ≠ b → (TX1 a).2.1 ≠ (TX1 b).2.1 := by decide +kernel
theorem tyX1_ok : ∀ k, k < 4 → parseFieldDescriptor (TX1 k).2.2.1 = some (tyX1 k) := by decide +kernel
abbrev cX1_init : ByteArray := prog_3_method_1_code
def yX1_init : MethodName := ⟨RX1, "<init>", "(LCannonStacks$Pyramid;)V"⟩
abbrev cX1_begin : ByteArray := prog_3_method_2_code
def yX1_begin : MethodName := ⟨RX1, "begin", "(ILCannonStacks$Pyramid;)V"⟩
abbrev cX1_copyFrom : ByteArray := prog_3_method_3_code
def yX1_copyFrom : MethodName := ⟨RX1, "copyFrom", "(LCannonStacks$Pile;)V"⟩
abbrev cX1_spare : ByteArray := prog_3_method_4_code
def yX1_spare : MethodName := ⟨RX1, "spare", "()I"⟩
abbrev cX1_put : ByteArray := prog_3_method_5_code
def yX1_put : MethodName := ⟨RX1, "put", "(I)V"⟩
abbrev cX1_takeTop : ByteArray := prog_3_method_6_code
def yX1_takeTop : MethodName := ⟨RX1, "takeTop", "()I"⟩
abbrev cX1_rustOf : ByteArray := prog_3_method_7_code
def yX1_rustOf : MethodName := ⟨RX1, "rustOf", "(I)I"⟩
abbrev cX1_isCovered : ByteArray := prog_3_method_8_code
def yX1_isCovered : MethodName := ⟨RX1, "isCovered", "(I)Z"⟩
abbrev cX1_ballsOn : ByteArray := prog_3_method_9_code
def yX1_ballsOn : MethodName := ⟨RX1, "ballsOn", "(I)I"⟩
abbrev cX1_hasBrokenLayer : ByteArray := prog_3_method_10_code
def yX1_hasBrokenLayer : MethodName := ⟨RX1, "hasBrokenLayer", "()Z"⟩
abbrev cX1_bareBalls : ByteArray := prog_3_method_11_code
def yX1_bareBalls : MethodName := ⟨RX1, "bareBalls", "()I"⟩
abbrev cX1_rustyBalls : ByteArray := prog_3_method_12_code
def yX1_rustyBalls : MethodName := ⟨RX1, "rustyBalls", "(I)I"⟩
abbrev cX1_greatestRust : ByteArray := prog_3_method_13_code
def yX1_greatestRust : MethodName := ⟨RX1, "greatestRust", "()I"⟩
abbrev cX1_allRust : ByteArray := prog_3_method_14_code
def yX1_allRust : MethodName := ⟨RX1, "allRust", "()I"⟩
abbrev cX1_scourBare : ByteArray := prog_3_method_15_code
def yX1_scourBare : MethodName := ⟨RX1, "scourBare", "()I"⟩
abbrev cX1_throwAway : ByteArray := prog_3_method_16_code
def yX1_throwAway : MethodName := ⟨RX1, "throwAway", "(I)I"⟩
abbrev cX1_rustForADay : ByteArray := prog_3_method_17_code
def yX1_rustForADay : MethodName := ⟨RX1, "rustForADay", "(I)V"⟩
def RX2 : String := "CannonStacks$Pyramid"
def TX2 : u_T := fun k => match k with
  | 0 => ("CannonStacks$Pyramid", "edge", "I", true)
  | 1 => ("CannonStacks$Pyramid", "capacity", "I", true)
  | 2 => ("CannonStacks$Pyramid", "starts", "[I", true)
  | _ => ("CannonStacks$Pyramid", "coverers", "[I", true)
def tyX2 : Nat → FieldType := fun k => match k with
  | 0 => .int
  | 1 => .int
  | 2 => .array .int
  | _ => .array .int
abbrev wsX20 : List Cond := u_ws RX2 TX2 4
theorem nmX2 : ∀ a, a < 4 → ∀ b, b < 4 → a ≠ b → (TX2 a).2.1 ≠ (TX2 b).2.1 := by decide +kernel
theorem tyX2_ok : ∀ k, k < 4 → parseFieldDescriptor (TX2 k).2.2.1 = some (tyX2 k) := by decide +kernel
abbrev cX2_init : ByteArray := prog_4_method_1_code
def yX2_init : MethodName := ⟨RX2, "<init>", "(I)V"⟩
abbrev cX2_squares : ByteArray := prog_4_method_2_code
def yX2_squares : MethodName := ⟨RX2, "squares", "(I)I"⟩
abbrev cX2_numberOf : ByteArray := prog_4_method_3_code
def yX2_numberOf : MethodName := ⟨RX2, "numberOf", "(III)I"⟩
abbrev cX2_startOf : ByteArray := prog_4_method_4_code
def yX2_startOf : MethodName := ⟨RX2, "startOf", "(I)I"⟩
abbrev cX2_firstOn : ByteArray := prog_4_method_5_code
def yX2_firstOn : MethodName := ⟨RX2, "firstOn", "(I)I"⟩
abbrev cX2_layersBegun : ByteArray := prog_4_method_6_code
def yX2_layersBegun : MethodName := ⟨RX2, "layersBegun", "(I)I"⟩
abbrev cX2_layersFull : ByteArray := prog_4_method_7_code
def yX2_layersFull : MethodName := ⟨RX2, "layersFull", "(I)I"⟩
abbrev cX2_layerOf : ByteArray := prog_4_method_8_code
def yX2_layerOf : MethodName := ⟨RX2, "layerOf", "(I)I"⟩
abbrev cX2_rowOf : ByteArray := prog_4_method_9_code
def yX2_rowOf : MethodName := ⟨RX2, "rowOf", "(I)I"⟩
abbrev cX2_placeOf : ByteArray := prog_4_method_10_code
def yX2_placeOf : MethodName := ⟨RX2, "placeOf", "(I)I"⟩
def RX3 : String := "CannonStacks$Yard"
def TX3 : u_T := fun k => match k with
  | 0 => ("CannonStacks$Yard", "piles", "[LCannonStacks$Pile;", true)
  | 1 => ("CannonStacks$Yard", "cats", "[LCannonStacks$Cat;", true)
  | 2 => ("CannonStacks$Yard", "loose", "[I", true)
  | 3 => ("CannonStacks$Yard", "pileCount", "I", false)
  | 4 => ("CannonStacks$Yard", "catCount", "I", false)
  | 5 => ("CannonStacks$Yard", "day", "I", false)
  | 6 => ("CannonStacks$Yard", "rain", "I", false)
  | _ => ("CannonStacks$Yard", "limit", "I", false)
def tyX3 : Nat → FieldType := fun k => match k with
  | 0 => .array (.object "CannonStacks$Pile")
  | 1 => .array (.object "CannonStacks$Cat")
  | 2 => .array .int
  | 3 => .int
  | 4 => .int
  | 5 => .int
  | 6 => .int
  | _ => .int
abbrev wsX30 : List Cond := u_ws RX3 TX3 8
theorem nmX3 : ∀ a, a < 8 → ∀ b, b < 8 → a ≠ b → (TX3 a).2.1 ≠ (TX3 b).2.1 := by decide +kernel
theorem tyX3_ok : ∀ k, k < 8 → parseFieldDescriptor (TX3 k).2.2.1 = some (tyX3 k) := by decide +kernel
abbrev cX3_init : ByteArray := prog_5_method_1_code
def yX3_init : MethodName := ⟨RX3, "<init>", "(LCannonStacks$Pyramid;)V"⟩
abbrev cX3_copyFrom : ByteArray := prog_5_method_2_code
def yX3_copyFrom : MethodName := ⟨RX3, "copyFrom", "(LCannonStacks$Yard;)V"⟩
abbrev cX3_passDays : ByteArray := prog_5_method_3_code
def yX3_passDays : MethodName := ⟨RX3, "passDays", "(I)I"⟩
abbrev cX3_passOneDay : ByteArray := prog_5_method_4_code
def yX3_passOneDay : MethodName := ⟨RX3, "passOneDay", "()I"⟩
abbrev cX3_letJump : ByteArray := prog_5_method_5_code
def yX3_letJump : MethodName := ⟨RX3, "letJump", "(LCannonStacks$Cat;)I"⟩
abbrev cX3_ballsOfCalibre : ByteArray := prog_5_method_6_code
def yX3_ballsOfCalibre : MethodName := ⟨RX3, "ballsOfCalibre", "(I)I"⟩
abbrev cX3_ballCount : ByteArray := prog_5_method_7_code
def yX3_ballCount : MethodName := ⟨RX3, "ballCount", "(I)I"⟩
def RX4 : String := "CannonStacks"
def TX4 : u_T := fun k => match k with
  | 0 => ("CannonStacks", "pyramids", "[LCannonStacks$Pyramid;", true)
  | 1 => ("CannonStacks", "store", "[I", true)
  | 2 => ("CannonStacks", "fired", "[I", true)
  | 3 => ("CannonStacks", "thrownAway", "[I", true)
  | 4 => ("CannonStacks", "yard", "LCannonStacks$Yard;", true)
  | _ => ("CannonStacks", "trial", "LCannonStacks$Yard;", true)
def tyX4 : Nat → FieldType := fun k => match k with
  | 0 => .array (.object "CannonStacks$Pyramid")
  | 1 => .array .int
  | 2 => .array .int
  | 3 => .array .int
  | 4 => .object "CannonStacks$Yard"
  | _ => .object "CannonStacks$Yard"
abbrev wsX40 : List Cond := u_ws RX4 TX4 6
theorem nmX4 : ∀ a, a < 6 → ∀ b, b < 6 → a ≠ b → (TX4 a).2.1 ≠ (TX4 b).2.1 := by decide +kernel
theorem tyX4_ok : ∀ k, k < 6 → parseFieldDescriptor (TX4 k).2.2.1 = some (tyX4 k) := by decide +kernel
abbrev cX4_init : ByteArray := prog_1_method_1_code
def yX4_init : MethodName := ⟨RX4, "<init>", "()V"⟩
abbrev cX4_pile : ByteArray := prog_1_method_2_code
def yX4_pile : MethodName := ⟨RX4, "pile", "(II)I"⟩
abbrev cX4_cat : ByteArray := prog_1_method_3_code
def yX4_cat : MethodName := ⟨RX4, "cat", "(I)I"⟩
abbrev cX4_give : ByteArray := prog_1_method_4_code
def yX4_give : MethodName := ⟨RX4, "give", "(II)I"⟩
abbrev cX4_setRain : ByteArray := prog_1_method_5_code
def yX4_setRain : MethodName := ⟨RX4, "setRain", "(I)I"⟩
abbrev cX4_setLimit : ByteArray := prog_1_method_6_code
def yX4_setLimit : MethodName := ⟨RX4, "setLimit", "(I)I"⟩
abbrev cX4_stack : ByteArray := prog_1_method_7_code
def yX4_stack : MethodName := ⟨RX4, "stack", "(II)I"⟩
abbrev cX4_fire : ByteArray := prog_1_method_8_code
def yX4_fire : MethodName := ⟨RX4, "fire", "(II)I"⟩
abbrev cX4_scour : ByteArray := prog_1_method_9_code
def yX4_scour : MethodName := ⟨RX4, "scour", "(I)I"⟩
abbrev cX4_inspect : ByteArray := prog_1_method_10_code
def yX4_inspect : MethodName := ⟨RX4, "inspect", "(I)I"⟩
abbrev cX4_shift : ByteArray := prog_1_method_11_code
def yX4_shift : MethodName := ⟨RX4, "shift", "(II)I"⟩
abbrev cX4_gather : ByteArray := prog_1_method_12_code
def yX4_gather : MethodName := ⟨RX4, "gather", "()I"⟩
abbrev cX4_chase : ByteArray := prog_1_method_13_code
def yX4_chase : MethodName := ⟨RX4, "chase", "(I)I"⟩
abbrev cX4_about : ByteArray := prog_1_method_14_code
def yX4_about : MethodName := ⟨RX4, "about", "(II)I"⟩
abbrev cX4_ball : ByteArray := prog_1_method_15_code
def yX4_ball : MethodName := ⟨RX4, "ball", "(III)I"⟩
abbrev cX4_at : ByteArray := prog_1_method_16_code
def yX4_at : MethodName := ⟨RX4, "at", "(IIII)I"⟩
abbrev cX4_told : ByteArray := prog_1_method_17_code
def yX4_told : MethodName := ⟨RX4, "told", "(II)I"⟩
abbrev cX4_mouser : ByteArray := prog_1_method_18_code
def yX4_mouser : MethodName := ⟨RX4, "mouser", "(II)I"⟩
abbrev cX4_count : ByteArray := prog_1_method_19_code
def yX4_count : MethodName := ⟨RX4, "count", "(I)I"⟩
abbrev cX4_room : ByteArray := prog_1_method_20_code
def yX4_room : MethodName := ⟨RX4, "room", "(I)I"⟩
abbrev cX4_side : ByteArray := prog_1_method_21_code
def yX4_side : MethodName := ⟨RX4, "side", "(I)I"⟩
abbrev cX4_pass : ByteArray := prog_1_method_22_code
def yX4_pass : MethodName := ⟨RX4, "pass", "(I)I"⟩
abbrev cX4_until : ByteArray := prog_1_method_23_code
def yX4_until : MethodName := ⟨RX4, "until", "(I)I"⟩
abbrev cX4_foresee : ByteArray := prog_1_method_24_code
def yX4_foresee : MethodName := ⟨RX4, "foresee", "(II)I"⟩
abbrev cX4_would : ByteArray := prog_1_method_25_code
def yX4_would : MethodName := ⟨RX4, "would", "(I)I"⟩
abbrev cX4_advise : ByteArray := prog_1_method_26_code
def yX4_advise : MethodName := ⟨RX4, "advise", "()I"⟩
abbrev cX4_mean : ByteArray := prog_1_method_27_code
def yX4_mean : MethodName := ⟨RX4, "mean", "()D"⟩
abbrev cX4_digest : ByteArray := prog_1_method_28_code
def yX4_digest : MethodName := ⟨RX4, "digest", "()J"⟩
abbrev cX4_digestOfPile : ByteArray := prog_1_method_29_code
def yX4_digestOfPile : MethodName := ⟨RX4, "digestOfPile", "(JI)J"⟩
abbrev cX4_checkPile : ByteArray := prog_1_method_30_code
def yX4_checkPile : MethodName := ⟨RX4, "checkPile", "(I)V"⟩
abbrev cX4_checkCat : ByteArray := prog_1_method_31_code
def yX4_checkCat : MethodName := ⟨RX4, "checkCat", "(I)V"⟩
abbrev cX4_checkCalibre : ByteArray := prog_1_method_32_code
def yX4_checkCalibre : MethodName := ⟨RX4, "checkCalibre", "(I)V"⟩
abbrev cX4_checkArgument : ByteArray := prog_1_method_33_code
def yX4_checkArgument : MethodName := ⟨RX4, "checkArgument", "(III)V"⟩
abbrev cX4_isOutside : ByteArray := prog_1_method_34_code
def yX4_isOutside : MethodName := ⟨RX4, "isOutside", "(III)Z"⟩
abbrev cX4_sum : ByteArray := prog_1_method_35_code
def yX4_sum : MethodName := ⟨RX4, "sum", "([I)I"⟩
def RX5 : String := "CannonStacksModel"
def TX5 : u_T := fun k => match k with
  | 0 => ("CannonStacksModel", "thrown", "I", false)
  | 1 => ("CannonStacksModel", "day", "I", false)
  | 2 => ("CannonStacksModel", "rain", "I", false)
  | 3 => ("CannonStacksModel", "limit", "I", false)
  | 4 => ("CannonStacksModel", "piles", "I", false)
  | 5 => ("CannonStacksModel", "cats", "I", false)
  | 6 => ("CannonStacksModel", "calibres", "[I", true)
  | 7 => ("CannonStacksModel", "sides", "[I", true)
  | 8 => ("CannonStacksModel", "leaps", "[I", true)
  | 9 => ("CannonStacksModel", "many", "[I", true)
  | 10 => ("CannonStacksModel", "rust", "[I", true)
  | 11 => ("CannonStacksModel", "numbers", "[I", true)
  | 12 => ("CannonStacksModel", "where", "[I", true)
  | 13 => ("CannonStacksModel", "rolled", "[I", true)
  | 14 => ("CannonStacksModel", "keptMany", "[I", true)
  | 15 => ("CannonStacksModel", "keptRust", "[I", true)
  | 16 => ("CannonStacksModel", "keptNumbers", "[I", true)
  | 17 => ("CannonStacksModel", "keptWhere", "[I", true)
  | _ => ("CannonStacksModel", "keptRolled", "[I", true)
def tyX5 : Nat → FieldType := fun k => match k with
  | 0 => .int
  | 1 => .int
  | 2 => .int
  | 3 => .int
  | 4 => .int
  | 5 => .int
  | 6 => .array .int
  | 7 => .array .int
  | 8 => .array .int
  | 9 => .array .int
  | 10 => .array .int
  | 11 => .array .int
  | 12 => .array .int
  | 13 => .array .int
  | 14 => .array .int
  | 15 => .array .int
  | 16 => .array .int
  | 17 => .array .int
  | _ => .array .int
abbrev wsX50 : List Cond := u_ws RX5 TX5 19
theorem nmX5 : ∀ a, a < 19 → ∀ b, b < 19 → a ≠ b → (TX5 a).2.1 ≠ (TX5 b).2.1 := by decide +kernel
theorem tyX5_ok : ∀ k, k < 19 → parseFieldDescriptor (TX5 k).2.2.1 = some (tyX5 k) := by decide +kernel
abbrev cX5_init : ByteArray := prog_7_method_1_code
def yX5_init : MethodName := ⟨RX5, "<init>", "()V"⟩
abbrev cX5_thrown : ByteArray := prog_7_method_2_code
def yX5_thrown : MethodName := ⟨RX5, "thrown", "()I"⟩
abbrev cX5_fail : ByteArray := prog_7_method_3_code
def yX5_fail : MethodName := ⟨RX5, "fail", "(I)I"⟩
abbrev cX5_isIn : ByteArray := prog_7_method_4_code
def yX5_isIn : MethodName := ⟨RX5, "isIn", "(III)Z"⟩
abbrev cX5_isPile : ByteArray := prog_7_method_5_code
def yX5_isPile : MethodName := ⟨RX5, "isPile", "(I)Z"⟩
abbrev cX5_isCalibre : ByteArray := prog_7_method_6_code
def yX5_isCalibre : MethodName := ⟨RX5, "isCalibre", "(I)Z"⟩
abbrev cX5_of : ByteArray := prog_7_method_7_code
def yX5_of : MethodName := ⟨RX5, "of", "(II)I"⟩
abbrev cX5_more : ByteArray := prog_7_method_8_code
def yX5_more : MethodName := ⟨RX5, "more", "(III)V"⟩
abbrev cX5_keep : ByteArray := prog_7_method_9_code
def yX5_keep : MethodName := ⟨RX5, "keep", "()V"⟩
abbrev cX5_bringBack : ByteArray := prog_7_method_10_code
def yX5_bringBack : MethodName := ⟨RX5, "bringBack", "()V"⟩
abbrev cX5_roomOf : ByteArray := prog_7_method_11_code
def yX5_roomOf : MethodName := ⟨RX5, "roomOf", "(I)I"⟩
abbrev cX5_room : ByteArray := prog_7_method_12_code
def yX5_room : MethodName := ⟨RX5, "room", "(II)I"⟩
abbrev cX5_layers : ByteArray := prog_7_method_13_code
def yX5_layers : MethodName := ⟨RX5, "layers", "(II)I"⟩
abbrev cX5_full : ByteArray := prog_7_method_14_code
def yX5_full : MethodName := ⟨RX5, "full", "(I)I"⟩
abbrev cX5_lies : ByteArray := prog_7_method_15_code
def yX5_lies : MethodName := ⟨RX5, "lies", "(III)I"⟩
abbrev cX5_full_ : ByteArray := prog_7_method_16_code
def yX5_full_ : MethodName := ⟨RX5, "full", "(II)I"⟩
abbrev cX5_ballAt : ByteArray := prog_7_method_17_code
def yX5_ballAt : MethodName := ⟨RX5, "ballAt", "(IIII)I"⟩
abbrev cX5_on : ByteArray := prog_7_method_18_code
def yX5_on : MethodName := ⟨RX5, "on", "(II)I"⟩
abbrev cX5_rustOf : ByteArray := prog_7_method_19_code
def yX5_rustOf : MethodName := ⟨RX5, "rustOf", "(II)I"⟩
abbrev cX5_pile : ByteArray := prog_7_method_20_code
def yX5_pile : MethodName := ⟨RX5, "pile", "(II)I"⟩
abbrev cX5_cat : ByteArray := prog_7_method_21_code
def yX5_cat : MethodName := ⟨RX5, "cat", "(I)I"⟩
abbrev cX5_give : ByteArray := prog_7_method_22_code
def yX5_give : MethodName := ⟨RX5, "give", "(II)I"⟩
abbrev cX5_setRain : ByteArray := prog_7_method_23_code
def yX5_setRain : MethodName := ⟨RX5, "setRain", "(I)I"⟩
abbrev cX5_setLimit : ByteArray := prog_7_method_24_code
def yX5_setLimit : MethodName := ⟨RX5, "setLimit", "(I)I"⟩
abbrev cX5_left : ByteArray := prog_7_method_25_code
def yX5_left : MethodName := ⟨RX5, "left", "(I)I"⟩
abbrev cX5_put : ByteArray := prog_7_method_26_code
def yX5_put : MethodName := ⟨RX5, "put", "(II)V"⟩
abbrev cX5_stack : ByteArray := prog_7_method_27_code
def yX5_stack : MethodName := ⟨RX5, "stack", "(II)I"⟩
abbrev cX5_fire : ByteArray := prog_7_method_28_code
def yX5_fire : MethodName := ⟨RX5, "fire", "(II)I"⟩
abbrev cX5_scour : ByteArray := prog_7_method_29_code
def yX5_scour : MethodName := ⟨RX5, "scour", "(I)I"⟩
abbrev cX5_rusty : ByteArray := prog_7_method_30_code
def yX5_rusty : MethodName := ⟨RX5, "rusty", "(I)I"⟩
abbrev cX5_inspect : ByteArray := prog_7_method_31_code
def yX5_inspect : MethodName := ⟨RX5, "inspect", "(I)I"⟩
abbrev cX5_shift : ByteArray := prog_7_method_32_code
def yX5_shift : MethodName := ⟨RX5, "shift", "(II)I"⟩
abbrev cX5_gather : ByteArray := prog_7_method_33_code
def yX5_gather : MethodName := ⟨RX5, "gather", "()I"⟩
abbrev cX5_chase : ByteArray := prog_7_method_34_code
def yX5_chase : MethodName := ⟨RX5, "chase", "(I)I"⟩
abbrev cX5_pileTold : ByteArray := prog_7_method_35_code
def yX5_pileTold : MethodName := ⟨RX5, "pileTold", "(II)I"⟩
abbrev cX5_about : ByteArray := prog_7_method_36_code
def yX5_about : MethodName := ⟨RX5, "about", "(II)I"⟩
abbrev cX5_ball : ByteArray := prog_7_method_37_code
def yX5_ball : MethodName := ⟨RX5, "ball", "(III)I"⟩
abbrev cX5_at : ByteArray := prog_7_method_38_code
def yX5_at : MethodName := ⟨RX5, "at", "(IIII)I"⟩
abbrev cX5_inPiles : ByteArray := prog_7_method_39_code
def yX5_inPiles : MethodName := ⟨RX5, "inPiles", "(I)I"⟩
abbrev cX5_calibreTold : ByteArray := prog_7_method_40_code
def yX5_calibreTold : MethodName := ⟨RX5, "calibreTold", "(II)I"⟩
abbrev cX5_told : ByteArray := prog_7_method_41_code
def yX5_told : MethodName := ⟨RX5, "told", "(II)I"⟩
abbrev cX5_catTold : ByteArray := prog_7_method_42_code
def yX5_catTold : MethodName := ⟨RX5, "catTold", "(II)I"⟩
abbrev cX5_mouser : ByteArray := prog_7_method_43_code
def yX5_mouser : MethodName := ⟨RX5, "mouser", "(II)I"⟩
abbrev cX5_all : ByteArray := prog_7_method_44_code
def yX5_all : MethodName := ⟨RX5, "all", "(I)I"⟩
abbrev cX5_counted : ByteArray := prog_7_method_45_code
def yX5_counted : MethodName := ⟨RX5, "counted", "(I)I"⟩
abbrev cX5_count : ByteArray := prog_7_method_46_code
def yX5_count : MethodName := ⟨RX5, "count", "(I)I"⟩
abbrev cX5_room_ : ByteArray := prog_7_method_47_code
def yX5_room_ : MethodName := ⟨RX5, "room", "(I)I"⟩
abbrev cX5_side : ByteArray := prog_7_method_48_code
def yX5_side : MethodName := ⟨RX5, "side", "(I)I"⟩
abbrev cX5_leap : ByteArray := prog_7_method_49_code
def yX5_leap : MethodName := ⟨RX5, "leap", "(I)V"⟩
abbrev cX5_dayOn : ByteArray := prog_7_method_50_code
def yX5_dayOn : MethodName := ⟨RX5, "dayOn", "()V"⟩
abbrev cX5_pass : ByteArray := prog_7_method_51_code
def yX5_pass : MethodName := ⟨RX5, "pass", "(I)I"⟩
abbrev cX5_until : ByteArray := prog_7_method_52_code
def yX5_until : MethodName := ⟨RX5, "until", "(I)I"⟩
abbrev cX5_foresee : ByteArray := prog_7_method_53_code
def yX5_foresee : MethodName := ⟨RX5, "foresee", "(II)I"⟩
abbrev cX5_would : ByteArray := prog_7_method_54_code
def yX5_would : MethodName := ⟨RX5, "would", "(I)I"⟩
abbrev cX5_advise : ByteArray := prog_7_method_55_code
def yX5_advise : MethodName := ⟨RX5, "advise", "()I"⟩
abbrev cX5_mean : ByteArray := prog_7_method_56_code
def yX5_mean : MethodName := ⟨RX5, "mean", "()D"⟩
abbrev cX5_digest : ByteArray := prog_7_method_57_code
def yX5_digest : MethodName := ⟨RX5, "digest", "()J"⟩
def RJ9 : String := "java/lang/Math"
def TJ9 : u_T := fun k => match k with
  | _ => ("", "", "", false)
def tyJ9 : Nat → FieldType := fun k => match k with
  | _ => .int
abbrev wsJ90 : List Cond := u_ws RJ9 TJ9 0
theorem nmJ9 : ∀ a, a < 0 → ∀ b, b < 0 → a ≠ b → (TJ9 a).2.1 ≠ (TJ9 b).2.1 := by decide +kernel
theorem tyJ9_ok : ∀ k, k < 0 → parseFieldDescriptor (TJ9 k).2.2.1 = some (tyJ9 k) := by decide +kernel
abbrev cJ9_max_7cf53 : ByteArray := prog_12_method_65_code
def yJ9_max_7cf53 : MethodName := ⟨RJ9, "max", "(II)I"⟩
abbrev cJ9_min_7cf53 : ByteArray := prog_12_method_69_code
def yJ9_min_7cf53 : MethodName := ⟨RJ9, "min", "(II)I"⟩
def RJ0 : String := "java/lang/String"
def TJ0 : u_T := fun k => match k with
  | _ => ("", "", "", false)
def tyJ0 : Nat → FieldType := fun k => match k with
  | _ => .int
abbrev wsJ00 : List Cond := u_ws RJ0 TJ0 0
theorem nmJ0 : ∀ a, a < 0 → ∀ b, b < 0 → a ≠ b → (TJ0 a).2.1 ≠ (TJ0 b).2.1 := by decide +kernel
theorem tyJ0_ok : ∀ k, k < 0 → parseFieldDescriptor (TJ0 k).2.2.1 = some (tyJ0 k) := by decide +kernel
def RJ10 : String := "java/lang/System"
def TJ10 : u_T := fun k => match k with
  | _ => ("", "", "", false)
def tyJ10 : Nat → FieldType := fun k => match k with
  | _ => .int
abbrev wsJ100 : List Cond := u_ws RJ10 TJ10 0
theorem nmJ10 : ∀ a, a < 0 → ∀ b, b < 0 → a ≠ b → (TJ10 a).2.1 ≠ (TJ10 b).2.1 := by decide +kernel
theorem tyJ10_ok : ∀ k, k < 0 → parseFieldDescriptor (TJ10 k).2.2.1 = some (tyJ10 k) := by decide +kernel
def RL : String := "CannonStacksLaw"
abbrev cL_pile : ByteArray := method_3_code
def yL_pile : MethodName := ⟨RL, "pile", "(LCannonStacks;II[J)I"⟩
abbrev cL_cat : ByteArray := method_4_code
def yL_cat : MethodName := ⟨RL, "cat", "(LCannonStacks;I[J)I"⟩
abbrev cL_give : ByteArray := method_5_code
def yL_give : MethodName := ⟨RL, "give", "(LCannonStacks;II[J)I"⟩
abbrev cL_setRain : ByteArray := method_6_code
def yL_setRain : MethodName := ⟨RL, "setRain", "(LCannonStacks;I[J)I"⟩
abbrev cL_setLimit : ByteArray := method_7_code
def yL_setLimit : MethodName := ⟨RL, "setLimit", "(LCannonStacks;I[J)I"⟩
abbrev cL_stack : ByteArray := method_8_code
def yL_stack : MethodName := ⟨RL, "stack", "(LCannonStacks;II[J)I"⟩
abbrev cL_fire : ByteArray := method_9_code
def yL_fire : MethodName := ⟨RL, "fire", "(LCannonStacks;II[J)I"⟩
abbrev cL_scour : ByteArray := method_10_code
def yL_scour : MethodName := ⟨RL, "scour", "(LCannonStacks;I[J)I"⟩
abbrev cL_inspect : ByteArray := method_11_code
def yL_inspect : MethodName := ⟨RL, "inspect", "(LCannonStacks;I[J)I"⟩
abbrev cL_shift : ByteArray := method_12_code
def yL_shift : MethodName := ⟨RL, "shift", "(LCannonStacks;II[J)I"⟩
abbrev cL_chase : ByteArray := method_13_code
def yL_chase : MethodName := ⟨RL, "chase", "(LCannonStacks;I[J)I"⟩
abbrev cL_about : ByteArray := method_14_code
def yL_about : MethodName := ⟨RL, "about", "(LCannonStacks;II[J)I"⟩
abbrev cL_ball : ByteArray := method_15_code
def yL_ball : MethodName := ⟨RL, "ball", "(LCannonStacks;III[J)I"⟩
abbrev cL_at : ByteArray := method_16_code
def yL_at : MethodName := ⟨RL, "at", "(LCannonStacks;IIII[J)I"⟩
abbrev cL_told : ByteArray := method_17_code
def yL_told : MethodName := ⟨RL, "told", "(LCannonStacks;II[J)I"⟩
abbrev cL_mouser : ByteArray := method_18_code
def yL_mouser : MethodName := ⟨RL, "mouser", "(LCannonStacks;II[J)I"⟩
abbrev cL_count : ByteArray := method_19_code
def yL_count : MethodName := ⟨RL, "count", "(LCannonStacks;I[J)I"⟩
abbrev cL_room : ByteArray := method_20_code
def yL_room : MethodName := ⟨RL, "room", "(LCannonStacks;I[J)I"⟩
abbrev cL_side : ByteArray := method_21_code
def yL_side : MethodName := ⟨RL, "side", "(LCannonStacks;I[J)I"⟩
abbrev cL_pass : ByteArray := method_22_code
def yL_pass : MethodName := ⟨RL, "pass", "(LCannonStacks;I[J)I"⟩
abbrev cL_until : ByteArray := method_23_code
def yL_until : MethodName := ⟨RL, "until", "(LCannonStacks;I[J)I"⟩
abbrev cL_foresee : ByteArray := method_24_code
def yL_foresee : MethodName := ⟨RL, "foresee", "(LCannonStacks;II[J)I"⟩
abbrev cL_would : ByteArray := method_25_code
def yL_would : MethodName := ⟨RL, "would", "(LCannonStacks;I[J)I"⟩
abbrev cL_law : ByteArray := code
def yL_law : MethodName := ⟨RL, "law", "([I)Z"⟩
def wsX0_init : List Cond := .code yX0_init cX0_init 1 none :: ([.methodLink RX0 3 objectInit, .instanceMethod objectInit, .code objectInit ⟨#[0xb1]⟩ 1 none, .fieldLink RX0 9 "CannonStacks$Cat" "on" "I"] ++ wsX00)
def wsX0_copyFrom : List Cond := .code yX0_copyFrom cX0_copyFrom 2 none :: ([.fieldLink RX0 15 "CannonStacks$Cat" "leap" "I", .fieldLink RX0 9 "CannonStacks$Cat" "on" "I", .fieldLink RX0 18 "CannonStacks$Cat" "rolledOff" "I"] ++ wsX00)
def wsX0_jump : List Cond := .code yX0_jump cX0_jump 2 none :: ([.fieldLink RX0 9 "CannonStacks$Cat" "on" "I", .fieldLink RX0 15 "CannonStacks$Cat" "leap" "I"] ++ wsX00)
def wsX1_init : List Cond := .code yX1_init cX1_init 2 none :: ([.methodLink RX1 3 objectInit, .instanceMethod objectInit, .code objectInit ⟨#[0xb1]⟩ 1 none, .fieldLink RX1 9 "CannonStacks$Pile" "pyramid" "LCannonStacks$Pyramid;", .arrayClass .int, .fieldLink RX1 15 "CannonStacks$Pile" "rust" "[I"] ++ wsX10)
def wsX1_begin : List Cond := .code yX1_begin cX1_begin 3 none :: ([.fieldLink RX1 19 "CannonStacks$Pile" "calibre" "I", .fieldLink RX1 9 "CannonStacks$Pile" "pyramid" "LCannonStacks$Pyramid;", .fieldLink RX1 23 "CannonStacks$Pile" "balls" "I"] ++ wsX10)
def wsX1_copyFrom : List Cond := .code yX1_copyFrom cX1_copyFrom 2 none :: ([.fieldLink RX1 19 "CannonStacks$Pile" "calibre" "I", .fieldLink RX1 9 "CannonStacks$Pile" "pyramid" "LCannonStacks$Pyramid;", .fieldLink RX1 23 "CannonStacks$Pile" "balls" "I", .fieldLink RX1 15 "CannonStacks$Pile" "rust" "[I", .methodLink RX1 26 arraycopyName, .native arraycopyName, .static arraycopyName, .initialized "java/lang/System"] ++ wsX10)
def wsX1_spare : List Cond := .code yX1_spare cX1_spare 1 (some .int) :: ([.fieldLink RX1 9 "CannonStacks$Pile" "pyramid" "LCannonStacks$Pyramid;", .fieldLink RX1 32 "CannonStacks$Pyramid" "capacity" "I", .fieldLink RX1 23 "CannonStacks$Pile" "balls" "I"] ++ wsX10 ++ wsX20)
def wsX1_put : List Cond := .code yX1_put cX1_put 2 none :: ([.fieldLink RX1 23 "CannonStacks$Pile" "balls" "I", .fieldLink RX1 15 "CannonStacks$Pile" "rust" "[I"] ++ wsX10)
def wsX1_takeTop : List Cond := .code yX1_takeTop cX1_takeTop 1 (some .int) :: ([.fieldLink RX1 23 "CannonStacks$Pile" "balls" "I", .fieldLink RX1 15 "CannonStacks$Pile" "rust" "[I"] ++ wsX10)
def wsX1_rustOf : List Cond := .code yX1_rustOf cX1_rustOf 2 (some .int) :: ([.fieldLink RX1 15 "CannonStacks$Pile" "rust" "[I"] ++ wsX10)
def wsX2_firstOn : List Cond := .code yX2_firstOn cX2_firstOn 2 (some .int) :: ([.fieldLink RX2 24 "CannonStacks$Pyramid" "coverers" "[I", .fieldLink RX2 17 "CannonStacks$Pyramid" "capacity" "I"] ++ wsX20)
def wsX1_isCovered : List Cond := .code yX1_isCovered cX1_isCovered 2 (some .boolean) :: ([.fieldLink RX1 9 "CannonStacks$Pile" "pyramid" "LCannonStacks$Pyramid;", .fieldLink RX1 23 "CannonStacks$Pile" "balls" "I", .methodLink RX1 37 yX2_firstOn, .instanceMethod yX2_firstOn, .selects RX2 yX2_firstOn yX2_firstOn, .initialized RX2, .code yX2_firstOn cX2_firstOn 2 (some .int), .fieldLink RX2 24 "CannonStacks$Pyramid" "coverers" "[I", .fieldLink RX2 17 "CannonStacks$Pyramid" "capacity" "I"] ++ wsX10 ++ wsX20)
def wsX2_layersFull : List Cond := .code yX2_layersFull cX2_layersFull 3 (some .int) :: ([.fieldLink RX2 7 "CannonStacks$Pyramid" "edge" "I", .fieldLink RX2 20 "CannonStacks$Pyramid" "starts" "[I"] ++ wsX20)
def wsX2_layerOf : List Cond := .code yX2_layerOf cX2_layerOf 2 (some .int) :: ([.methodLink RX2 36 yX2_layersFull, .instanceMethod yX2_layersFull, .selects RX2 yX2_layersFull yX2_layersFull, .initialized RX2, .code yX2_layersFull cX2_layersFull 3 (some .int), .fieldLink RX2 7 "CannonStacks$Pyramid" "edge" "I", .fieldLink RX2 20 "CannonStacks$Pyramid" "starts" "[I"] ++ wsX20)
def wsX2_startOf : List Cond := .code yX2_startOf cX2_startOf 2 (some .int) :: ([.fieldLink RX2 20 "CannonStacks$Pyramid" "starts" "[I", .fieldLink RX2 17 "CannonStacks$Pyramid" "capacity" "I"] ++ wsX20)
def wsX2_rowOf : List Cond := .code yX2_rowOf cX2_rowOf 4 (some .int) :: ([.fieldLink RX2 7 "CannonStacks$Pyramid" "edge" "I", .methodLink RX2 39 yX2_layerOf, .instanceMethod yX2_layerOf, .selects RX2 yX2_layerOf yX2_layerOf, .initialized RX2, .code yX2_layerOf cX2_layerOf 2 (some .int), .methodLink RX2 36 yX2_layersFull, .instanceMethod yX2_layersFull, .selects RX2 yX2_layersFull yX2_layersFull, .code yX2_layersFull cX2_layersFull 3 (some .int), .fieldLink RX2 20 "CannonStacks$Pyramid" "starts" "[I", .methodLink RX2 33 yX2_startOf, .instanceMethod yX2_startOf, .selects RX2 yX2_startOf yX2_startOf, .code yX2_startOf cX2_startOf 2 (some .int), .fieldLink RX2 17 "CannonStacks$Pyramid" "capacity" "I"] ++ wsX20)
def wsX2_placeOf : List Cond := .code yX2_placeOf cX2_placeOf 4 (some .int) :: ([.fieldLink RX2 7 "CannonStacks$Pyramid" "edge" "I", .methodLink RX2 39 yX2_layerOf, .instanceMethod yX2_layerOf, .selects RX2 yX2_layerOf yX2_layerOf, .initialized RX2, .code yX2_layerOf cX2_layerOf 2 (some .int), .methodLink RX2 36 yX2_layersFull, .instanceMethod yX2_layersFull, .selects RX2 yX2_layersFull yX2_layersFull, .code yX2_layersFull cX2_layersFull 3 (some .int), .fieldLink RX2 20 "CannonStacks$Pyramid" "starts" "[I", .methodLink RX2 33 yX2_startOf, .instanceMethod yX2_startOf, .selects RX2 yX2_startOf yX2_startOf, .code yX2_startOf cX2_startOf 2 (some .int), .fieldLink RX2 17 "CannonStacks$Pyramid" "capacity" "I"] ++ wsX20)
def wsX2_numberOf : List Cond := .code yX2_numberOf cX2_numberOf 4 (some .int) :: ([.fieldLink RX2 7 "CannonStacks$Pyramid" "edge" "I", .methodLink RX2 33 yX2_startOf, .instanceMethod yX2_startOf, .selects RX2 yX2_startOf yX2_startOf, .initialized RX2, .code yX2_startOf cX2_startOf 2 (some .int), .fieldLink RX2 20 "CannonStacks$Pyramid" "starts" "[I", .fieldLink RX2 17 "CannonStacks$Pyramid" "capacity" "I"] ++ wsX20)
def wsX1_ballsOn_r1 : List Cond := [Cond.fieldLink RX1 9 "CannonStacks$Pile" "pyramid" "LCannonStacks$Pyramid;", Cond.fieldLink RX1 50 "CannonStacks$Pyramid" "edge" "I", Cond.methodLink RX1 53 Lib.Math.max.name, Cond.static Lib.Math.max.name, Cond.initialized "java/lang/Math", Cond.code Lib.Math.max.name Lib.Math.max.code 2 (some .int), Cond.methodLink RX1 59 Lib.Math.min.name, Cond.static Lib.Math.min.name, Cond.code Lib.Math.min.name Lib.Math.min.code 2 (some .int), Cond.fieldLink RX1 23 "CannonStacks$Pile" "balls" "I", Cond.methodLink RX1 41 yX2_layerOf, Cond.instanceMethod yX2_layerOf, Cond.selects RX2 yX2_layerOf yX2_layerOf, Cond.initialized RX2, Cond.code yX2_layerOf cX2_layerOf 2 (some .int), Cond.methodLink RX2 36 yX2_layersFull, Cond.instanceMethod yX2_layersFull, Cond.selects RX2 yX2_layersFull yX2_layersFull, Cond.code yX2_layersFull cX2_layersFull 3 (some .int), Cond.fieldLink RX2 7 "CannonStacks$Pyramid" "edge" "I", Cond.fieldLink RX2 20 "CannonStacks$Pyramid" "starts" "[I", Cond.methodLink RX1 44 yX2_rowOf, Cond.instanceMethod yX2_rowOf, Cond.selects RX2 yX2_rowOf yX2_rowOf]
def wsX1_ballsOn_r2 : List Cond := [Cond.code yX2_rowOf cX2_rowOf 4 (some .int), Cond.methodLink RX2 39 yX2_layerOf, Cond.methodLink RX2 33 yX2_startOf, Cond.instanceMethod yX2_startOf, Cond.selects RX2 yX2_startOf yX2_startOf, Cond.code yX2_startOf cX2_startOf 2 (some .int), Cond.fieldLink RX2 17 "CannonStacks$Pyramid" "capacity" "I", Cond.methodLink RX1 47 yX2_placeOf, Cond.instanceMethod yX2_placeOf, Cond.selects RX2 yX2_placeOf yX2_placeOf, Cond.code yX2_placeOf cX2_placeOf 4 (some .int), Cond.methodLink RX1 62 yX2_numberOf, Cond.instanceMethod yX2_numberOf, Cond.selects RX2 yX2_numberOf yX2_numberOf, Cond.code yX2_numberOf cX2_numberOf 4 (some .int)]
def wsX1_ballsOn : List Cond := .code yX1_ballsOn cX1_ballsOn 9 (some .int) :: ((wsX1_ballsOn_r1 ++ wsX1_ballsOn_r2) ++ wsX10 ++ wsX20)
def wsX2_layersBegun : List Cond := .code yX2_layersBegun cX2_layersBegun 3 (some .int) :: ([.fieldLink RX2 7 "CannonStacks$Pyramid" "edge" "I", .fieldLink RX2 20 "CannonStacks$Pyramid" "starts" "[I"] ++ wsX20)
def wsX1_hasBrokenLayer : List Cond := .code yX1_hasBrokenLayer cX1_hasBrokenLayer 1 (some .boolean) :: ([.fieldLink RX1 9 "CannonStacks$Pile" "pyramid" "LCannonStacks$Pyramid;", .fieldLink RX1 23 "CannonStacks$Pile" "balls" "I", .methodLink RX1 66 yX2_layersBegun, .instanceMethod yX2_layersBegun, .selects RX2 yX2_layersBegun yX2_layersBegun, .initialized RX2, .code yX2_layersBegun cX2_layersBegun 3 (some .int), .fieldLink RX2 7 "CannonStacks$Pyramid" "edge" "I", .fieldLink RX2 20 "CannonStacks$Pyramid" "starts" "[I", .methodLink RX1 69 yX2_layersFull, .instanceMethod yX2_layersFull, .selects RX2 yX2_layersFull yX2_layersFull, .code yX2_layersFull cX2_layersFull 3 (some .int)] ++ wsX10 ++ wsX20)
def wsX1_bareBalls : List Cond := .code yX1_bareBalls cX1_bareBalls 3 (some .int) :: ([.fieldLink RX1 23 "CannonStacks$Pile" "balls" "I", .methodLink RX1 72 yX1_isCovered, .instanceMethod yX1_isCovered, .selects RX1 yX1_isCovered yX1_isCovered, .initialized RX1, .code yX1_isCovered cX1_isCovered 2 (some .boolean), .fieldLink RX1 9 "CannonStacks$Pile" "pyramid" "LCannonStacks$Pyramid;", .methodLink RX1 37 yX2_firstOn, .instanceMethod yX2_firstOn, .selects RX2 yX2_firstOn yX2_firstOn, .initialized RX2, .code yX2_firstOn cX2_firstOn 2 (some .int), .fieldLink RX2 24 "CannonStacks$Pyramid" "coverers" "[I", .fieldLink RX2 17 "CannonStacks$Pyramid" "capacity" "I"] ++ wsX10 ++ wsX20)
def wsX1_rustyBalls : List Cond := .code yX1_rustyBalls cX1_rustyBalls 4 (some .int) :: ([.fieldLink RX1 23 "CannonStacks$Pile" "balls" "I", .fieldLink RX1 15 "CannonStacks$Pile" "rust" "[I"] ++ wsX10)
def wsX1_greatestRust : List Cond := .code yX1_greatestRust cX1_greatestRust 3 (some .int) :: ([.fieldLink RX1 23 "CannonStacks$Pile" "balls" "I", .fieldLink RX1 15 "CannonStacks$Pile" "rust" "[I", .methodLink RX1 53 Lib.Math.max.name, .static Lib.Math.max.name, .initialized "java/lang/Math", .code Lib.Math.max.name Lib.Math.max.code 2 (some .int)] ++ wsX10)
def wsX1_allRust : List Cond := .code yX1_allRust cX1_allRust 3 (some .int) :: ([.fieldLink RX1 23 "CannonStacks$Pile" "balls" "I", .fieldLink RX1 15 "CannonStacks$Pile" "rust" "[I"] ++ wsX10)
def wsX1_scourBare : List Cond := .code yX1_scourBare cX1_scourBare 4 (some .int) :: ([.fieldLink RX1 23 "CannonStacks$Pile" "balls" "I", .fieldLink RX1 15 "CannonStacks$Pile" "rust" "[I", .methodLink RX1 59 Lib.Math.min.name, .static Lib.Math.min.name, .initialized "java/lang/Math", .code Lib.Math.min.name Lib.Math.min.code 2 (some .int), .methodLink RX1 72 yX1_isCovered, .instanceMethod yX1_isCovered, .selects RX1 yX1_isCovered yX1_isCovered, .initialized RX1, .code yX1_isCovered cX1_isCovered 2 (some .boolean), .fieldLink RX1 9 "CannonStacks$Pile" "pyramid" "LCannonStacks$Pyramid;", .methodLink RX1 37 yX2_firstOn, .instanceMethod yX2_firstOn, .selects RX2 yX2_firstOn yX2_firstOn, .initialized RX2, .code yX2_firstOn cX2_firstOn 2 (some .int), .fieldLink RX2 24 "CannonStacks$Pyramid" "coverers" "[I", .fieldLink RX2 17 "CannonStacks$Pyramid" "capacity" "I"] ++ wsX10 ++ wsX20)
def wsX1_throwAway : List Cond := .code yX1_throwAway cX1_throwAway 4 (some .int) :: ([.fieldLink RX1 23 "CannonStacks$Pile" "balls" "I", .fieldLink RX1 15 "CannonStacks$Pile" "rust" "[I"] ++ wsX10)
def wsX1_rustForADay : List Cond := .code yX1_rustForADay cX1_rustForADay 4 none :: ([.fieldLink RX1 23 "CannonStacks$Pile" "balls" "I", .fieldLink RX1 15 "CannonStacks$Pile" "rust" "[I", .methodLink RX1 59 Lib.Math.min.name, .static Lib.Math.min.name, .initialized "java/lang/Math", .code Lib.Math.min.name Lib.Math.min.code 2 (some .int), .methodLink RX1 72 yX1_isCovered, .instanceMethod yX1_isCovered, .selects RX1 yX1_isCovered yX1_isCovered, .initialized RX1, .code yX1_isCovered cX1_isCovered 2 (some .boolean), .fieldLink RX1 9 "CannonStacks$Pile" "pyramid" "LCannonStacks$Pyramid;", .methodLink RX1 37 yX2_firstOn, .instanceMethod yX2_firstOn, .selects RX2 yX2_firstOn yX2_firstOn, .initialized RX2, .code yX2_firstOn cX2_firstOn 2 (some .int), .fieldLink RX2 24 "CannonStacks$Pyramid" "coverers" "[I", .fieldLink RX2 17 "CannonStacks$Pyramid" "capacity" "I"] ++ wsX10 ++ wsX20)
def wsX2_squares : List Cond := .code yX2_squares cX2_squares 1 (some .int) :: ([])
def wsX2_init : List Cond := .code yX2_init cX2_init 6 none :: ([.methodLink RX2 1 objectInit, .instanceMethod objectInit, .code objectInit ⟨#[0xb1]⟩ 1 none, .fieldLink RX2 7 "CannonStacks$Pyramid" "edge" "I", .fieldLink RX2 17 "CannonStacks$Pyramid" "capacity" "I", .arrayClass .int, .fieldLink RX2 20 "CannonStacks$Pyramid" "starts" "[I", .fieldLink RX2 24 "CannonStacks$Pyramid" "coverers" "[I", .methodLink RX2 27 Lib.Math.max.name, .static Lib.Math.max.name, .initialized "java/lang/Math", .code Lib.Math.max.name Lib.Math.max.code 2 (some .int), .methodLink RX2 13 yX2_squares, .static yX2_squares, .initialized RX2, .code yX2_squares cX2_squares 1 (some .int)] ++ wsX20)
def wsX3_init_r1 : List Cond := [Cond.methodLink RX3 3 objectInit, Cond.instanceMethod objectInit, Cond.code objectInit ⟨#[0xb1]⟩ 1 none, Cond.classLink RX3 9 RX1, Cond.fieldLink RX3 11 "CannonStacks$Yard" "piles" "[LCannonStacks$Pile;", Cond.instantiable RX1 4, Cond.initialized RX1, Cond.classLink RX3 20 RX0, Cond.fieldLink RX3 22 "CannonStacks$Yard" "cats" "[LCannonStacks$Cat;", Cond.instantiable RX0 3, Cond.initialized RX0, Cond.arrayClass .int, Cond.fieldLink RX3 27 "CannonStacks$Yard" "loose" "[I", Cond.fieldLink RX3 31 "CannonStacks$Yard" "limit" "I", Cond.methodLink RX3 17 yX1_init, Cond.instanceMethod yX1_init, Cond.code yX1_init cX1_init 2 none, Cond.methodLink RX1 3 objectInit, Cond.fieldLink RX1 9 "CannonStacks$Pile" "pyramid" "LCannonStacks$Pyramid;", Cond.fieldLink RX1 15 "CannonStacks$Pile" "rust" "[I", Cond.methodLink RX3 26 yX0_init, Cond.instanceMethod yX0_init, Cond.code yX0_init cX0_init 1 none, Cond.methodLink RX0 3 objectInit]
def wsX3_init_r2 : List Cond := [Cond.fieldLink RX0 9 "CannonStacks$Cat" "on" "I"]
def wsX3_init : List Cond := .code yX3_init cX3_init 3 none :: ((wsX3_init_r1 ++ wsX3_init_r2) ++ wsX30 ++ wsX10 ++ wsX00)
def wsX3_copyFrom_r1 : List Cond := [Cond.fieldLink RX3 35 "CannonStacks$Yard" "pileCount" "I", Cond.fieldLink RX3 11 "CannonStacks$Yard" "piles" "[LCannonStacks$Pile;", Cond.fieldLink RX3 42 "CannonStacks$Yard" "catCount" "I", Cond.fieldLink RX3 22 "CannonStacks$Yard" "cats" "[LCannonStacks$Cat;", Cond.fieldLink RX3 27 "CannonStacks$Yard" "loose" "[I", Cond.methodLink RX3 48 arraycopyName, Cond.native arraycopyName, Cond.static arraycopyName, Cond.initialized "java/lang/System", Cond.fieldLink RX3 54 "CannonStacks$Yard" "day" "I", Cond.fieldLink RX3 57 "CannonStacks$Yard" "rain" "I", Cond.fieldLink RX3 31 "CannonStacks$Yard" "limit" "I", Cond.methodLink RX3 38 yX1_copyFrom, Cond.instanceMethod yX1_copyFrom, Cond.selects RX1 yX1_copyFrom yX1_copyFrom, Cond.initialized RX1, Cond.code yX1_copyFrom cX1_copyFrom 2 none, Cond.fieldLink RX1 19 "CannonStacks$Pile" "calibre" "I", Cond.fieldLink RX1 9 "CannonStacks$Pile" "pyramid" "LCannonStacks$Pyramid;", Cond.fieldLink RX1 23 "CannonStacks$Pile" "balls" "I", Cond.fieldLink RX1 15 "CannonStacks$Pile" "rust" "[I", Cond.methodLink RX1 26 arraycopyName, Cond.methodLink RX3 45 yX0_copyFrom, Cond.instanceMethod yX0_copyFrom]
def wsX3_copyFrom_r2 : List Cond := [Cond.selects RX0 yX0_copyFrom yX0_copyFrom, Cond.initialized RX0, Cond.code yX0_copyFrom cX0_copyFrom 2 none, Cond.fieldLink RX0 15 "CannonStacks$Cat" "leap" "I", Cond.fieldLink RX0 9 "CannonStacks$Cat" "on" "I", Cond.fieldLink RX0 18 "CannonStacks$Cat" "rolledOff" "I"]
def wsX3_copyFrom : List Cond := .code yX3_copyFrom cX3_copyFrom 3 none :: ((wsX3_copyFrom_r1 ++ wsX3_copyFrom_r2) ++ wsX30 ++ wsX10 ++ wsX00)
def wsX3_letJump_r1 : List Cond := [Cond.fieldLink RX3 35 "CannonStacks$Yard" "pileCount" "I", Cond.fieldLink RX3 11 "CannonStacks$Yard" "piles" "[LCannonStacks$Pile;", Cond.fieldLink RX3 75 "CannonStacks$Cat" "on" "I", Cond.fieldLink RX3 27 "CannonStacks$Yard" "loose" "[I", Cond.fieldLink RX3 85 "CannonStacks$Pile" "calibre" "I", Cond.fieldLink RX3 88 "CannonStacks$Cat" "rolledOff" "I", Cond.methodLink RX3 72 yX0_jump, Cond.instanceMethod yX0_jump, Cond.selects RX0 yX0_jump yX0_jump, Cond.initialized RX0, Cond.code yX0_jump cX0_jump 2 none, Cond.fieldLink RX0 9 "CannonStacks$Cat" "on" "I", Cond.fieldLink RX0 15 "CannonStacks$Cat" "leap" "I", Cond.methodLink RX3 78 yX1_hasBrokenLayer, Cond.instanceMethod yX1_hasBrokenLayer, Cond.selects RX1 yX1_hasBrokenLayer yX1_hasBrokenLayer, Cond.initialized RX1, Cond.code yX1_hasBrokenLayer cX1_hasBrokenLayer 1 (some .boolean), Cond.fieldLink RX1 9 "CannonStacks$Pile" "pyramid" "LCannonStacks$Pyramid;", Cond.fieldLink RX1 23 "CannonStacks$Pile" "balls" "I", Cond.methodLink RX1 66 yX2_layersBegun, Cond.instanceMethod yX2_layersBegun, Cond.selects RX2 yX2_layersBegun yX2_layersBegun, Cond.initialized RX2]
def wsX3_letJump_r2 : List Cond := [Cond.code yX2_layersBegun cX2_layersBegun 3 (some .int), Cond.fieldLink RX2 7 "CannonStacks$Pyramid" "edge" "I", Cond.fieldLink RX2 20 "CannonStacks$Pyramid" "starts" "[I", Cond.methodLink RX1 69 yX2_layersFull, Cond.instanceMethod yX2_layersFull, Cond.selects RX2 yX2_layersFull yX2_layersFull, Cond.code yX2_layersFull cX2_layersFull 3 (some .int), Cond.methodLink RX3 82 yX1_takeTop, Cond.instanceMethod yX1_takeTop, Cond.selects RX1 yX1_takeTop yX1_takeTop, Cond.code yX1_takeTop cX1_takeTop 1 (some .int), Cond.fieldLink RX1 15 "CannonStacks$Pile" "rust" "[I"]
def wsX3_letJump : List Cond := .code yX3_letJump cX3_letJump 3 (some .int) :: ((wsX3_letJump_r1 ++ wsX3_letJump_r2) ++ wsX30 ++ wsX00 ++ wsX10 ++ wsX20)
def wsX3_passOneDay_r1 : List Cond := [Cond.fieldLink RX3 35 "CannonStacks$Yard" "pileCount" "I", Cond.fieldLink RX3 11 "CannonStacks$Yard" "piles" "[LCannonStacks$Pile;", Cond.fieldLink RX3 57 "CannonStacks$Yard" "rain" "I", Cond.fieldLink RX3 42 "CannonStacks$Yard" "catCount" "I", Cond.fieldLink RX3 22 "CannonStacks$Yard" "cats" "[LCannonStacks$Cat;", Cond.fieldLink RX3 54 "CannonStacks$Yard" "day" "I", Cond.methodLink RX3 64 yX1_rustForADay, Cond.instanceMethod yX1_rustForADay, Cond.selects RX1 yX1_rustForADay yX1_rustForADay, Cond.initialized RX1, Cond.code yX1_rustForADay cX1_rustForADay 4 none, Cond.fieldLink RX1 23 "CannonStacks$Pile" "balls" "I", Cond.fieldLink RX1 15 "CannonStacks$Pile" "rust" "[I", Cond.methodLink RX1 59 Lib.Math.min.name, Cond.static Lib.Math.min.name, Cond.initialized "java/lang/Math", Cond.code Lib.Math.min.name Lib.Math.min.code 2 (some .int), Cond.methodLink RX1 72 yX1_isCovered, Cond.instanceMethod yX1_isCovered, Cond.selects RX1 yX1_isCovered yX1_isCovered, Cond.code yX1_isCovered cX1_isCovered 2 (some .boolean), Cond.fieldLink RX1 9 "CannonStacks$Pile" "pyramid" "LCannonStacks$Pyramid;", Cond.methodLink RX1 37 yX2_firstOn, Cond.instanceMethod yX2_firstOn]
def wsX3_passOneDay_r2 : List Cond := [Cond.selects RX2 yX2_firstOn yX2_firstOn, Cond.initialized RX2, Cond.code yX2_firstOn cX2_firstOn 2 (some .int), Cond.fieldLink RX2 24 "CannonStacks$Pyramid" "coverers" "[I", Cond.fieldLink RX2 17 "CannonStacks$Pyramid" "capacity" "I", Cond.methodLink RX3 68 yX3_letJump, Cond.instanceMethod yX3_letJump, Cond.selects RX3 yX3_letJump yX3_letJump, Cond.initialized RX3, Cond.code yX3_letJump cX3_letJump 3 (some .int), Cond.fieldLink RX3 75 "CannonStacks$Cat" "on" "I", Cond.fieldLink RX3 27 "CannonStacks$Yard" "loose" "[I", Cond.fieldLink RX3 85 "CannonStacks$Pile" "calibre" "I", Cond.fieldLink RX3 88 "CannonStacks$Cat" "rolledOff" "I", Cond.methodLink RX3 72 yX0_jump, Cond.instanceMethod yX0_jump, Cond.selects RX0 yX0_jump yX0_jump, Cond.initialized RX0, Cond.code yX0_jump cX0_jump 2 none, Cond.fieldLink RX0 9 "CannonStacks$Cat" "on" "I", Cond.fieldLink RX0 15 "CannonStacks$Cat" "leap" "I", Cond.methodLink RX3 78 yX1_hasBrokenLayer, Cond.instanceMethod yX1_hasBrokenLayer, Cond.selects RX1 yX1_hasBrokenLayer yX1_hasBrokenLayer]
def wsX3_passOneDay_r3 : List Cond := [Cond.code yX1_hasBrokenLayer cX1_hasBrokenLayer 1 (some .boolean), Cond.methodLink RX1 66 yX2_layersBegun, Cond.instanceMethod yX2_layersBegun, Cond.selects RX2 yX2_layersBegun yX2_layersBegun, Cond.code yX2_layersBegun cX2_layersBegun 3 (some .int), Cond.fieldLink RX2 7 "CannonStacks$Pyramid" "edge" "I", Cond.fieldLink RX2 20 "CannonStacks$Pyramid" "starts" "[I", Cond.methodLink RX1 69 yX2_layersFull, Cond.instanceMethod yX2_layersFull, Cond.selects RX2 yX2_layersFull yX2_layersFull, Cond.code yX2_layersFull cX2_layersFull 3 (some .int), Cond.methodLink RX3 82 yX1_takeTop, Cond.instanceMethod yX1_takeTop, Cond.selects RX1 yX1_takeTop yX1_takeTop, Cond.code yX1_takeTop cX1_takeTop 1 (some .int)]
def wsX3_passOneDay : List Cond := .code yX3_passOneDay cX3_passOneDay 3 (some .int) :: ((wsX3_passOneDay_r1 ++ (wsX3_passOneDay_r2 ++ wsX3_passOneDay_r3)) ++ wsX30 ++ wsX10 ++ wsX20 ++ wsX00)
def wsX3_passDays_r1 : List Cond := [Cond.methodLink RX3 60 yX3_passOneDay, Cond.instanceMethod yX3_passOneDay, Cond.selects RX3 yX3_passOneDay yX3_passOneDay, Cond.initialized RX3, Cond.code yX3_passOneDay cX3_passOneDay 3 (some .int), Cond.fieldLink RX3 35 "CannonStacks$Yard" "pileCount" "I", Cond.fieldLink RX3 11 "CannonStacks$Yard" "piles" "[LCannonStacks$Pile;", Cond.fieldLink RX3 57 "CannonStacks$Yard" "rain" "I", Cond.fieldLink RX3 42 "CannonStacks$Yard" "catCount" "I", Cond.fieldLink RX3 22 "CannonStacks$Yard" "cats" "[LCannonStacks$Cat;", Cond.fieldLink RX3 54 "CannonStacks$Yard" "day" "I", Cond.methodLink RX3 64 yX1_rustForADay, Cond.instanceMethod yX1_rustForADay, Cond.selects RX1 yX1_rustForADay yX1_rustForADay, Cond.initialized RX1, Cond.code yX1_rustForADay cX1_rustForADay 4 none, Cond.fieldLink RX1 23 "CannonStacks$Pile" "balls" "I", Cond.fieldLink RX1 15 "CannonStacks$Pile" "rust" "[I", Cond.methodLink RX1 59 Lib.Math.min.name, Cond.static Lib.Math.min.name, Cond.initialized "java/lang/Math", Cond.code Lib.Math.min.name Lib.Math.min.code 2 (some .int), Cond.methodLink RX1 72 yX1_isCovered, Cond.instanceMethod yX1_isCovered]
def wsX3_passDays_r2 : List Cond := [Cond.selects RX1 yX1_isCovered yX1_isCovered, Cond.code yX1_isCovered cX1_isCovered 2 (some .boolean), Cond.fieldLink RX1 9 "CannonStacks$Pile" "pyramid" "LCannonStacks$Pyramid;", Cond.methodLink RX1 37 yX2_firstOn, Cond.instanceMethod yX2_firstOn, Cond.selects RX2 yX2_firstOn yX2_firstOn, Cond.initialized RX2, Cond.code yX2_firstOn cX2_firstOn 2 (some .int), Cond.fieldLink RX2 24 "CannonStacks$Pyramid" "coverers" "[I", Cond.fieldLink RX2 17 "CannonStacks$Pyramid" "capacity" "I", Cond.methodLink RX3 68 yX3_letJump, Cond.instanceMethod yX3_letJump, Cond.selects RX3 yX3_letJump yX3_letJump, Cond.code yX3_letJump cX3_letJump 3 (some .int), Cond.fieldLink RX3 75 "CannonStacks$Cat" "on" "I", Cond.fieldLink RX3 27 "CannonStacks$Yard" "loose" "[I", Cond.fieldLink RX3 85 "CannonStacks$Pile" "calibre" "I", Cond.fieldLink RX3 88 "CannonStacks$Cat" "rolledOff" "I", Cond.methodLink RX3 72 yX0_jump, Cond.instanceMethod yX0_jump, Cond.selects RX0 yX0_jump yX0_jump, Cond.initialized RX0, Cond.code yX0_jump cX0_jump 2 none, Cond.fieldLink RX0 9 "CannonStacks$Cat" "on" "I"]
def wsX3_passDays_r3 : List Cond := [Cond.fieldLink RX0 15 "CannonStacks$Cat" "leap" "I", Cond.methodLink RX3 78 yX1_hasBrokenLayer, Cond.instanceMethod yX1_hasBrokenLayer, Cond.selects RX1 yX1_hasBrokenLayer yX1_hasBrokenLayer, Cond.code yX1_hasBrokenLayer cX1_hasBrokenLayer 1 (some .boolean), Cond.methodLink RX1 66 yX2_layersBegun, Cond.instanceMethod yX2_layersBegun, Cond.selects RX2 yX2_layersBegun yX2_layersBegun, Cond.code yX2_layersBegun cX2_layersBegun 3 (some .int), Cond.fieldLink RX2 7 "CannonStacks$Pyramid" "edge" "I", Cond.fieldLink RX2 20 "CannonStacks$Pyramid" "starts" "[I", Cond.methodLink RX1 69 yX2_layersFull, Cond.instanceMethod yX2_layersFull, Cond.selects RX2 yX2_layersFull yX2_layersFull, Cond.code yX2_layersFull cX2_layersFull 3 (some .int), Cond.methodLink RX3 82 yX1_takeTop, Cond.instanceMethod yX1_takeTop, Cond.selects RX1 yX1_takeTop yX1_takeTop, Cond.code yX1_takeTop cX1_takeTop 1 (some .int)]
def wsX3_passDays : List Cond := .code yX3_passDays cX3_passDays 4 (some .int) :: ((wsX3_passDays_r1 ++ (wsX3_passDays_r2 ++ wsX3_passDays_r3)) ++ wsX30 ++ wsX10 ++ wsX20 ++ wsX00)
def wsX3_ballsOfCalibre : List Cond := .code yX3_ballsOfCalibre cX3_ballsOfCalibre 4 (some .int) :: ([.fieldLink RX3 35 "CannonStacks$Yard" "pileCount" "I", .fieldLink RX3 11 "CannonStacks$Yard" "piles" "[LCannonStacks$Pile;", .fieldLink RX3 85 "CannonStacks$Pile" "calibre" "I", .fieldLink RX3 91 "CannonStacks$Pile" "balls" "I"] ++ wsX30 ++ wsX10)
def wsX4_sum : List Cond := .code yX4_sum cX4_sum 3 (some .int) :: ([])
def wsX3_ballCount : List Cond := .code yX3_ballCount cX3_ballCount 4 (some .int) :: ([.fieldLink RX3 27 "CannonStacks$Yard" "loose" "[I", .fieldLink RX3 35 "CannonStacks$Yard" "pileCount" "I", .fieldLink RX3 11 "CannonStacks$Yard" "piles" "[LCannonStacks$Pile;", .fieldLink RX3 31 "CannonStacks$Yard" "limit" "I", .fieldLink RX3 91 "CannonStacks$Pile" "balls" "I", .static yX4_sum, .initialized RX4, .code yX4_sum cX4_sum 3 (some .int), .methodLink RX3 98 yX1_rustyBalls, .instanceMethod yX1_rustyBalls, .selects RX1 yX1_rustyBalls yX1_rustyBalls, .initialized RX1, .code yX1_rustyBalls cX1_rustyBalls 4 (some .int), .fieldLink RX1 23 "CannonStacks$Pile" "balls" "I", .fieldLink RX1 15 "CannonStacks$Pile" "rust" "[I"] ++ wsX30 ++ wsX10)
def wsX4_init_r1 : List Cond := [Cond.methodLink RX4 1 objectInit, Cond.instanceMethod objectInit, Cond.code objectInit ⟨#[0xb1]⟩ 1 none, Cond.classLink RX4 9 RX2, Cond.fieldLink RX4 11 "CannonStacks" "pyramids" "[LCannonStacks$Pyramid;", Cond.instantiable RX2 4, Cond.initialized RX2, Cond.arrayClass .int, Cond.fieldLink RX4 18 "CannonStacks" "store" "[I", Cond.fieldLink RX4 22 "CannonStacks" "fired" "[I", Cond.fieldLink RX4 25 "CannonStacks" "thrownAway" "[I", Cond.classLink RX4 28 RX3, Cond.instantiable RX3 8, Cond.initialized RX3, Cond.fieldLink RX4 33 "CannonStacks" "yard" "LCannonStacks$Yard;", Cond.fieldLink RX4 37 "CannonStacks" "trial" "LCannonStacks$Yard;", Cond.methodLink RX4 15 yX2_init, Cond.instanceMethod yX2_init, Cond.code yX2_init cX2_init 6 none, Cond.methodLink RX2 1 objectInit, Cond.fieldLink RX2 7 "CannonStacks$Pyramid" "edge" "I", Cond.fieldLink RX2 17 "CannonStacks$Pyramid" "capacity" "I", Cond.fieldLink RX2 20 "CannonStacks$Pyramid" "starts" "[I", Cond.fieldLink RX2 24 "CannonStacks$Pyramid" "coverers" "[I"]
def wsX4_init_r2 : List Cond := [Cond.methodLink RX2 27 Lib.Math.max.name, Cond.static Lib.Math.max.name, Cond.initialized "java/lang/Math", Cond.code Lib.Math.max.name Lib.Math.max.code 2 (some .int), Cond.methodLink RX2 13 yX2_squares, Cond.static yX2_squares, Cond.code yX2_squares cX2_squares 1 (some .int), Cond.methodLink RX4 30 yX3_init, Cond.instanceMethod yX3_init, Cond.code yX3_init cX3_init 3 none, Cond.methodLink RX3 3 objectInit, Cond.classLink RX3 9 RX1, Cond.fieldLink RX3 11 "CannonStacks$Yard" "piles" "[LCannonStacks$Pile;", Cond.instantiable RX1 4, Cond.initialized RX1, Cond.classLink RX3 20 RX0, Cond.fieldLink RX3 22 "CannonStacks$Yard" "cats" "[LCannonStacks$Cat;", Cond.instantiable RX0 3, Cond.initialized RX0, Cond.fieldLink RX3 27 "CannonStacks$Yard" "loose" "[I", Cond.fieldLink RX3 31 "CannonStacks$Yard" "limit" "I", Cond.methodLink RX3 17 yX1_init, Cond.instanceMethod yX1_init, Cond.code yX1_init cX1_init 2 none]
def wsX4_init_r3 : List Cond := [Cond.methodLink RX1 3 objectInit, Cond.fieldLink RX1 9 "CannonStacks$Pile" "pyramid" "LCannonStacks$Pyramid;", Cond.fieldLink RX1 15 "CannonStacks$Pile" "rust" "[I", Cond.methodLink RX3 26 yX0_init, Cond.instanceMethod yX0_init, Cond.code yX0_init cX0_init 1 none, Cond.methodLink RX0 3 objectInit, Cond.fieldLink RX0 9 "CannonStacks$Cat" "on" "I"]
def wsX4_init : List Cond := .code yX4_init cX4_init 2 none :: ((wsX4_init_r1 ++ (wsX4_init_r2 ++ wsX4_init_r3)) ++ wsX40 ++ wsX20 ++ wsX30 ++ wsX10 ++ wsX00)
def wsX4_isOutside : List Cond := .code yX4_isOutside cX4_isOutside 3 (some .boolean) :: ([])
def wsX4_checkCalibre : List Cond := .code yX4_checkCalibre cX4_checkCalibre 1 none :: ([.classLink RX4 170 "java/lang/IndexOutOfBoundsException", .initialized "java/lang/IndexOutOfBoundsException", .methodLink RX4 175 yX4_isOutside, .static yX4_isOutside, .initialized RX4, .code yX4_isOutside cX4_isOutside 3 (some .boolean)] ++ (vx_atS RX4 174 "java/lang/IndexOutOfBoundsException" ["java/lang/RuntimeException", "java/lang/Exception"]).filter goodWord)
def wsX4_checkArgument : List Cond := .code yX4_checkArgument cX4_checkArgument 3 none :: ([.classLink RX4 120 "java/lang/IllegalArgumentException", .initialized "java/lang/IllegalArgumentException", .methodLink RX4 175 yX4_isOutside, .static yX4_isOutside, .initialized RX4, .code yX4_isOutside cX4_isOutside 3 (some .boolean)] ++ (vx_atS RX4 124 "java/lang/IllegalArgumentException" ["java/lang/RuntimeException", "java/lang/Exception"]).filter goodWord)
def wsX4_pile_r1 : List Cond := [Cond.classLink RX4 51 "java/lang/IllegalStateException", Cond.initialized "java/lang/IllegalStateException", Cond.fieldLink RX4 33 "CannonStacks" "yard" "LCannonStacks$Yard;", Cond.fieldLink RX4 47 "CannonStacks$Yard" "pileCount" "I", Cond.fieldLink RX4 58 "CannonStacks$Yard" "piles" "[LCannonStacks$Pile;", Cond.fieldLink RX4 11 "CannonStacks" "pyramids" "[LCannonStacks$Pyramid;", Cond.methodLink RX4 40 yX4_checkCalibre, Cond.static yX4_checkCalibre, Cond.initialized RX4, Cond.code yX4_checkCalibre cX4_checkCalibre 1 none, Cond.classLink RX4 170 "java/lang/IndexOutOfBoundsException", Cond.initialized "java/lang/IndexOutOfBoundsException", Cond.methodLink RX4 175 yX4_isOutside, Cond.static yX4_isOutside, Cond.code yX4_isOutside cX4_isOutside 3 (some .boolean), Cond.methodLink RX4 43 yX4_checkArgument, Cond.static yX4_checkArgument, Cond.code yX4_checkArgument cX4_checkArgument 3 none, Cond.classLink RX4 120 "java/lang/IllegalArgumentException", Cond.initialized "java/lang/IllegalArgumentException", Cond.methodLink RX4 62 yX1_begin, Cond.instanceMethod yX1_begin, Cond.selects RX1 yX1_begin yX1_begin, Cond.initialized RX1]
def wsX4_pile_r2 : List Cond := [Cond.code yX1_begin cX1_begin 3 none, Cond.fieldLink RX1 19 "CannonStacks$Pile" "calibre" "I", Cond.fieldLink RX1 9 "CannonStacks$Pile" "pyramid" "LCannonStacks$Pyramid;", Cond.fieldLink RX1 23 "CannonStacks$Pile" "balls" "I"]
def wsX4_pile : List Cond := .code yX4_pile cX4_pile 4 (some .int) :: ((wsX4_pile_r1 ++ wsX4_pile_r2) ++ wsX40 ++ wsX30 ++ wsX10 ++ (vx_atS RX4 55 "java/lang/IllegalStateException" ["java/lang/RuntimeException", "java/lang/Exception"]).filter goodWord ++ (vx_atS RX4 174 "java/lang/IndexOutOfBoundsException" ["java/lang/RuntimeException", "java/lang/Exception"]).filter goodWord ++ (vx_atS RX4 124 "java/lang/IllegalArgumentException" ["java/lang/RuntimeException", "java/lang/Exception"]).filter goodWord)
def wsX4_cat : List Cond := .code yX4_cat cX4_cat 3 (some .int) :: ([.classLink RX4 51 "java/lang/IllegalStateException", .initialized "java/lang/IllegalStateException", .fieldLink RX4 33 "CannonStacks" "yard" "LCannonStacks$Yard;", .fieldLink RX4 68 "CannonStacks$Yard" "catCount" "I", .fieldLink RX4 73 "CannonStacks$Yard" "cats" "[LCannonStacks$Cat;", .fieldLink RX4 77 "CannonStacks$Cat" "leap" "I", .methodLink RX4 43 yX4_checkArgument, .static yX4_checkArgument, .initialized RX4, .code yX4_checkArgument cX4_checkArgument 3 none, .classLink RX4 120 "java/lang/IllegalArgumentException", .initialized "java/lang/IllegalArgumentException", .methodLink RX4 175 yX4_isOutside, .static yX4_isOutside, .code yX4_isOutside cX4_isOutside 3 (some .boolean)] ++ wsX40 ++ wsX30 ++ wsX00 ++ (vx_atS RX4 55 "java/lang/IllegalStateException" ["java/lang/RuntimeException", "java/lang/Exception"]).filter goodWord ++ (vx_atS RX4 124 "java/lang/IllegalArgumentException" ["java/lang/RuntimeException", "java/lang/Exception"]).filter goodWord)
def wsX4_give : List Cond := .code yX4_give cX4_give 3 (some .int) :: ([.fieldLink RX4 18 "CannonStacks" "store" "[I", .methodLink RX4 40 yX4_checkCalibre, .static yX4_checkCalibre, .initialized RX4, .code yX4_checkCalibre cX4_checkCalibre 1 none, .classLink RX4 170 "java/lang/IndexOutOfBoundsException", .initialized "java/lang/IndexOutOfBoundsException", .methodLink RX4 175 yX4_isOutside, .static yX4_isOutside, .code yX4_isOutside cX4_isOutside 3 (some .boolean), .methodLink RX4 43 yX4_checkArgument, .static yX4_checkArgument, .code yX4_checkArgument cX4_checkArgument 3 none, .classLink RX4 120 "java/lang/IllegalArgumentException", .initialized "java/lang/IllegalArgumentException"] ++ wsX40 ++ (vx_atS RX4 174 "java/lang/IndexOutOfBoundsException" ["java/lang/RuntimeException", "java/lang/Exception"]).filter goodWord ++ (vx_atS RX4 124 "java/lang/IllegalArgumentException" ["java/lang/RuntimeException", "java/lang/Exception"]).filter goodWord)
def wsX4_setRain : List Cond := .code yX4_setRain cX4_setRain 3 (some .int) :: ([.fieldLink RX4 33 "CannonStacks" "yard" "LCannonStacks$Yard;", .fieldLink RX4 82 "CannonStacks$Yard" "rain" "I", .methodLink RX4 43 yX4_checkArgument, .static yX4_checkArgument, .initialized RX4, .code yX4_checkArgument cX4_checkArgument 3 none, .classLink RX4 120 "java/lang/IllegalArgumentException", .initialized "java/lang/IllegalArgumentException", .methodLink RX4 175 yX4_isOutside, .static yX4_isOutside, .code yX4_isOutside cX4_isOutside 3 (some .boolean)] ++ wsX40 ++ wsX30 ++ (vx_atS RX4 124 "java/lang/IllegalArgumentException" ["java/lang/RuntimeException", "java/lang/Exception"]).filter goodWord)
def wsX4_setLimit : List Cond := .code yX4_setLimit cX4_setLimit 3 (some .int) :: ([.fieldLink RX4 33 "CannonStacks" "yard" "LCannonStacks$Yard;", .fieldLink RX4 85 "CannonStacks$Yard" "limit" "I", .methodLink RX4 43 yX4_checkArgument, .static yX4_checkArgument, .initialized RX4, .code yX4_checkArgument cX4_checkArgument 3 none, .classLink RX4 120 "java/lang/IllegalArgumentException", .initialized "java/lang/IllegalArgumentException", .methodLink RX4 175 yX4_isOutside, .static yX4_isOutside, .code yX4_isOutside cX4_isOutside 3 (some .boolean)] ++ wsX40 ++ wsX30 ++ (vx_atS RX4 124 "java/lang/IllegalArgumentException" ["java/lang/RuntimeException", "java/lang/Exception"]).filter goodWord)
def wsX4_checkPile : List Cond := .code yX4_checkPile cX4_checkPile 2 none :: ([.classLink RX4 170 "java/lang/IndexOutOfBoundsException", .initialized "java/lang/IndexOutOfBoundsException", .fieldLink RX4 33 "CannonStacks" "yard" "LCannonStacks$Yard;", .fieldLink RX4 47 "CannonStacks$Yard" "pileCount" "I", .methodLink RX4 175 yX4_isOutside, .static yX4_isOutside, .initialized RX4, .code yX4_isOutside cX4_isOutside 3 (some .boolean)] ++ wsX40 ++ wsX30 ++ (vx_atS RX4 174 "java/lang/IndexOutOfBoundsException" ["java/lang/RuntimeException", "java/lang/Exception"]).filter goodWord)
def wsX4_stack_r1 : List Cond := [Cond.classLink RX4 51 "java/lang/IllegalStateException", Cond.initialized "java/lang/IllegalStateException", Cond.fieldLink RX4 33 "CannonStacks" "yard" "LCannonStacks$Yard;", Cond.fieldLink RX4 58 "CannonStacks$Yard" "piles" "[LCannonStacks$Pile;", Cond.fieldLink RX4 18 "CannonStacks" "store" "[I", Cond.fieldLink RX4 91 "CannonStacks$Pile" "calibre" "I", Cond.fieldLink RX4 105 "CannonStacks$Pile" "balls" "I", Cond.methodLink RX4 88 yX4_checkPile, Cond.instanceMethod yX4_checkPile, Cond.selects RX4 yX4_checkPile yX4_checkPile, Cond.initialized RX4, Cond.code yX4_checkPile cX4_checkPile 2 none, Cond.classLink RX4 170 "java/lang/IndexOutOfBoundsException", Cond.initialized "java/lang/IndexOutOfBoundsException", Cond.fieldLink RX4 47 "CannonStacks$Yard" "pileCount" "I", Cond.methodLink RX4 175 yX4_isOutside, Cond.static yX4_isOutside, Cond.code yX4_isOutside cX4_isOutside 3 (some .boolean), Cond.methodLink RX4 43 yX4_checkArgument, Cond.static yX4_checkArgument, Cond.code yX4_checkArgument cX4_checkArgument 3 none, Cond.classLink RX4 120 "java/lang/IllegalArgumentException", Cond.initialized "java/lang/IllegalArgumentException", Cond.methodLink RX4 96 yX1_spare]
def wsX4_stack_r2 : List Cond := [Cond.instanceMethod yX1_spare, Cond.selects RX1 yX1_spare yX1_spare, Cond.initialized RX1, Cond.code yX1_spare cX1_spare 1 (some .int), Cond.fieldLink RX1 9 "CannonStacks$Pile" "pyramid" "LCannonStacks$Pyramid;", Cond.fieldLink RX1 32 "CannonStacks$Pyramid" "capacity" "I", Cond.fieldLink RX1 23 "CannonStacks$Pile" "balls" "I", Cond.methodLink RX4 102 yX1_put, Cond.instanceMethod yX1_put, Cond.selects RX1 yX1_put yX1_put, Cond.code yX1_put cX1_put 2 none, Cond.fieldLink RX1 15 "CannonStacks$Pile" "rust" "[I"]
def wsX4_stack : List Cond := .code yX4_stack cX4_stack 5 (some .int) :: ((wsX4_stack_r1 ++ wsX4_stack_r2) ++ wsX40 ++ wsX30 ++ wsX10 ++ wsX20 ++ (vx_atS RX4 55 "java/lang/IllegalStateException" ["java/lang/RuntimeException", "java/lang/Exception"]).filter goodWord ++ (vx_atS RX4 174 "java/lang/IndexOutOfBoundsException" ["java/lang/RuntimeException", "java/lang/Exception"]).filter goodWord ++ (vx_atS RX4 124 "java/lang/IllegalArgumentException" ["java/lang/RuntimeException", "java/lang/Exception"]).filter goodWord)
def wsX4_fire_r1 : List Cond := [Cond.classLink RX4 51 "java/lang/IllegalStateException", Cond.initialized "java/lang/IllegalStateException", Cond.fieldLink RX4 33 "CannonStacks" "yard" "LCannonStacks$Yard;", Cond.fieldLink RX4 58 "CannonStacks$Yard" "piles" "[LCannonStacks$Pile;", Cond.fieldLink RX4 105 "CannonStacks$Pile" "balls" "I", Cond.fieldLink RX4 22 "CannonStacks" "fired" "[I", Cond.fieldLink RX4 91 "CannonStacks$Pile" "calibre" "I", Cond.methodLink RX4 88 yX4_checkPile, Cond.instanceMethod yX4_checkPile, Cond.selects RX4 yX4_checkPile yX4_checkPile, Cond.initialized RX4, Cond.code yX4_checkPile cX4_checkPile 2 none, Cond.classLink RX4 170 "java/lang/IndexOutOfBoundsException", Cond.initialized "java/lang/IndexOutOfBoundsException", Cond.fieldLink RX4 47 "CannonStacks$Yard" "pileCount" "I", Cond.methodLink RX4 175 yX4_isOutside, Cond.static yX4_isOutside, Cond.code yX4_isOutside cX4_isOutside 3 (some .boolean), Cond.methodLink RX4 43 yX4_checkArgument, Cond.static yX4_checkArgument, Cond.code yX4_checkArgument cX4_checkArgument 3 none, Cond.classLink RX4 120 "java/lang/IllegalArgumentException", Cond.initialized "java/lang/IllegalArgumentException", Cond.methodLink RX4 110 yX1_takeTop]
def wsX4_fire_r2 : List Cond := [Cond.instanceMethod yX1_takeTop, Cond.selects RX1 yX1_takeTop yX1_takeTop, Cond.initialized RX1, Cond.code yX1_takeTop cX1_takeTop 1 (some .int), Cond.fieldLink RX1 23 "CannonStacks$Pile" "balls" "I", Cond.fieldLink RX1 15 "CannonStacks$Pile" "rust" "[I"]
def wsX4_fire : List Cond := .code yX4_fire cX4_fire 6 (some .int) :: ((wsX4_fire_r1 ++ wsX4_fire_r2) ++ wsX40 ++ wsX30 ++ wsX10 ++ (vx_atS RX4 55 "java/lang/IllegalStateException" ["java/lang/RuntimeException", "java/lang/Exception"]).filter goodWord ++ (vx_atS RX4 174 "java/lang/IndexOutOfBoundsException" ["java/lang/RuntimeException", "java/lang/Exception"]).filter goodWord ++ (vx_atS RX4 124 "java/lang/IllegalArgumentException" ["java/lang/RuntimeException", "java/lang/Exception"]).filter goodWord)
def wsX4_scour_r1 : List Cond := [Cond.fieldLink RX4 33 "CannonStacks" "yard" "LCannonStacks$Yard;", Cond.fieldLink RX4 58 "CannonStacks$Yard" "piles" "[LCannonStacks$Pile;", Cond.methodLink RX4 88 yX4_checkPile, Cond.instanceMethod yX4_checkPile, Cond.selects RX4 yX4_checkPile yX4_checkPile, Cond.initialized RX4, Cond.code yX4_checkPile cX4_checkPile 2 none, Cond.classLink RX4 170 "java/lang/IndexOutOfBoundsException", Cond.initialized "java/lang/IndexOutOfBoundsException", Cond.fieldLink RX4 47 "CannonStacks$Yard" "pileCount" "I", Cond.methodLink RX4 175 yX4_isOutside, Cond.static yX4_isOutside, Cond.code yX4_isOutside cX4_isOutside 3 (some .boolean), Cond.methodLink RX4 113 yX1_scourBare, Cond.instanceMethod yX1_scourBare, Cond.selects RX1 yX1_scourBare yX1_scourBare, Cond.initialized RX1, Cond.code yX1_scourBare cX1_scourBare 4 (some .int), Cond.fieldLink RX1 23 "CannonStacks$Pile" "balls" "I", Cond.fieldLink RX1 15 "CannonStacks$Pile" "rust" "[I", Cond.methodLink RX1 59 Lib.Math.min.name, Cond.static Lib.Math.min.name, Cond.initialized "java/lang/Math", Cond.code Lib.Math.min.name Lib.Math.min.code 2 (some .int)]
def wsX4_scour_r2 : List Cond := [Cond.methodLink RX1 72 yX1_isCovered, Cond.instanceMethod yX1_isCovered, Cond.selects RX1 yX1_isCovered yX1_isCovered, Cond.code yX1_isCovered cX1_isCovered 2 (some .boolean), Cond.fieldLink RX1 9 "CannonStacks$Pile" "pyramid" "LCannonStacks$Pyramid;", Cond.methodLink RX1 37 yX2_firstOn, Cond.instanceMethod yX2_firstOn, Cond.selects RX2 yX2_firstOn yX2_firstOn, Cond.initialized RX2, Cond.code yX2_firstOn cX2_firstOn 2 (some .int), Cond.fieldLink RX2 24 "CannonStacks$Pyramid" "coverers" "[I", Cond.fieldLink RX2 17 "CannonStacks$Pyramid" "capacity" "I"]
def wsX4_scour : List Cond := .code yX4_scour cX4_scour 2 (some .int) :: ((wsX4_scour_r1 ++ wsX4_scour_r2) ++ wsX40 ++ wsX30 ++ wsX10 ++ wsX20 ++ (vx_atS RX4 174 "java/lang/IndexOutOfBoundsException" ["java/lang/RuntimeException", "java/lang/Exception"]).filter goodWord)
def wsX4_inspect : List Cond := .code yX4_inspect cX4_inspect 4 (some .int) :: ([.fieldLink RX4 33 "CannonStacks" "yard" "LCannonStacks$Yard;", .fieldLink RX4 58 "CannonStacks$Yard" "piles" "[LCannonStacks$Pile;", .fieldLink RX4 85 "CannonStacks$Yard" "limit" "I", .fieldLink RX4 25 "CannonStacks" "thrownAway" "[I", .fieldLink RX4 91 "CannonStacks$Pile" "calibre" "I", .methodLink RX4 88 yX4_checkPile, .instanceMethod yX4_checkPile, .selects RX4 yX4_checkPile yX4_checkPile, .initialized RX4, .code yX4_checkPile cX4_checkPile 2 none, .classLink RX4 170 "java/lang/IndexOutOfBoundsException", .initialized "java/lang/IndexOutOfBoundsException", .fieldLink RX4 47 "CannonStacks$Yard" "pileCount" "I", .methodLink RX4 175 yX4_isOutside, .static yX4_isOutside, .code yX4_isOutside cX4_isOutside 3 (some .boolean), .methodLink RX4 116 yX1_throwAway, .instanceMethod yX1_throwAway, .selects RX1 yX1_throwAway yX1_throwAway, .initialized RX1, .code yX1_throwAway cX1_throwAway 4 (some .int), .fieldLink RX1 23 "CannonStacks$Pile" "balls" "I", .fieldLink RX1 15 "CannonStacks$Pile" "rust" "[I"] ++ wsX40 ++ wsX30 ++ wsX10 ++ (vx_atS RX4 174 "java/lang/IndexOutOfBoundsException" ["java/lang/RuntimeException", "java/lang/Exception"]).filter goodWord)
def wsX4_shift_r1 : List Cond := [Cond.classLink RX4 120 "java/lang/IllegalArgumentException", Cond.initialized "java/lang/IllegalArgumentException", Cond.fieldLink RX4 33 "CannonStacks" "yard" "LCannonStacks$Yard;", Cond.fieldLink RX4 58 "CannonStacks$Yard" "piles" "[LCannonStacks$Pile;", Cond.fieldLink RX4 91 "CannonStacks$Pile" "calibre" "I", Cond.fieldLink RX4 105 "CannonStacks$Pile" "balls" "I", Cond.methodLink RX4 127 Lib.Math.min.name, Cond.static Lib.Math.min.name, Cond.initialized "java/lang/Math", Cond.code Lib.Math.min.name Lib.Math.min.code 2 (some .int), Cond.methodLink RX4 88 yX4_checkPile, Cond.instanceMethod yX4_checkPile, Cond.selects RX4 yX4_checkPile yX4_checkPile, Cond.initialized RX4, Cond.code yX4_checkPile cX4_checkPile 2 none, Cond.classLink RX4 170 "java/lang/IndexOutOfBoundsException", Cond.initialized "java/lang/IndexOutOfBoundsException", Cond.fieldLink RX4 47 "CannonStacks$Yard" "pileCount" "I", Cond.methodLink RX4 175 yX4_isOutside, Cond.static yX4_isOutside, Cond.code yX4_isOutside cX4_isOutside 3 (some .boolean), Cond.methodLink RX4 96 yX1_spare, Cond.instanceMethod yX1_spare, Cond.selects RX1 yX1_spare yX1_spare]
def wsX4_shift_r2 : List Cond := [Cond.initialized RX1, Cond.code yX1_spare cX1_spare 1 (some .int), Cond.fieldLink RX1 9 "CannonStacks$Pile" "pyramid" "LCannonStacks$Pyramid;", Cond.fieldLink RX1 32 "CannonStacks$Pyramid" "capacity" "I", Cond.fieldLink RX1 23 "CannonStacks$Pile" "balls" "I", Cond.methodLink RX4 110 yX1_takeTop, Cond.instanceMethod yX1_takeTop, Cond.selects RX1 yX1_takeTop yX1_takeTop, Cond.code yX1_takeTop cX1_takeTop 1 (some .int), Cond.fieldLink RX1 15 "CannonStacks$Pile" "rust" "[I", Cond.methodLink RX4 102 yX1_put, Cond.instanceMethod yX1_put, Cond.selects RX1 yX1_put yX1_put, Cond.code yX1_put cX1_put 2 none]
def wsX4_shift : List Cond := .code yX4_shift cX4_shift 7 (some .int) :: ((wsX4_shift_r1 ++ wsX4_shift_r2) ++ wsX40 ++ wsX30 ++ wsX10 ++ wsX20 ++ (vx_atS RX4 124 "java/lang/IllegalArgumentException" ["java/lang/RuntimeException", "java/lang/Exception"]).filter goodWord ++ (vx_atS RX4 174 "java/lang/IndexOutOfBoundsException" ["java/lang/RuntimeException", "java/lang/Exception"]).filter goodWord)
def wsX4_gather : List Cond := .code yX4_gather cX4_gather 3 (some .int) :: ([.fieldLink RX4 33 "CannonStacks" "yard" "LCannonStacks$Yard;", .fieldLink RX4 133 "CannonStacks$Yard" "loose" "[I", .fieldLink RX4 18 "CannonStacks" "store" "[I"] ++ wsX40 ++ wsX30)
def wsX4_checkCat : List Cond := .code yX4_checkCat cX4_checkCat 2 none :: ([.classLink RX4 170 "java/lang/IndexOutOfBoundsException", .initialized "java/lang/IndexOutOfBoundsException", .fieldLink RX4 33 "CannonStacks" "yard" "LCannonStacks$Yard;", .fieldLink RX4 68 "CannonStacks$Yard" "catCount" "I", .methodLink RX4 175 yX4_isOutside, .static yX4_isOutside, .initialized RX4, .code yX4_isOutside cX4_isOutside 3 (some .boolean)] ++ wsX40 ++ wsX30 ++ (vx_atS RX4 174 "java/lang/IndexOutOfBoundsException" ["java/lang/RuntimeException", "java/lang/Exception"]).filter goodWord)
def wsX4_chase : List Cond := .code yX4_chase cX4_chase 4 (some .int) :: ([.fieldLink RX4 33 "CannonStacks" "yard" "LCannonStacks$Yard;", .fieldLink RX4 73 "CannonStacks$Yard" "cats" "[LCannonStacks$Cat;", .fieldLink RX4 139 "CannonStacks$Cat" "on" "I", .methodLink RX4 136 yX4_checkCat, .instanceMethod yX4_checkCat, .selects RX4 yX4_checkCat yX4_checkCat, .initialized RX4, .code yX4_checkCat cX4_checkCat 2 none, .classLink RX4 170 "java/lang/IndexOutOfBoundsException", .initialized "java/lang/IndexOutOfBoundsException", .fieldLink RX4 68 "CannonStacks$Yard" "catCount" "I", .methodLink RX4 175 yX4_isOutside, .static yX4_isOutside, .code yX4_isOutside cX4_isOutside 3 (some .boolean)] ++ wsX40 ++ wsX30 ++ wsX00 ++ (vx_atS RX4 174 "java/lang/IndexOutOfBoundsException" ["java/lang/RuntimeException", "java/lang/Exception"]).filter goodWord)
def wsX4_about_r1 : List Cond := [Cond.classLink RX4 170 "java/lang/IndexOutOfBoundsException", Cond.initialized "java/lang/IndexOutOfBoundsException", Cond.fieldLink RX4 33 "CannonStacks" "yard" "LCannonStacks$Yard;", Cond.fieldLink RX4 58 "CannonStacks$Yard" "piles" "[LCannonStacks$Pile;", Cond.fieldLink RX4 91 "CannonStacks$Pile" "calibre" "I", Cond.fieldLink RX4 142 "CannonStacks$Pile" "pyramid" "LCannonStacks$Pyramid;", Cond.fieldLink RX4 146 "CannonStacks$Pyramid" "edge" "I", Cond.fieldLink RX4 105 "CannonStacks$Pile" "balls" "I", Cond.fieldLink RX4 149 "CannonStacks$Pyramid" "capacity" "I", Cond.fieldLink RX4 85 "CannonStacks$Yard" "limit" "I", Cond.methodLink RX4 88 yX4_checkPile, Cond.instanceMethod yX4_checkPile, Cond.selects RX4 yX4_checkPile yX4_checkPile, Cond.initialized RX4, Cond.code yX4_checkPile cX4_checkPile 2 none, Cond.fieldLink RX4 47 "CannonStacks$Yard" "pileCount" "I", Cond.methodLink RX4 175 yX4_isOutside, Cond.static yX4_isOutside, Cond.code yX4_isOutside cX4_isOutside 3 (some .boolean), Cond.methodLink RX4 152 yX2_layersBegun, Cond.instanceMethod yX2_layersBegun, Cond.selects RX2 yX2_layersBegun yX2_layersBegun, Cond.initialized RX2, Cond.code yX2_layersBegun cX2_layersBegun 3 (some .int)]
def wsX4_about_r2 : List Cond := [Cond.fieldLink RX2 7 "CannonStacks$Pyramid" "edge" "I", Cond.fieldLink RX2 20 "CannonStacks$Pyramid" "starts" "[I", Cond.methodLink RX4 155 yX2_layersFull, Cond.instanceMethod yX2_layersFull, Cond.selects RX2 yX2_layersFull yX2_layersFull, Cond.code yX2_layersFull cX2_layersFull 3 (some .int), Cond.methodLink RX4 158 yX1_bareBalls, Cond.instanceMethod yX1_bareBalls, Cond.selects RX1 yX1_bareBalls yX1_bareBalls, Cond.initialized RX1, Cond.code yX1_bareBalls cX1_bareBalls 3 (some .int), Cond.fieldLink RX1 23 "CannonStacks$Pile" "balls" "I", Cond.methodLink RX1 72 yX1_isCovered, Cond.instanceMethod yX1_isCovered, Cond.selects RX1 yX1_isCovered yX1_isCovered, Cond.code yX1_isCovered cX1_isCovered 2 (some .boolean), Cond.fieldLink RX1 9 "CannonStacks$Pile" "pyramid" "LCannonStacks$Pyramid;", Cond.methodLink RX1 37 yX2_firstOn, Cond.instanceMethod yX2_firstOn, Cond.selects RX2 yX2_firstOn yX2_firstOn, Cond.code yX2_firstOn cX2_firstOn 2 (some .int), Cond.fieldLink RX2 24 "CannonStacks$Pyramid" "coverers" "[I", Cond.fieldLink RX2 17 "CannonStacks$Pyramid" "capacity" "I", Cond.methodLink RX4 161 yX1_rustyBalls]
def wsX4_about_r3 : List Cond := [Cond.instanceMethod yX1_rustyBalls, Cond.selects RX1 yX1_rustyBalls yX1_rustyBalls, Cond.code yX1_rustyBalls cX1_rustyBalls 4 (some .int), Cond.fieldLink RX1 15 "CannonStacks$Pile" "rust" "[I", Cond.methodLink RX4 164 yX1_greatestRust, Cond.instanceMethod yX1_greatestRust, Cond.selects RX1 yX1_greatestRust yX1_greatestRust, Cond.code yX1_greatestRust cX1_greatestRust 3 (some .int), Cond.methodLink RX1 53 Lib.Math.max.name, Cond.static Lib.Math.max.name, Cond.initialized "java/lang/Math", Cond.code Lib.Math.max.name Lib.Math.max.code 2 (some .int), Cond.methodLink RX4 167 yX1_allRust, Cond.instanceMethod yX1_allRust, Cond.selects RX1 yX1_allRust yX1_allRust, Cond.code yX1_allRust cX1_allRust 3 (some .int)]
def wsX4_about : List Cond := .code yX4_about cX4_about 4 (some .int) :: ((wsX4_about_r1 ++ (wsX4_about_r2 ++ wsX4_about_r3)) ++ wsX40 ++ wsX30 ++ wsX10 ++ wsX20 ++ (vx_atS RX4 174 "java/lang/IndexOutOfBoundsException" ["java/lang/RuntimeException", "java/lang/Exception"]).filter goodWord)
def wsX4_ball_r1 : List Cond := [Cond.classLink RX4 170 "java/lang/IndexOutOfBoundsException", Cond.initialized "java/lang/IndexOutOfBoundsException", Cond.fieldLink RX4 33 "CannonStacks" "yard" "LCannonStacks$Yard;", Cond.fieldLink RX4 58 "CannonStacks$Yard" "piles" "[LCannonStacks$Pile;", Cond.fieldLink RX4 105 "CannonStacks$Pile" "balls" "I", Cond.fieldLink RX4 142 "CannonStacks$Pile" "pyramid" "LCannonStacks$Pyramid;", Cond.methodLink RX4 88 yX4_checkPile, Cond.instanceMethod yX4_checkPile, Cond.selects RX4 yX4_checkPile yX4_checkPile, Cond.initialized RX4, Cond.code yX4_checkPile cX4_checkPile 2 none, Cond.fieldLink RX4 47 "CannonStacks$Yard" "pileCount" "I", Cond.methodLink RX4 175 yX4_isOutside, Cond.static yX4_isOutside, Cond.code yX4_isOutside cX4_isOutside 3 (some .boolean), Cond.methodLink RX4 181 yX1_rustOf, Cond.instanceMethod yX1_rustOf, Cond.selects RX1 yX1_rustOf yX1_rustOf, Cond.initialized RX1, Cond.code yX1_rustOf cX1_rustOf 2 (some .int), Cond.fieldLink RX1 15 "CannonStacks$Pile" "rust" "[I", Cond.methodLink RX4 184 yX2_layerOf, Cond.instanceMethod yX2_layerOf, Cond.selects RX2 yX2_layerOf yX2_layerOf]
def wsX4_ball_r2 : List Cond := [Cond.initialized RX2, Cond.code yX2_layerOf cX2_layerOf 2 (some .int), Cond.methodLink RX2 36 yX2_layersFull, Cond.instanceMethod yX2_layersFull, Cond.selects RX2 yX2_layersFull yX2_layersFull, Cond.code yX2_layersFull cX2_layersFull 3 (some .int), Cond.fieldLink RX2 7 "CannonStacks$Pyramid" "edge" "I", Cond.fieldLink RX2 20 "CannonStacks$Pyramid" "starts" "[I", Cond.methodLink RX4 187 yX2_rowOf, Cond.instanceMethod yX2_rowOf, Cond.selects RX2 yX2_rowOf yX2_rowOf, Cond.code yX2_rowOf cX2_rowOf 4 (some .int), Cond.methodLink RX2 39 yX2_layerOf, Cond.methodLink RX2 33 yX2_startOf, Cond.instanceMethod yX2_startOf, Cond.selects RX2 yX2_startOf yX2_startOf, Cond.code yX2_startOf cX2_startOf 2 (some .int), Cond.fieldLink RX2 17 "CannonStacks$Pyramid" "capacity" "I", Cond.methodLink RX4 190 yX2_placeOf, Cond.instanceMethod yX2_placeOf, Cond.selects RX2 yX2_placeOf yX2_placeOf, Cond.code yX2_placeOf cX2_placeOf 4 (some .int), Cond.methodLink RX4 193 yX1_isCovered, Cond.instanceMethod yX1_isCovered]
def wsX4_ball_r3 : List Cond := [Cond.selects RX1 yX1_isCovered yX1_isCovered, Cond.code yX1_isCovered cX1_isCovered 2 (some .boolean), Cond.fieldLink RX1 9 "CannonStacks$Pile" "pyramid" "LCannonStacks$Pyramid;", Cond.fieldLink RX1 23 "CannonStacks$Pile" "balls" "I", Cond.methodLink RX1 37 yX2_firstOn, Cond.instanceMethod yX2_firstOn, Cond.selects RX2 yX2_firstOn yX2_firstOn, Cond.code yX2_firstOn cX2_firstOn 2 (some .int), Cond.fieldLink RX2 24 "CannonStacks$Pyramid" "coverers" "[I", Cond.methodLink RX4 197 yX1_ballsOn, Cond.instanceMethod yX1_ballsOn, Cond.selects RX1 yX1_ballsOn yX1_ballsOn, Cond.code yX1_ballsOn cX1_ballsOn 9 (some .int), Cond.fieldLink RX1 50 "CannonStacks$Pyramid" "edge" "I", Cond.methodLink RX1 53 Lib.Math.max.name, Cond.static Lib.Math.max.name, Cond.initialized "java/lang/Math", Cond.code Lib.Math.max.name Lib.Math.max.code 2 (some .int), Cond.methodLink RX1 59 Lib.Math.min.name, Cond.static Lib.Math.min.name, Cond.code Lib.Math.min.name Lib.Math.min.code 2 (some .int), Cond.methodLink RX1 41 yX2_layerOf, Cond.methodLink RX1 44 yX2_rowOf, Cond.methodLink RX1 47 yX2_placeOf]
def wsX4_ball_r4 : List Cond := [Cond.methodLink RX1 62 yX2_numberOf, Cond.instanceMethod yX2_numberOf, Cond.selects RX2 yX2_numberOf yX2_numberOf, Cond.code yX2_numberOf cX2_numberOf 4 (some .int)]
def wsX4_ball : List Cond := .code yX4_ball cX4_ball 5 (some .int) :: ((wsX4_ball_r1 ++ (wsX4_ball_r2 ++ (wsX4_ball_r3 ++ wsX4_ball_r4))) ++ wsX40 ++ wsX30 ++ wsX10 ++ wsX20 ++ (vx_atS RX4 174 "java/lang/IndexOutOfBoundsException" ["java/lang/RuntimeException", "java/lang/Exception"]).filter goodWord)
def wsX4_at_r1 : List Cond := [Cond.classLink RX4 170 "java/lang/IndexOutOfBoundsException", Cond.initialized "java/lang/IndexOutOfBoundsException", Cond.fieldLink RX4 33 "CannonStacks" "yard" "LCannonStacks$Yard;", Cond.fieldLink RX4 58 "CannonStacks$Yard" "piles" "[LCannonStacks$Pile;", Cond.fieldLink RX4 142 "CannonStacks$Pile" "pyramid" "LCannonStacks$Pyramid;", Cond.fieldLink RX4 146 "CannonStacks$Pyramid" "edge" "I", Cond.fieldLink RX4 105 "CannonStacks$Pile" "balls" "I", Cond.methodLink RX4 88 yX4_checkPile, Cond.instanceMethod yX4_checkPile, Cond.selects RX4 yX4_checkPile yX4_checkPile, Cond.initialized RX4, Cond.code yX4_checkPile cX4_checkPile 2 none, Cond.fieldLink RX4 47 "CannonStacks$Yard" "pileCount" "I", Cond.methodLink RX4 175 yX4_isOutside, Cond.static yX4_isOutside, Cond.code yX4_isOutside cX4_isOutside 3 (some .boolean), Cond.methodLink RX4 208 yX2_numberOf, Cond.instanceMethod yX2_numberOf, Cond.selects RX2 yX2_numberOf yX2_numberOf, Cond.initialized RX2, Cond.code yX2_numberOf cX2_numberOf 4 (some .int), Cond.fieldLink RX2 7 "CannonStacks$Pyramid" "edge" "I", Cond.methodLink RX2 33 yX2_startOf, Cond.instanceMethod yX2_startOf]
def wsX4_at_r2 : List Cond := [Cond.selects RX2 yX2_startOf yX2_startOf, Cond.code yX2_startOf cX2_startOf 2 (some .int), Cond.fieldLink RX2 20 "CannonStacks$Pyramid" "starts" "[I", Cond.fieldLink RX2 17 "CannonStacks$Pyramid" "capacity" "I"]
def wsX4_at : List Cond := .code yX4_at cX4_at 8 (some .int) :: ((wsX4_at_r1 ++ wsX4_at_r2) ++ wsX40 ++ wsX30 ++ wsX10 ++ wsX20 ++ (vx_atS RX4 174 "java/lang/IndexOutOfBoundsException" ["java/lang/RuntimeException", "java/lang/Exception"]).filter goodWord)
def wsX4_told : List Cond := .code yX4_told cX4_told 3 (some .int) :: ([.classLink RX4 170 "java/lang/IndexOutOfBoundsException", .initialized "java/lang/IndexOutOfBoundsException", .fieldLink RX4 18 "CannonStacks" "store" "[I", .fieldLink RX4 33 "CannonStacks" "yard" "LCannonStacks$Yard;", .fieldLink RX4 133 "CannonStacks$Yard" "loose" "[I", .fieldLink RX4 22 "CannonStacks" "fired" "[I", .fieldLink RX4 25 "CannonStacks" "thrownAway" "[I", .methodLink RX4 40 yX4_checkCalibre, .static yX4_checkCalibre, .initialized RX4, .code yX4_checkCalibre cX4_checkCalibre 1 none, .methodLink RX4 175 yX4_isOutside, .static yX4_isOutside, .code yX4_isOutside cX4_isOutside 3 (some .boolean), .methodLink RX4 212 yX3_ballsOfCalibre, .instanceMethod yX3_ballsOfCalibre, .selects RX3 yX3_ballsOfCalibre yX3_ballsOfCalibre, .initialized RX3, .code yX3_ballsOfCalibre cX3_ballsOfCalibre 4 (some .int), .fieldLink RX3 35 "CannonStacks$Yard" "pileCount" "I", .fieldLink RX3 11 "CannonStacks$Yard" "piles" "[LCannonStacks$Pile;", .fieldLink RX3 85 "CannonStacks$Pile" "calibre" "I", .fieldLink RX3 91 "CannonStacks$Pile" "balls" "I"] ++ wsX40 ++ wsX30 ++ wsX10 ++ (vx_atS RX4 174 "java/lang/IndexOutOfBoundsException" ["java/lang/RuntimeException", "java/lang/Exception"]).filter goodWord)
def wsX4_mouser : List Cond := .code yX4_mouser cX4_mouser 4 (some .int) :: ([.classLink RX4 170 "java/lang/IndexOutOfBoundsException", .initialized "java/lang/IndexOutOfBoundsException", .fieldLink RX4 33 "CannonStacks" "yard" "LCannonStacks$Yard;", .fieldLink RX4 73 "CannonStacks$Yard" "cats" "[LCannonStacks$Cat;", .fieldLink RX4 77 "CannonStacks$Cat" "leap" "I", .fieldLink RX4 139 "CannonStacks$Cat" "on" "I", .fieldLink RX4 217 "CannonStacks$Cat" "rolledOff" "I", .methodLink RX4 136 yX4_checkCat, .instanceMethod yX4_checkCat, .selects RX4 yX4_checkCat yX4_checkCat, .initialized RX4, .code yX4_checkCat cX4_checkCat 2 none, .fieldLink RX4 68 "CannonStacks$Yard" "catCount" "I", .methodLink RX4 175 yX4_isOutside, .static yX4_isOutside, .code yX4_isOutside cX4_isOutside 3 (some .boolean)] ++ wsX40 ++ wsX30 ++ wsX00 ++ (vx_atS RX4 174 "java/lang/IndexOutOfBoundsException" ["java/lang/RuntimeException", "java/lang/Exception"]).filter goodWord)
def wsX4_count_r1 : List Cond := [Cond.classLink RX4 170 "java/lang/IndexOutOfBoundsException", Cond.initialized "java/lang/IndexOutOfBoundsException", Cond.fieldLink RX4 33 "CannonStacks" "yard" "LCannonStacks$Yard;", Cond.fieldLink RX4 222 "CannonStacks$Yard" "day" "I", Cond.fieldLink RX4 47 "CannonStacks$Yard" "pileCount" "I", Cond.fieldLink RX4 68 "CannonStacks$Yard" "catCount" "I", Cond.fieldLink RX4 18 "CannonStacks" "store" "[I", Cond.fieldLink RX4 22 "CannonStacks" "fired" "[I", Cond.fieldLink RX4 25 "CannonStacks" "thrownAway" "[I", Cond.fieldLink RX4 82 "CannonStacks$Yard" "rain" "I", Cond.fieldLink RX4 85 "CannonStacks$Yard" "limit" "I", Cond.methodLink RX4 225 yX4_sum, Cond.static yX4_sum, Cond.initialized RX4, Cond.code yX4_sum cX4_sum 3 (some .int), Cond.methodLink RX4 229 yX3_ballCount, Cond.instanceMethod yX3_ballCount, Cond.selects RX3 yX3_ballCount yX3_ballCount, Cond.initialized RX3, Cond.code yX3_ballCount cX3_ballCount 4 (some .int), Cond.fieldLink RX3 27 "CannonStacks$Yard" "loose" "[I", Cond.fieldLink RX3 35 "CannonStacks$Yard" "pileCount" "I", Cond.fieldLink RX3 11 "CannonStacks$Yard" "piles" "[LCannonStacks$Pile;", Cond.fieldLink RX3 31 "CannonStacks$Yard" "limit" "I"]
def wsX4_count_r2 : List Cond := [Cond.fieldLink RX3 91 "CannonStacks$Pile" "balls" "I", Cond.methodLink RX3 98 yX1_rustyBalls, Cond.instanceMethod yX1_rustyBalls, Cond.selects RX1 yX1_rustyBalls yX1_rustyBalls, Cond.initialized RX1, Cond.code yX1_rustyBalls cX1_rustyBalls 4 (some .int), Cond.fieldLink RX1 23 "CannonStacks$Pile" "balls" "I", Cond.fieldLink RX1 15 "CannonStacks$Pile" "rust" "[I"]
def wsX4_count : List Cond := .code yX4_count cX4_count 2 (some .int) :: ((wsX4_count_r1 ++ wsX4_count_r2) ++ wsX40 ++ wsX30 ++ wsX10 ++ (vx_atS RX4 174 "java/lang/IndexOutOfBoundsException" ["java/lang/RuntimeException", "java/lang/Exception"]).filter goodWord)
def wsX4_room : List Cond := .code yX4_room cX4_room 2 (some .int) :: ([.methodLink RX4 43 yX4_checkArgument, .static yX4_checkArgument, .initialized RX4, .code yX4_checkArgument cX4_checkArgument 3 none, .classLink RX4 120 "java/lang/IllegalArgumentException", .initialized "java/lang/IllegalArgumentException", .methodLink RX4 175 yX4_isOutside, .static yX4_isOutside, .code yX4_isOutside cX4_isOutside 3 (some .boolean), .methodLink RX4 234 yX2_squares, .static yX2_squares, .initialized RX2, .code yX2_squares cX2_squares 1 (some .int)] ++ (vx_atS RX4 124 "java/lang/IllegalArgumentException" ["java/lang/RuntimeException", "java/lang/Exception"]).filter goodWord)
def wsX4_side : List Cond := .code yX4_side cX4_side 3 (some .int) :: ([.methodLink RX4 43 yX4_checkArgument, .static yX4_checkArgument, .initialized RX4, .code yX4_checkArgument cX4_checkArgument 3 none, .classLink RX4 120 "java/lang/IllegalArgumentException", .initialized "java/lang/IllegalArgumentException", .methodLink RX4 175 yX4_isOutside, .static yX4_isOutside, .code yX4_isOutside cX4_isOutside 3 (some .boolean), .methodLink RX4 234 yX2_squares, .static yX2_squares, .initialized RX2, .code yX2_squares cX2_squares 1 (some .int)] ++ (vx_atS RX4 124 "java/lang/IllegalArgumentException" ["java/lang/RuntimeException", "java/lang/Exception"]).filter goodWord)
def wsX4_pass_r1 : List Cond := [Cond.fieldLink RX4 33 "CannonStacks" "yard" "LCannonStacks$Yard;", Cond.methodLink RX4 43 yX4_checkArgument, Cond.static yX4_checkArgument, Cond.initialized RX4, Cond.code yX4_checkArgument cX4_checkArgument 3 none, Cond.classLink RX4 120 "java/lang/IllegalArgumentException", Cond.initialized "java/lang/IllegalArgumentException", Cond.methodLink RX4 175 yX4_isOutside, Cond.static yX4_isOutside, Cond.code yX4_isOutside cX4_isOutside 3 (some .boolean), Cond.methodLink RX4 237 yX3_passDays, Cond.instanceMethod yX3_passDays, Cond.selects RX3 yX3_passDays yX3_passDays, Cond.initialized RX3, Cond.code yX3_passDays cX3_passDays 4 (some .int), Cond.methodLink RX3 60 yX3_passOneDay, Cond.instanceMethod yX3_passOneDay, Cond.selects RX3 yX3_passOneDay yX3_passOneDay, Cond.code yX3_passOneDay cX3_passOneDay 3 (some .int), Cond.fieldLink RX3 35 "CannonStacks$Yard" "pileCount" "I", Cond.fieldLink RX3 11 "CannonStacks$Yard" "piles" "[LCannonStacks$Pile;", Cond.fieldLink RX3 57 "CannonStacks$Yard" "rain" "I", Cond.fieldLink RX3 42 "CannonStacks$Yard" "catCount" "I", Cond.fieldLink RX3 22 "CannonStacks$Yard" "cats" "[LCannonStacks$Cat;"]
def wsX4_pass_r2 : List Cond := [Cond.fieldLink RX3 54 "CannonStacks$Yard" "day" "I", Cond.methodLink RX3 64 yX1_rustForADay, Cond.instanceMethod yX1_rustForADay, Cond.selects RX1 yX1_rustForADay yX1_rustForADay, Cond.initialized RX1, Cond.code yX1_rustForADay cX1_rustForADay 4 none, Cond.fieldLink RX1 23 "CannonStacks$Pile" "balls" "I", Cond.fieldLink RX1 15 "CannonStacks$Pile" "rust" "[I", Cond.methodLink RX1 59 Lib.Math.min.name, Cond.static Lib.Math.min.name, Cond.initialized "java/lang/Math", Cond.code Lib.Math.min.name Lib.Math.min.code 2 (some .int), Cond.methodLink RX1 72 yX1_isCovered, Cond.instanceMethod yX1_isCovered, Cond.selects RX1 yX1_isCovered yX1_isCovered, Cond.code yX1_isCovered cX1_isCovered 2 (some .boolean), Cond.fieldLink RX1 9 "CannonStacks$Pile" "pyramid" "LCannonStacks$Pyramid;", Cond.methodLink RX1 37 yX2_firstOn, Cond.instanceMethod yX2_firstOn, Cond.selects RX2 yX2_firstOn yX2_firstOn, Cond.initialized RX2, Cond.code yX2_firstOn cX2_firstOn 2 (some .int), Cond.fieldLink RX2 24 "CannonStacks$Pyramid" "coverers" "[I", Cond.fieldLink RX2 17 "CannonStacks$Pyramid" "capacity" "I"]
def wsX4_pass_r3 : List Cond := [Cond.methodLink RX3 68 yX3_letJump, Cond.instanceMethod yX3_letJump, Cond.selects RX3 yX3_letJump yX3_letJump, Cond.code yX3_letJump cX3_letJump 3 (some .int), Cond.fieldLink RX3 75 "CannonStacks$Cat" "on" "I", Cond.fieldLink RX3 27 "CannonStacks$Yard" "loose" "[I", Cond.fieldLink RX3 85 "CannonStacks$Pile" "calibre" "I", Cond.fieldLink RX3 88 "CannonStacks$Cat" "rolledOff" "I", Cond.methodLink RX3 72 yX0_jump, Cond.instanceMethod yX0_jump, Cond.selects RX0 yX0_jump yX0_jump, Cond.initialized RX0, Cond.code yX0_jump cX0_jump 2 none, Cond.fieldLink RX0 9 "CannonStacks$Cat" "on" "I", Cond.fieldLink RX0 15 "CannonStacks$Cat" "leap" "I", Cond.methodLink RX3 78 yX1_hasBrokenLayer, Cond.instanceMethod yX1_hasBrokenLayer, Cond.selects RX1 yX1_hasBrokenLayer yX1_hasBrokenLayer, Cond.code yX1_hasBrokenLayer cX1_hasBrokenLayer 1 (some .boolean), Cond.methodLink RX1 66 yX2_layersBegun, Cond.instanceMethod yX2_layersBegun, Cond.selects RX2 yX2_layersBegun yX2_layersBegun, Cond.code yX2_layersBegun cX2_layersBegun 3 (some .int), Cond.fieldLink RX2 7 "CannonStacks$Pyramid" "edge" "I"]
def wsX4_pass_r4 : List Cond := [Cond.fieldLink RX2 20 "CannonStacks$Pyramid" "starts" "[I", Cond.methodLink RX1 69 yX2_layersFull, Cond.instanceMethod yX2_layersFull, Cond.selects RX2 yX2_layersFull yX2_layersFull, Cond.code yX2_layersFull cX2_layersFull 3 (some .int), Cond.methodLink RX3 82 yX1_takeTop, Cond.instanceMethod yX1_takeTop, Cond.selects RX1 yX1_takeTop yX1_takeTop, Cond.code yX1_takeTop cX1_takeTop 1 (some .int)]
def wsX4_pass : List Cond := .code yX4_pass cX4_pass 2 (some .int) :: ((wsX4_pass_r1 ++ (wsX4_pass_r2 ++ (wsX4_pass_r3 ++ wsX4_pass_r4))) ++ wsX40 ++ wsX30 ++ wsX10 ++ wsX20 ++ wsX00 ++ (vx_atS RX4 124 "java/lang/IllegalArgumentException" ["java/lang/RuntimeException", "java/lang/Exception"]).filter goodWord)
def wsX4_until_r1 : List Cond := [Cond.fieldLink RX4 37 "CannonStacks" "trial" "LCannonStacks$Yard;", Cond.fieldLink RX4 33 "CannonStacks" "yard" "LCannonStacks$Yard;", Cond.fieldLink RX4 58 "CannonStacks$Yard" "piles" "[LCannonStacks$Pile;", Cond.fieldLink RX4 85 "CannonStacks$Yard" "limit" "I", Cond.methodLink RX4 88 yX4_checkPile, Cond.instanceMethod yX4_checkPile, Cond.selects RX4 yX4_checkPile yX4_checkPile, Cond.initialized RX4, Cond.code yX4_checkPile cX4_checkPile 2 none, Cond.classLink RX4 170 "java/lang/IndexOutOfBoundsException", Cond.initialized "java/lang/IndexOutOfBoundsException", Cond.fieldLink RX4 47 "CannonStacks$Yard" "pileCount" "I", Cond.methodLink RX4 175 yX4_isOutside, Cond.static yX4_isOutside, Cond.code yX4_isOutside cX4_isOutside 3 (some .boolean), Cond.methodLink RX4 240 yX3_copyFrom, Cond.instanceMethod yX3_copyFrom, Cond.selects RX3 yX3_copyFrom yX3_copyFrom, Cond.initialized RX3, Cond.code yX3_copyFrom cX3_copyFrom 3 none, Cond.fieldLink RX3 35 "CannonStacks$Yard" "pileCount" "I", Cond.fieldLink RX3 11 "CannonStacks$Yard" "piles" "[LCannonStacks$Pile;", Cond.fieldLink RX3 42 "CannonStacks$Yard" "catCount" "I", Cond.fieldLink RX3 22 "CannonStacks$Yard" "cats" "[LCannonStacks$Cat;"]
def wsX4_until_r2 : List Cond := [Cond.fieldLink RX3 27 "CannonStacks$Yard" "loose" "[I", Cond.methodLink RX3 48 arraycopyName, Cond.native arraycopyName, Cond.static arraycopyName, Cond.initialized "java/lang/System", Cond.fieldLink RX3 54 "CannonStacks$Yard" "day" "I", Cond.fieldLink RX3 57 "CannonStacks$Yard" "rain" "I", Cond.fieldLink RX3 31 "CannonStacks$Yard" "limit" "I", Cond.methodLink RX3 38 yX1_copyFrom, Cond.instanceMethod yX1_copyFrom, Cond.selects RX1 yX1_copyFrom yX1_copyFrom, Cond.initialized RX1, Cond.code yX1_copyFrom cX1_copyFrom 2 none, Cond.fieldLink RX1 19 "CannonStacks$Pile" "calibre" "I", Cond.fieldLink RX1 9 "CannonStacks$Pile" "pyramid" "LCannonStacks$Pyramid;", Cond.fieldLink RX1 23 "CannonStacks$Pile" "balls" "I", Cond.fieldLink RX1 15 "CannonStacks$Pile" "rust" "[I", Cond.methodLink RX1 26 arraycopyName, Cond.methodLink RX3 45 yX0_copyFrom, Cond.instanceMethod yX0_copyFrom, Cond.selects RX0 yX0_copyFrom yX0_copyFrom, Cond.initialized RX0, Cond.code yX0_copyFrom cX0_copyFrom 2 none, Cond.fieldLink RX0 15 "CannonStacks$Cat" "leap" "I"]
def wsX4_until_r3 : List Cond := [Cond.fieldLink RX0 9 "CannonStacks$Cat" "on" "I", Cond.fieldLink RX0 18 "CannonStacks$Cat" "rolledOff" "I", Cond.methodLink RX4 161 yX1_rustyBalls, Cond.instanceMethod yX1_rustyBalls, Cond.selects RX1 yX1_rustyBalls yX1_rustyBalls, Cond.code yX1_rustyBalls cX1_rustyBalls 4 (some .int), Cond.methodLink RX4 237 yX3_passDays, Cond.instanceMethod yX3_passDays, Cond.selects RX3 yX3_passDays yX3_passDays, Cond.code yX3_passDays cX3_passDays 4 (some .int), Cond.methodLink RX3 60 yX3_passOneDay, Cond.instanceMethod yX3_passOneDay, Cond.selects RX3 yX3_passOneDay yX3_passOneDay, Cond.code yX3_passOneDay cX3_passOneDay 3 (some .int), Cond.methodLink RX3 64 yX1_rustForADay, Cond.instanceMethod yX1_rustForADay, Cond.selects RX1 yX1_rustForADay yX1_rustForADay, Cond.code yX1_rustForADay cX1_rustForADay 4 none, Cond.methodLink RX1 59 Lib.Math.min.name, Cond.static Lib.Math.min.name, Cond.initialized "java/lang/Math", Cond.code Lib.Math.min.name Lib.Math.min.code 2 (some .int), Cond.methodLink RX1 72 yX1_isCovered, Cond.instanceMethod yX1_isCovered]
def wsX4_until_r4 : List Cond := [Cond.selects RX1 yX1_isCovered yX1_isCovered, Cond.code yX1_isCovered cX1_isCovered 2 (some .boolean), Cond.methodLink RX1 37 yX2_firstOn, Cond.instanceMethod yX2_firstOn, Cond.selects RX2 yX2_firstOn yX2_firstOn, Cond.initialized RX2, Cond.code yX2_firstOn cX2_firstOn 2 (some .int), Cond.fieldLink RX2 24 "CannonStacks$Pyramid" "coverers" "[I", Cond.fieldLink RX2 17 "CannonStacks$Pyramid" "capacity" "I", Cond.methodLink RX3 68 yX3_letJump, Cond.instanceMethod yX3_letJump, Cond.selects RX3 yX3_letJump yX3_letJump, Cond.code yX3_letJump cX3_letJump 3 (some .int), Cond.fieldLink RX3 75 "CannonStacks$Cat" "on" "I", Cond.fieldLink RX3 85 "CannonStacks$Pile" "calibre" "I", Cond.fieldLink RX3 88 "CannonStacks$Cat" "rolledOff" "I", Cond.methodLink RX3 72 yX0_jump, Cond.instanceMethod yX0_jump, Cond.selects RX0 yX0_jump yX0_jump, Cond.code yX0_jump cX0_jump 2 none, Cond.methodLink RX3 78 yX1_hasBrokenLayer, Cond.instanceMethod yX1_hasBrokenLayer, Cond.selects RX1 yX1_hasBrokenLayer yX1_hasBrokenLayer, Cond.code yX1_hasBrokenLayer cX1_hasBrokenLayer 1 (some .boolean)]
def wsX4_until_r5 : List Cond := [Cond.methodLink RX1 66 yX2_layersBegun, Cond.instanceMethod yX2_layersBegun, Cond.selects RX2 yX2_layersBegun yX2_layersBegun, Cond.code yX2_layersBegun cX2_layersBegun 3 (some .int), Cond.fieldLink RX2 7 "CannonStacks$Pyramid" "edge" "I", Cond.fieldLink RX2 20 "CannonStacks$Pyramid" "starts" "[I", Cond.methodLink RX1 69 yX2_layersFull, Cond.instanceMethod yX2_layersFull, Cond.selects RX2 yX2_layersFull yX2_layersFull, Cond.code yX2_layersFull cX2_layersFull 3 (some .int), Cond.methodLink RX3 82 yX1_takeTop, Cond.instanceMethod yX1_takeTop, Cond.selects RX1 yX1_takeTop yX1_takeTop, Cond.code yX1_takeTop cX1_takeTop 1 (some .int)]
def wsX4_until : List Cond := .code yX4_until cX4_until 3 (some .int) :: ((wsX4_until_r1 ++ (wsX4_until_r2 ++ (wsX4_until_r3 ++ (wsX4_until_r4 ++ wsX4_until_r5)))) ++ wsX40 ++ wsX30 ++ wsX10 ++ wsX00 ++ wsX20 ++ (vx_atS RX4 174 "java/lang/IndexOutOfBoundsException" ["java/lang/RuntimeException", "java/lang/Exception"]).filter goodWord)
def wsX4_foresee_r1 : List Cond := [Cond.classLink RX4 170 "java/lang/IndexOutOfBoundsException", Cond.initialized "java/lang/IndexOutOfBoundsException", Cond.fieldLink RX4 37 "CannonStacks" "trial" "LCannonStacks$Yard;", Cond.fieldLink RX4 33 "CannonStacks" "yard" "LCannonStacks$Yard;", Cond.methodLink RX4 43 yX4_checkArgument, Cond.static yX4_checkArgument, Cond.initialized RX4, Cond.code yX4_checkArgument cX4_checkArgument 3 none, Cond.classLink RX4 120 "java/lang/IllegalArgumentException", Cond.initialized "java/lang/IllegalArgumentException", Cond.methodLink RX4 175 yX4_isOutside, Cond.static yX4_isOutside, Cond.code yX4_isOutside cX4_isOutside 3 (some .boolean), Cond.methodLink RX4 240 yX3_copyFrom, Cond.instanceMethod yX3_copyFrom, Cond.selects RX3 yX3_copyFrom yX3_copyFrom, Cond.initialized RX3, Cond.code yX3_copyFrom cX3_copyFrom 3 none, Cond.fieldLink RX3 35 "CannonStacks$Yard" "pileCount" "I", Cond.fieldLink RX3 11 "CannonStacks$Yard" "piles" "[LCannonStacks$Pile;", Cond.fieldLink RX3 42 "CannonStacks$Yard" "catCount" "I", Cond.fieldLink RX3 22 "CannonStacks$Yard" "cats" "[LCannonStacks$Cat;", Cond.fieldLink RX3 27 "CannonStacks$Yard" "loose" "[I", Cond.methodLink RX3 48 arraycopyName]
def wsX4_foresee_r2 : List Cond := [Cond.native arraycopyName, Cond.static arraycopyName, Cond.initialized "java/lang/System", Cond.fieldLink RX3 54 "CannonStacks$Yard" "day" "I", Cond.fieldLink RX3 57 "CannonStacks$Yard" "rain" "I", Cond.fieldLink RX3 31 "CannonStacks$Yard" "limit" "I", Cond.methodLink RX3 38 yX1_copyFrom, Cond.instanceMethod yX1_copyFrom, Cond.selects RX1 yX1_copyFrom yX1_copyFrom, Cond.initialized RX1, Cond.code yX1_copyFrom cX1_copyFrom 2 none, Cond.fieldLink RX1 19 "CannonStacks$Pile" "calibre" "I", Cond.fieldLink RX1 9 "CannonStacks$Pile" "pyramid" "LCannonStacks$Pyramid;", Cond.fieldLink RX1 23 "CannonStacks$Pile" "balls" "I", Cond.fieldLink RX1 15 "CannonStacks$Pile" "rust" "[I", Cond.methodLink RX1 26 arraycopyName, Cond.methodLink RX3 45 yX0_copyFrom, Cond.instanceMethod yX0_copyFrom, Cond.selects RX0 yX0_copyFrom yX0_copyFrom, Cond.initialized RX0, Cond.code yX0_copyFrom cX0_copyFrom 2 none, Cond.fieldLink RX0 15 "CannonStacks$Cat" "leap" "I", Cond.fieldLink RX0 9 "CannonStacks$Cat" "on" "I", Cond.fieldLink RX0 18 "CannonStacks$Cat" "rolledOff" "I"]
def wsX4_foresee_r3 : List Cond := [Cond.methodLink RX4 237 yX3_passDays, Cond.instanceMethod yX3_passDays, Cond.selects RX3 yX3_passDays yX3_passDays, Cond.code yX3_passDays cX3_passDays 4 (some .int), Cond.methodLink RX3 60 yX3_passOneDay, Cond.instanceMethod yX3_passOneDay, Cond.selects RX3 yX3_passOneDay yX3_passOneDay, Cond.code yX3_passOneDay cX3_passOneDay 3 (some .int), Cond.methodLink RX3 64 yX1_rustForADay, Cond.instanceMethod yX1_rustForADay, Cond.selects RX1 yX1_rustForADay yX1_rustForADay, Cond.code yX1_rustForADay cX1_rustForADay 4 none, Cond.methodLink RX1 59 Lib.Math.min.name, Cond.static Lib.Math.min.name, Cond.initialized "java/lang/Math", Cond.code Lib.Math.min.name Lib.Math.min.code 2 (some .int), Cond.methodLink RX1 72 yX1_isCovered, Cond.instanceMethod yX1_isCovered, Cond.selects RX1 yX1_isCovered yX1_isCovered, Cond.code yX1_isCovered cX1_isCovered 2 (some .boolean), Cond.methodLink RX1 37 yX2_firstOn, Cond.instanceMethod yX2_firstOn, Cond.selects RX2 yX2_firstOn yX2_firstOn, Cond.initialized RX2]
def wsX4_foresee_r4 : List Cond := [Cond.code yX2_firstOn cX2_firstOn 2 (some .int), Cond.fieldLink RX2 24 "CannonStacks$Pyramid" "coverers" "[I", Cond.fieldLink RX2 17 "CannonStacks$Pyramid" "capacity" "I", Cond.methodLink RX3 68 yX3_letJump, Cond.instanceMethod yX3_letJump, Cond.selects RX3 yX3_letJump yX3_letJump, Cond.code yX3_letJump cX3_letJump 3 (some .int), Cond.fieldLink RX3 75 "CannonStacks$Cat" "on" "I", Cond.fieldLink RX3 85 "CannonStacks$Pile" "calibre" "I", Cond.fieldLink RX3 88 "CannonStacks$Cat" "rolledOff" "I", Cond.methodLink RX3 72 yX0_jump, Cond.instanceMethod yX0_jump, Cond.selects RX0 yX0_jump yX0_jump, Cond.code yX0_jump cX0_jump 2 none, Cond.methodLink RX3 78 yX1_hasBrokenLayer, Cond.instanceMethod yX1_hasBrokenLayer, Cond.selects RX1 yX1_hasBrokenLayer yX1_hasBrokenLayer, Cond.code yX1_hasBrokenLayer cX1_hasBrokenLayer 1 (some .boolean), Cond.methodLink RX1 66 yX2_layersBegun, Cond.instanceMethod yX2_layersBegun, Cond.selects RX2 yX2_layersBegun yX2_layersBegun, Cond.code yX2_layersBegun cX2_layersBegun 3 (some .int), Cond.fieldLink RX2 7 "CannonStacks$Pyramid" "edge" "I", Cond.fieldLink RX2 20 "CannonStacks$Pyramid" "starts" "[I"]
def wsX4_foresee_r5 : List Cond := [Cond.methodLink RX1 69 yX2_layersFull, Cond.instanceMethod yX2_layersFull, Cond.selects RX2 yX2_layersFull yX2_layersFull, Cond.code yX2_layersFull cX2_layersFull 3 (some .int), Cond.methodLink RX3 82 yX1_takeTop, Cond.instanceMethod yX1_takeTop, Cond.selects RX1 yX1_takeTop yX1_takeTop, Cond.code yX1_takeTop cX1_takeTop 1 (some .int), Cond.methodLink RX4 229 yX3_ballCount, Cond.instanceMethod yX3_ballCount, Cond.selects RX3 yX3_ballCount yX3_ballCount, Cond.code yX3_ballCount cX3_ballCount 4 (some .int), Cond.fieldLink RX3 91 "CannonStacks$Pile" "balls" "I", Cond.static yX4_sum, Cond.code yX4_sum cX4_sum 3 (some .int), Cond.methodLink RX3 98 yX1_rustyBalls, Cond.instanceMethod yX1_rustyBalls, Cond.selects RX1 yX1_rustyBalls yX1_rustyBalls, Cond.code yX1_rustyBalls cX1_rustyBalls 4 (some .int)]
def wsX4_foresee : List Cond := .code yX4_foresee cX4_foresee 3 (some .int) :: ((wsX4_foresee_r1 ++ (wsX4_foresee_r2 ++ (wsX4_foresee_r3 ++ (wsX4_foresee_r4 ++ wsX4_foresee_r5)))) ++ wsX40 ++ wsX30 ++ wsX10 ++ wsX00 ++ wsX20 ++ (vx_atS RX4 174 "java/lang/IndexOutOfBoundsException" ["java/lang/RuntimeException", "java/lang/Exception"]).filter goodWord ++ (vx_atS RX4 124 "java/lang/IllegalArgumentException" ["java/lang/RuntimeException", "java/lang/Exception"]).filter goodWord)
def wsX4_would_r1 : List Cond := [Cond.fieldLink RX4 33 "CannonStacks" "yard" "LCannonStacks$Yard;", Cond.fieldLink RX4 58 "CannonStacks$Yard" "piles" "[LCannonStacks$Pile;", Cond.fieldLink RX4 142 "CannonStacks$Pile" "pyramid" "LCannonStacks$Pyramid;", Cond.fieldLink RX4 105 "CannonStacks$Pile" "balls" "I", Cond.fieldLink RX4 85 "CannonStacks$Yard" "limit" "I", Cond.methodLink RX4 88 yX4_checkPile, Cond.instanceMethod yX4_checkPile, Cond.selects RX4 yX4_checkPile yX4_checkPile, Cond.initialized RX4, Cond.code yX4_checkPile cX4_checkPile 2 none, Cond.classLink RX4 170 "java/lang/IndexOutOfBoundsException", Cond.initialized "java/lang/IndexOutOfBoundsException", Cond.fieldLink RX4 47 "CannonStacks$Yard" "pileCount" "I", Cond.methodLink RX4 175 yX4_isOutside, Cond.static yX4_isOutside, Cond.code yX4_isOutside cX4_isOutside 3 (some .boolean), Cond.methodLink RX4 161 yX1_rustyBalls, Cond.instanceMethod yX1_rustyBalls, Cond.selects RX1 yX1_rustyBalls yX1_rustyBalls, Cond.initialized RX1, Cond.code yX1_rustyBalls cX1_rustyBalls 4 (some .int), Cond.fieldLink RX1 23 "CannonStacks$Pile" "balls" "I", Cond.fieldLink RX1 15 "CannonStacks$Pile" "rust" "[I", Cond.methodLink RX4 152 yX2_layersBegun]
def wsX4_would_r2 : List Cond := [Cond.instanceMethod yX2_layersBegun, Cond.selects RX2 yX2_layersBegun yX2_layersBegun, Cond.initialized RX2, Cond.code yX2_layersBegun cX2_layersBegun 3 (some .int), Cond.fieldLink RX2 7 "CannonStacks$Pyramid" "edge" "I", Cond.fieldLink RX2 20 "CannonStacks$Pyramid" "starts" "[I"]
def wsX4_would : List Cond := .code yX4_would cX4_would 3 (some .int) :: ((wsX4_would_r1 ++ wsX4_would_r2) ++ wsX40 ++ wsX30 ++ wsX10 ++ wsX20 ++ (vx_atS RX4 174 "java/lang/IndexOutOfBoundsException" ["java/lang/RuntimeException", "java/lang/Exception"]).filter goodWord)
def wsX4_advise : List Cond := .code yX4_advise cX4_advise 7 (some .int) :: ([.fieldLink RX4 33 "CannonStacks" "yard" "LCannonStacks$Yard;", .fieldLink RX4 47 "CannonStacks$Yard" "pileCount" "I", .fieldLink RX4 58 "CannonStacks$Yard" "piles" "[LCannonStacks$Pile;", .fieldLink RX4 85 "CannonStacks$Yard" "limit" "I", .fieldLink RX4 105 "CannonStacks$Pile" "balls" "I", .methodLink RX4 161 yX1_rustyBalls, .instanceMethod yX1_rustyBalls, .selects RX1 yX1_rustyBalls yX1_rustyBalls, .initialized RX1, .code yX1_rustyBalls cX1_rustyBalls 4 (some .int), .fieldLink RX1 23 "CannonStacks$Pile" "balls" "I", .fieldLink RX1 15 "CannonStacks$Pile" "rust" "[I"] ++ wsX40 ++ wsX30 ++ wsX10)
def wsX4_mean : List Cond := .code yX4_mean cX4_mean 4 (some .double) :: ([.fieldLink RX4 33 "CannonStacks" "yard" "LCannonStacks$Yard;", .fieldLink RX4 47 "CannonStacks$Yard" "pileCount" "I", .fieldLink RX4 58 "CannonStacks$Yard" "piles" "[LCannonStacks$Pile;", .fieldLink RX4 105 "CannonStacks$Pile" "balls" "I", .methodLink RX4 167 yX1_allRust, .instanceMethod yX1_allRust, .selects RX1 yX1_allRust yX1_allRust, .initialized RX1, .code yX1_allRust cX1_allRust 3 (some .int), .fieldLink RX1 23 "CannonStacks$Pile" "balls" "I", .fieldLink RX1 15 "CannonStacks$Pile" "rust" "[I"] ++ wsX40 ++ wsX30 ++ wsX10)
def wsX4_digestOfPile_r1 : List Cond := [Cond.constantLong RX4 248 (31), Cond.fieldLink RX4 33 "CannonStacks" "yard" "LCannonStacks$Yard;", Cond.fieldLink RX4 58 "CannonStacks$Yard" "piles" "[LCannonStacks$Pile;", Cond.fieldLink RX4 105 "CannonStacks$Pile" "balls" "I", Cond.methodLink RX4 263 yX4_about, Cond.instanceMethod yX4_about, Cond.selects RX4 yX4_about yX4_about, Cond.initialized RX4, Cond.code yX4_about cX4_about 4 (some .int), Cond.classLink RX4 170 "java/lang/IndexOutOfBoundsException", Cond.initialized "java/lang/IndexOutOfBoundsException", Cond.fieldLink RX4 91 "CannonStacks$Pile" "calibre" "I", Cond.fieldLink RX4 142 "CannonStacks$Pile" "pyramid" "LCannonStacks$Pyramid;", Cond.fieldLink RX4 146 "CannonStacks$Pyramid" "edge" "I", Cond.fieldLink RX4 149 "CannonStacks$Pyramid" "capacity" "I", Cond.fieldLink RX4 85 "CannonStacks$Yard" "limit" "I", Cond.methodLink RX4 88 yX4_checkPile, Cond.instanceMethod yX4_checkPile, Cond.selects RX4 yX4_checkPile yX4_checkPile, Cond.code yX4_checkPile cX4_checkPile 2 none, Cond.fieldLink RX4 47 "CannonStacks$Yard" "pileCount" "I", Cond.methodLink RX4 175 yX4_isOutside, Cond.static yX4_isOutside, Cond.code yX4_isOutside cX4_isOutside 3 (some .boolean)]
def wsX4_digestOfPile_r2 : List Cond := [Cond.methodLink RX4 152 yX2_layersBegun, Cond.instanceMethod yX2_layersBegun, Cond.selects RX2 yX2_layersBegun yX2_layersBegun, Cond.initialized RX2, Cond.code yX2_layersBegun cX2_layersBegun 3 (some .int), Cond.fieldLink RX2 7 "CannonStacks$Pyramid" "edge" "I", Cond.fieldLink RX2 20 "CannonStacks$Pyramid" "starts" "[I", Cond.methodLink RX4 155 yX2_layersFull, Cond.instanceMethod yX2_layersFull, Cond.selects RX2 yX2_layersFull yX2_layersFull, Cond.code yX2_layersFull cX2_layersFull 3 (some .int), Cond.methodLink RX4 158 yX1_bareBalls, Cond.instanceMethod yX1_bareBalls, Cond.selects RX1 yX1_bareBalls yX1_bareBalls, Cond.initialized RX1, Cond.code yX1_bareBalls cX1_bareBalls 3 (some .int), Cond.fieldLink RX1 23 "CannonStacks$Pile" "balls" "I", Cond.methodLink RX1 72 yX1_isCovered, Cond.instanceMethod yX1_isCovered, Cond.selects RX1 yX1_isCovered yX1_isCovered, Cond.code yX1_isCovered cX1_isCovered 2 (some .boolean), Cond.fieldLink RX1 9 "CannonStacks$Pile" "pyramid" "LCannonStacks$Pyramid;", Cond.methodLink RX1 37 yX2_firstOn, Cond.instanceMethod yX2_firstOn]
def wsX4_digestOfPile_r3 : List Cond := [Cond.selects RX2 yX2_firstOn yX2_firstOn, Cond.code yX2_firstOn cX2_firstOn 2 (some .int), Cond.fieldLink RX2 24 "CannonStacks$Pyramid" "coverers" "[I", Cond.fieldLink RX2 17 "CannonStacks$Pyramid" "capacity" "I", Cond.methodLink RX4 161 yX1_rustyBalls, Cond.instanceMethod yX1_rustyBalls, Cond.selects RX1 yX1_rustyBalls yX1_rustyBalls, Cond.code yX1_rustyBalls cX1_rustyBalls 4 (some .int), Cond.fieldLink RX1 15 "CannonStacks$Pile" "rust" "[I", Cond.methodLink RX4 164 yX1_greatestRust, Cond.instanceMethod yX1_greatestRust, Cond.selects RX1 yX1_greatestRust yX1_greatestRust, Cond.code yX1_greatestRust cX1_greatestRust 3 (some .int), Cond.methodLink RX1 53 Lib.Math.max.name, Cond.static Lib.Math.max.name, Cond.initialized "java/lang/Math", Cond.code Lib.Math.max.name Lib.Math.max.code 2 (some .int), Cond.methodLink RX4 167 yX1_allRust, Cond.instanceMethod yX1_allRust, Cond.selects RX1 yX1_allRust yX1_allRust, Cond.code yX1_allRust cX1_allRust 3 (some .int), Cond.methodLink RX4 181 yX1_rustOf, Cond.instanceMethod yX1_rustOf, Cond.selects RX1 yX1_rustOf yX1_rustOf]
def wsX4_digestOfPile_r4 : List Cond := [Cond.code yX1_rustOf cX1_rustOf 2 (some .int)]
def wsX4_digestOfPile : List Cond := .code yX4_digestOfPile cX4_digestOfPile 8 (some .long) :: ((wsX4_digestOfPile_r1 ++ (wsX4_digestOfPile_r2 ++ (wsX4_digestOfPile_r3 ++ wsX4_digestOfPile_r4))) ++ wsX40 ++ wsX30 ++ wsX10 ++ wsX20 ++ (vx_atS RX4 174 "java/lang/IndexOutOfBoundsException" ["java/lang/RuntimeException", "java/lang/Exception"]).filter goodWord)
def wsX4_digest_r1 : List Cond := [Cond.constantLong RX4 246 (1811), Cond.constantLong RX4 248 (31), Cond.fieldLink RX4 33 "CannonStacks" "yard" "LCannonStacks$Yard;", Cond.fieldLink RX4 47 "CannonStacks$Yard" "pileCount" "I", Cond.fieldLink RX4 68 "CannonStacks$Yard" "catCount" "I", Cond.methodLink RX4 250 yX4_count, Cond.instanceMethod yX4_count, Cond.selects RX4 yX4_count yX4_count, Cond.initialized RX4, Cond.code yX4_count cX4_count 2 (some .int), Cond.classLink RX4 170 "java/lang/IndexOutOfBoundsException", Cond.initialized "java/lang/IndexOutOfBoundsException", Cond.fieldLink RX4 222 "CannonStacks$Yard" "day" "I", Cond.fieldLink RX4 18 "CannonStacks" "store" "[I", Cond.fieldLink RX4 22 "CannonStacks" "fired" "[I", Cond.fieldLink RX4 25 "CannonStacks" "thrownAway" "[I", Cond.fieldLink RX4 82 "CannonStacks$Yard" "rain" "I", Cond.fieldLink RX4 85 "CannonStacks$Yard" "limit" "I", Cond.methodLink RX4 225 yX4_sum, Cond.static yX4_sum, Cond.code yX4_sum cX4_sum 3 (some .int), Cond.methodLink RX4 229 yX3_ballCount, Cond.instanceMethod yX3_ballCount, Cond.selects RX3 yX3_ballCount yX3_ballCount]
def wsX4_digest_r2 : List Cond := [Cond.initialized RX3, Cond.code yX3_ballCount cX3_ballCount 4 (some .int), Cond.fieldLink RX3 27 "CannonStacks$Yard" "loose" "[I", Cond.fieldLink RX3 35 "CannonStacks$Yard" "pileCount" "I", Cond.fieldLink RX3 11 "CannonStacks$Yard" "piles" "[LCannonStacks$Pile;", Cond.fieldLink RX3 31 "CannonStacks$Yard" "limit" "I", Cond.fieldLink RX3 91 "CannonStacks$Pile" "balls" "I", Cond.methodLink RX3 98 yX1_rustyBalls, Cond.instanceMethod yX1_rustyBalls, Cond.selects RX1 yX1_rustyBalls yX1_rustyBalls, Cond.initialized RX1, Cond.code yX1_rustyBalls cX1_rustyBalls 4 (some .int), Cond.fieldLink RX1 23 "CannonStacks$Pile" "balls" "I", Cond.fieldLink RX1 15 "CannonStacks$Pile" "rust" "[I", Cond.methodLink RX4 253 yX4_told, Cond.instanceMethod yX4_told, Cond.selects RX4 yX4_told yX4_told, Cond.code yX4_told cX4_told 3 (some .int), Cond.fieldLink RX4 133 "CannonStacks$Yard" "loose" "[I", Cond.methodLink RX4 40 yX4_checkCalibre, Cond.static yX4_checkCalibre, Cond.code yX4_checkCalibre cX4_checkCalibre 1 none, Cond.methodLink RX4 175 yX4_isOutside, Cond.static yX4_isOutside]
def wsX4_digest_r3 : List Cond := [Cond.code yX4_isOutside cX4_isOutside 3 (some .boolean), Cond.methodLink RX4 212 yX3_ballsOfCalibre, Cond.instanceMethod yX3_ballsOfCalibre, Cond.selects RX3 yX3_ballsOfCalibre yX3_ballsOfCalibre, Cond.code yX3_ballsOfCalibre cX3_ballsOfCalibre 4 (some .int), Cond.fieldLink RX3 85 "CannonStacks$Pile" "calibre" "I", Cond.methodLink RX4 256 yX4_digestOfPile, Cond.instanceMethod yX4_digestOfPile, Cond.selects RX4 yX4_digestOfPile yX4_digestOfPile, Cond.code yX4_digestOfPile cX4_digestOfPile 8 (some .long), Cond.fieldLink RX4 58 "CannonStacks$Yard" "piles" "[LCannonStacks$Pile;", Cond.fieldLink RX4 105 "CannonStacks$Pile" "balls" "I", Cond.methodLink RX4 263 yX4_about, Cond.instanceMethod yX4_about, Cond.selects RX4 yX4_about yX4_about, Cond.code yX4_about cX4_about 4 (some .int), Cond.fieldLink RX4 91 "CannonStacks$Pile" "calibre" "I", Cond.fieldLink RX4 142 "CannonStacks$Pile" "pyramid" "LCannonStacks$Pyramid;", Cond.fieldLink RX4 146 "CannonStacks$Pyramid" "edge" "I", Cond.fieldLink RX4 149 "CannonStacks$Pyramid" "capacity" "I", Cond.methodLink RX4 88 yX4_checkPile, Cond.instanceMethod yX4_checkPile, Cond.selects RX4 yX4_checkPile yX4_checkPile, Cond.code yX4_checkPile cX4_checkPile 2 none]
def wsX4_digest_r4 : List Cond := [Cond.methodLink RX4 152 yX2_layersBegun, Cond.instanceMethod yX2_layersBegun, Cond.selects RX2 yX2_layersBegun yX2_layersBegun, Cond.initialized RX2, Cond.code yX2_layersBegun cX2_layersBegun 3 (some .int), Cond.fieldLink RX2 7 "CannonStacks$Pyramid" "edge" "I", Cond.fieldLink RX2 20 "CannonStacks$Pyramid" "starts" "[I", Cond.methodLink RX4 155 yX2_layersFull, Cond.instanceMethod yX2_layersFull, Cond.selects RX2 yX2_layersFull yX2_layersFull, Cond.code yX2_layersFull cX2_layersFull 3 (some .int), Cond.methodLink RX4 158 yX1_bareBalls, Cond.instanceMethod yX1_bareBalls, Cond.selects RX1 yX1_bareBalls yX1_bareBalls, Cond.code yX1_bareBalls cX1_bareBalls 3 (some .int), Cond.methodLink RX1 72 yX1_isCovered, Cond.instanceMethod yX1_isCovered, Cond.selects RX1 yX1_isCovered yX1_isCovered, Cond.code yX1_isCovered cX1_isCovered 2 (some .boolean), Cond.fieldLink RX1 9 "CannonStacks$Pile" "pyramid" "LCannonStacks$Pyramid;", Cond.methodLink RX1 37 yX2_firstOn, Cond.instanceMethod yX2_firstOn, Cond.selects RX2 yX2_firstOn yX2_firstOn, Cond.code yX2_firstOn cX2_firstOn 2 (some .int)]
def wsX4_digest_r5 : List Cond := [Cond.fieldLink RX2 24 "CannonStacks$Pyramid" "coverers" "[I", Cond.fieldLink RX2 17 "CannonStacks$Pyramid" "capacity" "I", Cond.methodLink RX4 161 yX1_rustyBalls, Cond.methodLink RX4 164 yX1_greatestRust, Cond.instanceMethod yX1_greatestRust, Cond.selects RX1 yX1_greatestRust yX1_greatestRust, Cond.code yX1_greatestRust cX1_greatestRust 3 (some .int), Cond.methodLink RX1 53 Lib.Math.max.name, Cond.static Lib.Math.max.name, Cond.initialized "java/lang/Math", Cond.code Lib.Math.max.name Lib.Math.max.code 2 (some .int), Cond.methodLink RX4 167 yX1_allRust, Cond.instanceMethod yX1_allRust, Cond.selects RX1 yX1_allRust yX1_allRust, Cond.code yX1_allRust cX1_allRust 3 (some .int), Cond.methodLink RX4 181 yX1_rustOf, Cond.instanceMethod yX1_rustOf, Cond.selects RX1 yX1_rustOf yX1_rustOf, Cond.code yX1_rustOf cX1_rustOf 2 (some .int), Cond.methodLink RX4 260 yX4_mouser, Cond.instanceMethod yX4_mouser, Cond.selects RX4 yX4_mouser yX4_mouser, Cond.code yX4_mouser cX4_mouser 4 (some .int), Cond.fieldLink RX4 73 "CannonStacks$Yard" "cats" "[LCannonStacks$Cat;"]
def wsX4_digest_r6 : List Cond := [Cond.fieldLink RX4 77 "CannonStacks$Cat" "leap" "I", Cond.fieldLink RX4 139 "CannonStacks$Cat" "on" "I", Cond.fieldLink RX4 217 "CannonStacks$Cat" "rolledOff" "I", Cond.methodLink RX4 136 yX4_checkCat, Cond.instanceMethod yX4_checkCat, Cond.selects RX4 yX4_checkCat yX4_checkCat, Cond.code yX4_checkCat cX4_checkCat 2 none]
def wsX4_digest : List Cond := .code yX4_digest cX4_digest 5 (some .long) :: ((wsX4_digest_r1 ++ (wsX4_digest_r2 ++ (wsX4_digest_r3 ++ (wsX4_digest_r4 ++ (wsX4_digest_r5 ++ wsX4_digest_r6))))) ++ wsX40 ++ wsX30 ++ wsX10 ++ wsX20 ++ wsX00 ++ (vx_atS RX4 174 "java/lang/IndexOutOfBoundsException" ["java/lang/RuntimeException", "java/lang/Exception"]).filter goodWord)
def wsX5_init : List Cond := .code yX5_init cX5_init 1 none :: ([.methodLink RX5 1 objectInit, .instanceMethod objectInit, .code objectInit ⟨#[0xb1]⟩ 1 none, .fieldLink RX5 7 "CannonStacksModel" "limit" "I", .arrayClass .int, .fieldLink RX5 13 "CannonStacksModel" "calibres" "[I", .fieldLink RX5 17 "CannonStacksModel" "sides" "[I", .fieldLink RX5 20 "CannonStacksModel" "leaps" "[I", .fieldLink RX5 23 "CannonStacksModel" "many" "[I", .fieldLink RX5 26 "CannonStacksModel" "rust" "[I", .fieldLink RX5 29 "CannonStacksModel" "numbers" "[I", .fieldLink RX5 32 "CannonStacksModel" "where" "[I", .fieldLink RX5 35 "CannonStacksModel" "rolled" "[I", .fieldLink RX5 38 "CannonStacksModel" "keptMany" "[I", .fieldLink RX5 41 "CannonStacksModel" "keptRust" "[I", .fieldLink RX5 44 "CannonStacksModel" "keptNumbers" "[I", .fieldLink RX5 47 "CannonStacksModel" "keptWhere" "[I", .fieldLink RX5 50 "CannonStacksModel" "keptRolled" "[I"] ++ wsX50)
def wsX5_thrown : List Cond := .code yX5_thrown cX5_thrown 1 (some .int) :: ([.fieldLink RX5 53 "CannonStacksModel" "thrown" "I"] ++ wsX50)
def wsX5_fail : List Cond := .code yX5_fail cX5_fail 2 (some .int) :: ([.fieldLink RX5 53 "CannonStacksModel" "thrown" "I"] ++ wsX50)
def wsX5_isIn : List Cond := .code yX5_isIn cX5_isIn 3 (some .boolean) :: ([])
def wsX5_isPile : List Cond := .code yX5_isPile cX5_isPile 2 (some .boolean) :: ([.fieldLink RX5 56 "CannonStacksModel" "piles" "I", .methodLink RX5 59 yX5_isIn, .static yX5_isIn, .initialized RX5, .code yX5_isIn cX5_isIn 3 (some .boolean)] ++ wsX50)
def wsX5_isCalibre : List Cond := .code yX5_isCalibre cX5_isCalibre 1 (some .boolean) :: ([.methodLink RX5 59 yX5_isIn, .static yX5_isIn, .initialized RX5, .code yX5_isIn cX5_isIn 3 (some .boolean)])
def wsX5_of : List Cond := .code yX5_of cX5_of 3 (some .int) :: ([.fieldLink RX5 29 "CannonStacksModel" "numbers" "[I", .fieldLink RX5 13 "CannonStacksModel" "calibres" "[I"] ++ wsX50)
def wsX5_more : List Cond := .code yX5_more cX5_more 4 none :: ([.fieldLink RX5 29 "CannonStacksModel" "numbers" "[I"] ++ wsX50)
def wsX5_keep : List Cond := .code yX5_keep cX5_keep 1 none :: ([.fieldLink RX5 23 "CannonStacksModel" "many" "[I", .fieldLink RX5 38 "CannonStacksModel" "keptMany" "[I", .methodLink RX5 63 arraycopyName, .native arraycopyName, .static arraycopyName, .initialized "java/lang/System", .fieldLink RX5 26 "CannonStacksModel" "rust" "[I", .fieldLink RX5 41 "CannonStacksModel" "keptRust" "[I", .fieldLink RX5 29 "CannonStacksModel" "numbers" "[I", .fieldLink RX5 44 "CannonStacksModel" "keptNumbers" "[I", .fieldLink RX5 32 "CannonStacksModel" "where" "[I", .fieldLink RX5 47 "CannonStacksModel" "keptWhere" "[I", .fieldLink RX5 35 "CannonStacksModel" "rolled" "[I", .fieldLink RX5 50 "CannonStacksModel" "keptRolled" "[I"] ++ wsX50)
def wsX5_bringBack : List Cond := .code yX5_bringBack cX5_bringBack 1 none :: ([.fieldLink RX5 38 "CannonStacksModel" "keptMany" "[I", .fieldLink RX5 23 "CannonStacksModel" "many" "[I", .methodLink RX5 63 arraycopyName, .native arraycopyName, .static arraycopyName, .initialized "java/lang/System", .fieldLink RX5 41 "CannonStacksModel" "keptRust" "[I", .fieldLink RX5 26 "CannonStacksModel" "rust" "[I", .fieldLink RX5 44 "CannonStacksModel" "keptNumbers" "[I", .fieldLink RX5 29 "CannonStacksModel" "numbers" "[I", .fieldLink RX5 47 "CannonStacksModel" "keptWhere" "[I", .fieldLink RX5 32 "CannonStacksModel" "where" "[I", .fieldLink RX5 50 "CannonStacksModel" "keptRolled" "[I", .fieldLink RX5 35 "CannonStacksModel" "rolled" "[I"] ++ wsX50)
def wsX5_roomOf : List Cond := .code yX5_roomOf cX5_roomOf 1 (some .int) :: ([])
def wsX5_room : List Cond := .code yX5_room cX5_room 3 (some .int) :: ([.fieldLink RX5 17 "CannonStacksModel" "sides" "[I", .methodLink RX5 69 yX5_roomOf, .static yX5_roomOf, .initialized RX5, .code yX5_roomOf cX5_roomOf 1 (some .int)] ++ wsX50)
def wsX5_layers : List Cond := .code yX5_layers cX5_layers 4 (some .int) :: ([.methodLink RX5 73 yX5_room, .instanceMethod yX5_room, .selects RX5 yX5_room yX5_room, .initialized RX5, .code yX5_room cX5_room 3 (some .int), .fieldLink RX5 17 "CannonStacksModel" "sides" "[I", .methodLink RX5 69 yX5_roomOf, .static yX5_roomOf, .code yX5_roomOf cX5_roomOf 1 (some .int)] ++ wsX50)
def wsX5_full : List Cond := .code yX5_full cX5_full 3 (some .int) :: ([.fieldLink RX5 17 "CannonStacksModel" "sides" "[I", .fieldLink RX5 23 "CannonStacksModel" "many" "[I", .methodLink RX5 73 yX5_room, .instanceMethod yX5_room, .selects RX5 yX5_room yX5_room, .initialized RX5, .code yX5_room cX5_room 3 (some .int), .methodLink RX5 69 yX5_roomOf, .static yX5_roomOf, .code yX5_roomOf cX5_roomOf 1 (some .int)] ++ wsX50)
def wsX5_full_ : List Cond := .code yX5_full_ cX5_full_ 4 (some .int) :: ([.methodLink RX5 73 yX5_room, .instanceMethod yX5_room, .selects RX5 yX5_room yX5_room, .initialized RX5, .code yX5_room cX5_room 3 (some .int), .fieldLink RX5 17 "CannonStacksModel" "sides" "[I", .methodLink RX5 69 yX5_roomOf, .static yX5_roomOf, .code yX5_roomOf cX5_roomOf 1 (some .int)] ++ wsX50)
def wsX5_lies : List Cond := .code yX5_lies cX5_lies 7 (some .int) :: ([.fieldLink RX5 17 "CannonStacksModel" "sides" "[I", .methodLink RX5 77 yX5_full_, .instanceMethod yX5_full_, .selects RX5 yX5_full_ yX5_full_, .initialized RX5, .code yX5_full_ cX5_full_ 4 (some .int), .methodLink RX5 73 yX5_room, .instanceMethod yX5_room, .selects RX5 yX5_room yX5_room, .code yX5_room cX5_room 3 (some .int), .methodLink RX5 69 yX5_roomOf, .static yX5_roomOf, .code yX5_roomOf cX5_roomOf 1 (some .int)] ++ wsX50)
def wsX5_ballAt : List Cond := .code yX5_ballAt cX5_ballAt 7 (some .int) :: ([.fieldLink RX5 17 "CannonStacksModel" "sides" "[I", .fieldLink RX5 23 "CannonStacksModel" "many" "[I", .methodLink RX5 59 yX5_isIn, .static yX5_isIn, .initialized RX5, .code yX5_isIn cX5_isIn 3 (some .boolean), .methodLink RX5 73 yX5_room, .instanceMethod yX5_room, .selects RX5 yX5_room yX5_room, .code yX5_room cX5_room 3 (some .int), .methodLink RX5 69 yX5_roomOf, .static yX5_roomOf, .code yX5_roomOf cX5_roomOf 1 (some .int)] ++ wsX50)
def wsX5_on_r1 : List Cond := [Cond.methodLink RX5 80 yX5_lies, Cond.instanceMethod yX5_lies, Cond.selects RX5 yX5_lies yX5_lies, Cond.initialized RX5, Cond.code yX5_lies cX5_lies 7 (some .int), Cond.fieldLink RX5 17 "CannonStacksModel" "sides" "[I", Cond.methodLink RX5 77 yX5_full_, Cond.instanceMethod yX5_full_, Cond.selects RX5 yX5_full_ yX5_full_, Cond.code yX5_full_ cX5_full_ 4 (some .int), Cond.methodLink RX5 73 yX5_room, Cond.instanceMethod yX5_room, Cond.selects RX5 yX5_room yX5_room, Cond.code yX5_room cX5_room 3 (some .int), Cond.methodLink RX5 69 yX5_roomOf, Cond.static yX5_roomOf, Cond.code yX5_roomOf cX5_roomOf 1 (some .int), Cond.methodLink RX5 84 yX5_ballAt, Cond.instanceMethod yX5_ballAt, Cond.selects RX5 yX5_ballAt yX5_ballAt, Cond.code yX5_ballAt cX5_ballAt 7 (some .int), Cond.fieldLink RX5 23 "CannonStacksModel" "many" "[I", Cond.methodLink RX5 59 yX5_isIn, Cond.static yX5_isIn]
def wsX5_on_r2 : List Cond := [Cond.code yX5_isIn cX5_isIn 3 (some .boolean)]
def wsX5_on : List Cond := .code yX5_on cX5_on 8 (some .int) :: ((wsX5_on_r1 ++ wsX5_on_r2) ++ wsX50)
def wsX5_rustOf : List Cond := .code yX5_rustOf cX5_rustOf 3 (some .int) :: ([.fieldLink RX5 26 "CannonStacksModel" "rust" "[I"] ++ wsX50)
def wsX5_pile : List Cond := .code yX5_pile cX5_pile 3 (some .int) :: ([.fieldLink RX5 53 "CannonStacksModel" "thrown" "I", .fieldLink RX5 56 "CannonStacksModel" "piles" "I", .fieldLink RX5 13 "CannonStacksModel" "calibres" "[I", .fieldLink RX5 17 "CannonStacksModel" "sides" "[I", .methodLink RX5 88 yX5_isCalibre, .static yX5_isCalibre, .initialized RX5, .code yX5_isCalibre cX5_isCalibre 1 (some .boolean), .methodLink RX5 59 yX5_isIn, .static yX5_isIn, .code yX5_isIn cX5_isIn 3 (some .boolean), .methodLink RX5 92 yX5_fail, .instanceMethod yX5_fail, .selects RX5 yX5_fail yX5_fail, .code yX5_fail cX5_fail 2 (some .int)] ++ wsX50)
def wsX5_cat : List Cond := .code yX5_cat cX5_cat 2 (some .int) :: ([.fieldLink RX5 53 "CannonStacksModel" "thrown" "I", .fieldLink RX5 95 "CannonStacksModel" "cats" "I", .fieldLink RX5 20 "CannonStacksModel" "leaps" "[I", .fieldLink RX5 32 "CannonStacksModel" "where" "[I", .methodLink RX5 59 yX5_isIn, .static yX5_isIn, .initialized RX5, .code yX5_isIn cX5_isIn 3 (some .boolean), .methodLink RX5 92 yX5_fail, .instanceMethod yX5_fail, .selects RX5 yX5_fail yX5_fail, .code yX5_fail cX5_fail 2 (some .int)] ++ wsX50)
def wsX5_give : List Cond := .code yX5_give cX5_give 3 (some .int) :: ([.fieldLink RX5 53 "CannonStacksModel" "thrown" "I", .fieldLink RX5 29 "CannonStacksModel" "numbers" "[I", .methodLink RX5 88 yX5_isCalibre, .static yX5_isCalibre, .initialized RX5, .code yX5_isCalibre cX5_isCalibre 1 (some .boolean), .methodLink RX5 59 yX5_isIn, .static yX5_isIn, .code yX5_isIn cX5_isIn 3 (some .boolean), .methodLink RX5 92 yX5_fail, .instanceMethod yX5_fail, .selects RX5 yX5_fail yX5_fail, .code yX5_fail cX5_fail 2 (some .int), .methodLink RX5 98 yX5_more, .instanceMethod yX5_more, .selects RX5 yX5_more yX5_more, .code yX5_more cX5_more 4 none] ++ wsX50)
def wsX5_setRain : List Cond := .code yX5_setRain cX5_setRain 3 (some .int) :: ([.fieldLink RX5 53 "CannonStacksModel" "thrown" "I", .fieldLink RX5 102 "CannonStacksModel" "rain" "I", .methodLink RX5 59 yX5_isIn, .static yX5_isIn, .initialized RX5, .code yX5_isIn cX5_isIn 3 (some .boolean), .methodLink RX5 92 yX5_fail, .instanceMethod yX5_fail, .selects RX5 yX5_fail yX5_fail, .code yX5_fail cX5_fail 2 (some .int)] ++ wsX50)
def wsX5_setLimit : List Cond := .code yX5_setLimit cX5_setLimit 3 (some .int) :: ([.fieldLink RX5 53 "CannonStacksModel" "thrown" "I", .fieldLink RX5 7 "CannonStacksModel" "limit" "I", .methodLink RX5 59 yX5_isIn, .static yX5_isIn, .initialized RX5, .code yX5_isIn cX5_isIn 3 (some .boolean), .methodLink RX5 92 yX5_fail, .instanceMethod yX5_fail, .selects RX5 yX5_fail yX5_fail, .code yX5_fail cX5_fail 2 (some .int)] ++ wsX50)
def wsX5_left : List Cond := .code yX5_left cX5_left 2 (some .int) :: ([.fieldLink RX5 17 "CannonStacksModel" "sides" "[I", .fieldLink RX5 23 "CannonStacksModel" "many" "[I", .methodLink RX5 69 yX5_roomOf, .static yX5_roomOf, .initialized RX5, .code yX5_roomOf cX5_roomOf 1 (some .int)] ++ wsX50)
def wsX5_put : List Cond := .code yX5_put cX5_put 3 none :: ([.fieldLink RX5 26 "CannonStacksModel" "rust" "[I", .fieldLink RX5 23 "CannonStacksModel" "many" "[I"] ++ wsX50)
def wsX5_stack_r1 : List Cond := [Cond.fieldLink RX5 53 "CannonStacksModel" "thrown" "I", Cond.fieldLink RX5 13 "CannonStacksModel" "calibres" "[I", Cond.fieldLink RX5 23 "CannonStacksModel" "many" "[I", Cond.methodLink RX5 105 yX5_isPile, Cond.instanceMethod yX5_isPile, Cond.selects RX5 yX5_isPile yX5_isPile, Cond.initialized RX5, Cond.code yX5_isPile cX5_isPile 2 (some .boolean), Cond.fieldLink RX5 56 "CannonStacksModel" "piles" "I", Cond.methodLink RX5 59 yX5_isIn, Cond.static yX5_isIn, Cond.code yX5_isIn cX5_isIn 3 (some .boolean), Cond.methodLink RX5 92 yX5_fail, Cond.instanceMethod yX5_fail, Cond.selects RX5 yX5_fail yX5_fail, Cond.code yX5_fail cX5_fail 2 (some .int), Cond.methodLink RX5 108 yX5_of, Cond.instanceMethod yX5_of, Cond.selects RX5 yX5_of yX5_of, Cond.code yX5_of cX5_of 3 (some .int), Cond.fieldLink RX5 29 "CannonStacksModel" "numbers" "[I", Cond.methodLink RX5 111 yX5_left, Cond.instanceMethod yX5_left, Cond.selects RX5 yX5_left yX5_left]
def wsX5_stack_r2 : List Cond := [Cond.code yX5_left cX5_left 2 (some .int), Cond.fieldLink RX5 17 "CannonStacksModel" "sides" "[I", Cond.methodLink RX5 69 yX5_roomOf, Cond.static yX5_roomOf, Cond.code yX5_roomOf cX5_roomOf 1 (some .int), Cond.methodLink RX5 98 yX5_more, Cond.instanceMethod yX5_more, Cond.selects RX5 yX5_more yX5_more, Cond.code yX5_more cX5_more 4 none, Cond.methodLink RX5 114 yX5_put, Cond.instanceMethod yX5_put, Cond.selects RX5 yX5_put yX5_put, Cond.code yX5_put cX5_put 3 none, Cond.fieldLink RX5 26 "CannonStacksModel" "rust" "[I"]
def wsX5_stack : List Cond := .code yX5_stack cX5_stack 4 (some .int) :: ((wsX5_stack_r1 ++ wsX5_stack_r2) ++ wsX50)
def wsX5_fire_r1 : List Cond := [Cond.fieldLink RX5 53 "CannonStacksModel" "thrown" "I", Cond.fieldLink RX5 23 "CannonStacksModel" "many" "[I", Cond.fieldLink RX5 13 "CannonStacksModel" "calibres" "[I", Cond.methodLink RX5 105 yX5_isPile, Cond.instanceMethod yX5_isPile, Cond.selects RX5 yX5_isPile yX5_isPile, Cond.initialized RX5, Cond.code yX5_isPile cX5_isPile 2 (some .boolean), Cond.fieldLink RX5 56 "CannonStacksModel" "piles" "I", Cond.methodLink RX5 59 yX5_isIn, Cond.static yX5_isIn, Cond.code yX5_isIn cX5_isIn 3 (some .boolean), Cond.methodLink RX5 92 yX5_fail, Cond.instanceMethod yX5_fail, Cond.selects RX5 yX5_fail yX5_fail, Cond.code yX5_fail cX5_fail 2 (some .int), Cond.methodLink RX5 118 yX5_rustOf, Cond.instanceMethod yX5_rustOf, Cond.selects RX5 yX5_rustOf yX5_rustOf, Cond.code yX5_rustOf cX5_rustOf 3 (some .int), Cond.fieldLink RX5 26 "CannonStacksModel" "rust" "[I", Cond.methodLink RX5 98 yX5_more, Cond.instanceMethod yX5_more, Cond.selects RX5 yX5_more yX5_more]
def wsX5_fire_r2 : List Cond := [Cond.code yX5_more cX5_more 4 none, Cond.fieldLink RX5 29 "CannonStacksModel" "numbers" "[I"]
def wsX5_fire : List Cond := .code yX5_fire cX5_fire 5 (some .int) :: ((wsX5_fire_r1 ++ wsX5_fire_r2) ++ wsX50)
def wsX5_scour_r1 : List Cond := [Cond.fieldLink RX5 53 "CannonStacksModel" "thrown" "I", Cond.fieldLink RX5 23 "CannonStacksModel" "many" "[I", Cond.methodLink RX5 124 Lib.Math.min.name, Cond.static Lib.Math.min.name, Cond.initialized "java/lang/Math", Cond.code Lib.Math.min.name Lib.Math.min.code 2 (some .int), Cond.fieldLink RX5 26 "CannonStacksModel" "rust" "[I", Cond.methodLink RX5 105 yX5_isPile, Cond.instanceMethod yX5_isPile, Cond.selects RX5 yX5_isPile yX5_isPile, Cond.initialized RX5, Cond.code yX5_isPile cX5_isPile 2 (some .boolean), Cond.fieldLink RX5 56 "CannonStacksModel" "piles" "I", Cond.methodLink RX5 59 yX5_isIn, Cond.static yX5_isIn, Cond.code yX5_isIn cX5_isIn 3 (some .boolean), Cond.methodLink RX5 92 yX5_fail, Cond.instanceMethod yX5_fail, Cond.selects RX5 yX5_fail yX5_fail, Cond.code yX5_fail cX5_fail 2 (some .int), Cond.methodLink RX5 121 yX5_on, Cond.instanceMethod yX5_on, Cond.selects RX5 yX5_on yX5_on, Cond.code yX5_on cX5_on 8 (some .int)]
def wsX5_scour_r2 : List Cond := [Cond.methodLink RX5 80 yX5_lies, Cond.instanceMethod yX5_lies, Cond.selects RX5 yX5_lies yX5_lies, Cond.code yX5_lies cX5_lies 7 (some .int), Cond.fieldLink RX5 17 "CannonStacksModel" "sides" "[I", Cond.methodLink RX5 77 yX5_full_, Cond.instanceMethod yX5_full_, Cond.selects RX5 yX5_full_ yX5_full_, Cond.code yX5_full_ cX5_full_ 4 (some .int), Cond.methodLink RX5 73 yX5_room, Cond.instanceMethod yX5_room, Cond.selects RX5 yX5_room yX5_room, Cond.code yX5_room cX5_room 3 (some .int), Cond.methodLink RX5 69 yX5_roomOf, Cond.static yX5_roomOf, Cond.code yX5_roomOf cX5_roomOf 1 (some .int), Cond.methodLink RX5 84 yX5_ballAt, Cond.instanceMethod yX5_ballAt, Cond.selects RX5 yX5_ballAt yX5_ballAt, Cond.code yX5_ballAt cX5_ballAt 7 (some .int), Cond.methodLink RX5 118 yX5_rustOf, Cond.instanceMethod yX5_rustOf, Cond.selects RX5 yX5_rustOf yX5_rustOf, Cond.code yX5_rustOf cX5_rustOf 3 (some .int)]
def wsX5_scour : List Cond := .code yX5_scour cX5_scour 5 (some .int) :: ((wsX5_scour_r1 ++ wsX5_scour_r2) ++ wsX50)
def wsX5_rusty : List Cond := .code yX5_rusty cX5_rusty 4 (some .int) :: ([.fieldLink RX5 23 "CannonStacksModel" "many" "[I", .fieldLink RX5 7 "CannonStacksModel" "limit" "I", .methodLink RX5 118 yX5_rustOf, .instanceMethod yX5_rustOf, .selects RX5 yX5_rustOf yX5_rustOf, .initialized RX5, .code yX5_rustOf cX5_rustOf 3 (some .int), .fieldLink RX5 26 "CannonStacksModel" "rust" "[I"] ++ wsX50)
def wsX5_inspect_r1 : List Cond := [Cond.fieldLink RX5 53 "CannonStacksModel" "thrown" "I", Cond.fieldLink RX5 23 "CannonStacksModel" "many" "[I", Cond.fieldLink RX5 7 "CannonStacksModel" "limit" "I", Cond.fieldLink RX5 13 "CannonStacksModel" "calibres" "[I", Cond.methodLink RX5 105 yX5_isPile, Cond.instanceMethod yX5_isPile, Cond.selects RX5 yX5_isPile yX5_isPile, Cond.initialized RX5, Cond.code yX5_isPile cX5_isPile 2 (some .boolean), Cond.fieldLink RX5 56 "CannonStacksModel" "piles" "I", Cond.methodLink RX5 59 yX5_isIn, Cond.static yX5_isIn, Cond.code yX5_isIn cX5_isIn 3 (some .boolean), Cond.methodLink RX5 92 yX5_fail, Cond.instanceMethod yX5_fail, Cond.selects RX5 yX5_fail yX5_fail, Cond.code yX5_fail cX5_fail 2 (some .int), Cond.methodLink RX5 118 yX5_rustOf, Cond.instanceMethod yX5_rustOf, Cond.selects RX5 yX5_rustOf yX5_rustOf, Cond.code yX5_rustOf cX5_rustOf 3 (some .int), Cond.fieldLink RX5 26 "CannonStacksModel" "rust" "[I", Cond.methodLink RX5 114 yX5_put, Cond.instanceMethod yX5_put]
def wsX5_inspect_r2 : List Cond := [Cond.selects RX5 yX5_put yX5_put, Cond.code yX5_put cX5_put 3 none, Cond.methodLink RX5 98 yX5_more, Cond.instanceMethod yX5_more, Cond.selects RX5 yX5_more yX5_more, Cond.code yX5_more cX5_more 4 none, Cond.fieldLink RX5 29 "CannonStacksModel" "numbers" "[I"]
def wsX5_inspect : List Cond := .code yX5_inspect cX5_inspect 4 (some .int) :: ((wsX5_inspect_r1 ++ wsX5_inspect_r2) ++ wsX50)
def wsX5_shift_r1 : List Cond := [Cond.fieldLink RX5 53 "CannonStacksModel" "thrown" "I", Cond.fieldLink RX5 13 "CannonStacksModel" "calibres" "[I", Cond.fieldLink RX5 23 "CannonStacksModel" "many" "[I", Cond.methodLink RX5 105 yX5_isPile, Cond.instanceMethod yX5_isPile, Cond.selects RX5 yX5_isPile yX5_isPile, Cond.initialized RX5, Cond.code yX5_isPile cX5_isPile 2 (some .boolean), Cond.fieldLink RX5 56 "CannonStacksModel" "piles" "I", Cond.methodLink RX5 59 yX5_isIn, Cond.static yX5_isIn, Cond.code yX5_isIn cX5_isIn 3 (some .boolean), Cond.methodLink RX5 92 yX5_fail, Cond.instanceMethod yX5_fail, Cond.selects RX5 yX5_fail yX5_fail, Cond.code yX5_fail cX5_fail 2 (some .int), Cond.methodLink RX5 111 yX5_left, Cond.instanceMethod yX5_left, Cond.selects RX5 yX5_left yX5_left, Cond.code yX5_left cX5_left 2 (some .int), Cond.fieldLink RX5 17 "CannonStacksModel" "sides" "[I", Cond.methodLink RX5 69 yX5_roomOf, Cond.static yX5_roomOf, Cond.code yX5_roomOf cX5_roomOf 1 (some .int)]
def wsX5_shift_r2 : List Cond := [Cond.methodLink RX5 118 yX5_rustOf, Cond.instanceMethod yX5_rustOf, Cond.selects RX5 yX5_rustOf yX5_rustOf, Cond.code yX5_rustOf cX5_rustOf 3 (some .int), Cond.fieldLink RX5 26 "CannonStacksModel" "rust" "[I", Cond.methodLink RX5 114 yX5_put, Cond.instanceMethod yX5_put, Cond.selects RX5 yX5_put yX5_put, Cond.code yX5_put cX5_put 3 none]
def wsX5_shift : List Cond := .code yX5_shift cX5_shift 4 (some .int) :: ((wsX5_shift_r1 ++ wsX5_shift_r2) ++ wsX50)
def wsX5_gather : List Cond := .code yX5_gather cX5_gather 4 (some .int) :: ([.fieldLink RX5 53 "CannonStacksModel" "thrown" "I", .fieldLink RX5 29 "CannonStacksModel" "numbers" "[I", .methodLink RX5 98 yX5_more, .instanceMethod yX5_more, .selects RX5 yX5_more yX5_more, .initialized RX5, .code yX5_more cX5_more 4 none] ++ wsX50)
def wsX5_chase : List Cond := .code yX5_chase cX5_chase 3 (some .int) :: ([.fieldLink RX5 53 "CannonStacksModel" "thrown" "I", .fieldLink RX5 95 "CannonStacksModel" "cats" "I", .fieldLink RX5 32 "CannonStacksModel" "where" "[I", .methodLink RX5 59 yX5_isIn, .static yX5_isIn, .initialized RX5, .code yX5_isIn cX5_isIn 3 (some .boolean), .methodLink RX5 92 yX5_fail, .instanceMethod yX5_fail, .selects RX5 yX5_fail yX5_fail, .code yX5_fail cX5_fail 2 (some .int)] ++ wsX50)
def wsX5_pileTold_r1 : List Cond := [Cond.fieldLink RX5 13 "CannonStacksModel" "calibres" "[I", Cond.fieldLink RX5 17 "CannonStacksModel" "sides" "[I", Cond.fieldLink RX5 23 "CannonStacksModel" "many" "[I", Cond.methodLink RX5 137 Lib.Math.max.name, Cond.static Lib.Math.max.name, Cond.initialized "java/lang/Math", Cond.code Lib.Math.max.name Lib.Math.max.code 2 (some .int), Cond.methodLink RX5 69 yX5_roomOf, Cond.static yX5_roomOf, Cond.initialized RX5, Cond.code yX5_roomOf cX5_roomOf 1 (some .int), Cond.methodLink RX5 129 yX5_layers, Cond.instanceMethod yX5_layers, Cond.selects RX5 yX5_layers yX5_layers, Cond.code yX5_layers cX5_layers 4 (some .int), Cond.methodLink RX5 73 yX5_room, Cond.instanceMethod yX5_room, Cond.selects RX5 yX5_room yX5_room, Cond.code yX5_room cX5_room 3 (some .int), Cond.methodLink RX5 132 yX5_full, Cond.instanceMethod yX5_full, Cond.selects RX5 yX5_full yX5_full, Cond.code yX5_full cX5_full 3 (some .int), Cond.methodLink RX5 121 yX5_on]
def wsX5_pileTold_r2 : List Cond := [Cond.instanceMethod yX5_on, Cond.selects RX5 yX5_on yX5_on, Cond.code yX5_on cX5_on 8 (some .int), Cond.methodLink RX5 80 yX5_lies, Cond.instanceMethod yX5_lies, Cond.selects RX5 yX5_lies yX5_lies, Cond.code yX5_lies cX5_lies 7 (some .int), Cond.methodLink RX5 77 yX5_full_, Cond.instanceMethod yX5_full_, Cond.selects RX5 yX5_full_ yX5_full_, Cond.code yX5_full_ cX5_full_ 4 (some .int), Cond.methodLink RX5 84 yX5_ballAt, Cond.instanceMethod yX5_ballAt, Cond.selects RX5 yX5_ballAt yX5_ballAt, Cond.code yX5_ballAt cX5_ballAt 7 (some .int), Cond.methodLink RX5 59 yX5_isIn, Cond.static yX5_isIn, Cond.code yX5_isIn cX5_isIn 3 (some .boolean), Cond.methodLink RX5 134 yX5_rusty, Cond.instanceMethod yX5_rusty, Cond.selects RX5 yX5_rusty yX5_rusty, Cond.code yX5_rusty cX5_rusty 4 (some .int), Cond.fieldLink RX5 7 "CannonStacksModel" "limit" "I", Cond.methodLink RX5 118 yX5_rustOf]
def wsX5_pileTold_r3 : List Cond := [Cond.instanceMethod yX5_rustOf, Cond.selects RX5 yX5_rustOf yX5_rustOf, Cond.code yX5_rustOf cX5_rustOf 3 (some .int), Cond.fieldLink RX5 26 "CannonStacksModel" "rust" "[I"]
def wsX5_pileTold : List Cond := .code yX5_pileTold cX5_pileTold 5 (some .int) :: ((wsX5_pileTold_r1 ++ (wsX5_pileTold_r2 ++ wsX5_pileTold_r3)) ++ wsX50)
def wsX5_about_r1 : List Cond := [Cond.fieldLink RX5 53 "CannonStacksModel" "thrown" "I", Cond.methodLink RX5 105 yX5_isPile, Cond.instanceMethod yX5_isPile, Cond.selects RX5 yX5_isPile yX5_isPile, Cond.initialized RX5, Cond.code yX5_isPile cX5_isPile 2 (some .boolean), Cond.fieldLink RX5 56 "CannonStacksModel" "piles" "I", Cond.methodLink RX5 59 yX5_isIn, Cond.static yX5_isIn, Cond.code yX5_isIn cX5_isIn 3 (some .boolean), Cond.methodLink RX5 140 yX5_pileTold, Cond.instanceMethod yX5_pileTold, Cond.selects RX5 yX5_pileTold yX5_pileTold, Cond.code yX5_pileTold cX5_pileTold 5 (some .int), Cond.fieldLink RX5 13 "CannonStacksModel" "calibres" "[I", Cond.fieldLink RX5 17 "CannonStacksModel" "sides" "[I", Cond.fieldLink RX5 23 "CannonStacksModel" "many" "[I", Cond.methodLink RX5 137 Lib.Math.max.name, Cond.static Lib.Math.max.name, Cond.initialized "java/lang/Math", Cond.code Lib.Math.max.name Lib.Math.max.code 2 (some .int), Cond.methodLink RX5 69 yX5_roomOf, Cond.static yX5_roomOf, Cond.code yX5_roomOf cX5_roomOf 1 (some .int)]
def wsX5_about_r2 : List Cond := [Cond.methodLink RX5 129 yX5_layers, Cond.instanceMethod yX5_layers, Cond.selects RX5 yX5_layers yX5_layers, Cond.code yX5_layers cX5_layers 4 (some .int), Cond.methodLink RX5 73 yX5_room, Cond.instanceMethod yX5_room, Cond.selects RX5 yX5_room yX5_room, Cond.code yX5_room cX5_room 3 (some .int), Cond.methodLink RX5 132 yX5_full, Cond.instanceMethod yX5_full, Cond.selects RX5 yX5_full yX5_full, Cond.code yX5_full cX5_full 3 (some .int), Cond.methodLink RX5 121 yX5_on, Cond.instanceMethod yX5_on, Cond.selects RX5 yX5_on yX5_on, Cond.code yX5_on cX5_on 8 (some .int), Cond.methodLink RX5 80 yX5_lies, Cond.instanceMethod yX5_lies, Cond.selects RX5 yX5_lies yX5_lies, Cond.code yX5_lies cX5_lies 7 (some .int), Cond.methodLink RX5 77 yX5_full_, Cond.instanceMethod yX5_full_, Cond.selects RX5 yX5_full_ yX5_full_, Cond.code yX5_full_ cX5_full_ 4 (some .int)]
def wsX5_about_r3 : List Cond := [Cond.methodLink RX5 84 yX5_ballAt, Cond.instanceMethod yX5_ballAt, Cond.selects RX5 yX5_ballAt yX5_ballAt, Cond.code yX5_ballAt cX5_ballAt 7 (some .int), Cond.methodLink RX5 134 yX5_rusty, Cond.instanceMethod yX5_rusty, Cond.selects RX5 yX5_rusty yX5_rusty, Cond.code yX5_rusty cX5_rusty 4 (some .int), Cond.fieldLink RX5 7 "CannonStacksModel" "limit" "I", Cond.methodLink RX5 118 yX5_rustOf, Cond.instanceMethod yX5_rustOf, Cond.selects RX5 yX5_rustOf yX5_rustOf, Cond.code yX5_rustOf cX5_rustOf 3 (some .int), Cond.fieldLink RX5 26 "CannonStacksModel" "rust" "[I", Cond.methodLink RX5 92 yX5_fail, Cond.instanceMethod yX5_fail, Cond.selects RX5 yX5_fail yX5_fail, Cond.code yX5_fail cX5_fail 2 (some .int)]
def wsX5_about : List Cond := .code yX5_about cX5_about 3 (some .int) :: ((wsX5_about_r1 ++ (wsX5_about_r2 ++ wsX5_about_r3)) ++ wsX50)
def wsX5_ball_r1 : List Cond := [Cond.fieldLink RX5 53 "CannonStacksModel" "thrown" "I", Cond.fieldLink RX5 23 "CannonStacksModel" "many" "[I", Cond.methodLink RX5 124 Lib.Math.min.name, Cond.static Lib.Math.min.name, Cond.initialized "java/lang/Math", Cond.code Lib.Math.min.name Lib.Math.min.code 2 (some .int), Cond.methodLink RX5 105 yX5_isPile, Cond.instanceMethod yX5_isPile, Cond.selects RX5 yX5_isPile yX5_isPile, Cond.initialized RX5, Cond.code yX5_isPile cX5_isPile 2 (some .boolean), Cond.fieldLink RX5 56 "CannonStacksModel" "piles" "I", Cond.methodLink RX5 59 yX5_isIn, Cond.static yX5_isIn, Cond.code yX5_isIn cX5_isIn 3 (some .boolean), Cond.methodLink RX5 92 yX5_fail, Cond.instanceMethod yX5_fail, Cond.selects RX5 yX5_fail yX5_fail, Cond.code yX5_fail cX5_fail 2 (some .int), Cond.methodLink RX5 118 yX5_rustOf, Cond.instanceMethod yX5_rustOf, Cond.selects RX5 yX5_rustOf yX5_rustOf, Cond.code yX5_rustOf cX5_rustOf 3 (some .int), Cond.fieldLink RX5 26 "CannonStacksModel" "rust" "[I"]
def wsX5_ball_r2 : List Cond := [Cond.methodLink RX5 80 yX5_lies, Cond.instanceMethod yX5_lies, Cond.selects RX5 yX5_lies yX5_lies, Cond.code yX5_lies cX5_lies 7 (some .int), Cond.fieldLink RX5 17 "CannonStacksModel" "sides" "[I", Cond.methodLink RX5 77 yX5_full_, Cond.instanceMethod yX5_full_, Cond.selects RX5 yX5_full_ yX5_full_, Cond.code yX5_full_ cX5_full_ 4 (some .int), Cond.methodLink RX5 73 yX5_room, Cond.instanceMethod yX5_room, Cond.selects RX5 yX5_room yX5_room, Cond.code yX5_room cX5_room 3 (some .int), Cond.methodLink RX5 69 yX5_roomOf, Cond.static yX5_roomOf, Cond.code yX5_roomOf cX5_roomOf 1 (some .int), Cond.methodLink RX5 121 yX5_on, Cond.instanceMethod yX5_on, Cond.selects RX5 yX5_on yX5_on, Cond.code yX5_on cX5_on 8 (some .int), Cond.methodLink RX5 84 yX5_ballAt, Cond.instanceMethod yX5_ballAt, Cond.selects RX5 yX5_ballAt yX5_ballAt, Cond.code yX5_ballAt cX5_ballAt 7 (some .int)]
def wsX5_ball : List Cond := .code yX5_ball cX5_ball 4 (some .int) :: ((wsX5_ball_r1 ++ wsX5_ball_r2) ++ wsX50)
def wsX5_at_r1 : List Cond := [Cond.fieldLink RX5 53 "CannonStacksModel" "thrown" "I", Cond.fieldLink RX5 17 "CannonStacksModel" "sides" "[I", Cond.methodLink RX5 105 yX5_isPile, Cond.instanceMethod yX5_isPile, Cond.selects RX5 yX5_isPile yX5_isPile, Cond.initialized RX5, Cond.code yX5_isPile cX5_isPile 2 (some .boolean), Cond.fieldLink RX5 56 "CannonStacksModel" "piles" "I", Cond.methodLink RX5 59 yX5_isIn, Cond.static yX5_isIn, Cond.code yX5_isIn cX5_isIn 3 (some .boolean), Cond.methodLink RX5 92 yX5_fail, Cond.instanceMethod yX5_fail, Cond.selects RX5 yX5_fail yX5_fail, Cond.code yX5_fail cX5_fail 2 (some .int), Cond.methodLink RX5 84 yX5_ballAt, Cond.instanceMethod yX5_ballAt, Cond.selects RX5 yX5_ballAt yX5_ballAt, Cond.code yX5_ballAt cX5_ballAt 7 (some .int), Cond.fieldLink RX5 23 "CannonStacksModel" "many" "[I", Cond.methodLink RX5 73 yX5_room, Cond.instanceMethod yX5_room, Cond.selects RX5 yX5_room yX5_room, Cond.code yX5_room cX5_room 3 (some .int)]
def wsX5_at_r2 : List Cond := [Cond.methodLink RX5 69 yX5_roomOf, Cond.static yX5_roomOf, Cond.code yX5_roomOf cX5_roomOf 1 (some .int)]
def wsX5_at : List Cond := .code yX5_at cX5_at 6 (some .int) :: ((wsX5_at_r1 ++ wsX5_at_r2) ++ wsX50)
def wsX5_inPiles : List Cond := .code yX5_inPiles cX5_inPiles 4 (some .int) :: ([.fieldLink RX5 56 "CannonStacksModel" "piles" "I", .fieldLink RX5 13 "CannonStacksModel" "calibres" "[I", .fieldLink RX5 23 "CannonStacksModel" "many" "[I"] ++ wsX50)
def wsX5_calibreTold : List Cond := .code yX5_calibreTold cX5_calibreTold 3 (some .int) :: ([.fieldLink RX5 29 "CannonStacksModel" "numbers" "[I", .methodLink RX5 143 yX5_inPiles, .instanceMethod yX5_inPiles, .selects RX5 yX5_inPiles yX5_inPiles, .initialized RX5, .code yX5_inPiles cX5_inPiles 4 (some .int), .fieldLink RX5 56 "CannonStacksModel" "piles" "I", .fieldLink RX5 13 "CannonStacksModel" "calibres" "[I", .fieldLink RX5 23 "CannonStacksModel" "many" "[I"] ++ wsX50)
def wsX5_told : List Cond := .code yX5_told cX5_told 3 (some .int) :: ([.fieldLink RX5 53 "CannonStacksModel" "thrown" "I", .methodLink RX5 88 yX5_isCalibre, .static yX5_isCalibre, .initialized RX5, .code yX5_isCalibre cX5_isCalibre 1 (some .boolean), .methodLink RX5 59 yX5_isIn, .static yX5_isIn, .code yX5_isIn cX5_isIn 3 (some .boolean), .methodLink RX5 146 yX5_calibreTold, .instanceMethod yX5_calibreTold, .selects RX5 yX5_calibreTold yX5_calibreTold, .code yX5_calibreTold cX5_calibreTold 3 (some .int), .fieldLink RX5 29 "CannonStacksModel" "numbers" "[I", .methodLink RX5 143 yX5_inPiles, .instanceMethod yX5_inPiles, .selects RX5 yX5_inPiles yX5_inPiles, .code yX5_inPiles cX5_inPiles 4 (some .int), .fieldLink RX5 56 "CannonStacksModel" "piles" "I", .fieldLink RX5 13 "CannonStacksModel" "calibres" "[I", .fieldLink RX5 23 "CannonStacksModel" "many" "[I", .methodLink RX5 92 yX5_fail, .instanceMethod yX5_fail, .selects RX5 yX5_fail yX5_fail, .code yX5_fail cX5_fail 2 (some .int)] ++ wsX50)
def wsX5_catTold : List Cond := .code yX5_catTold cX5_catTold 3 (some .int) :: ([.fieldLink RX5 20 "CannonStacksModel" "leaps" "[I", .fieldLink RX5 32 "CannonStacksModel" "where" "[I", .fieldLink RX5 35 "CannonStacksModel" "rolled" "[I"] ++ wsX50)
def wsX5_mouser : List Cond := .code yX5_mouser cX5_mouser 3 (some .int) :: ([.fieldLink RX5 53 "CannonStacksModel" "thrown" "I", .fieldLink RX5 95 "CannonStacksModel" "cats" "I", .methodLink RX5 59 yX5_isIn, .static yX5_isIn, .initialized RX5, .code yX5_isIn cX5_isIn 3 (some .boolean), .methodLink RX5 149 yX5_catTold, .instanceMethod yX5_catTold, .selects RX5 yX5_catTold yX5_catTold, .code yX5_catTold cX5_catTold 3 (some .int), .fieldLink RX5 20 "CannonStacksModel" "leaps" "[I", .fieldLink RX5 32 "CannonStacksModel" "where" "[I", .fieldLink RX5 35 "CannonStacksModel" "rolled" "[I", .methodLink RX5 92 yX5_fail, .instanceMethod yX5_fail, .selects RX5 yX5_fail yX5_fail, .code yX5_fail cX5_fail 2 (some .int)] ++ wsX50)
def wsX5_all : List Cond := .code yX5_all cX5_all 4 (some .int) :: ([.methodLink RX5 146 yX5_calibreTold, .instanceMethod yX5_calibreTold, .selects RX5 yX5_calibreTold yX5_calibreTold, .initialized RX5, .code yX5_calibreTold cX5_calibreTold 3 (some .int), .fieldLink RX5 29 "CannonStacksModel" "numbers" "[I", .methodLink RX5 143 yX5_inPiles, .instanceMethod yX5_inPiles, .selects RX5 yX5_inPiles yX5_inPiles, .code yX5_inPiles cX5_inPiles 4 (some .int), .fieldLink RX5 56 "CannonStacksModel" "piles" "I", .fieldLink RX5 13 "CannonStacksModel" "calibres" "[I", .fieldLink RX5 23 "CannonStacksModel" "many" "[I"] ++ wsX50)
def wsX5_counted_r1 : List Cond := [Cond.fieldLink RX5 152 "CannonStacksModel" "day" "I", Cond.fieldLink RX5 56 "CannonStacksModel" "piles" "I", Cond.fieldLink RX5 95 "CannonStacksModel" "cats" "I", Cond.fieldLink RX5 102 "CannonStacksModel" "rain" "I", Cond.fieldLink RX5 7 "CannonStacksModel" "limit" "I", Cond.methodLink RX5 155 yX5_all, Cond.instanceMethod yX5_all, Cond.selects RX5 yX5_all yX5_all, Cond.initialized RX5, Cond.code yX5_all cX5_all 4 (some .int), Cond.methodLink RX5 146 yX5_calibreTold, Cond.instanceMethod yX5_calibreTold, Cond.selects RX5 yX5_calibreTold yX5_calibreTold, Cond.code yX5_calibreTold cX5_calibreTold 3 (some .int), Cond.fieldLink RX5 29 "CannonStacksModel" "numbers" "[I", Cond.methodLink RX5 143 yX5_inPiles, Cond.instanceMethod yX5_inPiles, Cond.selects RX5 yX5_inPiles yX5_inPiles, Cond.code yX5_inPiles cX5_inPiles 4 (some .int), Cond.fieldLink RX5 13 "CannonStacksModel" "calibres" "[I", Cond.fieldLink RX5 23 "CannonStacksModel" "many" "[I", Cond.methodLink RX5 134 yX5_rusty, Cond.instanceMethod yX5_rusty, Cond.selects RX5 yX5_rusty yX5_rusty]
def wsX5_counted_r2 : List Cond := [Cond.code yX5_rusty cX5_rusty 4 (some .int), Cond.methodLink RX5 118 yX5_rustOf, Cond.instanceMethod yX5_rustOf, Cond.selects RX5 yX5_rustOf yX5_rustOf, Cond.code yX5_rustOf cX5_rustOf 3 (some .int), Cond.fieldLink RX5 26 "CannonStacksModel" "rust" "[I"]
def wsX5_counted : List Cond := .code yX5_counted cX5_counted 4 (some .int) :: ((wsX5_counted_r1 ++ wsX5_counted_r2) ++ wsX50)
def wsX5_count_r1 : List Cond := [Cond.fieldLink RX5 53 "CannonStacksModel" "thrown" "I", Cond.methodLink RX5 59 yX5_isIn, Cond.static yX5_isIn, Cond.initialized RX5, Cond.code yX5_isIn cX5_isIn 3 (some .boolean), Cond.methodLink RX5 158 yX5_counted, Cond.instanceMethod yX5_counted, Cond.selects RX5 yX5_counted yX5_counted, Cond.code yX5_counted cX5_counted 4 (some .int), Cond.fieldLink RX5 152 "CannonStacksModel" "day" "I", Cond.fieldLink RX5 56 "CannonStacksModel" "piles" "I", Cond.fieldLink RX5 95 "CannonStacksModel" "cats" "I", Cond.fieldLink RX5 102 "CannonStacksModel" "rain" "I", Cond.fieldLink RX5 7 "CannonStacksModel" "limit" "I", Cond.methodLink RX5 155 yX5_all, Cond.instanceMethod yX5_all, Cond.selects RX5 yX5_all yX5_all, Cond.code yX5_all cX5_all 4 (some .int), Cond.methodLink RX5 146 yX5_calibreTold, Cond.instanceMethod yX5_calibreTold, Cond.selects RX5 yX5_calibreTold yX5_calibreTold, Cond.code yX5_calibreTold cX5_calibreTold 3 (some .int), Cond.fieldLink RX5 29 "CannonStacksModel" "numbers" "[I", Cond.methodLink RX5 143 yX5_inPiles]
def wsX5_count_r2 : List Cond := [Cond.instanceMethod yX5_inPiles, Cond.selects RX5 yX5_inPiles yX5_inPiles, Cond.code yX5_inPiles cX5_inPiles 4 (some .int), Cond.fieldLink RX5 13 "CannonStacksModel" "calibres" "[I", Cond.fieldLink RX5 23 "CannonStacksModel" "many" "[I", Cond.methodLink RX5 134 yX5_rusty, Cond.instanceMethod yX5_rusty, Cond.selects RX5 yX5_rusty yX5_rusty, Cond.code yX5_rusty cX5_rusty 4 (some .int), Cond.methodLink RX5 118 yX5_rustOf, Cond.instanceMethod yX5_rustOf, Cond.selects RX5 yX5_rustOf yX5_rustOf, Cond.code yX5_rustOf cX5_rustOf 3 (some .int), Cond.fieldLink RX5 26 "CannonStacksModel" "rust" "[I", Cond.methodLink RX5 92 yX5_fail, Cond.instanceMethod yX5_fail, Cond.selects RX5 yX5_fail yX5_fail, Cond.code yX5_fail cX5_fail 2 (some .int)]
def wsX5_count : List Cond := .code yX5_count cX5_count 2 (some .int) :: ((wsX5_count_r1 ++ wsX5_count_r2) ++ wsX50)
def wsX5_room_ : List Cond := .code yX5_room_ cX5_room_ 2 (some .int) :: ([.fieldLink RX5 53 "CannonStacksModel" "thrown" "I", .methodLink RX5 59 yX5_isIn, .static yX5_isIn, .initialized RX5, .code yX5_isIn cX5_isIn 3 (some .boolean), .methodLink RX5 69 yX5_roomOf, .static yX5_roomOf, .code yX5_roomOf cX5_roomOf 1 (some .int), .methodLink RX5 92 yX5_fail, .instanceMethod yX5_fail, .selects RX5 yX5_fail yX5_fail, .code yX5_fail cX5_fail 2 (some .int)] ++ wsX50)
def wsX5_side : List Cond := .code yX5_side cX5_side 3 (some .int) :: ([.fieldLink RX5 53 "CannonStacksModel" "thrown" "I", .methodLink RX5 69 yX5_roomOf, .static yX5_roomOf, .initialized RX5, .code yX5_roomOf cX5_roomOf 1 (some .int), .methodLink RX5 59 yX5_isIn, .static yX5_isIn, .code yX5_isIn cX5_isIn 3 (some .boolean), .methodLink RX5 92 yX5_fail, .instanceMethod yX5_fail, .selects RX5 yX5_fail yX5_fail, .code yX5_fail cX5_fail 2 (some .int)] ++ wsX50)
def wsX5_leap_r1 : List Cond := [Cond.fieldLink RX5 32 "CannonStacksModel" "where" "[I", Cond.fieldLink RX5 20 "CannonStacksModel" "leaps" "[I", Cond.fieldLink RX5 56 "CannonStacksModel" "piles" "I", Cond.fieldLink RX5 23 "CannonStacksModel" "many" "[I", Cond.fieldLink RX5 13 "CannonStacksModel" "calibres" "[I", Cond.fieldLink RX5 35 "CannonStacksModel" "rolled" "[I", Cond.methodLink RX5 129 yX5_layers, Cond.instanceMethod yX5_layers, Cond.selects RX5 yX5_layers yX5_layers, Cond.initialized RX5, Cond.code yX5_layers cX5_layers 4 (some .int), Cond.methodLink RX5 73 yX5_room, Cond.instanceMethod yX5_room, Cond.selects RX5 yX5_room yX5_room, Cond.code yX5_room cX5_room 3 (some .int), Cond.fieldLink RX5 17 "CannonStacksModel" "sides" "[I", Cond.methodLink RX5 69 yX5_roomOf, Cond.static yX5_roomOf, Cond.code yX5_roomOf cX5_roomOf 1 (some .int), Cond.methodLink RX5 132 yX5_full, Cond.instanceMethod yX5_full, Cond.selects RX5 yX5_full yX5_full, Cond.code yX5_full cX5_full 3 (some .int), Cond.methodLink RX5 98 yX5_more]
def wsX5_leap_r2 : List Cond := [Cond.instanceMethod yX5_more, Cond.selects RX5 yX5_more yX5_more, Cond.code yX5_more cX5_more 4 none, Cond.fieldLink RX5 29 "CannonStacksModel" "numbers" "[I"]
def wsX5_leap : List Cond := .code yX5_leap cX5_leap 3 none :: ((wsX5_leap_r1 ++ wsX5_leap_r2) ++ wsX50)
def wsX5_dayOn_r1 : List Cond := [Cond.fieldLink RX5 56 "CannonStacksModel" "piles" "I", Cond.fieldLink RX5 23 "CannonStacksModel" "many" "[I", Cond.fieldLink RX5 102 "CannonStacksModel" "rain" "I", Cond.fieldLink RX5 26 "CannonStacksModel" "rust" "[I", Cond.methodLink RX5 124 Lib.Math.min.name, Cond.static Lib.Math.min.name, Cond.initialized "java/lang/Math", Cond.code Lib.Math.min.name Lib.Math.min.code 2 (some .int), Cond.fieldLink RX5 95 "CannonStacksModel" "cats" "I", Cond.methodLink RX5 121 yX5_on, Cond.instanceMethod yX5_on, Cond.selects RX5 yX5_on yX5_on, Cond.initialized RX5, Cond.code yX5_on cX5_on 8 (some .int), Cond.methodLink RX5 80 yX5_lies, Cond.instanceMethod yX5_lies, Cond.selects RX5 yX5_lies yX5_lies, Cond.code yX5_lies cX5_lies 7 (some .int), Cond.fieldLink RX5 17 "CannonStacksModel" "sides" "[I", Cond.methodLink RX5 77 yX5_full_, Cond.instanceMethod yX5_full_, Cond.selects RX5 yX5_full_ yX5_full_, Cond.code yX5_full_ cX5_full_ 4 (some .int), Cond.methodLink RX5 73 yX5_room]
def wsX5_dayOn_r2 : List Cond := [Cond.instanceMethod yX5_room, Cond.selects RX5 yX5_room yX5_room, Cond.code yX5_room cX5_room 3 (some .int), Cond.methodLink RX5 69 yX5_roomOf, Cond.static yX5_roomOf, Cond.code yX5_roomOf cX5_roomOf 1 (some .int), Cond.methodLink RX5 84 yX5_ballAt, Cond.instanceMethod yX5_ballAt, Cond.selects RX5 yX5_ballAt yX5_ballAt, Cond.code yX5_ballAt cX5_ballAt 7 (some .int), Cond.methodLink RX5 59 yX5_isIn, Cond.static yX5_isIn, Cond.code yX5_isIn cX5_isIn 3 (some .boolean), Cond.methodLink RX5 118 yX5_rustOf, Cond.instanceMethod yX5_rustOf, Cond.selects RX5 yX5_rustOf yX5_rustOf, Cond.code yX5_rustOf cX5_rustOf 3 (some .int), Cond.methodLink RX5 161 yX5_leap, Cond.instanceMethod yX5_leap, Cond.selects RX5 yX5_leap yX5_leap, Cond.code yX5_leap cX5_leap 3 none, Cond.fieldLink RX5 32 "CannonStacksModel" "where" "[I", Cond.fieldLink RX5 20 "CannonStacksModel" "leaps" "[I", Cond.fieldLink RX5 13 "CannonStacksModel" "calibres" "[I"]
def wsX5_dayOn_r3 : List Cond := [Cond.fieldLink RX5 35 "CannonStacksModel" "rolled" "[I", Cond.methodLink RX5 129 yX5_layers, Cond.instanceMethod yX5_layers, Cond.selects RX5 yX5_layers yX5_layers, Cond.code yX5_layers cX5_layers 4 (some .int), Cond.methodLink RX5 132 yX5_full, Cond.instanceMethod yX5_full, Cond.selects RX5 yX5_full yX5_full, Cond.code yX5_full cX5_full 3 (some .int), Cond.methodLink RX5 98 yX5_more, Cond.instanceMethod yX5_more, Cond.selects RX5 yX5_more yX5_more, Cond.code yX5_more cX5_more 4 none, Cond.fieldLink RX5 29 "CannonStacksModel" "numbers" "[I"]
def wsX5_dayOn : List Cond := .code yX5_dayOn cX5_dayOn 4 none :: ((wsX5_dayOn_r1 ++ (wsX5_dayOn_r2 ++ wsX5_dayOn_r3)) ++ wsX50)
def wsX5_pass_r1 : List Cond := [Cond.fieldLink RX5 53 "CannonStacksModel" "thrown" "I", Cond.fieldLink RX5 152 "CannonStacksModel" "day" "I", Cond.methodLink RX5 59 yX5_isIn, Cond.static yX5_isIn, Cond.initialized RX5, Cond.code yX5_isIn cX5_isIn 3 (some .boolean), Cond.methodLink RX5 92 yX5_fail, Cond.instanceMethod yX5_fail, Cond.selects RX5 yX5_fail yX5_fail, Cond.code yX5_fail cX5_fail 2 (some .int), Cond.methodLink RX5 155 yX5_all, Cond.instanceMethod yX5_all, Cond.selects RX5 yX5_all yX5_all, Cond.code yX5_all cX5_all 4 (some .int), Cond.methodLink RX5 146 yX5_calibreTold, Cond.instanceMethod yX5_calibreTold, Cond.selects RX5 yX5_calibreTold yX5_calibreTold, Cond.code yX5_calibreTold cX5_calibreTold 3 (some .int), Cond.fieldLink RX5 29 "CannonStacksModel" "numbers" "[I", Cond.methodLink RX5 143 yX5_inPiles, Cond.instanceMethod yX5_inPiles, Cond.selects RX5 yX5_inPiles yX5_inPiles, Cond.code yX5_inPiles cX5_inPiles 4 (some .int), Cond.fieldLink RX5 56 "CannonStacksModel" "piles" "I"]
def wsX5_pass_r2 : List Cond := [Cond.fieldLink RX5 13 "CannonStacksModel" "calibres" "[I", Cond.fieldLink RX5 23 "CannonStacksModel" "many" "[I", Cond.methodLink RX5 165 yX5_dayOn, Cond.instanceMethod yX5_dayOn, Cond.selects RX5 yX5_dayOn yX5_dayOn, Cond.code yX5_dayOn cX5_dayOn 4 none, Cond.fieldLink RX5 102 "CannonStacksModel" "rain" "I", Cond.fieldLink RX5 26 "CannonStacksModel" "rust" "[I", Cond.methodLink RX5 124 Lib.Math.min.name, Cond.static Lib.Math.min.name, Cond.initialized "java/lang/Math", Cond.code Lib.Math.min.name Lib.Math.min.code 2 (some .int), Cond.fieldLink RX5 95 "CannonStacksModel" "cats" "I", Cond.methodLink RX5 121 yX5_on, Cond.instanceMethod yX5_on, Cond.selects RX5 yX5_on yX5_on, Cond.code yX5_on cX5_on 8 (some .int), Cond.methodLink RX5 80 yX5_lies, Cond.instanceMethod yX5_lies, Cond.selects RX5 yX5_lies yX5_lies, Cond.code yX5_lies cX5_lies 7 (some .int), Cond.fieldLink RX5 17 "CannonStacksModel" "sides" "[I", Cond.methodLink RX5 77 yX5_full_, Cond.instanceMethod yX5_full_]
def wsX5_pass_r3 : List Cond := [Cond.selects RX5 yX5_full_ yX5_full_, Cond.code yX5_full_ cX5_full_ 4 (some .int), Cond.methodLink RX5 73 yX5_room, Cond.instanceMethod yX5_room, Cond.selects RX5 yX5_room yX5_room, Cond.code yX5_room cX5_room 3 (some .int), Cond.methodLink RX5 69 yX5_roomOf, Cond.static yX5_roomOf, Cond.code yX5_roomOf cX5_roomOf 1 (some .int), Cond.methodLink RX5 84 yX5_ballAt, Cond.instanceMethod yX5_ballAt, Cond.selects RX5 yX5_ballAt yX5_ballAt, Cond.code yX5_ballAt cX5_ballAt 7 (some .int), Cond.methodLink RX5 118 yX5_rustOf, Cond.instanceMethod yX5_rustOf, Cond.selects RX5 yX5_rustOf yX5_rustOf, Cond.code yX5_rustOf cX5_rustOf 3 (some .int), Cond.methodLink RX5 161 yX5_leap, Cond.instanceMethod yX5_leap, Cond.selects RX5 yX5_leap yX5_leap, Cond.code yX5_leap cX5_leap 3 none, Cond.fieldLink RX5 32 "CannonStacksModel" "where" "[I", Cond.fieldLink RX5 20 "CannonStacksModel" "leaps" "[I", Cond.fieldLink RX5 35 "CannonStacksModel" "rolled" "[I"]
def wsX5_pass_r4 : List Cond := [Cond.methodLink RX5 129 yX5_layers, Cond.instanceMethod yX5_layers, Cond.selects RX5 yX5_layers yX5_layers, Cond.code yX5_layers cX5_layers 4 (some .int), Cond.methodLink RX5 132 yX5_full, Cond.instanceMethod yX5_full, Cond.selects RX5 yX5_full yX5_full, Cond.code yX5_full cX5_full 3 (some .int), Cond.methodLink RX5 98 yX5_more, Cond.instanceMethod yX5_more, Cond.selects RX5 yX5_more yX5_more, Cond.code yX5_more cX5_more 4 none]
def wsX5_pass : List Cond := .code yX5_pass cX5_pass 4 (some .int) :: ((wsX5_pass_r1 ++ (wsX5_pass_r2 ++ (wsX5_pass_r3 ++ wsX5_pass_r4))) ++ wsX50)
def wsX5_until_r1 : List Cond := [Cond.fieldLink RX5 53 "CannonStacksModel" "thrown" "I", Cond.methodLink RX5 105 yX5_isPile, Cond.instanceMethod yX5_isPile, Cond.selects RX5 yX5_isPile yX5_isPile, Cond.initialized RX5, Cond.code yX5_isPile cX5_isPile 2 (some .boolean), Cond.fieldLink RX5 56 "CannonStacksModel" "piles" "I", Cond.methodLink RX5 59 yX5_isIn, Cond.static yX5_isIn, Cond.code yX5_isIn cX5_isIn 3 (some .boolean), Cond.methodLink RX5 92 yX5_fail, Cond.instanceMethod yX5_fail, Cond.selects RX5 yX5_fail yX5_fail, Cond.code yX5_fail cX5_fail 2 (some .int), Cond.methodLink RX5 168 yX5_keep, Cond.instanceMethod yX5_keep, Cond.selects RX5 yX5_keep yX5_keep, Cond.code yX5_keep cX5_keep 1 none, Cond.fieldLink RX5 23 "CannonStacksModel" "many" "[I", Cond.fieldLink RX5 38 "CannonStacksModel" "keptMany" "[I", Cond.methodLink RX5 63 arraycopyName, Cond.native arraycopyName, Cond.static arraycopyName, Cond.initialized "java/lang/System"]
def wsX5_until_r2 : List Cond := [Cond.fieldLink RX5 26 "CannonStacksModel" "rust" "[I", Cond.fieldLink RX5 41 "CannonStacksModel" "keptRust" "[I", Cond.fieldLink RX5 29 "CannonStacksModel" "numbers" "[I", Cond.fieldLink RX5 44 "CannonStacksModel" "keptNumbers" "[I", Cond.fieldLink RX5 32 "CannonStacksModel" "where" "[I", Cond.fieldLink RX5 47 "CannonStacksModel" "keptWhere" "[I", Cond.fieldLink RX5 35 "CannonStacksModel" "rolled" "[I", Cond.fieldLink RX5 50 "CannonStacksModel" "keptRolled" "[I", Cond.methodLink RX5 134 yX5_rusty, Cond.instanceMethod yX5_rusty, Cond.selects RX5 yX5_rusty yX5_rusty, Cond.code yX5_rusty cX5_rusty 4 (some .int), Cond.fieldLink RX5 7 "CannonStacksModel" "limit" "I", Cond.methodLink RX5 118 yX5_rustOf, Cond.instanceMethod yX5_rustOf, Cond.selects RX5 yX5_rustOf yX5_rustOf, Cond.code yX5_rustOf cX5_rustOf 3 (some .int), Cond.methodLink RX5 165 yX5_dayOn, Cond.instanceMethod yX5_dayOn, Cond.selects RX5 yX5_dayOn yX5_dayOn, Cond.code yX5_dayOn cX5_dayOn 4 none, Cond.fieldLink RX5 102 "CannonStacksModel" "rain" "I", Cond.methodLink RX5 124 Lib.Math.min.name, Cond.static Lib.Math.min.name]
def wsX5_until_r3 : List Cond := [Cond.initialized "java/lang/Math", Cond.code Lib.Math.min.name Lib.Math.min.code 2 (some .int), Cond.fieldLink RX5 95 "CannonStacksModel" "cats" "I", Cond.methodLink RX5 121 yX5_on, Cond.instanceMethod yX5_on, Cond.selects RX5 yX5_on yX5_on, Cond.code yX5_on cX5_on 8 (some .int), Cond.methodLink RX5 80 yX5_lies, Cond.instanceMethod yX5_lies, Cond.selects RX5 yX5_lies yX5_lies, Cond.code yX5_lies cX5_lies 7 (some .int), Cond.fieldLink RX5 17 "CannonStacksModel" "sides" "[I", Cond.methodLink RX5 77 yX5_full_, Cond.instanceMethod yX5_full_, Cond.selects RX5 yX5_full_ yX5_full_, Cond.code yX5_full_ cX5_full_ 4 (some .int), Cond.methodLink RX5 73 yX5_room, Cond.instanceMethod yX5_room, Cond.selects RX5 yX5_room yX5_room, Cond.code yX5_room cX5_room 3 (some .int), Cond.methodLink RX5 69 yX5_roomOf, Cond.static yX5_roomOf, Cond.code yX5_roomOf cX5_roomOf 1 (some .int), Cond.methodLink RX5 84 yX5_ballAt]
def wsX5_until_r4 : List Cond := [Cond.instanceMethod yX5_ballAt, Cond.selects RX5 yX5_ballAt yX5_ballAt, Cond.code yX5_ballAt cX5_ballAt 7 (some .int), Cond.methodLink RX5 161 yX5_leap, Cond.instanceMethod yX5_leap, Cond.selects RX5 yX5_leap yX5_leap, Cond.code yX5_leap cX5_leap 3 none, Cond.fieldLink RX5 20 "CannonStacksModel" "leaps" "[I", Cond.fieldLink RX5 13 "CannonStacksModel" "calibres" "[I", Cond.methodLink RX5 129 yX5_layers, Cond.instanceMethod yX5_layers, Cond.selects RX5 yX5_layers yX5_layers, Cond.code yX5_layers cX5_layers 4 (some .int), Cond.methodLink RX5 132 yX5_full, Cond.instanceMethod yX5_full, Cond.selects RX5 yX5_full yX5_full, Cond.code yX5_full cX5_full 3 (some .int), Cond.methodLink RX5 98 yX5_more, Cond.instanceMethod yX5_more, Cond.selects RX5 yX5_more yX5_more, Cond.code yX5_more cX5_more 4 none, Cond.methodLink RX5 171 yX5_bringBack, Cond.instanceMethod yX5_bringBack, Cond.selects RX5 yX5_bringBack yX5_bringBack]
def wsX5_until_r5 : List Cond := [Cond.code yX5_bringBack cX5_bringBack 1 none]
def wsX5_until : List Cond := .code yX5_until cX5_until 3 (some .int) :: ((wsX5_until_r1 ++ (wsX5_until_r2 ++ (wsX5_until_r3 ++ (wsX5_until_r4 ++ wsX5_until_r5)))) ++ wsX50)
def wsX5_foresee_r1 : List Cond := [Cond.fieldLink RX5 53 "CannonStacksModel" "thrown" "I", Cond.methodLink RX5 59 yX5_isIn, Cond.static yX5_isIn, Cond.initialized RX5, Cond.code yX5_isIn cX5_isIn 3 (some .boolean), Cond.methodLink RX5 92 yX5_fail, Cond.instanceMethod yX5_fail, Cond.selects RX5 yX5_fail yX5_fail, Cond.code yX5_fail cX5_fail 2 (some .int), Cond.methodLink RX5 168 yX5_keep, Cond.instanceMethod yX5_keep, Cond.selects RX5 yX5_keep yX5_keep, Cond.code yX5_keep cX5_keep 1 none, Cond.fieldLink RX5 23 "CannonStacksModel" "many" "[I", Cond.fieldLink RX5 38 "CannonStacksModel" "keptMany" "[I", Cond.methodLink RX5 63 arraycopyName, Cond.native arraycopyName, Cond.static arraycopyName, Cond.initialized "java/lang/System", Cond.fieldLink RX5 26 "CannonStacksModel" "rust" "[I", Cond.fieldLink RX5 41 "CannonStacksModel" "keptRust" "[I", Cond.fieldLink RX5 29 "CannonStacksModel" "numbers" "[I", Cond.fieldLink RX5 44 "CannonStacksModel" "keptNumbers" "[I", Cond.fieldLink RX5 32 "CannonStacksModel" "where" "[I"]
def wsX5_foresee_r2 : List Cond := [Cond.fieldLink RX5 47 "CannonStacksModel" "keptWhere" "[I", Cond.fieldLink RX5 35 "CannonStacksModel" "rolled" "[I", Cond.fieldLink RX5 50 "CannonStacksModel" "keptRolled" "[I", Cond.methodLink RX5 165 yX5_dayOn, Cond.instanceMethod yX5_dayOn, Cond.selects RX5 yX5_dayOn yX5_dayOn, Cond.code yX5_dayOn cX5_dayOn 4 none, Cond.fieldLink RX5 56 "CannonStacksModel" "piles" "I", Cond.fieldLink RX5 102 "CannonStacksModel" "rain" "I", Cond.methodLink RX5 124 Lib.Math.min.name, Cond.static Lib.Math.min.name, Cond.initialized "java/lang/Math", Cond.code Lib.Math.min.name Lib.Math.min.code 2 (some .int), Cond.fieldLink RX5 95 "CannonStacksModel" "cats" "I", Cond.methodLink RX5 121 yX5_on, Cond.instanceMethod yX5_on, Cond.selects RX5 yX5_on yX5_on, Cond.code yX5_on cX5_on 8 (some .int), Cond.methodLink RX5 80 yX5_lies, Cond.instanceMethod yX5_lies, Cond.selects RX5 yX5_lies yX5_lies, Cond.code yX5_lies cX5_lies 7 (some .int), Cond.fieldLink RX5 17 "CannonStacksModel" "sides" "[I", Cond.methodLink RX5 77 yX5_full_]
def wsX5_foresee_r3 : List Cond := [Cond.instanceMethod yX5_full_, Cond.selects RX5 yX5_full_ yX5_full_, Cond.code yX5_full_ cX5_full_ 4 (some .int), Cond.methodLink RX5 73 yX5_room, Cond.instanceMethod yX5_room, Cond.selects RX5 yX5_room yX5_room, Cond.code yX5_room cX5_room 3 (some .int), Cond.methodLink RX5 69 yX5_roomOf, Cond.static yX5_roomOf, Cond.code yX5_roomOf cX5_roomOf 1 (some .int), Cond.methodLink RX5 84 yX5_ballAt, Cond.instanceMethod yX5_ballAt, Cond.selects RX5 yX5_ballAt yX5_ballAt, Cond.code yX5_ballAt cX5_ballAt 7 (some .int), Cond.methodLink RX5 118 yX5_rustOf, Cond.instanceMethod yX5_rustOf, Cond.selects RX5 yX5_rustOf yX5_rustOf, Cond.code yX5_rustOf cX5_rustOf 3 (some .int), Cond.methodLink RX5 161 yX5_leap, Cond.instanceMethod yX5_leap, Cond.selects RX5 yX5_leap yX5_leap, Cond.code yX5_leap cX5_leap 3 none, Cond.fieldLink RX5 20 "CannonStacksModel" "leaps" "[I", Cond.fieldLink RX5 13 "CannonStacksModel" "calibres" "[I"]
def wsX5_foresee_r4 : List Cond := [Cond.methodLink RX5 129 yX5_layers, Cond.instanceMethod yX5_layers, Cond.selects RX5 yX5_layers yX5_layers, Cond.code yX5_layers cX5_layers 4 (some .int), Cond.methodLink RX5 132 yX5_full, Cond.instanceMethod yX5_full, Cond.selects RX5 yX5_full yX5_full, Cond.code yX5_full cX5_full 3 (some .int), Cond.methodLink RX5 98 yX5_more, Cond.instanceMethod yX5_more, Cond.selects RX5 yX5_more yX5_more, Cond.code yX5_more cX5_more 4 none, Cond.methodLink RX5 158 yX5_counted, Cond.instanceMethod yX5_counted, Cond.selects RX5 yX5_counted yX5_counted, Cond.code yX5_counted cX5_counted 4 (some .int), Cond.fieldLink RX5 152 "CannonStacksModel" "day" "I", Cond.fieldLink RX5 7 "CannonStacksModel" "limit" "I", Cond.methodLink RX5 155 yX5_all, Cond.instanceMethod yX5_all, Cond.selects RX5 yX5_all yX5_all, Cond.code yX5_all cX5_all 4 (some .int), Cond.methodLink RX5 146 yX5_calibreTold, Cond.instanceMethod yX5_calibreTold]
def wsX5_foresee_r5 : List Cond := [Cond.selects RX5 yX5_calibreTold yX5_calibreTold, Cond.code yX5_calibreTold cX5_calibreTold 3 (some .int), Cond.methodLink RX5 143 yX5_inPiles, Cond.instanceMethod yX5_inPiles, Cond.selects RX5 yX5_inPiles yX5_inPiles, Cond.code yX5_inPiles cX5_inPiles 4 (some .int), Cond.methodLink RX5 134 yX5_rusty, Cond.instanceMethod yX5_rusty, Cond.selects RX5 yX5_rusty yX5_rusty, Cond.code yX5_rusty cX5_rusty 4 (some .int), Cond.methodLink RX5 171 yX5_bringBack, Cond.instanceMethod yX5_bringBack, Cond.selects RX5 yX5_bringBack yX5_bringBack, Cond.code yX5_bringBack cX5_bringBack 1 none]
def wsX5_foresee : List Cond := .code yX5_foresee cX5_foresee 4 (some .int) :: ((wsX5_foresee_r1 ++ (wsX5_foresee_r2 ++ (wsX5_foresee_r3 ++ (wsX5_foresee_r4 ++ wsX5_foresee_r5)))) ++ wsX50)
def wsX5_would_r1 : List Cond := [Cond.fieldLink RX5 53 "CannonStacksModel" "thrown" "I", Cond.fieldLink RX5 23 "CannonStacksModel" "many" "[I", Cond.methodLink RX5 105 yX5_isPile, Cond.instanceMethod yX5_isPile, Cond.selects RX5 yX5_isPile yX5_isPile, Cond.initialized RX5, Cond.code yX5_isPile cX5_isPile 2 (some .boolean), Cond.fieldLink RX5 56 "CannonStacksModel" "piles" "I", Cond.methodLink RX5 59 yX5_isIn, Cond.static yX5_isIn, Cond.code yX5_isIn cX5_isIn 3 (some .boolean), Cond.methodLink RX5 134 yX5_rusty, Cond.instanceMethod yX5_rusty, Cond.selects RX5 yX5_rusty yX5_rusty, Cond.code yX5_rusty cX5_rusty 4 (some .int), Cond.fieldLink RX5 7 "CannonStacksModel" "limit" "I", Cond.methodLink RX5 118 yX5_rustOf, Cond.instanceMethod yX5_rustOf, Cond.selects RX5 yX5_rustOf yX5_rustOf, Cond.code yX5_rustOf cX5_rustOf 3 (some .int), Cond.fieldLink RX5 26 "CannonStacksModel" "rust" "[I", Cond.methodLink RX5 129 yX5_layers, Cond.instanceMethod yX5_layers, Cond.selects RX5 yX5_layers yX5_layers]
def wsX5_would_r2 : List Cond := [Cond.code yX5_layers cX5_layers 4 (some .int), Cond.methodLink RX5 73 yX5_room, Cond.instanceMethod yX5_room, Cond.selects RX5 yX5_room yX5_room, Cond.code yX5_room cX5_room 3 (some .int), Cond.fieldLink RX5 17 "CannonStacksModel" "sides" "[I", Cond.methodLink RX5 69 yX5_roomOf, Cond.static yX5_roomOf, Cond.code yX5_roomOf cX5_roomOf 1 (some .int), Cond.methodLink RX5 92 yX5_fail, Cond.instanceMethod yX5_fail, Cond.selects RX5 yX5_fail yX5_fail, Cond.code yX5_fail cX5_fail 2 (some .int)]
def wsX5_would : List Cond := .code yX5_would cX5_would 2 (some .int) :: ((wsX5_would_r1 ++ wsX5_would_r2) ++ wsX50)
def wsX5_advise : List Cond := .code yX5_advise cX5_advise 5 (some .int) :: ([.fieldLink RX5 53 "CannonStacksModel" "thrown" "I", .fieldLink RX5 56 "CannonStacksModel" "piles" "I", .fieldLink RX5 23 "CannonStacksModel" "many" "[I", .methodLink RX5 134 yX5_rusty, .instanceMethod yX5_rusty, .selects RX5 yX5_rusty yX5_rusty, .initialized RX5, .code yX5_rusty cX5_rusty 4 (some .int), .fieldLink RX5 7 "CannonStacksModel" "limit" "I", .methodLink RX5 118 yX5_rustOf, .instanceMethod yX5_rustOf, .selects RX5 yX5_rustOf yX5_rustOf, .code yX5_rustOf cX5_rustOf 3 (some .int), .fieldLink RX5 26 "CannonStacksModel" "rust" "[I"] ++ wsX50)
def wsX5_mean_r1 : List Cond := [Cond.fieldLink RX5 53 "CannonStacksModel" "thrown" "I", Cond.fieldLink RX5 56 "CannonStacksModel" "piles" "I", Cond.methodLink RX5 140 yX5_pileTold, Cond.instanceMethod yX5_pileTold, Cond.selects RX5 yX5_pileTold yX5_pileTold, Cond.initialized RX5, Cond.code yX5_pileTold cX5_pileTold 5 (some .int), Cond.fieldLink RX5 13 "CannonStacksModel" "calibres" "[I", Cond.fieldLink RX5 17 "CannonStacksModel" "sides" "[I", Cond.fieldLink RX5 23 "CannonStacksModel" "many" "[I", Cond.methodLink RX5 137 Lib.Math.max.name, Cond.static Lib.Math.max.name, Cond.initialized "java/lang/Math", Cond.code Lib.Math.max.name Lib.Math.max.code 2 (some .int), Cond.methodLink RX5 69 yX5_roomOf, Cond.static yX5_roomOf, Cond.code yX5_roomOf cX5_roomOf 1 (some .int), Cond.methodLink RX5 129 yX5_layers, Cond.instanceMethod yX5_layers, Cond.selects RX5 yX5_layers yX5_layers, Cond.code yX5_layers cX5_layers 4 (some .int), Cond.methodLink RX5 73 yX5_room, Cond.instanceMethod yX5_room, Cond.selects RX5 yX5_room yX5_room]
def wsX5_mean_r2 : List Cond := [Cond.code yX5_room cX5_room 3 (some .int), Cond.methodLink RX5 132 yX5_full, Cond.instanceMethod yX5_full, Cond.selects RX5 yX5_full yX5_full, Cond.code yX5_full cX5_full 3 (some .int), Cond.methodLink RX5 121 yX5_on, Cond.instanceMethod yX5_on, Cond.selects RX5 yX5_on yX5_on, Cond.code yX5_on cX5_on 8 (some .int), Cond.methodLink RX5 80 yX5_lies, Cond.instanceMethod yX5_lies, Cond.selects RX5 yX5_lies yX5_lies, Cond.code yX5_lies cX5_lies 7 (some .int), Cond.methodLink RX5 77 yX5_full_, Cond.instanceMethod yX5_full_, Cond.selects RX5 yX5_full_ yX5_full_, Cond.code yX5_full_ cX5_full_ 4 (some .int), Cond.methodLink RX5 84 yX5_ballAt, Cond.instanceMethod yX5_ballAt, Cond.selects RX5 yX5_ballAt yX5_ballAt, Cond.code yX5_ballAt cX5_ballAt 7 (some .int), Cond.methodLink RX5 59 yX5_isIn, Cond.static yX5_isIn, Cond.code yX5_isIn cX5_isIn 3 (some .boolean)]
def wsX5_mean_r3 : List Cond := [Cond.methodLink RX5 134 yX5_rusty, Cond.instanceMethod yX5_rusty, Cond.selects RX5 yX5_rusty yX5_rusty, Cond.code yX5_rusty cX5_rusty 4 (some .int), Cond.fieldLink RX5 7 "CannonStacksModel" "limit" "I", Cond.methodLink RX5 118 yX5_rustOf, Cond.instanceMethod yX5_rustOf, Cond.selects RX5 yX5_rustOf yX5_rustOf, Cond.code yX5_rustOf cX5_rustOf 3 (some .int), Cond.fieldLink RX5 26 "CannonStacksModel" "rust" "[I", Cond.methodLink RX5 155 yX5_all, Cond.instanceMethod yX5_all, Cond.selects RX5 yX5_all yX5_all, Cond.code yX5_all cX5_all 4 (some .int), Cond.methodLink RX5 146 yX5_calibreTold, Cond.instanceMethod yX5_calibreTold, Cond.selects RX5 yX5_calibreTold yX5_calibreTold, Cond.code yX5_calibreTold cX5_calibreTold 3 (some .int), Cond.fieldLink RX5 29 "CannonStacksModel" "numbers" "[I", Cond.methodLink RX5 143 yX5_inPiles, Cond.instanceMethod yX5_inPiles, Cond.selects RX5 yX5_inPiles yX5_inPiles, Cond.code yX5_inPiles cX5_inPiles 4 (some .int)]
def wsX5_mean : List Cond := .code yX5_mean cX5_mean 3 (some .double) :: ((wsX5_mean_r1 ++ (wsX5_mean_r2 ++ wsX5_mean_r3)) ++ wsX50)
def wsX5_digest_r1 : List Cond := [Cond.fieldLink RX5 53 "CannonStacksModel" "thrown" "I", Cond.constantLong RX5 174 (1811), Cond.constantLong RX5 176 (31), Cond.fieldLink RX5 56 "CannonStacksModel" "piles" "I", Cond.fieldLink RX5 23 "CannonStacksModel" "many" "[I", Cond.fieldLink RX5 95 "CannonStacksModel" "cats" "I", Cond.methodLink RX5 158 yX5_counted, Cond.instanceMethod yX5_counted, Cond.selects RX5 yX5_counted yX5_counted, Cond.initialized RX5, Cond.code yX5_counted cX5_counted 4 (some .int), Cond.fieldLink RX5 152 "CannonStacksModel" "day" "I", Cond.fieldLink RX5 102 "CannonStacksModel" "rain" "I", Cond.fieldLink RX5 7 "CannonStacksModel" "limit" "I", Cond.methodLink RX5 155 yX5_all, Cond.instanceMethod yX5_all, Cond.selects RX5 yX5_all yX5_all, Cond.code yX5_all cX5_all 4 (some .int), Cond.methodLink RX5 146 yX5_calibreTold, Cond.instanceMethod yX5_calibreTold, Cond.selects RX5 yX5_calibreTold yX5_calibreTold, Cond.code yX5_calibreTold cX5_calibreTold 3 (some .int), Cond.fieldLink RX5 29 "CannonStacksModel" "numbers" "[I", Cond.methodLink RX5 143 yX5_inPiles]
def wsX5_digest_r2 : List Cond := [Cond.instanceMethod yX5_inPiles, Cond.selects RX5 yX5_inPiles yX5_inPiles, Cond.code yX5_inPiles cX5_inPiles 4 (some .int), Cond.fieldLink RX5 13 "CannonStacksModel" "calibres" "[I", Cond.methodLink RX5 134 yX5_rusty, Cond.instanceMethod yX5_rusty, Cond.selects RX5 yX5_rusty yX5_rusty, Cond.code yX5_rusty cX5_rusty 4 (some .int), Cond.methodLink RX5 118 yX5_rustOf, Cond.instanceMethod yX5_rustOf, Cond.selects RX5 yX5_rustOf yX5_rustOf, Cond.code yX5_rustOf cX5_rustOf 3 (some .int), Cond.fieldLink RX5 26 "CannonStacksModel" "rust" "[I", Cond.methodLink RX5 140 yX5_pileTold, Cond.instanceMethod yX5_pileTold, Cond.selects RX5 yX5_pileTold yX5_pileTold, Cond.code yX5_pileTold cX5_pileTold 5 (some .int), Cond.fieldLink RX5 17 "CannonStacksModel" "sides" "[I", Cond.methodLink RX5 137 Lib.Math.max.name, Cond.static Lib.Math.max.name, Cond.initialized "java/lang/Math", Cond.code Lib.Math.max.name Lib.Math.max.code 2 (some .int), Cond.methodLink RX5 69 yX5_roomOf, Cond.static yX5_roomOf]
def wsX5_digest_r3 : List Cond := [Cond.code yX5_roomOf cX5_roomOf 1 (some .int), Cond.methodLink RX5 129 yX5_layers, Cond.instanceMethod yX5_layers, Cond.selects RX5 yX5_layers yX5_layers, Cond.code yX5_layers cX5_layers 4 (some .int), Cond.methodLink RX5 73 yX5_room, Cond.instanceMethod yX5_room, Cond.selects RX5 yX5_room yX5_room, Cond.code yX5_room cX5_room 3 (some .int), Cond.methodLink RX5 132 yX5_full, Cond.instanceMethod yX5_full, Cond.selects RX5 yX5_full yX5_full, Cond.code yX5_full cX5_full 3 (some .int), Cond.methodLink RX5 121 yX5_on, Cond.instanceMethod yX5_on, Cond.selects RX5 yX5_on yX5_on, Cond.code yX5_on cX5_on 8 (some .int), Cond.methodLink RX5 80 yX5_lies, Cond.instanceMethod yX5_lies, Cond.selects RX5 yX5_lies yX5_lies, Cond.code yX5_lies cX5_lies 7 (some .int), Cond.methodLink RX5 77 yX5_full_, Cond.instanceMethod yX5_full_, Cond.selects RX5 yX5_full_ yX5_full_]
def wsX5_digest_r4 : List Cond := [Cond.code yX5_full_ cX5_full_ 4 (some .int), Cond.methodLink RX5 84 yX5_ballAt, Cond.instanceMethod yX5_ballAt, Cond.selects RX5 yX5_ballAt yX5_ballAt, Cond.code yX5_ballAt cX5_ballAt 7 (some .int), Cond.methodLink RX5 59 yX5_isIn, Cond.static yX5_isIn, Cond.code yX5_isIn cX5_isIn 3 (some .boolean), Cond.methodLink RX5 149 yX5_catTold, Cond.instanceMethod yX5_catTold, Cond.selects RX5 yX5_catTold yX5_catTold, Cond.code yX5_catTold cX5_catTold 3 (some .int), Cond.fieldLink RX5 20 "CannonStacksModel" "leaps" "[I", Cond.fieldLink RX5 32 "CannonStacksModel" "where" "[I", Cond.fieldLink RX5 35 "CannonStacksModel" "rolled" "[I"]
def wsX5_digest : List Cond := .code yX5_digest cX5_digest 5 (some .long) :: ((wsX5_digest_r1 ++ (wsX5_digest_r2 ++ (wsX5_digest_r3 ++ wsX5_digest_r4))) ++ wsX50)
def wsJ9_max_7cf53 : List Cond := .code yJ9_max_7cf53 cJ9_max_7cf53 2 (some .int) :: ([])
def wsJ9_min_7cf53 : List Cond := .code yJ9_min_7cf53 cJ9_min_7cf53 2 (some .int) :: ([])
def wsL_pile_r1 : List Cond := [Cond.classLink RL 13 "java/lang/IndexOutOfBoundsException", Cond.classLink RL 15 "java/lang/IllegalArgumentException", Cond.classLink RL 17 "java/lang/IllegalStateException", Cond.methodLink RL 7 yX4_pile, Cond.instanceMethod yX4_pile, Cond.selects RX4 yX4_pile yX4_pile, Cond.initialized RX4, Cond.code yX4_pile cX4_pile 4 (some .int), Cond.classLink RX4 51 "java/lang/IllegalStateException", Cond.initialized "java/lang/IllegalStateException", Cond.fieldLink RX4 33 "CannonStacks" "yard" "LCannonStacks$Yard;", Cond.fieldLink RX4 47 "CannonStacks$Yard" "pileCount" "I", Cond.fieldLink RX4 58 "CannonStacks$Yard" "piles" "[LCannonStacks$Pile;", Cond.fieldLink RX4 11 "CannonStacks" "pyramids" "[LCannonStacks$Pyramid;", Cond.methodLink RX4 40 yX4_checkCalibre, Cond.static yX4_checkCalibre, Cond.code yX4_checkCalibre cX4_checkCalibre 1 none, Cond.classLink RX4 170 "java/lang/IndexOutOfBoundsException", Cond.initialized "java/lang/IndexOutOfBoundsException", Cond.methodLink RX4 175 yX4_isOutside, Cond.static yX4_isOutside, Cond.code yX4_isOutside cX4_isOutside 3 (some .boolean), Cond.methodLink RX4 43 yX4_checkArgument, Cond.static yX4_checkArgument]
def wsL_pile_r2 : List Cond := [Cond.code yX4_checkArgument cX4_checkArgument 3 none, Cond.classLink RX4 120 "java/lang/IllegalArgumentException", Cond.initialized "java/lang/IllegalArgumentException", Cond.methodLink RX4 62 yX1_begin, Cond.instanceMethod yX1_begin, Cond.selects RX1 yX1_begin yX1_begin, Cond.initialized RX1, Cond.code yX1_begin cX1_begin 3 none, Cond.fieldLink RX1 19 "CannonStacks$Pile" "calibre" "I", Cond.fieldLink RX1 9 "CannonStacks$Pile" "pyramid" "LCannonStacks$Pyramid;", Cond.fieldLink RX1 23 "CannonStacks$Pile" "balls" "I"]
def wsL_pile : List Cond := .codeWith yL_pile cL_pile 5 (some .int) [(0, 10, 13, 13), (0, 10, 17, 15), (0, 10, 21, 17)] :: ((wsL_pile_r1 ++ wsL_pile_r2) ++ wsX40 ++ wsX30 ++ wsX10 ++ (vx_atS RX4 55 "java/lang/IllegalStateException" ["java/lang/RuntimeException", "java/lang/Exception"]).filter goodWord ++ (vx_atS RX4 174 "java/lang/IndexOutOfBoundsException" ["java/lang/RuntimeException", "java/lang/Exception"]).filter goodWord ++ (vx_atS RX4 124 "java/lang/IllegalArgumentException" ["java/lang/RuntimeException", "java/lang/Exception"]).filter goodWord)
def wsL_cat : List Cond := .codeWith yL_cat cL_cat 4 (some .int) [(0, 9, 12, 15), (0, 9, 15, 17)] :: ([.classLink RL 15 "java/lang/IllegalArgumentException", .classLink RL 17 "java/lang/IllegalStateException", .methodLink RL 19 yX4_cat, .instanceMethod yX4_cat, .selects RX4 yX4_cat yX4_cat, .initialized RX4, .code yX4_cat cX4_cat 3 (some .int), .classLink RX4 51 "java/lang/IllegalStateException", .initialized "java/lang/IllegalStateException", .fieldLink RX4 33 "CannonStacks" "yard" "LCannonStacks$Yard;", .fieldLink RX4 68 "CannonStacks$Yard" "catCount" "I", .fieldLink RX4 73 "CannonStacks$Yard" "cats" "[LCannonStacks$Cat;", .fieldLink RX4 77 "CannonStacks$Cat" "leap" "I", .methodLink RX4 43 yX4_checkArgument, .static yX4_checkArgument, .code yX4_checkArgument cX4_checkArgument 3 none, .classLink RX4 120 "java/lang/IllegalArgumentException", .initialized "java/lang/IllegalArgumentException", .methodLink RX4 175 yX4_isOutside, .static yX4_isOutside, .code yX4_isOutside cX4_isOutside 3 (some .boolean)] ++ wsX40 ++ wsX30 ++ wsX00 ++ (vx_atS RX4 55 "java/lang/IllegalStateException" ["java/lang/RuntimeException", "java/lang/Exception"]).filter goodWord ++ (vx_atS RX4 124 "java/lang/IllegalArgumentException" ["java/lang/RuntimeException", "java/lang/Exception"]).filter goodWord)
def wsL_give : List Cond := .codeWith yL_give cL_give 5 (some .int) [(0, 10, 13, 13), (0, 10, 17, 15)] :: ([.classLink RL 13 "java/lang/IndexOutOfBoundsException", .classLink RL 15 "java/lang/IllegalArgumentException", .methodLink RL 23 yX4_give, .instanceMethod yX4_give, .selects RX4 yX4_give yX4_give, .initialized RX4, .code yX4_give cX4_give 3 (some .int), .fieldLink RX4 18 "CannonStacks" "store" "[I", .methodLink RX4 40 yX4_checkCalibre, .static yX4_checkCalibre, .code yX4_checkCalibre cX4_checkCalibre 1 none, .classLink RX4 170 "java/lang/IndexOutOfBoundsException", .initialized "java/lang/IndexOutOfBoundsException", .methodLink RX4 175 yX4_isOutside, .static yX4_isOutside, .code yX4_isOutside cX4_isOutside 3 (some .boolean), .methodLink RX4 43 yX4_checkArgument, .static yX4_checkArgument, .code yX4_checkArgument cX4_checkArgument 3 none, .classLink RX4 120 "java/lang/IllegalArgumentException", .initialized "java/lang/IllegalArgumentException"] ++ wsX40 ++ (vx_atS RX4 174 "java/lang/IndexOutOfBoundsException" ["java/lang/RuntimeException", "java/lang/Exception"]).filter goodWord ++ (vx_atS RX4 124 "java/lang/IllegalArgumentException" ["java/lang/RuntimeException", "java/lang/Exception"]).filter goodWord)
def wsL_setRain : List Cond := .codeWith yL_setRain cL_setRain 4 (some .int) [(0, 9, 12, 15)] :: ([.classLink RL 15 "java/lang/IllegalArgumentException", .methodLink RL 26 yX4_setRain, .instanceMethod yX4_setRain, .selects RX4 yX4_setRain yX4_setRain, .initialized RX4, .code yX4_setRain cX4_setRain 3 (some .int), .fieldLink RX4 33 "CannonStacks" "yard" "LCannonStacks$Yard;", .fieldLink RX4 82 "CannonStacks$Yard" "rain" "I", .methodLink RX4 43 yX4_checkArgument, .static yX4_checkArgument, .code yX4_checkArgument cX4_checkArgument 3 none, .classLink RX4 120 "java/lang/IllegalArgumentException", .initialized "java/lang/IllegalArgumentException", .methodLink RX4 175 yX4_isOutside, .static yX4_isOutside, .code yX4_isOutside cX4_isOutside 3 (some .boolean)] ++ wsX40 ++ wsX30 ++ (vx_atS RX4 124 "java/lang/IllegalArgumentException" ["java/lang/RuntimeException", "java/lang/Exception"]).filter goodWord)
def wsL_setLimit : List Cond := .codeWith yL_setLimit cL_setLimit 4 (some .int) [(0, 9, 12, 15)] :: ([.classLink RL 15 "java/lang/IllegalArgumentException", .methodLink RL 29 yX4_setLimit, .instanceMethod yX4_setLimit, .selects RX4 yX4_setLimit yX4_setLimit, .initialized RX4, .code yX4_setLimit cX4_setLimit 3 (some .int), .fieldLink RX4 33 "CannonStacks" "yard" "LCannonStacks$Yard;", .fieldLink RX4 85 "CannonStacks$Yard" "limit" "I", .methodLink RX4 43 yX4_checkArgument, .static yX4_checkArgument, .code yX4_checkArgument cX4_checkArgument 3 none, .classLink RX4 120 "java/lang/IllegalArgumentException", .initialized "java/lang/IllegalArgumentException", .methodLink RX4 175 yX4_isOutside, .static yX4_isOutside, .code yX4_isOutside cX4_isOutside 3 (some .boolean)] ++ wsX40 ++ wsX30 ++ (vx_atS RX4 124 "java/lang/IllegalArgumentException" ["java/lang/RuntimeException", "java/lang/Exception"]).filter goodWord)
def wsL_stack_r1 : List Cond := [Cond.classLink RL 13 "java/lang/IndexOutOfBoundsException", Cond.classLink RL 15 "java/lang/IllegalArgumentException", Cond.classLink RL 17 "java/lang/IllegalStateException", Cond.methodLink RL 32 yX4_stack, Cond.instanceMethod yX4_stack, Cond.selects RX4 yX4_stack yX4_stack, Cond.initialized RX4, Cond.code yX4_stack cX4_stack 5 (some .int), Cond.classLink RX4 51 "java/lang/IllegalStateException", Cond.initialized "java/lang/IllegalStateException", Cond.fieldLink RX4 33 "CannonStacks" "yard" "LCannonStacks$Yard;", Cond.fieldLink RX4 58 "CannonStacks$Yard" "piles" "[LCannonStacks$Pile;", Cond.fieldLink RX4 18 "CannonStacks" "store" "[I", Cond.fieldLink RX4 91 "CannonStacks$Pile" "calibre" "I", Cond.fieldLink RX4 105 "CannonStacks$Pile" "balls" "I", Cond.methodLink RX4 88 yX4_checkPile, Cond.instanceMethod yX4_checkPile, Cond.selects RX4 yX4_checkPile yX4_checkPile, Cond.code yX4_checkPile cX4_checkPile 2 none, Cond.classLink RX4 170 "java/lang/IndexOutOfBoundsException", Cond.initialized "java/lang/IndexOutOfBoundsException", Cond.fieldLink RX4 47 "CannonStacks$Yard" "pileCount" "I", Cond.methodLink RX4 175 yX4_isOutside, Cond.static yX4_isOutside]
def wsL_stack_r2 : List Cond := [Cond.code yX4_isOutside cX4_isOutside 3 (some .boolean), Cond.methodLink RX4 43 yX4_checkArgument, Cond.static yX4_checkArgument, Cond.code yX4_checkArgument cX4_checkArgument 3 none, Cond.classLink RX4 120 "java/lang/IllegalArgumentException", Cond.initialized "java/lang/IllegalArgumentException", Cond.methodLink RX4 96 yX1_spare, Cond.instanceMethod yX1_spare, Cond.selects RX1 yX1_spare yX1_spare, Cond.initialized RX1, Cond.code yX1_spare cX1_spare 1 (some .int), Cond.fieldLink RX1 9 "CannonStacks$Pile" "pyramid" "LCannonStacks$Pyramid;", Cond.fieldLink RX1 32 "CannonStacks$Pyramid" "capacity" "I", Cond.fieldLink RX1 23 "CannonStacks$Pile" "balls" "I", Cond.methodLink RX4 102 yX1_put, Cond.instanceMethod yX1_put, Cond.selects RX1 yX1_put yX1_put, Cond.code yX1_put cX1_put 2 none, Cond.fieldLink RX1 15 "CannonStacks$Pile" "rust" "[I"]
def wsL_stack : List Cond := .codeWith yL_stack cL_stack 5 (some .int) [(0, 10, 13, 13), (0, 10, 17, 15), (0, 10, 21, 17)] :: ((wsL_stack_r1 ++ wsL_stack_r2) ++ wsX40 ++ wsX30 ++ wsX10 ++ wsX20 ++ (vx_atS RX4 55 "java/lang/IllegalStateException" ["java/lang/RuntimeException", "java/lang/Exception"]).filter goodWord ++ (vx_atS RX4 174 "java/lang/IndexOutOfBoundsException" ["java/lang/RuntimeException", "java/lang/Exception"]).filter goodWord ++ (vx_atS RX4 124 "java/lang/IllegalArgumentException" ["java/lang/RuntimeException", "java/lang/Exception"]).filter goodWord)
def wsL_fire_r1 : List Cond := [Cond.classLink RL 13 "java/lang/IndexOutOfBoundsException", Cond.classLink RL 15 "java/lang/IllegalArgumentException", Cond.classLink RL 17 "java/lang/IllegalStateException", Cond.methodLink RL 35 yX4_fire, Cond.instanceMethod yX4_fire, Cond.selects RX4 yX4_fire yX4_fire, Cond.initialized RX4, Cond.code yX4_fire cX4_fire 6 (some .int), Cond.classLink RX4 51 "java/lang/IllegalStateException", Cond.initialized "java/lang/IllegalStateException", Cond.fieldLink RX4 33 "CannonStacks" "yard" "LCannonStacks$Yard;", Cond.fieldLink RX4 58 "CannonStacks$Yard" "piles" "[LCannonStacks$Pile;", Cond.fieldLink RX4 105 "CannonStacks$Pile" "balls" "I", Cond.fieldLink RX4 22 "CannonStacks" "fired" "[I", Cond.fieldLink RX4 91 "CannonStacks$Pile" "calibre" "I", Cond.methodLink RX4 88 yX4_checkPile, Cond.instanceMethod yX4_checkPile, Cond.selects RX4 yX4_checkPile yX4_checkPile, Cond.code yX4_checkPile cX4_checkPile 2 none, Cond.classLink RX4 170 "java/lang/IndexOutOfBoundsException", Cond.initialized "java/lang/IndexOutOfBoundsException", Cond.fieldLink RX4 47 "CannonStacks$Yard" "pileCount" "I", Cond.methodLink RX4 175 yX4_isOutside, Cond.static yX4_isOutside]
def wsL_fire_r2 : List Cond := [Cond.code yX4_isOutside cX4_isOutside 3 (some .boolean), Cond.methodLink RX4 43 yX4_checkArgument, Cond.static yX4_checkArgument, Cond.code yX4_checkArgument cX4_checkArgument 3 none, Cond.classLink RX4 120 "java/lang/IllegalArgumentException", Cond.initialized "java/lang/IllegalArgumentException", Cond.methodLink RX4 110 yX1_takeTop, Cond.instanceMethod yX1_takeTop, Cond.selects RX1 yX1_takeTop yX1_takeTop, Cond.initialized RX1, Cond.code yX1_takeTop cX1_takeTop 1 (some .int), Cond.fieldLink RX1 23 "CannonStacks$Pile" "balls" "I", Cond.fieldLink RX1 15 "CannonStacks$Pile" "rust" "[I"]
def wsL_fire : List Cond := .codeWith yL_fire cL_fire 5 (some .int) [(0, 10, 13, 13), (0, 10, 17, 15), (0, 10, 21, 17)] :: ((wsL_fire_r1 ++ wsL_fire_r2) ++ wsX40 ++ wsX30 ++ wsX10 ++ (vx_atS RX4 55 "java/lang/IllegalStateException" ["java/lang/RuntimeException", "java/lang/Exception"]).filter goodWord ++ (vx_atS RX4 174 "java/lang/IndexOutOfBoundsException" ["java/lang/RuntimeException", "java/lang/Exception"]).filter goodWord ++ (vx_atS RX4 124 "java/lang/IllegalArgumentException" ["java/lang/RuntimeException", "java/lang/Exception"]).filter goodWord)
def wsL_scour_r1 : List Cond := [Cond.classLink RL 13 "java/lang/IndexOutOfBoundsException", Cond.methodLink RL 38 yX4_scour, Cond.instanceMethod yX4_scour, Cond.selects RX4 yX4_scour yX4_scour, Cond.initialized RX4, Cond.code yX4_scour cX4_scour 2 (some .int), Cond.fieldLink RX4 33 "CannonStacks" "yard" "LCannonStacks$Yard;", Cond.fieldLink RX4 58 "CannonStacks$Yard" "piles" "[LCannonStacks$Pile;", Cond.methodLink RX4 88 yX4_checkPile, Cond.instanceMethod yX4_checkPile, Cond.selects RX4 yX4_checkPile yX4_checkPile, Cond.code yX4_checkPile cX4_checkPile 2 none, Cond.classLink RX4 170 "java/lang/IndexOutOfBoundsException", Cond.initialized "java/lang/IndexOutOfBoundsException", Cond.fieldLink RX4 47 "CannonStacks$Yard" "pileCount" "I", Cond.methodLink RX4 175 yX4_isOutside, Cond.static yX4_isOutside, Cond.code yX4_isOutside cX4_isOutside 3 (some .boolean), Cond.methodLink RX4 113 yX1_scourBare, Cond.instanceMethod yX1_scourBare, Cond.selects RX1 yX1_scourBare yX1_scourBare, Cond.initialized RX1, Cond.code yX1_scourBare cX1_scourBare 4 (some .int), Cond.fieldLink RX1 23 "CannonStacks$Pile" "balls" "I"]
def wsL_scour_r2 : List Cond := [Cond.fieldLink RX1 15 "CannonStacks$Pile" "rust" "[I", Cond.methodLink RX1 59 Lib.Math.min.name, Cond.static Lib.Math.min.name, Cond.initialized "java/lang/Math", Cond.code Lib.Math.min.name Lib.Math.min.code 2 (some .int), Cond.methodLink RX1 72 yX1_isCovered, Cond.instanceMethod yX1_isCovered, Cond.selects RX1 yX1_isCovered yX1_isCovered, Cond.code yX1_isCovered cX1_isCovered 2 (some .boolean), Cond.fieldLink RX1 9 "CannonStacks$Pile" "pyramid" "LCannonStacks$Pyramid;", Cond.methodLink RX1 37 yX2_firstOn, Cond.instanceMethod yX2_firstOn, Cond.selects RX2 yX2_firstOn yX2_firstOn, Cond.initialized RX2, Cond.code yX2_firstOn cX2_firstOn 2 (some .int), Cond.fieldLink RX2 24 "CannonStacks$Pyramid" "coverers" "[I", Cond.fieldLink RX2 17 "CannonStacks$Pyramid" "capacity" "I"]
def wsL_scour : List Cond := .codeWith yL_scour cL_scour 4 (some .int) [(0, 9, 12, 13)] :: ((wsL_scour_r1 ++ wsL_scour_r2) ++ wsX40 ++ wsX30 ++ wsX10 ++ wsX20 ++ (vx_atS RX4 174 "java/lang/IndexOutOfBoundsException" ["java/lang/RuntimeException", "java/lang/Exception"]).filter goodWord)
def wsL_inspect_r1 : List Cond := [Cond.classLink RL 13 "java/lang/IndexOutOfBoundsException", Cond.methodLink RL 41 yX4_inspect, Cond.instanceMethod yX4_inspect, Cond.selects RX4 yX4_inspect yX4_inspect, Cond.initialized RX4, Cond.code yX4_inspect cX4_inspect 4 (some .int), Cond.fieldLink RX4 33 "CannonStacks" "yard" "LCannonStacks$Yard;", Cond.fieldLink RX4 58 "CannonStacks$Yard" "piles" "[LCannonStacks$Pile;", Cond.fieldLink RX4 85 "CannonStacks$Yard" "limit" "I", Cond.fieldLink RX4 25 "CannonStacks" "thrownAway" "[I", Cond.fieldLink RX4 91 "CannonStacks$Pile" "calibre" "I", Cond.methodLink RX4 88 yX4_checkPile, Cond.instanceMethod yX4_checkPile, Cond.selects RX4 yX4_checkPile yX4_checkPile, Cond.code yX4_checkPile cX4_checkPile 2 none, Cond.classLink RX4 170 "java/lang/IndexOutOfBoundsException", Cond.initialized "java/lang/IndexOutOfBoundsException", Cond.fieldLink RX4 47 "CannonStacks$Yard" "pileCount" "I", Cond.methodLink RX4 175 yX4_isOutside, Cond.static yX4_isOutside, Cond.code yX4_isOutside cX4_isOutside 3 (some .boolean), Cond.methodLink RX4 116 yX1_throwAway, Cond.instanceMethod yX1_throwAway, Cond.selects RX1 yX1_throwAway yX1_throwAway]
def wsL_inspect_r2 : List Cond := [Cond.initialized RX1, Cond.code yX1_throwAway cX1_throwAway 4 (some .int), Cond.fieldLink RX1 23 "CannonStacks$Pile" "balls" "I", Cond.fieldLink RX1 15 "CannonStacks$Pile" "rust" "[I"]
def wsL_inspect : List Cond := .codeWith yL_inspect cL_inspect 4 (some .int) [(0, 9, 12, 13)] :: ((wsL_inspect_r1 ++ wsL_inspect_r2) ++ wsX40 ++ wsX30 ++ wsX10 ++ (vx_atS RX4 174 "java/lang/IndexOutOfBoundsException" ["java/lang/RuntimeException", "java/lang/Exception"]).filter goodWord)
def wsL_shift_r1 : List Cond := [Cond.classLink RL 13 "java/lang/IndexOutOfBoundsException", Cond.classLink RL 15 "java/lang/IllegalArgumentException", Cond.methodLink RL 44 yX4_shift, Cond.instanceMethod yX4_shift, Cond.selects RX4 yX4_shift yX4_shift, Cond.initialized RX4, Cond.code yX4_shift cX4_shift 7 (some .int), Cond.classLink RX4 120 "java/lang/IllegalArgumentException", Cond.initialized "java/lang/IllegalArgumentException", Cond.fieldLink RX4 33 "CannonStacks" "yard" "LCannonStacks$Yard;", Cond.fieldLink RX4 58 "CannonStacks$Yard" "piles" "[LCannonStacks$Pile;", Cond.fieldLink RX4 91 "CannonStacks$Pile" "calibre" "I", Cond.fieldLink RX4 105 "CannonStacks$Pile" "balls" "I", Cond.methodLink RX4 127 Lib.Math.min.name, Cond.static Lib.Math.min.name, Cond.initialized "java/lang/Math", Cond.code Lib.Math.min.name Lib.Math.min.code 2 (some .int), Cond.methodLink RX4 88 yX4_checkPile, Cond.instanceMethod yX4_checkPile, Cond.selects RX4 yX4_checkPile yX4_checkPile, Cond.code yX4_checkPile cX4_checkPile 2 none, Cond.classLink RX4 170 "java/lang/IndexOutOfBoundsException", Cond.initialized "java/lang/IndexOutOfBoundsException", Cond.fieldLink RX4 47 "CannonStacks$Yard" "pileCount" "I"]
def wsL_shift_r2 : List Cond := [Cond.methodLink RX4 175 yX4_isOutside, Cond.static yX4_isOutside, Cond.code yX4_isOutside cX4_isOutside 3 (some .boolean), Cond.methodLink RX4 96 yX1_spare, Cond.instanceMethod yX1_spare, Cond.selects RX1 yX1_spare yX1_spare, Cond.initialized RX1, Cond.code yX1_spare cX1_spare 1 (some .int), Cond.fieldLink RX1 9 "CannonStacks$Pile" "pyramid" "LCannonStacks$Pyramid;", Cond.fieldLink RX1 32 "CannonStacks$Pyramid" "capacity" "I", Cond.fieldLink RX1 23 "CannonStacks$Pile" "balls" "I", Cond.methodLink RX4 110 yX1_takeTop, Cond.instanceMethod yX1_takeTop, Cond.selects RX1 yX1_takeTop yX1_takeTop, Cond.code yX1_takeTop cX1_takeTop 1 (some .int), Cond.fieldLink RX1 15 "CannonStacks$Pile" "rust" "[I", Cond.methodLink RX4 102 yX1_put, Cond.instanceMethod yX1_put, Cond.selects RX1 yX1_put yX1_put, Cond.code yX1_put cX1_put 2 none]
def wsL_shift : List Cond := .codeWith yL_shift cL_shift 5 (some .int) [(0, 10, 13, 13), (0, 10, 17, 15)] :: ((wsL_shift_r1 ++ wsL_shift_r2) ++ wsX40 ++ wsX30 ++ wsX10 ++ wsX20 ++ (vx_atS RX4 124 "java/lang/IllegalArgumentException" ["java/lang/RuntimeException", "java/lang/Exception"]).filter goodWord ++ (vx_atS RX4 174 "java/lang/IndexOutOfBoundsException" ["java/lang/RuntimeException", "java/lang/Exception"]).filter goodWord)
def wsL_chase : List Cond := .codeWith yL_chase cL_chase 4 (some .int) [(0, 9, 12, 13)] :: ([.classLink RL 13 "java/lang/IndexOutOfBoundsException", .methodLink RL 47 yX4_chase, .instanceMethod yX4_chase, .selects RX4 yX4_chase yX4_chase, .initialized RX4, .code yX4_chase cX4_chase 4 (some .int), .fieldLink RX4 33 "CannonStacks" "yard" "LCannonStacks$Yard;", .fieldLink RX4 73 "CannonStacks$Yard" "cats" "[LCannonStacks$Cat;", .fieldLink RX4 139 "CannonStacks$Cat" "on" "I", .methodLink RX4 136 yX4_checkCat, .instanceMethod yX4_checkCat, .selects RX4 yX4_checkCat yX4_checkCat, .code yX4_checkCat cX4_checkCat 2 none, .classLink RX4 170 "java/lang/IndexOutOfBoundsException", .initialized "java/lang/IndexOutOfBoundsException", .fieldLink RX4 68 "CannonStacks$Yard" "catCount" "I", .methodLink RX4 175 yX4_isOutside, .static yX4_isOutside, .code yX4_isOutside cX4_isOutside 3 (some .boolean)] ++ wsX40 ++ wsX30 ++ wsX00 ++ (vx_atS RX4 174 "java/lang/IndexOutOfBoundsException" ["java/lang/RuntimeException", "java/lang/Exception"]).filter goodWord)
def wsL_about_r1 : List Cond := [Cond.classLink RL 13 "java/lang/IndexOutOfBoundsException", Cond.methodLink RL 50 yX4_about, Cond.instanceMethod yX4_about, Cond.selects RX4 yX4_about yX4_about, Cond.initialized RX4, Cond.code yX4_about cX4_about 4 (some .int), Cond.classLink RX4 170 "java/lang/IndexOutOfBoundsException", Cond.initialized "java/lang/IndexOutOfBoundsException", Cond.fieldLink RX4 33 "CannonStacks" "yard" "LCannonStacks$Yard;", Cond.fieldLink RX4 58 "CannonStacks$Yard" "piles" "[LCannonStacks$Pile;", Cond.fieldLink RX4 91 "CannonStacks$Pile" "calibre" "I", Cond.fieldLink RX4 142 "CannonStacks$Pile" "pyramid" "LCannonStacks$Pyramid;", Cond.fieldLink RX4 146 "CannonStacks$Pyramid" "edge" "I", Cond.fieldLink RX4 105 "CannonStacks$Pile" "balls" "I", Cond.fieldLink RX4 149 "CannonStacks$Pyramid" "capacity" "I", Cond.fieldLink RX4 85 "CannonStacks$Yard" "limit" "I", Cond.methodLink RX4 88 yX4_checkPile, Cond.instanceMethod yX4_checkPile, Cond.selects RX4 yX4_checkPile yX4_checkPile, Cond.code yX4_checkPile cX4_checkPile 2 none, Cond.fieldLink RX4 47 "CannonStacks$Yard" "pileCount" "I", Cond.methodLink RX4 175 yX4_isOutside, Cond.static yX4_isOutside, Cond.code yX4_isOutside cX4_isOutside 3 (some .boolean)]
def wsL_about_r2 : List Cond := [Cond.methodLink RX4 152 yX2_layersBegun, Cond.instanceMethod yX2_layersBegun, Cond.selects RX2 yX2_layersBegun yX2_layersBegun, Cond.initialized RX2, Cond.code yX2_layersBegun cX2_layersBegun 3 (some .int), Cond.fieldLink RX2 7 "CannonStacks$Pyramid" "edge" "I", Cond.fieldLink RX2 20 "CannonStacks$Pyramid" "starts" "[I", Cond.methodLink RX4 155 yX2_layersFull, Cond.instanceMethod yX2_layersFull, Cond.selects RX2 yX2_layersFull yX2_layersFull, Cond.code yX2_layersFull cX2_layersFull 3 (some .int), Cond.methodLink RX4 158 yX1_bareBalls, Cond.instanceMethod yX1_bareBalls, Cond.selects RX1 yX1_bareBalls yX1_bareBalls, Cond.initialized RX1, Cond.code yX1_bareBalls cX1_bareBalls 3 (some .int), Cond.fieldLink RX1 23 "CannonStacks$Pile" "balls" "I", Cond.methodLink RX1 72 yX1_isCovered, Cond.instanceMethod yX1_isCovered, Cond.selects RX1 yX1_isCovered yX1_isCovered, Cond.code yX1_isCovered cX1_isCovered 2 (some .boolean), Cond.fieldLink RX1 9 "CannonStacks$Pile" "pyramid" "LCannonStacks$Pyramid;", Cond.methodLink RX1 37 yX2_firstOn, Cond.instanceMethod yX2_firstOn]
def wsL_about_r3 : List Cond := [Cond.selects RX2 yX2_firstOn yX2_firstOn, Cond.code yX2_firstOn cX2_firstOn 2 (some .int), Cond.fieldLink RX2 24 "CannonStacks$Pyramid" "coverers" "[I", Cond.fieldLink RX2 17 "CannonStacks$Pyramid" "capacity" "I", Cond.methodLink RX4 161 yX1_rustyBalls, Cond.instanceMethod yX1_rustyBalls, Cond.selects RX1 yX1_rustyBalls yX1_rustyBalls, Cond.code yX1_rustyBalls cX1_rustyBalls 4 (some .int), Cond.fieldLink RX1 15 "CannonStacks$Pile" "rust" "[I", Cond.methodLink RX4 164 yX1_greatestRust, Cond.instanceMethod yX1_greatestRust, Cond.selects RX1 yX1_greatestRust yX1_greatestRust, Cond.code yX1_greatestRust cX1_greatestRust 3 (some .int), Cond.methodLink RX1 53 Lib.Math.max.name, Cond.static Lib.Math.max.name, Cond.initialized "java/lang/Math", Cond.code Lib.Math.max.name Lib.Math.max.code 2 (some .int), Cond.methodLink RX4 167 yX1_allRust, Cond.instanceMethod yX1_allRust, Cond.selects RX1 yX1_allRust yX1_allRust, Cond.code yX1_allRust cX1_allRust 3 (some .int)]
def wsL_about : List Cond := .codeWith yL_about cL_about 5 (some .int) [(0, 10, 13, 13)] :: ((wsL_about_r1 ++ (wsL_about_r2 ++ wsL_about_r3)) ++ wsX40 ++ wsX30 ++ wsX10 ++ wsX20 ++ (vx_atS RX4 174 "java/lang/IndexOutOfBoundsException" ["java/lang/RuntimeException", "java/lang/Exception"]).filter goodWord)
def wsL_ball_r1 : List Cond := [Cond.classLink RL 13 "java/lang/IndexOutOfBoundsException", Cond.methodLink RL 53 yX4_ball, Cond.instanceMethod yX4_ball, Cond.selects RX4 yX4_ball yX4_ball, Cond.initialized RX4, Cond.code yX4_ball cX4_ball 5 (some .int), Cond.classLink RX4 170 "java/lang/IndexOutOfBoundsException", Cond.initialized "java/lang/IndexOutOfBoundsException", Cond.fieldLink RX4 33 "CannonStacks" "yard" "LCannonStacks$Yard;", Cond.fieldLink RX4 58 "CannonStacks$Yard" "piles" "[LCannonStacks$Pile;", Cond.fieldLink RX4 105 "CannonStacks$Pile" "balls" "I", Cond.fieldLink RX4 142 "CannonStacks$Pile" "pyramid" "LCannonStacks$Pyramid;", Cond.methodLink RX4 88 yX4_checkPile, Cond.instanceMethod yX4_checkPile, Cond.selects RX4 yX4_checkPile yX4_checkPile, Cond.code yX4_checkPile cX4_checkPile 2 none, Cond.fieldLink RX4 47 "CannonStacks$Yard" "pileCount" "I", Cond.methodLink RX4 175 yX4_isOutside, Cond.static yX4_isOutside, Cond.code yX4_isOutside cX4_isOutside 3 (some .boolean), Cond.methodLink RX4 181 yX1_rustOf, Cond.instanceMethod yX1_rustOf, Cond.selects RX1 yX1_rustOf yX1_rustOf, Cond.initialized RX1]
def wsL_ball_r2 : List Cond := [Cond.code yX1_rustOf cX1_rustOf 2 (some .int), Cond.fieldLink RX1 15 "CannonStacks$Pile" "rust" "[I", Cond.methodLink RX4 184 yX2_layerOf, Cond.instanceMethod yX2_layerOf, Cond.selects RX2 yX2_layerOf yX2_layerOf, Cond.initialized RX2, Cond.code yX2_layerOf cX2_layerOf 2 (some .int), Cond.methodLink RX2 36 yX2_layersFull, Cond.instanceMethod yX2_layersFull, Cond.selects RX2 yX2_layersFull yX2_layersFull, Cond.code yX2_layersFull cX2_layersFull 3 (some .int), Cond.fieldLink RX2 7 "CannonStacks$Pyramid" "edge" "I", Cond.fieldLink RX2 20 "CannonStacks$Pyramid" "starts" "[I", Cond.methodLink RX4 187 yX2_rowOf, Cond.instanceMethod yX2_rowOf, Cond.selects RX2 yX2_rowOf yX2_rowOf, Cond.code yX2_rowOf cX2_rowOf 4 (some .int), Cond.methodLink RX2 39 yX2_layerOf, Cond.methodLink RX2 33 yX2_startOf, Cond.instanceMethod yX2_startOf, Cond.selects RX2 yX2_startOf yX2_startOf, Cond.code yX2_startOf cX2_startOf 2 (some .int), Cond.fieldLink RX2 17 "CannonStacks$Pyramid" "capacity" "I", Cond.methodLink RX4 190 yX2_placeOf]
def wsL_ball_r3 : List Cond := [Cond.instanceMethod yX2_placeOf, Cond.selects RX2 yX2_placeOf yX2_placeOf, Cond.code yX2_placeOf cX2_placeOf 4 (some .int), Cond.methodLink RX4 193 yX1_isCovered, Cond.instanceMethod yX1_isCovered, Cond.selects RX1 yX1_isCovered yX1_isCovered, Cond.code yX1_isCovered cX1_isCovered 2 (some .boolean), Cond.fieldLink RX1 9 "CannonStacks$Pile" "pyramid" "LCannonStacks$Pyramid;", Cond.fieldLink RX1 23 "CannonStacks$Pile" "balls" "I", Cond.methodLink RX1 37 yX2_firstOn, Cond.instanceMethod yX2_firstOn, Cond.selects RX2 yX2_firstOn yX2_firstOn, Cond.code yX2_firstOn cX2_firstOn 2 (some .int), Cond.fieldLink RX2 24 "CannonStacks$Pyramid" "coverers" "[I", Cond.methodLink RX4 197 yX1_ballsOn, Cond.instanceMethod yX1_ballsOn, Cond.selects RX1 yX1_ballsOn yX1_ballsOn, Cond.code yX1_ballsOn cX1_ballsOn 9 (some .int), Cond.fieldLink RX1 50 "CannonStacks$Pyramid" "edge" "I", Cond.methodLink RX1 53 Lib.Math.max.name, Cond.static Lib.Math.max.name, Cond.initialized "java/lang/Math", Cond.code Lib.Math.max.name Lib.Math.max.code 2 (some .int), Cond.methodLink RX1 59 Lib.Math.min.name]
def wsL_ball_r4 : List Cond := [Cond.static Lib.Math.min.name, Cond.code Lib.Math.min.name Lib.Math.min.code 2 (some .int), Cond.methodLink RX1 41 yX2_layerOf, Cond.methodLink RX1 44 yX2_rowOf, Cond.methodLink RX1 47 yX2_placeOf, Cond.methodLink RX1 62 yX2_numberOf, Cond.instanceMethod yX2_numberOf, Cond.selects RX2 yX2_numberOf yX2_numberOf, Cond.code yX2_numberOf cX2_numberOf 4 (some .int)]
def wsL_ball : List Cond := .codeWith yL_ball cL_ball 6 (some .int) [(0, 12, 15, 13)] :: ((wsL_ball_r1 ++ (wsL_ball_r2 ++ (wsL_ball_r3 ++ wsL_ball_r4))) ++ wsX40 ++ wsX30 ++ wsX10 ++ wsX20 ++ (vx_atS RX4 174 "java/lang/IndexOutOfBoundsException" ["java/lang/RuntimeException", "java/lang/Exception"]).filter goodWord)
def wsL_at_r1 : List Cond := [Cond.classLink RL 13 "java/lang/IndexOutOfBoundsException", Cond.methodLink RL 57 yX4_at, Cond.instanceMethod yX4_at, Cond.selects RX4 yX4_at yX4_at, Cond.initialized RX4, Cond.code yX4_at cX4_at 8 (some .int), Cond.classLink RX4 170 "java/lang/IndexOutOfBoundsException", Cond.initialized "java/lang/IndexOutOfBoundsException", Cond.fieldLink RX4 33 "CannonStacks" "yard" "LCannonStacks$Yard;", Cond.fieldLink RX4 58 "CannonStacks$Yard" "piles" "[LCannonStacks$Pile;", Cond.fieldLink RX4 142 "CannonStacks$Pile" "pyramid" "LCannonStacks$Pyramid;", Cond.fieldLink RX4 146 "CannonStacks$Pyramid" "edge" "I", Cond.fieldLink RX4 105 "CannonStacks$Pile" "balls" "I", Cond.methodLink RX4 88 yX4_checkPile, Cond.instanceMethod yX4_checkPile, Cond.selects RX4 yX4_checkPile yX4_checkPile, Cond.code yX4_checkPile cX4_checkPile 2 none, Cond.fieldLink RX4 47 "CannonStacks$Yard" "pileCount" "I", Cond.methodLink RX4 175 yX4_isOutside, Cond.static yX4_isOutside, Cond.code yX4_isOutside cX4_isOutside 3 (some .boolean), Cond.methodLink RX4 208 yX2_numberOf, Cond.instanceMethod yX2_numberOf, Cond.selects RX2 yX2_numberOf yX2_numberOf]
def wsL_at_r2 : List Cond := [Cond.initialized RX2, Cond.code yX2_numberOf cX2_numberOf 4 (some .int), Cond.fieldLink RX2 7 "CannonStacks$Pyramid" "edge" "I", Cond.methodLink RX2 33 yX2_startOf, Cond.instanceMethod yX2_startOf, Cond.selects RX2 yX2_startOf yX2_startOf, Cond.code yX2_startOf cX2_startOf 2 (some .int), Cond.fieldLink RX2 20 "CannonStacks$Pyramid" "starts" "[I", Cond.fieldLink RX2 17 "CannonStacks$Pyramid" "capacity" "I"]
def wsL_at : List Cond := .codeWith yL_at cL_at 7 (some .int) [(0, 14, 17, 13)] :: ((wsL_at_r1 ++ wsL_at_r2) ++ wsX40 ++ wsX30 ++ wsX10 ++ wsX20 ++ (vx_atS RX4 174 "java/lang/IndexOutOfBoundsException" ["java/lang/RuntimeException", "java/lang/Exception"]).filter goodWord)
def wsL_told_r1 : List Cond := [Cond.classLink RL 13 "java/lang/IndexOutOfBoundsException", Cond.methodLink RL 61 yX4_told, Cond.instanceMethod yX4_told, Cond.selects RX4 yX4_told yX4_told, Cond.initialized RX4, Cond.code yX4_told cX4_told 3 (some .int), Cond.classLink RX4 170 "java/lang/IndexOutOfBoundsException", Cond.initialized "java/lang/IndexOutOfBoundsException", Cond.fieldLink RX4 18 "CannonStacks" "store" "[I", Cond.fieldLink RX4 33 "CannonStacks" "yard" "LCannonStacks$Yard;", Cond.fieldLink RX4 133 "CannonStacks$Yard" "loose" "[I", Cond.fieldLink RX4 22 "CannonStacks" "fired" "[I", Cond.fieldLink RX4 25 "CannonStacks" "thrownAway" "[I", Cond.methodLink RX4 40 yX4_checkCalibre, Cond.static yX4_checkCalibre, Cond.code yX4_checkCalibre cX4_checkCalibre 1 none, Cond.methodLink RX4 175 yX4_isOutside, Cond.static yX4_isOutside, Cond.code yX4_isOutside cX4_isOutside 3 (some .boolean), Cond.methodLink RX4 212 yX3_ballsOfCalibre, Cond.instanceMethod yX3_ballsOfCalibre, Cond.selects RX3 yX3_ballsOfCalibre yX3_ballsOfCalibre, Cond.initialized RX3, Cond.code yX3_ballsOfCalibre cX3_ballsOfCalibre 4 (some .int)]
def wsL_told_r2 : List Cond := [Cond.fieldLink RX3 35 "CannonStacks$Yard" "pileCount" "I", Cond.fieldLink RX3 11 "CannonStacks$Yard" "piles" "[LCannonStacks$Pile;", Cond.fieldLink RX3 85 "CannonStacks$Pile" "calibre" "I", Cond.fieldLink RX3 91 "CannonStacks$Pile" "balls" "I"]
def wsL_told : List Cond := .codeWith yL_told cL_told 5 (some .int) [(0, 10, 13, 13)] :: ((wsL_told_r1 ++ wsL_told_r2) ++ wsX40 ++ wsX30 ++ wsX10 ++ (vx_atS RX4 174 "java/lang/IndexOutOfBoundsException" ["java/lang/RuntimeException", "java/lang/Exception"]).filter goodWord)
def wsL_mouser : List Cond := .codeWith yL_mouser cL_mouser 5 (some .int) [(0, 10, 13, 13)] :: ([.classLink RL 13 "java/lang/IndexOutOfBoundsException", .methodLink RL 64 yX4_mouser, .instanceMethod yX4_mouser, .selects RX4 yX4_mouser yX4_mouser, .initialized RX4, .code yX4_mouser cX4_mouser 4 (some .int), .classLink RX4 170 "java/lang/IndexOutOfBoundsException", .initialized "java/lang/IndexOutOfBoundsException", .fieldLink RX4 33 "CannonStacks" "yard" "LCannonStacks$Yard;", .fieldLink RX4 73 "CannonStacks$Yard" "cats" "[LCannonStacks$Cat;", .fieldLink RX4 77 "CannonStacks$Cat" "leap" "I", .fieldLink RX4 139 "CannonStacks$Cat" "on" "I", .fieldLink RX4 217 "CannonStacks$Cat" "rolledOff" "I", .methodLink RX4 136 yX4_checkCat, .instanceMethod yX4_checkCat, .selects RX4 yX4_checkCat yX4_checkCat, .code yX4_checkCat cX4_checkCat 2 none, .fieldLink RX4 68 "CannonStacks$Yard" "catCount" "I", .methodLink RX4 175 yX4_isOutside, .static yX4_isOutside, .code yX4_isOutside cX4_isOutside 3 (some .boolean)] ++ wsX40 ++ wsX30 ++ wsX00 ++ (vx_atS RX4 174 "java/lang/IndexOutOfBoundsException" ["java/lang/RuntimeException", "java/lang/Exception"]).filter goodWord)
def wsL_count_r1 : List Cond := [Cond.classLink RL 13 "java/lang/IndexOutOfBoundsException", Cond.methodLink RL 67 yX4_count, Cond.instanceMethod yX4_count, Cond.selects RX4 yX4_count yX4_count, Cond.initialized RX4, Cond.code yX4_count cX4_count 2 (some .int), Cond.classLink RX4 170 "java/lang/IndexOutOfBoundsException", Cond.initialized "java/lang/IndexOutOfBoundsException", Cond.fieldLink RX4 33 "CannonStacks" "yard" "LCannonStacks$Yard;", Cond.fieldLink RX4 222 "CannonStacks$Yard" "day" "I", Cond.fieldLink RX4 47 "CannonStacks$Yard" "pileCount" "I", Cond.fieldLink RX4 68 "CannonStacks$Yard" "catCount" "I", Cond.fieldLink RX4 18 "CannonStacks" "store" "[I", Cond.fieldLink RX4 22 "CannonStacks" "fired" "[I", Cond.fieldLink RX4 25 "CannonStacks" "thrownAway" "[I", Cond.fieldLink RX4 82 "CannonStacks$Yard" "rain" "I", Cond.fieldLink RX4 85 "CannonStacks$Yard" "limit" "I", Cond.methodLink RX4 225 yX4_sum, Cond.static yX4_sum, Cond.code yX4_sum cX4_sum 3 (some .int), Cond.methodLink RX4 229 yX3_ballCount, Cond.instanceMethod yX3_ballCount, Cond.selects RX3 yX3_ballCount yX3_ballCount, Cond.initialized RX3]
def wsL_count_r2 : List Cond := [Cond.code yX3_ballCount cX3_ballCount 4 (some .int), Cond.fieldLink RX3 27 "CannonStacks$Yard" "loose" "[I", Cond.fieldLink RX3 35 "CannonStacks$Yard" "pileCount" "I", Cond.fieldLink RX3 11 "CannonStacks$Yard" "piles" "[LCannonStacks$Pile;", Cond.fieldLink RX3 31 "CannonStacks$Yard" "limit" "I", Cond.fieldLink RX3 91 "CannonStacks$Pile" "balls" "I", Cond.methodLink RX3 98 yX1_rustyBalls, Cond.instanceMethod yX1_rustyBalls, Cond.selects RX1 yX1_rustyBalls yX1_rustyBalls, Cond.initialized RX1, Cond.code yX1_rustyBalls cX1_rustyBalls 4 (some .int), Cond.fieldLink RX1 23 "CannonStacks$Pile" "balls" "I", Cond.fieldLink RX1 15 "CannonStacks$Pile" "rust" "[I"]
def wsL_count : List Cond := .codeWith yL_count cL_count 4 (some .int) [(0, 9, 12, 13)] :: ((wsL_count_r1 ++ wsL_count_r2) ++ wsX40 ++ wsX30 ++ wsX10 ++ (vx_atS RX4 174 "java/lang/IndexOutOfBoundsException" ["java/lang/RuntimeException", "java/lang/Exception"]).filter goodWord)
def wsL_room : List Cond := .codeWith yL_room cL_room 4 (some .int) [(0, 9, 12, 15)] :: ([.classLink RL 15 "java/lang/IllegalArgumentException", .methodLink RL 70 yX4_room, .instanceMethod yX4_room, .selects RX4 yX4_room yX4_room, .initialized RX4, .code yX4_room cX4_room 2 (some .int), .methodLink RX4 43 yX4_checkArgument, .static yX4_checkArgument, .code yX4_checkArgument cX4_checkArgument 3 none, .classLink RX4 120 "java/lang/IllegalArgumentException", .initialized "java/lang/IllegalArgumentException", .methodLink RX4 175 yX4_isOutside, .static yX4_isOutside, .code yX4_isOutside cX4_isOutside 3 (some .boolean), .methodLink RX4 234 yX2_squares, .static yX2_squares, .initialized RX2, .code yX2_squares cX2_squares 1 (some .int)] ++ (vx_atS RX4 124 "java/lang/IllegalArgumentException" ["java/lang/RuntimeException", "java/lang/Exception"]).filter goodWord)
def wsL_side : List Cond := .codeWith yL_side cL_side 4 (some .int) [(0, 9, 12, 15)] :: ([.classLink RL 15 "java/lang/IllegalArgumentException", .methodLink RL 73 yX4_side, .instanceMethod yX4_side, .selects RX4 yX4_side yX4_side, .initialized RX4, .code yX4_side cX4_side 3 (some .int), .methodLink RX4 43 yX4_checkArgument, .static yX4_checkArgument, .code yX4_checkArgument cX4_checkArgument 3 none, .classLink RX4 120 "java/lang/IllegalArgumentException", .initialized "java/lang/IllegalArgumentException", .methodLink RX4 175 yX4_isOutside, .static yX4_isOutside, .code yX4_isOutside cX4_isOutside 3 (some .boolean), .methodLink RX4 234 yX2_squares, .static yX2_squares, .initialized RX2, .code yX2_squares cX2_squares 1 (some .int)] ++ (vx_atS RX4 124 "java/lang/IllegalArgumentException" ["java/lang/RuntimeException", "java/lang/Exception"]).filter goodWord)
def wsL_pass_r1 : List Cond := [Cond.classLink RL 15 "java/lang/IllegalArgumentException", Cond.methodLink RL 76 yX4_pass, Cond.instanceMethod yX4_pass, Cond.selects RX4 yX4_pass yX4_pass, Cond.initialized RX4, Cond.code yX4_pass cX4_pass 2 (some .int), Cond.fieldLink RX4 33 "CannonStacks" "yard" "LCannonStacks$Yard;", Cond.methodLink RX4 43 yX4_checkArgument, Cond.static yX4_checkArgument, Cond.code yX4_checkArgument cX4_checkArgument 3 none, Cond.classLink RX4 120 "java/lang/IllegalArgumentException", Cond.initialized "java/lang/IllegalArgumentException", Cond.methodLink RX4 175 yX4_isOutside, Cond.static yX4_isOutside, Cond.code yX4_isOutside cX4_isOutside 3 (some .boolean), Cond.methodLink RX4 237 yX3_passDays, Cond.instanceMethod yX3_passDays, Cond.selects RX3 yX3_passDays yX3_passDays, Cond.initialized RX3, Cond.code yX3_passDays cX3_passDays 4 (some .int), Cond.methodLink RX3 60 yX3_passOneDay, Cond.instanceMethod yX3_passOneDay, Cond.selects RX3 yX3_passOneDay yX3_passOneDay, Cond.code yX3_passOneDay cX3_passOneDay 3 (some .int)]
def wsL_pass_r2 : List Cond := [Cond.fieldLink RX3 35 "CannonStacks$Yard" "pileCount" "I", Cond.fieldLink RX3 11 "CannonStacks$Yard" "piles" "[LCannonStacks$Pile;", Cond.fieldLink RX3 57 "CannonStacks$Yard" "rain" "I", Cond.fieldLink RX3 42 "CannonStacks$Yard" "catCount" "I", Cond.fieldLink RX3 22 "CannonStacks$Yard" "cats" "[LCannonStacks$Cat;", Cond.fieldLink RX3 54 "CannonStacks$Yard" "day" "I", Cond.methodLink RX3 64 yX1_rustForADay, Cond.instanceMethod yX1_rustForADay, Cond.selects RX1 yX1_rustForADay yX1_rustForADay, Cond.initialized RX1, Cond.code yX1_rustForADay cX1_rustForADay 4 none, Cond.fieldLink RX1 23 "CannonStacks$Pile" "balls" "I", Cond.fieldLink RX1 15 "CannonStacks$Pile" "rust" "[I", Cond.methodLink RX1 59 Lib.Math.min.name, Cond.static Lib.Math.min.name, Cond.initialized "java/lang/Math", Cond.code Lib.Math.min.name Lib.Math.min.code 2 (some .int), Cond.methodLink RX1 72 yX1_isCovered, Cond.instanceMethod yX1_isCovered, Cond.selects RX1 yX1_isCovered yX1_isCovered, Cond.code yX1_isCovered cX1_isCovered 2 (some .boolean), Cond.fieldLink RX1 9 "CannonStacks$Pile" "pyramid" "LCannonStacks$Pyramid;", Cond.methodLink RX1 37 yX2_firstOn, Cond.instanceMethod yX2_firstOn]
def wsL_pass_r3 : List Cond := [Cond.selects RX2 yX2_firstOn yX2_firstOn, Cond.initialized RX2, Cond.code yX2_firstOn cX2_firstOn 2 (some .int), Cond.fieldLink RX2 24 "CannonStacks$Pyramid" "coverers" "[I", Cond.fieldLink RX2 17 "CannonStacks$Pyramid" "capacity" "I", Cond.methodLink RX3 68 yX3_letJump, Cond.instanceMethod yX3_letJump, Cond.selects RX3 yX3_letJump yX3_letJump, Cond.code yX3_letJump cX3_letJump 3 (some .int), Cond.fieldLink RX3 75 "CannonStacks$Cat" "on" "I", Cond.fieldLink RX3 27 "CannonStacks$Yard" "loose" "[I", Cond.fieldLink RX3 85 "CannonStacks$Pile" "calibre" "I", Cond.fieldLink RX3 88 "CannonStacks$Cat" "rolledOff" "I", Cond.methodLink RX3 72 yX0_jump, Cond.instanceMethod yX0_jump, Cond.selects RX0 yX0_jump yX0_jump, Cond.initialized RX0, Cond.code yX0_jump cX0_jump 2 none, Cond.fieldLink RX0 9 "CannonStacks$Cat" "on" "I", Cond.fieldLink RX0 15 "CannonStacks$Cat" "leap" "I", Cond.methodLink RX3 78 yX1_hasBrokenLayer, Cond.instanceMethod yX1_hasBrokenLayer, Cond.selects RX1 yX1_hasBrokenLayer yX1_hasBrokenLayer, Cond.code yX1_hasBrokenLayer cX1_hasBrokenLayer 1 (some .boolean)]
def wsL_pass_r4 : List Cond := [Cond.methodLink RX1 66 yX2_layersBegun, Cond.instanceMethod yX2_layersBegun, Cond.selects RX2 yX2_layersBegun yX2_layersBegun, Cond.code yX2_layersBegun cX2_layersBegun 3 (some .int), Cond.fieldLink RX2 7 "CannonStacks$Pyramid" "edge" "I", Cond.fieldLink RX2 20 "CannonStacks$Pyramid" "starts" "[I", Cond.methodLink RX1 69 yX2_layersFull, Cond.instanceMethod yX2_layersFull, Cond.selects RX2 yX2_layersFull yX2_layersFull, Cond.code yX2_layersFull cX2_layersFull 3 (some .int), Cond.methodLink RX3 82 yX1_takeTop, Cond.instanceMethod yX1_takeTop, Cond.selects RX1 yX1_takeTop yX1_takeTop, Cond.code yX1_takeTop cX1_takeTop 1 (some .int)]
def wsL_pass : List Cond := .codeWith yL_pass cL_pass 4 (some .int) [(0, 9, 12, 15)] :: ((wsL_pass_r1 ++ (wsL_pass_r2 ++ (wsL_pass_r3 ++ wsL_pass_r4))) ++ wsX40 ++ wsX30 ++ wsX10 ++ wsX20 ++ wsX00 ++ (vx_atS RX4 124 "java/lang/IllegalArgumentException" ["java/lang/RuntimeException", "java/lang/Exception"]).filter goodWord)
def wsL_until_r1 : List Cond := [Cond.classLink RL 13 "java/lang/IndexOutOfBoundsException", Cond.methodLink RL 79 yX4_until, Cond.instanceMethod yX4_until, Cond.selects RX4 yX4_until yX4_until, Cond.initialized RX4, Cond.code yX4_until cX4_until 3 (some .int), Cond.fieldLink RX4 37 "CannonStacks" "trial" "LCannonStacks$Yard;", Cond.fieldLink RX4 33 "CannonStacks" "yard" "LCannonStacks$Yard;", Cond.fieldLink RX4 58 "CannonStacks$Yard" "piles" "[LCannonStacks$Pile;", Cond.fieldLink RX4 85 "CannonStacks$Yard" "limit" "I", Cond.methodLink RX4 88 yX4_checkPile, Cond.instanceMethod yX4_checkPile, Cond.selects RX4 yX4_checkPile yX4_checkPile, Cond.code yX4_checkPile cX4_checkPile 2 none, Cond.classLink RX4 170 "java/lang/IndexOutOfBoundsException", Cond.initialized "java/lang/IndexOutOfBoundsException", Cond.fieldLink RX4 47 "CannonStacks$Yard" "pileCount" "I", Cond.methodLink RX4 175 yX4_isOutside, Cond.static yX4_isOutside, Cond.code yX4_isOutside cX4_isOutside 3 (some .boolean), Cond.methodLink RX4 240 yX3_copyFrom, Cond.instanceMethod yX3_copyFrom, Cond.selects RX3 yX3_copyFrom yX3_copyFrom, Cond.initialized RX3]
def wsL_until_r2 : List Cond := [Cond.code yX3_copyFrom cX3_copyFrom 3 none, Cond.fieldLink RX3 35 "CannonStacks$Yard" "pileCount" "I", Cond.fieldLink RX3 11 "CannonStacks$Yard" "piles" "[LCannonStacks$Pile;", Cond.fieldLink RX3 42 "CannonStacks$Yard" "catCount" "I", Cond.fieldLink RX3 22 "CannonStacks$Yard" "cats" "[LCannonStacks$Cat;", Cond.fieldLink RX3 27 "CannonStacks$Yard" "loose" "[I", Cond.methodLink RX3 48 arraycopyName, Cond.native arraycopyName, Cond.static arraycopyName, Cond.initialized "java/lang/System", Cond.fieldLink RX3 54 "CannonStacks$Yard" "day" "I", Cond.fieldLink RX3 57 "CannonStacks$Yard" "rain" "I", Cond.fieldLink RX3 31 "CannonStacks$Yard" "limit" "I", Cond.methodLink RX3 38 yX1_copyFrom, Cond.instanceMethod yX1_copyFrom, Cond.selects RX1 yX1_copyFrom yX1_copyFrom, Cond.initialized RX1, Cond.code yX1_copyFrom cX1_copyFrom 2 none, Cond.fieldLink RX1 19 "CannonStacks$Pile" "calibre" "I", Cond.fieldLink RX1 9 "CannonStacks$Pile" "pyramid" "LCannonStacks$Pyramid;", Cond.fieldLink RX1 23 "CannonStacks$Pile" "balls" "I", Cond.fieldLink RX1 15 "CannonStacks$Pile" "rust" "[I", Cond.methodLink RX1 26 arraycopyName, Cond.methodLink RX3 45 yX0_copyFrom]
def wsL_until_r3 : List Cond := [Cond.instanceMethod yX0_copyFrom, Cond.selects RX0 yX0_copyFrom yX0_copyFrom, Cond.initialized RX0, Cond.code yX0_copyFrom cX0_copyFrom 2 none, Cond.fieldLink RX0 15 "CannonStacks$Cat" "leap" "I", Cond.fieldLink RX0 9 "CannonStacks$Cat" "on" "I", Cond.fieldLink RX0 18 "CannonStacks$Cat" "rolledOff" "I", Cond.methodLink RX4 161 yX1_rustyBalls, Cond.instanceMethod yX1_rustyBalls, Cond.selects RX1 yX1_rustyBalls yX1_rustyBalls, Cond.code yX1_rustyBalls cX1_rustyBalls 4 (some .int), Cond.methodLink RX4 237 yX3_passDays, Cond.instanceMethod yX3_passDays, Cond.selects RX3 yX3_passDays yX3_passDays, Cond.code yX3_passDays cX3_passDays 4 (some .int), Cond.methodLink RX3 60 yX3_passOneDay, Cond.instanceMethod yX3_passOneDay, Cond.selects RX3 yX3_passOneDay yX3_passOneDay, Cond.code yX3_passOneDay cX3_passOneDay 3 (some .int), Cond.methodLink RX3 64 yX1_rustForADay, Cond.instanceMethod yX1_rustForADay, Cond.selects RX1 yX1_rustForADay yX1_rustForADay, Cond.code yX1_rustForADay cX1_rustForADay 4 none, Cond.methodLink RX1 59 Lib.Math.min.name]
def wsL_until_r4 : List Cond := [Cond.static Lib.Math.min.name, Cond.initialized "java/lang/Math", Cond.code Lib.Math.min.name Lib.Math.min.code 2 (some .int), Cond.methodLink RX1 72 yX1_isCovered, Cond.instanceMethod yX1_isCovered, Cond.selects RX1 yX1_isCovered yX1_isCovered, Cond.code yX1_isCovered cX1_isCovered 2 (some .boolean), Cond.methodLink RX1 37 yX2_firstOn, Cond.instanceMethod yX2_firstOn, Cond.selects RX2 yX2_firstOn yX2_firstOn, Cond.initialized RX2, Cond.code yX2_firstOn cX2_firstOn 2 (some .int), Cond.fieldLink RX2 24 "CannonStacks$Pyramid" "coverers" "[I", Cond.fieldLink RX2 17 "CannonStacks$Pyramid" "capacity" "I", Cond.methodLink RX3 68 yX3_letJump, Cond.instanceMethod yX3_letJump, Cond.selects RX3 yX3_letJump yX3_letJump, Cond.code yX3_letJump cX3_letJump 3 (some .int), Cond.fieldLink RX3 75 "CannonStacks$Cat" "on" "I", Cond.fieldLink RX3 85 "CannonStacks$Pile" "calibre" "I", Cond.fieldLink RX3 88 "CannonStacks$Cat" "rolledOff" "I", Cond.methodLink RX3 72 yX0_jump, Cond.instanceMethod yX0_jump, Cond.selects RX0 yX0_jump yX0_jump]
def wsL_until_r5 : List Cond := [Cond.code yX0_jump cX0_jump 2 none, Cond.methodLink RX3 78 yX1_hasBrokenLayer, Cond.instanceMethod yX1_hasBrokenLayer, Cond.selects RX1 yX1_hasBrokenLayer yX1_hasBrokenLayer, Cond.code yX1_hasBrokenLayer cX1_hasBrokenLayer 1 (some .boolean), Cond.methodLink RX1 66 yX2_layersBegun, Cond.instanceMethod yX2_layersBegun, Cond.selects RX2 yX2_layersBegun yX2_layersBegun, Cond.code yX2_layersBegun cX2_layersBegun 3 (some .int), Cond.fieldLink RX2 7 "CannonStacks$Pyramid" "edge" "I", Cond.fieldLink RX2 20 "CannonStacks$Pyramid" "starts" "[I", Cond.methodLink RX1 69 yX2_layersFull, Cond.instanceMethod yX2_layersFull, Cond.selects RX2 yX2_layersFull yX2_layersFull, Cond.code yX2_layersFull cX2_layersFull 3 (some .int), Cond.methodLink RX3 82 yX1_takeTop, Cond.instanceMethod yX1_takeTop, Cond.selects RX1 yX1_takeTop yX1_takeTop, Cond.code yX1_takeTop cX1_takeTop 1 (some .int)]
def wsL_until : List Cond := .codeWith yL_until cL_until 4 (some .int) [(0, 9, 12, 13)] :: ((wsL_until_r1 ++ (wsL_until_r2 ++ (wsL_until_r3 ++ (wsL_until_r4 ++ wsL_until_r5)))) ++ wsX40 ++ wsX30 ++ wsX10 ++ wsX00 ++ wsX20 ++ (vx_atS RX4 174 "java/lang/IndexOutOfBoundsException" ["java/lang/RuntimeException", "java/lang/Exception"]).filter goodWord)
def wsL_foresee_r1 : List Cond := [Cond.classLink RL 15 "java/lang/IllegalArgumentException", Cond.classLink RL 13 "java/lang/IndexOutOfBoundsException", Cond.methodLink RL 82 yX4_foresee, Cond.instanceMethod yX4_foresee, Cond.selects RX4 yX4_foresee yX4_foresee, Cond.initialized RX4, Cond.code yX4_foresee cX4_foresee 3 (some .int), Cond.classLink RX4 170 "java/lang/IndexOutOfBoundsException", Cond.initialized "java/lang/IndexOutOfBoundsException", Cond.fieldLink RX4 37 "CannonStacks" "trial" "LCannonStacks$Yard;", Cond.fieldLink RX4 33 "CannonStacks" "yard" "LCannonStacks$Yard;", Cond.methodLink RX4 43 yX4_checkArgument, Cond.static yX4_checkArgument, Cond.code yX4_checkArgument cX4_checkArgument 3 none, Cond.classLink RX4 120 "java/lang/IllegalArgumentException", Cond.initialized "java/lang/IllegalArgumentException", Cond.methodLink RX4 175 yX4_isOutside, Cond.static yX4_isOutside, Cond.code yX4_isOutside cX4_isOutside 3 (some .boolean), Cond.methodLink RX4 240 yX3_copyFrom, Cond.instanceMethod yX3_copyFrom, Cond.selects RX3 yX3_copyFrom yX3_copyFrom, Cond.initialized RX3, Cond.code yX3_copyFrom cX3_copyFrom 3 none]
def wsL_foresee_r2 : List Cond := [Cond.fieldLink RX3 35 "CannonStacks$Yard" "pileCount" "I", Cond.fieldLink RX3 11 "CannonStacks$Yard" "piles" "[LCannonStacks$Pile;", Cond.fieldLink RX3 42 "CannonStacks$Yard" "catCount" "I", Cond.fieldLink RX3 22 "CannonStacks$Yard" "cats" "[LCannonStacks$Cat;", Cond.fieldLink RX3 27 "CannonStacks$Yard" "loose" "[I", Cond.methodLink RX3 48 arraycopyName, Cond.native arraycopyName, Cond.static arraycopyName, Cond.initialized "java/lang/System", Cond.fieldLink RX3 54 "CannonStacks$Yard" "day" "I", Cond.fieldLink RX3 57 "CannonStacks$Yard" "rain" "I", Cond.fieldLink RX3 31 "CannonStacks$Yard" "limit" "I", Cond.methodLink RX3 38 yX1_copyFrom, Cond.instanceMethod yX1_copyFrom, Cond.selects RX1 yX1_copyFrom yX1_copyFrom, Cond.initialized RX1, Cond.code yX1_copyFrom cX1_copyFrom 2 none, Cond.fieldLink RX1 19 "CannonStacks$Pile" "calibre" "I", Cond.fieldLink RX1 9 "CannonStacks$Pile" "pyramid" "LCannonStacks$Pyramid;", Cond.fieldLink RX1 23 "CannonStacks$Pile" "balls" "I", Cond.fieldLink RX1 15 "CannonStacks$Pile" "rust" "[I", Cond.methodLink RX1 26 arraycopyName, Cond.methodLink RX3 45 yX0_copyFrom, Cond.instanceMethod yX0_copyFrom]
def wsL_foresee_r3 : List Cond := [Cond.selects RX0 yX0_copyFrom yX0_copyFrom, Cond.initialized RX0, Cond.code yX0_copyFrom cX0_copyFrom 2 none, Cond.fieldLink RX0 15 "CannonStacks$Cat" "leap" "I", Cond.fieldLink RX0 9 "CannonStacks$Cat" "on" "I", Cond.fieldLink RX0 18 "CannonStacks$Cat" "rolledOff" "I", Cond.methodLink RX4 237 yX3_passDays, Cond.instanceMethod yX3_passDays, Cond.selects RX3 yX3_passDays yX3_passDays, Cond.code yX3_passDays cX3_passDays 4 (some .int), Cond.methodLink RX3 60 yX3_passOneDay, Cond.instanceMethod yX3_passOneDay, Cond.selects RX3 yX3_passOneDay yX3_passOneDay, Cond.code yX3_passOneDay cX3_passOneDay 3 (some .int), Cond.methodLink RX3 64 yX1_rustForADay, Cond.instanceMethod yX1_rustForADay, Cond.selects RX1 yX1_rustForADay yX1_rustForADay, Cond.code yX1_rustForADay cX1_rustForADay 4 none, Cond.methodLink RX1 59 Lib.Math.min.name, Cond.static Lib.Math.min.name, Cond.initialized "java/lang/Math", Cond.code Lib.Math.min.name Lib.Math.min.code 2 (some .int), Cond.methodLink RX1 72 yX1_isCovered, Cond.instanceMethod yX1_isCovered]
def wsL_foresee_r4 : List Cond := [Cond.selects RX1 yX1_isCovered yX1_isCovered, Cond.code yX1_isCovered cX1_isCovered 2 (some .boolean), Cond.methodLink RX1 37 yX2_firstOn, Cond.instanceMethod yX2_firstOn, Cond.selects RX2 yX2_firstOn yX2_firstOn, Cond.initialized RX2, Cond.code yX2_firstOn cX2_firstOn 2 (some .int), Cond.fieldLink RX2 24 "CannonStacks$Pyramid" "coverers" "[I", Cond.fieldLink RX2 17 "CannonStacks$Pyramid" "capacity" "I", Cond.methodLink RX3 68 yX3_letJump, Cond.instanceMethod yX3_letJump, Cond.selects RX3 yX3_letJump yX3_letJump, Cond.code yX3_letJump cX3_letJump 3 (some .int), Cond.fieldLink RX3 75 "CannonStacks$Cat" "on" "I", Cond.fieldLink RX3 85 "CannonStacks$Pile" "calibre" "I", Cond.fieldLink RX3 88 "CannonStacks$Cat" "rolledOff" "I", Cond.methodLink RX3 72 yX0_jump, Cond.instanceMethod yX0_jump, Cond.selects RX0 yX0_jump yX0_jump, Cond.code yX0_jump cX0_jump 2 none, Cond.methodLink RX3 78 yX1_hasBrokenLayer, Cond.instanceMethod yX1_hasBrokenLayer, Cond.selects RX1 yX1_hasBrokenLayer yX1_hasBrokenLayer, Cond.code yX1_hasBrokenLayer cX1_hasBrokenLayer 1 (some .boolean)]
def wsL_foresee_r5 : List Cond := [Cond.methodLink RX1 66 yX2_layersBegun, Cond.instanceMethod yX2_layersBegun, Cond.selects RX2 yX2_layersBegun yX2_layersBegun, Cond.code yX2_layersBegun cX2_layersBegun 3 (some .int), Cond.fieldLink RX2 7 "CannonStacks$Pyramid" "edge" "I", Cond.fieldLink RX2 20 "CannonStacks$Pyramid" "starts" "[I", Cond.methodLink RX1 69 yX2_layersFull, Cond.instanceMethod yX2_layersFull, Cond.selects RX2 yX2_layersFull yX2_layersFull, Cond.code yX2_layersFull cX2_layersFull 3 (some .int), Cond.methodLink RX3 82 yX1_takeTop, Cond.instanceMethod yX1_takeTop, Cond.selects RX1 yX1_takeTop yX1_takeTop, Cond.code yX1_takeTop cX1_takeTop 1 (some .int), Cond.methodLink RX4 229 yX3_ballCount, Cond.instanceMethod yX3_ballCount, Cond.selects RX3 yX3_ballCount yX3_ballCount, Cond.code yX3_ballCount cX3_ballCount 4 (some .int), Cond.fieldLink RX3 91 "CannonStacks$Pile" "balls" "I", Cond.static yX4_sum, Cond.code yX4_sum cX4_sum 3 (some .int), Cond.methodLink RX3 98 yX1_rustyBalls, Cond.instanceMethod yX1_rustyBalls, Cond.selects RX1 yX1_rustyBalls yX1_rustyBalls]
def wsL_foresee_r6 : List Cond := [Cond.code yX1_rustyBalls cX1_rustyBalls 4 (some .int)]
def wsL_foresee : List Cond := .codeWith yL_foresee cL_foresee 5 (some .int) [(0, 10, 13, 15), (0, 10, 17, 13)] :: ((wsL_foresee_r1 ++ (wsL_foresee_r2 ++ (wsL_foresee_r3 ++ (wsL_foresee_r4 ++ (wsL_foresee_r5 ++ wsL_foresee_r6))))) ++ wsX40 ++ wsX30 ++ wsX10 ++ wsX00 ++ wsX20 ++ (vx_atS RX4 174 "java/lang/IndexOutOfBoundsException" ["java/lang/RuntimeException", "java/lang/Exception"]).filter goodWord ++ (vx_atS RX4 124 "java/lang/IllegalArgumentException" ["java/lang/RuntimeException", "java/lang/Exception"]).filter goodWord)
def wsL_would_r1 : List Cond := [Cond.classLink RL 13 "java/lang/IndexOutOfBoundsException", Cond.methodLink RL 85 yX4_would, Cond.instanceMethod yX4_would, Cond.selects RX4 yX4_would yX4_would, Cond.initialized RX4, Cond.code yX4_would cX4_would 3 (some .int), Cond.fieldLink RX4 33 "CannonStacks" "yard" "LCannonStacks$Yard;", Cond.fieldLink RX4 58 "CannonStacks$Yard" "piles" "[LCannonStacks$Pile;", Cond.fieldLink RX4 142 "CannonStacks$Pile" "pyramid" "LCannonStacks$Pyramid;", Cond.fieldLink RX4 105 "CannonStacks$Pile" "balls" "I", Cond.fieldLink RX4 85 "CannonStacks$Yard" "limit" "I", Cond.methodLink RX4 88 yX4_checkPile, Cond.instanceMethod yX4_checkPile, Cond.selects RX4 yX4_checkPile yX4_checkPile, Cond.code yX4_checkPile cX4_checkPile 2 none, Cond.classLink RX4 170 "java/lang/IndexOutOfBoundsException", Cond.initialized "java/lang/IndexOutOfBoundsException", Cond.fieldLink RX4 47 "CannonStacks$Yard" "pileCount" "I", Cond.methodLink RX4 175 yX4_isOutside, Cond.static yX4_isOutside, Cond.code yX4_isOutside cX4_isOutside 3 (some .boolean), Cond.methodLink RX4 161 yX1_rustyBalls, Cond.instanceMethod yX1_rustyBalls, Cond.selects RX1 yX1_rustyBalls yX1_rustyBalls]
def wsL_would_r2 : List Cond := [Cond.initialized RX1, Cond.code yX1_rustyBalls cX1_rustyBalls 4 (some .int), Cond.fieldLink RX1 23 "CannonStacks$Pile" "balls" "I", Cond.fieldLink RX1 15 "CannonStacks$Pile" "rust" "[I", Cond.methodLink RX4 152 yX2_layersBegun, Cond.instanceMethod yX2_layersBegun, Cond.selects RX2 yX2_layersBegun yX2_layersBegun, Cond.initialized RX2, Cond.code yX2_layersBegun cX2_layersBegun 3 (some .int), Cond.fieldLink RX2 7 "CannonStacks$Pyramid" "edge" "I", Cond.fieldLink RX2 20 "CannonStacks$Pyramid" "starts" "[I"]
def wsL_would : List Cond := .codeWith yL_would cL_would 4 (some .int) [(0, 9, 12, 13)] :: ((wsL_would_r1 ++ wsL_would_r2) ++ wsX40 ++ wsX30 ++ wsX10 ++ wsX20 ++ (vx_atS RX4 174 "java/lang/IndexOutOfBoundsException" ["java/lang/RuntimeException", "java/lang/Exception"]).filter goodWord)
abbrev vwCl : List vw_C := [(RX0, TX0, 3), (RX1, TX1, 4), (RX2, TX2, 4), (RX3, TX3, 8), (RX4, TX4, 6), (RX5, TX5, 19)]
end
section
theorem dX0_init_0 : decode cX0_init 0 = .ok (.aload_n 0, 1) := by decide +kernel
theorem dX0_init_1 : decode cX0_init 1 = .ok (.invokespecial 3, 3) := by decide +kernel
theorem dX0_init_4 : decode cX0_init 4 = .ok (.aload_n 0, 1) := by decide +kernel
theorem dX0_init_5 : decode cX0_init 5 = .ok (.iconst (-1), 1) := by decide +kernel
theorem dX0_init_6 : decode cX0_init 6 = .ok (.putfield 9, 3) := by decide +kernel
theorem dX0_init_9 : decode cX0_init 9 = .ok (.return_, 1) := by decide +kernel
theorem dX0_copyFrom_0 : decode cX0_copyFrom 0 = .ok (.aload_n 0, 1) := by decide +kernel
theorem dX0_copyFrom_1 : decode cX0_copyFrom 1 = .ok (.aload_n 1, 1) := by decide +kernel
theorem dX0_copyFrom_2 : decode cX0_copyFrom 2 = .ok (.getfield 15, 3) := by decide +kernel
theorem dX0_copyFrom_5 : decode cX0_copyFrom 5 = .ok (.putfield 15, 3) := by decide +kernel
theorem dX0_copyFrom_8 : decode cX0_copyFrom 8 = .ok (.aload_n 0, 1) := by decide +kernel
theorem dX0_copyFrom_9 : decode cX0_copyFrom 9 = .ok (.aload_n 1, 1) := by decide +kernel
theorem dX0_copyFrom_10 : decode cX0_copyFrom 10 = .ok (.getfield 9, 3) := by decide +kernel
theorem dX0_copyFrom_13 : decode cX0_copyFrom 13 = .ok (.putfield 9, 3) := by decide +kernel
theorem dX0_copyFrom_16 : decode cX0_copyFrom 16 = .ok (.aload_n 0, 1) := by decide +kernel
theorem dX0_copyFrom_17 : decode cX0_copyFrom 17 = .ok (.aload_n 1, 1) := by decide +kernel
theorem dX0_copyFrom_18 : decode cX0_copyFrom 18 = .ok (.getfield 18, 3) := by decide +kernel
theorem dX0_copyFrom_21 : decode cX0_copyFrom 21 = .ok (.putfield 18, 3) := by decide +kernel
theorem dX0_copyFrom_24 : decode cX0_copyFrom 24 = .ok (.return_, 1) := by decide +kernel
theorem dX0_jump_0 : decode cX0_jump 0 = .ok (.aload_n 0, 1) := by decide +kernel
theorem dX0_jump_1 : decode cX0_jump 1 = .ok (.getfield 9, 3) := by decide +kernel
theorem dX0_jump_4 : decode cX0_jump 4 = .ok (.iconst (-1), 1) := by decide +kernel
theorem dX0_jump_5 : decode cX0_jump 5 = .ok (.if_icmp .eq 8, 3) := by decide +kernel
theorem dX0_jump_8 : decode cX0_jump 8 = .ok (.iload_n 1, 1) := by decide +kernel
theorem dX0_jump_9 : decode cX0_jump 9 = .ok (.iconst 1, 1) := by decide +kernel
theorem dX0_jump_10 : decode cX0_jump 10 = .ok (.if_icmp .ge 11, 3) := by decide +kernel
theorem dX0_jump_13 : decode cX0_jump 13 = .ok (.aload_n 0, 1) := by decide +kernel
theorem dX0_jump_14 : decode cX0_jump 14 = .ok (.iconst 0, 1) := by decide +kernel
theorem dX0_jump_15 : decode cX0_jump 15 = .ok (.putfield 9, 3) := by decide +kernel
theorem dX0_jump_18 : decode cX0_jump 18 = .ok (.goto 18, 3) := by decide +kernel
theorem dX0_jump_21 : decode cX0_jump 21 = .ok (.aload_n 0, 1) := by decide +kernel
theorem dX0_jump_22 : decode cX0_jump 22 = .ok (.aload_n 0, 1) := by decide +kernel
theorem dX0_jump_23 : decode cX0_jump 23 = .ok (.getfield 9, 3) := by decide +kernel
theorem dX0_jump_26 : decode cX0_jump 26 = .ok (.aload_n 0, 1) := by decide +kernel
theorem dX0_jump_27 : decode cX0_jump 27 = .ok (.getfield 15, 3) := by decide +kernel
theorem dX0_jump_30 : decode cX0_jump 30 = .ok (.iadd, 1) := by decide +kernel
theorem dX0_jump_31 : decode cX0_jump 31 = .ok (.iload_n 1, 1) := by decide +kernel
theorem dX0_jump_32 : decode cX0_jump 32 = .ok (.irem, 1) := by decide +kernel
theorem dX0_jump_33 : decode cX0_jump 33 = .ok (.putfield 9, 3) := by decide +kernel
theorem dX0_jump_36 : decode cX0_jump 36 = .ok (.return_, 1) := by decide +kernel
theorem dX1_init_0 : decode cX1_init 0 = .ok (.aload_n 0, 1) := by decide +kernel
theorem dX1_init_1 : decode cX1_init 1 = .ok (.invokespecial 3, 3) := by decide +kernel
theorem dX1_init_4 : decode cX1_init 4 = .ok (.aload_n 0, 1) := by decide +kernel
theorem dX1_init_5 : decode cX1_init 5 = .ok (.aload_n 1, 1) := by decide +kernel
theorem dX1_init_6 : decode cX1_init 6 = .ok (.putfield 9, 3) := by decide +kernel
theorem dX1_init_9 : decode cX1_init 9 = .ok (.aload_n 0, 1) := by decide +kernel
theorem dX1_init_10 : decode cX1_init 10 = .ok (.bipush 91, 2) := by decide +kernel
theorem dX1_init_12 : decode cX1_init 12 = .ok (.newarray .int, 2) := by decide +kernel
theorem dX1_init_14 : decode cX1_init 14 = .ok (.putfield 15, 3) := by decide +kernel
theorem dX1_init_17 : decode cX1_init 17 = .ok (.return_, 1) := by decide +kernel
theorem dX1_begin_0 : decode cX1_begin 0 = .ok (.aload_n 0, 1) := by decide +kernel
theorem dX1_begin_1 : decode cX1_begin 1 = .ok (.iload_n 1, 1) := by decide +kernel
theorem dX1_begin_2 : decode cX1_begin 2 = .ok (.putfield 19, 3) := by decide +kernel
theorem dX1_begin_5 : decode cX1_begin 5 = .ok (.aload_n 0, 1) := by decide +kernel
theorem dX1_begin_6 : decode cX1_begin 6 = .ok (.aload_n 2, 1) := by decide +kernel
theorem dX1_begin_7 : decode cX1_begin 7 = .ok (.putfield 9, 3) := by decide +kernel
theorem dX1_begin_10 : decode cX1_begin 10 = .ok (.aload_n 0, 1) := by decide +kernel
theorem dX1_begin_11 : decode cX1_begin 11 = .ok (.iconst 0, 1) := by decide +kernel
theorem dX1_begin_12 : decode cX1_begin 12 = .ok (.putfield 23, 3) := by decide +kernel
theorem dX1_begin_15 : decode cX1_begin 15 = .ok (.return_, 1) := by decide +kernel
theorem dX1_copyFrom_0 : decode cX1_copyFrom 0 = .ok (.aload_n 0, 1) := by decide +kernel
theorem dX1_copyFrom_1 : decode cX1_copyFrom 1 = .ok (.aload_n 1, 1) := by decide +kernel
theorem dX1_copyFrom_2 : decode cX1_copyFrom 2 = .ok (.getfield 19, 3) := by decide +kernel
theorem dX1_copyFrom_5 : decode cX1_copyFrom 5 = .ok (.putfield 19, 3) := by decide +kernel
theorem dX1_copyFrom_8 : decode cX1_copyFrom 8 = .ok (.aload_n 0, 1) := by decide +kernel
theorem dX1_copyFrom_9 : decode cX1_copyFrom 9 = .ok (.aload_n 1, 1) := by decide +kernel
theorem dX1_copyFrom_10 : decode cX1_copyFrom 10 = .ok (.getfield 9, 3) := by decide +kernel
theorem dX1_copyFrom_13 : decode cX1_copyFrom 13 = .ok (.putfield 9, 3) := by decide +kernel
theorem dX1_copyFrom_16 : decode cX1_copyFrom 16 = .ok (.aload_n 0, 1) := by decide +kernel
theorem dX1_copyFrom_17 : decode cX1_copyFrom 17 = .ok (.aload_n 1, 1) := by decide +kernel
theorem dX1_copyFrom_18 : decode cX1_copyFrom 18 = .ok (.getfield 23, 3) := by decide +kernel
theorem dX1_copyFrom_21 : decode cX1_copyFrom 21 = .ok (.putfield 23, 3) := by decide +kernel
theorem dX1_copyFrom_24 : decode cX1_copyFrom 24 = .ok (.aload_n 1, 1) := by decide +kernel
theorem dX1_copyFrom_25 : decode cX1_copyFrom 25 = .ok (.getfield 15, 3) := by decide +kernel
theorem dX1_copyFrom_28 : decode cX1_copyFrom 28 = .ok (.iconst 0, 1) := by decide +kernel
theorem dX1_copyFrom_29 : decode cX1_copyFrom 29 = .ok (.aload_n 0, 1) := by decide +kernel
theorem dX1_copyFrom_30 : decode cX1_copyFrom 30 = .ok (.getfield 15, 3) := by decide +kernel
theorem dX1_copyFrom_33 : decode cX1_copyFrom 33 = .ok (.iconst 0, 1) := by decide +kernel
theorem dX1_copyFrom_34 : decode cX1_copyFrom 34 = .ok (.bipush 91, 2) := by decide +kernel
theorem dX1_copyFrom_36 : decode cX1_copyFrom 36 = .ok (.invokestatic 26, 3) := by decide +kernel
theorem dX1_copyFrom_39 : decode cX1_copyFrom 39 = .ok (.return_, 1) := by decide +kernel
theorem dX1_spare_0 : decode cX1_spare 0 = .ok (.aload_n 0, 1) := by decide +kernel
theorem dX1_spare_1 : decode cX1_spare 1 = .ok (.getfield 9, 3) := by decide +kernel
theorem dX1_spare_4 : decode cX1_spare 4 = .ok (.getfield 32, 3) := by decide +kernel
theorem dX1_spare_7 : decode cX1_spare 7 = .ok (.aload_n 0, 1) := by decide +kernel
theorem dX1_spare_8 : decode cX1_spare 8 = .ok (.getfield 23, 3) := by decide +kernel
theorem dX1_spare_11 : decode cX1_spare 11 = .ok (.isub, 1) := by decide +kernel
theorem dX1_spare_12 : decode cX1_spare 12 = .ok (.ireturn, 1) := by decide +kernel
theorem dX1_put_0 : decode cX1_put 0 = .ok (.aload_n 0, 1) := by decide +kernel
theorem dX1_put_1 : decode cX1_put 1 = .ok (.getfield 23, 3) := by decide +kernel
theorem dX1_put_4 : decode cX1_put 4 = .ok (.ifCond .lt 35, 3) := by decide +kernel
theorem dX1_put_7 : decode cX1_put 7 = .ok (.aload_n 0, 1) := by decide +kernel
theorem dX1_put_8 : decode cX1_put 8 = .ok (.getfield 23, 3) := by decide +kernel
theorem dX1_put_11 : decode cX1_put 11 = .ok (.aload_n 0, 1) := by decide +kernel
theorem dX1_put_12 : decode cX1_put 12 = .ok (.getfield 15, 3) := by decide +kernel
theorem dX1_put_15 : decode cX1_put 15 = .ok (.arraylength, 1) := by decide +kernel
theorem dX1_put_16 : decode cX1_put 16 = .ok (.if_icmp .ge 23, 3) := by decide +kernel
theorem dX1_put_19 : decode cX1_put 19 = .ok (.aload_n 0, 1) := by decide +kernel
theorem dX1_put_20 : decode cX1_put 20 = .ok (.getfield 15, 3) := by decide +kernel
theorem dX1_put_23 : decode cX1_put 23 = .ok (.aload_n 0, 1) := by decide +kernel
theorem dX1_put_24 : decode cX1_put 24 = .ok (.getfield 23, 3) := by decide +kernel
theorem dX1_put_27 : decode cX1_put 27 = .ok (.iload_n 1, 1) := by decide +kernel
theorem dX1_put_28 : decode cX1_put 28 = .ok (.iastore, 1) := by decide +kernel
theorem dX1_put_29 : decode cX1_put 29 = .ok (.aload_n 0, 1) := by decide +kernel
theorem dX1_put_30 : decode cX1_put 30 = .ok (.dup, 1) := by decide +kernel
theorem dX1_put_31 : decode cX1_put 31 = .ok (.getfield 23, 3) := by decide +kernel
theorem dX1_put_34 : decode cX1_put 34 = .ok (.iconst 1, 1) := by decide +kernel
theorem dX1_put_35 : decode cX1_put 35 = .ok (.iadd, 1) := by decide +kernel
theorem dX1_put_36 : decode cX1_put 36 = .ok (.putfield 23, 3) := by decide +kernel
theorem dX1_put_39 : decode cX1_put 39 = .ok (.return_, 1) := by decide +kernel
theorem dX1_takeTop_0 : decode cX1_takeTop 0 = .ok (.aload_n 0, 1) := by decide +kernel
theorem dX1_takeTop_1 : decode cX1_takeTop 1 = .ok (.getfield 23, 3) := by decide +kernel
theorem dX1_takeTop_4 : decode cX1_takeTop 4 = .ok (.iconst 1, 1) := by decide +kernel
theorem dX1_takeTop_5 : decode cX1_takeTop 5 = .ok (.if_icmp .lt 15, 3) := by decide +kernel
theorem dX1_takeTop_8 : decode cX1_takeTop 8 = .ok (.aload_n 0, 1) := by decide +kernel
theorem dX1_takeTop_9 : decode cX1_takeTop 9 = .ok (.getfield 23, 3) := by decide +kernel
theorem dX1_takeTop_12 : decode cX1_takeTop 12 = .ok (.aload_n 0, 1) := by decide +kernel
theorem dX1_takeTop_13 : decode cX1_takeTop 13 = .ok (.getfield 15, 3) := by decide +kernel
theorem dX1_takeTop_16 : decode cX1_takeTop 16 = .ok (.arraylength, 1) := by decide +kernel
theorem dX1_takeTop_17 : decode cX1_takeTop 17 = .ok (.if_icmp .le 5, 3) := by decide +kernel
theorem dX1_takeTop_20 : decode cX1_takeTop 20 = .ok (.iconst 0, 1) := by decide +kernel
theorem dX1_takeTop_21 : decode cX1_takeTop 21 = .ok (.ireturn, 1) := by decide +kernel
theorem dX1_takeTop_22 : decode cX1_takeTop 22 = .ok (.aload_n 0, 1) := by decide +kernel
theorem dX1_takeTop_23 : decode cX1_takeTop 23 = .ok (.dup, 1) := by decide +kernel
theorem dX1_takeTop_24 : decode cX1_takeTop 24 = .ok (.getfield 23, 3) := by decide +kernel
theorem dX1_takeTop_27 : decode cX1_takeTop 27 = .ok (.iconst 1, 1) := by decide +kernel
theorem dX1_takeTop_28 : decode cX1_takeTop 28 = .ok (.isub, 1) := by decide +kernel
theorem dX1_takeTop_29 : decode cX1_takeTop 29 = .ok (.putfield 23, 3) := by decide +kernel
theorem dX1_takeTop_32 : decode cX1_takeTop 32 = .ok (.aload_n 0, 1) := by decide +kernel
theorem dX1_takeTop_33 : decode cX1_takeTop 33 = .ok (.getfield 15, 3) := by decide +kernel
theorem dX1_takeTop_36 : decode cX1_takeTop 36 = .ok (.aload_n 0, 1) := by decide +kernel
theorem dX1_takeTop_37 : decode cX1_takeTop 37 = .ok (.getfield 23, 3) := by decide +kernel
theorem dX1_takeTop_40 : decode cX1_takeTop 40 = .ok (.iaload, 1) := by decide +kernel
theorem dX1_takeTop_41 : decode cX1_takeTop 41 = .ok (.ireturn, 1) := by decide +kernel
theorem dX1_rustOf_0 : decode cX1_rustOf 0 = .ok (.iload_n 1, 1) := by decide +kernel
theorem dX1_rustOf_1 : decode cX1_rustOf 1 = .ok (.ifCond .lt 21, 3) := by decide +kernel
theorem dX1_rustOf_4 : decode cX1_rustOf 4 = .ok (.iload_n 1, 1) := by decide +kernel
theorem dX1_rustOf_5 : decode cX1_rustOf 5 = .ok (.aload_n 0, 1) := by decide +kernel
theorem dX1_rustOf_6 : decode cX1_rustOf 6 = .ok (.getfield 15, 3) := by decide +kernel
theorem dX1_rustOf_9 : decode cX1_rustOf 9 = .ok (.arraylength, 1) := by decide +kernel
theorem dX1_rustOf_10 : decode cX1_rustOf 10 = .ok (.if_icmp .ge 12, 3) := by decide +kernel
theorem dX1_rustOf_13 : decode cX1_rustOf 13 = .ok (.aload_n 0, 1) := by decide +kernel
theorem dX1_rustOf_14 : decode cX1_rustOf 14 = .ok (.getfield 15, 3) := by decide +kernel
theorem dX1_rustOf_17 : decode cX1_rustOf 17 = .ok (.iload_n 1, 1) := by decide +kernel
theorem dX1_rustOf_18 : decode cX1_rustOf 18 = .ok (.iaload, 1) := by decide +kernel
theorem dX1_rustOf_19 : decode cX1_rustOf 19 = .ok (.goto 4, 3) := by decide +kernel
theorem dX1_rustOf_22 : decode cX1_rustOf 22 = .ok (.iconst 0, 1) := by decide +kernel
theorem dX1_rustOf_23 : decode cX1_rustOf 23 = .ok (.ireturn, 1) := by decide +kernel
set_option maxRecDepth 20000 in
theorem ggX1_isCovered_X2_firstOn : GoodIn wsX1_isCovered wsX2_firstOn := goodIn_r _ [7, 8, 9, 14, 15, 16, 17] (by decide +kernel) (by decide +kernel)
set_option maxRecDepth 20000 in
theorem gX1_isCovered_X2_firstOn : GoodIn wsX1_isCovered (wsV RX1 37 RX2 yX2_firstOn wsX2_firstOn) := goodIn_app (goodIn_of _ (by decide +kernel)) ggX1_isCovered_X2_firstOn
theorem dX1_isCovered_0 : decode cX1_isCovered 0 = .ok (.aload_n 0, 1) := by decide +kernel
theorem dX1_isCovered_1 : decode cX1_isCovered 1 = .ok (.getfield 9, 3) := by decide +kernel
theorem dX1_isCovered_4 : decode cX1_isCovered 4 = .ok (.iload_n 1, 1) := by decide +kernel
theorem dX1_isCovered_5 : decode cX1_isCovered 5 = .ok (.invokevirtual 37, 3) := by decide +kernel
theorem dX1_isCovered_8 : decode cX1_isCovered 8 = .ok (.aload_n 0, 1) := by decide +kernel
theorem dX1_isCovered_9 : decode cX1_isCovered 9 = .ok (.getfield 23, 3) := by decide +kernel
theorem dX1_isCovered_12 : decode cX1_isCovered 12 = .ok (.if_icmp .ge 7, 3) := by decide +kernel
theorem dX1_isCovered_15 : decode cX1_isCovered 15 = .ok (.iconst 1, 1) := by decide +kernel
theorem dX1_isCovered_16 : decode cX1_isCovered 16 = .ok (.goto 4, 3) := by decide +kernel
theorem dX1_isCovered_19 : decode cX1_isCovered 19 = .ok (.iconst 0, 1) := by decide +kernel
theorem dX1_isCovered_20 : decode cX1_isCovered 20 = .ok (.ireturn, 1) := by decide +kernel
set_option maxRecDepth 20000 in
theorem ggX1_ballsOn_X2_layerOf : GoodIn wsX1_ballsOn wsX2_layerOf := goodIn_r _ [15, 16, 17, 18, 14, 19, 20, 21, 44, 45, 46, 47] (by decide +kernel) (by decide +kernel)
set_option maxRecDepth 20000 in
theorem gX1_ballsOn_X2_layerOf : GoodIn wsX1_ballsOn (wsV RX1 41 RX2 yX2_layerOf wsX2_layerOf) := goodIn_app (goodIn_of _ (by decide +kernel)) ggX1_ballsOn_X2_layerOf
set_option maxRecDepth 20000 in
theorem ggX1_ballsOn_X2_rowOf : GoodIn wsX1_ballsOn wsX2_rowOf := goodIn_r _ [25, 20, 26, 12, 13, 14, 15, 16, 17, 18, 19, 21, 27, 28, 29, 30, 31, 44, 45, 46, 47] (by decide +kernel) (by decide +kernel)
set_option maxRecDepth 20000 in
theorem gX1_ballsOn_X2_rowOf : GoodIn wsX1_ballsOn (wsV RX1 44 RX2 yX2_rowOf wsX2_rowOf) := goodIn_app (goodIn_of _ (by decide +kernel)) ggX1_ballsOn_X2_rowOf
set_option maxRecDepth 20000 in
theorem ggX1_ballsOn_X2_placeOf : GoodIn wsX1_ballsOn wsX2_placeOf := goodIn_r _ [35, 20, 26, 12, 13, 14, 15, 16, 17, 18, 19, 21, 27, 28, 29, 30, 31, 44, 45, 46, 47] (by decide +kernel) (by decide +kernel)
set_option maxRecDepth 20000 in
theorem gX1_ballsOn_X2_placeOf : GoodIn wsX1_ballsOn (wsV RX1 47 RX2 yX2_placeOf wsX2_placeOf) := goodIn_app (goodIn_of _ (by decide +kernel)) ggX1_ballsOn_X2_placeOf
set_option maxRecDepth 20000 in
theorem ggX1_ballsOn_X2_numberOf : GoodIn wsX1_ballsOn wsX2_numberOf := goodIn_r _ [39, 20, 27, 28, 29, 14, 30, 21, 31, 44, 45, 46, 47] (by decide +kernel) (by decide +kernel)
set_option maxRecDepth 20000 in
theorem gX1_ballsOn_X2_numberOf : GoodIn wsX1_ballsOn (wsV RX1 62 RX2 yX2_numberOf wsX2_numberOf) := goodIn_app (goodIn_of _ (by decide +kernel)) ggX1_ballsOn_X2_numberOf
theorem dX1_ballsOn_0 : decode cX1_ballsOn 0 = .ok (.aload_n 0, 1) := by decide +kernel
theorem dX1_ballsOn_1 : decode cX1_ballsOn 1 = .ok (.getfield 9, 3) := by decide +kernel
theorem dX1_ballsOn_4 : decode cX1_ballsOn 4 = .ok (.iload_n 1, 1) := by decide +kernel
theorem dX1_ballsOn_5 : decode cX1_ballsOn 5 = .ok (.invokevirtual 41, 3) := by decide +kernel
theorem dX1_ballsOn_8 : decode cX1_ballsOn 8 = .ok (.iconst 1, 1) := by decide +kernel
theorem dX1_ballsOn_9 : decode cX1_ballsOn 9 = .ok (.iadd, 1) := by decide +kernel
theorem dX1_ballsOn_10 : decode cX1_ballsOn 10 = .ok (.istore_n 2, 1) := by decide +kernel
theorem dX1_ballsOn_11 : decode cX1_ballsOn 11 = .ok (.aload_n 0, 1) := by decide +kernel
theorem dX1_ballsOn_12 : decode cX1_ballsOn 12 = .ok (.getfield 9, 3) := by decide +kernel
theorem dX1_ballsOn_15 : decode cX1_ballsOn 15 = .ok (.iload_n 1, 1) := by decide +kernel
theorem dX1_ballsOn_16 : decode cX1_ballsOn 16 = .ok (.invokevirtual 44, 3) := by decide +kernel
theorem dX1_ballsOn_19 : decode cX1_ballsOn 19 = .ok (.istore_n 3, 1) := by decide +kernel
theorem dX1_ballsOn_20 : decode cX1_ballsOn 20 = .ok (.aload_n 0, 1) := by decide +kernel
theorem dX1_ballsOn_21 : decode cX1_ballsOn 21 = .ok (.getfield 9, 3) := by decide +kernel
theorem dX1_ballsOn_24 : decode cX1_ballsOn 24 = .ok (.iload_n 1, 1) := by decide +kernel
theorem dX1_ballsOn_25 : decode cX1_ballsOn 25 = .ok (.invokevirtual 47, 3) := by decide +kernel
theorem dX1_ballsOn_28 : decode cX1_ballsOn 28 = .ok (.istore 4, 2) := by decide +kernel
theorem dX1_ballsOn_30 : decode cX1_ballsOn 30 = .ok (.aload_n 0, 1) := by decide +kernel
theorem dX1_ballsOn_31 : decode cX1_ballsOn 31 = .ok (.getfield 9, 3) := by decide +kernel
theorem dX1_ballsOn_34 : decode cX1_ballsOn 34 = .ok (.getfield 50, 3) := by decide +kernel
theorem dX1_ballsOn_37 : decode cX1_ballsOn 37 = .ok (.iload_n 2, 1) := by decide +kernel
theorem dX1_ballsOn_38 : decode cX1_ballsOn 38 = .ok (.isub, 1) := by decide +kernel
theorem dX1_ballsOn_39 : decode cX1_ballsOn 39 = .ok (.iconst 1, 1) := by decide +kernel
theorem dX1_ballsOn_40 : decode cX1_ballsOn 40 = .ok (.isub, 1) := by decide +kernel
theorem dX1_ballsOn_41 : decode cX1_ballsOn 41 = .ok (.istore 5, 2) := by decide +kernel
theorem dX1_ballsOn_43 : decode cX1_ballsOn 43 = .ok (.iconst 0, 1) := by decide +kernel
theorem dX1_ballsOn_44 : decode cX1_ballsOn 44 = .ok (.istore 6, 2) := by decide +kernel
theorem dX1_ballsOn_46 : decode cX1_ballsOn 46 = .ok (.iload_n 3, 1) := by decide +kernel
theorem dX1_ballsOn_47 : decode cX1_ballsOn 47 = .ok (.iconst 1, 1) := by decide +kernel
theorem dX1_ballsOn_48 : decode cX1_ballsOn 48 = .ok (.isub, 1) := by decide +kernel
theorem dX1_ballsOn_49 : decode cX1_ballsOn 49 = .ok (.iconst 0, 1) := by decide +kernel
theorem dX1_ballsOn_50 : decode cX1_ballsOn 50 = .ok (.invokestatic 53, 3) := by decide +kernel
theorem dX1_ballsOn_53 : decode cX1_ballsOn 53 = .ok (.istore 7, 2) := by decide +kernel
theorem dX1_ballsOn_55 : decode cX1_ballsOn 55 = .ok (.iload 7, 2) := by decide +kernel
theorem dX1_ballsOn_57 : decode cX1_ballsOn 57 = .ok (.iload_n 3, 1) := by decide +kernel
theorem dX1_ballsOn_58 : decode cX1_ballsOn 58 = .ok (.iload 5, 2) := by decide +kernel
theorem dX1_ballsOn_60 : decode cX1_ballsOn 60 = .ok (.invokestatic 59, 3) := by decide +kernel
theorem dX1_ballsOn_63 : decode cX1_ballsOn 63 = .ok (.if_icmp .gt 59, 3) := by decide +kernel
theorem dX1_ballsOn_66 : decode cX1_ballsOn 66 = .ok (.iload 4, 2) := by decide +kernel
theorem dX1_ballsOn_68 : decode cX1_ballsOn 68 = .ok (.iconst 1, 1) := by decide +kernel
theorem dX1_ballsOn_69 : decode cX1_ballsOn 69 = .ok (.isub, 1) := by decide +kernel
theorem dX1_ballsOn_70 : decode cX1_ballsOn 70 = .ok (.iconst 0, 1) := by decide +kernel
theorem dX1_ballsOn_71 : decode cX1_ballsOn 71 = .ok (.invokestatic 53, 3) := by decide +kernel
theorem dX1_ballsOn_74 : decode cX1_ballsOn 74 = .ok (.istore 8, 2) := by decide +kernel
theorem dX1_ballsOn_76 : decode cX1_ballsOn 76 = .ok (.iload 8, 2) := by decide +kernel
theorem dX1_ballsOn_78 : decode cX1_ballsOn 78 = .ok (.iload 4, 2) := by decide +kernel
theorem dX1_ballsOn_80 : decode cX1_ballsOn 80 = .ok (.iload 5, 2) := by decide +kernel
theorem dX1_ballsOn_82 : decode cX1_ballsOn 82 = .ok (.invokestatic 59, 3) := by decide +kernel
theorem dX1_ballsOn_85 : decode cX1_ballsOn 85 = .ok (.if_icmp .gt 31, 3) := by decide +kernel
theorem dX1_ballsOn_88 : decode cX1_ballsOn 88 = .ok (.aload_n 0, 1) := by decide +kernel
theorem dX1_ballsOn_89 : decode cX1_ballsOn 89 = .ok (.getfield 9, 3) := by decide +kernel
theorem dX1_ballsOn_92 : decode cX1_ballsOn 92 = .ok (.iload_n 2, 1) := by decide +kernel
theorem dX1_ballsOn_93 : decode cX1_ballsOn 93 = .ok (.iload 7, 2) := by decide +kernel
theorem dX1_ballsOn_95 : decode cX1_ballsOn 95 = .ok (.iload 8, 2) := by decide +kernel
theorem dX1_ballsOn_97 : decode cX1_ballsOn 97 = .ok (.invokevirtual 62, 3) := by decide +kernel
theorem dX1_ballsOn_100 : decode cX1_ballsOn 100 = .ok (.aload_n 0, 1) := by decide +kernel
theorem dX1_ballsOn_101 : decode cX1_ballsOn 101 = .ok (.getfield 23, 3) := by decide +kernel
theorem dX1_ballsOn_104 : decode cX1_ballsOn 104 = .ok (.if_icmp .ge 6, 3) := by decide +kernel
theorem dX1_ballsOn_107 : decode cX1_ballsOn 107 = .ok (.iinc 6 1, 3) := by decide +kernel
theorem dX1_ballsOn_110 : decode cX1_ballsOn 110 = .ok (.iinc 8 1, 3) := by decide +kernel
theorem dX1_ballsOn_113 : decode cX1_ballsOn 113 = .ok (.goto (-37), 3) := by decide +kernel
theorem dX1_ballsOn_116 : decode cX1_ballsOn 116 = .ok (.iinc 7 1, 3) := by decide +kernel
theorem dX1_ballsOn_119 : decode cX1_ballsOn 119 = .ok (.goto (-64), 3) := by decide +kernel
theorem dX1_ballsOn_122 : decode cX1_ballsOn 122 = .ok (.iload 6, 2) := by decide +kernel
theorem dX1_ballsOn_124 : decode cX1_ballsOn 124 = .ok (.ireturn, 1) := by decide +kernel
set_option maxRecDepth 20000 in
theorem ggX1_hasBrokenLayer_X2_layersBegun : GoodIn wsX1_hasBrokenLayer wsX2_layersBegun := goodIn_r _ [7, 8, 9, 18, 19, 20, 21] (by decide +kernel) (by decide +kernel)
set_option maxRecDepth 20000 in
theorem gX1_hasBrokenLayer_X2_layersBegun : GoodIn wsX1_hasBrokenLayer (wsV RX1 66 RX2 yX2_layersBegun wsX2_layersBegun) := goodIn_app (goodIn_of _ (by decide +kernel)) ggX1_hasBrokenLayer_X2_layersBegun
set_option maxRecDepth 20000 in
theorem ggX1_hasBrokenLayer_X2_layersFull : GoodIn wsX1_hasBrokenLayer wsX2_layersFull := goodIn_r _ [13, 8, 9, 18, 19, 20, 21] (by decide +kernel) (by decide +kernel)
set_option maxRecDepth 20000 in
theorem gX1_hasBrokenLayer_X2_layersFull : GoodIn wsX1_hasBrokenLayer (wsV RX1 69 RX2 yX2_layersFull wsX2_layersFull) := goodIn_app (goodIn_of _ (by decide +kernel)) ggX1_hasBrokenLayer_X2_layersFull
theorem dX1_hasBrokenLayer_0 : decode cX1_hasBrokenLayer 0 = .ok (.aload_n 0, 1) := by decide +kernel
theorem dX1_hasBrokenLayer_1 : decode cX1_hasBrokenLayer 1 = .ok (.getfield 9, 3) := by decide +kernel
theorem dX1_hasBrokenLayer_4 : decode cX1_hasBrokenLayer 4 = .ok (.aload_n 0, 1) := by decide +kernel
theorem dX1_hasBrokenLayer_5 : decode cX1_hasBrokenLayer 5 = .ok (.getfield 23, 3) := by decide +kernel
theorem dX1_hasBrokenLayer_8 : decode cX1_hasBrokenLayer 8 = .ok (.invokevirtual 66, 3) := by decide +kernel
theorem dX1_hasBrokenLayer_11 : decode cX1_hasBrokenLayer 11 = .ok (.aload_n 0, 1) := by decide +kernel
theorem dX1_hasBrokenLayer_12 : decode cX1_hasBrokenLayer 12 = .ok (.getfield 9, 3) := by decide +kernel
theorem dX1_hasBrokenLayer_15 : decode cX1_hasBrokenLayer 15 = .ok (.aload_n 0, 1) := by decide +kernel
theorem dX1_hasBrokenLayer_16 : decode cX1_hasBrokenLayer 16 = .ok (.getfield 23, 3) := by decide +kernel
theorem dX1_hasBrokenLayer_19 : decode cX1_hasBrokenLayer 19 = .ok (.invokevirtual 69, 3) := by decide +kernel
theorem dX1_hasBrokenLayer_22 : decode cX1_hasBrokenLayer 22 = .ok (.if_icmp .eq 7, 3) := by decide +kernel
theorem dX1_hasBrokenLayer_25 : decode cX1_hasBrokenLayer 25 = .ok (.iconst 1, 1) := by decide +kernel
theorem dX1_hasBrokenLayer_26 : decode cX1_hasBrokenLayer 26 = .ok (.goto 4, 3) := by decide +kernel
theorem dX1_hasBrokenLayer_29 : decode cX1_hasBrokenLayer 29 = .ok (.iconst 0, 1) := by decide +kernel
theorem dX1_hasBrokenLayer_30 : decode cX1_hasBrokenLayer 30 = .ok (.ireturn, 1) := by decide +kernel
set_option maxRecDepth 20000 in
theorem ggX1_bareBalls_X1_isCovered : GoodIn wsX1_bareBalls wsX1_isCovered := goodIn_r _ [6, 7, 1, 8, 9, 10, 11, 12, 13, 14, 15, 16, 17, 18, 19, 20, 21, 22] (by decide +kernel) (by decide +kernel)
set_option maxRecDepth 20000 in
theorem gX1_bareBalls_X1_isCovered : GoodIn wsX1_bareBalls (wsV RX1 72 RX1 yX1_isCovered wsX1_isCovered) := goodIn_app (goodIn_of _ (by decide +kernel)) ggX1_bareBalls_X1_isCovered
theorem dX1_bareBalls_0 : decode cX1_bareBalls 0 = .ok (.iconst 0, 1) := by decide +kernel
theorem dX1_bareBalls_1 : decode cX1_bareBalls 1 = .ok (.istore_n 1, 1) := by decide +kernel
theorem dX1_bareBalls_2 : decode cX1_bareBalls 2 = .ok (.iconst 0, 1) := by decide +kernel
theorem dX1_bareBalls_3 : decode cX1_bareBalls 3 = .ok (.istore_n 2, 1) := by decide +kernel
theorem dX1_bareBalls_4 : decode cX1_bareBalls 4 = .ok (.iload_n 2, 1) := by decide +kernel
theorem dX1_bareBalls_5 : decode cX1_bareBalls 5 = .ok (.aload_n 0, 1) := by decide +kernel
theorem dX1_bareBalls_6 : decode cX1_bareBalls 6 = .ok (.getfield 23, 3) := by decide +kernel
theorem dX1_bareBalls_9 : decode cX1_bareBalls 9 = .ok (.if_icmp .ge 20, 3) := by decide +kernel
theorem dX1_bareBalls_12 : decode cX1_bareBalls 12 = .ok (.aload_n 0, 1) := by decide +kernel
theorem dX1_bareBalls_13 : decode cX1_bareBalls 13 = .ok (.iload_n 2, 1) := by decide +kernel
theorem dX1_bareBalls_14 : decode cX1_bareBalls 14 = .ok (.invokevirtual 72, 3) := by decide +kernel
theorem dX1_bareBalls_17 : decode cX1_bareBalls 17 = .ok (.ifCond .ne 6, 3) := by decide +kernel
theorem dX1_bareBalls_20 : decode cX1_bareBalls 20 = .ok (.iinc 1 1, 3) := by decide +kernel
theorem dX1_bareBalls_23 : decode cX1_bareBalls 23 = .ok (.iinc 2 1, 3) := by decide +kernel
theorem dX1_bareBalls_26 : decode cX1_bareBalls 26 = .ok (.goto (-22), 3) := by decide +kernel
theorem dX1_bareBalls_29 : decode cX1_bareBalls 29 = .ok (.iload_n 1, 1) := by decide +kernel
theorem dX1_bareBalls_30 : decode cX1_bareBalls 30 = .ok (.ireturn, 1) := by decide +kernel
theorem dX1_rustyBalls_0 : decode cX1_rustyBalls 0 = .ok (.iconst 0, 1) := by decide +kernel
theorem dX1_rustyBalls_1 : decode cX1_rustyBalls 1 = .ok (.istore_n 2, 1) := by decide +kernel
theorem dX1_rustyBalls_2 : decode cX1_rustyBalls 2 = .ok (.iconst 0, 1) := by decide +kernel
theorem dX1_rustyBalls_3 : decode cX1_rustyBalls 3 = .ok (.istore_n 3, 1) := by decide +kernel
theorem dX1_rustyBalls_4 : decode cX1_rustyBalls 4 = .ok (.iload_n 3, 1) := by decide +kernel
theorem dX1_rustyBalls_5 : decode cX1_rustyBalls 5 = .ok (.aload_n 0, 1) := by decide +kernel
theorem dX1_rustyBalls_6 : decode cX1_rustyBalls 6 = .ok (.getfield 23, 3) := by decide +kernel
theorem dX1_rustyBalls_9 : decode cX1_rustyBalls 9 = .ok (.if_icmp .ge 22, 3) := by decide +kernel
theorem dX1_rustyBalls_12 : decode cX1_rustyBalls 12 = .ok (.aload_n 0, 1) := by decide +kernel
theorem dX1_rustyBalls_13 : decode cX1_rustyBalls 13 = .ok (.getfield 15, 3) := by decide +kernel
theorem dX1_rustyBalls_16 : decode cX1_rustyBalls 16 = .ok (.iload_n 3, 1) := by decide +kernel
theorem dX1_rustyBalls_17 : decode cX1_rustyBalls 17 = .ok (.iaload, 1) := by decide +kernel
theorem dX1_rustyBalls_18 : decode cX1_rustyBalls 18 = .ok (.iload_n 1, 1) := by decide +kernel
theorem dX1_rustyBalls_19 : decode cX1_rustyBalls 19 = .ok (.if_icmp .lt 6, 3) := by decide +kernel
theorem dX1_rustyBalls_22 : decode cX1_rustyBalls 22 = .ok (.iinc 2 1, 3) := by decide +kernel
theorem dX1_rustyBalls_25 : decode cX1_rustyBalls 25 = .ok (.iinc 3 1, 3) := by decide +kernel
theorem dX1_rustyBalls_28 : decode cX1_rustyBalls 28 = .ok (.goto (-24), 3) := by decide +kernel
theorem dX1_rustyBalls_31 : decode cX1_rustyBalls 31 = .ok (.iload_n 2, 1) := by decide +kernel
theorem dX1_rustyBalls_32 : decode cX1_rustyBalls 32 = .ok (.ireturn, 1) := by decide +kernel
theorem dX1_greatestRust_0 : decode cX1_greatestRust 0 = .ok (.iconst 0, 1) := by decide +kernel
theorem dX1_greatestRust_1 : decode cX1_greatestRust 1 = .ok (.istore_n 1, 1) := by decide +kernel
theorem dX1_greatestRust_2 : decode cX1_greatestRust 2 = .ok (.iconst 0, 1) := by decide +kernel
theorem dX1_greatestRust_3 : decode cX1_greatestRust 3 = .ok (.istore_n 2, 1) := by decide +kernel
theorem dX1_greatestRust_4 : decode cX1_greatestRust 4 = .ok (.iload_n 2, 1) := by decide +kernel
theorem dX1_greatestRust_5 : decode cX1_greatestRust 5 = .ok (.aload_n 0, 1) := by decide +kernel
theorem dX1_greatestRust_6 : decode cX1_greatestRust 6 = .ok (.getfield 23, 3) := by decide +kernel
theorem dX1_greatestRust_9 : decode cX1_greatestRust 9 = .ok (.if_icmp .ge 20, 3) := by decide +kernel
theorem dX1_greatestRust_12 : decode cX1_greatestRust 12 = .ok (.iload_n 1, 1) := by decide +kernel
theorem dX1_greatestRust_13 : decode cX1_greatestRust 13 = .ok (.aload_n 0, 1) := by decide +kernel
theorem dX1_greatestRust_14 : decode cX1_greatestRust 14 = .ok (.getfield 15, 3) := by decide +kernel
theorem dX1_greatestRust_17 : decode cX1_greatestRust 17 = .ok (.iload_n 2, 1) := by decide +kernel
theorem dX1_greatestRust_18 : decode cX1_greatestRust 18 = .ok (.iaload, 1) := by decide +kernel
theorem dX1_greatestRust_19 : decode cX1_greatestRust 19 = .ok (.invokestatic 53, 3) := by decide +kernel
theorem dX1_greatestRust_22 : decode cX1_greatestRust 22 = .ok (.istore_n 1, 1) := by decide +kernel
theorem dX1_greatestRust_23 : decode cX1_greatestRust 23 = .ok (.iinc 2 1, 3) := by decide +kernel
theorem dX1_greatestRust_26 : decode cX1_greatestRust 26 = .ok (.goto (-22), 3) := by decide +kernel
theorem dX1_greatestRust_29 : decode cX1_greatestRust 29 = .ok (.iload_n 1, 1) := by decide +kernel
theorem dX1_greatestRust_30 : decode cX1_greatestRust 30 = .ok (.ireturn, 1) := by decide +kernel
theorem dX1_allRust_0 : decode cX1_allRust 0 = .ok (.iconst 0, 1) := by decide +kernel
theorem dX1_allRust_1 : decode cX1_allRust 1 = .ok (.istore_n 1, 1) := by decide +kernel
theorem dX1_allRust_2 : decode cX1_allRust 2 = .ok (.iconst 0, 1) := by decide +kernel
theorem dX1_allRust_3 : decode cX1_allRust 3 = .ok (.istore_n 2, 1) := by decide +kernel
theorem dX1_allRust_4 : decode cX1_allRust 4 = .ok (.iload_n 2, 1) := by decide +kernel
theorem dX1_allRust_5 : decode cX1_allRust 5 = .ok (.aload_n 0, 1) := by decide +kernel
theorem dX1_allRust_6 : decode cX1_allRust 6 = .ok (.getfield 23, 3) := by decide +kernel
theorem dX1_allRust_9 : decode cX1_allRust 9 = .ok (.if_icmp .ge 18, 3) := by decide +kernel
theorem dX1_allRust_12 : decode cX1_allRust 12 = .ok (.iload_n 1, 1) := by decide +kernel
theorem dX1_allRust_13 : decode cX1_allRust 13 = .ok (.aload_n 0, 1) := by decide +kernel
theorem dX1_allRust_14 : decode cX1_allRust 14 = .ok (.getfield 15, 3) := by decide +kernel
theorem dX1_allRust_17 : decode cX1_allRust 17 = .ok (.iload_n 2, 1) := by decide +kernel
theorem dX1_allRust_18 : decode cX1_allRust 18 = .ok (.iaload, 1) := by decide +kernel
theorem dX1_allRust_19 : decode cX1_allRust 19 = .ok (.iadd, 1) := by decide +kernel
theorem dX1_allRust_20 : decode cX1_allRust 20 = .ok (.istore_n 1, 1) := by decide +kernel
theorem dX1_allRust_21 : decode cX1_allRust 21 = .ok (.iinc 2 1, 3) := by decide +kernel
theorem dX1_allRust_24 : decode cX1_allRust 24 = .ok (.goto (-20), 3) := by decide +kernel
theorem dX1_allRust_27 : decode cX1_allRust 27 = .ok (.iload_n 1, 1) := by decide +kernel
theorem dX1_allRust_28 : decode cX1_allRust 28 = .ok (.ireturn, 1) := by decide +kernel
set_option maxRecDepth 20000 in
theorem ggX1_scourBare_X1_isCovered : GoodIn wsX1_scourBare wsX1_isCovered := goodIn_r _ [11, 12, 1, 13, 14, 15, 16, 17, 18, 19, 20, 21, 22, 23, 24, 25, 26, 27] (by decide +kernel) (by decide +kernel)
set_option maxRecDepth 20000 in
theorem gX1_scourBare_X1_isCovered : GoodIn wsX1_scourBare (wsV RX1 72 RX1 yX1_isCovered wsX1_isCovered) := goodIn_app (goodIn_of _ (by decide +kernel)) ggX1_scourBare_X1_isCovered
theorem dX1_scourBare_0 : decode cX1_scourBare 0 = .ok (.iconst 0, 1) := by decide +kernel
theorem dX1_scourBare_1 : decode cX1_scourBare 1 = .ok (.istore_n 1, 1) := by decide +kernel
theorem dX1_scourBare_2 : decode cX1_scourBare 2 = .ok (.iconst 0, 1) := by decide +kernel
theorem dX1_scourBare_3 : decode cX1_scourBare 3 = .ok (.istore_n 2, 1) := by decide +kernel
theorem dX1_scourBare_4 : decode cX1_scourBare 4 = .ok (.iload_n 2, 1) := by decide +kernel
theorem dX1_scourBare_5 : decode cX1_scourBare 5 = .ok (.aload_n 0, 1) := by decide +kernel
theorem dX1_scourBare_6 : decode cX1_scourBare 6 = .ok (.getfield 23, 3) := by decide +kernel
theorem dX1_scourBare_9 : decode cX1_scourBare 9 = .ok (.if_icmp .ge 42, 3) := by decide +kernel
theorem dX1_scourBare_12 : decode cX1_scourBare 12 = .ok (.aload_n 0, 1) := by decide +kernel
theorem dX1_scourBare_13 : decode cX1_scourBare 13 = .ok (.iload_n 2, 1) := by decide +kernel
theorem dX1_scourBare_14 : decode cX1_scourBare 14 = .ok (.invokevirtual 72, 3) := by decide +kernel
theorem dX1_scourBare_17 : decode cX1_scourBare 17 = .ok (.ifCond .ne 28, 3) := by decide +kernel
theorem dX1_scourBare_20 : decode cX1_scourBare 20 = .ok (.aload_n 0, 1) := by decide +kernel
theorem dX1_scourBare_21 : decode cX1_scourBare 21 = .ok (.getfield 15, 3) := by decide +kernel
theorem dX1_scourBare_24 : decode cX1_scourBare 24 = .ok (.iload_n 2, 1) := by decide +kernel
theorem dX1_scourBare_25 : decode cX1_scourBare 25 = .ok (.iaload, 1) := by decide +kernel
theorem dX1_scourBare_26 : decode cX1_scourBare 26 = .ok (.iconst 3, 1) := by decide +kernel
theorem dX1_scourBare_27 : decode cX1_scourBare 27 = .ok (.invokestatic 59, 3) := by decide +kernel
theorem dX1_scourBare_30 : decode cX1_scourBare 30 = .ok (.istore_n 3, 1) := by decide +kernel
theorem dX1_scourBare_31 : decode cX1_scourBare 31 = .ok (.aload_n 0, 1) := by decide +kernel
theorem dX1_scourBare_32 : decode cX1_scourBare 32 = .ok (.getfield 15, 3) := by decide +kernel
theorem dX1_scourBare_35 : decode cX1_scourBare 35 = .ok (.iload_n 2, 1) := by decide +kernel
theorem dX1_scourBare_36 : decode cX1_scourBare 36 = .ok (.dup2, 1) := by decide +kernel
theorem dX1_scourBare_37 : decode cX1_scourBare 37 = .ok (.iaload, 1) := by decide +kernel
theorem dX1_scourBare_38 : decode cX1_scourBare 38 = .ok (.iload_n 3, 1) := by decide +kernel
theorem dX1_scourBare_39 : decode cX1_scourBare 39 = .ok (.isub, 1) := by decide +kernel
theorem dX1_scourBare_40 : decode cX1_scourBare 40 = .ok (.iastore, 1) := by decide +kernel
theorem dX1_scourBare_41 : decode cX1_scourBare 41 = .ok (.iload_n 1, 1) := by decide +kernel
theorem dX1_scourBare_42 : decode cX1_scourBare 42 = .ok (.iload_n 3, 1) := by decide +kernel
theorem dX1_scourBare_43 : decode cX1_scourBare 43 = .ok (.iadd, 1) := by decide +kernel
theorem dX1_scourBare_44 : decode cX1_scourBare 44 = .ok (.istore_n 1, 1) := by decide +kernel
theorem dX1_scourBare_45 : decode cX1_scourBare 45 = .ok (.iinc 2 1, 3) := by decide +kernel
theorem dX1_scourBare_48 : decode cX1_scourBare 48 = .ok (.goto (-44), 3) := by decide +kernel
theorem dX1_scourBare_51 : decode cX1_scourBare 51 = .ok (.iload_n 1, 1) := by decide +kernel
theorem dX1_scourBare_52 : decode cX1_scourBare 52 = .ok (.ireturn, 1) := by decide +kernel
theorem dX1_throwAway_0 : decode cX1_throwAway 0 = .ok (.iconst 0, 1) := by decide +kernel
theorem dX1_throwAway_1 : decode cX1_throwAway 1 = .ok (.istore_n 2, 1) := by decide +kernel
theorem dX1_throwAway_2 : decode cX1_throwAway 2 = .ok (.iconst 0, 1) := by decide +kernel
theorem dX1_throwAway_3 : decode cX1_throwAway 3 = .ok (.istore_n 3, 1) := by decide +kernel
theorem dX1_throwAway_4 : decode cX1_throwAway 4 = .ok (.iload_n 3, 1) := by decide +kernel
theorem dX1_throwAway_5 : decode cX1_throwAway 5 = .ok (.aload_n 0, 1) := by decide +kernel
theorem dX1_throwAway_6 : decode cX1_throwAway 6 = .ok (.getfield 23, 3) := by decide +kernel
theorem dX1_throwAway_9 : decode cX1_throwAway 9 = .ok (.if_icmp .ge 34, 3) := by decide +kernel
theorem dX1_throwAway_12 : decode cX1_throwAway 12 = .ok (.aload_n 0, 1) := by decide +kernel
theorem dX1_throwAway_13 : decode cX1_throwAway 13 = .ok (.getfield 15, 3) := by decide +kernel
theorem dX1_throwAway_16 : decode cX1_throwAway 16 = .ok (.iload_n 3, 1) := by decide +kernel
theorem dX1_throwAway_17 : decode cX1_throwAway 17 = .ok (.iaload, 1) := by decide +kernel
theorem dX1_throwAway_18 : decode cX1_throwAway 18 = .ok (.iload_n 1, 1) := by decide +kernel
theorem dX1_throwAway_19 : decode cX1_throwAway 19 = .ok (.if_icmp .ge 18, 3) := by decide +kernel
theorem dX1_throwAway_22 : decode cX1_throwAway 22 = .ok (.aload_n 0, 1) := by decide +kernel
theorem dX1_throwAway_23 : decode cX1_throwAway 23 = .ok (.getfield 15, 3) := by decide +kernel
theorem dX1_throwAway_26 : decode cX1_throwAway 26 = .ok (.iload_n 2, 1) := by decide +kernel
theorem dX1_throwAway_27 : decode cX1_throwAway 27 = .ok (.aload_n 0, 1) := by decide +kernel
theorem dX1_throwAway_28 : decode cX1_throwAway 28 = .ok (.getfield 15, 3) := by decide +kernel
theorem dX1_throwAway_31 : decode cX1_throwAway 31 = .ok (.iload_n 3, 1) := by decide +kernel
theorem dX1_throwAway_32 : decode cX1_throwAway 32 = .ok (.iaload, 1) := by decide +kernel
theorem dX1_throwAway_33 : decode cX1_throwAway 33 = .ok (.iastore, 1) := by decide +kernel
theorem dX1_throwAway_34 : decode cX1_throwAway 34 = .ok (.iinc 2 1, 3) := by decide +kernel
theorem dX1_throwAway_37 : decode cX1_throwAway 37 = .ok (.iinc 3 1, 3) := by decide +kernel
theorem dX1_throwAway_40 : decode cX1_throwAway 40 = .ok (.goto (-36), 3) := by decide +kernel
theorem dX1_throwAway_43 : decode cX1_throwAway 43 = .ok (.aload_n 0, 1) := by decide +kernel
theorem dX1_throwAway_44 : decode cX1_throwAway 44 = .ok (.getfield 23, 3) := by decide +kernel
theorem dX1_throwAway_47 : decode cX1_throwAway 47 = .ok (.iload_n 2, 1) := by decide +kernel
theorem dX1_throwAway_48 : decode cX1_throwAway 48 = .ok (.isub, 1) := by decide +kernel
theorem dX1_throwAway_49 : decode cX1_throwAway 49 = .ok (.istore_n 3, 1) := by decide +kernel
theorem dX1_throwAway_50 : decode cX1_throwAway 50 = .ok (.aload_n 0, 1) := by decide +kernel
theorem dX1_throwAway_51 : decode cX1_throwAway 51 = .ok (.iload_n 2, 1) := by decide +kernel
theorem dX1_throwAway_52 : decode cX1_throwAway 52 = .ok (.putfield 23, 3) := by decide +kernel
theorem dX1_throwAway_55 : decode cX1_throwAway 55 = .ok (.iload_n 3, 1) := by decide +kernel
theorem dX1_throwAway_56 : decode cX1_throwAway 56 = .ok (.ireturn, 1) := by decide +kernel
set_option maxRecDepth 20000 in
theorem ggX1_rustForADay_X1_isCovered : GoodIn wsX1_rustForADay wsX1_isCovered := goodIn_r _ [11, 12, 1, 13, 14, 15, 16, 17, 18, 19, 20, 21, 22, 23, 24, 25, 26, 27] (by decide +kernel) (by decide +kernel)
set_option maxRecDepth 20000 in
theorem gX1_rustForADay_X1_isCovered : GoodIn wsX1_rustForADay (wsV RX1 72 RX1 yX1_isCovered wsX1_isCovered) := goodIn_app (goodIn_of _ (by decide +kernel)) ggX1_rustForADay_X1_isCovered
theorem dX1_rustForADay_0 : decode cX1_rustForADay 0 = .ok (.iconst 0, 1) := by decide +kernel
theorem dX1_rustForADay_1 : decode cX1_rustForADay 1 = .ok (.istore_n 2, 1) := by decide +kernel
theorem dX1_rustForADay_2 : decode cX1_rustForADay 2 = .ok (.iload_n 2, 1) := by decide +kernel
theorem dX1_rustForADay_3 : decode cX1_rustForADay 3 = .ok (.aload_n 0, 1) := by decide +kernel
theorem dX1_rustForADay_4 : decode cX1_rustForADay 4 = .ok (.getfield 23, 3) := by decide +kernel
theorem dX1_rustForADay_7 : decode cX1_rustForADay 7 = .ok (.if_icmp .ge 46, 3) := by decide +kernel
theorem dX1_rustForADay_10 : decode cX1_rustForADay 10 = .ok (.aload_n 0, 1) := by decide +kernel
theorem dX1_rustForADay_11 : decode cX1_rustForADay 11 = .ok (.iload_n 2, 1) := by decide +kernel
theorem dX1_rustForADay_12 : decode cX1_rustForADay 12 = .ok (.invokevirtual 72, 3) := by decide +kernel
theorem dX1_rustForADay_15 : decode cX1_rustForADay 15 = .ok (.ifCond .eq 9, 3) := by decide +kernel
theorem dX1_rustForADay_18 : decode cX1_rustForADay 18 = .ok (.iload_n 1, 1) := by decide +kernel
theorem dX1_rustForADay_19 : decode cX1_rustForADay 19 = .ok (.iconst 2, 1) := by decide +kernel
theorem dX1_rustForADay_20 : decode cX1_rustForADay 20 = .ok (.idiv, 1) := by decide +kernel
theorem dX1_rustForADay_21 : decode cX1_rustForADay 21 = .ok (.goto 6, 3) := by decide +kernel
theorem dX1_rustForADay_24 : decode cX1_rustForADay 24 = .ok (.iconst 1, 1) := by decide +kernel
theorem dX1_rustForADay_25 : decode cX1_rustForADay 25 = .ok (.iload_n 1, 1) := by decide +kernel
theorem dX1_rustForADay_26 : decode cX1_rustForADay 26 = .ok (.iadd, 1) := by decide +kernel
theorem dX1_rustForADay_27 : decode cX1_rustForADay 27 = .ok (.istore_n 3, 1) := by decide +kernel
theorem dX1_rustForADay_28 : decode cX1_rustForADay 28 = .ok (.aload_n 0, 1) := by decide +kernel
theorem dX1_rustForADay_29 : decode cX1_rustForADay 29 = .ok (.getfield 15, 3) := by decide +kernel
theorem dX1_rustForADay_32 : decode cX1_rustForADay 32 = .ok (.iload_n 2, 1) := by decide +kernel
theorem dX1_rustForADay_33 : decode cX1_rustForADay 33 = .ok (.aload_n 0, 1) := by decide +kernel
theorem dX1_rustForADay_34 : decode cX1_rustForADay 34 = .ok (.getfield 15, 3) := by decide +kernel
theorem dX1_rustForADay_37 : decode cX1_rustForADay 37 = .ok (.iload_n 2, 1) := by decide +kernel
theorem dX1_rustForADay_38 : decode cX1_rustForADay 38 = .ok (.iaload, 1) := by decide +kernel
theorem dX1_rustForADay_39 : decode cX1_rustForADay 39 = .ok (.iload_n 3, 1) := by decide +kernel
theorem dX1_rustForADay_40 : decode cX1_rustForADay 40 = .ok (.iadd, 1) := by decide +kernel
theorem dX1_rustForADay_41 : decode cX1_rustForADay 41 = .ok (.bipush 9, 2) := by decide +kernel
theorem dX1_rustForADay_43 : decode cX1_rustForADay 43 = .ok (.invokestatic 59, 3) := by decide +kernel
theorem dX1_rustForADay_46 : decode cX1_rustForADay 46 = .ok (.iastore, 1) := by decide +kernel
theorem dX1_rustForADay_47 : decode cX1_rustForADay 47 = .ok (.iinc 2 1, 3) := by decide +kernel
theorem dX1_rustForADay_50 : decode cX1_rustForADay 50 = .ok (.goto (-48), 3) := by decide +kernel
theorem dX1_rustForADay_53 : decode cX1_rustForADay 53 = .ok (.return_, 1) := by decide +kernel
set_option maxRecDepth 20000 in
theorem ggX2_init_X2_squares : GoodIn wsX2_init wsX2_squares := goodIn_r _ [16] (by decide +kernel) (by decide +kernel)
set_option maxRecDepth 20000 in
theorem gX2_init_X2_squares : GoodIn wsX2_init (va_wsS RX2 13 yX2_squares wsX2_squares) := goodIn_app (goodIn_of _ (by decide +kernel)) ggX2_init_X2_squares
theorem dX2_init_0 : decode cX2_init 0 = .ok (.aload_n 0, 1) := by decide +kernel
theorem dX2_init_1 : decode cX2_init 1 = .ok (.invokespecial 1, 3) := by decide +kernel
theorem dX2_init_4 : decode cX2_init 4 = .ok (.aload_n 0, 1) := by decide +kernel
theorem dX2_init_5 : decode cX2_init 5 = .ok (.iload_n 1, 1) := by decide +kernel
theorem dX2_init_6 : decode cX2_init 6 = .ok (.putfield 7, 3) := by decide +kernel
theorem dX2_init_9 : decode cX2_init 9 = .ok (.aload_n 0, 1) := by decide +kernel
theorem dX2_init_10 : decode cX2_init 10 = .ok (.iload_n 1, 1) := by decide +kernel
theorem dX2_init_11 : decode cX2_init 11 = .ok (.invokestatic 13, 3) := by decide +kernel
theorem dX2_init_14 : decode cX2_init 14 = .ok (.putfield 17, 3) := by decide +kernel
theorem dX2_init_17 : decode cX2_init 17 = .ok (.aload_n 0, 1) := by decide +kernel
theorem dX2_init_18 : decode cX2_init 18 = .ok (.iload_n 1, 1) := by decide +kernel
theorem dX2_init_19 : decode cX2_init 19 = .ok (.iconst 1, 1) := by decide +kernel
theorem dX2_init_20 : decode cX2_init 20 = .ok (.iadd, 1) := by decide +kernel
theorem dX2_init_21 : decode cX2_init 21 = .ok (.newarray .int, 2) := by decide +kernel
theorem dX2_init_23 : decode cX2_init 23 = .ok (.putfield 20, 3) := by decide +kernel
theorem dX2_init_26 : decode cX2_init 26 = .ok (.iconst 0, 1) := by decide +kernel
theorem dX2_init_27 : decode cX2_init 27 = .ok (.istore_n 2, 1) := by decide +kernel
theorem dX2_init_28 : decode cX2_init 28 = .ok (.iload_n 2, 1) := by decide +kernel
theorem dX2_init_29 : decode cX2_init 29 = .ok (.iload_n 1, 1) := by decide +kernel
theorem dX2_init_30 : decode cX2_init 30 = .ok (.if_icmp .gt 26, 3) := by decide +kernel
theorem dX2_init_33 : decode cX2_init 33 = .ok (.aload_n 0, 1) := by decide +kernel
theorem dX2_init_34 : decode cX2_init 34 = .ok (.getfield 20, 3) := by decide +kernel
theorem dX2_init_37 : decode cX2_init 37 = .ok (.iload_n 2, 1) := by decide +kernel
theorem dX2_init_38 : decode cX2_init 38 = .ok (.aload_n 0, 1) := by decide +kernel
theorem dX2_init_39 : decode cX2_init 39 = .ok (.getfield 17, 3) := by decide +kernel
theorem dX2_init_42 : decode cX2_init 42 = .ok (.iload_n 1, 1) := by decide +kernel
theorem dX2_init_43 : decode cX2_init 43 = .ok (.iload_n 2, 1) := by decide +kernel
theorem dX2_init_44 : decode cX2_init 44 = .ok (.isub, 1) := by decide +kernel
theorem dX2_init_45 : decode cX2_init 45 = .ok (.invokestatic 13, 3) := by decide +kernel
theorem dX2_init_48 : decode cX2_init 48 = .ok (.isub, 1) := by decide +kernel
theorem dX2_init_49 : decode cX2_init 49 = .ok (.iastore, 1) := by decide +kernel
theorem dX2_init_50 : decode cX2_init 50 = .ok (.iinc 2 1, 3) := by decide +kernel
theorem dX2_init_53 : decode cX2_init 53 = .ok (.goto (-25), 3) := by decide +kernel
theorem dX2_init_56 : decode cX2_init 56 = .ok (.aload_n 0, 1) := by decide +kernel
theorem dX2_init_57 : decode cX2_init 57 = .ok (.aload_n 0, 1) := by decide +kernel
theorem dX2_init_58 : decode cX2_init 58 = .ok (.getfield 17, 3) := by decide +kernel
theorem dX2_init_61 : decode cX2_init 61 = .ok (.newarray .int, 2) := by decide +kernel
theorem dX2_init_63 : decode cX2_init 63 = .ok (.putfield 24, 3) := by decide +kernel
theorem dX2_init_66 : decode cX2_init 66 = .ok (.iconst 0, 1) := by decide +kernel
theorem dX2_init_67 : decode cX2_init 67 = .ok (.istore_n 2, 1) := by decide +kernel
theorem dX2_init_68 : decode cX2_init 68 = .ok (.iload_n 2, 1) := by decide +kernel
theorem dX2_init_69 : decode cX2_init 69 = .ok (.iload_n 1, 1) := by decide +kernel
theorem dX2_init_70 : decode cX2_init 70 = .ok (.if_icmp .ge 92, 3) := by decide +kernel
theorem dX2_init_73 : decode cX2_init 73 = .ok (.iload_n 1, 1) := by decide +kernel
theorem dX2_init_74 : decode cX2_init 74 = .ok (.iload_n 2, 1) := by decide +kernel
theorem dX2_init_75 : decode cX2_init 75 = .ok (.isub, 1) := by decide +kernel
theorem dX2_init_76 : decode cX2_init 76 = .ok (.istore_n 3, 1) := by decide +kernel
theorem dX2_init_77 : decode cX2_init 77 = .ok (.iconst 0, 1) := by decide +kernel
theorem dX2_init_78 : decode cX2_init 78 = .ok (.istore 4, 2) := by decide +kernel
theorem dX2_init_80 : decode cX2_init 80 = .ok (.iload 4, 2) := by decide +kernel
theorem dX2_init_82 : decode cX2_init 82 = .ok (.iload_n 3, 1) := by decide +kernel
theorem dX2_init_83 : decode cX2_init 83 = .ok (.if_icmp .ge 73, 3) := by decide +kernel
theorem dX2_init_86 : decode cX2_init 86 = .ok (.iconst 0, 1) := by decide +kernel
theorem dX2_init_87 : decode cX2_init 87 = .ok (.istore 5, 2) := by decide +kernel
theorem dX2_init_89 : decode cX2_init 89 = .ok (.iload 5, 2) := by decide +kernel
theorem dX2_init_91 : decode cX2_init 91 = .ok (.iload_n 3, 1) := by decide +kernel
theorem dX2_init_92 : decode cX2_init 92 = .ok (.if_icmp .ge 58, 3) := by decide +kernel
theorem dX2_init_95 : decode cX2_init 95 = .ok (.aload_n 0, 1) := by decide +kernel
theorem dX2_init_96 : decode cX2_init 96 = .ok (.getfield 24, 3) := by decide +kernel
theorem dX2_init_99 : decode cX2_init 99 = .ok (.aload_n 0, 1) := by decide +kernel
theorem dX2_init_100 : decode cX2_init 100 = .ok (.getfield 20, 3) := by decide +kernel
theorem dX2_init_103 : decode cX2_init 103 = .ok (.iload_n 2, 1) := by decide +kernel
theorem dX2_init_104 : decode cX2_init 104 = .ok (.iaload, 1) := by decide +kernel
theorem dX2_init_105 : decode cX2_init 105 = .ok (.iload 4, 2) := by decide +kernel
theorem dX2_init_107 : decode cX2_init 107 = .ok (.iload_n 3, 1) := by decide +kernel
theorem dX2_init_108 : decode cX2_init 108 = .ok (.imul, 1) := by decide +kernel
theorem dX2_init_109 : decode cX2_init 109 = .ok (.iadd, 1) := by decide +kernel
theorem dX2_init_110 : decode cX2_init 110 = .ok (.iload 5, 2) := by decide +kernel
theorem dX2_init_112 : decode cX2_init 112 = .ok (.iadd, 1) := by decide +kernel
theorem dX2_init_113 : decode cX2_init 113 = .ok (.aload_n 0, 1) := by decide +kernel
theorem dX2_init_114 : decode cX2_init 114 = .ok (.getfield 20, 3) := by decide +kernel
theorem dX2_init_117 : decode cX2_init 117 = .ok (.iload_n 2, 1) := by decide +kernel
theorem dX2_init_118 : decode cX2_init 118 = .ok (.iconst 1, 1) := by decide +kernel
theorem dX2_init_119 : decode cX2_init 119 = .ok (.iadd, 1) := by decide +kernel
theorem dX2_init_120 : decode cX2_init 120 = .ok (.iaload, 1) := by decide +kernel
theorem dX2_init_121 : decode cX2_init 121 = .ok (.iload 4, 2) := by decide +kernel
theorem dX2_init_123 : decode cX2_init 123 = .ok (.iconst 1, 1) := by decide +kernel
theorem dX2_init_124 : decode cX2_init 124 = .ok (.isub, 1) := by decide +kernel
theorem dX2_init_125 : decode cX2_init 125 = .ok (.iconst 0, 1) := by decide +kernel
theorem dX2_init_126 : decode cX2_init 126 = .ok (.invokestatic 27, 3) := by decide +kernel
theorem dX2_init_129 : decode cX2_init 129 = .ok (.iload_n 3, 1) := by decide +kernel
theorem dX2_init_130 : decode cX2_init 130 = .ok (.iconst 1, 1) := by decide +kernel
theorem dX2_init_131 : decode cX2_init 131 = .ok (.isub, 1) := by decide +kernel
theorem dX2_init_132 : decode cX2_init 132 = .ok (.imul, 1) := by decide +kernel
theorem dX2_init_133 : decode cX2_init 133 = .ok (.iadd, 1) := by decide +kernel
theorem dX2_init_134 : decode cX2_init 134 = .ok (.iload 5, 2) := by decide +kernel
theorem dX2_init_136 : decode cX2_init 136 = .ok (.iconst 1, 1) := by decide +kernel
theorem dX2_init_137 : decode cX2_init 137 = .ok (.isub, 1) := by decide +kernel
theorem dX2_init_138 : decode cX2_init 138 = .ok (.iconst 0, 1) := by decide +kernel
theorem dX2_init_139 : decode cX2_init 139 = .ok (.invokestatic 27, 3) := by decide +kernel
theorem dX2_init_142 : decode cX2_init 142 = .ok (.iadd, 1) := by decide +kernel
theorem dX2_init_143 : decode cX2_init 143 = .ok (.iastore, 1) := by decide +kernel
theorem dX2_init_144 : decode cX2_init 144 = .ok (.iinc 5 1, 3) := by decide +kernel
theorem dX2_init_147 : decode cX2_init 147 = .ok (.goto (-58), 3) := by decide +kernel
theorem dX2_init_150 : decode cX2_init 150 = .ok (.iinc 4 1, 3) := by decide +kernel
theorem dX2_init_153 : decode cX2_init 153 = .ok (.goto (-73), 3) := by decide +kernel
theorem dX2_init_156 : decode cX2_init 156 = .ok (.iinc 2 1, 3) := by decide +kernel
theorem dX2_init_159 : decode cX2_init 159 = .ok (.goto (-91), 3) := by decide +kernel
theorem dX2_init_162 : decode cX2_init 162 = .ok (.return_, 1) := by decide +kernel
theorem dX2_squares_0 : decode cX2_squares 0 = .ok (.iload_n 0, 1) := by decide +kernel
theorem dX2_squares_1 : decode cX2_squares 1 = .ok (.iload_n 0, 1) := by decide +kernel
theorem dX2_squares_2 : decode cX2_squares 2 = .ok (.iconst 1, 1) := by decide +kernel
theorem dX2_squares_3 : decode cX2_squares 3 = .ok (.iadd, 1) := by decide +kernel
theorem dX2_squares_4 : decode cX2_squares 4 = .ok (.imul, 1) := by decide +kernel
theorem dX2_squares_5 : decode cX2_squares 5 = .ok (.iconst 2, 1) := by decide +kernel
theorem dX2_squares_6 : decode cX2_squares 6 = .ok (.iload_n 0, 1) := by decide +kernel
theorem dX2_squares_7 : decode cX2_squares 7 = .ok (.imul, 1) := by decide +kernel
theorem dX2_squares_8 : decode cX2_squares 8 = .ok (.iconst 1, 1) := by decide +kernel
theorem dX2_squares_9 : decode cX2_squares 9 = .ok (.iadd, 1) := by decide +kernel
theorem dX2_squares_10 : decode cX2_squares 10 = .ok (.imul, 1) := by decide +kernel
theorem dX2_squares_11 : decode cX2_squares 11 = .ok (.bipush 6, 2) := by decide +kernel
theorem dX2_squares_13 : decode cX2_squares 13 = .ok (.idiv, 1) := by decide +kernel
theorem dX2_squares_14 : decode cX2_squares 14 = .ok (.ireturn, 1) := by decide +kernel
set_option maxRecDepth 20000 in
theorem ggX2_numberOf_X2_startOf : GoodIn wsX2_numberOf wsX2_startOf := goodIn_r _ [6, 7, 8, 9, 10, 11, 12] (by decide +kernel) (by decide +kernel)
set_option maxRecDepth 20000 in
theorem gX2_numberOf_X2_startOf : GoodIn wsX2_numberOf (wsV RX2 33 RX2 yX2_startOf wsX2_startOf) := goodIn_app (goodIn_of _ (by decide +kernel)) ggX2_numberOf_X2_startOf
theorem dX2_numberOf_0 : decode cX2_numberOf 0 = .ok (.aload_n 0, 1) := by decide +kernel
theorem dX2_numberOf_1 : decode cX2_numberOf 1 = .ok (.iload_n 1, 1) := by decide +kernel
theorem dX2_numberOf_2 : decode cX2_numberOf 2 = .ok (.invokevirtual 33, 3) := by decide +kernel
theorem dX2_numberOf_5 : decode cX2_numberOf 5 = .ok (.iload_n 2, 1) := by decide +kernel
theorem dX2_numberOf_6 : decode cX2_numberOf 6 = .ok (.aload_n 0, 1) := by decide +kernel
theorem dX2_numberOf_7 : decode cX2_numberOf 7 = .ok (.getfield 7, 3) := by decide +kernel
theorem dX2_numberOf_10 : decode cX2_numberOf 10 = .ok (.iload_n 1, 1) := by decide +kernel
theorem dX2_numberOf_11 : decode cX2_numberOf 11 = .ok (.isub, 1) := by decide +kernel
theorem dX2_numberOf_12 : decode cX2_numberOf 12 = .ok (.imul, 1) := by decide +kernel
theorem dX2_numberOf_13 : decode cX2_numberOf 13 = .ok (.iadd, 1) := by decide +kernel
theorem dX2_numberOf_14 : decode cX2_numberOf 14 = .ok (.iload_n 3, 1) := by decide +kernel
theorem dX2_numberOf_15 : decode cX2_numberOf 15 = .ok (.iadd, 1) := by decide +kernel
theorem dX2_numberOf_16 : decode cX2_numberOf 16 = .ok (.ireturn, 1) := by decide +kernel
theorem dX2_startOf_0 : decode cX2_startOf 0 = .ok (.iload_n 1, 1) := by decide +kernel
theorem dX2_startOf_1 : decode cX2_startOf 1 = .ok (.ifCond .lt 21, 3) := by decide +kernel
theorem dX2_startOf_4 : decode cX2_startOf 4 = .ok (.iload_n 1, 1) := by decide +kernel
theorem dX2_startOf_5 : decode cX2_startOf 5 = .ok (.aload_n 0, 1) := by decide +kernel
theorem dX2_startOf_6 : decode cX2_startOf 6 = .ok (.getfield 20, 3) := by decide +kernel
theorem dX2_startOf_9 : decode cX2_startOf 9 = .ok (.arraylength, 1) := by decide +kernel
theorem dX2_startOf_10 : decode cX2_startOf 10 = .ok (.if_icmp .ge 12, 3) := by decide +kernel
theorem dX2_startOf_13 : decode cX2_startOf 13 = .ok (.aload_n 0, 1) := by decide +kernel
theorem dX2_startOf_14 : decode cX2_startOf 14 = .ok (.getfield 20, 3) := by decide +kernel
theorem dX2_startOf_17 : decode cX2_startOf 17 = .ok (.iload_n 1, 1) := by decide +kernel
theorem dX2_startOf_18 : decode cX2_startOf 18 = .ok (.iaload, 1) := by decide +kernel
theorem dX2_startOf_19 : decode cX2_startOf 19 = .ok (.goto 7, 3) := by decide +kernel
theorem dX2_startOf_22 : decode cX2_startOf 22 = .ok (.aload_n 0, 1) := by decide +kernel
theorem dX2_startOf_23 : decode cX2_startOf 23 = .ok (.getfield 17, 3) := by decide +kernel
theorem dX2_startOf_26 : decode cX2_startOf 26 = .ok (.ireturn, 1) := by decide +kernel
theorem dX2_firstOn_0 : decode cX2_firstOn 0 = .ok (.iload_n 1, 1) := by decide +kernel
theorem dX2_firstOn_1 : decode cX2_firstOn 1 = .ok (.ifCond .lt 21, 3) := by decide +kernel
theorem dX2_firstOn_4 : decode cX2_firstOn 4 = .ok (.iload_n 1, 1) := by decide +kernel
theorem dX2_firstOn_5 : decode cX2_firstOn 5 = .ok (.aload_n 0, 1) := by decide +kernel
theorem dX2_firstOn_6 : decode cX2_firstOn 6 = .ok (.getfield 24, 3) := by decide +kernel
theorem dX2_firstOn_9 : decode cX2_firstOn 9 = .ok (.arraylength, 1) := by decide +kernel
theorem dX2_firstOn_10 : decode cX2_firstOn 10 = .ok (.if_icmp .ge 12, 3) := by decide +kernel
theorem dX2_firstOn_13 : decode cX2_firstOn 13 = .ok (.aload_n 0, 1) := by decide +kernel
theorem dX2_firstOn_14 : decode cX2_firstOn 14 = .ok (.getfield 24, 3) := by decide +kernel
theorem dX2_firstOn_17 : decode cX2_firstOn 17 = .ok (.iload_n 1, 1) := by decide +kernel
theorem dX2_firstOn_18 : decode cX2_firstOn 18 = .ok (.iaload, 1) := by decide +kernel
theorem dX2_firstOn_19 : decode cX2_firstOn 19 = .ok (.goto 7, 3) := by decide +kernel
theorem dX2_firstOn_22 : decode cX2_firstOn 22 = .ok (.aload_n 0, 1) := by decide +kernel
theorem dX2_firstOn_23 : decode cX2_firstOn 23 = .ok (.getfield 17, 3) := by decide +kernel
theorem dX2_firstOn_26 : decode cX2_firstOn 26 = .ok (.ireturn, 1) := by decide +kernel
theorem dX2_layersBegun_0 : decode cX2_layersBegun 0 = .ok (.iconst 0, 1) := by decide +kernel
theorem dX2_layersBegun_1 : decode cX2_layersBegun 1 = .ok (.istore_n 2, 1) := by decide +kernel
theorem dX2_layersBegun_2 : decode cX2_layersBegun 2 = .ok (.iload_n 2, 1) := by decide +kernel
theorem dX2_layersBegun_3 : decode cX2_layersBegun 3 = .ok (.aload_n 0, 1) := by decide +kernel
theorem dX2_layersBegun_4 : decode cX2_layersBegun 4 = .ok (.getfield 7, 3) := by decide +kernel
theorem dX2_layersBegun_7 : decode cX2_layersBegun 7 = .ok (.if_icmp .ge 19, 3) := by decide +kernel
theorem dX2_layersBegun_10 : decode cX2_layersBegun 10 = .ok (.aload_n 0, 1) := by decide +kernel
theorem dX2_layersBegun_11 : decode cX2_layersBegun 11 = .ok (.getfield 20, 3) := by decide +kernel
theorem dX2_layersBegun_14 : decode cX2_layersBegun 14 = .ok (.iload_n 2, 1) := by decide +kernel
theorem dX2_layersBegun_15 : decode cX2_layersBegun 15 = .ok (.iaload, 1) := by decide +kernel
theorem dX2_layersBegun_16 : decode cX2_layersBegun 16 = .ok (.iload_n 1, 1) := by decide +kernel
theorem dX2_layersBegun_17 : decode cX2_layersBegun 17 = .ok (.if_icmp .ge 9, 3) := by decide +kernel
theorem dX2_layersBegun_20 : decode cX2_layersBegun 20 = .ok (.iinc 2 1, 3) := by decide +kernel
theorem dX2_layersBegun_23 : decode cX2_layersBegun 23 = .ok (.goto (-21), 3) := by decide +kernel
theorem dX2_layersBegun_26 : decode cX2_layersBegun 26 = .ok (.iload_n 2, 1) := by decide +kernel
theorem dX2_layersBegun_27 : decode cX2_layersBegun 27 = .ok (.ireturn, 1) := by decide +kernel
theorem dX2_layersFull_0 : decode cX2_layersFull 0 = .ok (.iconst 0, 1) := by decide +kernel
theorem dX2_layersFull_1 : decode cX2_layersFull 1 = .ok (.istore_n 2, 1) := by decide +kernel
theorem dX2_layersFull_2 : decode cX2_layersFull 2 = .ok (.iload_n 2, 1) := by decide +kernel
theorem dX2_layersFull_3 : decode cX2_layersFull 3 = .ok (.aload_n 0, 1) := by decide +kernel
theorem dX2_layersFull_4 : decode cX2_layersFull 4 = .ok (.getfield 7, 3) := by decide +kernel
theorem dX2_layersFull_7 : decode cX2_layersFull 7 = .ok (.if_icmp .ge 21, 3) := by decide +kernel
theorem dX2_layersFull_10 : decode cX2_layersFull 10 = .ok (.aload_n 0, 1) := by decide +kernel
theorem dX2_layersFull_11 : decode cX2_layersFull 11 = .ok (.getfield 20, 3) := by decide +kernel
theorem dX2_layersFull_14 : decode cX2_layersFull 14 = .ok (.iload_n 2, 1) := by decide +kernel
theorem dX2_layersFull_15 : decode cX2_layersFull 15 = .ok (.iconst 1, 1) := by decide +kernel
theorem dX2_layersFull_16 : decode cX2_layersFull 16 = .ok (.iadd, 1) := by decide +kernel
theorem dX2_layersFull_17 : decode cX2_layersFull 17 = .ok (.iaload, 1) := by decide +kernel
theorem dX2_layersFull_18 : decode cX2_layersFull 18 = .ok (.iload_n 1, 1) := by decide +kernel
theorem dX2_layersFull_19 : decode cX2_layersFull 19 = .ok (.if_icmp .gt 9, 3) := by decide +kernel
theorem dX2_layersFull_22 : decode cX2_layersFull 22 = .ok (.iinc 2 1, 3) := by decide +kernel
theorem dX2_layersFull_25 : decode cX2_layersFull 25 = .ok (.goto (-23), 3) := by decide +kernel
theorem dX2_layersFull_28 : decode cX2_layersFull 28 = .ok (.iload_n 2, 1) := by decide +kernel
theorem dX2_layersFull_29 : decode cX2_layersFull 29 = .ok (.ireturn, 1) := by decide +kernel
set_option maxRecDepth 20000 in
theorem ggX2_layerOf_X2_layersFull : GoodIn wsX2_layerOf wsX2_layersFull := goodIn_r _ [5, 6, 7, 8, 9, 10, 11] (by decide +kernel) (by decide +kernel)
set_option maxRecDepth 20000 in
theorem gX2_layerOf_X2_layersFull : GoodIn wsX2_layerOf (wsV RX2 36 RX2 yX2_layersFull wsX2_layersFull) := goodIn_app (goodIn_of _ (by decide +kernel)) ggX2_layerOf_X2_layersFull
theorem dX2_layerOf_0 : decode cX2_layerOf 0 = .ok (.aload_n 0, 1) := by decide +kernel
theorem dX2_layerOf_1 : decode cX2_layerOf 1 = .ok (.iload_n 1, 1) := by decide +kernel
theorem dX2_layerOf_2 : decode cX2_layerOf 2 = .ok (.invokevirtual 36, 3) := by decide +kernel
theorem dX2_layerOf_5 : decode cX2_layerOf 5 = .ok (.ireturn, 1) := by decide +kernel
set_option maxRecDepth 20000 in
theorem ggX2_rowOf_X2_layerOf : GoodIn wsX2_rowOf wsX2_layerOf := goodIn_r _ [6, 7, 8, 9, 5, 10, 1, 11, 17, 18, 19, 20] (by decide +kernel) (by decide +kernel)
set_option maxRecDepth 20000 in
theorem gX2_rowOf_X2_layerOf : GoodIn wsX2_rowOf (wsV RX2 39 RX2 yX2_layerOf wsX2_layerOf) := goodIn_app (goodIn_of _ (by decide +kernel)) ggX2_rowOf_X2_layerOf
set_option maxRecDepth 20000 in
theorem ggX2_rowOf_X2_startOf : GoodIn wsX2_rowOf wsX2_startOf := goodIn_r _ [15, 11, 16, 17, 18, 19, 20] (by decide +kernel) (by decide +kernel)
set_option maxRecDepth 20000 in
theorem gX2_rowOf_X2_startOf : GoodIn wsX2_rowOf (wsV RX2 33 RX2 yX2_startOf wsX2_startOf) := goodIn_app (goodIn_of _ (by decide +kernel)) ggX2_rowOf_X2_startOf
theorem dX2_rowOf_0 : decode cX2_rowOf 0 = .ok (.aload_n 0, 1) := by decide +kernel
theorem dX2_rowOf_1 : decode cX2_rowOf 1 = .ok (.iload_n 1, 1) := by decide +kernel
theorem dX2_rowOf_2 : decode cX2_rowOf 2 = .ok (.invokevirtual 39, 3) := by decide +kernel
theorem dX2_rowOf_5 : decode cX2_rowOf 5 = .ok (.istore_n 2, 1) := by decide +kernel
theorem dX2_rowOf_6 : decode cX2_rowOf 6 = .ok (.aload_n 0, 1) := by decide +kernel
theorem dX2_rowOf_7 : decode cX2_rowOf 7 = .ok (.getfield 7, 3) := by decide +kernel
theorem dX2_rowOf_10 : decode cX2_rowOf 10 = .ok (.iload_n 2, 1) := by decide +kernel
theorem dX2_rowOf_11 : decode cX2_rowOf 11 = .ok (.isub, 1) := by decide +kernel
theorem dX2_rowOf_12 : decode cX2_rowOf 12 = .ok (.istore_n 3, 1) := by decide +kernel
theorem dX2_rowOf_13 : decode cX2_rowOf 13 = .ok (.iload_n 3, 1) := by decide +kernel
theorem dX2_rowOf_14 : decode cX2_rowOf 14 = .ok (.ifCond .le 15, 3) := by decide +kernel
theorem dX2_rowOf_17 : decode cX2_rowOf 17 = .ok (.iload_n 1, 1) := by decide +kernel
theorem dX2_rowOf_18 : decode cX2_rowOf 18 = .ok (.aload_n 0, 1) := by decide +kernel
theorem dX2_rowOf_19 : decode cX2_rowOf 19 = .ok (.iload_n 2, 1) := by decide +kernel
theorem dX2_rowOf_20 : decode cX2_rowOf 20 = .ok (.invokevirtual 33, 3) := by decide +kernel
theorem dX2_rowOf_23 : decode cX2_rowOf 23 = .ok (.isub, 1) := by decide +kernel
theorem dX2_rowOf_24 : decode cX2_rowOf 24 = .ok (.iload_n 3, 1) := by decide +kernel
theorem dX2_rowOf_25 : decode cX2_rowOf 25 = .ok (.idiv, 1) := by decide +kernel
theorem dX2_rowOf_26 : decode cX2_rowOf 26 = .ok (.goto 4, 3) := by decide +kernel
theorem dX2_rowOf_29 : decode cX2_rowOf 29 = .ok (.iconst 0, 1) := by decide +kernel
theorem dX2_rowOf_30 : decode cX2_rowOf 30 = .ok (.ireturn, 1) := by decide +kernel
set_option maxRecDepth 20000 in
theorem ggX2_placeOf_X2_layerOf : GoodIn wsX2_placeOf wsX2_layerOf := goodIn_r _ [6, 7, 8, 9, 5, 10, 1, 11, 17, 18, 19, 20] (by decide +kernel) (by decide +kernel)
set_option maxRecDepth 20000 in
theorem gX2_placeOf_X2_layerOf : GoodIn wsX2_placeOf (wsV RX2 39 RX2 yX2_layerOf wsX2_layerOf) := goodIn_app (goodIn_of _ (by decide +kernel)) ggX2_placeOf_X2_layerOf
set_option maxRecDepth 20000 in
theorem ggX2_placeOf_X2_startOf : GoodIn wsX2_placeOf wsX2_startOf := goodIn_r _ [15, 11, 16, 17, 18, 19, 20] (by decide +kernel) (by decide +kernel)
set_option maxRecDepth 20000 in
theorem gX2_placeOf_X2_startOf : GoodIn wsX2_placeOf (wsV RX2 33 RX2 yX2_startOf wsX2_startOf) := goodIn_app (goodIn_of _ (by decide +kernel)) ggX2_placeOf_X2_startOf
theorem dX2_placeOf_0 : decode cX2_placeOf 0 = .ok (.aload_n 0, 1) := by decide +kernel
theorem dX2_placeOf_1 : decode cX2_placeOf 1 = .ok (.iload_n 1, 1) := by decide +kernel
theorem dX2_placeOf_2 : decode cX2_placeOf 2 = .ok (.invokevirtual 39, 3) := by decide +kernel
theorem dX2_placeOf_5 : decode cX2_placeOf 5 = .ok (.istore_n 2, 1) := by decide +kernel
theorem dX2_placeOf_6 : decode cX2_placeOf 6 = .ok (.aload_n 0, 1) := by decide +kernel
theorem dX2_placeOf_7 : decode cX2_placeOf 7 = .ok (.getfield 7, 3) := by decide +kernel
theorem dX2_placeOf_10 : decode cX2_placeOf 10 = .ok (.iload_n 2, 1) := by decide +kernel
theorem dX2_placeOf_11 : decode cX2_placeOf 11 = .ok (.isub, 1) := by decide +kernel
theorem dX2_placeOf_12 : decode cX2_placeOf 12 = .ok (.istore_n 3, 1) := by decide +kernel
theorem dX2_placeOf_13 : decode cX2_placeOf 13 = .ok (.iload_n 3, 1) := by decide +kernel
theorem dX2_placeOf_14 : decode cX2_placeOf 14 = .ok (.ifCond .le 15, 3) := by decide +kernel
theorem dX2_placeOf_17 : decode cX2_placeOf 17 = .ok (.iload_n 1, 1) := by decide +kernel
theorem dX2_placeOf_18 : decode cX2_placeOf 18 = .ok (.aload_n 0, 1) := by decide +kernel
theorem dX2_placeOf_19 : decode cX2_placeOf 19 = .ok (.iload_n 2, 1) := by decide +kernel
theorem dX2_placeOf_20 : decode cX2_placeOf 20 = .ok (.invokevirtual 33, 3) := by decide +kernel
theorem dX2_placeOf_23 : decode cX2_placeOf 23 = .ok (.isub, 1) := by decide +kernel
theorem dX2_placeOf_24 : decode cX2_placeOf 24 = .ok (.iload_n 3, 1) := by decide +kernel
theorem dX2_placeOf_25 : decode cX2_placeOf 25 = .ok (.irem, 1) := by decide +kernel
theorem dX2_placeOf_26 : decode cX2_placeOf 26 = .ok (.goto 4, 3) := by decide +kernel
theorem dX2_placeOf_29 : decode cX2_placeOf 29 = .ok (.iconst 0, 1) := by decide +kernel
theorem dX2_placeOf_30 : decode cX2_placeOf 30 = .ok (.ireturn, 1) := by decide +kernel
set_option maxRecDepth 20000 in
theorem ggX3_init_X1_init : GoodIn wsX3_init wsX1_init := goodIn_r _ [17, 18, 2, 3, 19, 12, 20, 34, 35, 36, 37] (by decide +kernel) (by decide +kernel)
set_option maxRecDepth 20000 in
theorem gX3_init_X1_init : GoodIn wsX3_init (wsX1_init) := ggX3_init_X1_init
set_option maxRecDepth 20000 in
theorem ggX3_init_X0_init : GoodIn wsX3_init wsX0_init := goodIn_r _ [23, 24, 2, 3, 25, 38, 39, 40] (by decide +kernel) (by decide +kernel)
set_option maxRecDepth 20000 in
theorem gX3_init_X0_init : GoodIn wsX3_init (wsX0_init) := ggX3_init_X0_init
theorem dX3_init_0 : decode cX3_init 0 = .ok (.aload_n 0, 1) := by decide +kernel
theorem dX3_init_1 : decode cX3_init 1 = .ok (.invokespecial 3, 3) := by decide +kernel
theorem dX3_init_4 : decode cX3_init 4 = .ok (.aload_n 0, 1) := by decide +kernel
theorem dX3_init_5 : decode cX3_init 5 = .ok (.bipush 6, 2) := by decide +kernel
theorem dX3_init_7 : decode cX3_init 7 = .ok (.anewarray 9, 3) := by decide +kernel
theorem dX3_init_10 : decode cX3_init 10 = .ok (.putfield 11, 3) := by decide +kernel
theorem dX3_init_13 : decode cX3_init 13 = .ok (.iconst 0, 1) := by decide +kernel
theorem dX3_init_14 : decode cX3_init 14 = .ok (.istore_n 2, 1) := by decide +kernel
theorem dX3_init_15 : decode cX3_init 15 = .ok (.iload_n 2, 1) := by decide +kernel
theorem dX3_init_16 : decode cX3_init 16 = .ok (.bipush 6, 2) := by decide +kernel
theorem dX3_init_18 : decode cX3_init 18 = .ok (.if_icmp .ge 23, 3) := by decide +kernel
theorem dX3_init_21 : decode cX3_init 21 = .ok (.aload_n 0, 1) := by decide +kernel
theorem dX3_init_22 : decode cX3_init 22 = .ok (.getfield 11, 3) := by decide +kernel
theorem dX3_init_25 : decode cX3_init 25 = .ok (.iload_n 2, 1) := by decide +kernel
theorem dX3_init_26 : decode cX3_init 26 = .ok (.new 9, 3) := by decide +kernel
theorem dX3_init_29 : decode cX3_init 29 = .ok (.dup, 1) := by decide +kernel
theorem dX3_init_30 : decode cX3_init 30 = .ok (.aload_n 1, 1) := by decide +kernel
theorem dX3_init_31 : decode cX3_init 31 = .ok (.invokespecial 17, 3) := by decide +kernel
theorem dX3_init_34 : decode cX3_init 34 = .ok (.aastore, 1) := by decide +kernel
theorem dX3_init_35 : decode cX3_init 35 = .ok (.iinc 2 1, 3) := by decide +kernel
theorem dX3_init_38 : decode cX3_init 38 = .ok (.goto (-23), 3) := by decide +kernel
theorem dX3_init_41 : decode cX3_init 41 = .ok (.aload_n 0, 1) := by decide +kernel
theorem dX3_init_42 : decode cX3_init 42 = .ok (.iconst 3, 1) := by decide +kernel
theorem dX3_init_43 : decode cX3_init 43 = .ok (.anewarray 20, 3) := by decide +kernel
theorem dX3_init_46 : decode cX3_init 46 = .ok (.putfield 22, 3) := by decide +kernel
theorem dX3_init_49 : decode cX3_init 49 = .ok (.iconst 0, 1) := by decide +kernel
theorem dX3_init_50 : decode cX3_init 50 = .ok (.istore_n 2, 1) := by decide +kernel
theorem dX3_init_51 : decode cX3_init 51 = .ok (.iload_n 2, 1) := by decide +kernel
theorem dX3_init_52 : decode cX3_init 52 = .ok (.iconst 3, 1) := by decide +kernel
theorem dX3_init_53 : decode cX3_init 53 = .ok (.if_icmp .ge 22, 3) := by decide +kernel
theorem dX3_init_56 : decode cX3_init 56 = .ok (.aload_n 0, 1) := by decide +kernel
theorem dX3_init_57 : decode cX3_init 57 = .ok (.getfield 22, 3) := by decide +kernel
theorem dX3_init_60 : decode cX3_init 60 = .ok (.iload_n 2, 1) := by decide +kernel
theorem dX3_init_61 : decode cX3_init 61 = .ok (.new 20, 3) := by decide +kernel
theorem dX3_init_64 : decode cX3_init 64 = .ok (.dup, 1) := by decide +kernel
theorem dX3_init_65 : decode cX3_init 65 = .ok (.invokespecial 26, 3) := by decide +kernel
theorem dX3_init_68 : decode cX3_init 68 = .ok (.aastore, 1) := by decide +kernel
theorem dX3_init_69 : decode cX3_init 69 = .ok (.iinc 2 1, 3) := by decide +kernel
theorem dX3_init_72 : decode cX3_init 72 = .ok (.goto (-21), 3) := by decide +kernel
theorem dX3_init_75 : decode cX3_init 75 = .ok (.aload_n 0, 1) := by decide +kernel
theorem dX3_init_76 : decode cX3_init 76 = .ok (.iconst 5, 1) := by decide +kernel
theorem dX3_init_77 : decode cX3_init 77 = .ok (.newarray .int, 2) := by decide +kernel
theorem dX3_init_79 : decode cX3_init 79 = .ok (.putfield 27, 3) := by decide +kernel
theorem dX3_init_82 : decode cX3_init 82 = .ok (.aload_n 0, 1) := by decide +kernel
theorem dX3_init_83 : decode cX3_init 83 = .ok (.bipush 6, 2) := by decide +kernel
theorem dX3_init_85 : decode cX3_init 85 = .ok (.putfield 31, 3) := by decide +kernel
theorem dX3_init_88 : decode cX3_init 88 = .ok (.return_, 1) := by decide +kernel
set_option maxRecDepth 20000 in
theorem ggX3_copyFrom_X1_copyFrom : GoodIn wsX3_copyFrom wsX1_copyFrom := goodIn_r _ [17, 18, 19, 20, 21, 22, 7, 8, 9, 39, 40, 41, 42] (by decide +kernel) (by decide +kernel)
set_option maxRecDepth 20000 in
theorem gX3_copyFrom_X1_copyFrom : GoodIn wsX3_copyFrom (wsV RX3 38 RX1 yX1_copyFrom wsX1_copyFrom) := goodIn_app (goodIn_of _ (by decide +kernel)) ggX3_copyFrom_X1_copyFrom
set_option maxRecDepth 20000 in
theorem ggX3_copyFrom_X0_copyFrom : GoodIn wsX3_copyFrom wsX0_copyFrom := goodIn_r _ [27, 28, 29, 30, 43, 44, 45] (by decide +kernel) (by decide +kernel)
set_option maxRecDepth 20000 in
theorem gX3_copyFrom_X0_copyFrom : GoodIn wsX3_copyFrom (wsV RX3 45 RX0 yX0_copyFrom wsX0_copyFrom) := goodIn_app (goodIn_of _ (by decide +kernel)) ggX3_copyFrom_X0_copyFrom
theorem dX3_copyFrom_0 : decode cX3_copyFrom 0 = .ok (.aload_n 0, 1) := by decide +kernel
theorem dX3_copyFrom_1 : decode cX3_copyFrom 1 = .ok (.aload_n 1, 1) := by decide +kernel
theorem dX3_copyFrom_2 : decode cX3_copyFrom 2 = .ok (.getfield 35, 3) := by decide +kernel
theorem dX3_copyFrom_5 : decode cX3_copyFrom 5 = .ok (.putfield 35, 3) := by decide +kernel
theorem dX3_copyFrom_8 : decode cX3_copyFrom 8 = .ok (.iconst 0, 1) := by decide +kernel
theorem dX3_copyFrom_9 : decode cX3_copyFrom 9 = .ok (.istore_n 2, 1) := by decide +kernel
theorem dX3_copyFrom_10 : decode cX3_copyFrom 10 = .ok (.iload_n 2, 1) := by decide +kernel
theorem dX3_copyFrom_11 : decode cX3_copyFrom 11 = .ok (.aload_n 0, 1) := by decide +kernel
theorem dX3_copyFrom_12 : decode cX3_copyFrom 12 = .ok (.getfield 35, 3) := by decide +kernel
theorem dX3_copyFrom_15 : decode cX3_copyFrom 15 = .ok (.if_icmp .ge 24, 3) := by decide +kernel
theorem dX3_copyFrom_18 : decode cX3_copyFrom 18 = .ok (.aload_n 0, 1) := by decide +kernel
theorem dX3_copyFrom_19 : decode cX3_copyFrom 19 = .ok (.getfield 11, 3) := by decide +kernel
theorem dX3_copyFrom_22 : decode cX3_copyFrom 22 = .ok (.iload_n 2, 1) := by decide +kernel
theorem dX3_copyFrom_23 : decode cX3_copyFrom 23 = .ok (.aaload, 1) := by decide +kernel
theorem dX3_copyFrom_24 : decode cX3_copyFrom 24 = .ok (.aload_n 1, 1) := by decide +kernel
theorem dX3_copyFrom_25 : decode cX3_copyFrom 25 = .ok (.getfield 11, 3) := by decide +kernel
theorem dX3_copyFrom_28 : decode cX3_copyFrom 28 = .ok (.iload_n 2, 1) := by decide +kernel
theorem dX3_copyFrom_29 : decode cX3_copyFrom 29 = .ok (.aaload, 1) := by decide +kernel
theorem dX3_copyFrom_30 : decode cX3_copyFrom 30 = .ok (.invokevirtual 38, 3) := by decide +kernel
theorem dX3_copyFrom_33 : decode cX3_copyFrom 33 = .ok (.iinc 2 1, 3) := by decide +kernel
theorem dX3_copyFrom_36 : decode cX3_copyFrom 36 = .ok (.goto (-26), 3) := by decide +kernel
theorem dX3_copyFrom_39 : decode cX3_copyFrom 39 = .ok (.aload_n 0, 1) := by decide +kernel
theorem dX3_copyFrom_40 : decode cX3_copyFrom 40 = .ok (.aload_n 1, 1) := by decide +kernel
theorem dX3_copyFrom_41 : decode cX3_copyFrom 41 = .ok (.getfield 42, 3) := by decide +kernel
theorem dX3_copyFrom_44 : decode cX3_copyFrom 44 = .ok (.putfield 42, 3) := by decide +kernel
theorem dX3_copyFrom_47 : decode cX3_copyFrom 47 = .ok (.iconst 0, 1) := by decide +kernel
theorem dX3_copyFrom_48 : decode cX3_copyFrom 48 = .ok (.istore_n 2, 1) := by decide +kernel
theorem dX3_copyFrom_49 : decode cX3_copyFrom 49 = .ok (.iload_n 2, 1) := by decide +kernel
theorem dX3_copyFrom_50 : decode cX3_copyFrom 50 = .ok (.aload_n 0, 1) := by decide +kernel
theorem dX3_copyFrom_51 : decode cX3_copyFrom 51 = .ok (.getfield 42, 3) := by decide +kernel
theorem dX3_copyFrom_54 : decode cX3_copyFrom 54 = .ok (.if_icmp .ge 24, 3) := by decide +kernel
theorem dX3_copyFrom_57 : decode cX3_copyFrom 57 = .ok (.aload_n 0, 1) := by decide +kernel
theorem dX3_copyFrom_58 : decode cX3_copyFrom 58 = .ok (.getfield 22, 3) := by decide +kernel
theorem dX3_copyFrom_61 : decode cX3_copyFrom 61 = .ok (.iload_n 2, 1) := by decide +kernel
theorem dX3_copyFrom_62 : decode cX3_copyFrom 62 = .ok (.aaload, 1) := by decide +kernel
theorem dX3_copyFrom_63 : decode cX3_copyFrom 63 = .ok (.aload_n 1, 1) := by decide +kernel
theorem dX3_copyFrom_64 : decode cX3_copyFrom 64 = .ok (.getfield 22, 3) := by decide +kernel
theorem dX3_copyFrom_67 : decode cX3_copyFrom 67 = .ok (.iload_n 2, 1) := by decide +kernel
theorem dX3_copyFrom_68 : decode cX3_copyFrom 68 = .ok (.aaload, 1) := by decide +kernel
theorem dX3_copyFrom_69 : decode cX3_copyFrom 69 = .ok (.invokevirtual 45, 3) := by decide +kernel
theorem dX3_copyFrom_72 : decode cX3_copyFrom 72 = .ok (.iinc 2 1, 3) := by decide +kernel
theorem dX3_copyFrom_75 : decode cX3_copyFrom 75 = .ok (.goto (-26), 3) := by decide +kernel
theorem dX3_copyFrom_78 : decode cX3_copyFrom 78 = .ok (.aload_n 1, 1) := by decide +kernel
theorem dX3_copyFrom_79 : decode cX3_copyFrom 79 = .ok (.getfield 27, 3) := by decide +kernel
theorem dX3_copyFrom_82 : decode cX3_copyFrom 82 = .ok (.iconst 0, 1) := by decide +kernel
theorem dX3_copyFrom_83 : decode cX3_copyFrom 83 = .ok (.aload_n 0, 1) := by decide +kernel
theorem dX3_copyFrom_84 : decode cX3_copyFrom 84 = .ok (.getfield 27, 3) := by decide +kernel
theorem dX3_copyFrom_87 : decode cX3_copyFrom 87 = .ok (.iconst 0, 1) := by decide +kernel
theorem dX3_copyFrom_88 : decode cX3_copyFrom 88 = .ok (.iconst 5, 1) := by decide +kernel
theorem dX3_copyFrom_89 : decode cX3_copyFrom 89 = .ok (.invokestatic 48, 3) := by decide +kernel
theorem dX3_copyFrom_92 : decode cX3_copyFrom 92 = .ok (.aload_n 0, 1) := by decide +kernel
theorem dX3_copyFrom_93 : decode cX3_copyFrom 93 = .ok (.aload_n 1, 1) := by decide +kernel
theorem dX3_copyFrom_94 : decode cX3_copyFrom 94 = .ok (.getfield 54, 3) := by decide +kernel
theorem dX3_copyFrom_97 : decode cX3_copyFrom 97 = .ok (.putfield 54, 3) := by decide +kernel
theorem dX3_copyFrom_100 : decode cX3_copyFrom 100 = .ok (.aload_n 0, 1) := by decide +kernel
theorem dX3_copyFrom_101 : decode cX3_copyFrom 101 = .ok (.aload_n 1, 1) := by decide +kernel
theorem dX3_copyFrom_102 : decode cX3_copyFrom 102 = .ok (.getfield 57, 3) := by decide +kernel
theorem dX3_copyFrom_105 : decode cX3_copyFrom 105 = .ok (.putfield 57, 3) := by decide +kernel
theorem dX3_copyFrom_108 : decode cX3_copyFrom 108 = .ok (.aload_n 0, 1) := by decide +kernel
theorem dX3_copyFrom_109 : decode cX3_copyFrom 109 = .ok (.aload_n 1, 1) := by decide +kernel
theorem dX3_copyFrom_110 : decode cX3_copyFrom 110 = .ok (.getfield 31, 3) := by decide +kernel
theorem dX3_copyFrom_113 : decode cX3_copyFrom 113 = .ok (.putfield 31, 3) := by decide +kernel
theorem dX3_copyFrom_116 : decode cX3_copyFrom 116 = .ok (.return_, 1) := by decide +kernel
set_option maxRecDepth 20000 in
theorem ggX3_passDays_X3_passOneDay : GoodIn wsX3_passDays wsX3_passOneDay := goodIn_r _ [5, 6, 7, 8, 9, 10, 11, 12, 13, 14, 15, 16, 17, 18, 19, 20, 21, 22, 23, 24, 25, 26, 27, 28, 29, 30, 31, 32, 33, 34, 35, 36, 37, 4, 38, 39, 40, 41, 42, 43, 44, 45, 46, 47, 48, 49, 50, 51, 52, 53, 54, 55, 56, 57, 58, 59, 60, 61, 62, 63, 64, 65, 66, 67, 68, 69, 70, 71, 72, 73, 74, 75, 76, 77, 78, 79, 80, 81, 82, 83, 84, 85, 86] (by decide +kernel) (by decide +kernel)
set_option maxRecDepth 20000 in
theorem gX3_passDays_X3_passOneDay : GoodIn wsX3_passDays (wsV RX3 60 RX3 yX3_passOneDay wsX3_passOneDay) := goodIn_app (goodIn_of _ (by decide +kernel)) ggX3_passDays_X3_passOneDay
theorem dX3_passDays_0 : decode cX3_passDays 0 = .ok (.iconst 0, 1) := by decide +kernel
theorem dX3_passDays_1 : decode cX3_passDays 1 = .ok (.istore_n 2, 1) := by decide +kernel
theorem dX3_passDays_2 : decode cX3_passDays 2 = .ok (.iconst 0, 1) := by decide +kernel
theorem dX3_passDays_3 : decode cX3_passDays 3 = .ok (.istore_n 3, 1) := by decide +kernel
theorem dX3_passDays_4 : decode cX3_passDays 4 = .ok (.iload_n 3, 1) := by decide +kernel
theorem dX3_passDays_5 : decode cX3_passDays 5 = .ok (.iload_n 1, 1) := by decide +kernel
theorem dX3_passDays_6 : decode cX3_passDays 6 = .ok (.if_icmp .ge 16, 3) := by decide +kernel
theorem dX3_passDays_9 : decode cX3_passDays 9 = .ok (.iload_n 2, 1) := by decide +kernel
theorem dX3_passDays_10 : decode cX3_passDays 10 = .ok (.aload_n 0, 1) := by decide +kernel
theorem dX3_passDays_11 : decode cX3_passDays 11 = .ok (.invokevirtual 60, 3) := by decide +kernel
theorem dX3_passDays_14 : decode cX3_passDays 14 = .ok (.iadd, 1) := by decide +kernel
theorem dX3_passDays_15 : decode cX3_passDays 15 = .ok (.istore_n 2, 1) := by decide +kernel
theorem dX3_passDays_16 : decode cX3_passDays 16 = .ok (.iinc 3 1, 3) := by decide +kernel
theorem dX3_passDays_19 : decode cX3_passDays 19 = .ok (.goto (-15), 3) := by decide +kernel
theorem dX3_passDays_22 : decode cX3_passDays 22 = .ok (.iload_n 2, 1) := by decide +kernel
theorem dX3_passDays_23 : decode cX3_passDays 23 = .ok (.ireturn, 1) := by decide +kernel
set_option maxRecDepth 20000 in
theorem ggX3_passOneDay_X1_rustForADay : GoodIn wsX3_passOneDay wsX1_rustForADay := goodIn_r _ [11, 12, 13, 14, 15, 16, 17, 18, 19, 20, 10, 21, 22, 23, 24, 25, 26, 27, 28, 29, 72, 73, 74, 75, 76, 77, 78, 79] (by decide +kernel) (by decide +kernel)
set_option maxRecDepth 20000 in
theorem gX3_passOneDay_X1_rustForADay : GoodIn wsX3_passOneDay (wsV RX3 64 RX1 yX1_rustForADay wsX1_rustForADay) := goodIn_app (goodIn_of _ (by decide +kernel)) ggX3_passOneDay_X1_rustForADay
set_option maxRecDepth 20000 in
theorem ggX3_passOneDay_X3_letJump : GoodIn wsX3_passOneDay wsX3_letJump := goodIn_r _ [34, 1, 2, 35, 36, 37, 38, 39, 40, 41, 42, 43, 44, 45, 46, 47, 48, 10, 49, 22, 12, 50, 51, 52, 26, 53, 54, 55, 56, 57, 58, 59, 60, 61, 62, 63, 13, 64, 65, 66, 67, 68, 69, 70, 71, 80, 81, 82, 72, 73, 74, 75, 76, 77, 78, 79] (by decide +kernel) (by decide +kernel)
set_option maxRecDepth 20000 in
theorem gX3_passOneDay_X3_letJump : GoodIn wsX3_passOneDay (wsV RX3 68 RX3 yX3_letJump wsX3_letJump) := goodIn_app (goodIn_of _ (by decide +kernel)) ggX3_passOneDay_X3_letJump
theorem dX3_passOneDay_0 : decode cX3_passOneDay 0 = .ok (.iconst 0, 1) := by decide +kernel
theorem dX3_passOneDay_1 : decode cX3_passOneDay 1 = .ok (.istore_n 1, 1) := by decide +kernel
theorem dX3_passOneDay_2 : decode cX3_passOneDay 2 = .ok (.iload_n 1, 1) := by decide +kernel
theorem dX3_passOneDay_3 : decode cX3_passOneDay 3 = .ok (.aload_n 0, 1) := by decide +kernel
theorem dX3_passOneDay_4 : decode cX3_passOneDay 4 = .ok (.getfield 35, 3) := by decide +kernel
theorem dX3_passOneDay_7 : decode cX3_passOneDay 7 = .ok (.if_icmp .ge 22, 3) := by decide +kernel
theorem dX3_passOneDay_10 : decode cX3_passOneDay 10 = .ok (.aload_n 0, 1) := by decide +kernel
theorem dX3_passOneDay_11 : decode cX3_passOneDay 11 = .ok (.getfield 11, 3) := by decide +kernel
theorem dX3_passOneDay_14 : decode cX3_passOneDay 14 = .ok (.iload_n 1, 1) := by decide +kernel
theorem dX3_passOneDay_15 : decode cX3_passOneDay 15 = .ok (.aaload, 1) := by decide +kernel
theorem dX3_passOneDay_16 : decode cX3_passOneDay 16 = .ok (.aload_n 0, 1) := by decide +kernel
theorem dX3_passOneDay_17 : decode cX3_passOneDay 17 = .ok (.getfield 57, 3) := by decide +kernel
theorem dX3_passOneDay_20 : decode cX3_passOneDay 20 = .ok (.invokevirtual 64, 3) := by decide +kernel
theorem dX3_passOneDay_23 : decode cX3_passOneDay 23 = .ok (.iinc 1 1, 3) := by decide +kernel
theorem dX3_passOneDay_26 : decode cX3_passOneDay 26 = .ok (.goto (-24), 3) := by decide +kernel
theorem dX3_passOneDay_29 : decode cX3_passOneDay 29 = .ok (.iconst 0, 1) := by decide +kernel
theorem dX3_passOneDay_30 : decode cX3_passOneDay 30 = .ok (.istore_n 1, 1) := by decide +kernel
theorem dX3_passOneDay_31 : decode cX3_passOneDay 31 = .ok (.aload_n 0, 1) := by decide +kernel
theorem dX3_passOneDay_32 : decode cX3_passOneDay 32 = .ok (.getfield 35, 3) := by decide +kernel
theorem dX3_passOneDay_35 : decode cX3_passOneDay 35 = .ok (.ifCond .le 32, 3) := by decide +kernel
theorem dX3_passOneDay_38 : decode cX3_passOneDay 38 = .ok (.iconst 0, 1) := by decide +kernel
theorem dX3_passOneDay_39 : decode cX3_passOneDay 39 = .ok (.istore_n 2, 1) := by decide +kernel
theorem dX3_passOneDay_40 : decode cX3_passOneDay 40 = .ok (.iload_n 2, 1) := by decide +kernel
theorem dX3_passOneDay_41 : decode cX3_passOneDay 41 = .ok (.aload_n 0, 1) := by decide +kernel
theorem dX3_passOneDay_42 : decode cX3_passOneDay 42 = .ok (.getfield 42, 3) := by decide +kernel
theorem dX3_passOneDay_45 : decode cX3_passOneDay 45 = .ok (.if_icmp .ge 22, 3) := by decide +kernel
theorem dX3_passOneDay_48 : decode cX3_passOneDay 48 = .ok (.iload_n 1, 1) := by decide +kernel
theorem dX3_passOneDay_49 : decode cX3_passOneDay 49 = .ok (.aload_n 0, 1) := by decide +kernel
theorem dX3_passOneDay_50 : decode cX3_passOneDay 50 = .ok (.aload_n 0, 1) := by decide +kernel
theorem dX3_passOneDay_51 : decode cX3_passOneDay 51 = .ok (.getfield 22, 3) := by decide +kernel
theorem dX3_passOneDay_54 : decode cX3_passOneDay 54 = .ok (.iload_n 2, 1) := by decide +kernel
theorem dX3_passOneDay_55 : decode cX3_passOneDay 55 = .ok (.aaload, 1) := by decide +kernel
theorem dX3_passOneDay_56 : decode cX3_passOneDay 56 = .ok (.invokevirtual 68, 3) := by decide +kernel
theorem dX3_passOneDay_59 : decode cX3_passOneDay 59 = .ok (.iadd, 1) := by decide +kernel
theorem dX3_passOneDay_60 : decode cX3_passOneDay 60 = .ok (.istore_n 1, 1) := by decide +kernel
theorem dX3_passOneDay_61 : decode cX3_passOneDay 61 = .ok (.iinc 2 1, 3) := by decide +kernel
theorem dX3_passOneDay_64 : decode cX3_passOneDay 64 = .ok (.goto (-24), 3) := by decide +kernel
theorem dX3_passOneDay_67 : decode cX3_passOneDay 67 = .ok (.aload_n 0, 1) := by decide +kernel
theorem dX3_passOneDay_68 : decode cX3_passOneDay 68 = .ok (.dup, 1) := by decide +kernel
theorem dX3_passOneDay_69 : decode cX3_passOneDay 69 = .ok (.getfield 54, 3) := by decide +kernel
theorem dX3_passOneDay_72 : decode cX3_passOneDay 72 = .ok (.iconst 1, 1) := by decide +kernel
theorem dX3_passOneDay_73 : decode cX3_passOneDay 73 = .ok (.iadd, 1) := by decide +kernel
theorem dX3_passOneDay_74 : decode cX3_passOneDay 74 = .ok (.putfield 54, 3) := by decide +kernel
theorem dX3_passOneDay_77 : decode cX3_passOneDay 77 = .ok (.iload_n 1, 1) := by decide +kernel
theorem dX3_passOneDay_78 : decode cX3_passOneDay 78 = .ok (.ireturn, 1) := by decide +kernel
set_option maxRecDepth 20000 in
theorem ggX3_letJump_X0_jump : GoodIn wsX3_letJump wsX0_jump := goodIn_r _ [11, 12, 13, 45, 46, 47] (by decide +kernel) (by decide +kernel)
set_option maxRecDepth 20000 in
theorem gX3_letJump_X0_jump : GoodIn wsX3_letJump (wsV RX3 72 RX0 yX0_jump wsX0_jump) := goodIn_app (goodIn_of _ (by decide +kernel)) ggX3_letJump_X0_jump
set_option maxRecDepth 20000 in
theorem ggX3_letJump_X1_hasBrokenLayer : GoodIn wsX3_letJump wsX1_hasBrokenLayer := goodIn_r _ [18, 19, 20, 21, 22, 23, 24, 25, 26, 27, 28, 29, 30, 31, 48, 49, 50, 51, 52, 53, 54, 55] (by decide +kernel) (by decide +kernel)
set_option maxRecDepth 20000 in
theorem gX3_letJump_X1_hasBrokenLayer : GoodIn wsX3_letJump (wsV RX3 78 RX1 yX1_hasBrokenLayer wsX1_hasBrokenLayer) := goodIn_app (goodIn_of _ (by decide +kernel)) ggX3_letJump_X1_hasBrokenLayer
set_option maxRecDepth 20000 in
theorem ggX3_letJump_X1_takeTop : GoodIn wsX3_letJump wsX1_takeTop := goodIn_r _ [35, 20, 36, 48, 49, 50, 51] (by decide +kernel) (by decide +kernel)
set_option maxRecDepth 20000 in
theorem gX3_letJump_X1_takeTop : GoodIn wsX3_letJump (wsV RX3 82 RX1 yX1_takeTop wsX1_takeTop) := goodIn_app (goodIn_of _ (by decide +kernel)) ggX3_letJump_X1_takeTop
theorem dX3_letJump_0 : decode cX3_letJump 0 = .ok (.aload_n 1, 1) := by decide +kernel
theorem dX3_letJump_1 : decode cX3_letJump 1 = .ok (.aload_n 0, 1) := by decide +kernel
theorem dX3_letJump_2 : decode cX3_letJump 2 = .ok (.getfield 35, 3) := by decide +kernel
theorem dX3_letJump_5 : decode cX3_letJump 5 = .ok (.invokevirtual 72, 3) := by decide +kernel
theorem dX3_letJump_8 : decode cX3_letJump 8 = .ok (.aload_n 0, 1) := by decide +kernel
theorem dX3_letJump_9 : decode cX3_letJump 9 = .ok (.getfield 11, 3) := by decide +kernel
theorem dX3_letJump_12 : decode cX3_letJump 12 = .ok (.aload_n 1, 1) := by decide +kernel
theorem dX3_letJump_13 : decode cX3_letJump 13 = .ok (.getfield 75, 3) := by decide +kernel
theorem dX3_letJump_16 : decode cX3_letJump 16 = .ok (.aaload, 1) := by decide +kernel
theorem dX3_letJump_17 : decode cX3_letJump 17 = .ok (.astore_n 2, 1) := by decide +kernel
theorem dX3_letJump_18 : decode cX3_letJump 18 = .ok (.aload_n 2, 1) := by decide +kernel
theorem dX3_letJump_19 : decode cX3_letJump 19 = .ok (.invokevirtual 78, 3) := by decide +kernel
theorem dX3_letJump_22 : decode cX3_letJump 22 = .ok (.ifCond .ne 5, 3) := by decide +kernel
theorem dX3_letJump_25 : decode cX3_letJump 25 = .ok (.iconst 0, 1) := by decide +kernel
theorem dX3_letJump_26 : decode cX3_letJump 26 = .ok (.ireturn, 1) := by decide +kernel
theorem dX3_letJump_27 : decode cX3_letJump 27 = .ok (.aload_n 2, 1) := by decide +kernel
theorem dX3_letJump_28 : decode cX3_letJump 28 = .ok (.invokevirtual 82, 3) := by decide +kernel
theorem dX3_letJump_31 : decode cX3_letJump 31 = .ok (.pop, 1) := by decide +kernel
theorem dX3_letJump_32 : decode cX3_letJump 32 = .ok (.aload_n 0, 1) := by decide +kernel
theorem dX3_letJump_33 : decode cX3_letJump 33 = .ok (.getfield 27, 3) := by decide +kernel
theorem dX3_letJump_36 : decode cX3_letJump 36 = .ok (.aload_n 2, 1) := by decide +kernel
theorem dX3_letJump_37 : decode cX3_letJump 37 = .ok (.getfield 85, 3) := by decide +kernel
theorem dX3_letJump_40 : decode cX3_letJump 40 = .ok (.dup2, 1) := by decide +kernel
theorem dX3_letJump_41 : decode cX3_letJump 41 = .ok (.iaload, 1) := by decide +kernel
theorem dX3_letJump_42 : decode cX3_letJump 42 = .ok (.iconst 1, 1) := by decide +kernel
theorem dX3_letJump_43 : decode cX3_letJump 43 = .ok (.iadd, 1) := by decide +kernel
theorem dX3_letJump_44 : decode cX3_letJump 44 = .ok (.iastore, 1) := by decide +kernel
theorem dX3_letJump_45 : decode cX3_letJump 45 = .ok (.aload_n 1, 1) := by decide +kernel
theorem dX3_letJump_46 : decode cX3_letJump 46 = .ok (.dup, 1) := by decide +kernel
theorem dX3_letJump_47 : decode cX3_letJump 47 = .ok (.getfield 88, 3) := by decide +kernel
theorem dX3_letJump_50 : decode cX3_letJump 50 = .ok (.iconst 1, 1) := by decide +kernel
theorem dX3_letJump_51 : decode cX3_letJump 51 = .ok (.iadd, 1) := by decide +kernel
theorem dX3_letJump_52 : decode cX3_letJump 52 = .ok (.putfield 88, 3) := by decide +kernel
theorem dX3_letJump_55 : decode cX3_letJump 55 = .ok (.iconst 1, 1) := by decide +kernel
theorem dX3_letJump_56 : decode cX3_letJump 56 = .ok (.ireturn, 1) := by decide +kernel
theorem dX3_ballsOfCalibre_0 : decode cX3_ballsOfCalibre 0 = .ok (.iconst 0, 1) := by decide +kernel
theorem dX3_ballsOfCalibre_1 : decode cX3_ballsOfCalibre 1 = .ok (.istore_n 2, 1) := by decide +kernel
theorem dX3_ballsOfCalibre_2 : decode cX3_ballsOfCalibre 2 = .ok (.iconst 0, 1) := by decide +kernel
theorem dX3_ballsOfCalibre_3 : decode cX3_ballsOfCalibre 3 = .ok (.istore_n 3, 1) := by decide +kernel
theorem dX3_ballsOfCalibre_4 : decode cX3_ballsOfCalibre 4 = .ok (.iload_n 3, 1) := by decide +kernel
theorem dX3_ballsOfCalibre_5 : decode cX3_ballsOfCalibre 5 = .ok (.aload_n 0, 1) := by decide +kernel
theorem dX3_ballsOfCalibre_6 : decode cX3_ballsOfCalibre 6 = .ok (.getfield 35, 3) := by decide +kernel
theorem dX3_ballsOfCalibre_9 : decode cX3_ballsOfCalibre 9 = .ok (.if_icmp .ge 34, 3) := by decide +kernel
theorem dX3_ballsOfCalibre_12 : decode cX3_ballsOfCalibre 12 = .ok (.aload_n 0, 1) := by decide +kernel
theorem dX3_ballsOfCalibre_13 : decode cX3_ballsOfCalibre 13 = .ok (.getfield 11, 3) := by decide +kernel
theorem dX3_ballsOfCalibre_16 : decode cX3_ballsOfCalibre 16 = .ok (.iload_n 3, 1) := by decide +kernel
theorem dX3_ballsOfCalibre_17 : decode cX3_ballsOfCalibre 17 = .ok (.aaload, 1) := by decide +kernel
theorem dX3_ballsOfCalibre_18 : decode cX3_ballsOfCalibre 18 = .ok (.getfield 85, 3) := by decide +kernel
theorem dX3_ballsOfCalibre_21 : decode cX3_ballsOfCalibre 21 = .ok (.iload_n 1, 1) := by decide +kernel
theorem dX3_ballsOfCalibre_22 : decode cX3_ballsOfCalibre 22 = .ok (.if_icmp .ne 15, 3) := by decide +kernel
theorem dX3_ballsOfCalibre_25 : decode cX3_ballsOfCalibre 25 = .ok (.iload_n 2, 1) := by decide +kernel
theorem dX3_ballsOfCalibre_26 : decode cX3_ballsOfCalibre 26 = .ok (.aload_n 0, 1) := by decide +kernel
theorem dX3_ballsOfCalibre_27 : decode cX3_ballsOfCalibre 27 = .ok (.getfield 11, 3) := by decide +kernel
theorem dX3_ballsOfCalibre_30 : decode cX3_ballsOfCalibre 30 = .ok (.iload_n 3, 1) := by decide +kernel
theorem dX3_ballsOfCalibre_31 : decode cX3_ballsOfCalibre 31 = .ok (.aaload, 1) := by decide +kernel
theorem dX3_ballsOfCalibre_32 : decode cX3_ballsOfCalibre 32 = .ok (.getfield 91, 3) := by decide +kernel
theorem dX3_ballsOfCalibre_35 : decode cX3_ballsOfCalibre 35 = .ok (.iadd, 1) := by decide +kernel
theorem dX3_ballsOfCalibre_36 : decode cX3_ballsOfCalibre 36 = .ok (.istore_n 2, 1) := by decide +kernel
theorem dX3_ballsOfCalibre_37 : decode cX3_ballsOfCalibre 37 = .ok (.iinc 3 1, 3) := by decide +kernel
theorem dX3_ballsOfCalibre_40 : decode cX3_ballsOfCalibre 40 = .ok (.goto (-36), 3) := by decide +kernel
theorem dX3_ballsOfCalibre_43 : decode cX3_ballsOfCalibre 43 = .ok (.iload_n 2, 1) := by decide +kernel
theorem dX3_ballsOfCalibre_44 : decode cX3_ballsOfCalibre 44 = .ok (.ireturn, 1) := by decide +kernel
set_option maxRecDepth 20000 in
theorem ggX3_ballCount_X4_sum : GoodIn wsX3_ballCount wsX4_sum := goodIn_r _ [8] (by decide +kernel) (by decide +kernel)
set_option maxRecDepth 20000 in
theorem gX3_ballCount_X4_sum_n94 : GoodIn wsX3_ballCount (wsX4_sum) := ggX3_ballCount_X4_sum
set_option maxRecDepth 20000 in
theorem ggX3_ballCount_X1_rustyBalls : GoodIn wsX3_ballCount wsX1_rustyBalls := goodIn_r _ [13, 14, 15, 24, 25, 26, 27] (by decide +kernel) (by decide +kernel)
set_option maxRecDepth 20000 in
theorem gX3_ballCount_X1_rustyBalls : GoodIn wsX3_ballCount (wsV RX3 98 RX1 yX1_rustyBalls wsX1_rustyBalls) := goodIn_app (goodIn_of _ (by decide +kernel)) ggX3_ballCount_X1_rustyBalls
theorem dX3_ballCount_0 : decode cX3_ballCount 0 = .ok (.iload_n 1, 1) := by decide +kernel
theorem dX3_ballCount_1 : decode cX3_ballCount 1 = .ok (.iconst 4, 1) := by decide +kernel
theorem dX3_ballCount_2 : decode cX3_ballCount 2 = .ok (.if_icmp .ne 11, 3) := by decide +kernel
theorem dX3_ballCount_5 : decode cX3_ballCount 5 = .ok (.aload_n 0, 1) := by decide +kernel
theorem dX3_ballCount_6 : decode cX3_ballCount 6 = .ok (.getfield 27, 3) := by decide +kernel
theorem dX3_ballCount_9 : decode cX3_ballCount 9 = .ok (.invokestatic 94, 3) := by decide +kernel
theorem dX3_ballCount_12 : decode cX3_ballCount 12 = .ok (.ireturn, 1) := by decide +kernel
theorem dX3_ballCount_13 : decode cX3_ballCount 13 = .ok (.iconst 0, 1) := by decide +kernel
theorem dX3_ballCount_14 : decode cX3_ballCount 14 = .ok (.istore_n 2, 1) := by decide +kernel
theorem dX3_ballCount_15 : decode cX3_ballCount 15 = .ok (.iconst 0, 1) := by decide +kernel
theorem dX3_ballCount_16 : decode cX3_ballCount 16 = .ok (.istore_n 3, 1) := by decide +kernel
theorem dX3_ballCount_17 : decode cX3_ballCount 17 = .ok (.iload_n 3, 1) := by decide +kernel
theorem dX3_ballCount_18 : decode cX3_ballCount 18 = .ok (.aload_n 0, 1) := by decide +kernel
theorem dX3_ballCount_19 : decode cX3_ballCount 19 = .ok (.getfield 35, 3) := by decide +kernel
theorem dX3_ballCount_22 : decode cX3_ballCount 22 = .ok (.if_icmp .ge 43, 3) := by decide +kernel
theorem dX3_ballCount_25 : decode cX3_ballCount 25 = .ok (.iload_n 2, 1) := by decide +kernel
theorem dX3_ballCount_26 : decode cX3_ballCount 26 = .ok (.iload_n 1, 1) := by decide +kernel
theorem dX3_ballCount_27 : decode cX3_ballCount 27 = .ok (.bipush 6, 2) := by decide +kernel
theorem dX3_ballCount_29 : decode cX3_ballCount 29 = .ok (.if_icmp .ne 19, 3) := by decide +kernel
theorem dX3_ballCount_32 : decode cX3_ballCount 32 = .ok (.aload_n 0, 1) := by decide +kernel
theorem dX3_ballCount_33 : decode cX3_ballCount 33 = .ok (.getfield 11, 3) := by decide +kernel
theorem dX3_ballCount_36 : decode cX3_ballCount 36 = .ok (.iload_n 3, 1) := by decide +kernel
theorem dX3_ballCount_37 : decode cX3_ballCount 37 = .ok (.aaload, 1) := by decide +kernel
theorem dX3_ballCount_38 : decode cX3_ballCount 38 = .ok (.aload_n 0, 1) := by decide +kernel
theorem dX3_ballCount_39 : decode cX3_ballCount 39 = .ok (.getfield 31, 3) := by decide +kernel
theorem dX3_ballCount_42 : decode cX3_ballCount 42 = .ok (.invokevirtual 98, 3) := by decide +kernel
theorem dX3_ballCount_45 : decode cX3_ballCount 45 = .ok (.goto 12, 3) := by decide +kernel
theorem dX3_ballCount_48 : decode cX3_ballCount 48 = .ok (.aload_n 0, 1) := by decide +kernel
theorem dX3_ballCount_49 : decode cX3_ballCount 49 = .ok (.getfield 11, 3) := by decide +kernel
theorem dX3_ballCount_52 : decode cX3_ballCount 52 = .ok (.iload_n 3, 1) := by decide +kernel
theorem dX3_ballCount_53 : decode cX3_ballCount 53 = .ok (.aaload, 1) := by decide +kernel
theorem dX3_ballCount_54 : decode cX3_ballCount 54 = .ok (.getfield 91, 3) := by decide +kernel
theorem dX3_ballCount_57 : decode cX3_ballCount 57 = .ok (.iadd, 1) := by decide +kernel
theorem dX3_ballCount_58 : decode cX3_ballCount 58 = .ok (.istore_n 2, 1) := by decide +kernel
theorem dX3_ballCount_59 : decode cX3_ballCount 59 = .ok (.iinc 3 1, 3) := by decide +kernel
theorem dX3_ballCount_62 : decode cX3_ballCount 62 = .ok (.goto (-45), 3) := by decide +kernel
theorem dX3_ballCount_65 : decode cX3_ballCount 65 = .ok (.iload_n 2, 1) := by decide +kernel
theorem dX3_ballCount_66 : decode cX3_ballCount 66 = .ok (.ireturn, 1) := by decide +kernel
end
section
set_option maxRecDepth 20000 in
theorem ggX4_init_X2_init : GoodIn wsX4_init wsX2_init := goodIn_r _ [19, 20, 2, 3, 21, 22, 8, 23, 24, 25, 26, 27, 28, 29, 30, 7, 31, 63, 64, 65, 66] (by decide +kernel) (by decide +kernel)
set_option maxRecDepth 20000 in
theorem gX4_init_X2_init : GoodIn wsX4_init (wsX2_init) := ggX4_init_X2_init
set_option maxRecDepth 20000 in
theorem ggX4_init_X3_init : GoodIn wsX4_init wsX3_init := goodIn_r _ [34, 35, 2, 3, 36, 37, 38, 39, 40, 41, 42, 43, 8, 44, 45, 46, 47, 48, 49, 50, 51, 52, 53, 54, 55, 56, 67, 68, 69, 70, 71, 72, 73, 74, 75, 76, 77, 78, 79, 80, 81] (by decide +kernel) (by decide +kernel)
set_option maxRecDepth 20000 in
theorem gX4_init_X3_init : GoodIn wsX4_init (wsX3_init) := ggX4_init_X3_init
theorem dX4_init_0 : decode cX4_init 0 = .ok (.aload_n 0, 1) := by decide +kernel
theorem dX4_init_1 : decode cX4_init 1 = .ok (.invokespecial 1, 3) := by decide +kernel
theorem dX4_init_4 : decode cX4_init 4 = .ok (.aload_n 0, 1) := by decide +kernel
theorem dX4_init_5 : decode cX4_init 5 = .ok (.bipush 6, 2) := by decide +kernel
theorem dX4_init_7 : decode cX4_init 7 = .ok (.anewarray 9, 3) := by decide +kernel
theorem dX4_init_10 : decode cX4_init 10 = .ok (.putfield 11, 3) := by decide +kernel
theorem dX4_init_13 : decode cX4_init 13 = .ok (.iconst 0, 1) := by decide +kernel
theorem dX4_init_14 : decode cX4_init 14 = .ok (.istore_n 1, 1) := by decide +kernel
theorem dX4_init_15 : decode cX4_init 15 = .ok (.iload_n 1, 1) := by decide +kernel
theorem dX4_init_16 : decode cX4_init 16 = .ok (.bipush 6, 2) := by decide +kernel
theorem dX4_init_18 : decode cX4_init 18 = .ok (.if_icmp .ge 25, 3) := by decide +kernel
theorem dX4_init_21 : decode cX4_init 21 = .ok (.aload_n 0, 1) := by decide +kernel
theorem dX4_init_22 : decode cX4_init 22 = .ok (.getfield 11, 3) := by decide +kernel
theorem dX4_init_25 : decode cX4_init 25 = .ok (.iload_n 1, 1) := by decide +kernel
theorem dX4_init_26 : decode cX4_init 26 = .ok (.new 9, 3) := by decide +kernel
theorem dX4_init_29 : decode cX4_init 29 = .ok (.dup, 1) := by decide +kernel
theorem dX4_init_30 : decode cX4_init 30 = .ok (.iload_n 1, 1) := by decide +kernel
theorem dX4_init_31 : decode cX4_init 31 = .ok (.iconst 1, 1) := by decide +kernel
theorem dX4_init_32 : decode cX4_init 32 = .ok (.iadd, 1) := by decide +kernel
theorem dX4_init_33 : decode cX4_init 33 = .ok (.invokespecial 15, 3) := by decide +kernel
theorem dX4_init_36 : decode cX4_init 36 = .ok (.aastore, 1) := by decide +kernel
theorem dX4_init_37 : decode cX4_init 37 = .ok (.iinc 1 1, 3) := by decide +kernel
theorem dX4_init_40 : decode cX4_init 40 = .ok (.goto (-25), 3) := by decide +kernel
theorem dX4_init_43 : decode cX4_init 43 = .ok (.aload_n 0, 1) := by decide +kernel
theorem dX4_init_44 : decode cX4_init 44 = .ok (.iconst 5, 1) := by decide +kernel
theorem dX4_init_45 : decode cX4_init 45 = .ok (.newarray .int, 2) := by decide +kernel
theorem dX4_init_47 : decode cX4_init 47 = .ok (.putfield 18, 3) := by decide +kernel
theorem dX4_init_50 : decode cX4_init 50 = .ok (.aload_n 0, 1) := by decide +kernel
theorem dX4_init_51 : decode cX4_init 51 = .ok (.iconst 5, 1) := by decide +kernel
theorem dX4_init_52 : decode cX4_init 52 = .ok (.newarray .int, 2) := by decide +kernel
theorem dX4_init_54 : decode cX4_init 54 = .ok (.putfield 22, 3) := by decide +kernel
theorem dX4_init_57 : decode cX4_init 57 = .ok (.aload_n 0, 1) := by decide +kernel
theorem dX4_init_58 : decode cX4_init 58 = .ok (.iconst 5, 1) := by decide +kernel
theorem dX4_init_59 : decode cX4_init 59 = .ok (.newarray .int, 2) := by decide +kernel
theorem dX4_init_61 : decode cX4_init 61 = .ok (.putfield 25, 3) := by decide +kernel
theorem dX4_init_64 : decode cX4_init 64 = .ok (.aload_n 0, 1) := by decide +kernel
theorem dX4_init_65 : decode cX4_init 65 = .ok (.new 28, 3) := by decide +kernel
theorem dX4_init_68 : decode cX4_init 68 = .ok (.dup, 1) := by decide +kernel
theorem dX4_init_69 : decode cX4_init 69 = .ok (.aload_n 0, 1) := by decide +kernel
theorem dX4_init_70 : decode cX4_init 70 = .ok (.getfield 11, 3) := by decide +kernel
theorem dX4_init_73 : decode cX4_init 73 = .ok (.iconst 0, 1) := by decide +kernel
theorem dX4_init_74 : decode cX4_init 74 = .ok (.aaload, 1) := by decide +kernel
theorem dX4_init_75 : decode cX4_init 75 = .ok (.invokespecial 30, 3) := by decide +kernel
theorem dX4_init_78 : decode cX4_init 78 = .ok (.putfield 33, 3) := by decide +kernel
theorem dX4_init_81 : decode cX4_init 81 = .ok (.aload_n 0, 1) := by decide +kernel
theorem dX4_init_82 : decode cX4_init 82 = .ok (.new 28, 3) := by decide +kernel
theorem dX4_init_85 : decode cX4_init 85 = .ok (.dup, 1) := by decide +kernel
theorem dX4_init_86 : decode cX4_init 86 = .ok (.aload_n 0, 1) := by decide +kernel
theorem dX4_init_87 : decode cX4_init 87 = .ok (.getfield 11, 3) := by decide +kernel
theorem dX4_init_90 : decode cX4_init 90 = .ok (.iconst 0, 1) := by decide +kernel
theorem dX4_init_91 : decode cX4_init 91 = .ok (.aaload, 1) := by decide +kernel
theorem dX4_init_92 : decode cX4_init 92 = .ok (.invokespecial 30, 3) := by decide +kernel
theorem dX4_init_95 : decode cX4_init 95 = .ok (.putfield 37, 3) := by decide +kernel
theorem dX4_init_98 : decode cX4_init 98 = .ok (.return_, 1) := by decide +kernel
set_option maxRecDepth 20000 in
theorem ggX4_pile_X4_checkCalibre : GoodIn wsX4_pile wsX4_checkCalibre := goodIn_ca (goodIn_r _ [10, 11, 12, 13, 14, 9, 15] (by decide +kernel) (by decide +kernel)) (goodIn_sub (fun _ h => List.mem_cons_of_mem _ (List.mem_append_left _ (List.mem_append_right _ h))) (by decide +kernel))
set_option maxRecDepth 20000 in
theorem gX4_pile_X4_checkCalibre : GoodIn wsX4_pile (va_wsS RX4 40 yX4_checkCalibre wsX4_checkCalibre) := goodIn_app (goodIn_of _ (by decide +kernel)) ggX4_pile_X4_checkCalibre
set_option maxRecDepth 20000 in
theorem ggX4_pile_X4_checkArgument : GoodIn wsX4_pile wsX4_checkArgument := goodIn_ca (goodIn_r _ [18, 19, 20, 13, 14, 9, 15] (by decide +kernel) (by decide +kernel)) (goodIn_sub (fun _ h => List.mem_cons_of_mem _ (List.mem_append_right _ h)) (by decide +kernel))
set_option maxRecDepth 20000 in
theorem gX4_pile_X4_checkArgument : GoodIn wsX4_pile (va_wsS RX4 43 yX4_checkArgument wsX4_checkArgument) := goodIn_app (goodIn_of _ (by decide +kernel)) ggX4_pile_X4_checkArgument
set_option maxRecDepth 20000 in
theorem ggX4_pile_X1_begin : GoodIn wsX4_pile wsX1_begin := goodIn_r _ [25, 26, 27, 28, 43, 44, 45, 46] (by decide +kernel) (by decide +kernel)
set_option maxRecDepth 20000 in
theorem gX4_pile_X1_begin : GoodIn wsX4_pile (wsV RX4 62 RX1 yX1_begin wsX1_begin) := goodIn_app (goodIn_of _ (by decide +kernel)) ggX4_pile_X1_begin
theorem dX4_pile_0 : decode cX4_pile 0 = .ok (.iload_n 1, 1) := by decide +kernel
theorem dX4_pile_1 : decode cX4_pile 1 = .ok (.invokestatic 40, 3) := by decide +kernel
theorem dX4_pile_4 : decode cX4_pile 4 = .ok (.iload_n 2, 1) := by decide +kernel
theorem dX4_pile_5 : decode cX4_pile 5 = .ok (.iconst 1, 1) := by decide +kernel
theorem dX4_pile_6 : decode cX4_pile 6 = .ok (.bipush 6, 2) := by decide +kernel
theorem dX4_pile_8 : decode cX4_pile 8 = .ok (.invokestatic 43, 3) := by decide +kernel
theorem dX4_pile_11 : decode cX4_pile 11 = .ok (.aload_n 0, 1) := by decide +kernel
theorem dX4_pile_12 : decode cX4_pile 12 = .ok (.getfield 33, 3) := by decide +kernel
theorem dX4_pile_15 : decode cX4_pile 15 = .ok (.getfield 47, 3) := by decide +kernel
theorem dX4_pile_18 : decode cX4_pile 18 = .ok (.bipush 6, 2) := by decide +kernel
theorem dX4_pile_20 : decode cX4_pile 20 = .ok (.if_icmp .lt 13, 3) := by decide +kernel
theorem dX4_pile_23 : decode cX4_pile 23 = .ok (.new 51, 3) := by decide +kernel
theorem dX4_pile_26 : decode cX4_pile 26 = .ok (.dup, 1) := by decide +kernel
theorem dX4_pile_27 : decode cX4_pile 27 = .ok (.ldc 53, 2) := by decide +kernel
theorem dX4_pile_29 : decode cX4_pile 29 = .ok (.invokespecial 55, 3) := by decide +kernel
theorem dX4_pile_32 : decode cX4_pile 32 = .ok (.athrow, 1) := by decide +kernel
theorem dX4_pile_33 : decode cX4_pile 33 = .ok (.aload_n 0, 1) := by decide +kernel
theorem dX4_pile_34 : decode cX4_pile 34 = .ok (.getfield 33, 3) := by decide +kernel
theorem dX4_pile_37 : decode cX4_pile 37 = .ok (.getfield 47, 3) := by decide +kernel
theorem dX4_pile_40 : decode cX4_pile 40 = .ok (.istore_n 3, 1) := by decide +kernel
theorem dX4_pile_41 : decode cX4_pile 41 = .ok (.aload_n 0, 1) := by decide +kernel
theorem dX4_pile_42 : decode cX4_pile 42 = .ok (.getfield 33, 3) := by decide +kernel
theorem dX4_pile_45 : decode cX4_pile 45 = .ok (.getfield 58, 3) := by decide +kernel
theorem dX4_pile_48 : decode cX4_pile 48 = .ok (.iload_n 3, 1) := by decide +kernel
theorem dX4_pile_49 : decode cX4_pile 49 = .ok (.aaload, 1) := by decide +kernel
theorem dX4_pile_50 : decode cX4_pile 50 = .ok (.iload_n 1, 1) := by decide +kernel
theorem dX4_pile_51 : decode cX4_pile 51 = .ok (.aload_n 0, 1) := by decide +kernel
theorem dX4_pile_52 : decode cX4_pile 52 = .ok (.getfield 11, 3) := by decide +kernel
theorem dX4_pile_55 : decode cX4_pile 55 = .ok (.iload_n 2, 1) := by decide +kernel
theorem dX4_pile_56 : decode cX4_pile 56 = .ok (.iconst 1, 1) := by decide +kernel
theorem dX4_pile_57 : decode cX4_pile 57 = .ok (.isub, 1) := by decide +kernel
theorem dX4_pile_58 : decode cX4_pile 58 = .ok (.aaload, 1) := by decide +kernel
theorem dX4_pile_59 : decode cX4_pile 59 = .ok (.invokevirtual 62, 3) := by decide +kernel
theorem dX4_pile_62 : decode cX4_pile 62 = .ok (.aload_n 0, 1) := by decide +kernel
theorem dX4_pile_63 : decode cX4_pile 63 = .ok (.getfield 33, 3) := by decide +kernel
theorem dX4_pile_66 : decode cX4_pile 66 = .ok (.dup, 1) := by decide +kernel
theorem dX4_pile_67 : decode cX4_pile 67 = .ok (.getfield 47, 3) := by decide +kernel
theorem dX4_pile_70 : decode cX4_pile 70 = .ok (.iconst 1, 1) := by decide +kernel
theorem dX4_pile_71 : decode cX4_pile 71 = .ok (.iadd, 1) := by decide +kernel
theorem dX4_pile_72 : decode cX4_pile 72 = .ok (.putfield 47, 3) := by decide +kernel
theorem dX4_pile_75 : decode cX4_pile 75 = .ok (.iload_n 3, 1) := by decide +kernel
theorem dX4_pile_76 : decode cX4_pile 76 = .ok (.ireturn, 1) := by decide +kernel
set_option maxRecDepth 20000 in
theorem ggX4_cat_X4_checkArgument : GoodIn wsX4_cat wsX4_checkArgument := goodIn_ca (goodIn_r _ [10, 11, 12, 13, 14, 9, 15] (by decide +kernel) (by decide +kernel)) (goodIn_sub (fun _ h => List.mem_cons_of_mem _ (List.mem_append_right _ h)) (by decide +kernel))
set_option maxRecDepth 20000 in
theorem gX4_cat_X4_checkArgument : GoodIn wsX4_cat (va_wsS RX4 43 yX4_checkArgument wsX4_checkArgument) := goodIn_app (goodIn_of _ (by decide +kernel)) ggX4_cat_X4_checkArgument
theorem dX4_cat_0 : decode cX4_cat 0 = .ok (.iload_n 1, 1) := by decide +kernel
theorem dX4_cat_1 : decode cX4_cat 1 = .ok (.iconst 1, 1) := by decide +kernel
theorem dX4_cat_2 : decode cX4_cat 2 = .ok (.iconst 5, 1) := by decide +kernel
theorem dX4_cat_3 : decode cX4_cat 3 = .ok (.invokestatic 43, 3) := by decide +kernel
theorem dX4_cat_6 : decode cX4_cat 6 = .ok (.aload_n 0, 1) := by decide +kernel
theorem dX4_cat_7 : decode cX4_cat 7 = .ok (.getfield 33, 3) := by decide +kernel
theorem dX4_cat_10 : decode cX4_cat 10 = .ok (.getfield 68, 3) := by decide +kernel
theorem dX4_cat_13 : decode cX4_cat 13 = .ok (.iconst 3, 1) := by decide +kernel
theorem dX4_cat_14 : decode cX4_cat 14 = .ok (.if_icmp .lt 13, 3) := by decide +kernel
theorem dX4_cat_17 : decode cX4_cat 17 = .ok (.new 51, 3) := by decide +kernel
theorem dX4_cat_20 : decode cX4_cat 20 = .ok (.dup, 1) := by decide +kernel
theorem dX4_cat_21 : decode cX4_cat 21 = .ok (.ldc 71, 2) := by decide +kernel
theorem dX4_cat_23 : decode cX4_cat 23 = .ok (.invokespecial 55, 3) := by decide +kernel
theorem dX4_cat_26 : decode cX4_cat 26 = .ok (.athrow, 1) := by decide +kernel
theorem dX4_cat_27 : decode cX4_cat 27 = .ok (.aload_n 0, 1) := by decide +kernel
theorem dX4_cat_28 : decode cX4_cat 28 = .ok (.getfield 33, 3) := by decide +kernel
theorem dX4_cat_31 : decode cX4_cat 31 = .ok (.getfield 68, 3) := by decide +kernel
theorem dX4_cat_34 : decode cX4_cat 34 = .ok (.istore_n 2, 1) := by decide +kernel
theorem dX4_cat_35 : decode cX4_cat 35 = .ok (.aload_n 0, 1) := by decide +kernel
theorem dX4_cat_36 : decode cX4_cat 36 = .ok (.getfield 33, 3) := by decide +kernel
theorem dX4_cat_39 : decode cX4_cat 39 = .ok (.getfield 73, 3) := by decide +kernel
theorem dX4_cat_42 : decode cX4_cat 42 = .ok (.iload_n 2, 1) := by decide +kernel
theorem dX4_cat_43 : decode cX4_cat 43 = .ok (.aaload, 1) := by decide +kernel
theorem dX4_cat_44 : decode cX4_cat 44 = .ok (.iload_n 1, 1) := by decide +kernel
theorem dX4_cat_45 : decode cX4_cat 45 = .ok (.putfield 77, 3) := by decide +kernel
theorem dX4_cat_48 : decode cX4_cat 48 = .ok (.aload_n 0, 1) := by decide +kernel
theorem dX4_cat_49 : decode cX4_cat 49 = .ok (.getfield 33, 3) := by decide +kernel
theorem dX4_cat_52 : decode cX4_cat 52 = .ok (.dup, 1) := by decide +kernel
theorem dX4_cat_53 : decode cX4_cat 53 = .ok (.getfield 68, 3) := by decide +kernel
theorem dX4_cat_56 : decode cX4_cat 56 = .ok (.iconst 1, 1) := by decide +kernel
theorem dX4_cat_57 : decode cX4_cat 57 = .ok (.iadd, 1) := by decide +kernel
theorem dX4_cat_58 : decode cX4_cat 58 = .ok (.putfield 68, 3) := by decide +kernel
theorem dX4_cat_61 : decode cX4_cat 61 = .ok (.iload_n 2, 1) := by decide +kernel
theorem dX4_cat_62 : decode cX4_cat 62 = .ok (.ireturn, 1) := by decide +kernel
set_option maxRecDepth 20000 in
theorem ggX4_give_X4_checkCalibre : GoodIn wsX4_give wsX4_checkCalibre := goodIn_ca (goodIn_r _ [5, 6, 7, 8, 9, 4, 10] (by decide +kernel) (by decide +kernel)) (goodIn_sub (fun _ h => List.mem_cons_of_mem _ (List.mem_append_left _ (List.mem_append_right _ h))) (by decide +kernel))
set_option maxRecDepth 20000 in
theorem gX4_give_X4_checkCalibre : GoodIn wsX4_give (va_wsS RX4 40 yX4_checkCalibre wsX4_checkCalibre) := goodIn_app (goodIn_of _ (by decide +kernel)) ggX4_give_X4_checkCalibre
set_option maxRecDepth 20000 in
theorem ggX4_give_X4_checkArgument : GoodIn wsX4_give wsX4_checkArgument := goodIn_ca (goodIn_r _ [13, 14, 15, 8, 9, 4, 10] (by decide +kernel) (by decide +kernel)) (goodIn_sub (fun _ h => List.mem_cons_of_mem _ (List.mem_append_right _ h)) (by decide +kernel))
set_option maxRecDepth 20000 in
theorem gX4_give_X4_checkArgument : GoodIn wsX4_give (va_wsS RX4 43 yX4_checkArgument wsX4_checkArgument) := goodIn_app (goodIn_of _ (by decide +kernel)) ggX4_give_X4_checkArgument
theorem dX4_give_0 : decode cX4_give 0 = .ok (.iload_n 1, 1) := by decide +kernel
theorem dX4_give_1 : decode cX4_give 1 = .ok (.invokestatic 40, 3) := by decide +kernel
theorem dX4_give_4 : decode cX4_give 4 = .ok (.iload_n 2, 1) := by decide +kernel
theorem dX4_give_5 : decode cX4_give 5 = .ok (.iconst 1, 1) := by decide +kernel
theorem dX4_give_6 : decode cX4_give 6 = .ok (.bipush 99, 2) := by decide +kernel
theorem dX4_give_8 : decode cX4_give 8 = .ok (.invokestatic 43, 3) := by decide +kernel
theorem dX4_give_11 : decode cX4_give 11 = .ok (.aload_n 0, 1) := by decide +kernel
theorem dX4_give_12 : decode cX4_give 12 = .ok (.getfield 18, 3) := by decide +kernel
theorem dX4_give_15 : decode cX4_give 15 = .ok (.iload_n 1, 1) := by decide +kernel
theorem dX4_give_16 : decode cX4_give 16 = .ok (.dup2, 1) := by decide +kernel
theorem dX4_give_17 : decode cX4_give 17 = .ok (.iaload, 1) := by decide +kernel
theorem dX4_give_18 : decode cX4_give 18 = .ok (.iload_n 2, 1) := by decide +kernel
theorem dX4_give_19 : decode cX4_give 19 = .ok (.iadd, 1) := by decide +kernel
theorem dX4_give_20 : decode cX4_give 20 = .ok (.iastore, 1) := by decide +kernel
theorem dX4_give_21 : decode cX4_give 21 = .ok (.aload_n 0, 1) := by decide +kernel
theorem dX4_give_22 : decode cX4_give 22 = .ok (.getfield 18, 3) := by decide +kernel
theorem dX4_give_25 : decode cX4_give 25 = .ok (.iload_n 1, 1) := by decide +kernel
theorem dX4_give_26 : decode cX4_give 26 = .ok (.iaload, 1) := by decide +kernel
theorem dX4_give_27 : decode cX4_give 27 = .ok (.ireturn, 1) := by decide +kernel
set_option maxRecDepth 20000 in
theorem ggX4_setRain_X4_checkArgument : GoodIn wsX4_setRain wsX4_checkArgument := goodIn_ca (goodIn_r _ [6, 7, 8, 9, 10, 5, 11] (by decide +kernel) (by decide +kernel)) (goodIn_sub (fun _ h => List.mem_cons_of_mem _ (List.mem_append_right _ h)) (by decide +kernel))
set_option maxRecDepth 20000 in
theorem gX4_setRain_X4_checkArgument : GoodIn wsX4_setRain (va_wsS RX4 43 yX4_checkArgument wsX4_checkArgument) := goodIn_app (goodIn_of _ (by decide +kernel)) ggX4_setRain_X4_checkArgument
theorem dX4_setRain_0 : decode cX4_setRain 0 = .ok (.iload_n 1, 1) := by decide +kernel
theorem dX4_setRain_1 : decode cX4_setRain 1 = .ok (.iconst 0, 1) := by decide +kernel
theorem dX4_setRain_2 : decode cX4_setRain 2 = .ok (.iconst 3, 1) := by decide +kernel
theorem dX4_setRain_3 : decode cX4_setRain 3 = .ok (.invokestatic 43, 3) := by decide +kernel
theorem dX4_setRain_6 : decode cX4_setRain 6 = .ok (.aload_n 0, 1) := by decide +kernel
theorem dX4_setRain_7 : decode cX4_setRain 7 = .ok (.getfield 33, 3) := by decide +kernel
theorem dX4_setRain_10 : decode cX4_setRain 10 = .ok (.getfield 82, 3) := by decide +kernel
theorem dX4_setRain_13 : decode cX4_setRain 13 = .ok (.istore_n 2, 1) := by decide +kernel
theorem dX4_setRain_14 : decode cX4_setRain 14 = .ok (.aload_n 0, 1) := by decide +kernel
theorem dX4_setRain_15 : decode cX4_setRain 15 = .ok (.getfield 33, 3) := by decide +kernel
theorem dX4_setRain_18 : decode cX4_setRain 18 = .ok (.iload_n 1, 1) := by decide +kernel
theorem dX4_setRain_19 : decode cX4_setRain 19 = .ok (.putfield 82, 3) := by decide +kernel
theorem dX4_setRain_22 : decode cX4_setRain 22 = .ok (.iload_n 2, 1) := by decide +kernel
theorem dX4_setRain_23 : decode cX4_setRain 23 = .ok (.ireturn, 1) := by decide +kernel
set_option maxRecDepth 20000 in
theorem ggX4_setLimit_X4_checkArgument : GoodIn wsX4_setLimit wsX4_checkArgument := goodIn_ca (goodIn_r _ [6, 7, 8, 9, 10, 5, 11] (by decide +kernel) (by decide +kernel)) (goodIn_sub (fun _ h => List.mem_cons_of_mem _ (List.mem_append_right _ h)) (by decide +kernel))
set_option maxRecDepth 20000 in
theorem gX4_setLimit_X4_checkArgument : GoodIn wsX4_setLimit (va_wsS RX4 43 yX4_checkArgument wsX4_checkArgument) := goodIn_app (goodIn_of _ (by decide +kernel)) ggX4_setLimit_X4_checkArgument
theorem dX4_setLimit_0 : decode cX4_setLimit 0 = .ok (.iload_n 1, 1) := by decide +kernel
theorem dX4_setLimit_1 : decode cX4_setLimit 1 = .ok (.iconst 1, 1) := by decide +kernel
theorem dX4_setLimit_2 : decode cX4_setLimit 2 = .ok (.bipush 9, 2) := by decide +kernel
theorem dX4_setLimit_4 : decode cX4_setLimit 4 = .ok (.invokestatic 43, 3) := by decide +kernel
theorem dX4_setLimit_7 : decode cX4_setLimit 7 = .ok (.aload_n 0, 1) := by decide +kernel
theorem dX4_setLimit_8 : decode cX4_setLimit 8 = .ok (.getfield 33, 3) := by decide +kernel
theorem dX4_setLimit_11 : decode cX4_setLimit 11 = .ok (.getfield 85, 3) := by decide +kernel
theorem dX4_setLimit_14 : decode cX4_setLimit 14 = .ok (.istore_n 2, 1) := by decide +kernel
theorem dX4_setLimit_15 : decode cX4_setLimit 15 = .ok (.aload_n 0, 1) := by decide +kernel
theorem dX4_setLimit_16 : decode cX4_setLimit 16 = .ok (.getfield 33, 3) := by decide +kernel
theorem dX4_setLimit_19 : decode cX4_setLimit 19 = .ok (.iload_n 1, 1) := by decide +kernel
theorem dX4_setLimit_20 : decode cX4_setLimit 20 = .ok (.putfield 85, 3) := by decide +kernel
theorem dX4_setLimit_23 : decode cX4_setLimit 23 = .ok (.iload_n 2, 1) := by decide +kernel
theorem dX4_setLimit_24 : decode cX4_setLimit 24 = .ok (.ireturn, 1) := by decide +kernel
set_option maxRecDepth 20000 in
theorem ggX4_stack_X4_checkPile : GoodIn wsX4_stack wsX4_checkPile := goodIn_ca (goodIn_r _ [12, 13, 14, 3, 15, 16, 17, 11, 18, 37, 38, 39, 40, 41, 42, 43, 44, 45, 46, 47, 48, 49, 50] (by decide +kernel) (by decide +kernel)) (goodIn_sub (fun _ h => List.mem_cons_of_mem _ (List.mem_append_left _ (List.mem_append_right _ h))) (by decide +kernel))
set_option maxRecDepth 20000 in
theorem gX4_stack_X4_checkPile : GoodIn wsX4_stack (wsV RX4 88 RX4 yX4_checkPile wsX4_checkPile) := goodIn_app (goodIn_of _ (by decide +kernel)) ggX4_stack_X4_checkPile
set_option maxRecDepth 20000 in
theorem ggX4_stack_X4_checkArgument : GoodIn wsX4_stack wsX4_checkArgument := goodIn_ca (goodIn_r _ [21, 22, 23, 16, 17, 11, 18] (by decide +kernel) (by decide +kernel)) (goodIn_sub (fun _ h => List.mem_cons_of_mem _ (List.mem_append_right _ h)) (by decide +kernel))
set_option maxRecDepth 20000 in
theorem gX4_stack_X4_checkArgument : GoodIn wsX4_stack (va_wsS RX4 43 yX4_checkArgument wsX4_checkArgument) := goodIn_app (goodIn_of _ (by decide +kernel)) ggX4_stack_X4_checkArgument
set_option maxRecDepth 20000 in
theorem ggX4_stack_X1_spare : GoodIn wsX4_stack wsX1_spare := goodIn_r _ [28, 29, 30, 31, 51, 52, 53, 54, 55, 56, 57, 58] (by decide +kernel) (by decide +kernel)
set_option maxRecDepth 20000 in
theorem gX4_stack_X1_spare : GoodIn wsX4_stack (wsV RX4 96 RX1 yX1_spare wsX1_spare) := goodIn_app (goodIn_of _ (by decide +kernel)) ggX4_stack_X1_spare
set_option maxRecDepth 20000 in
theorem ggX4_stack_X1_put : GoodIn wsX4_stack wsX1_put := goodIn_r _ [35, 31, 36, 51, 52, 53, 54] (by decide +kernel) (by decide +kernel)
set_option maxRecDepth 20000 in
theorem gX4_stack_X1_put : GoodIn wsX4_stack (wsV RX4 102 RX1 yX1_put wsX1_put) := goodIn_app (goodIn_of _ (by decide +kernel)) ggX4_stack_X1_put
theorem dX4_stack_0 : decode cX4_stack 0 = .ok (.aload_n 0, 1) := by decide +kernel
theorem dX4_stack_1 : decode cX4_stack 1 = .ok (.iload_n 1, 1) := by decide +kernel
theorem dX4_stack_2 : decode cX4_stack 2 = .ok (.invokevirtual 88, 3) := by decide +kernel
theorem dX4_stack_5 : decode cX4_stack 5 = .ok (.iload_n 2, 1) := by decide +kernel
theorem dX4_stack_6 : decode cX4_stack 6 = .ok (.iconst 1, 1) := by decide +kernel
theorem dX4_stack_7 : decode cX4_stack 7 = .ok (.bipush 91, 2) := by decide +kernel
theorem dX4_stack_9 : decode cX4_stack 9 = .ok (.invokestatic 43, 3) := by decide +kernel
theorem dX4_stack_12 : decode cX4_stack 12 = .ok (.aload_n 0, 1) := by decide +kernel
theorem dX4_stack_13 : decode cX4_stack 13 = .ok (.getfield 33, 3) := by decide +kernel
theorem dX4_stack_16 : decode cX4_stack 16 = .ok (.getfield 58, 3) := by decide +kernel
theorem dX4_stack_19 : decode cX4_stack 19 = .ok (.iload_n 1, 1) := by decide +kernel
theorem dX4_stack_20 : decode cX4_stack 20 = .ok (.aaload, 1) := by decide +kernel
theorem dX4_stack_21 : decode cX4_stack 21 = .ok (.astore_n 3, 1) := by decide +kernel
theorem dX4_stack_22 : decode cX4_stack 22 = .ok (.aload_n 0, 1) := by decide +kernel
theorem dX4_stack_23 : decode cX4_stack 23 = .ok (.getfield 18, 3) := by decide +kernel
theorem dX4_stack_26 : decode cX4_stack 26 = .ok (.aload_n 3, 1) := by decide +kernel
theorem dX4_stack_27 : decode cX4_stack 27 = .ok (.getfield 91, 3) := by decide +kernel
theorem dX4_stack_30 : decode cX4_stack 30 = .ok (.iaload, 1) := by decide +kernel
theorem dX4_stack_31 : decode cX4_stack 31 = .ok (.iload_n 2, 1) := by decide +kernel
theorem dX4_stack_32 : decode cX4_stack 32 = .ok (.if_icmp .ge 13, 3) := by decide +kernel
theorem dX4_stack_35 : decode cX4_stack 35 = .ok (.new 51, 3) := by decide +kernel
theorem dX4_stack_38 : decode cX4_stack 38 = .ok (.dup, 1) := by decide +kernel
theorem dX4_stack_39 : decode cX4_stack 39 = .ok (.ldc 94, 2) := by decide +kernel
theorem dX4_stack_41 : decode cX4_stack 41 = .ok (.invokespecial 55, 3) := by decide +kernel
theorem dX4_stack_44 : decode cX4_stack 44 = .ok (.athrow, 1) := by decide +kernel
theorem dX4_stack_45 : decode cX4_stack 45 = .ok (.aload_n 3, 1) := by decide +kernel
theorem dX4_stack_46 : decode cX4_stack 46 = .ok (.invokevirtual 96, 3) := by decide +kernel
theorem dX4_stack_49 : decode cX4_stack 49 = .ok (.iload_n 2, 1) := by decide +kernel
theorem dX4_stack_50 : decode cX4_stack 50 = .ok (.if_icmp .ge 13, 3) := by decide +kernel
theorem dX4_stack_53 : decode cX4_stack 53 = .ok (.new 51, 3) := by decide +kernel
theorem dX4_stack_56 : decode cX4_stack 56 = .ok (.dup, 1) := by decide +kernel
theorem dX4_stack_57 : decode cX4_stack 57 = .ok (.ldc 100, 2) := by decide +kernel
theorem dX4_stack_59 : decode cX4_stack 59 = .ok (.invokespecial 55, 3) := by decide +kernel
theorem dX4_stack_62 : decode cX4_stack 62 = .ok (.athrow, 1) := by decide +kernel
theorem dX4_stack_63 : decode cX4_stack 63 = .ok (.iconst 0, 1) := by decide +kernel
theorem dX4_stack_64 : decode cX4_stack 64 = .ok (.istore 4, 2) := by decide +kernel
theorem dX4_stack_66 : decode cX4_stack 66 = .ok (.iload 4, 2) := by decide +kernel
theorem dX4_stack_68 : decode cX4_stack 68 = .ok (.iload_n 2, 1) := by decide +kernel
theorem dX4_stack_69 : decode cX4_stack 69 = .ok (.if_icmp .ge 14, 3) := by decide +kernel
theorem dX4_stack_72 : decode cX4_stack 72 = .ok (.aload_n 3, 1) := by decide +kernel
theorem dX4_stack_73 : decode cX4_stack 73 = .ok (.iconst 0, 1) := by decide +kernel
theorem dX4_stack_74 : decode cX4_stack 74 = .ok (.invokevirtual 102, 3) := by decide +kernel
theorem dX4_stack_77 : decode cX4_stack 77 = .ok (.iinc 4 1, 3) := by decide +kernel
theorem dX4_stack_80 : decode cX4_stack 80 = .ok (.goto (-14), 3) := by decide +kernel
theorem dX4_stack_83 : decode cX4_stack 83 = .ok (.aload_n 0, 1) := by decide +kernel
theorem dX4_stack_84 : decode cX4_stack 84 = .ok (.getfield 18, 3) := by decide +kernel
theorem dX4_stack_87 : decode cX4_stack 87 = .ok (.aload_n 3, 1) := by decide +kernel
theorem dX4_stack_88 : decode cX4_stack 88 = .ok (.getfield 91, 3) := by decide +kernel
theorem dX4_stack_91 : decode cX4_stack 91 = .ok (.dup2, 1) := by decide +kernel
theorem dX4_stack_92 : decode cX4_stack 92 = .ok (.iaload, 1) := by decide +kernel
theorem dX4_stack_93 : decode cX4_stack 93 = .ok (.iload_n 2, 1) := by decide +kernel
theorem dX4_stack_94 : decode cX4_stack 94 = .ok (.isub, 1) := by decide +kernel
theorem dX4_stack_95 : decode cX4_stack 95 = .ok (.iastore, 1) := by decide +kernel
theorem dX4_stack_96 : decode cX4_stack 96 = .ok (.aload_n 3, 1) := by decide +kernel
theorem dX4_stack_97 : decode cX4_stack 97 = .ok (.getfield 105, 3) := by decide +kernel
theorem dX4_stack_100 : decode cX4_stack 100 = .ok (.ireturn, 1) := by decide +kernel
set_option maxRecDepth 20000 in
theorem ggX4_fire_X4_checkPile : GoodIn wsX4_fire wsX4_checkPile := goodIn_ca (goodIn_r _ [12, 13, 14, 3, 15, 16, 17, 11, 18, 31, 32, 33, 34, 35, 36, 37, 38, 39, 40, 41, 42, 43, 44] (by decide +kernel) (by decide +kernel)) (goodIn_sub (fun _ h => List.mem_cons_of_mem _ (List.mem_append_left _ (List.mem_append_right _ h))) (by decide +kernel))
set_option maxRecDepth 20000 in
theorem gX4_fire_X4_checkPile : GoodIn wsX4_fire (wsV RX4 88 RX4 yX4_checkPile wsX4_checkPile) := goodIn_app (goodIn_of _ (by decide +kernel)) ggX4_fire_X4_checkPile
set_option maxRecDepth 20000 in
theorem ggX4_fire_X4_checkArgument : GoodIn wsX4_fire wsX4_checkArgument := goodIn_ca (goodIn_r _ [21, 22, 23, 16, 17, 11, 18] (by decide +kernel) (by decide +kernel)) (goodIn_sub (fun _ h => List.mem_cons_of_mem _ (List.mem_append_right _ h)) (by decide +kernel))
set_option maxRecDepth 20000 in
theorem gX4_fire_X4_checkArgument : GoodIn wsX4_fire (va_wsS RX4 43 yX4_checkArgument wsX4_checkArgument) := goodIn_app (goodIn_of _ (by decide +kernel)) ggX4_fire_X4_checkArgument
set_option maxRecDepth 20000 in
theorem ggX4_fire_X1_takeTop : GoodIn wsX4_fire wsX1_takeTop := goodIn_r _ [28, 29, 30, 45, 46, 47, 48] (by decide +kernel) (by decide +kernel)
set_option maxRecDepth 20000 in
theorem gX4_fire_X1_takeTop : GoodIn wsX4_fire (wsV RX4 110 RX1 yX1_takeTop wsX1_takeTop) := goodIn_app (goodIn_of _ (by decide +kernel)) ggX4_fire_X1_takeTop
theorem dX4_fire_0 : decode cX4_fire 0 = .ok (.aload_n 0, 1) := by decide +kernel
theorem dX4_fire_1 : decode cX4_fire 1 = .ok (.iload_n 1, 1) := by decide +kernel
theorem dX4_fire_2 : decode cX4_fire 2 = .ok (.invokevirtual 88, 3) := by decide +kernel
theorem dX4_fire_5 : decode cX4_fire 5 = .ok (.iload_n 2, 1) := by decide +kernel
theorem dX4_fire_6 : decode cX4_fire 6 = .ok (.iconst 1, 1) := by decide +kernel
theorem dX4_fire_7 : decode cX4_fire 7 = .ok (.bipush 91, 2) := by decide +kernel
theorem dX4_fire_9 : decode cX4_fire 9 = .ok (.invokestatic 43, 3) := by decide +kernel
theorem dX4_fire_12 : decode cX4_fire 12 = .ok (.aload_n 0, 1) := by decide +kernel
theorem dX4_fire_13 : decode cX4_fire 13 = .ok (.getfield 33, 3) := by decide +kernel
theorem dX4_fire_16 : decode cX4_fire 16 = .ok (.getfield 58, 3) := by decide +kernel
theorem dX4_fire_19 : decode cX4_fire 19 = .ok (.iload_n 1, 1) := by decide +kernel
theorem dX4_fire_20 : decode cX4_fire 20 = .ok (.aaload, 1) := by decide +kernel
theorem dX4_fire_21 : decode cX4_fire 21 = .ok (.astore_n 3, 1) := by decide +kernel
theorem dX4_fire_22 : decode cX4_fire 22 = .ok (.aload_n 3, 1) := by decide +kernel
theorem dX4_fire_23 : decode cX4_fire 23 = .ok (.getfield 105, 3) := by decide +kernel
theorem dX4_fire_26 : decode cX4_fire 26 = .ok (.iload_n 2, 1) := by decide +kernel
theorem dX4_fire_27 : decode cX4_fire 27 = .ok (.if_icmp .ge 13, 3) := by decide +kernel
theorem dX4_fire_30 : decode cX4_fire 30 = .ok (.new 51, 3) := by decide +kernel
theorem dX4_fire_33 : decode cX4_fire 33 = .ok (.dup, 1) := by decide +kernel
theorem dX4_fire_34 : decode cX4_fire 34 = .ok (.ldc 108, 2) := by decide +kernel
theorem dX4_fire_36 : decode cX4_fire 36 = .ok (.invokespecial 55, 3) := by decide +kernel
theorem dX4_fire_39 : decode cX4_fire 39 = .ok (.athrow, 1) := by decide +kernel
theorem dX4_fire_40 : decode cX4_fire 40 = .ok (.iconst 0, 1) := by decide +kernel
theorem dX4_fire_41 : decode cX4_fire 41 = .ok (.istore 4, 2) := by decide +kernel
theorem dX4_fire_43 : decode cX4_fire 43 = .ok (.iconst 0, 1) := by decide +kernel
theorem dX4_fire_44 : decode cX4_fire 44 = .ok (.istore 5, 2) := by decide +kernel
theorem dX4_fire_46 : decode cX4_fire 46 = .ok (.iload 5, 2) := by decide +kernel
theorem dX4_fire_48 : decode cX4_fire 48 = .ok (.iload_n 2, 1) := by decide +kernel
theorem dX4_fire_49 : decode cX4_fire 49 = .ok (.if_icmp .ge 18, 3) := by decide +kernel
theorem dX4_fire_52 : decode cX4_fire 52 = .ok (.iload 4, 2) := by decide +kernel
theorem dX4_fire_54 : decode cX4_fire 54 = .ok (.aload_n 3, 1) := by decide +kernel
theorem dX4_fire_55 : decode cX4_fire 55 = .ok (.invokevirtual 110, 3) := by decide +kernel
theorem dX4_fire_58 : decode cX4_fire 58 = .ok (.iadd, 1) := by decide +kernel
theorem dX4_fire_59 : decode cX4_fire 59 = .ok (.istore 4, 2) := by decide +kernel
theorem dX4_fire_61 : decode cX4_fire 61 = .ok (.iinc 5 1, 3) := by decide +kernel
theorem dX4_fire_64 : decode cX4_fire 64 = .ok (.goto (-18), 3) := by decide +kernel
theorem dX4_fire_67 : decode cX4_fire 67 = .ok (.aload_n 0, 1) := by decide +kernel
theorem dX4_fire_68 : decode cX4_fire 68 = .ok (.getfield 22, 3) := by decide +kernel
theorem dX4_fire_71 : decode cX4_fire 71 = .ok (.aload_n 3, 1) := by decide +kernel
theorem dX4_fire_72 : decode cX4_fire 72 = .ok (.getfield 91, 3) := by decide +kernel
theorem dX4_fire_75 : decode cX4_fire 75 = .ok (.dup2, 1) := by decide +kernel
theorem dX4_fire_76 : decode cX4_fire 76 = .ok (.iaload, 1) := by decide +kernel
theorem dX4_fire_77 : decode cX4_fire 77 = .ok (.iload_n 2, 1) := by decide +kernel
theorem dX4_fire_78 : decode cX4_fire 78 = .ok (.iadd, 1) := by decide +kernel
theorem dX4_fire_79 : decode cX4_fire 79 = .ok (.iastore, 1) := by decide +kernel
theorem dX4_fire_80 : decode cX4_fire 80 = .ok (.iload 4, 2) := by decide +kernel
theorem dX4_fire_82 : decode cX4_fire 82 = .ok (.ireturn, 1) := by decide +kernel
set_option maxRecDepth 20000 in
theorem ggX4_scour_X4_checkPile : GoodIn wsX4_scour wsX4_checkPile := goodIn_ca (goodIn_r _ [7, 8, 9, 1, 10, 11, 12, 6, 13, 37, 38, 39, 40, 41, 42, 43, 44, 45, 46, 47, 48, 49, 50] (by decide +kernel) (by decide +kernel)) (goodIn_sub (fun _ h => List.mem_cons_of_mem _ (List.mem_append_right _ h)) (by decide +kernel))
set_option maxRecDepth 20000 in
theorem gX4_scour_X4_checkPile : GoodIn wsX4_scour (wsV RX4 88 RX4 yX4_checkPile wsX4_checkPile) := goodIn_app (goodIn_of _ (by decide +kernel)) ggX4_scour_X4_checkPile
set_option maxRecDepth 20000 in
theorem ggX4_scour_X1_scourBare : GoodIn wsX4_scour wsX1_scourBare := goodIn_r _ [18, 19, 20, 21, 22, 23, 24, 25, 26, 27, 17, 28, 29, 30, 31, 32, 33, 34, 35, 36, 51, 52, 53, 54, 55, 56, 57, 58] (by decide +kernel) (by decide +kernel)
set_option maxRecDepth 20000 in
theorem gX4_scour_X1_scourBare : GoodIn wsX4_scour (wsV RX4 113 RX1 yX1_scourBare wsX1_scourBare) := goodIn_app (goodIn_of _ (by decide +kernel)) ggX4_scour_X1_scourBare
theorem dX4_scour_0 : decode cX4_scour 0 = .ok (.aload_n 0, 1) := by decide +kernel
theorem dX4_scour_1 : decode cX4_scour 1 = .ok (.iload_n 1, 1) := by decide +kernel
theorem dX4_scour_2 : decode cX4_scour 2 = .ok (.invokevirtual 88, 3) := by decide +kernel
theorem dX4_scour_5 : decode cX4_scour 5 = .ok (.aload_n 0, 1) := by decide +kernel
theorem dX4_scour_6 : decode cX4_scour 6 = .ok (.getfield 33, 3) := by decide +kernel
theorem dX4_scour_9 : decode cX4_scour 9 = .ok (.getfield 58, 3) := by decide +kernel
theorem dX4_scour_12 : decode cX4_scour 12 = .ok (.iload_n 1, 1) := by decide +kernel
theorem dX4_scour_13 : decode cX4_scour 13 = .ok (.aaload, 1) := by decide +kernel
theorem dX4_scour_14 : decode cX4_scour 14 = .ok (.invokevirtual 113, 3) := by decide +kernel
theorem dX4_scour_17 : decode cX4_scour 17 = .ok (.ireturn, 1) := by decide +kernel
set_option maxRecDepth 20000 in
theorem ggX4_inspect_X4_checkPile : GoodIn wsX4_inspect wsX4_checkPile := goodIn_ca (goodIn_r _ [10, 11, 12, 1, 13, 14, 15, 9, 16, 24, 25, 26, 27, 28, 29, 30, 31, 32, 33, 34, 35, 36, 37] (by decide +kernel) (by decide +kernel)) (goodIn_sub (fun _ h => List.mem_cons_of_mem _ (List.mem_append_right _ h)) (by decide +kernel))
set_option maxRecDepth 20000 in
theorem gX4_inspect_X4_checkPile : GoodIn wsX4_inspect (wsV RX4 88 RX4 yX4_checkPile wsX4_checkPile) := goodIn_app (goodIn_of _ (by decide +kernel)) ggX4_inspect_X4_checkPile
set_option maxRecDepth 20000 in
theorem ggX4_inspect_X1_throwAway : GoodIn wsX4_inspect wsX1_throwAway := goodIn_r _ [21, 22, 23, 38, 39, 40, 41] (by decide +kernel) (by decide +kernel)
set_option maxRecDepth 20000 in
theorem gX4_inspect_X1_throwAway : GoodIn wsX4_inspect (wsV RX4 116 RX1 yX1_throwAway wsX1_throwAway) := goodIn_app (goodIn_of _ (by decide +kernel)) ggX4_inspect_X1_throwAway
theorem dX4_inspect_0 : decode cX4_inspect 0 = .ok (.aload_n 0, 1) := by decide +kernel
theorem dX4_inspect_1 : decode cX4_inspect 1 = .ok (.iload_n 1, 1) := by decide +kernel
theorem dX4_inspect_2 : decode cX4_inspect 2 = .ok (.invokevirtual 88, 3) := by decide +kernel
theorem dX4_inspect_5 : decode cX4_inspect 5 = .ok (.aload_n 0, 1) := by decide +kernel
theorem dX4_inspect_6 : decode cX4_inspect 6 = .ok (.getfield 33, 3) := by decide +kernel
theorem dX4_inspect_9 : decode cX4_inspect 9 = .ok (.getfield 58, 3) := by decide +kernel
theorem dX4_inspect_12 : decode cX4_inspect 12 = .ok (.iload_n 1, 1) := by decide +kernel
theorem dX4_inspect_13 : decode cX4_inspect 13 = .ok (.aaload, 1) := by decide +kernel
theorem dX4_inspect_14 : decode cX4_inspect 14 = .ok (.astore_n 2, 1) := by decide +kernel
theorem dX4_inspect_15 : decode cX4_inspect 15 = .ok (.aload_n 2, 1) := by decide +kernel
theorem dX4_inspect_16 : decode cX4_inspect 16 = .ok (.aload_n 0, 1) := by decide +kernel
theorem dX4_inspect_17 : decode cX4_inspect 17 = .ok (.getfield 33, 3) := by decide +kernel
theorem dX4_inspect_20 : decode cX4_inspect 20 = .ok (.getfield 85, 3) := by decide +kernel
theorem dX4_inspect_23 : decode cX4_inspect 23 = .ok (.invokevirtual 116, 3) := by decide +kernel
theorem dX4_inspect_26 : decode cX4_inspect 26 = .ok (.istore_n 3, 1) := by decide +kernel
theorem dX4_inspect_27 : decode cX4_inspect 27 = .ok (.aload_n 0, 1) := by decide +kernel
theorem dX4_inspect_28 : decode cX4_inspect 28 = .ok (.getfield 25, 3) := by decide +kernel
theorem dX4_inspect_31 : decode cX4_inspect 31 = .ok (.aload_n 2, 1) := by decide +kernel
theorem dX4_inspect_32 : decode cX4_inspect 32 = .ok (.getfield 91, 3) := by decide +kernel
theorem dX4_inspect_35 : decode cX4_inspect 35 = .ok (.dup2, 1) := by decide +kernel
theorem dX4_inspect_36 : decode cX4_inspect 36 = .ok (.iaload, 1) := by decide +kernel
theorem dX4_inspect_37 : decode cX4_inspect 37 = .ok (.iload_n 3, 1) := by decide +kernel
theorem dX4_inspect_38 : decode cX4_inspect 38 = .ok (.iadd, 1) := by decide +kernel
theorem dX4_inspect_39 : decode cX4_inspect 39 = .ok (.iastore, 1) := by decide +kernel
theorem dX4_inspect_40 : decode cX4_inspect 40 = .ok (.iload_n 3, 1) := by decide +kernel
theorem dX4_inspect_41 : decode cX4_inspect 41 = .ok (.ireturn, 1) := by decide +kernel
set_option maxRecDepth 20000 in
theorem ggX4_shift_X4_checkPile : GoodIn wsX4_shift wsX4_checkPile := goodIn_ca (goodIn_r _ [15, 16, 17, 3, 18, 19, 20, 14, 21, 39, 40, 41, 42, 43, 44, 45, 46, 47, 48, 49, 50, 51, 52] (by decide +kernel) (by decide +kernel)) (goodIn_sub (fun _ h => List.mem_cons_of_mem _ (List.mem_append_right _ h)) (by decide +kernel))
set_option maxRecDepth 20000 in
theorem gX4_shift_X4_checkPile : GoodIn wsX4_shift (wsV RX4 88 RX4 yX4_checkPile wsX4_checkPile) := goodIn_app (goodIn_of _ (by decide +kernel)) ggX4_shift_X4_checkPile
set_option maxRecDepth 20000 in
theorem ggX4_shift_X1_spare : GoodIn wsX4_shift wsX1_spare := goodIn_r _ [26, 27, 28, 29, 53, 54, 55, 56, 57, 58, 59, 60] (by decide +kernel) (by decide +kernel)
set_option maxRecDepth 20000 in
theorem gX4_shift_X1_spare : GoodIn wsX4_shift (wsV RX4 96 RX1 yX1_spare wsX1_spare) := goodIn_app (goodIn_of _ (by decide +kernel)) ggX4_shift_X1_spare
set_option maxRecDepth 20000 in
theorem ggX4_shift_X1_takeTop : GoodIn wsX4_shift wsX1_takeTop := goodIn_r _ [33, 29, 34, 53, 54, 55, 56] (by decide +kernel) (by decide +kernel)
set_option maxRecDepth 20000 in
theorem gX4_shift_X1_takeTop : GoodIn wsX4_shift (wsV RX4 110 RX1 yX1_takeTop wsX1_takeTop) := goodIn_app (goodIn_of _ (by decide +kernel)) ggX4_shift_X1_takeTop
set_option maxRecDepth 20000 in
theorem ggX4_shift_X1_put : GoodIn wsX4_shift wsX1_put := goodIn_r _ [38, 29, 34, 53, 54, 55, 56] (by decide +kernel) (by decide +kernel)
set_option maxRecDepth 20000 in
theorem gX4_shift_X1_put : GoodIn wsX4_shift (wsV RX4 102 RX1 yX1_put wsX1_put) := goodIn_app (goodIn_of _ (by decide +kernel)) ggX4_shift_X1_put
theorem dX4_shift_0 : decode cX4_shift 0 = .ok (.aload_n 0, 1) := by decide +kernel
theorem dX4_shift_1 : decode cX4_shift 1 = .ok (.iload_n 1, 1) := by decide +kernel
theorem dX4_shift_2 : decode cX4_shift 2 = .ok (.invokevirtual 88, 3) := by decide +kernel
theorem dX4_shift_5 : decode cX4_shift 5 = .ok (.aload_n 0, 1) := by decide +kernel
theorem dX4_shift_6 : decode cX4_shift 6 = .ok (.iload_n 2, 1) := by decide +kernel
theorem dX4_shift_7 : decode cX4_shift 7 = .ok (.invokevirtual 88, 3) := by decide +kernel
theorem dX4_shift_10 : decode cX4_shift 10 = .ok (.iload_n 1, 1) := by decide +kernel
theorem dX4_shift_11 : decode cX4_shift 11 = .ok (.iload_n 2, 1) := by decide +kernel
theorem dX4_shift_12 : decode cX4_shift 12 = .ok (.if_icmp .ne 13, 3) := by decide +kernel
theorem dX4_shift_15 : decode cX4_shift 15 = .ok (.new 120, 3) := by decide +kernel
theorem dX4_shift_18 : decode cX4_shift 18 = .ok (.dup, 1) := by decide +kernel
theorem dX4_shift_19 : decode cX4_shift 19 = .ok (.ldc 122, 2) := by decide +kernel
theorem dX4_shift_21 : decode cX4_shift 21 = .ok (.invokespecial 124, 3) := by decide +kernel
theorem dX4_shift_24 : decode cX4_shift 24 = .ok (.athrow, 1) := by decide +kernel
theorem dX4_shift_25 : decode cX4_shift 25 = .ok (.aload_n 0, 1) := by decide +kernel
theorem dX4_shift_26 : decode cX4_shift 26 = .ok (.getfield 33, 3) := by decide +kernel
theorem dX4_shift_29 : decode cX4_shift 29 = .ok (.getfield 58, 3) := by decide +kernel
theorem dX4_shift_32 : decode cX4_shift 32 = .ok (.iload_n 1, 1) := by decide +kernel
theorem dX4_shift_33 : decode cX4_shift 33 = .ok (.aaload, 1) := by decide +kernel
theorem dX4_shift_34 : decode cX4_shift 34 = .ok (.astore_n 3, 1) := by decide +kernel
theorem dX4_shift_35 : decode cX4_shift 35 = .ok (.aload_n 0, 1) := by decide +kernel
theorem dX4_shift_36 : decode cX4_shift 36 = .ok (.getfield 33, 3) := by decide +kernel
theorem dX4_shift_39 : decode cX4_shift 39 = .ok (.getfield 58, 3) := by decide +kernel
theorem dX4_shift_42 : decode cX4_shift 42 = .ok (.iload_n 2, 1) := by decide +kernel
theorem dX4_shift_43 : decode cX4_shift 43 = .ok (.aaload, 1) := by decide +kernel
theorem dX4_shift_44 : decode cX4_shift 44 = .ok (.astore 4, 2) := by decide +kernel
theorem dX4_shift_46 : decode cX4_shift 46 = .ok (.aload_n 3, 1) := by decide +kernel
theorem dX4_shift_47 : decode cX4_shift 47 = .ok (.getfield 91, 3) := by decide +kernel
theorem dX4_shift_50 : decode cX4_shift 50 = .ok (.aload 4, 2) := by decide +kernel
theorem dX4_shift_52 : decode cX4_shift 52 = .ok (.getfield 91, 3) := by decide +kernel
theorem dX4_shift_55 : decode cX4_shift 55 = .ok (.if_icmp .eq 13, 3) := by decide +kernel
theorem dX4_shift_58 : decode cX4_shift 58 = .ok (.new 120, 3) := by decide +kernel
theorem dX4_shift_61 : decode cX4_shift 61 = .ok (.dup, 1) := by decide +kernel
theorem dX4_shift_62 : decode cX4_shift 62 = .ok (.ldc 125, 2) := by decide +kernel
theorem dX4_shift_64 : decode cX4_shift 64 = .ok (.invokespecial 124, 3) := by decide +kernel
theorem dX4_shift_67 : decode cX4_shift 67 = .ok (.athrow, 1) := by decide +kernel
theorem dX4_shift_68 : decode cX4_shift 68 = .ok (.aload_n 3, 1) := by decide +kernel
theorem dX4_shift_69 : decode cX4_shift 69 = .ok (.getfield 105, 3) := by decide +kernel
theorem dX4_shift_72 : decode cX4_shift 72 = .ok (.aload 4, 2) := by decide +kernel
theorem dX4_shift_74 : decode cX4_shift 74 = .ok (.invokevirtual 96, 3) := by decide +kernel
theorem dX4_shift_77 : decode cX4_shift 77 = .ok (.invokestatic 127, 3) := by decide +kernel
theorem dX4_shift_80 : decode cX4_shift 80 = .ok (.istore 5, 2) := by decide +kernel
theorem dX4_shift_82 : decode cX4_shift 82 = .ok (.iconst 0, 1) := by decide +kernel
theorem dX4_shift_83 : decode cX4_shift 83 = .ok (.istore 6, 2) := by decide +kernel
theorem dX4_shift_85 : decode cX4_shift 85 = .ok (.iload 6, 2) := by decide +kernel
theorem dX4_shift_87 : decode cX4_shift 87 = .ok (.iload 5, 2) := by decide +kernel
theorem dX4_shift_89 : decode cX4_shift 89 = .ok (.if_icmp .ge 18, 3) := by decide +kernel
theorem dX4_shift_92 : decode cX4_shift 92 = .ok (.aload 4, 2) := by decide +kernel
theorem dX4_shift_94 : decode cX4_shift 94 = .ok (.aload_n 3, 1) := by decide +kernel
theorem dX4_shift_95 : decode cX4_shift 95 = .ok (.invokevirtual 110, 3) := by decide +kernel
theorem dX4_shift_98 : decode cX4_shift 98 = .ok (.invokevirtual 102, 3) := by decide +kernel
theorem dX4_shift_101 : decode cX4_shift 101 = .ok (.iinc 6 1, 3) := by decide +kernel
theorem dX4_shift_104 : decode cX4_shift 104 = .ok (.goto (-19), 3) := by decide +kernel
theorem dX4_shift_107 : decode cX4_shift 107 = .ok (.iload 5, 2) := by decide +kernel
theorem dX4_shift_109 : decode cX4_shift 109 = .ok (.ireturn, 1) := by decide +kernel
theorem dX4_gather_0 : decode cX4_gather 0 = .ok (.iconst 0, 1) := by decide +kernel
theorem dX4_gather_1 : decode cX4_gather 1 = .ok (.istore_n 1, 1) := by decide +kernel
theorem dX4_gather_2 : decode cX4_gather 2 = .ok (.iconst 0, 1) := by decide +kernel
theorem dX4_gather_3 : decode cX4_gather 3 = .ok (.istore_n 2, 1) := by decide +kernel
theorem dX4_gather_4 : decode cX4_gather 4 = .ok (.iload_n 2, 1) := by decide +kernel
theorem dX4_gather_5 : decode cX4_gather 5 = .ok (.iconst 5, 1) := by decide +kernel
theorem dX4_gather_6 : decode cX4_gather 6 = .ok (.if_icmp .ge 49, 3) := by decide +kernel
theorem dX4_gather_9 : decode cX4_gather 9 = .ok (.iload_n 1, 1) := by decide +kernel
theorem dX4_gather_10 : decode cX4_gather 10 = .ok (.aload_n 0, 1) := by decide +kernel
theorem dX4_gather_11 : decode cX4_gather 11 = .ok (.getfield 33, 3) := by decide +kernel
theorem dX4_gather_14 : decode cX4_gather 14 = .ok (.getfield 133, 3) := by decide +kernel
theorem dX4_gather_17 : decode cX4_gather 17 = .ok (.iload_n 2, 1) := by decide +kernel
theorem dX4_gather_18 : decode cX4_gather 18 = .ok (.iaload, 1) := by decide +kernel
theorem dX4_gather_19 : decode cX4_gather 19 = .ok (.iadd, 1) := by decide +kernel
theorem dX4_gather_20 : decode cX4_gather 20 = .ok (.istore_n 1, 1) := by decide +kernel
theorem dX4_gather_21 : decode cX4_gather 21 = .ok (.aload_n 0, 1) := by decide +kernel
theorem dX4_gather_22 : decode cX4_gather 22 = .ok (.getfield 18, 3) := by decide +kernel
theorem dX4_gather_25 : decode cX4_gather 25 = .ok (.iload_n 2, 1) := by decide +kernel
theorem dX4_gather_26 : decode cX4_gather 26 = .ok (.dup2, 1) := by decide +kernel
theorem dX4_gather_27 : decode cX4_gather 27 = .ok (.iaload, 1) := by decide +kernel
theorem dX4_gather_28 : decode cX4_gather 28 = .ok (.aload_n 0, 1) := by decide +kernel
theorem dX4_gather_29 : decode cX4_gather 29 = .ok (.getfield 33, 3) := by decide +kernel
theorem dX4_gather_32 : decode cX4_gather 32 = .ok (.getfield 133, 3) := by decide +kernel
theorem dX4_gather_35 : decode cX4_gather 35 = .ok (.iload_n 2, 1) := by decide +kernel
theorem dX4_gather_36 : decode cX4_gather 36 = .ok (.iaload, 1) := by decide +kernel
theorem dX4_gather_37 : decode cX4_gather 37 = .ok (.iadd, 1) := by decide +kernel
theorem dX4_gather_38 : decode cX4_gather 38 = .ok (.iastore, 1) := by decide +kernel
theorem dX4_gather_39 : decode cX4_gather 39 = .ok (.aload_n 0, 1) := by decide +kernel
theorem dX4_gather_40 : decode cX4_gather 40 = .ok (.getfield 33, 3) := by decide +kernel
theorem dX4_gather_43 : decode cX4_gather 43 = .ok (.getfield 133, 3) := by decide +kernel
theorem dX4_gather_46 : decode cX4_gather 46 = .ok (.iload_n 2, 1) := by decide +kernel
theorem dX4_gather_47 : decode cX4_gather 47 = .ok (.iconst 0, 1) := by decide +kernel
theorem dX4_gather_48 : decode cX4_gather 48 = .ok (.iastore, 1) := by decide +kernel
theorem dX4_gather_49 : decode cX4_gather 49 = .ok (.iinc 2 1, 3) := by decide +kernel
theorem dX4_gather_52 : decode cX4_gather 52 = .ok (.goto (-48), 3) := by decide +kernel
theorem dX4_gather_55 : decode cX4_gather 55 = .ok (.iload_n 1, 1) := by decide +kernel
theorem dX4_gather_56 : decode cX4_gather 56 = .ok (.ireturn, 1) := by decide +kernel
set_option maxRecDepth 20000 in
theorem ggX4_chase_X4_checkCat : GoodIn wsX4_chase wsX4_checkCat := goodIn_ca (goodIn_r _ [8, 9, 10, 1, 11, 12, 13, 7, 14, 15, 16, 17, 18, 19, 20, 21, 22, 23, 24, 25, 26, 27, 28] (by decide +kernel) (by decide +kernel)) (goodIn_sub (fun _ h => List.mem_cons_of_mem _ (List.mem_append_right _ h)) (by decide +kernel))
set_option maxRecDepth 20000 in
theorem gX4_chase_X4_checkCat : GoodIn wsX4_chase (wsV RX4 136 RX4 yX4_checkCat wsX4_checkCat) := goodIn_app (goodIn_of _ (by decide +kernel)) ggX4_chase_X4_checkCat
theorem dX4_chase_0 : decode cX4_chase 0 = .ok (.aload_n 0, 1) := by decide +kernel
theorem dX4_chase_1 : decode cX4_chase 1 = .ok (.iload_n 1, 1) := by decide +kernel
theorem dX4_chase_2 : decode cX4_chase 2 = .ok (.invokevirtual 136, 3) := by decide +kernel
theorem dX4_chase_5 : decode cX4_chase 5 = .ok (.aload_n 0, 1) := by decide +kernel
theorem dX4_chase_6 : decode cX4_chase 6 = .ok (.getfield 33, 3) := by decide +kernel
theorem dX4_chase_9 : decode cX4_chase 9 = .ok (.getfield 73, 3) := by decide +kernel
theorem dX4_chase_12 : decode cX4_chase 12 = .ok (.iload_n 1, 1) := by decide +kernel
theorem dX4_chase_13 : decode cX4_chase 13 = .ok (.aaload, 1) := by decide +kernel
theorem dX4_chase_14 : decode cX4_chase 14 = .ok (.astore_n 2, 1) := by decide +kernel
theorem dX4_chase_15 : decode cX4_chase 15 = .ok (.aload_n 2, 1) := by decide +kernel
theorem dX4_chase_16 : decode cX4_chase 16 = .ok (.getfield 139, 3) := by decide +kernel
theorem dX4_chase_19 : decode cX4_chase 19 = .ok (.istore_n 3, 1) := by decide +kernel
theorem dX4_chase_20 : decode cX4_chase 20 = .ok (.aload_n 2, 1) := by decide +kernel
theorem dX4_chase_21 : decode cX4_chase 21 = .ok (.iconst (-1), 1) := by decide +kernel
theorem dX4_chase_22 : decode cX4_chase 22 = .ok (.putfield 139, 3) := by decide +kernel
theorem dX4_chase_25 : decode cX4_chase 25 = .ok (.iload_n 3, 1) := by decide +kernel
theorem dX4_chase_26 : decode cX4_chase 26 = .ok (.ireturn, 1) := by decide +kernel
set_option maxRecDepth 20000 in
theorem ggX4_about_X4_checkPile : GoodIn wsX4_about wsX4_checkPile := goodIn_ca (goodIn_r _ [15, 1, 2, 3, 16, 17, 18, 14, 19, 65, 66, 67, 68, 69, 70, 71, 72, 73, 74, 75, 76, 77, 78] (by decide +kernel) (by decide +kernel)) (goodIn_sub (fun _ h => List.mem_cons_of_mem _ (List.mem_append_right _ h)) (by decide +kernel))
set_option maxRecDepth 20000 in
theorem gX4_about_X4_checkPile : GoodIn wsX4_about (wsV RX4 88 RX4 yX4_checkPile wsX4_checkPile) := goodIn_app (goodIn_of _ (by decide +kernel)) ggX4_about_X4_checkPile
set_option maxRecDepth 20000 in
theorem ggX4_about_X2_layersBegun : GoodIn wsX4_about wsX2_layersBegun := goodIn_r _ [24, 25, 26, 83, 84, 85, 86] (by decide +kernel) (by decide +kernel)
set_option maxRecDepth 20000 in
theorem gX4_about_X2_layersBegun : GoodIn wsX4_about (wsV RX4 152 RX2 yX2_layersBegun wsX2_layersBegun) := goodIn_app (goodIn_of _ (by decide +kernel)) ggX4_about_X2_layersBegun
set_option maxRecDepth 20000 in
theorem ggX4_about_X2_layersFull : GoodIn wsX4_about wsX2_layersFull := goodIn_r _ [30, 25, 26, 83, 84, 85, 86] (by decide +kernel) (by decide +kernel)
set_option maxRecDepth 20000 in
theorem gX4_about_X2_layersFull : GoodIn wsX4_about (wsV RX4 155 RX2 yX2_layersFull wsX2_layersFull) := goodIn_app (goodIn_of _ (by decide +kernel)) ggX4_about_X2_layersFull
set_option maxRecDepth 20000 in
theorem ggX4_about_X1_bareBalls : GoodIn wsX4_about wsX1_bareBalls := goodIn_r _ [35, 36, 37, 38, 39, 34, 40, 41, 42, 43, 44, 23, 45, 46, 47, 79, 80, 81, 82, 83, 84, 85, 86] (by decide +kernel) (by decide +kernel)
set_option maxRecDepth 20000 in
theorem gX4_about_X1_bareBalls : GoodIn wsX4_about (wsV RX4 158 RX1 yX1_bareBalls wsX1_bareBalls) := goodIn_app (goodIn_of _ (by decide +kernel)) ggX4_about_X1_bareBalls
set_option maxRecDepth 20000 in
theorem ggX4_about_X1_rustyBalls : GoodIn wsX4_about wsX1_rustyBalls := goodIn_r _ [51, 36, 52, 79, 80, 81, 82] (by decide +kernel) (by decide +kernel)
set_option maxRecDepth 20000 in
theorem gX4_about_X1_rustyBalls : GoodIn wsX4_about (wsV RX4 161 RX1 yX1_rustyBalls wsX1_rustyBalls) := goodIn_app (goodIn_of _ (by decide +kernel)) ggX4_about_X1_rustyBalls
set_option maxRecDepth 20000 in
theorem ggX4_about_X1_greatestRust : GoodIn wsX4_about wsX1_greatestRust := goodIn_r _ [56, 36, 52, 57, 58, 59, 60, 79, 80, 81, 82] (by decide +kernel) (by decide +kernel)
set_option maxRecDepth 20000 in
theorem gX4_about_X1_greatestRust : GoodIn wsX4_about (wsV RX4 164 RX1 yX1_greatestRust wsX1_greatestRust) := goodIn_app (goodIn_of _ (by decide +kernel)) ggX4_about_X1_greatestRust
set_option maxRecDepth 20000 in
theorem ggX4_about_X1_allRust : GoodIn wsX4_about wsX1_allRust := goodIn_r _ [64, 36, 52, 79, 80, 81, 82] (by decide +kernel) (by decide +kernel)
set_option maxRecDepth 20000 in
theorem gX4_about_X1_allRust : GoodIn wsX4_about (wsV RX4 167 RX1 yX1_allRust wsX1_allRust) := goodIn_app (goodIn_of _ (by decide +kernel)) ggX4_about_X1_allRust
theorem dX4_about_0 : decode cX4_about 0 = .ok (.aload_n 0, 1) := by decide +kernel
theorem dX4_about_1 : decode cX4_about 1 = .ok (.iload_n 1, 1) := by decide +kernel
theorem dX4_about_2 : decode cX4_about 2 = .ok (.invokevirtual 88, 3) := by decide +kernel
theorem dX4_about_5 : decode cX4_about 5 = .ok (.aload_n 0, 1) := by decide +kernel
theorem dX4_about_6 : decode cX4_about 6 = .ok (.getfield 33, 3) := by decide +kernel
theorem dX4_about_9 : decode cX4_about 9 = .ok (.getfield 58, 3) := by decide +kernel
theorem dX4_about_12 : decode cX4_about 12 = .ok (.iload_n 1, 1) := by decide +kernel
theorem dX4_about_13 : decode cX4_about 13 = .ok (.aaload, 1) := by decide +kernel
theorem dX4_about_14 : decode cX4_about 14 = .ok (.astore_n 3, 1) := by decide +kernel
theorem dX4_about_15 : decode cX4_about 15 = .ok (.iload_n 2, 1) := by decide +kernel
theorem dX4_about_16 : decode cX4_about 16 = .ok (.tableswitch 133 0 9 #[56, 61, 69, 74, 82, 94, 106, 111, 123, 128], 56) := by decide +kernel
theorem dX4_about_72 : decode cX4_about 72 = .ok (.aload_n 3, 1) := by decide +kernel
theorem dX4_about_73 : decode cX4_about 73 = .ok (.getfield 91, 3) := by decide +kernel
theorem dX4_about_76 : decode cX4_about 76 = .ok (.ireturn, 1) := by decide +kernel
theorem dX4_about_77 : decode cX4_about 77 = .ok (.aload_n 3, 1) := by decide +kernel
theorem dX4_about_78 : decode cX4_about 78 = .ok (.getfield 142, 3) := by decide +kernel
theorem dX4_about_81 : decode cX4_about 81 = .ok (.getfield 146, 3) := by decide +kernel
theorem dX4_about_84 : decode cX4_about 84 = .ok (.ireturn, 1) := by decide +kernel
theorem dX4_about_85 : decode cX4_about 85 = .ok (.aload_n 3, 1) := by decide +kernel
theorem dX4_about_86 : decode cX4_about 86 = .ok (.getfield 105, 3) := by decide +kernel
theorem dX4_about_89 : decode cX4_about 89 = .ok (.ireturn, 1) := by decide +kernel
theorem dX4_about_90 : decode cX4_about 90 = .ok (.aload_n 3, 1) := by decide +kernel
theorem dX4_about_91 : decode cX4_about 91 = .ok (.getfield 142, 3) := by decide +kernel
theorem dX4_about_94 : decode cX4_about 94 = .ok (.getfield 149, 3) := by decide +kernel
theorem dX4_about_97 : decode cX4_about 97 = .ok (.ireturn, 1) := by decide +kernel
theorem dX4_about_98 : decode cX4_about 98 = .ok (.aload_n 3, 1) := by decide +kernel
theorem dX4_about_99 : decode cX4_about 99 = .ok (.getfield 142, 3) := by decide +kernel
theorem dX4_about_102 : decode cX4_about 102 = .ok (.aload_n 3, 1) := by decide +kernel
theorem dX4_about_103 : decode cX4_about 103 = .ok (.getfield 105, 3) := by decide +kernel
theorem dX4_about_106 : decode cX4_about 106 = .ok (.invokevirtual 152, 3) := by decide +kernel
theorem dX4_about_109 : decode cX4_about 109 = .ok (.ireturn, 1) := by decide +kernel
theorem dX4_about_110 : decode cX4_about 110 = .ok (.aload_n 3, 1) := by decide +kernel
theorem dX4_about_111 : decode cX4_about 111 = .ok (.getfield 142, 3) := by decide +kernel
theorem dX4_about_114 : decode cX4_about 114 = .ok (.aload_n 3, 1) := by decide +kernel
theorem dX4_about_115 : decode cX4_about 115 = .ok (.getfield 105, 3) := by decide +kernel
theorem dX4_about_118 : decode cX4_about 118 = .ok (.invokevirtual 155, 3) := by decide +kernel
theorem dX4_about_121 : decode cX4_about 121 = .ok (.ireturn, 1) := by decide +kernel
theorem dX4_about_122 : decode cX4_about 122 = .ok (.aload_n 3, 1) := by decide +kernel
theorem dX4_about_123 : decode cX4_about 123 = .ok (.invokevirtual 158, 3) := by decide +kernel
theorem dX4_about_126 : decode cX4_about 126 = .ok (.ireturn, 1) := by decide +kernel
theorem dX4_about_127 : decode cX4_about 127 = .ok (.aload_n 3, 1) := by decide +kernel
theorem dX4_about_128 : decode cX4_about 128 = .ok (.aload_n 0, 1) := by decide +kernel
theorem dX4_about_129 : decode cX4_about 129 = .ok (.getfield 33, 3) := by decide +kernel
theorem dX4_about_132 : decode cX4_about 132 = .ok (.getfield 85, 3) := by decide +kernel
theorem dX4_about_135 : decode cX4_about 135 = .ok (.invokevirtual 161, 3) := by decide +kernel
theorem dX4_about_138 : decode cX4_about 138 = .ok (.ireturn, 1) := by decide +kernel
theorem dX4_about_139 : decode cX4_about 139 = .ok (.aload_n 3, 1) := by decide +kernel
theorem dX4_about_140 : decode cX4_about 140 = .ok (.invokevirtual 164, 3) := by decide +kernel
theorem dX4_about_143 : decode cX4_about 143 = .ok (.ireturn, 1) := by decide +kernel
theorem dX4_about_144 : decode cX4_about 144 = .ok (.aload_n 3, 1) := by decide +kernel
theorem dX4_about_145 : decode cX4_about 145 = .ok (.invokevirtual 167, 3) := by decide +kernel
theorem dX4_about_148 : decode cX4_about 148 = .ok (.ireturn, 1) := by decide +kernel
theorem dX4_about_149 : decode cX4_about 149 = .ok (.new 170, 3) := by decide +kernel
theorem dX4_about_152 : decode cX4_about 152 = .ok (.dup, 1) := by decide +kernel
theorem dX4_about_153 : decode cX4_about 153 = .ok (.ldc 172, 2) := by decide +kernel
theorem dX4_about_155 : decode cX4_about 155 = .ok (.invokespecial 174, 3) := by decide +kernel
theorem dX4_about_158 : decode cX4_about 158 = .ok (.athrow, 1) := by decide +kernel
set_option maxRecDepth 20000 in
theorem ggX4_ball_X4_checkPile : GoodIn wsX4_ball wsX4_checkPile := goodIn_ca (goodIn_r _ [11, 1, 2, 3, 12, 13, 14, 10, 15, 77, 78, 79, 80, 81, 82, 83, 84, 85, 86, 87, 88, 89, 90] (by decide +kernel) (by decide +kernel)) (goodIn_sub (fun _ h => List.mem_cons_of_mem _ (List.mem_append_right _ h)) (by decide +kernel))
set_option maxRecDepth 20000 in
theorem gX4_ball_X4_checkPile : GoodIn wsX4_ball (wsV RX4 88 RX4 yX4_checkPile wsX4_checkPile) := goodIn_app (goodIn_of _ (by decide +kernel)) ggX4_ball_X4_checkPile
set_option maxRecDepth 20000 in
theorem ggX4_ball_X4_isOutside : GoodIn wsX4_ball wsX4_isOutside := goodIn_r _ [15] (by decide +kernel) (by decide +kernel)
set_option maxRecDepth 20000 in
theorem gX4_ball_X4_isOutside : GoodIn wsX4_ball (va_wsS RX4 175 yX4_isOutside wsX4_isOutside) := goodIn_app (goodIn_of _ (by decide +kernel)) ggX4_ball_X4_isOutside
set_option maxRecDepth 20000 in
theorem ggX4_ball_X1_rustOf : GoodIn wsX4_ball wsX1_rustOf := goodIn_r _ [20, 21, 91, 92, 93, 94] (by decide +kernel) (by decide +kernel)
set_option maxRecDepth 20000 in
theorem gX4_ball_X1_rustOf : GoodIn wsX4_ball (wsV RX4 181 RX1 yX1_rustOf wsX1_rustOf) := goodIn_app (goodIn_of _ (by decide +kernel)) ggX4_ball_X1_rustOf
set_option maxRecDepth 20000 in
theorem ggX4_ball_X2_layerOf : GoodIn wsX4_ball wsX2_layerOf := goodIn_r _ [26, 27, 28, 29, 25, 30, 31, 32, 95, 96, 97, 98] (by decide +kernel) (by decide +kernel)
set_option maxRecDepth 20000 in
theorem gX4_ball_X2_layerOf : GoodIn wsX4_ball (wsV RX4 184 RX2 yX2_layerOf wsX2_layerOf) := goodIn_app (goodIn_of _ (by decide +kernel)) ggX4_ball_X2_layerOf
set_option maxRecDepth 20000 in
theorem ggX4_ball_X2_rowOf : GoodIn wsX4_ball wsX2_rowOf := goodIn_r _ [36, 31, 37, 23, 24, 25, 26, 27, 28, 29, 30, 32, 38, 39, 40, 41, 42, 95, 96, 97, 98] (by decide +kernel) (by decide +kernel)
set_option maxRecDepth 20000 in
theorem gX4_ball_X2_rowOf : GoodIn wsX4_ball (wsV RX4 187 RX2 yX2_rowOf wsX2_rowOf) := goodIn_app (goodIn_of _ (by decide +kernel)) ggX4_ball_X2_rowOf
set_option maxRecDepth 20000 in
theorem ggX4_ball_X2_placeOf : GoodIn wsX4_ball wsX2_placeOf := goodIn_r _ [46, 31, 37, 23, 24, 25, 26, 27, 28, 29, 30, 32, 38, 39, 40, 41, 42, 95, 96, 97, 98] (by decide +kernel) (by decide +kernel)
set_option maxRecDepth 20000 in
theorem gX4_ball_X2_placeOf : GoodIn wsX4_ball (wsV RX4 190 RX2 yX2_placeOf wsX2_placeOf) := goodIn_app (goodIn_of _ (by decide +kernel)) ggX4_ball_X2_placeOf
set_option maxRecDepth 20000 in
theorem ggX4_ball_X1_isCovered : GoodIn wsX4_ball wsX1_isCovered := goodIn_r _ [50, 51, 52, 53, 54, 55, 25, 56, 57, 42, 91, 92, 93, 94, 95, 96, 97, 98] (by decide +kernel) (by decide +kernel)
set_option maxRecDepth 20000 in
theorem gX4_ball_X1_isCovered : GoodIn wsX4_ball (wsV RX4 193 RX1 yX1_isCovered wsX1_isCovered) := goodIn_app (goodIn_of _ (by decide +kernel)) ggX4_ball_X1_isCovered
set_option maxRecDepth 20000 in
theorem ggX4_ball_X1_ballsOn : GoodIn wsX4_ball wsX1_ballsOn := goodIn_r _ [61, 51, 62, 63, 64, 65, 66, 67, 68, 69, 52, 70, 23, 24, 25, 26, 27, 28, 29, 30, 31, 32, 71, 34, 35, 36, 37, 38, 39, 40, 41, 42, 72, 44, 45, 46, 73, 74, 75, 76, 91, 92, 93, 94, 95, 96, 97, 98] (by decide +kernel) (by decide +kernel)
set_option maxRecDepth 20000 in
theorem gX4_ball_X1_ballsOn : GoodIn wsX4_ball (wsV RX4 197 RX1 yX1_ballsOn wsX1_ballsOn) := goodIn_app (goodIn_of _ (by decide +kernel)) ggX4_ball_X1_ballsOn
theorem dX4_ball_0 : decode cX4_ball 0 = .ok (.aload_n 0, 1) := by decide +kernel
theorem dX4_ball_1 : decode cX4_ball 1 = .ok (.iload_n 1, 1) := by decide +kernel
theorem dX4_ball_2 : decode cX4_ball 2 = .ok (.invokevirtual 88, 3) := by decide +kernel
theorem dX4_ball_5 : decode cX4_ball 5 = .ok (.aload_n 0, 1) := by decide +kernel
theorem dX4_ball_6 : decode cX4_ball 6 = .ok (.getfield 33, 3) := by decide +kernel
theorem dX4_ball_9 : decode cX4_ball 9 = .ok (.getfield 58, 3) := by decide +kernel
theorem dX4_ball_12 : decode cX4_ball 12 = .ok (.iload_n 1, 1) := by decide +kernel
theorem dX4_ball_13 : decode cX4_ball 13 = .ok (.aaload, 1) := by decide +kernel
theorem dX4_ball_14 : decode cX4_ball 14 = .ok (.astore 4, 2) := by decide +kernel
theorem dX4_ball_16 : decode cX4_ball 16 = .ok (.iload_n 2, 1) := by decide +kernel
theorem dX4_ball_17 : decode cX4_ball 17 = .ok (.iconst 0, 1) := by decide +kernel
theorem dX4_ball_18 : decode cX4_ball 18 = .ok (.aload 4, 2) := by decide +kernel
theorem dX4_ball_20 : decode cX4_ball 20 = .ok (.getfield 105, 3) := by decide +kernel
theorem dX4_ball_23 : decode cX4_ball 23 = .ok (.iconst 1, 1) := by decide +kernel
theorem dX4_ball_24 : decode cX4_ball 24 = .ok (.isub, 1) := by decide +kernel
theorem dX4_ball_25 : decode cX4_ball 25 = .ok (.invokestatic 175, 3) := by decide +kernel
theorem dX4_ball_28 : decode cX4_ball 28 = .ok (.ifCond .eq 13, 3) := by decide +kernel
theorem dX4_ball_31 : decode cX4_ball 31 = .ok (.new 170, 3) := by decide +kernel
theorem dX4_ball_34 : decode cX4_ball 34 = .ok (.dup, 1) := by decide +kernel
theorem dX4_ball_35 : decode cX4_ball 35 = .ok (.ldc 179, 2) := by decide +kernel
theorem dX4_ball_37 : decode cX4_ball 37 = .ok (.invokespecial 174, 3) := by decide +kernel
theorem dX4_ball_40 : decode cX4_ball 40 = .ok (.athrow, 1) := by decide +kernel
theorem dX4_ball_41 : decode cX4_ball 41 = .ok (.iload_n 3, 1) := by decide +kernel
theorem dX4_ball_42 : decode cX4_ball 42 = .ok (.tableswitch 97 0 5 #[38, 45, 55, 65, 75, 90], 38) := by decide +kernel
theorem dX4_ball_80 : decode cX4_ball 80 = .ok (.aload 4, 2) := by decide +kernel
theorem dX4_ball_82 : decode cX4_ball 82 = .ok (.iload_n 2, 1) := by decide +kernel
theorem dX4_ball_83 : decode cX4_ball 83 = .ok (.invokevirtual 181, 3) := by decide +kernel
theorem dX4_ball_86 : decode cX4_ball 86 = .ok (.ireturn, 1) := by decide +kernel
theorem dX4_ball_87 : decode cX4_ball 87 = .ok (.aload 4, 2) := by decide +kernel
theorem dX4_ball_89 : decode cX4_ball 89 = .ok (.getfield 142, 3) := by decide +kernel
theorem dX4_ball_92 : decode cX4_ball 92 = .ok (.iload_n 2, 1) := by decide +kernel
theorem dX4_ball_93 : decode cX4_ball 93 = .ok (.invokevirtual 184, 3) := by decide +kernel
theorem dX4_ball_96 : decode cX4_ball 96 = .ok (.ireturn, 1) := by decide +kernel
theorem dX4_ball_97 : decode cX4_ball 97 = .ok (.aload 4, 2) := by decide +kernel
theorem dX4_ball_99 : decode cX4_ball 99 = .ok (.getfield 142, 3) := by decide +kernel
theorem dX4_ball_102 : decode cX4_ball 102 = .ok (.iload_n 2, 1) := by decide +kernel
theorem dX4_ball_103 : decode cX4_ball 103 = .ok (.invokevirtual 187, 3) := by decide +kernel
theorem dX4_ball_106 : decode cX4_ball 106 = .ok (.ireturn, 1) := by decide +kernel
theorem dX4_ball_107 : decode cX4_ball 107 = .ok (.aload 4, 2) := by decide +kernel
theorem dX4_ball_109 : decode cX4_ball 109 = .ok (.getfield 142, 3) := by decide +kernel
theorem dX4_ball_112 : decode cX4_ball 112 = .ok (.iload_n 2, 1) := by decide +kernel
theorem dX4_ball_113 : decode cX4_ball 113 = .ok (.invokevirtual 190, 3) := by decide +kernel
theorem dX4_ball_116 : decode cX4_ball 116 = .ok (.ireturn, 1) := by decide +kernel
theorem dX4_ball_117 : decode cX4_ball 117 = .ok (.aload 4, 2) := by decide +kernel
theorem dX4_ball_119 : decode cX4_ball 119 = .ok (.iload_n 2, 1) := by decide +kernel
theorem dX4_ball_120 : decode cX4_ball 120 = .ok (.invokevirtual 193, 3) := by decide +kernel
theorem dX4_ball_123 : decode cX4_ball 123 = .ok (.ifCond .eq 7, 3) := by decide +kernel
theorem dX4_ball_126 : decode cX4_ball 126 = .ok (.iconst 1, 1) := by decide +kernel
theorem dX4_ball_127 : decode cX4_ball 127 = .ok (.goto 4, 3) := by decide +kernel
theorem dX4_ball_130 : decode cX4_ball 130 = .ok (.iconst 0, 1) := by decide +kernel
theorem dX4_ball_131 : decode cX4_ball 131 = .ok (.ireturn, 1) := by decide +kernel
theorem dX4_ball_132 : decode cX4_ball 132 = .ok (.aload 4, 2) := by decide +kernel
theorem dX4_ball_134 : decode cX4_ball 134 = .ok (.iload_n 2, 1) := by decide +kernel
theorem dX4_ball_135 : decode cX4_ball 135 = .ok (.invokevirtual 197, 3) := by decide +kernel
theorem dX4_ball_138 : decode cX4_ball 138 = .ok (.ireturn, 1) := by decide +kernel
theorem dX4_ball_139 : decode cX4_ball 139 = .ok (.new 170, 3) := by decide +kernel
theorem dX4_ball_142 : decode cX4_ball 142 = .ok (.dup, 1) := by decide +kernel
theorem dX4_ball_143 : decode cX4_ball 143 = .ok (.ldc 200, 2) := by decide +kernel
theorem dX4_ball_145 : decode cX4_ball 145 = .ok (.invokespecial 174, 3) := by decide +kernel
theorem dX4_ball_148 : decode cX4_ball 148 = .ok (.athrow, 1) := by decide +kernel
set_option maxRecDepth 20000 in
theorem ggX4_at_X4_checkPile : GoodIn wsX4_at wsX4_checkPile := goodIn_ca (goodIn_r _ [12, 1, 2, 3, 13, 14, 15, 11, 16, 29, 30, 31, 32, 33, 34, 35, 36, 37, 38, 39, 40, 41, 42] (by decide +kernel) (by decide +kernel)) (goodIn_sub (fun _ h => List.mem_cons_of_mem _ (List.mem_append_right _ h)) (by decide +kernel))
set_option maxRecDepth 20000 in
theorem gX4_at_X4_checkPile : GoodIn wsX4_at (wsV RX4 88 RX4 yX4_checkPile wsX4_checkPile) := goodIn_app (goodIn_of _ (by decide +kernel)) ggX4_at_X4_checkPile
set_option maxRecDepth 20000 in
theorem ggX4_at_X4_isOutside : GoodIn wsX4_at wsX4_isOutside := goodIn_r _ [16] (by decide +kernel) (by decide +kernel)
set_option maxRecDepth 20000 in
theorem gX4_at_X4_isOutside : GoodIn wsX4_at (va_wsS RX4 175 yX4_isOutside wsX4_isOutside) := goodIn_app (goodIn_of _ (by decide +kernel)) ggX4_at_X4_isOutside
set_option maxRecDepth 20000 in
theorem ggX4_at_X2_numberOf : GoodIn wsX4_at wsX2_numberOf := goodIn_r _ [21, 22, 23, 24, 25, 20, 26, 27, 28, 47, 48, 49, 50] (by decide +kernel) (by decide +kernel)
set_option maxRecDepth 20000 in
theorem gX4_at_X2_numberOf : GoodIn wsX4_at (wsV RX4 208 RX2 yX2_numberOf wsX2_numberOf) := goodIn_app (goodIn_of _ (by decide +kernel)) ggX4_at_X2_numberOf
theorem dX4_at_0 : decode cX4_at 0 = .ok (.aload_n 0, 1) := by decide +kernel
theorem dX4_at_1 : decode cX4_at 1 = .ok (.iload_n 1, 1) := by decide +kernel
theorem dX4_at_2 : decode cX4_at 2 = .ok (.invokevirtual 88, 3) := by decide +kernel
theorem dX4_at_5 : decode cX4_at 5 = .ok (.aload_n 0, 1) := by decide +kernel
theorem dX4_at_6 : decode cX4_at 6 = .ok (.getfield 33, 3) := by decide +kernel
theorem dX4_at_9 : decode cX4_at 9 = .ok (.getfield 58, 3) := by decide +kernel
theorem dX4_at_12 : decode cX4_at 12 = .ok (.iload_n 1, 1) := by decide +kernel
theorem dX4_at_13 : decode cX4_at 13 = .ok (.aaload, 1) := by decide +kernel
theorem dX4_at_14 : decode cX4_at 14 = .ok (.astore 5, 2) := by decide +kernel
theorem dX4_at_16 : decode cX4_at 16 = .ok (.iload_n 2, 1) := by decide +kernel
theorem dX4_at_17 : decode cX4_at 17 = .ok (.iconst 0, 1) := by decide +kernel
theorem dX4_at_18 : decode cX4_at 18 = .ok (.aload 5, 2) := by decide +kernel
theorem dX4_at_20 : decode cX4_at 20 = .ok (.getfield 142, 3) := by decide +kernel
theorem dX4_at_23 : decode cX4_at 23 = .ok (.getfield 146, 3) := by decide +kernel
theorem dX4_at_26 : decode cX4_at 26 = .ok (.iconst 1, 1) := by decide +kernel
theorem dX4_at_27 : decode cX4_at 27 = .ok (.isub, 1) := by decide +kernel
theorem dX4_at_28 : decode cX4_at 28 = .ok (.invokestatic 175, 3) := by decide +kernel
theorem dX4_at_31 : decode cX4_at 31 = .ok (.ifCond .eq 13, 3) := by decide +kernel
theorem dX4_at_34 : decode cX4_at 34 = .ok (.new 170, 3) := by decide +kernel
theorem dX4_at_37 : decode cX4_at 37 = .ok (.dup, 1) := by decide +kernel
theorem dX4_at_38 : decode cX4_at 38 = .ok (.ldc 202, 2) := by decide +kernel
theorem dX4_at_40 : decode cX4_at 40 = .ok (.invokespecial 174, 3) := by decide +kernel
theorem dX4_at_43 : decode cX4_at 43 = .ok (.athrow, 1) := by decide +kernel
theorem dX4_at_44 : decode cX4_at 44 = .ok (.aload 5, 2) := by decide +kernel
theorem dX4_at_46 : decode cX4_at 46 = .ok (.getfield 142, 3) := by decide +kernel
theorem dX4_at_49 : decode cX4_at 49 = .ok (.getfield 146, 3) := by decide +kernel
theorem dX4_at_52 : decode cX4_at 52 = .ok (.iload_n 2, 1) := by decide +kernel
theorem dX4_at_53 : decode cX4_at 53 = .ok (.isub, 1) := by decide +kernel
theorem dX4_at_54 : decode cX4_at 54 = .ok (.istore 6, 2) := by decide +kernel
theorem dX4_at_56 : decode cX4_at 56 = .ok (.iload_n 3, 1) := by decide +kernel
theorem dX4_at_57 : decode cX4_at 57 = .ok (.iconst 0, 1) := by decide +kernel
theorem dX4_at_58 : decode cX4_at 58 = .ok (.iload 6, 2) := by decide +kernel
theorem dX4_at_60 : decode cX4_at 60 = .ok (.iconst 1, 1) := by decide +kernel
theorem dX4_at_61 : decode cX4_at 61 = .ok (.isub, 1) := by decide +kernel
theorem dX4_at_62 : decode cX4_at 62 = .ok (.invokestatic 175, 3) := by decide +kernel
theorem dX4_at_65 : decode cX4_at 65 = .ok (.ifCond .eq 13, 3) := by decide +kernel
theorem dX4_at_68 : decode cX4_at 68 = .ok (.new 170, 3) := by decide +kernel
theorem dX4_at_71 : decode cX4_at 71 = .ok (.dup, 1) := by decide +kernel
theorem dX4_at_72 : decode cX4_at 72 = .ok (.ldc 204, 2) := by decide +kernel
theorem dX4_at_74 : decode cX4_at 74 = .ok (.invokespecial 174, 3) := by decide +kernel
theorem dX4_at_77 : decode cX4_at 77 = .ok (.athrow, 1) := by decide +kernel
theorem dX4_at_78 : decode cX4_at 78 = .ok (.iload 4, 2) := by decide +kernel
theorem dX4_at_80 : decode cX4_at 80 = .ok (.iconst 0, 1) := by decide +kernel
theorem dX4_at_81 : decode cX4_at 81 = .ok (.iload 6, 2) := by decide +kernel
theorem dX4_at_83 : decode cX4_at 83 = .ok (.iconst 1, 1) := by decide +kernel
theorem dX4_at_84 : decode cX4_at 84 = .ok (.isub, 1) := by decide +kernel
theorem dX4_at_85 : decode cX4_at 85 = .ok (.invokestatic 175, 3) := by decide +kernel
theorem dX4_at_88 : decode cX4_at 88 = .ok (.ifCond .eq 13, 3) := by decide +kernel
theorem dX4_at_91 : decode cX4_at 91 = .ok (.new 170, 3) := by decide +kernel
theorem dX4_at_94 : decode cX4_at 94 = .ok (.dup, 1) := by decide +kernel
theorem dX4_at_95 : decode cX4_at 95 = .ok (.ldc 206, 2) := by decide +kernel
theorem dX4_at_97 : decode cX4_at 97 = .ok (.invokespecial 174, 3) := by decide +kernel
theorem dX4_at_100 : decode cX4_at 100 = .ok (.athrow, 1) := by decide +kernel
theorem dX4_at_101 : decode cX4_at 101 = .ok (.aload 5, 2) := by decide +kernel
theorem dX4_at_103 : decode cX4_at 103 = .ok (.getfield 142, 3) := by decide +kernel
theorem dX4_at_106 : decode cX4_at 106 = .ok (.iload_n 2, 1) := by decide +kernel
theorem dX4_at_107 : decode cX4_at 107 = .ok (.iload_n 3, 1) := by decide +kernel
theorem dX4_at_108 : decode cX4_at 108 = .ok (.iload 4, 2) := by decide +kernel
theorem dX4_at_110 : decode cX4_at 110 = .ok (.invokevirtual 208, 3) := by decide +kernel
theorem dX4_at_113 : decode cX4_at 113 = .ok (.istore 7, 2) := by decide +kernel
theorem dX4_at_115 : decode cX4_at 115 = .ok (.iload 7, 2) := by decide +kernel
theorem dX4_at_117 : decode cX4_at 117 = .ok (.aload 5, 2) := by decide +kernel
theorem dX4_at_119 : decode cX4_at 119 = .ok (.getfield 105, 3) := by decide +kernel
theorem dX4_at_122 : decode cX4_at 122 = .ok (.if_icmp .ge 8, 3) := by decide +kernel
theorem dX4_at_125 : decode cX4_at 125 = .ok (.iload 7, 2) := by decide +kernel
theorem dX4_at_127 : decode cX4_at 127 = .ok (.goto 4, 3) := by decide +kernel
theorem dX4_at_130 : decode cX4_at 130 = .ok (.iconst (-1), 1) := by decide +kernel
theorem dX4_at_131 : decode cX4_at 131 = .ok (.ireturn, 1) := by decide +kernel
set_option maxRecDepth 20000 in
theorem ggX4_told_X4_checkCalibre : GoodIn wsX4_told wsX4_checkCalibre := goodIn_ca (goodIn_r _ [11, 1, 2, 12, 13, 10, 14] (by decide +kernel) (by decide +kernel)) (goodIn_sub (fun _ h => List.mem_cons_of_mem _ (List.mem_append_right _ h)) (by decide +kernel))
set_option maxRecDepth 20000 in
theorem gX4_told_X4_checkCalibre : GoodIn wsX4_told (va_wsS RX4 40 yX4_checkCalibre wsX4_checkCalibre) := goodIn_app (goodIn_of _ (by decide +kernel)) ggX4_told_X4_checkCalibre
set_option maxRecDepth 20000 in
theorem ggX4_told_X3_ballsOfCalibre : GoodIn wsX4_told wsX3_ballsOfCalibre := goodIn_r _ [19, 20, 21, 22, 23, 30, 31, 32, 33, 34, 35, 36, 37, 38, 39, 40, 41] (by decide +kernel) (by decide +kernel)
set_option maxRecDepth 20000 in
theorem gX4_told_X3_ballsOfCalibre : GoodIn wsX4_told (wsV RX4 212 RX3 yX3_ballsOfCalibre wsX3_ballsOfCalibre) := goodIn_app (goodIn_of _ (by decide +kernel)) ggX4_told_X3_ballsOfCalibre
theorem dX4_told_0 : decode cX4_told 0 = .ok (.iload_n 1, 1) := by decide +kernel
theorem dX4_told_1 : decode cX4_told 1 = .ok (.invokestatic 40, 3) := by decide +kernel
theorem dX4_told_4 : decode cX4_told 4 = .ok (.iload_n 2, 1) := by decide +kernel
theorem dX4_told_5 : decode cX4_told 5 = .ok (.tableswitch 75 0 4 #[35, 42, 52, 61, 68], 35) := by decide +kernel
theorem dX4_told_40 : decode cX4_told 40 = .ok (.aload_n 0, 1) := by decide +kernel
theorem dX4_told_41 : decode cX4_told 41 = .ok (.getfield 18, 3) := by decide +kernel
theorem dX4_told_44 : decode cX4_told 44 = .ok (.iload_n 1, 1) := by decide +kernel
theorem dX4_told_45 : decode cX4_told 45 = .ok (.iaload, 1) := by decide +kernel
theorem dX4_told_46 : decode cX4_told 46 = .ok (.ireturn, 1) := by decide +kernel
theorem dX4_told_47 : decode cX4_told 47 = .ok (.aload_n 0, 1) := by decide +kernel
theorem dX4_told_48 : decode cX4_told 48 = .ok (.getfield 33, 3) := by decide +kernel
theorem dX4_told_51 : decode cX4_told 51 = .ok (.getfield 133, 3) := by decide +kernel
theorem dX4_told_54 : decode cX4_told 54 = .ok (.iload_n 1, 1) := by decide +kernel
theorem dX4_told_55 : decode cX4_told 55 = .ok (.iaload, 1) := by decide +kernel
theorem dX4_told_56 : decode cX4_told 56 = .ok (.ireturn, 1) := by decide +kernel
theorem dX4_told_57 : decode cX4_told 57 = .ok (.aload_n 0, 1) := by decide +kernel
theorem dX4_told_58 : decode cX4_told 58 = .ok (.getfield 33, 3) := by decide +kernel
theorem dX4_told_61 : decode cX4_told 61 = .ok (.iload_n 1, 1) := by decide +kernel
theorem dX4_told_62 : decode cX4_told 62 = .ok (.invokevirtual 212, 3) := by decide +kernel
theorem dX4_told_65 : decode cX4_told 65 = .ok (.ireturn, 1) := by decide +kernel
theorem dX4_told_66 : decode cX4_told 66 = .ok (.aload_n 0, 1) := by decide +kernel
theorem dX4_told_67 : decode cX4_told 67 = .ok (.getfield 22, 3) := by decide +kernel
theorem dX4_told_70 : decode cX4_told 70 = .ok (.iload_n 1, 1) := by decide +kernel
theorem dX4_told_71 : decode cX4_told 71 = .ok (.iaload, 1) := by decide +kernel
theorem dX4_told_72 : decode cX4_told 72 = .ok (.ireturn, 1) := by decide +kernel
theorem dX4_told_73 : decode cX4_told 73 = .ok (.aload_n 0, 1) := by decide +kernel
theorem dX4_told_74 : decode cX4_told 74 = .ok (.getfield 25, 3) := by decide +kernel
theorem dX4_told_77 : decode cX4_told 77 = .ok (.iload_n 1, 1) := by decide +kernel
theorem dX4_told_78 : decode cX4_told 78 = .ok (.iaload, 1) := by decide +kernel
theorem dX4_told_79 : decode cX4_told 79 = .ok (.ireturn, 1) := by decide +kernel
theorem dX4_told_80 : decode cX4_told 80 = .ok (.new 170, 3) := by decide +kernel
theorem dX4_told_83 : decode cX4_told 83 = .ok (.dup, 1) := by decide +kernel
theorem dX4_told_84 : decode cX4_told 84 = .ok (.ldc 215, 2) := by decide +kernel
theorem dX4_told_86 : decode cX4_told 86 = .ok (.invokespecial 174, 3) := by decide +kernel
theorem dX4_told_89 : decode cX4_told 89 = .ok (.athrow, 1) := by decide +kernel
set_option maxRecDepth 20000 in
theorem ggX4_mouser_X4_checkCat : GoodIn wsX4_mouser wsX4_checkCat := goodIn_ca (goodIn_r _ [12, 1, 2, 3, 13, 14, 15, 11, 16, 17, 18, 19, 20, 21, 22, 23, 24, 25, 26, 27, 28, 29, 30] (by decide +kernel) (by decide +kernel)) (goodIn_sub (fun _ h => List.mem_cons_of_mem _ (List.mem_append_right _ h)) (by decide +kernel))
set_option maxRecDepth 20000 in
theorem gX4_mouser_X4_checkCat : GoodIn wsX4_mouser (wsV RX4 136 RX4 yX4_checkCat wsX4_checkCat) := goodIn_app (goodIn_of _ (by decide +kernel)) ggX4_mouser_X4_checkCat
theorem dX4_mouser_0 : decode cX4_mouser 0 = .ok (.aload_n 0, 1) := by decide +kernel
theorem dX4_mouser_1 : decode cX4_mouser 1 = .ok (.iload_n 1, 1) := by decide +kernel
theorem dX4_mouser_2 : decode cX4_mouser 2 = .ok (.invokevirtual 136, 3) := by decide +kernel
theorem dX4_mouser_5 : decode cX4_mouser 5 = .ok (.aload_n 0, 1) := by decide +kernel
theorem dX4_mouser_6 : decode cX4_mouser 6 = .ok (.getfield 33, 3) := by decide +kernel
theorem dX4_mouser_9 : decode cX4_mouser 9 = .ok (.getfield 73, 3) := by decide +kernel
theorem dX4_mouser_12 : decode cX4_mouser 12 = .ok (.iload_n 1, 1) := by decide +kernel
theorem dX4_mouser_13 : decode cX4_mouser 13 = .ok (.aaload, 1) := by decide +kernel
theorem dX4_mouser_14 : decode cX4_mouser 14 = .ok (.astore_n 3, 1) := by decide +kernel
theorem dX4_mouser_15 : decode cX4_mouser 15 = .ok (.iload_n 2, 1) := by decide +kernel
theorem dX4_mouser_16 : decode cX4_mouser 16 = .ok (.tableswitch 43 0 2 #[28, 33, 38], 28) := by decide +kernel
theorem dX4_mouser_44 : decode cX4_mouser 44 = .ok (.aload_n 3, 1) := by decide +kernel
theorem dX4_mouser_45 : decode cX4_mouser 45 = .ok (.getfield 77, 3) := by decide +kernel
theorem dX4_mouser_48 : decode cX4_mouser 48 = .ok (.ireturn, 1) := by decide +kernel
theorem dX4_mouser_49 : decode cX4_mouser 49 = .ok (.aload_n 3, 1) := by decide +kernel
theorem dX4_mouser_50 : decode cX4_mouser 50 = .ok (.getfield 139, 3) := by decide +kernel
theorem dX4_mouser_53 : decode cX4_mouser 53 = .ok (.ireturn, 1) := by decide +kernel
theorem dX4_mouser_54 : decode cX4_mouser 54 = .ok (.aload_n 3, 1) := by decide +kernel
theorem dX4_mouser_55 : decode cX4_mouser 55 = .ok (.getfield 217, 3) := by decide +kernel
theorem dX4_mouser_58 : decode cX4_mouser 58 = .ok (.ireturn, 1) := by decide +kernel
theorem dX4_mouser_59 : decode cX4_mouser 59 = .ok (.new 170, 3) := by decide +kernel
theorem dX4_mouser_62 : decode cX4_mouser 62 = .ok (.dup, 1) := by decide +kernel
theorem dX4_mouser_63 : decode cX4_mouser 63 = .ok (.ldc 220, 2) := by decide +kernel
theorem dX4_mouser_65 : decode cX4_mouser 65 = .ok (.invokespecial 174, 3) := by decide +kernel
theorem dX4_mouser_68 : decode cX4_mouser 68 = .ok (.athrow, 1) := by decide +kernel
set_option maxRecDepth 20000 in
theorem ggX4_count_X4_sum : GoodIn wsX4_count wsX4_sum := goodIn_r _ [15] (by decide +kernel) (by decide +kernel)
set_option maxRecDepth 20000 in
theorem gX4_count_X4_sum : GoodIn wsX4_count (va_wsS RX4 225 yX4_sum wsX4_sum) := goodIn_app (goodIn_of _ (by decide +kernel)) ggX4_count_X4_sum
set_option maxRecDepth 20000 in
theorem ggX4_count_X3_ballCount : GoodIn wsX4_count wsX3_ballCount := goodIn_r _ [20, 21, 22, 23, 24, 25, 13, 14, 15, 26, 27, 28, 29, 30, 31, 32, 39, 40, 41, 42, 43, 44, 45, 46, 47, 48, 49, 50] (by decide +kernel) (by decide +kernel)
set_option maxRecDepth 20000 in
theorem gX4_count_X3_ballCount : GoodIn wsX4_count (wsV RX4 229 RX3 yX3_ballCount wsX3_ballCount) := goodIn_app (goodIn_of _ (by decide +kernel)) ggX4_count_X3_ballCount
theorem dX4_count_0 : decode cX4_count 0 = .ok (.iload_n 1, 1) := by decide +kernel
theorem dX4_count_1 : decode cX4_count 1 = .ok (.tableswitch 132 0 10 #[59, 67, 75, 83, 91, 91, 91, 100, 108, 116, 124], 59) := by decide +kernel
theorem dX4_count_60 : decode cX4_count 60 = .ok (.aload_n 0, 1) := by decide +kernel
theorem dX4_count_61 : decode cX4_count 61 = .ok (.getfield 33, 3) := by decide +kernel
theorem dX4_count_64 : decode cX4_count 64 = .ok (.getfield 222, 3) := by decide +kernel
theorem dX4_count_67 : decode cX4_count 67 = .ok (.ireturn, 1) := by decide +kernel
theorem dX4_count_68 : decode cX4_count 68 = .ok (.aload_n 0, 1) := by decide +kernel
theorem dX4_count_69 : decode cX4_count 69 = .ok (.getfield 33, 3) := by decide +kernel
theorem dX4_count_72 : decode cX4_count 72 = .ok (.getfield 47, 3) := by decide +kernel
theorem dX4_count_75 : decode cX4_count 75 = .ok (.ireturn, 1) := by decide +kernel
theorem dX4_count_76 : decode cX4_count 76 = .ok (.aload_n 0, 1) := by decide +kernel
theorem dX4_count_77 : decode cX4_count 77 = .ok (.getfield 33, 3) := by decide +kernel
theorem dX4_count_80 : decode cX4_count 80 = .ok (.getfield 68, 3) := by decide +kernel
theorem dX4_count_83 : decode cX4_count 83 = .ok (.ireturn, 1) := by decide +kernel
theorem dX4_count_84 : decode cX4_count 84 = .ok (.aload_n 0, 1) := by decide +kernel
theorem dX4_count_85 : decode cX4_count 85 = .ok (.getfield 18, 3) := by decide +kernel
theorem dX4_count_88 : decode cX4_count 88 = .ok (.invokestatic 225, 3) := by decide +kernel
theorem dX4_count_91 : decode cX4_count 91 = .ok (.ireturn, 1) := by decide +kernel
theorem dX4_count_92 : decode cX4_count 92 = .ok (.aload_n 0, 1) := by decide +kernel
theorem dX4_count_93 : decode cX4_count 93 = .ok (.getfield 33, 3) := by decide +kernel
theorem dX4_count_96 : decode cX4_count 96 = .ok (.iload_n 1, 1) := by decide +kernel
theorem dX4_count_97 : decode cX4_count 97 = .ok (.invokevirtual 229, 3) := by decide +kernel
theorem dX4_count_100 : decode cX4_count 100 = .ok (.ireturn, 1) := by decide +kernel
theorem dX4_count_101 : decode cX4_count 101 = .ok (.aload_n 0, 1) := by decide +kernel
theorem dX4_count_102 : decode cX4_count 102 = .ok (.getfield 22, 3) := by decide +kernel
theorem dX4_count_105 : decode cX4_count 105 = .ok (.invokestatic 225, 3) := by decide +kernel
theorem dX4_count_108 : decode cX4_count 108 = .ok (.ireturn, 1) := by decide +kernel
theorem dX4_count_109 : decode cX4_count 109 = .ok (.aload_n 0, 1) := by decide +kernel
theorem dX4_count_110 : decode cX4_count 110 = .ok (.getfield 25, 3) := by decide +kernel
theorem dX4_count_113 : decode cX4_count 113 = .ok (.invokestatic 225, 3) := by decide +kernel
theorem dX4_count_116 : decode cX4_count 116 = .ok (.ireturn, 1) := by decide +kernel
theorem dX4_count_117 : decode cX4_count 117 = .ok (.aload_n 0, 1) := by decide +kernel
theorem dX4_count_118 : decode cX4_count 118 = .ok (.getfield 33, 3) := by decide +kernel
theorem dX4_count_121 : decode cX4_count 121 = .ok (.getfield 82, 3) := by decide +kernel
theorem dX4_count_124 : decode cX4_count 124 = .ok (.ireturn, 1) := by decide +kernel
theorem dX4_count_125 : decode cX4_count 125 = .ok (.aload_n 0, 1) := by decide +kernel
theorem dX4_count_126 : decode cX4_count 126 = .ok (.getfield 33, 3) := by decide +kernel
theorem dX4_count_129 : decode cX4_count 129 = .ok (.getfield 85, 3) := by decide +kernel
theorem dX4_count_132 : decode cX4_count 132 = .ok (.ireturn, 1) := by decide +kernel
theorem dX4_count_133 : decode cX4_count 133 = .ok (.new 170, 3) := by decide +kernel
theorem dX4_count_136 : decode cX4_count 136 = .ok (.dup, 1) := by decide +kernel
theorem dX4_count_137 : decode cX4_count 137 = .ok (.ldc 232, 2) := by decide +kernel
theorem dX4_count_139 : decode cX4_count 139 = .ok (.invokespecial 174, 3) := by decide +kernel
theorem dX4_count_142 : decode cX4_count 142 = .ok (.athrow, 1) := by decide +kernel
set_option maxRecDepth 20000 in
theorem ggX4_room_X4_checkArgument : GoodIn wsX4_room wsX4_checkArgument := goodIn_ca (goodIn_r _ [4, 5, 6, 7, 8, 3, 9] (by decide +kernel) (by decide +kernel)) (goodIn_sub (fun _ h => List.mem_cons_of_mem _ (List.mem_append_right _ h)) (by decide +kernel))
set_option maxRecDepth 20000 in
theorem gX4_room_X4_checkArgument : GoodIn wsX4_room (va_wsS RX4 43 yX4_checkArgument wsX4_checkArgument) := goodIn_app (goodIn_of _ (by decide +kernel)) ggX4_room_X4_checkArgument
set_option maxRecDepth 20000 in
theorem ggX4_room_X2_squares : GoodIn wsX4_room wsX2_squares := goodIn_r _ [13] (by decide +kernel) (by decide +kernel)
set_option maxRecDepth 20000 in
theorem gX4_room_X2_squares : GoodIn wsX4_room (va_wsS RX4 234 yX2_squares wsX2_squares) := goodIn_app (goodIn_of _ (by decide +kernel)) ggX4_room_X2_squares
theorem dX4_room_0 : decode cX4_room 0 = .ok (.iload_n 1, 1) := by decide +kernel
theorem dX4_room_1 : decode cX4_room 1 = .ok (.iconst 1, 1) := by decide +kernel
theorem dX4_room_2 : decode cX4_room 2 = .ok (.bipush 20, 2) := by decide +kernel
theorem dX4_room_4 : decode cX4_room 4 = .ok (.invokestatic 43, 3) := by decide +kernel
theorem dX4_room_7 : decode cX4_room 7 = .ok (.iload_n 1, 1) := by decide +kernel
theorem dX4_room_8 : decode cX4_room 8 = .ok (.invokestatic 234, 3) := by decide +kernel
theorem dX4_room_11 : decode cX4_room 11 = .ok (.ireturn, 1) := by decide +kernel
set_option maxRecDepth 20000 in
theorem ggX4_side_X4_checkArgument : GoodIn wsX4_side wsX4_checkArgument := goodIn_ca (goodIn_r _ [4, 5, 6, 7, 8, 3, 9] (by decide +kernel) (by decide +kernel)) (goodIn_sub (fun _ h => List.mem_cons_of_mem _ (List.mem_append_right _ h)) (by decide +kernel))
set_option maxRecDepth 20000 in
theorem gX4_side_X4_checkArgument : GoodIn wsX4_side (va_wsS RX4 43 yX4_checkArgument wsX4_checkArgument) := goodIn_app (goodIn_of _ (by decide +kernel)) ggX4_side_X4_checkArgument
set_option maxRecDepth 20000 in
theorem ggX4_side_X2_squares : GoodIn wsX4_side wsX2_squares := goodIn_r _ [13] (by decide +kernel) (by decide +kernel)
set_option maxRecDepth 20000 in
theorem gX4_side_X2_squares : GoodIn wsX4_side (va_wsS RX4 234 yX2_squares wsX2_squares) := goodIn_app (goodIn_of _ (by decide +kernel)) ggX4_side_X2_squares
theorem dX4_side_0 : decode cX4_side 0 = .ok (.iload_n 1, 1) := by decide +kernel
theorem dX4_side_1 : decode cX4_side 1 = .ok (.iconst 1, 1) := by decide +kernel
theorem dX4_side_2 : decode cX4_side 2 = .ok (.sipush 2870, 3) := by decide +kernel
theorem dX4_side_5 : decode cX4_side 5 = .ok (.invokestatic 43, 3) := by decide +kernel
theorem dX4_side_8 : decode cX4_side 8 = .ok (.iconst 1, 1) := by decide +kernel
theorem dX4_side_9 : decode cX4_side 9 = .ok (.istore_n 2, 1) := by decide +kernel
theorem dX4_side_10 : decode cX4_side 10 = .ok (.iload_n 2, 1) := by decide +kernel
theorem dX4_side_11 : decode cX4_side 11 = .ok (.bipush 20, 2) := by decide +kernel
theorem dX4_side_13 : decode cX4_side 13 = .ok (.if_icmp .ge 17, 3) := by decide +kernel
theorem dX4_side_16 : decode cX4_side 16 = .ok (.iload_n 2, 1) := by decide +kernel
theorem dX4_side_17 : decode cX4_side 17 = .ok (.invokestatic 234, 3) := by decide +kernel
theorem dX4_side_20 : decode cX4_side 20 = .ok (.iload_n 1, 1) := by decide +kernel
theorem dX4_side_21 : decode cX4_side 21 = .ok (.if_icmp .ge 9, 3) := by decide +kernel
theorem dX4_side_24 : decode cX4_side 24 = .ok (.iinc 2 1, 3) := by decide +kernel
theorem dX4_side_27 : decode cX4_side 27 = .ok (.goto (-17), 3) := by decide +kernel
theorem dX4_side_30 : decode cX4_side 30 = .ok (.iload_n 2, 1) := by decide +kernel
theorem dX4_side_31 : decode cX4_side 31 = .ok (.ireturn, 1) := by decide +kernel
set_option maxRecDepth 20000 in
theorem ggX4_pass_X4_checkArgument : GoodIn wsX4_pass wsX4_checkArgument := goodIn_ca (goodIn_r _ [5, 6, 7, 8, 9, 4, 10] (by decide +kernel) (by decide +kernel)) (goodIn_sub (fun _ h => List.mem_cons_of_mem _ (List.mem_append_right _ h)) (by decide +kernel))
set_option maxRecDepth 20000 in
theorem gX4_pass_X4_checkArgument : GoodIn wsX4_pass (va_wsS RX4 43 yX4_checkArgument wsX4_checkArgument) := goodIn_app (goodIn_of _ (by decide +kernel)) ggX4_pass_X4_checkArgument
set_option maxRecDepth 20000 in
theorem ggX4_pass_X3_passDays : GoodIn wsX4_pass wsX3_passDays := goodIn_r _ [15, 16, 17, 18, 14, 19, 20, 21, 22, 23, 24, 25, 26, 27, 28, 29, 30, 31, 32, 33, 34, 35, 36, 37, 38, 39, 40, 41, 42, 43, 44, 45, 46, 47, 48, 49, 50, 51, 52, 53, 54, 55, 56, 57, 58, 59, 60, 61, 62, 63, 64, 65, 66, 67, 68, 69, 70, 71, 72, 73, 74, 75, 76, 77, 78, 79, 80, 81, 88, 89, 90, 91, 92, 93, 94, 95, 96, 97, 98, 99, 100, 101, 102, 103, 104, 105, 106] (by decide +kernel) (by decide +kernel)
set_option maxRecDepth 20000 in
theorem gX4_pass_X3_passDays : GoodIn wsX4_pass (wsV RX4 237 RX3 yX3_passDays wsX3_passDays) := goodIn_app (goodIn_of _ (by decide +kernel)) ggX4_pass_X3_passDays
theorem dX4_pass_0 : decode cX4_pass 0 = .ok (.iload_n 1, 1) := by decide +kernel
theorem dX4_pass_1 : decode cX4_pass 1 = .ok (.iconst 1, 1) := by decide +kernel
theorem dX4_pass_2 : decode cX4_pass 2 = .ok (.bipush 60, 2) := by decide +kernel
theorem dX4_pass_4 : decode cX4_pass 4 = .ok (.invokestatic 43, 3) := by decide +kernel
theorem dX4_pass_7 : decode cX4_pass 7 = .ok (.aload_n 0, 1) := by decide +kernel
theorem dX4_pass_8 : decode cX4_pass 8 = .ok (.getfield 33, 3) := by decide +kernel
theorem dX4_pass_11 : decode cX4_pass 11 = .ok (.iload_n 1, 1) := by decide +kernel
theorem dX4_pass_12 : decode cX4_pass 12 = .ok (.invokevirtual 237, 3) := by decide +kernel
theorem dX4_pass_15 : decode cX4_pass 15 = .ok (.ireturn, 1) := by decide +kernel
set_option maxRecDepth 20000 in
theorem ggX4_until_X4_checkPile : GoodIn wsX4_until wsX4_checkPile := goodIn_ca (goodIn_r _ [9, 10, 11, 2, 12, 13, 14, 8, 15, 111, 112, 113, 114, 115, 116, 117, 118, 119, 120, 121, 122, 123, 124] (by decide +kernel) (by decide +kernel)) (goodIn_sub (fun _ h => List.mem_cons_of_mem _ (List.mem_append_right _ h)) (by decide +kernel))
set_option maxRecDepth 20000 in
theorem gX4_until_X4_checkPile : GoodIn wsX4_until (wsV RX4 88 RX4 yX4_checkPile wsX4_checkPile) := goodIn_app (goodIn_of _ (by decide +kernel)) ggX4_until_X4_checkPile
set_option maxRecDepth 20000 in
theorem ggX4_until_X3_copyFrom : GoodIn wsX4_until wsX3_copyFrom := goodIn_r _ [20, 21, 22, 23, 24, 25, 26, 27, 28, 29, 30, 31, 32, 33, 34, 35, 36, 37, 38, 39, 40, 41, 42, 43, 44, 45, 46, 47, 48, 49, 50, 117, 118, 119, 120, 121, 122, 123, 124, 125, 126, 127, 128, 129, 130, 131] (by decide +kernel) (by decide +kernel)
set_option maxRecDepth 20000 in
theorem gX4_until_X3_copyFrom : GoodIn wsX4_until (wsV RX4 240 RX3 yX3_copyFrom wsX3_copyFrom) := goodIn_app (goodIn_of _ (by decide +kernel)) ggX4_until_X3_copyFrom
set_option maxRecDepth 20000 in
theorem ggX4_until_X1_rustyBalls : GoodIn wsX4_until wsX1_rustyBalls := goodIn_r _ [54, 40, 41, 125, 126, 127, 128] (by decide +kernel) (by decide +kernel)
set_option maxRecDepth 20000 in
theorem gX4_until_X1_rustyBalls : GoodIn wsX4_until (wsV RX4 161 RX1 yX1_rustyBalls wsX1_rustyBalls) := goodIn_app (goodIn_of _ (by decide +kernel)) ggX4_until_X1_rustyBalls
set_option maxRecDepth 20000 in
theorem ggX4_until_X3_passDays : GoodIn wsX4_until wsX3_passDays := goodIn_r _ [58, 59, 60, 61, 19, 62, 21, 22, 31, 23, 24, 30, 63, 64, 65, 36, 66, 40, 41, 67, 68, 69, 70, 71, 72, 73, 74, 39, 75, 76, 77, 78, 79, 80, 81, 82, 83, 84, 85, 86, 25, 87, 88, 89, 90, 91, 46, 92, 49, 48, 93, 94, 95, 96, 97, 98, 99, 100, 101, 102, 103, 104, 105, 106, 107, 108, 109, 110, 117, 118, 119, 120, 121, 122, 123, 124, 125, 126, 127, 128, 132, 133, 134, 135, 129, 130, 131] (by decide +kernel) (by decide +kernel)
set_option maxRecDepth 20000 in
theorem gX4_until_X3_passDays : GoodIn wsX4_until (wsV RX4 237 RX3 yX3_passDays wsX3_passDays) := goodIn_app (goodIn_of _ (by decide +kernel)) ggX4_until_X3_passDays
theorem dX4_until_0 : decode cX4_until 0 = .ok (.aload_n 0, 1) := by decide +kernel
theorem dX4_until_1 : decode cX4_until 1 = .ok (.iload_n 1, 1) := by decide +kernel
theorem dX4_until_2 : decode cX4_until 2 = .ok (.invokevirtual 88, 3) := by decide +kernel
theorem dX4_until_5 : decode cX4_until 5 = .ok (.aload_n 0, 1) := by decide +kernel
theorem dX4_until_6 : decode cX4_until 6 = .ok (.getfield 37, 3) := by decide +kernel
theorem dX4_until_9 : decode cX4_until 9 = .ok (.aload_n 0, 1) := by decide +kernel
theorem dX4_until_10 : decode cX4_until 10 = .ok (.getfield 33, 3) := by decide +kernel
theorem dX4_until_13 : decode cX4_until 13 = .ok (.invokevirtual 240, 3) := by decide +kernel
theorem dX4_until_16 : decode cX4_until 16 = .ok (.iconst 0, 1) := by decide +kernel
theorem dX4_until_17 : decode cX4_until 17 = .ok (.istore_n 2, 1) := by decide +kernel
theorem dX4_until_18 : decode cX4_until 18 = .ok (.iload_n 2, 1) := by decide +kernel
theorem dX4_until_19 : decode cX4_until 19 = .ok (.bipush 40, 2) := by decide +kernel
theorem dX4_until_21 : decode cX4_until 21 = .ok (.if_icmp .gt 42, 3) := by decide +kernel
theorem dX4_until_24 : decode cX4_until 24 = .ok (.aload_n 0, 1) := by decide +kernel
theorem dX4_until_25 : decode cX4_until 25 = .ok (.getfield 37, 3) := by decide +kernel
theorem dX4_until_28 : decode cX4_until 28 = .ok (.getfield 58, 3) := by decide +kernel
theorem dX4_until_31 : decode cX4_until 31 = .ok (.iload_n 1, 1) := by decide +kernel
theorem dX4_until_32 : decode cX4_until 32 = .ok (.aaload, 1) := by decide +kernel
theorem dX4_until_33 : decode cX4_until 33 = .ok (.aload_n 0, 1) := by decide +kernel
theorem dX4_until_34 : decode cX4_until 34 = .ok (.getfield 37, 3) := by decide +kernel
theorem dX4_until_37 : decode cX4_until 37 = .ok (.getfield 85, 3) := by decide +kernel
theorem dX4_until_40 : decode cX4_until 40 = .ok (.invokevirtual 161, 3) := by decide +kernel
theorem dX4_until_43 : decode cX4_until 43 = .ok (.ifCond .le 5, 3) := by decide +kernel
theorem dX4_until_46 : decode cX4_until 46 = .ok (.iload_n 2, 1) := by decide +kernel
theorem dX4_until_47 : decode cX4_until 47 = .ok (.ireturn, 1) := by decide +kernel
theorem dX4_until_48 : decode cX4_until 48 = .ok (.aload_n 0, 1) := by decide +kernel
theorem dX4_until_49 : decode cX4_until 49 = .ok (.getfield 37, 3) := by decide +kernel
theorem dX4_until_52 : decode cX4_until 52 = .ok (.iconst 1, 1) := by decide +kernel
theorem dX4_until_53 : decode cX4_until 53 = .ok (.invokevirtual 237, 3) := by decide +kernel
theorem dX4_until_56 : decode cX4_until 56 = .ok (.pop, 1) := by decide +kernel
theorem dX4_until_57 : decode cX4_until 57 = .ok (.iinc 2 1, 3) := by decide +kernel
theorem dX4_until_60 : decode cX4_until 60 = .ok (.goto (-42), 3) := by decide +kernel
theorem dX4_until_63 : decode cX4_until 63 = .ok (.iconst (-1), 1) := by decide +kernel
theorem dX4_until_64 : decode cX4_until 64 = .ok (.ireturn, 1) := by decide +kernel
set_option maxRecDepth 20000 in
theorem ggX4_foresee_X4_checkArgument : GoodIn wsX4_foresee wsX4_checkArgument := goodIn_ca (goodIn_r _ [8, 9, 10, 11, 12, 7, 13] (by decide +kernel) (by decide +kernel)) (goodIn_sub (fun _ h => List.mem_cons_of_mem _ (List.mem_append_right _ h)) (by decide +kernel))
set_option maxRecDepth 20000 in
theorem gX4_foresee_X4_checkArgument : GoodIn wsX4_foresee (va_wsS RX4 43 yX4_checkArgument wsX4_checkArgument) := goodIn_app (goodIn_of _ (by decide +kernel)) ggX4_foresee_X4_checkArgument
set_option maxRecDepth 20000 in
theorem ggX4_foresee_X4_isOutside : GoodIn wsX4_foresee wsX4_isOutside := goodIn_r _ [13] (by decide +kernel) (by decide +kernel)
set_option maxRecDepth 20000 in
theorem gX4_foresee_X4_isOutside : GoodIn wsX4_foresee (va_wsS RX4 175 yX4_isOutside wsX4_isOutside) := goodIn_app (goodIn_of _ (by decide +kernel)) ggX4_foresee_X4_isOutside
set_option maxRecDepth 20000 in
theorem ggX4_foresee_X3_copyFrom : GoodIn wsX4_foresee wsX3_copyFrom := goodIn_r _ [18, 19, 20, 21, 22, 23, 24, 25, 26, 27, 28, 29, 30, 31, 32, 33, 34, 35, 36, 37, 38, 39, 40, 41, 42, 43, 44, 45, 46, 47, 48, 122, 123, 124, 125, 126, 127, 128, 129, 130, 131, 132, 133, 134, 135, 136] (by decide +kernel) (by decide +kernel)
set_option maxRecDepth 20000 in
theorem gX4_foresee_X3_copyFrom : GoodIn wsX4_foresee (wsV RX4 240 RX3 yX3_copyFrom wsX3_copyFrom) := goodIn_app (goodIn_of _ (by decide +kernel)) ggX4_foresee_X3_copyFrom
set_option maxRecDepth 20000 in
theorem ggX4_foresee_X3_passDays : GoodIn wsX4_foresee wsX3_passDays := goodIn_r _ [52, 53, 54, 55, 17, 56, 19, 20, 29, 21, 22, 28, 57, 58, 59, 34, 60, 38, 39, 61, 62, 63, 64, 65, 66, 67, 68, 37, 69, 70, 71, 72, 73, 74, 75, 76, 77, 78, 79, 80, 23, 81, 82, 83, 84, 85, 44, 86, 47, 46, 87, 88, 89, 90, 91, 92, 93, 94, 95, 96, 97, 98, 99, 100, 101, 102, 103, 104, 122, 123, 124, 125, 126, 127, 128, 129, 130, 131, 132, 133, 137, 138, 139, 140, 134, 135, 136] (by decide +kernel) (by decide +kernel)
set_option maxRecDepth 20000 in
theorem gX4_foresee_X3_passDays : GoodIn wsX4_foresee (wsV RX4 237 RX3 yX3_passDays wsX3_passDays) := goodIn_app (goodIn_of _ (by decide +kernel)) ggX4_foresee_X3_passDays
set_option maxRecDepth 20000 in
theorem ggX4_foresee_X3_ballCount : GoodIn wsX4_foresee wsX3_ballCount := goodIn_r _ [108, 23, 19, 20, 30, 109, 110, 7, 111, 112, 113, 114, 34, 115, 38, 39, 122, 123, 124, 125, 126, 127, 128, 129, 130, 131, 132, 133] (by decide +kernel) (by decide +kernel)
set_option maxRecDepth 20000 in
theorem gX4_foresee_X3_ballCount : GoodIn wsX4_foresee (wsV RX4 229 RX3 yX3_ballCount wsX3_ballCount) := goodIn_app (goodIn_of _ (by decide +kernel)) ggX4_foresee_X3_ballCount
theorem dX4_foresee_0 : decode cX4_foresee 0 = .ok (.iload_n 1, 1) := by decide +kernel
theorem dX4_foresee_1 : decode cX4_foresee 1 = .ok (.iconst 1, 1) := by decide +kernel
theorem dX4_foresee_2 : decode cX4_foresee 2 = .ok (.bipush 30, 2) := by decide +kernel
theorem dX4_foresee_4 : decode cX4_foresee 4 = .ok (.invokestatic 43, 3) := by decide +kernel
theorem dX4_foresee_7 : decode cX4_foresee 7 = .ok (.iload_n 2, 1) := by decide +kernel
theorem dX4_foresee_8 : decode cX4_foresee 8 = .ok (.iconst 4, 1) := by decide +kernel
theorem dX4_foresee_9 : decode cX4_foresee 9 = .ok (.bipush 6, 2) := by decide +kernel
theorem dX4_foresee_11 : decode cX4_foresee 11 = .ok (.invokestatic 175, 3) := by decide +kernel
theorem dX4_foresee_14 : decode cX4_foresee 14 = .ok (.ifCond .eq 13, 3) := by decide +kernel
theorem dX4_foresee_17 : decode cX4_foresee 17 = .ok (.new 170, 3) := by decide +kernel
theorem dX4_foresee_20 : decode cX4_foresee 20 = .ok (.dup, 1) := by decide +kernel
theorem dX4_foresee_21 : decode cX4_foresee 21 = .ok (.ldc 244, 2) := by decide +kernel
theorem dX4_foresee_23 : decode cX4_foresee 23 = .ok (.invokespecial 174, 3) := by decide +kernel
theorem dX4_foresee_26 : decode cX4_foresee 26 = .ok (.athrow, 1) := by decide +kernel
theorem dX4_foresee_27 : decode cX4_foresee 27 = .ok (.aload_n 0, 1) := by decide +kernel
theorem dX4_foresee_28 : decode cX4_foresee 28 = .ok (.getfield 37, 3) := by decide +kernel
theorem dX4_foresee_31 : decode cX4_foresee 31 = .ok (.aload_n 0, 1) := by decide +kernel
theorem dX4_foresee_32 : decode cX4_foresee 32 = .ok (.getfield 33, 3) := by decide +kernel
theorem dX4_foresee_35 : decode cX4_foresee 35 = .ok (.invokevirtual 240, 3) := by decide +kernel
theorem dX4_foresee_38 : decode cX4_foresee 38 = .ok (.aload_n 0, 1) := by decide +kernel
theorem dX4_foresee_39 : decode cX4_foresee 39 = .ok (.getfield 37, 3) := by decide +kernel
theorem dX4_foresee_42 : decode cX4_foresee 42 = .ok (.iload_n 1, 1) := by decide +kernel
theorem dX4_foresee_43 : decode cX4_foresee 43 = .ok (.invokevirtual 237, 3) := by decide +kernel
theorem dX4_foresee_46 : decode cX4_foresee 46 = .ok (.pop, 1) := by decide +kernel
theorem dX4_foresee_47 : decode cX4_foresee 47 = .ok (.aload_n 0, 1) := by decide +kernel
theorem dX4_foresee_48 : decode cX4_foresee 48 = .ok (.getfield 37, 3) := by decide +kernel
theorem dX4_foresee_51 : decode cX4_foresee 51 = .ok (.iload_n 2, 1) := by decide +kernel
theorem dX4_foresee_52 : decode cX4_foresee 52 = .ok (.invokevirtual 229, 3) := by decide +kernel
theorem dX4_foresee_55 : decode cX4_foresee 55 = .ok (.ireturn, 1) := by decide +kernel
set_option maxRecDepth 20000 in
theorem ggX4_would_X4_checkPile : GoodIn wsX4_would wsX4_checkPile := goodIn_ca (goodIn_r _ [10, 11, 12, 1, 13, 14, 15, 9, 16, 31, 32, 33, 34, 35, 36, 37, 38, 39, 40, 41, 42, 43, 44] (by decide +kernel) (by decide +kernel)) (goodIn_sub (fun _ h => List.mem_cons_of_mem _ (List.mem_append_right _ h)) (by decide +kernel))
set_option maxRecDepth 20000 in
theorem gX4_would_X4_checkPile : GoodIn wsX4_would (wsV RX4 88 RX4 yX4_checkPile wsX4_checkPile) := goodIn_app (goodIn_of _ (by decide +kernel)) ggX4_would_X4_checkPile
set_option maxRecDepth 20000 in
theorem ggX4_would_X1_rustyBalls : GoodIn wsX4_would wsX1_rustyBalls := goodIn_r _ [21, 22, 23, 45, 46, 47, 48] (by decide +kernel) (by decide +kernel)
set_option maxRecDepth 20000 in
theorem gX4_would_X1_rustyBalls : GoodIn wsX4_would (wsV RX4 161 RX1 yX1_rustyBalls wsX1_rustyBalls) := goodIn_app (goodIn_of _ (by decide +kernel)) ggX4_would_X1_rustyBalls
set_option maxRecDepth 20000 in
theorem ggX4_would_X2_layersBegun : GoodIn wsX4_would wsX2_layersBegun := goodIn_r _ [28, 29, 30, 49, 50, 51, 52] (by decide +kernel) (by decide +kernel)
set_option maxRecDepth 20000 in
theorem gX4_would_X2_layersBegun : GoodIn wsX4_would (wsV RX4 152 RX2 yX2_layersBegun wsX2_layersBegun) := goodIn_app (goodIn_of _ (by decide +kernel)) ggX4_would_X2_layersBegun
theorem dX4_would_0 : decode cX4_would 0 = .ok (.aload_n 0, 1) := by decide +kernel
theorem dX4_would_1 : decode cX4_would 1 = .ok (.iload_n 1, 1) := by decide +kernel
theorem dX4_would_2 : decode cX4_would 2 = .ok (.invokevirtual 88, 3) := by decide +kernel
theorem dX4_would_5 : decode cX4_would 5 = .ok (.aload_n 0, 1) := by decide +kernel
theorem dX4_would_6 : decode cX4_would 6 = .ok (.getfield 33, 3) := by decide +kernel
theorem dX4_would_9 : decode cX4_would 9 = .ok (.getfield 58, 3) := by decide +kernel
theorem dX4_would_12 : decode cX4_would 12 = .ok (.iload_n 1, 1) := by decide +kernel
theorem dX4_would_13 : decode cX4_would 13 = .ok (.aaload, 1) := by decide +kernel
theorem dX4_would_14 : decode cX4_would 14 = .ok (.astore_n 2, 1) := by decide +kernel
theorem dX4_would_15 : decode cX4_would 15 = .ok (.aload_n 2, 1) := by decide +kernel
theorem dX4_would_16 : decode cX4_would 16 = .ok (.getfield 142, 3) := by decide +kernel
theorem dX4_would_19 : decode cX4_would 19 = .ok (.aload_n 2, 1) := by decide +kernel
theorem dX4_would_20 : decode cX4_would 20 = .ok (.getfield 105, 3) := by decide +kernel
theorem dX4_would_23 : decode cX4_would 23 = .ok (.aload_n 2, 1) := by decide +kernel
theorem dX4_would_24 : decode cX4_would 24 = .ok (.aload_n 0, 1) := by decide +kernel
theorem dX4_would_25 : decode cX4_would 25 = .ok (.getfield 33, 3) := by decide +kernel
theorem dX4_would_28 : decode cX4_would 28 = .ok (.getfield 85, 3) := by decide +kernel
theorem dX4_would_31 : decode cX4_would 31 = .ok (.invokevirtual 161, 3) := by decide +kernel
theorem dX4_would_34 : decode cX4_would 34 = .ok (.isub, 1) := by decide +kernel
theorem dX4_would_35 : decode cX4_would 35 = .ok (.invokevirtual 152, 3) := by decide +kernel
theorem dX4_would_38 : decode cX4_would 38 = .ok (.ireturn, 1) := by decide +kernel
set_option maxRecDepth 20000 in
theorem ggX4_advise_X1_rustyBalls : GoodIn wsX4_advise wsX1_rustyBalls := goodIn_r _ [10, 11, 12, 27, 28, 29, 30] (by decide +kernel) (by decide +kernel)
set_option maxRecDepth 20000 in
theorem gX4_advise_X1_rustyBalls : GoodIn wsX4_advise (wsV RX4 161 RX1 yX1_rustyBalls wsX1_rustyBalls) := goodIn_app (goodIn_of _ (by decide +kernel)) ggX4_advise_X1_rustyBalls
theorem dX4_advise_0 : decode cX4_advise 0 = .ok (.iconst (-1), 1) := by decide +kernel
theorem dX4_advise_1 : decode cX4_advise 1 = .ok (.istore_n 1, 1) := by decide +kernel
theorem dX4_advise_2 : decode cX4_advise 2 = .ok (.iconst 0, 1) := by decide +kernel
theorem dX4_advise_3 : decode cX4_advise 3 = .ok (.istore_n 2, 1) := by decide +kernel
theorem dX4_advise_4 : decode cX4_advise 4 = .ok (.iconst 0, 1) := by decide +kernel
theorem dX4_advise_5 : decode cX4_advise 5 = .ok (.istore_n 3, 1) := by decide +kernel
theorem dX4_advise_6 : decode cX4_advise 6 = .ok (.iconst 0, 1) := by decide +kernel
theorem dX4_advise_7 : decode cX4_advise 7 = .ok (.istore 4, 2) := by decide +kernel
theorem dX4_advise_9 : decode cX4_advise 9 = .ok (.iload 4, 2) := by decide +kernel
theorem dX4_advise_11 : decode cX4_advise 11 = .ok (.aload_n 0, 1) := by decide +kernel
theorem dX4_advise_12 : decode cX4_advise 12 = .ok (.getfield 33, 3) := by decide +kernel
theorem dX4_advise_15 : decode cX4_advise 15 = .ok (.getfield 47, 3) := by decide +kernel
theorem dX4_advise_18 : decode cX4_advise 18 = .ok (.if_icmp .ge 78, 3) := by decide +kernel
theorem dX4_advise_21 : decode cX4_advise 21 = .ok (.aload_n 0, 1) := by decide +kernel
theorem dX4_advise_22 : decode cX4_advise 22 = .ok (.getfield 33, 3) := by decide +kernel
theorem dX4_advise_25 : decode cX4_advise 25 = .ok (.getfield 58, 3) := by decide +kernel
theorem dX4_advise_28 : decode cX4_advise 28 = .ok (.iload 4, 2) := by decide +kernel
theorem dX4_advise_30 : decode cX4_advise 30 = .ok (.aaload, 1) := by decide +kernel
theorem dX4_advise_31 : decode cX4_advise 31 = .ok (.aload_n 0, 1) := by decide +kernel
theorem dX4_advise_32 : decode cX4_advise 32 = .ok (.getfield 33, 3) := by decide +kernel
theorem dX4_advise_35 : decode cX4_advise 35 = .ok (.getfield 85, 3) := by decide +kernel
theorem dX4_advise_38 : decode cX4_advise 38 = .ok (.invokevirtual 161, 3) := by decide +kernel
theorem dX4_advise_41 : decode cX4_advise 41 = .ok (.istore 5, 2) := by decide +kernel
theorem dX4_advise_43 : decode cX4_advise 43 = .ok (.aload_n 0, 1) := by decide +kernel
theorem dX4_advise_44 : decode cX4_advise 44 = .ok (.getfield 33, 3) := by decide +kernel
theorem dX4_advise_47 : decode cX4_advise 47 = .ok (.getfield 58, 3) := by decide +kernel
theorem dX4_advise_50 : decode cX4_advise 50 = .ok (.iload 4, 2) := by decide +kernel
theorem dX4_advise_52 : decode cX4_advise 52 = .ok (.aaload, 1) := by decide +kernel
theorem dX4_advise_53 : decode cX4_advise 53 = .ok (.getfield 105, 3) := by decide +kernel
theorem dX4_advise_56 : decode cX4_advise 56 = .ok (.istore 6, 2) := by decide +kernel
theorem dX4_advise_58 : decode cX4_advise 58 = .ok (.iload 5, 2) := by decide +kernel
theorem dX4_advise_60 : decode cX4_advise 60 = .ok (.iload_n 2, 1) := by decide +kernel
theorem dX4_advise_61 : decode cX4_advise 61 = .ok (.if_icmp .gt 20, 3) := by decide +kernel
theorem dX4_advise_64 : decode cX4_advise 64 = .ok (.iload 5, 2) := by decide +kernel
theorem dX4_advise_66 : decode cX4_advise 66 = .ok (.ifCond .le 24, 3) := by decide +kernel
theorem dX4_advise_69 : decode cX4_advise 69 = .ok (.iload 5, 2) := by decide +kernel
theorem dX4_advise_71 : decode cX4_advise 71 = .ok (.iload_n 2, 1) := by decide +kernel
theorem dX4_advise_72 : decode cX4_advise 72 = .ok (.if_icmp .ne 18, 3) := by decide +kernel
theorem dX4_advise_75 : decode cX4_advise 75 = .ok (.iload 6, 2) := by decide +kernel
theorem dX4_advise_77 : decode cX4_advise 77 = .ok (.iload_n 3, 1) := by decide +kernel
theorem dX4_advise_78 : decode cX4_advise 78 = .ok (.if_icmp .ge 12, 3) := by decide +kernel
theorem dX4_advise_81 : decode cX4_advise 81 = .ok (.iload 4, 2) := by decide +kernel
theorem dX4_advise_83 : decode cX4_advise 83 = .ok (.istore_n 1, 1) := by decide +kernel
theorem dX4_advise_84 : decode cX4_advise 84 = .ok (.iload 5, 2) := by decide +kernel
theorem dX4_advise_86 : decode cX4_advise 86 = .ok (.istore_n 2, 1) := by decide +kernel
theorem dX4_advise_87 : decode cX4_advise 87 = .ok (.iload 6, 2) := by decide +kernel
theorem dX4_advise_89 : decode cX4_advise 89 = .ok (.istore_n 3, 1) := by decide +kernel
theorem dX4_advise_90 : decode cX4_advise 90 = .ok (.iinc 4 1, 3) := by decide +kernel
theorem dX4_advise_93 : decode cX4_advise 93 = .ok (.goto (-84), 3) := by decide +kernel
theorem dX4_advise_96 : decode cX4_advise 96 = .ok (.iload_n 1, 1) := by decide +kernel
theorem dX4_advise_97 : decode cX4_advise 97 = .ok (.ireturn, 1) := by decide +kernel
set_option maxRecDepth 20000 in
theorem ggX4_mean_X1_allRust : GoodIn wsX4_mean wsX1_allRust := goodIn_r _ [9, 10, 11, 26, 27, 28, 29] (by decide +kernel) (by decide +kernel)
set_option maxRecDepth 20000 in
theorem gX4_mean_X1_allRust : GoodIn wsX4_mean (wsV RX4 167 RX1 yX1_allRust wsX1_allRust) := goodIn_app (goodIn_of _ (by decide +kernel)) ggX4_mean_X1_allRust
theorem dX4_mean_0 : decode cX4_mean 0 = .ok (.iconst 0, 1) := by decide +kernel
theorem dX4_mean_1 : decode cX4_mean 1 = .ok (.istore_n 1, 1) := by decide +kernel
theorem dX4_mean_2 : decode cX4_mean 2 = .ok (.iconst 0, 1) := by decide +kernel
theorem dX4_mean_3 : decode cX4_mean 3 = .ok (.istore_n 2, 1) := by decide +kernel
theorem dX4_mean_4 : decode cX4_mean 4 = .ok (.iconst 0, 1) := by decide +kernel
theorem dX4_mean_5 : decode cX4_mean 5 = .ok (.istore_n 3, 1) := by decide +kernel
theorem dX4_mean_6 : decode cX4_mean 6 = .ok (.iload_n 3, 1) := by decide +kernel
theorem dX4_mean_7 : decode cX4_mean 7 = .ok (.aload_n 0, 1) := by decide +kernel
theorem dX4_mean_8 : decode cX4_mean 8 = .ok (.getfield 33, 3) := by decide +kernel
theorem dX4_mean_11 : decode cX4_mean 11 = .ok (.getfield 47, 3) := by decide +kernel
theorem dX4_mean_14 : decode cX4_mean 14 = .ok (.if_icmp .ge 39, 3) := by decide +kernel
theorem dX4_mean_17 : decode cX4_mean 17 = .ok (.iload_n 1, 1) := by decide +kernel
theorem dX4_mean_18 : decode cX4_mean 18 = .ok (.aload_n 0, 1) := by decide +kernel
theorem dX4_mean_19 : decode cX4_mean 19 = .ok (.getfield 33, 3) := by decide +kernel
theorem dX4_mean_22 : decode cX4_mean 22 = .ok (.getfield 58, 3) := by decide +kernel
theorem dX4_mean_25 : decode cX4_mean 25 = .ok (.iload_n 3, 1) := by decide +kernel
theorem dX4_mean_26 : decode cX4_mean 26 = .ok (.aaload, 1) := by decide +kernel
theorem dX4_mean_27 : decode cX4_mean 27 = .ok (.getfield 105, 3) := by decide +kernel
theorem dX4_mean_30 : decode cX4_mean 30 = .ok (.iadd, 1) := by decide +kernel
theorem dX4_mean_31 : decode cX4_mean 31 = .ok (.istore_n 1, 1) := by decide +kernel
theorem dX4_mean_32 : decode cX4_mean 32 = .ok (.iload_n 2, 1) := by decide +kernel
theorem dX4_mean_33 : decode cX4_mean 33 = .ok (.aload_n 0, 1) := by decide +kernel
theorem dX4_mean_34 : decode cX4_mean 34 = .ok (.getfield 33, 3) := by decide +kernel
theorem dX4_mean_37 : decode cX4_mean 37 = .ok (.getfield 58, 3) := by decide +kernel
theorem dX4_mean_40 : decode cX4_mean 40 = .ok (.iload_n 3, 1) := by decide +kernel
theorem dX4_mean_41 : decode cX4_mean 41 = .ok (.aaload, 1) := by decide +kernel
theorem dX4_mean_42 : decode cX4_mean 42 = .ok (.invokevirtual 167, 3) := by decide +kernel
theorem dX4_mean_45 : decode cX4_mean 45 = .ok (.iadd, 1) := by decide +kernel
theorem dX4_mean_46 : decode cX4_mean 46 = .ok (.istore_n 2, 1) := by decide +kernel
theorem dX4_mean_47 : decode cX4_mean 47 = .ok (.iinc 3 1, 3) := by decide +kernel
theorem dX4_mean_50 : decode cX4_mean 50 = .ok (.goto (-44), 3) := by decide +kernel
theorem dX4_mean_53 : decode cX4_mean 53 = .ok (.iload_n 1, 1) := by decide +kernel
theorem dX4_mean_54 : decode cX4_mean 54 = .ok (.ifCond .ne 7, 3) := by decide +kernel
theorem dX4_mean_57 : decode cX4_mean 57 = .ok (.dconst 0, 1) := by decide +kernel
theorem dX4_mean_58 : decode cX4_mean 58 = .ok (.goto 8, 3) := by decide +kernel
theorem dX4_mean_61 : decode cX4_mean 61 = .ok (.iload_n 2, 1) := by decide +kernel
theorem dX4_mean_62 : decode cX4_mean 62 = .ok (.i2d, 1) := by decide +kernel
theorem dX4_mean_63 : decode cX4_mean 63 = .ok (.iload_n 1, 1) := by decide +kernel
theorem dX4_mean_64 : decode cX4_mean 64 = .ok (.i2d, 1) := by decide +kernel
theorem dX4_mean_65 : decode cX4_mean 65 = .ok (.ddiv, 1) := by decide +kernel
theorem dX4_mean_66 : decode cX4_mean 66 = .ok (.dreturn, 1) := by decide +kernel
set_option maxRecDepth 20000 in
theorem ggX4_digest_X4_count : GoodIn wsX4_digest wsX4_count := goodIn_ca (goodIn_r _ [10, 11, 12, 3, 13, 4, 5, 14, 15, 16, 17, 18, 19, 20, 9, 21, 22, 23, 24, 25, 26, 27, 28, 29, 30, 31, 32, 33, 34, 35, 36, 37, 38, 128, 129, 130, 131, 132, 133, 134, 135, 136, 137, 138, 139, 140, 141, 142, 143, 144, 145] (by decide +kernel) (by decide +kernel)) (goodIn_sub (fun _ h => List.mem_cons_of_mem _ (List.mem_append_right _ h)) (by decide +kernel))
set_option maxRecDepth 20000 in
theorem gX4_digest_X4_count : GoodIn wsX4_digest (wsV RX4 250 RX4 yX4_count wsX4_count) := goodIn_app (goodIn_of _ (by decide +kernel)) ggX4_digest_X4_count
set_option maxRecDepth 20000 in
theorem ggX4_digest_X4_told : GoodIn wsX4_digest wsX4_told := goodIn_ca (goodIn_r _ [42, 11, 12, 14, 3, 43, 15, 16, 44, 45, 9, 46, 47, 48, 49, 50, 51, 52, 25, 53, 28, 29, 54, 31, 128, 129, 130, 131, 132, 133, 134, 135, 136, 137, 138, 139, 140, 141, 142, 143, 144, 145] (by decide +kernel) (by decide +kernel)) (goodIn_sub (fun _ h => List.mem_cons_of_mem _ (List.mem_append_right _ h)) (by decide +kernel))
set_option maxRecDepth 20000 in
theorem gX4_digest_X4_told : GoodIn wsX4_digest (wsV RX4 253 RX4 yX4_told wsX4_told) := goodIn_app (goodIn_of _ (by decide +kernel)) ggX4_digest_X4_told
set_option maxRecDepth 20000 in
theorem ggX4_digest_X4_digestOfPile : GoodIn wsX4_digest wsX4_digestOfPile := goodIn_ca (goodIn_r _ [58, 2, 3, 59, 60, 61, 62, 63, 9, 64, 11, 12, 65, 66, 67, 68, 18, 69, 70, 71, 72, 4, 47, 48, 49, 73, 74, 75, 76, 77, 78, 79, 80, 81, 82, 83, 84, 85, 86, 35, 87, 37, 88, 89, 90, 91, 92, 93, 94, 95, 96, 97, 98, 99, 33, 34, 36, 38, 100, 101, 102, 103, 104, 105, 106, 107, 108, 109, 110, 111, 112, 113, 114, 115, 128, 129, 130, 131, 132, 133, 134, 135, 136, 137, 138, 139, 140, 141, 142, 143, 144, 145, 146, 147, 148, 149] (by decide +kernel) (by decide +kernel)) (goodIn_sub (fun _ h => List.mem_cons_of_mem _ (List.mem_append_right _ h)) (by decide +kernel))
set_option maxRecDepth 20000 in
theorem gX4_digest_X4_digestOfPile : GoodIn wsX4_digest (wsV RX4 256 RX4 yX4_digestOfPile wsX4_digestOfPile) := goodIn_app (goodIn_of _ (by decide +kernel)) ggX4_digest_X4_digestOfPile
set_option maxRecDepth 20000 in
theorem ggX4_digest_X4_mouser : GoodIn wsX4_digest wsX4_mouser := goodIn_ca (goodIn_r _ [119, 11, 12, 3, 120, 121, 122, 123, 124, 125, 126, 9, 127, 5, 47, 48, 49, 128, 129, 130, 131, 132, 133, 134, 135, 136, 137, 138, 139, 140, 141, 150, 151, 152] (by decide +kernel) (by decide +kernel)) (goodIn_sub (fun _ h => List.mem_cons_of_mem _ (List.mem_append_right _ h)) (by decide +kernel))
set_option maxRecDepth 20000 in
theorem gX4_digest_X4_mouser : GoodIn wsX4_digest (wsV RX4 260 RX4 yX4_mouser wsX4_mouser) := goodIn_app (goodIn_of _ (by decide +kernel)) ggX4_digest_X4_mouser
theorem dX4_digest_0 : decode cX4_digest 0 = .ok (.ldc2_w 246, 3) := by decide +kernel
theorem dX4_digest_3 : decode cX4_digest 3 = .ok (.lstore_n 1, 1) := by decide +kernel
theorem dX4_digest_4 : decode cX4_digest 4 = .ok (.iconst 0, 1) := by decide +kernel
theorem dX4_digest_5 : decode cX4_digest 5 = .ok (.istore_n 3, 1) := by decide +kernel
theorem dX4_digest_6 : decode cX4_digest 6 = .ok (.iload_n 3, 1) := by decide +kernel
theorem dX4_digest_7 : decode cX4_digest 7 = .ok (.bipush 11, 2) := by decide +kernel
theorem dX4_digest_9 : decode cX4_digest 9 = .ok (.if_icmp .ge 22, 3) := by decide +kernel
theorem dX4_digest_12 : decode cX4_digest 12 = .ok (.lload_n 1, 1) := by decide +kernel
theorem dX4_digest_13 : decode cX4_digest 13 = .ok (.ldc2_w 248, 3) := by decide +kernel
theorem dX4_digest_16 : decode cX4_digest 16 = .ok (.lmul, 1) := by decide +kernel
theorem dX4_digest_17 : decode cX4_digest 17 = .ok (.aload_n 0, 1) := by decide +kernel
theorem dX4_digest_18 : decode cX4_digest 18 = .ok (.iload_n 3, 1) := by decide +kernel
theorem dX4_digest_19 : decode cX4_digest 19 = .ok (.invokevirtual 250, 3) := by decide +kernel
theorem dX4_digest_22 : decode cX4_digest 22 = .ok (.i2l, 1) := by decide +kernel
theorem dX4_digest_23 : decode cX4_digest 23 = .ok (.ladd, 1) := by decide +kernel
theorem dX4_digest_24 : decode cX4_digest 24 = .ok (.lstore_n 1, 1) := by decide +kernel
theorem dX4_digest_25 : decode cX4_digest 25 = .ok (.iinc 3 1, 3) := by decide +kernel
theorem dX4_digest_28 : decode cX4_digest 28 = .ok (.goto (-22), 3) := by decide +kernel
theorem dX4_digest_31 : decode cX4_digest 31 = .ok (.iconst 0, 1) := by decide +kernel
theorem dX4_digest_32 : decode cX4_digest 32 = .ok (.istore_n 3, 1) := by decide +kernel
theorem dX4_digest_33 : decode cX4_digest 33 = .ok (.iload_n 3, 1) := by decide +kernel
theorem dX4_digest_34 : decode cX4_digest 34 = .ok (.iconst 5, 1) := by decide +kernel
theorem dX4_digest_35 : decode cX4_digest 35 = .ok (.if_icmp .ge 39, 3) := by decide +kernel
theorem dX4_digest_38 : decode cX4_digest 38 = .ok (.iconst 0, 1) := by decide +kernel
theorem dX4_digest_39 : decode cX4_digest 39 = .ok (.istore 4, 2) := by decide +kernel
theorem dX4_digest_41 : decode cX4_digest 41 = .ok (.iload 4, 2) := by decide +kernel
theorem dX4_digest_43 : decode cX4_digest 43 = .ok (.iconst 5, 1) := by decide +kernel
theorem dX4_digest_44 : decode cX4_digest 44 = .ok (.if_icmp .ge 24, 3) := by decide +kernel
theorem dX4_digest_47 : decode cX4_digest 47 = .ok (.lload_n 1, 1) := by decide +kernel
theorem dX4_digest_48 : decode cX4_digest 48 = .ok (.ldc2_w 248, 3) := by decide +kernel
theorem dX4_digest_51 : decode cX4_digest 51 = .ok (.lmul, 1) := by decide +kernel
theorem dX4_digest_52 : decode cX4_digest 52 = .ok (.aload_n 0, 1) := by decide +kernel
theorem dX4_digest_53 : decode cX4_digest 53 = .ok (.iload_n 3, 1) := by decide +kernel
theorem dX4_digest_54 : decode cX4_digest 54 = .ok (.iload 4, 2) := by decide +kernel
theorem dX4_digest_56 : decode cX4_digest 56 = .ok (.invokevirtual 253, 3) := by decide +kernel
theorem dX4_digest_59 : decode cX4_digest 59 = .ok (.i2l, 1) := by decide +kernel
theorem dX4_digest_60 : decode cX4_digest 60 = .ok (.ladd, 1) := by decide +kernel
theorem dX4_digest_61 : decode cX4_digest 61 = .ok (.lstore_n 1, 1) := by decide +kernel
theorem dX4_digest_62 : decode cX4_digest 62 = .ok (.iinc 4 1, 3) := by decide +kernel
theorem dX4_digest_65 : decode cX4_digest 65 = .ok (.goto (-24), 3) := by decide +kernel
theorem dX4_digest_68 : decode cX4_digest 68 = .ok (.iinc 3 1, 3) := by decide +kernel
theorem dX4_digest_71 : decode cX4_digest 71 = .ok (.goto (-38), 3) := by decide +kernel
theorem dX4_digest_74 : decode cX4_digest 74 = .ok (.iconst 0, 1) := by decide +kernel
theorem dX4_digest_75 : decode cX4_digest 75 = .ok (.istore_n 3, 1) := by decide +kernel
theorem dX4_digest_76 : decode cX4_digest 76 = .ok (.iload_n 3, 1) := by decide +kernel
theorem dX4_digest_77 : decode cX4_digest 77 = .ok (.aload_n 0, 1) := by decide +kernel
theorem dX4_digest_78 : decode cX4_digest 78 = .ok (.getfield 33, 3) := by decide +kernel
theorem dX4_digest_81 : decode cX4_digest 81 = .ok (.getfield 47, 3) := by decide +kernel
theorem dX4_digest_84 : decode cX4_digest 84 = .ok (.if_icmp .ge 16, 3) := by decide +kernel
theorem dX4_digest_87 : decode cX4_digest 87 = .ok (.aload_n 0, 1) := by decide +kernel
theorem dX4_digest_88 : decode cX4_digest 88 = .ok (.lload_n 1, 1) := by decide +kernel
theorem dX4_digest_89 : decode cX4_digest 89 = .ok (.iload_n 3, 1) := by decide +kernel
theorem dX4_digest_90 : decode cX4_digest 90 = .ok (.invokevirtual 256, 3) := by decide +kernel
theorem dX4_digest_93 : decode cX4_digest 93 = .ok (.lstore_n 1, 1) := by decide +kernel
theorem dX4_digest_94 : decode cX4_digest 94 = .ok (.iinc 3 1, 3) := by decide +kernel
theorem dX4_digest_97 : decode cX4_digest 97 = .ok (.goto (-21), 3) := by decide +kernel
theorem dX4_digest_100 : decode cX4_digest 100 = .ok (.iconst 0, 1) := by decide +kernel
theorem dX4_digest_101 : decode cX4_digest 101 = .ok (.istore_n 3, 1) := by decide +kernel
theorem dX4_digest_102 : decode cX4_digest 102 = .ok (.iload_n 3, 1) := by decide +kernel
theorem dX4_digest_103 : decode cX4_digest 103 = .ok (.aload_n 0, 1) := by decide +kernel
theorem dX4_digest_104 : decode cX4_digest 104 = .ok (.getfield 33, 3) := by decide +kernel
theorem dX4_digest_107 : decode cX4_digest 107 = .ok (.getfield 68, 3) := by decide +kernel
theorem dX4_digest_110 : decode cX4_digest 110 = .ok (.if_icmp .ge 39, 3) := by decide +kernel
theorem dX4_digest_113 : decode cX4_digest 113 = .ok (.iconst 0, 1) := by decide +kernel
theorem dX4_digest_114 : decode cX4_digest 114 = .ok (.istore 4, 2) := by decide +kernel
theorem dX4_digest_116 : decode cX4_digest 116 = .ok (.iload 4, 2) := by decide +kernel
theorem dX4_digest_118 : decode cX4_digest 118 = .ok (.iconst 3, 1) := by decide +kernel
theorem dX4_digest_119 : decode cX4_digest 119 = .ok (.if_icmp .ge 24, 3) := by decide +kernel
theorem dX4_digest_122 : decode cX4_digest 122 = .ok (.lload_n 1, 1) := by decide +kernel
theorem dX4_digest_123 : decode cX4_digest 123 = .ok (.ldc2_w 248, 3) := by decide +kernel
theorem dX4_digest_126 : decode cX4_digest 126 = .ok (.lmul, 1) := by decide +kernel
theorem dX4_digest_127 : decode cX4_digest 127 = .ok (.aload_n 0, 1) := by decide +kernel
theorem dX4_digest_128 : decode cX4_digest 128 = .ok (.iload_n 3, 1) := by decide +kernel
theorem dX4_digest_129 : decode cX4_digest 129 = .ok (.iload 4, 2) := by decide +kernel
theorem dX4_digest_131 : decode cX4_digest 131 = .ok (.invokevirtual 260, 3) := by decide +kernel
theorem dX4_digest_134 : decode cX4_digest 134 = .ok (.i2l, 1) := by decide +kernel
theorem dX4_digest_135 : decode cX4_digest 135 = .ok (.ladd, 1) := by decide +kernel
theorem dX4_digest_136 : decode cX4_digest 136 = .ok (.lstore_n 1, 1) := by decide +kernel
theorem dX4_digest_137 : decode cX4_digest 137 = .ok (.iinc 4 1, 3) := by decide +kernel
theorem dX4_digest_140 : decode cX4_digest 140 = .ok (.goto (-24), 3) := by decide +kernel
theorem dX4_digest_143 : decode cX4_digest 143 = .ok (.iinc 3 1, 3) := by decide +kernel
theorem dX4_digest_146 : decode cX4_digest 146 = .ok (.goto (-44), 3) := by decide +kernel
theorem dX4_digest_149 : decode cX4_digest 149 = .ok (.lload_n 1, 1) := by decide +kernel
theorem dX4_digest_150 : decode cX4_digest 150 = .ok (.lreturn, 1) := by decide +kernel
set_option maxRecDepth 20000 in
theorem ggX4_digestOfPile_X4_about : GoodIn wsX4_digestOfPile wsX4_about := goodIn_ca (goodIn_r _ [9, 10, 11, 2, 3, 12, 13, 14, 4, 15, 16, 17, 18, 19, 8, 20, 21, 22, 23, 24, 25, 26, 27, 28, 29, 30, 31, 32, 33, 34, 35, 36, 37, 38, 39, 40, 41, 42, 43, 44, 45, 46, 47, 48, 49, 50, 51, 52, 53, 54, 55, 56, 57, 58, 59, 60, 61, 62, 63, 64, 65, 66, 67, 68, 69, 74, 75, 76, 77, 78, 79, 80, 81, 82, 83, 84, 85, 86, 87, 88, 89, 90, 91, 92, 93, 94, 95] (by decide +kernel) (by decide +kernel)) (goodIn_sub (fun _ h => List.mem_cons_of_mem _ (List.mem_append_right _ h)) (by decide +kernel))
set_option maxRecDepth 20000 in
theorem gX4_digestOfPile_X4_about : GoodIn wsX4_digestOfPile (wsV RX4 263 RX4 yX4_about wsX4_about) := goodIn_app (goodIn_of _ (by decide +kernel)) ggX4_digestOfPile_X4_about
set_option maxRecDepth 20000 in
theorem ggX4_digestOfPile_X1_rustOf : GoodIn wsX4_digestOfPile wsX1_rustOf := goodIn_r _ [73, 57, 88, 89, 90, 91] (by decide +kernel) (by decide +kernel)
set_option maxRecDepth 20000 in
theorem gX4_digestOfPile_X1_rustOf : GoodIn wsX4_digestOfPile (wsV RX4 181 RX1 yX1_rustOf wsX1_rustOf) := goodIn_app (goodIn_of _ (by decide +kernel)) ggX4_digestOfPile_X1_rustOf
theorem dX4_digestOfPile_0 : decode cX4_digestOfPile 0 = .ok (.lload_n 1, 1) := by decide +kernel
theorem dX4_digestOfPile_1 : decode cX4_digestOfPile 1 = .ok (.lstore 4, 2) := by decide +kernel
theorem dX4_digestOfPile_3 : decode cX4_digestOfPile 3 = .ok (.iconst 0, 1) := by decide +kernel
theorem dX4_digestOfPile_4 : decode cX4_digestOfPile 4 = .ok (.istore 6, 2) := by decide +kernel
theorem dX4_digestOfPile_6 : decode cX4_digestOfPile 6 = .ok (.iload 6, 2) := by decide +kernel
theorem dX4_digestOfPile_8 : decode cX4_digestOfPile 8 = .ok (.bipush 10, 2) := by decide +kernel
theorem dX4_digestOfPile_10 : decode cX4_digestOfPile 10 = .ok (.if_icmp .ge 26, 3) := by decide +kernel
theorem dX4_digestOfPile_13 : decode cX4_digestOfPile 13 = .ok (.lload 4, 2) := by decide +kernel
theorem dX4_digestOfPile_15 : decode cX4_digestOfPile 15 = .ok (.ldc2_w 248, 3) := by decide +kernel
theorem dX4_digestOfPile_18 : decode cX4_digestOfPile 18 = .ok (.lmul, 1) := by decide +kernel
theorem dX4_digestOfPile_19 : decode cX4_digestOfPile 19 = .ok (.aload_n 0, 1) := by decide +kernel
theorem dX4_digestOfPile_20 : decode cX4_digestOfPile 20 = .ok (.iload_n 3, 1) := by decide +kernel
theorem dX4_digestOfPile_21 : decode cX4_digestOfPile 21 = .ok (.iload 6, 2) := by decide +kernel
theorem dX4_digestOfPile_23 : decode cX4_digestOfPile 23 = .ok (.invokevirtual 263, 3) := by decide +kernel
theorem dX4_digestOfPile_26 : decode cX4_digestOfPile 26 = .ok (.i2l, 1) := by decide +kernel
theorem dX4_digestOfPile_27 : decode cX4_digestOfPile 27 = .ok (.ladd, 1) := by decide +kernel
theorem dX4_digestOfPile_28 : decode cX4_digestOfPile 28 = .ok (.lstore 4, 2) := by decide +kernel
theorem dX4_digestOfPile_30 : decode cX4_digestOfPile 30 = .ok (.iinc 6 1, 3) := by decide +kernel
theorem dX4_digestOfPile_33 : decode cX4_digestOfPile 33 = .ok (.goto (-27), 3) := by decide +kernel
theorem dX4_digestOfPile_36 : decode cX4_digestOfPile 36 = .ok (.aload_n 0, 1) := by decide +kernel
theorem dX4_digestOfPile_37 : decode cX4_digestOfPile 37 = .ok (.getfield 33, 3) := by decide +kernel
theorem dX4_digestOfPile_40 : decode cX4_digestOfPile 40 = .ok (.getfield 58, 3) := by decide +kernel
theorem dX4_digestOfPile_43 : decode cX4_digestOfPile 43 = .ok (.iload_n 3, 1) := by decide +kernel
theorem dX4_digestOfPile_44 : decode cX4_digestOfPile 44 = .ok (.aaload, 1) := by decide +kernel
theorem dX4_digestOfPile_45 : decode cX4_digestOfPile 45 = .ok (.astore 6, 2) := by decide +kernel
theorem dX4_digestOfPile_47 : decode cX4_digestOfPile 47 = .ok (.iconst 0, 1) := by decide +kernel
theorem dX4_digestOfPile_48 : decode cX4_digestOfPile 48 = .ok (.istore 7, 2) := by decide +kernel
theorem dX4_digestOfPile_50 : decode cX4_digestOfPile 50 = .ok (.iload 7, 2) := by decide +kernel
theorem dX4_digestOfPile_52 : decode cX4_digestOfPile 52 = .ok (.aload 6, 2) := by decide +kernel
theorem dX4_digestOfPile_54 : decode cX4_digestOfPile 54 = .ok (.getfield 105, 3) := by decide +kernel
theorem dX4_digestOfPile_57 : decode cX4_digestOfPile 57 = .ok (.if_icmp .ge 26, 3) := by decide +kernel
theorem dX4_digestOfPile_60 : decode cX4_digestOfPile 60 = .ok (.lload 4, 2) := by decide +kernel
theorem dX4_digestOfPile_62 : decode cX4_digestOfPile 62 = .ok (.ldc2_w 248, 3) := by decide +kernel
theorem dX4_digestOfPile_65 : decode cX4_digestOfPile 65 = .ok (.lmul, 1) := by decide +kernel
theorem dX4_digestOfPile_66 : decode cX4_digestOfPile 66 = .ok (.aload 6, 2) := by decide +kernel
theorem dX4_digestOfPile_68 : decode cX4_digestOfPile 68 = .ok (.iload 7, 2) := by decide +kernel
theorem dX4_digestOfPile_70 : decode cX4_digestOfPile 70 = .ok (.invokevirtual 181, 3) := by decide +kernel
theorem dX4_digestOfPile_73 : decode cX4_digestOfPile 73 = .ok (.i2l, 1) := by decide +kernel
theorem dX4_digestOfPile_74 : decode cX4_digestOfPile 74 = .ok (.ladd, 1) := by decide +kernel
theorem dX4_digestOfPile_75 : decode cX4_digestOfPile 75 = .ok (.lstore 4, 2) := by decide +kernel
theorem dX4_digestOfPile_77 : decode cX4_digestOfPile 77 = .ok (.iinc 7 1, 3) := by decide +kernel
theorem dX4_digestOfPile_80 : decode cX4_digestOfPile 80 = .ok (.goto (-30), 3) := by decide +kernel
theorem dX4_digestOfPile_83 : decode cX4_digestOfPile 83 = .ok (.lload 4, 2) := by decide +kernel
theorem dX4_digestOfPile_85 : decode cX4_digestOfPile 85 = .ok (.lreturn, 1) := by decide +kernel
set_option maxRecDepth 20000 in
theorem ggX4_checkPile_X4_isOutside : GoodIn wsX4_checkPile wsX4_isOutside := goodIn_r _ [8] (by decide +kernel) (by decide +kernel)
set_option maxRecDepth 20000 in
theorem gX4_checkPile_X4_isOutside : GoodIn wsX4_checkPile (va_wsS RX4 175 yX4_isOutside wsX4_isOutside) := goodIn_app (goodIn_of _ (by decide +kernel)) ggX4_checkPile_X4_isOutside
theorem dX4_checkPile_0 : decode cX4_checkPile 0 = .ok (.iload_n 1, 1) := by decide +kernel
theorem dX4_checkPile_1 : decode cX4_checkPile 1 = .ok (.iconst 0, 1) := by decide +kernel
theorem dX4_checkPile_2 : decode cX4_checkPile 2 = .ok (.aload_n 0, 1) := by decide +kernel
theorem dX4_checkPile_3 : decode cX4_checkPile 3 = .ok (.getfield 33, 3) := by decide +kernel
theorem dX4_checkPile_6 : decode cX4_checkPile 6 = .ok (.getfield 47, 3) := by decide +kernel
theorem dX4_checkPile_9 : decode cX4_checkPile 9 = .ok (.iconst 1, 1) := by decide +kernel
theorem dX4_checkPile_10 : decode cX4_checkPile 10 = .ok (.isub, 1) := by decide +kernel
theorem dX4_checkPile_11 : decode cX4_checkPile 11 = .ok (.invokestatic 175, 3) := by decide +kernel
theorem dX4_checkPile_14 : decode cX4_checkPile 14 = .ok (.ifCond .eq 14, 3) := by decide +kernel
theorem dX4_checkPile_17 : decode cX4_checkPile 17 = .ok (.new 170, 3) := by decide +kernel
theorem dX4_checkPile_20 : decode cX4_checkPile 20 = .ok (.dup, 1) := by decide +kernel
theorem dX4_checkPile_21 : decode cX4_checkPile 21 = .ok (.ldc_w 266, 3) := by decide +kernel
theorem dX4_checkPile_24 : decode cX4_checkPile 24 = .ok (.invokespecial 174, 3) := by decide +kernel
theorem dX4_checkPile_27 : decode cX4_checkPile 27 = .ok (.athrow, 1) := by decide +kernel
theorem dX4_checkPile_28 : decode cX4_checkPile 28 = .ok (.return_, 1) := by decide +kernel
set_option maxRecDepth 20000 in
theorem ggX4_checkCat_X4_isOutside : GoodIn wsX4_checkCat wsX4_isOutside := goodIn_r _ [8] (by decide +kernel) (by decide +kernel)
set_option maxRecDepth 20000 in
theorem gX4_checkCat_X4_isOutside : GoodIn wsX4_checkCat (va_wsS RX4 175 yX4_isOutside wsX4_isOutside) := goodIn_app (goodIn_of _ (by decide +kernel)) ggX4_checkCat_X4_isOutside
theorem dX4_checkCat_0 : decode cX4_checkCat 0 = .ok (.iload_n 1, 1) := by decide +kernel
theorem dX4_checkCat_1 : decode cX4_checkCat 1 = .ok (.iconst 0, 1) := by decide +kernel
theorem dX4_checkCat_2 : decode cX4_checkCat 2 = .ok (.aload_n 0, 1) := by decide +kernel
theorem dX4_checkCat_3 : decode cX4_checkCat 3 = .ok (.getfield 33, 3) := by decide +kernel
theorem dX4_checkCat_6 : decode cX4_checkCat 6 = .ok (.getfield 68, 3) := by decide +kernel
theorem dX4_checkCat_9 : decode cX4_checkCat 9 = .ok (.iconst 1, 1) := by decide +kernel
theorem dX4_checkCat_10 : decode cX4_checkCat 10 = .ok (.isub, 1) := by decide +kernel
theorem dX4_checkCat_11 : decode cX4_checkCat 11 = .ok (.invokestatic 175, 3) := by decide +kernel
theorem dX4_checkCat_14 : decode cX4_checkCat 14 = .ok (.ifCond .eq 14, 3) := by decide +kernel
theorem dX4_checkCat_17 : decode cX4_checkCat 17 = .ok (.new 170, 3) := by decide +kernel
theorem dX4_checkCat_20 : decode cX4_checkCat 20 = .ok (.dup, 1) := by decide +kernel
theorem dX4_checkCat_21 : decode cX4_checkCat 21 = .ok (.ldc_w 268, 3) := by decide +kernel
theorem dX4_checkCat_24 : decode cX4_checkCat 24 = .ok (.invokespecial 174, 3) := by decide +kernel
theorem dX4_checkCat_27 : decode cX4_checkCat 27 = .ok (.athrow, 1) := by decide +kernel
theorem dX4_checkCat_28 : decode cX4_checkCat 28 = .ok (.return_, 1) := by decide +kernel
set_option maxRecDepth 20000 in
theorem ggX4_checkCalibre_X4_isOutside : GoodIn wsX4_checkCalibre wsX4_isOutside := goodIn_r _ [6] (by decide +kernel) (by decide +kernel)
set_option maxRecDepth 20000 in
theorem gX4_checkCalibre_X4_isOutside : GoodIn wsX4_checkCalibre (va_wsS RX4 175 yX4_isOutside wsX4_isOutside) := goodIn_app (goodIn_of _ (by decide +kernel)) ggX4_checkCalibre_X4_isOutside
theorem dX4_checkCalibre_0 : decode cX4_checkCalibre 0 = .ok (.iload_n 0, 1) := by decide +kernel
theorem dX4_checkCalibre_1 : decode cX4_checkCalibre 1 = .ok (.iconst 0, 1) := by decide +kernel
theorem dX4_checkCalibre_2 : decode cX4_checkCalibre 2 = .ok (.iconst 4, 1) := by decide +kernel
theorem dX4_checkCalibre_3 : decode cX4_checkCalibre 3 = .ok (.invokestatic 175, 3) := by decide +kernel
theorem dX4_checkCalibre_6 : decode cX4_checkCalibre 6 = .ok (.ifCond .eq 14, 3) := by decide +kernel
theorem dX4_checkCalibre_9 : decode cX4_checkCalibre 9 = .ok (.new 170, 3) := by decide +kernel
theorem dX4_checkCalibre_12 : decode cX4_checkCalibre 12 = .ok (.dup, 1) := by decide +kernel
theorem dX4_checkCalibre_13 : decode cX4_checkCalibre 13 = .ok (.ldc_w 270, 3) := by decide +kernel
theorem dX4_checkCalibre_16 : decode cX4_checkCalibre 16 = .ok (.invokespecial 174, 3) := by decide +kernel
theorem dX4_checkCalibre_19 : decode cX4_checkCalibre 19 = .ok (.athrow, 1) := by decide +kernel
theorem dX4_checkCalibre_20 : decode cX4_checkCalibre 20 = .ok (.return_, 1) := by decide +kernel
set_option maxRecDepth 20000 in
theorem ggX4_checkArgument_X4_isOutside : GoodIn wsX4_checkArgument wsX4_isOutside := goodIn_r _ [6] (by decide +kernel) (by decide +kernel)
set_option maxRecDepth 20000 in
theorem gX4_checkArgument_X4_isOutside : GoodIn wsX4_checkArgument (va_wsS RX4 175 yX4_isOutside wsX4_isOutside) := goodIn_app (goodIn_of _ (by decide +kernel)) ggX4_checkArgument_X4_isOutside
theorem dX4_checkArgument_0 : decode cX4_checkArgument 0 = .ok (.iload_n 0, 1) := by decide +kernel
theorem dX4_checkArgument_1 : decode cX4_checkArgument 1 = .ok (.iload_n 1, 1) := by decide +kernel
theorem dX4_checkArgument_2 : decode cX4_checkArgument 2 = .ok (.iload_n 2, 1) := by decide +kernel
theorem dX4_checkArgument_3 : decode cX4_checkArgument 3 = .ok (.invokestatic 175, 3) := by decide +kernel
theorem dX4_checkArgument_6 : decode cX4_checkArgument 6 = .ok (.ifCond .eq 14, 3) := by decide +kernel
theorem dX4_checkArgument_9 : decode cX4_checkArgument 9 = .ok (.new 120, 3) := by decide +kernel
theorem dX4_checkArgument_12 : decode cX4_checkArgument 12 = .ok (.dup, 1) := by decide +kernel
theorem dX4_checkArgument_13 : decode cX4_checkArgument 13 = .ok (.ldc_w 272, 3) := by decide +kernel
theorem dX4_checkArgument_16 : decode cX4_checkArgument 16 = .ok (.invokespecial 124, 3) := by decide +kernel
theorem dX4_checkArgument_19 : decode cX4_checkArgument 19 = .ok (.athrow, 1) := by decide +kernel
theorem dX4_checkArgument_20 : decode cX4_checkArgument 20 = .ok (.return_, 1) := by decide +kernel
theorem dX4_isOutside_0 : decode cX4_isOutside 0 = .ok (.iload_n 0, 1) := by decide +kernel
theorem dX4_isOutside_1 : decode cX4_isOutside 1 = .ok (.iload_n 1, 1) := by decide +kernel
theorem dX4_isOutside_2 : decode cX4_isOutside 2 = .ok (.if_icmp .lt 8, 3) := by decide +kernel
theorem dX4_isOutside_5 : decode cX4_isOutside 5 = .ok (.iload_n 0, 1) := by decide +kernel
theorem dX4_isOutside_6 : decode cX4_isOutside 6 = .ok (.iload_n 2, 1) := by decide +kernel
theorem dX4_isOutside_7 : decode cX4_isOutside 7 = .ok (.if_icmp .le 7, 3) := by decide +kernel
theorem dX4_isOutside_10 : decode cX4_isOutside 10 = .ok (.iconst 1, 1) := by decide +kernel
theorem dX4_isOutside_11 : decode cX4_isOutside 11 = .ok (.goto 4, 3) := by decide +kernel
theorem dX4_isOutside_14 : decode cX4_isOutside 14 = .ok (.iconst 0, 1) := by decide +kernel
theorem dX4_isOutside_15 : decode cX4_isOutside 15 = .ok (.ireturn, 1) := by decide +kernel
theorem dX4_sum_0 : decode cX4_sum 0 = .ok (.iconst 0, 1) := by decide +kernel
theorem dX4_sum_1 : decode cX4_sum 1 = .ok (.istore_n 1, 1) := by decide +kernel
theorem dX4_sum_2 : decode cX4_sum 2 = .ok (.iconst 0, 1) := by decide +kernel
theorem dX4_sum_3 : decode cX4_sum 3 = .ok (.istore_n 2, 1) := by decide +kernel
theorem dX4_sum_4 : decode cX4_sum 4 = .ok (.iload_n 2, 1) := by decide +kernel
theorem dX4_sum_5 : decode cX4_sum 5 = .ok (.aload_n 0, 1) := by decide +kernel
theorem dX4_sum_6 : decode cX4_sum 6 = .ok (.arraylength, 1) := by decide +kernel
theorem dX4_sum_7 : decode cX4_sum 7 = .ok (.if_icmp .ge 15, 3) := by decide +kernel
theorem dX4_sum_10 : decode cX4_sum 10 = .ok (.iload_n 1, 1) := by decide +kernel
theorem dX4_sum_11 : decode cX4_sum 11 = .ok (.aload_n 0, 1) := by decide +kernel
theorem dX4_sum_12 : decode cX4_sum 12 = .ok (.iload_n 2, 1) := by decide +kernel
theorem dX4_sum_13 : decode cX4_sum 13 = .ok (.iaload, 1) := by decide +kernel
theorem dX4_sum_14 : decode cX4_sum 14 = .ok (.iadd, 1) := by decide +kernel
theorem dX4_sum_15 : decode cX4_sum 15 = .ok (.istore_n 1, 1) := by decide +kernel
theorem dX4_sum_16 : decode cX4_sum 16 = .ok (.iinc 2 1, 3) := by decide +kernel
theorem dX4_sum_19 : decode cX4_sum 19 = .ok (.goto (-15), 3) := by decide +kernel
theorem dX4_sum_22 : decode cX4_sum 22 = .ok (.iload_n 1, 1) := by decide +kernel
theorem dX4_sum_23 : decode cX4_sum 23 = .ok (.ireturn, 1) := by decide +kernel
end
section
theorem dX5_init_0 : decode cX5_init 0 = .ok (.aload_n 0, 1) := by decide +kernel
theorem dX5_init_1 : decode cX5_init 1 = .ok (.invokespecial 1, 3) := by decide +kernel
theorem dX5_init_4 : decode cX5_init 4 = .ok (.aload_n 0, 1) := by decide +kernel
theorem dX5_init_5 : decode cX5_init 5 = .ok (.bipush 6, 2) := by decide +kernel
theorem dX5_init_7 : decode cX5_init 7 = .ok (.putfield 7, 3) := by decide +kernel
theorem dX5_init_10 : decode cX5_init 10 = .ok (.aload_n 0, 1) := by decide +kernel
theorem dX5_init_11 : decode cX5_init 11 = .ok (.bipush 6, 2) := by decide +kernel
theorem dX5_init_13 : decode cX5_init 13 = .ok (.newarray .int, 2) := by decide +kernel
theorem dX5_init_15 : decode cX5_init 15 = .ok (.putfield 13, 3) := by decide +kernel
theorem dX5_init_18 : decode cX5_init 18 = .ok (.aload_n 0, 1) := by decide +kernel
theorem dX5_init_19 : decode cX5_init 19 = .ok (.bipush 6, 2) := by decide +kernel
theorem dX5_init_21 : decode cX5_init 21 = .ok (.newarray .int, 2) := by decide +kernel
theorem dX5_init_23 : decode cX5_init 23 = .ok (.putfield 17, 3) := by decide +kernel
theorem dX5_init_26 : decode cX5_init 26 = .ok (.aload_n 0, 1) := by decide +kernel
theorem dX5_init_27 : decode cX5_init 27 = .ok (.iconst 3, 1) := by decide +kernel
theorem dX5_init_28 : decode cX5_init 28 = .ok (.newarray .int, 2) := by decide +kernel
theorem dX5_init_30 : decode cX5_init 30 = .ok (.putfield 20, 3) := by decide +kernel
theorem dX5_init_33 : decode cX5_init 33 = .ok (.aload_n 0, 1) := by decide +kernel
theorem dX5_init_34 : decode cX5_init 34 = .ok (.bipush 6, 2) := by decide +kernel
theorem dX5_init_36 : decode cX5_init 36 = .ok (.newarray .int, 2) := by decide +kernel
theorem dX5_init_38 : decode cX5_init 38 = .ok (.putfield 23, 3) := by decide +kernel
theorem dX5_init_41 : decode cX5_init 41 = .ok (.aload_n 0, 1) := by decide +kernel
theorem dX5_init_42 : decode cX5_init 42 = .ok (.sipush 546, 3) := by decide +kernel
theorem dX5_init_45 : decode cX5_init 45 = .ok (.newarray .int, 2) := by decide +kernel
theorem dX5_init_47 : decode cX5_init 47 = .ok (.putfield 26, 3) := by decide +kernel
theorem dX5_init_50 : decode cX5_init 50 = .ok (.aload_n 0, 1) := by decide +kernel
theorem dX5_init_51 : decode cX5_init 51 = .ok (.bipush 20, 2) := by decide +kernel
theorem dX5_init_53 : decode cX5_init 53 = .ok (.newarray .int, 2) := by decide +kernel
theorem dX5_init_55 : decode cX5_init 55 = .ok (.putfield 29, 3) := by decide +kernel
theorem dX5_init_58 : decode cX5_init 58 = .ok (.aload_n 0, 1) := by decide +kernel
theorem dX5_init_59 : decode cX5_init 59 = .ok (.iconst 3, 1) := by decide +kernel
theorem dX5_init_60 : decode cX5_init 60 = .ok (.newarray .int, 2) := by decide +kernel
theorem dX5_init_62 : decode cX5_init 62 = .ok (.putfield 32, 3) := by decide +kernel
theorem dX5_init_65 : decode cX5_init 65 = .ok (.aload_n 0, 1) := by decide +kernel
theorem dX5_init_66 : decode cX5_init 66 = .ok (.iconst 3, 1) := by decide +kernel
theorem dX5_init_67 : decode cX5_init 67 = .ok (.newarray .int, 2) := by decide +kernel
theorem dX5_init_69 : decode cX5_init 69 = .ok (.putfield 35, 3) := by decide +kernel
theorem dX5_init_72 : decode cX5_init 72 = .ok (.aload_n 0, 1) := by decide +kernel
theorem dX5_init_73 : decode cX5_init 73 = .ok (.bipush 6, 2) := by decide +kernel
theorem dX5_init_75 : decode cX5_init 75 = .ok (.newarray .int, 2) := by decide +kernel
theorem dX5_init_77 : decode cX5_init 77 = .ok (.putfield 38, 3) := by decide +kernel
theorem dX5_init_80 : decode cX5_init 80 = .ok (.aload_n 0, 1) := by decide +kernel
theorem dX5_init_81 : decode cX5_init 81 = .ok (.sipush 546, 3) := by decide +kernel
theorem dX5_init_84 : decode cX5_init 84 = .ok (.newarray .int, 2) := by decide +kernel
theorem dX5_init_86 : decode cX5_init 86 = .ok (.putfield 41, 3) := by decide +kernel
theorem dX5_init_89 : decode cX5_init 89 = .ok (.aload_n 0, 1) := by decide +kernel
theorem dX5_init_90 : decode cX5_init 90 = .ok (.bipush 20, 2) := by decide +kernel
theorem dX5_init_92 : decode cX5_init 92 = .ok (.newarray .int, 2) := by decide +kernel
theorem dX5_init_94 : decode cX5_init 94 = .ok (.putfield 44, 3) := by decide +kernel
theorem dX5_init_97 : decode cX5_init 97 = .ok (.aload_n 0, 1) := by decide +kernel
theorem dX5_init_98 : decode cX5_init 98 = .ok (.iconst 3, 1) := by decide +kernel
theorem dX5_init_99 : decode cX5_init 99 = .ok (.newarray .int, 2) := by decide +kernel
theorem dX5_init_101 : decode cX5_init 101 = .ok (.putfield 47, 3) := by decide +kernel
theorem dX5_init_104 : decode cX5_init 104 = .ok (.aload_n 0, 1) := by decide +kernel
theorem dX5_init_105 : decode cX5_init 105 = .ok (.iconst 3, 1) := by decide +kernel
theorem dX5_init_106 : decode cX5_init 106 = .ok (.newarray .int, 2) := by decide +kernel
theorem dX5_init_108 : decode cX5_init 108 = .ok (.putfield 50, 3) := by decide +kernel
theorem dX5_init_111 : decode cX5_init 111 = .ok (.return_, 1) := by decide +kernel
theorem dX5_thrown_0 : decode cX5_thrown 0 = .ok (.aload_n 0, 1) := by decide +kernel
theorem dX5_thrown_1 : decode cX5_thrown 1 = .ok (.getfield 53, 3) := by decide +kernel
theorem dX5_thrown_4 : decode cX5_thrown 4 = .ok (.ireturn, 1) := by decide +kernel
theorem dX5_fail_0 : decode cX5_fail 0 = .ok (.aload_n 0, 1) := by decide +kernel
theorem dX5_fail_1 : decode cX5_fail 1 = .ok (.iload_n 1, 1) := by decide +kernel
theorem dX5_fail_2 : decode cX5_fail 2 = .ok (.putfield 53, 3) := by decide +kernel
theorem dX5_fail_5 : decode cX5_fail 5 = .ok (.iconst 0, 1) := by decide +kernel
theorem dX5_fail_6 : decode cX5_fail 6 = .ok (.ireturn, 1) := by decide +kernel
theorem dX5_isIn_0 : decode cX5_isIn 0 = .ok (.iload_n 0, 1) := by decide +kernel
theorem dX5_isIn_1 : decode cX5_isIn 1 = .ok (.iload_n 1, 1) := by decide +kernel
theorem dX5_isIn_2 : decode cX5_isIn 2 = .ok (.if_icmp .lt 12, 3) := by decide +kernel
theorem dX5_isIn_5 : decode cX5_isIn 5 = .ok (.iload_n 0, 1) := by decide +kernel
theorem dX5_isIn_6 : decode cX5_isIn 6 = .ok (.iload_n 2, 1) := by decide +kernel
theorem dX5_isIn_7 : decode cX5_isIn 7 = .ok (.if_icmp .gt 7, 3) := by decide +kernel
theorem dX5_isIn_10 : decode cX5_isIn 10 = .ok (.iconst 1, 1) := by decide +kernel
theorem dX5_isIn_11 : decode cX5_isIn 11 = .ok (.goto 4, 3) := by decide +kernel
theorem dX5_isIn_14 : decode cX5_isIn 14 = .ok (.iconst 0, 1) := by decide +kernel
theorem dX5_isIn_15 : decode cX5_isIn 15 = .ok (.ireturn, 1) := by decide +kernel
set_option maxRecDepth 20000 in
theorem ggX5_isPile_X5_isIn : GoodIn wsX5_isPile wsX5_isIn := goodIn_r _ [5] (by decide +kernel) (by decide +kernel)
set_option maxRecDepth 20000 in
theorem gX5_isPile_X5_isIn : GoodIn wsX5_isPile (va_wsS RX5 59 yX5_isIn wsX5_isIn) := goodIn_app (goodIn_of _ (by decide +kernel)) ggX5_isPile_X5_isIn
theorem dX5_isPile_0 : decode cX5_isPile 0 = .ok (.iload_n 1, 1) := by decide +kernel
theorem dX5_isPile_1 : decode cX5_isPile 1 = .ok (.iconst 0, 1) := by decide +kernel
theorem dX5_isPile_2 : decode cX5_isPile 2 = .ok (.aload_n 0, 1) := by decide +kernel
theorem dX5_isPile_3 : decode cX5_isPile 3 = .ok (.getfield 56, 3) := by decide +kernel
theorem dX5_isPile_6 : decode cX5_isPile 6 = .ok (.iconst 1, 1) := by decide +kernel
theorem dX5_isPile_7 : decode cX5_isPile 7 = .ok (.isub, 1) := by decide +kernel
theorem dX5_isPile_8 : decode cX5_isPile 8 = .ok (.invokestatic 59, 3) := by decide +kernel
theorem dX5_isPile_11 : decode cX5_isPile 11 = .ok (.ireturn, 1) := by decide +kernel
set_option maxRecDepth 20000 in
theorem ggX5_isCalibre_X5_isIn : GoodIn wsX5_isCalibre wsX5_isIn := goodIn_r _ [4] (by decide +kernel) (by decide +kernel)
set_option maxRecDepth 20000 in
theorem gX5_isCalibre_X5_isIn : GoodIn wsX5_isCalibre (va_wsS RX5 59 yX5_isIn wsX5_isIn) := goodIn_app (goodIn_of _ (by decide +kernel)) ggX5_isCalibre_X5_isIn
theorem dX5_isCalibre_0 : decode cX5_isCalibre 0 = .ok (.iload_n 0, 1) := by decide +kernel
theorem dX5_isCalibre_1 : decode cX5_isCalibre 1 = .ok (.iconst 0, 1) := by decide +kernel
theorem dX5_isCalibre_2 : decode cX5_isCalibre 2 = .ok (.iconst 4, 1) := by decide +kernel
theorem dX5_isCalibre_3 : decode cX5_isCalibre 3 = .ok (.invokestatic 59, 3) := by decide +kernel
theorem dX5_isCalibre_6 : decode cX5_isCalibre 6 = .ok (.ireturn, 1) := by decide +kernel
theorem dX5_of_0 : decode cX5_of 0 = .ok (.aload_n 0, 1) := by decide +kernel
theorem dX5_of_1 : decode cX5_of 1 = .ok (.getfield 29, 3) := by decide +kernel
theorem dX5_of_4 : decode cX5_of 4 = .ok (.iconst 4, 1) := by decide +kernel
theorem dX5_of_5 : decode cX5_of 5 = .ok (.aload_n 0, 1) := by decide +kernel
theorem dX5_of_6 : decode cX5_of 6 = .ok (.getfield 13, 3) := by decide +kernel
theorem dX5_of_9 : decode cX5_of 9 = .ok (.iload_n 1, 1) := by decide +kernel
theorem dX5_of_10 : decode cX5_of 10 = .ok (.iaload, 1) := by decide +kernel
theorem dX5_of_11 : decode cX5_of 11 = .ok (.imul, 1) := by decide +kernel
theorem dX5_of_12 : decode cX5_of 12 = .ok (.iload_n 2, 1) := by decide +kernel
theorem dX5_of_13 : decode cX5_of 13 = .ok (.iadd, 1) := by decide +kernel
theorem dX5_of_14 : decode cX5_of 14 = .ok (.iaload, 1) := by decide +kernel
theorem dX5_of_15 : decode cX5_of 15 = .ok (.ireturn, 1) := by decide +kernel
theorem dX5_more_0 : decode cX5_more 0 = .ok (.aload_n 0, 1) := by decide +kernel
theorem dX5_more_1 : decode cX5_more 1 = .ok (.getfield 29, 3) := by decide +kernel
theorem dX5_more_4 : decode cX5_more 4 = .ok (.iconst 4, 1) := by decide +kernel
theorem dX5_more_5 : decode cX5_more 5 = .ok (.iload_n 1, 1) := by decide +kernel
theorem dX5_more_6 : decode cX5_more 6 = .ok (.imul, 1) := by decide +kernel
theorem dX5_more_7 : decode cX5_more 7 = .ok (.iload_n 2, 1) := by decide +kernel
theorem dX5_more_8 : decode cX5_more 8 = .ok (.iadd, 1) := by decide +kernel
theorem dX5_more_9 : decode cX5_more 9 = .ok (.dup2, 1) := by decide +kernel
theorem dX5_more_10 : decode cX5_more 10 = .ok (.iaload, 1) := by decide +kernel
theorem dX5_more_11 : decode cX5_more 11 = .ok (.iload_n 3, 1) := by decide +kernel
theorem dX5_more_12 : decode cX5_more 12 = .ok (.iadd, 1) := by decide +kernel
theorem dX5_more_13 : decode cX5_more 13 = .ok (.iastore, 1) := by decide +kernel
theorem dX5_more_14 : decode cX5_more 14 = .ok (.return_, 1) := by decide +kernel
theorem dX5_keep_0 : decode cX5_keep 0 = .ok (.aload_n 0, 1) := by decide +kernel
theorem dX5_keep_1 : decode cX5_keep 1 = .ok (.getfield 23, 3) := by decide +kernel
theorem dX5_keep_4 : decode cX5_keep 4 = .ok (.iconst 0, 1) := by decide +kernel
theorem dX5_keep_5 : decode cX5_keep 5 = .ok (.aload_n 0, 1) := by decide +kernel
theorem dX5_keep_6 : decode cX5_keep 6 = .ok (.getfield 38, 3) := by decide +kernel
theorem dX5_keep_9 : decode cX5_keep 9 = .ok (.iconst 0, 1) := by decide +kernel
theorem dX5_keep_10 : decode cX5_keep 10 = .ok (.bipush 6, 2) := by decide +kernel
theorem dX5_keep_12 : decode cX5_keep 12 = .ok (.invokestatic 63, 3) := by decide +kernel
theorem dX5_keep_15 : decode cX5_keep 15 = .ok (.aload_n 0, 1) := by decide +kernel
theorem dX5_keep_16 : decode cX5_keep 16 = .ok (.getfield 26, 3) := by decide +kernel
theorem dX5_keep_19 : decode cX5_keep 19 = .ok (.iconst 0, 1) := by decide +kernel
theorem dX5_keep_20 : decode cX5_keep 20 = .ok (.aload_n 0, 1) := by decide +kernel
theorem dX5_keep_21 : decode cX5_keep 21 = .ok (.getfield 41, 3) := by decide +kernel
theorem dX5_keep_24 : decode cX5_keep 24 = .ok (.iconst 0, 1) := by decide +kernel
theorem dX5_keep_25 : decode cX5_keep 25 = .ok (.aload_n 0, 1) := by decide +kernel
theorem dX5_keep_26 : decode cX5_keep 26 = .ok (.getfield 26, 3) := by decide +kernel
theorem dX5_keep_29 : decode cX5_keep 29 = .ok (.arraylength, 1) := by decide +kernel
theorem dX5_keep_30 : decode cX5_keep 30 = .ok (.invokestatic 63, 3) := by decide +kernel
theorem dX5_keep_33 : decode cX5_keep 33 = .ok (.aload_n 0, 1) := by decide +kernel
theorem dX5_keep_34 : decode cX5_keep 34 = .ok (.getfield 29, 3) := by decide +kernel
theorem dX5_keep_37 : decode cX5_keep 37 = .ok (.iconst 0, 1) := by decide +kernel
theorem dX5_keep_38 : decode cX5_keep 38 = .ok (.aload_n 0, 1) := by decide +kernel
theorem dX5_keep_39 : decode cX5_keep 39 = .ok (.getfield 44, 3) := by decide +kernel
theorem dX5_keep_42 : decode cX5_keep 42 = .ok (.iconst 0, 1) := by decide +kernel
theorem dX5_keep_43 : decode cX5_keep 43 = .ok (.aload_n 0, 1) := by decide +kernel
theorem dX5_keep_44 : decode cX5_keep 44 = .ok (.getfield 29, 3) := by decide +kernel
theorem dX5_keep_47 : decode cX5_keep 47 = .ok (.arraylength, 1) := by decide +kernel
theorem dX5_keep_48 : decode cX5_keep 48 = .ok (.invokestatic 63, 3) := by decide +kernel
theorem dX5_keep_51 : decode cX5_keep 51 = .ok (.aload_n 0, 1) := by decide +kernel
theorem dX5_keep_52 : decode cX5_keep 52 = .ok (.getfield 32, 3) := by decide +kernel
theorem dX5_keep_55 : decode cX5_keep 55 = .ok (.iconst 0, 1) := by decide +kernel
theorem dX5_keep_56 : decode cX5_keep 56 = .ok (.aload_n 0, 1) := by decide +kernel
theorem dX5_keep_57 : decode cX5_keep 57 = .ok (.getfield 47, 3) := by decide +kernel
theorem dX5_keep_60 : decode cX5_keep 60 = .ok (.iconst 0, 1) := by decide +kernel
theorem dX5_keep_61 : decode cX5_keep 61 = .ok (.iconst 3, 1) := by decide +kernel
theorem dX5_keep_62 : decode cX5_keep 62 = .ok (.invokestatic 63, 3) := by decide +kernel
theorem dX5_keep_65 : decode cX5_keep 65 = .ok (.aload_n 0, 1) := by decide +kernel
theorem dX5_keep_66 : decode cX5_keep 66 = .ok (.getfield 35, 3) := by decide +kernel
theorem dX5_keep_69 : decode cX5_keep 69 = .ok (.iconst 0, 1) := by decide +kernel
theorem dX5_keep_70 : decode cX5_keep 70 = .ok (.aload_n 0, 1) := by decide +kernel
theorem dX5_keep_71 : decode cX5_keep 71 = .ok (.getfield 50, 3) := by decide +kernel
theorem dX5_keep_74 : decode cX5_keep 74 = .ok (.iconst 0, 1) := by decide +kernel
theorem dX5_keep_75 : decode cX5_keep 75 = .ok (.iconst 3, 1) := by decide +kernel
theorem dX5_keep_76 : decode cX5_keep 76 = .ok (.invokestatic 63, 3) := by decide +kernel
theorem dX5_keep_79 : decode cX5_keep 79 = .ok (.return_, 1) := by decide +kernel
theorem dX5_bringBack_0 : decode cX5_bringBack 0 = .ok (.aload_n 0, 1) := by decide +kernel
theorem dX5_bringBack_1 : decode cX5_bringBack 1 = .ok (.getfield 38, 3) := by decide +kernel
theorem dX5_bringBack_4 : decode cX5_bringBack 4 = .ok (.iconst 0, 1) := by decide +kernel
theorem dX5_bringBack_5 : decode cX5_bringBack 5 = .ok (.aload_n 0, 1) := by decide +kernel
theorem dX5_bringBack_6 : decode cX5_bringBack 6 = .ok (.getfield 23, 3) := by decide +kernel
theorem dX5_bringBack_9 : decode cX5_bringBack 9 = .ok (.iconst 0, 1) := by decide +kernel
theorem dX5_bringBack_10 : decode cX5_bringBack 10 = .ok (.bipush 6, 2) := by decide +kernel
theorem dX5_bringBack_12 : decode cX5_bringBack 12 = .ok (.invokestatic 63, 3) := by decide +kernel
theorem dX5_bringBack_15 : decode cX5_bringBack 15 = .ok (.aload_n 0, 1) := by decide +kernel
theorem dX5_bringBack_16 : decode cX5_bringBack 16 = .ok (.getfield 41, 3) := by decide +kernel
theorem dX5_bringBack_19 : decode cX5_bringBack 19 = .ok (.iconst 0, 1) := by decide +kernel
theorem dX5_bringBack_20 : decode cX5_bringBack 20 = .ok (.aload_n 0, 1) := by decide +kernel
theorem dX5_bringBack_21 : decode cX5_bringBack 21 = .ok (.getfield 26, 3) := by decide +kernel
theorem dX5_bringBack_24 : decode cX5_bringBack 24 = .ok (.iconst 0, 1) := by decide +kernel
theorem dX5_bringBack_25 : decode cX5_bringBack 25 = .ok (.aload_n 0, 1) := by decide +kernel
theorem dX5_bringBack_26 : decode cX5_bringBack 26 = .ok (.getfield 26, 3) := by decide +kernel
theorem dX5_bringBack_29 : decode cX5_bringBack 29 = .ok (.arraylength, 1) := by decide +kernel
theorem dX5_bringBack_30 : decode cX5_bringBack 30 = .ok (.invokestatic 63, 3) := by decide +kernel
theorem dX5_bringBack_33 : decode cX5_bringBack 33 = .ok (.aload_n 0, 1) := by decide +kernel
theorem dX5_bringBack_34 : decode cX5_bringBack 34 = .ok (.getfield 44, 3) := by decide +kernel
theorem dX5_bringBack_37 : decode cX5_bringBack 37 = .ok (.iconst 0, 1) := by decide +kernel
theorem dX5_bringBack_38 : decode cX5_bringBack 38 = .ok (.aload_n 0, 1) := by decide +kernel
theorem dX5_bringBack_39 : decode cX5_bringBack 39 = .ok (.getfield 29, 3) := by decide +kernel
theorem dX5_bringBack_42 : decode cX5_bringBack 42 = .ok (.iconst 0, 1) := by decide +kernel
theorem dX5_bringBack_43 : decode cX5_bringBack 43 = .ok (.aload_n 0, 1) := by decide +kernel
theorem dX5_bringBack_44 : decode cX5_bringBack 44 = .ok (.getfield 29, 3) := by decide +kernel
theorem dX5_bringBack_47 : decode cX5_bringBack 47 = .ok (.arraylength, 1) := by decide +kernel
theorem dX5_bringBack_48 : decode cX5_bringBack 48 = .ok (.invokestatic 63, 3) := by decide +kernel
theorem dX5_bringBack_51 : decode cX5_bringBack 51 = .ok (.aload_n 0, 1) := by decide +kernel
theorem dX5_bringBack_52 : decode cX5_bringBack 52 = .ok (.getfield 47, 3) := by decide +kernel
theorem dX5_bringBack_55 : decode cX5_bringBack 55 = .ok (.iconst 0, 1) := by decide +kernel
theorem dX5_bringBack_56 : decode cX5_bringBack 56 = .ok (.aload_n 0, 1) := by decide +kernel
theorem dX5_bringBack_57 : decode cX5_bringBack 57 = .ok (.getfield 32, 3) := by decide +kernel
theorem dX5_bringBack_60 : decode cX5_bringBack 60 = .ok (.iconst 0, 1) := by decide +kernel
theorem dX5_bringBack_61 : decode cX5_bringBack 61 = .ok (.iconst 3, 1) := by decide +kernel
theorem dX5_bringBack_62 : decode cX5_bringBack 62 = .ok (.invokestatic 63, 3) := by decide +kernel
theorem dX5_bringBack_65 : decode cX5_bringBack 65 = .ok (.aload_n 0, 1) := by decide +kernel
theorem dX5_bringBack_66 : decode cX5_bringBack 66 = .ok (.getfield 50, 3) := by decide +kernel
theorem dX5_bringBack_69 : decode cX5_bringBack 69 = .ok (.iconst 0, 1) := by decide +kernel
theorem dX5_bringBack_70 : decode cX5_bringBack 70 = .ok (.aload_n 0, 1) := by decide +kernel
theorem dX5_bringBack_71 : decode cX5_bringBack 71 = .ok (.getfield 35, 3) := by decide +kernel
theorem dX5_bringBack_74 : decode cX5_bringBack 74 = .ok (.iconst 0, 1) := by decide +kernel
theorem dX5_bringBack_75 : decode cX5_bringBack 75 = .ok (.iconst 3, 1) := by decide +kernel
theorem dX5_bringBack_76 : decode cX5_bringBack 76 = .ok (.invokestatic 63, 3) := by decide +kernel
theorem dX5_bringBack_79 : decode cX5_bringBack 79 = .ok (.return_, 1) := by decide +kernel
theorem dX5_roomOf_0 : decode cX5_roomOf 0 = .ok (.iload_n 0, 1) := by decide +kernel
theorem dX5_roomOf_1 : decode cX5_roomOf 1 = .ok (.iload_n 0, 1) := by decide +kernel
theorem dX5_roomOf_2 : decode cX5_roomOf 2 = .ok (.iconst 1, 1) := by decide +kernel
theorem dX5_roomOf_3 : decode cX5_roomOf 3 = .ok (.iadd, 1) := by decide +kernel
theorem dX5_roomOf_4 : decode cX5_roomOf 4 = .ok (.imul, 1) := by decide +kernel
theorem dX5_roomOf_5 : decode cX5_roomOf 5 = .ok (.iconst 2, 1) := by decide +kernel
theorem dX5_roomOf_6 : decode cX5_roomOf 6 = .ok (.iload_n 0, 1) := by decide +kernel
theorem dX5_roomOf_7 : decode cX5_roomOf 7 = .ok (.imul, 1) := by decide +kernel
theorem dX5_roomOf_8 : decode cX5_roomOf 8 = .ok (.iconst 1, 1) := by decide +kernel
theorem dX5_roomOf_9 : decode cX5_roomOf 9 = .ok (.iadd, 1) := by decide +kernel
theorem dX5_roomOf_10 : decode cX5_roomOf 10 = .ok (.imul, 1) := by decide +kernel
theorem dX5_roomOf_11 : decode cX5_roomOf 11 = .ok (.bipush 6, 2) := by decide +kernel
theorem dX5_roomOf_13 : decode cX5_roomOf 13 = .ok (.idiv, 1) := by decide +kernel
theorem dX5_roomOf_14 : decode cX5_roomOf 14 = .ok (.ireturn, 1) := by decide +kernel
set_option maxRecDepth 20000 in
theorem ggX5_room_X5_roomOf : GoodIn wsX5_room wsX5_roomOf := goodIn_r _ [5] (by decide +kernel) (by decide +kernel)
set_option maxRecDepth 20000 in
theorem gX5_room_X5_roomOf : GoodIn wsX5_room (va_wsS RX5 69 yX5_roomOf wsX5_roomOf) := goodIn_app (goodIn_of _ (by decide +kernel)) ggX5_room_X5_roomOf
theorem dX5_room_0 : decode cX5_room 0 = .ok (.aload_n 0, 1) := by decide +kernel
theorem dX5_room_1 : decode cX5_room 1 = .ok (.getfield 17, 3) := by decide +kernel
theorem dX5_room_4 : decode cX5_room 4 = .ok (.iload_n 1, 1) := by decide +kernel
theorem dX5_room_5 : decode cX5_room 5 = .ok (.iaload, 1) := by decide +kernel
theorem dX5_room_6 : decode cX5_room 6 = .ok (.invokestatic 69, 3) := by decide +kernel
theorem dX5_room_9 : decode cX5_room 9 = .ok (.aload_n 0, 1) := by decide +kernel
theorem dX5_room_10 : decode cX5_room 10 = .ok (.getfield 17, 3) := by decide +kernel
theorem dX5_room_13 : decode cX5_room 13 = .ok (.iload_n 1, 1) := by decide +kernel
theorem dX5_room_14 : decode cX5_room 14 = .ok (.iaload, 1) := by decide +kernel
theorem dX5_room_15 : decode cX5_room 15 = .ok (.iload_n 2, 1) := by decide +kernel
theorem dX5_room_16 : decode cX5_room 16 = .ok (.isub, 1) := by decide +kernel
theorem dX5_room_17 : decode cX5_room 17 = .ok (.invokestatic 69, 3) := by decide +kernel
theorem dX5_room_20 : decode cX5_room 20 = .ok (.isub, 1) := by decide +kernel
theorem dX5_room_21 : decode cX5_room 21 = .ok (.ireturn, 1) := by decide +kernel
set_option maxRecDepth 20000 in
theorem ggX5_layers_X5_room : GoodIn wsX5_layers wsX5_room := goodIn_r _ [5, 6, 7, 8, 4, 9, 10, 11, 12, 13, 14, 15, 16, 17, 18, 19, 20, 21, 22, 23, 24, 25, 26, 27, 28] (by decide +kernel) (by decide +kernel)
set_option maxRecDepth 20000 in
theorem gX5_layers_X5_room : GoodIn wsX5_layers (wsV RX5 73 RX5 yX5_room wsX5_room) := goodIn_app (goodIn_of _ (by decide +kernel)) ggX5_layers_X5_room
theorem dX5_layers_0 : decode cX5_layers 0 = .ok (.iconst 0, 1) := by decide +kernel
theorem dX5_layers_1 : decode cX5_layers 1 = .ok (.istore_n 3, 1) := by decide +kernel
theorem dX5_layers_2 : decode cX5_layers 2 = .ok (.aload_n 0, 1) := by decide +kernel
theorem dX5_layers_3 : decode cX5_layers 3 = .ok (.iload_n 1, 1) := by decide +kernel
theorem dX5_layers_4 : decode cX5_layers 4 = .ok (.iload_n 3, 1) := by decide +kernel
theorem dX5_layers_5 : decode cX5_layers 5 = .ok (.invokevirtual 73, 3) := by decide +kernel
theorem dX5_layers_8 : decode cX5_layers 8 = .ok (.iload_n 2, 1) := by decide +kernel
theorem dX5_layers_9 : decode cX5_layers 9 = .ok (.if_icmp .ge 9, 3) := by decide +kernel
theorem dX5_layers_12 : decode cX5_layers 12 = .ok (.iinc 3 1, 3) := by decide +kernel
theorem dX5_layers_15 : decode cX5_layers 15 = .ok (.goto (-13), 3) := by decide +kernel
theorem dX5_layers_18 : decode cX5_layers 18 = .ok (.iload_n 3, 1) := by decide +kernel
theorem dX5_layers_19 : decode cX5_layers 19 = .ok (.ireturn, 1) := by decide +kernel
set_option maxRecDepth 20000 in
theorem ggX5_full_X5_room : GoodIn wsX5_full wsX5_room := goodIn_r _ [7, 1, 8, 9, 6, 10, 11, 12, 13, 14, 15, 16, 17, 18, 19, 20, 21, 22, 23, 24, 25, 26, 27, 28, 29] (by decide +kernel) (by decide +kernel)
set_option maxRecDepth 20000 in
theorem gX5_full_X5_room : GoodIn wsX5_full (wsV RX5 73 RX5 yX5_room wsX5_room) := goodIn_app (goodIn_of _ (by decide +kernel)) ggX5_full_X5_room
theorem dX5_full_0 : decode cX5_full 0 = .ok (.iconst 0, 1) := by decide +kernel
theorem dX5_full_1 : decode cX5_full 1 = .ok (.istore_n 2, 1) := by decide +kernel
theorem dX5_full_2 : decode cX5_full 2 = .ok (.iload_n 2, 1) := by decide +kernel
theorem dX5_full_3 : decode cX5_full 3 = .ok (.aload_n 0, 1) := by decide +kernel
theorem dX5_full_4 : decode cX5_full 4 = .ok (.getfield 17, 3) := by decide +kernel
theorem dX5_full_7 : decode cX5_full 7 = .ok (.iload_n 1, 1) := by decide +kernel
theorem dX5_full_8 : decode cX5_full 8 = .ok (.iaload, 1) := by decide +kernel
theorem dX5_full_9 : decode cX5_full 9 = .ok (.if_icmp .ge 26, 3) := by decide +kernel
theorem dX5_full_12 : decode cX5_full 12 = .ok (.aload_n 0, 1) := by decide +kernel
theorem dX5_full_13 : decode cX5_full 13 = .ok (.iload_n 1, 1) := by decide +kernel
theorem dX5_full_14 : decode cX5_full 14 = .ok (.iload_n 2, 1) := by decide +kernel
theorem dX5_full_15 : decode cX5_full 15 = .ok (.iconst 1, 1) := by decide +kernel
theorem dX5_full_16 : decode cX5_full 16 = .ok (.iadd, 1) := by decide +kernel
theorem dX5_full_17 : decode cX5_full 17 = .ok (.invokevirtual 73, 3) := by decide +kernel
theorem dX5_full_20 : decode cX5_full 20 = .ok (.aload_n 0, 1) := by decide +kernel
theorem dX5_full_21 : decode cX5_full 21 = .ok (.getfield 23, 3) := by decide +kernel
theorem dX5_full_24 : decode cX5_full 24 = .ok (.iload_n 1, 1) := by decide +kernel
theorem dX5_full_25 : decode cX5_full 25 = .ok (.iaload, 1) := by decide +kernel
theorem dX5_full_26 : decode cX5_full 26 = .ok (.if_icmp .gt 9, 3) := by decide +kernel
theorem dX5_full_29 : decode cX5_full 29 = .ok (.iinc 2 1, 3) := by decide +kernel
theorem dX5_full_32 : decode cX5_full 32 = .ok (.goto (-30), 3) := by decide +kernel
theorem dX5_full_35 : decode cX5_full 35 = .ok (.iload_n 2, 1) := by decide +kernel
theorem dX5_full_36 : decode cX5_full 36 = .ok (.ireturn, 1) := by decide +kernel
set_option maxRecDepth 20000 in
theorem ggX5_lies_X5_full_ : GoodIn wsX5_lies wsX5_full_ := goodIn_r _ [6, 7, 8, 9, 5, 10, 1, 11, 12, 13, 14, 15, 16, 17, 18, 19, 20, 21, 22, 23, 24, 25, 26, 27, 28, 29, 30, 31, 32] (by decide +kernel) (by decide +kernel)
set_option maxRecDepth 20000 in
theorem gX5_lies_X5_full_ : GoodIn wsX5_lies (wsV RX5 77 RX5 yX5_full_ wsX5_full_) := goodIn_app (goodIn_of _ (by decide +kernel)) ggX5_lies_X5_full_
set_option maxRecDepth 20000 in
theorem ggX5_lies_X5_room : GoodIn wsX5_lies wsX5_room := goodIn_r _ [10, 1, 11, 12, 5, 13, 14, 15, 16, 17, 18, 19, 20, 21, 22, 23, 24, 25, 26, 27, 28, 29, 30, 31, 32] (by decide +kernel) (by decide +kernel)
set_option maxRecDepth 20000 in
theorem gX5_lies_X5_room : GoodIn wsX5_lies (wsV RX5 73 RX5 yX5_room wsX5_room) := goodIn_app (goodIn_of _ (by decide +kernel)) ggX5_lies_X5_room
theorem dX5_lies_0 : decode cX5_lies 0 = .ok (.aload_n 0, 1) := by decide +kernel
theorem dX5_lies_1 : decode cX5_lies 1 = .ok (.iload_n 1, 1) := by decide +kernel
theorem dX5_lies_2 : decode cX5_lies 2 = .ok (.iload_n 2, 1) := by decide +kernel
theorem dX5_lies_3 : decode cX5_lies 3 = .ok (.invokevirtual 77, 3) := by decide +kernel
theorem dX5_lies_6 : decode cX5_lies 6 = .ok (.istore 4, 2) := by decide +kernel
theorem dX5_lies_8 : decode cX5_lies 8 = .ok (.aload_n 0, 1) := by decide +kernel
theorem dX5_lies_9 : decode cX5_lies 9 = .ok (.getfield 17, 3) := by decide +kernel
theorem dX5_lies_12 : decode cX5_lies 12 = .ok (.iload_n 1, 1) := by decide +kernel
theorem dX5_lies_13 : decode cX5_lies 13 = .ok (.iaload, 1) := by decide +kernel
theorem dX5_lies_14 : decode cX5_lies 14 = .ok (.iload 4, 2) := by decide +kernel
theorem dX5_lies_16 : decode cX5_lies 16 = .ok (.isub, 1) := by decide +kernel
theorem dX5_lies_17 : decode cX5_lies 17 = .ok (.istore 5, 2) := by decide +kernel
theorem dX5_lies_19 : decode cX5_lies 19 = .ok (.iload_n 2, 1) := by decide +kernel
theorem dX5_lies_20 : decode cX5_lies 20 = .ok (.aload_n 0, 1) := by decide +kernel
theorem dX5_lies_21 : decode cX5_lies 21 = .ok (.iload_n 1, 1) := by decide +kernel
theorem dX5_lies_22 : decode cX5_lies 22 = .ok (.iload 4, 2) := by decide +kernel
theorem dX5_lies_24 : decode cX5_lies 24 = .ok (.invokevirtual 73, 3) := by decide +kernel
theorem dX5_lies_27 : decode cX5_lies 27 = .ok (.isub, 1) := by decide +kernel
theorem dX5_lies_28 : decode cX5_lies 28 = .ok (.istore 6, 2) := by decide +kernel
theorem dX5_lies_30 : decode cX5_lies 30 = .ok (.iload_n 3, 1) := by decide +kernel
theorem dX5_lies_31 : decode cX5_lies 31 = .ok (.ifCond .ne 8, 3) := by decide +kernel
theorem dX5_lies_34 : decode cX5_lies 34 = .ok (.iload 4, 2) := by decide +kernel
theorem dX5_lies_36 : decode cX5_lies 36 = .ok (.goto 21, 3) := by decide +kernel
theorem dX5_lies_39 : decode cX5_lies 39 = .ok (.iload_n 3, 1) := by decide +kernel
theorem dX5_lies_40 : decode cX5_lies 40 = .ok (.iconst 1, 1) := by decide +kernel
theorem dX5_lies_41 : decode cX5_lies 41 = .ok (.if_icmp .ne 11, 3) := by decide +kernel
theorem dX5_lies_44 : decode cX5_lies 44 = .ok (.iload 6, 2) := by decide +kernel
theorem dX5_lies_46 : decode cX5_lies 46 = .ok (.iload 5, 2) := by decide +kernel
theorem dX5_lies_48 : decode cX5_lies 48 = .ok (.idiv, 1) := by decide +kernel
theorem dX5_lies_49 : decode cX5_lies 49 = .ok (.goto 8, 3) := by decide +kernel
theorem dX5_lies_52 : decode cX5_lies 52 = .ok (.iload 6, 2) := by decide +kernel
theorem dX5_lies_54 : decode cX5_lies 54 = .ok (.iload 5, 2) := by decide +kernel
theorem dX5_lies_56 : decode cX5_lies 56 = .ok (.irem, 1) := by decide +kernel
theorem dX5_lies_57 : decode cX5_lies 57 = .ok (.ireturn, 1) := by decide +kernel
set_option maxRecDepth 20000 in
theorem ggX5_full__X5_room : GoodIn wsX5_full_ wsX5_room := goodIn_r _ [5, 6, 7, 8, 4, 9, 10, 11, 12, 13, 14, 15, 16, 17, 18, 19, 20, 21, 22, 23, 24, 25, 26, 27, 28] (by decide +kernel) (by decide +kernel)
set_option maxRecDepth 20000 in
theorem gX5_full__X5_room : GoodIn wsX5_full_ (wsV RX5 73 RX5 yX5_room wsX5_room) := goodIn_app (goodIn_of _ (by decide +kernel)) ggX5_full__X5_room
theorem dX5_full__0 : decode cX5_full_ 0 = .ok (.iconst 0, 1) := by decide +kernel
theorem dX5_full__1 : decode cX5_full_ 1 = .ok (.istore_n 3, 1) := by decide +kernel
theorem dX5_full__2 : decode cX5_full_ 2 = .ok (.aload_n 0, 1) := by decide +kernel
theorem dX5_full__3 : decode cX5_full_ 3 = .ok (.iload_n 1, 1) := by decide +kernel
theorem dX5_full__4 : decode cX5_full_ 4 = .ok (.iload_n 3, 1) := by decide +kernel
theorem dX5_full__5 : decode cX5_full_ 5 = .ok (.iconst 1, 1) := by decide +kernel
theorem dX5_full__6 : decode cX5_full_ 6 = .ok (.iadd, 1) := by decide +kernel
theorem dX5_full__7 : decode cX5_full_ 7 = .ok (.invokevirtual 73, 3) := by decide +kernel
theorem dX5_full__10 : decode cX5_full_ 10 = .ok (.iload_n 2, 1) := by decide +kernel
theorem dX5_full__11 : decode cX5_full_ 11 = .ok (.if_icmp .gt 9, 3) := by decide +kernel
theorem dX5_full__14 : decode cX5_full_ 14 = .ok (.iinc 3 1, 3) := by decide +kernel
theorem dX5_full__17 : decode cX5_full_ 17 = .ok (.goto (-15), 3) := by decide +kernel
theorem dX5_full__20 : decode cX5_full_ 20 = .ok (.iload_n 3, 1) := by decide +kernel
theorem dX5_full__21 : decode cX5_full_ 21 = .ok (.ireturn, 1) := by decide +kernel
set_option maxRecDepth 20000 in
theorem ggX5_ballAt_X5_isIn : GoodIn wsX5_ballAt wsX5_isIn := goodIn_r _ [6] (by decide +kernel) (by decide +kernel)
set_option maxRecDepth 20000 in
theorem gX5_ballAt_X5_isIn : GoodIn wsX5_ballAt (va_wsS RX5 59 yX5_isIn wsX5_isIn) := goodIn_app (goodIn_of _ (by decide +kernel)) ggX5_ballAt_X5_isIn
set_option maxRecDepth 20000 in
theorem ggX5_ballAt_X5_room : GoodIn wsX5_ballAt wsX5_room := goodIn_r _ [10, 1, 11, 12, 5, 13, 14, 15, 16, 17, 18, 19, 20, 21, 22, 23, 24, 25, 26, 27, 28, 29, 30, 31, 32] (by decide +kernel) (by decide +kernel)
set_option maxRecDepth 20000 in
theorem gX5_ballAt_X5_room : GoodIn wsX5_ballAt (wsV RX5 73 RX5 yX5_room wsX5_room) := goodIn_app (goodIn_of _ (by decide +kernel)) ggX5_ballAt_X5_room
theorem dX5_ballAt_0 : decode cX5_ballAt 0 = .ok (.aload_n 0, 1) := by decide +kernel
theorem dX5_ballAt_1 : decode cX5_ballAt 1 = .ok (.getfield 17, 3) := by decide +kernel
theorem dX5_ballAt_4 : decode cX5_ballAt 4 = .ok (.iload_n 1, 1) := by decide +kernel
theorem dX5_ballAt_5 : decode cX5_ballAt 5 = .ok (.iaload, 1) := by decide +kernel
theorem dX5_ballAt_6 : decode cX5_ballAt 6 = .ok (.iload_n 2, 1) := by decide +kernel
theorem dX5_ballAt_7 : decode cX5_ballAt 7 = .ok (.isub, 1) := by decide +kernel
theorem dX5_ballAt_8 : decode cX5_ballAt 8 = .ok (.istore 5, 2) := by decide +kernel
theorem dX5_ballAt_10 : decode cX5_ballAt 10 = .ok (.iload 5, 2) := by decide +kernel
theorem dX5_ballAt_12 : decode cX5_ballAt 12 = .ok (.ifCond .le 28, 3) := by decide +kernel
theorem dX5_ballAt_15 : decode cX5_ballAt 15 = .ok (.iload_n 3, 1) := by decide +kernel
theorem dX5_ballAt_16 : decode cX5_ballAt 16 = .ok (.iconst 0, 1) := by decide +kernel
theorem dX5_ballAt_17 : decode cX5_ballAt 17 = .ok (.iload 5, 2) := by decide +kernel
theorem dX5_ballAt_19 : decode cX5_ballAt 19 = .ok (.iconst 1, 1) := by decide +kernel
theorem dX5_ballAt_20 : decode cX5_ballAt 20 = .ok (.isub, 1) := by decide +kernel
theorem dX5_ballAt_21 : decode cX5_ballAt 21 = .ok (.invokestatic 59, 3) := by decide +kernel
theorem dX5_ballAt_24 : decode cX5_ballAt 24 = .ok (.ifCond .eq 16, 3) := by decide +kernel
theorem dX5_ballAt_27 : decode cX5_ballAt 27 = .ok (.iload 4, 2) := by decide +kernel
theorem dX5_ballAt_29 : decode cX5_ballAt 29 = .ok (.iconst 0, 1) := by decide +kernel
theorem dX5_ballAt_30 : decode cX5_ballAt 30 = .ok (.iload 5, 2) := by decide +kernel
theorem dX5_ballAt_32 : decode cX5_ballAt 32 = .ok (.iconst 1, 1) := by decide +kernel
theorem dX5_ballAt_33 : decode cX5_ballAt 33 = .ok (.isub, 1) := by decide +kernel
theorem dX5_ballAt_34 : decode cX5_ballAt 34 = .ok (.invokestatic 59, 3) := by decide +kernel
theorem dX5_ballAt_37 : decode cX5_ballAt 37 = .ok (.ifCond .ne 5, 3) := by decide +kernel
theorem dX5_ballAt_40 : decode cX5_ballAt 40 = .ok (.iconst (-1), 1) := by decide +kernel
theorem dX5_ballAt_41 : decode cX5_ballAt 41 = .ok (.ireturn, 1) := by decide +kernel
theorem dX5_ballAt_42 : decode cX5_ballAt 42 = .ok (.aload_n 0, 1) := by decide +kernel
theorem dX5_ballAt_43 : decode cX5_ballAt 43 = .ok (.iload_n 1, 1) := by decide +kernel
theorem dX5_ballAt_44 : decode cX5_ballAt 44 = .ok (.iload_n 2, 1) := by decide +kernel
theorem dX5_ballAt_45 : decode cX5_ballAt 45 = .ok (.invokevirtual 73, 3) := by decide +kernel
theorem dX5_ballAt_48 : decode cX5_ballAt 48 = .ok (.iload 5, 2) := by decide +kernel
theorem dX5_ballAt_50 : decode cX5_ballAt 50 = .ok (.iload_n 3, 1) := by decide +kernel
theorem dX5_ballAt_51 : decode cX5_ballAt 51 = .ok (.imul, 1) := by decide +kernel
theorem dX5_ballAt_52 : decode cX5_ballAt 52 = .ok (.iadd, 1) := by decide +kernel
theorem dX5_ballAt_53 : decode cX5_ballAt 53 = .ok (.iload 4, 2) := by decide +kernel
theorem dX5_ballAt_55 : decode cX5_ballAt 55 = .ok (.iadd, 1) := by decide +kernel
theorem dX5_ballAt_56 : decode cX5_ballAt 56 = .ok (.istore 6, 2) := by decide +kernel
theorem dX5_ballAt_58 : decode cX5_ballAt 58 = .ok (.iload 6, 2) := by decide +kernel
theorem dX5_ballAt_60 : decode cX5_ballAt 60 = .ok (.aload_n 0, 1) := by decide +kernel
theorem dX5_ballAt_61 : decode cX5_ballAt 61 = .ok (.getfield 23, 3) := by decide +kernel
theorem dX5_ballAt_64 : decode cX5_ballAt 64 = .ok (.iload_n 1, 1) := by decide +kernel
theorem dX5_ballAt_65 : decode cX5_ballAt 65 = .ok (.iaload, 1) := by decide +kernel
theorem dX5_ballAt_66 : decode cX5_ballAt 66 = .ok (.if_icmp .ge 8, 3) := by decide +kernel
theorem dX5_ballAt_69 : decode cX5_ballAt 69 = .ok (.iload 6, 2) := by decide +kernel
theorem dX5_ballAt_71 : decode cX5_ballAt 71 = .ok (.goto 4, 3) := by decide +kernel
theorem dX5_ballAt_74 : decode cX5_ballAt 74 = .ok (.iconst (-1), 1) := by decide +kernel
theorem dX5_ballAt_75 : decode cX5_ballAt 75 = .ok (.ireturn, 1) := by decide +kernel
set_option maxRecDepth 20000 in
theorem ggX5_on_X5_lies : GoodIn wsX5_on wsX5_lies := goodIn_r _ [5, 6, 7, 8, 9, 4, 10, 11, 12, 13, 14, 15, 16, 17, 26, 27, 28, 29, 30, 31, 32, 33, 34, 35, 36, 37, 38, 39, 40, 41, 42, 43, 44] (by decide +kernel) (by decide +kernel)
set_option maxRecDepth 20000 in
theorem gX5_on_X5_lies : GoodIn wsX5_on (wsV RX5 80 RX5 yX5_lies wsX5_lies) := goodIn_app (goodIn_of _ (by decide +kernel)) ggX5_on_X5_lies
set_option maxRecDepth 20000 in
theorem ggX5_on_X5_ballAt : GoodIn wsX5_on wsX5_ballAt := goodIn_r _ [21, 6, 22, 23, 24, 4, 25, 11, 12, 13, 14, 15, 16, 17, 26, 27, 28, 29, 30, 31, 32, 33, 34, 35, 36, 37, 38, 39, 40, 41, 42, 43, 44] (by decide +kernel) (by decide +kernel)
set_option maxRecDepth 20000 in
theorem gX5_on_X5_ballAt : GoodIn wsX5_on (wsV RX5 84 RX5 yX5_ballAt wsX5_ballAt) := goodIn_app (goodIn_of _ (by decide +kernel)) ggX5_on_X5_ballAt
theorem dX5_on_0 : decode cX5_on 0 = .ok (.aload_n 0, 1) := by decide +kernel
theorem dX5_on_1 : decode cX5_on 1 = .ok (.iload_n 1, 1) := by decide +kernel
theorem dX5_on_2 : decode cX5_on 2 = .ok (.iload_n 2, 1) := by decide +kernel
theorem dX5_on_3 : decode cX5_on 3 = .ok (.iconst 0, 1) := by decide +kernel
theorem dX5_on_4 : decode cX5_on 4 = .ok (.invokevirtual 80, 3) := by decide +kernel
theorem dX5_on_7 : decode cX5_on 7 = .ok (.iconst 1, 1) := by decide +kernel
theorem dX5_on_8 : decode cX5_on 8 = .ok (.iadd, 1) := by decide +kernel
theorem dX5_on_9 : decode cX5_on 9 = .ok (.istore_n 3, 1) := by decide +kernel
theorem dX5_on_10 : decode cX5_on 10 = .ok (.aload_n 0, 1) := by decide +kernel
theorem dX5_on_11 : decode cX5_on 11 = .ok (.iload_n 1, 1) := by decide +kernel
theorem dX5_on_12 : decode cX5_on 12 = .ok (.iload_n 2, 1) := by decide +kernel
theorem dX5_on_13 : decode cX5_on 13 = .ok (.iconst 1, 1) := by decide +kernel
theorem dX5_on_14 : decode cX5_on 14 = .ok (.invokevirtual 80, 3) := by decide +kernel
theorem dX5_on_17 : decode cX5_on 17 = .ok (.istore 4, 2) := by decide +kernel
theorem dX5_on_19 : decode cX5_on 19 = .ok (.aload_n 0, 1) := by decide +kernel
theorem dX5_on_20 : decode cX5_on 20 = .ok (.iload_n 1, 1) := by decide +kernel
theorem dX5_on_21 : decode cX5_on 21 = .ok (.iload_n 2, 1) := by decide +kernel
theorem dX5_on_22 : decode cX5_on 22 = .ok (.iconst 2, 1) := by decide +kernel
theorem dX5_on_23 : decode cX5_on 23 = .ok (.invokevirtual 80, 3) := by decide +kernel
theorem dX5_on_26 : decode cX5_on 26 = .ok (.istore 5, 2) := by decide +kernel
theorem dX5_on_28 : decode cX5_on 28 = .ok (.iconst 0, 1) := by decide +kernel
theorem dX5_on_29 : decode cX5_on 29 = .ok (.istore 6, 2) := by decide +kernel
theorem dX5_on_31 : decode cX5_on 31 = .ok (.iconst 0, 1) := by decide +kernel
theorem dX5_on_32 : decode cX5_on 32 = .ok (.istore 7, 2) := by decide +kernel
theorem dX5_on_34 : decode cX5_on 34 = .ok (.iload 7, 2) := by decide +kernel
theorem dX5_on_36 : decode cX5_on 36 = .ok (.iconst 4, 1) := by decide +kernel
theorem dX5_on_37 : decode cX5_on 37 = .ok (.if_icmp .ge 43, 3) := by decide +kernel
theorem dX5_on_40 : decode cX5_on 40 = .ok (.iload 6, 2) := by decide +kernel
theorem dX5_on_42 : decode cX5_on 42 = .ok (.aload_n 0, 1) := by decide +kernel
theorem dX5_on_43 : decode cX5_on 43 = .ok (.iload_n 1, 1) := by decide +kernel
theorem dX5_on_44 : decode cX5_on 44 = .ok (.iload_n 3, 1) := by decide +kernel
theorem dX5_on_45 : decode cX5_on 45 = .ok (.iload 4, 2) := by decide +kernel
theorem dX5_on_47 : decode cX5_on 47 = .ok (.iload 7, 2) := by decide +kernel
theorem dX5_on_49 : decode cX5_on 49 = .ok (.iconst 2, 1) := by decide +kernel
theorem dX5_on_50 : decode cX5_on 50 = .ok (.idiv, 1) := by decide +kernel
theorem dX5_on_51 : decode cX5_on 51 = .ok (.isub, 1) := by decide +kernel
theorem dX5_on_52 : decode cX5_on 52 = .ok (.iload 5, 2) := by decide +kernel
theorem dX5_on_54 : decode cX5_on 54 = .ok (.iload 7, 2) := by decide +kernel
theorem dX5_on_56 : decode cX5_on 56 = .ok (.iconst 2, 1) := by decide +kernel
theorem dX5_on_57 : decode cX5_on 57 = .ok (.irem, 1) := by decide +kernel
theorem dX5_on_58 : decode cX5_on 58 = .ok (.isub, 1) := by decide +kernel
theorem dX5_on_59 : decode cX5_on 59 = .ok (.invokevirtual 84, 3) := by decide +kernel
theorem dX5_on_62 : decode cX5_on 62 = .ok (.iconst (-1), 1) := by decide +kernel
theorem dX5_on_63 : decode cX5_on 63 = .ok (.if_icmp .ne 7, 3) := by decide +kernel
theorem dX5_on_66 : decode cX5_on 66 = .ok (.iconst 0, 1) := by decide +kernel
theorem dX5_on_67 : decode cX5_on 67 = .ok (.goto 4, 3) := by decide +kernel
theorem dX5_on_70 : decode cX5_on 70 = .ok (.iconst 1, 1) := by decide +kernel
theorem dX5_on_71 : decode cX5_on 71 = .ok (.iadd, 1) := by decide +kernel
theorem dX5_on_72 : decode cX5_on 72 = .ok (.istore 6, 2) := by decide +kernel
theorem dX5_on_74 : decode cX5_on 74 = .ok (.iinc 7 1, 3) := by decide +kernel
theorem dX5_on_77 : decode cX5_on 77 = .ok (.goto (-43), 3) := by decide +kernel
theorem dX5_on_80 : decode cX5_on 80 = .ok (.iload 6, 2) := by decide +kernel
theorem dX5_on_82 : decode cX5_on 82 = .ok (.ireturn, 1) := by decide +kernel
theorem dX5_rustOf_0 : decode cX5_rustOf 0 = .ok (.aload_n 0, 1) := by decide +kernel
theorem dX5_rustOf_1 : decode cX5_rustOf 1 = .ok (.getfield 26, 3) := by decide +kernel
theorem dX5_rustOf_4 : decode cX5_rustOf 4 = .ok (.bipush 91, 2) := by decide +kernel
theorem dX5_rustOf_6 : decode cX5_rustOf 6 = .ok (.iload_n 1, 1) := by decide +kernel
theorem dX5_rustOf_7 : decode cX5_rustOf 7 = .ok (.imul, 1) := by decide +kernel
theorem dX5_rustOf_8 : decode cX5_rustOf 8 = .ok (.iload_n 2, 1) := by decide +kernel
theorem dX5_rustOf_9 : decode cX5_rustOf 9 = .ok (.iadd, 1) := by decide +kernel
theorem dX5_rustOf_10 : decode cX5_rustOf 10 = .ok (.iaload, 1) := by decide +kernel
theorem dX5_rustOf_11 : decode cX5_rustOf 11 = .ok (.ireturn, 1) := by decide +kernel
set_option maxRecDepth 20000 in
theorem ggX5_pile_X5_isCalibre : GoodIn wsX5_pile wsX5_isCalibre := goodIn_r _ [8, 9, 10, 7, 11] (by decide +kernel) (by decide +kernel)
set_option maxRecDepth 20000 in
theorem gX5_pile_X5_isCalibre : GoodIn wsX5_pile (va_wsS RX5 88 yX5_isCalibre wsX5_isCalibre) := goodIn_app (goodIn_of _ (by decide +kernel)) ggX5_pile_X5_isCalibre
set_option maxRecDepth 20000 in
theorem ggX5_pile_X5_fail : GoodIn wsX5_pile wsX5_fail := goodIn_r _ [15, 1, 16, 17, 18, 19, 20, 21, 22, 23, 24, 25, 26, 27, 28, 29, 30, 31, 32, 33, 34] (by decide +kernel) (by decide +kernel)
set_option maxRecDepth 20000 in
theorem gX5_pile_X5_fail : GoodIn wsX5_pile (wsV RX5 92 RX5 yX5_fail wsX5_fail) := goodIn_app (goodIn_of _ (by decide +kernel)) ggX5_pile_X5_fail
set_option maxRecDepth 20000 in
theorem ggX5_pile_X5_isIn : GoodIn wsX5_pile wsX5_isIn := goodIn_r _ [11] (by decide +kernel) (by decide +kernel)
set_option maxRecDepth 20000 in
theorem gX5_pile_X5_isIn : GoodIn wsX5_pile (va_wsS RX5 59 yX5_isIn wsX5_isIn) := goodIn_app (goodIn_of _ (by decide +kernel)) ggX5_pile_X5_isIn
theorem dX5_pile_0 : decode cX5_pile 0 = .ok (.aload_n 0, 1) := by decide +kernel
theorem dX5_pile_1 : decode cX5_pile 1 = .ok (.iconst 0, 1) := by decide +kernel
theorem dX5_pile_2 : decode cX5_pile 2 = .ok (.putfield 53, 3) := by decide +kernel
theorem dX5_pile_5 : decode cX5_pile 5 = .ok (.iload_n 1, 1) := by decide +kernel
theorem dX5_pile_6 : decode cX5_pile 6 = .ok (.invokestatic 88, 3) := by decide +kernel
theorem dX5_pile_9 : decode cX5_pile 9 = .ok (.ifCond .ne 9, 3) := by decide +kernel
theorem dX5_pile_12 : decode cX5_pile 12 = .ok (.aload_n 0, 1) := by decide +kernel
theorem dX5_pile_13 : decode cX5_pile 13 = .ok (.iconst 1, 1) := by decide +kernel
theorem dX5_pile_14 : decode cX5_pile 14 = .ok (.invokevirtual 92, 3) := by decide +kernel
theorem dX5_pile_17 : decode cX5_pile 17 = .ok (.ireturn, 1) := by decide +kernel
theorem dX5_pile_18 : decode cX5_pile 18 = .ok (.iload_n 2, 1) := by decide +kernel
theorem dX5_pile_19 : decode cX5_pile 19 = .ok (.iconst 1, 1) := by decide +kernel
theorem dX5_pile_20 : decode cX5_pile 20 = .ok (.bipush 6, 2) := by decide +kernel
theorem dX5_pile_22 : decode cX5_pile 22 = .ok (.invokestatic 59, 3) := by decide +kernel
theorem dX5_pile_25 : decode cX5_pile 25 = .ok (.ifCond .ne 9, 3) := by decide +kernel
theorem dX5_pile_28 : decode cX5_pile 28 = .ok (.aload_n 0, 1) := by decide +kernel
theorem dX5_pile_29 : decode cX5_pile 29 = .ok (.iconst 2, 1) := by decide +kernel
theorem dX5_pile_30 : decode cX5_pile 30 = .ok (.invokevirtual 92, 3) := by decide +kernel
theorem dX5_pile_33 : decode cX5_pile 33 = .ok (.ireturn, 1) := by decide +kernel
theorem dX5_pile_34 : decode cX5_pile 34 = .ok (.aload_n 0, 1) := by decide +kernel
theorem dX5_pile_35 : decode cX5_pile 35 = .ok (.getfield 56, 3) := by decide +kernel
theorem dX5_pile_38 : decode cX5_pile 38 = .ok (.bipush 6, 2) := by decide +kernel
theorem dX5_pile_40 : decode cX5_pile 40 = .ok (.if_icmp .ne 9, 3) := by decide +kernel
theorem dX5_pile_43 : decode cX5_pile 43 = .ok (.aload_n 0, 1) := by decide +kernel
theorem dX5_pile_44 : decode cX5_pile 44 = .ok (.iconst 3, 1) := by decide +kernel
theorem dX5_pile_45 : decode cX5_pile 45 = .ok (.invokevirtual 92, 3) := by decide +kernel
theorem dX5_pile_48 : decode cX5_pile 48 = .ok (.ireturn, 1) := by decide +kernel
theorem dX5_pile_49 : decode cX5_pile 49 = .ok (.aload_n 0, 1) := by decide +kernel
theorem dX5_pile_50 : decode cX5_pile 50 = .ok (.getfield 13, 3) := by decide +kernel
theorem dX5_pile_53 : decode cX5_pile 53 = .ok (.aload_n 0, 1) := by decide +kernel
theorem dX5_pile_54 : decode cX5_pile 54 = .ok (.getfield 56, 3) := by decide +kernel
theorem dX5_pile_57 : decode cX5_pile 57 = .ok (.iload_n 1, 1) := by decide +kernel
theorem dX5_pile_58 : decode cX5_pile 58 = .ok (.iastore, 1) := by decide +kernel
theorem dX5_pile_59 : decode cX5_pile 59 = .ok (.aload_n 0, 1) := by decide +kernel
theorem dX5_pile_60 : decode cX5_pile 60 = .ok (.getfield 17, 3) := by decide +kernel
theorem dX5_pile_63 : decode cX5_pile 63 = .ok (.aload_n 0, 1) := by decide +kernel
theorem dX5_pile_64 : decode cX5_pile 64 = .ok (.getfield 56, 3) := by decide +kernel
theorem dX5_pile_67 : decode cX5_pile 67 = .ok (.iload_n 2, 1) := by decide +kernel
theorem dX5_pile_68 : decode cX5_pile 68 = .ok (.iastore, 1) := by decide +kernel
theorem dX5_pile_69 : decode cX5_pile 69 = .ok (.aload_n 0, 1) := by decide +kernel
theorem dX5_pile_70 : decode cX5_pile 70 = .ok (.dup, 1) := by decide +kernel
theorem dX5_pile_71 : decode cX5_pile 71 = .ok (.getfield 56, 3) := by decide +kernel
theorem dX5_pile_74 : decode cX5_pile 74 = .ok (.iconst 1, 1) := by decide +kernel
theorem dX5_pile_75 : decode cX5_pile 75 = .ok (.iadd, 1) := by decide +kernel
theorem dX5_pile_76 : decode cX5_pile 76 = .ok (.putfield 56, 3) := by decide +kernel
theorem dX5_pile_79 : decode cX5_pile 79 = .ok (.aload_n 0, 1) := by decide +kernel
theorem dX5_pile_80 : decode cX5_pile 80 = .ok (.getfield 56, 3) := by decide +kernel
theorem dX5_pile_83 : decode cX5_pile 83 = .ok (.iconst 1, 1) := by decide +kernel
theorem dX5_pile_84 : decode cX5_pile 84 = .ok (.isub, 1) := by decide +kernel
theorem dX5_pile_85 : decode cX5_pile 85 = .ok (.ireturn, 1) := by decide +kernel
set_option maxRecDepth 20000 in
theorem ggX5_cat_X5_isIn : GoodIn wsX5_cat wsX5_isIn := goodIn_r _ [8] (by decide +kernel) (by decide +kernel)
set_option maxRecDepth 20000 in
theorem gX5_cat_X5_isIn : GoodIn wsX5_cat (va_wsS RX5 59 yX5_isIn wsX5_isIn) := goodIn_app (goodIn_of _ (by decide +kernel)) ggX5_cat_X5_isIn
set_option maxRecDepth 20000 in
theorem ggX5_cat_X5_fail : GoodIn wsX5_cat wsX5_fail := goodIn_r _ [12, 1, 13, 14, 15, 16, 17, 18, 19, 20, 21, 22, 23, 24, 25, 26, 27, 28, 29, 30, 31] (by decide +kernel) (by decide +kernel)
set_option maxRecDepth 20000 in
theorem gX5_cat_X5_fail : GoodIn wsX5_cat (wsV RX5 92 RX5 yX5_fail wsX5_fail) := goodIn_app (goodIn_of _ (by decide +kernel)) ggX5_cat_X5_fail
theorem dX5_cat_0 : decode cX5_cat 0 = .ok (.aload_n 0, 1) := by decide +kernel
theorem dX5_cat_1 : decode cX5_cat 1 = .ok (.iconst 0, 1) := by decide +kernel
theorem dX5_cat_2 : decode cX5_cat 2 = .ok (.putfield 53, 3) := by decide +kernel
theorem dX5_cat_5 : decode cX5_cat 5 = .ok (.iload_n 1, 1) := by decide +kernel
theorem dX5_cat_6 : decode cX5_cat 6 = .ok (.iconst 1, 1) := by decide +kernel
theorem dX5_cat_7 : decode cX5_cat 7 = .ok (.iconst 5, 1) := by decide +kernel
theorem dX5_cat_8 : decode cX5_cat 8 = .ok (.invokestatic 59, 3) := by decide +kernel
theorem dX5_cat_11 : decode cX5_cat 11 = .ok (.ifCond .ne 9, 3) := by decide +kernel
theorem dX5_cat_14 : decode cX5_cat 14 = .ok (.aload_n 0, 1) := by decide +kernel
theorem dX5_cat_15 : decode cX5_cat 15 = .ok (.iconst 1, 1) := by decide +kernel
theorem dX5_cat_16 : decode cX5_cat 16 = .ok (.invokevirtual 92, 3) := by decide +kernel
theorem dX5_cat_19 : decode cX5_cat 19 = .ok (.ireturn, 1) := by decide +kernel
theorem dX5_cat_20 : decode cX5_cat 20 = .ok (.aload_n 0, 1) := by decide +kernel
theorem dX5_cat_21 : decode cX5_cat 21 = .ok (.getfield 95, 3) := by decide +kernel
theorem dX5_cat_24 : decode cX5_cat 24 = .ok (.iconst 3, 1) := by decide +kernel
theorem dX5_cat_25 : decode cX5_cat 25 = .ok (.if_icmp .ne 9, 3) := by decide +kernel
theorem dX5_cat_28 : decode cX5_cat 28 = .ok (.aload_n 0, 1) := by decide +kernel
theorem dX5_cat_29 : decode cX5_cat 29 = .ok (.iconst 2, 1) := by decide +kernel
theorem dX5_cat_30 : decode cX5_cat 30 = .ok (.invokevirtual 92, 3) := by decide +kernel
theorem dX5_cat_33 : decode cX5_cat 33 = .ok (.ireturn, 1) := by decide +kernel
theorem dX5_cat_34 : decode cX5_cat 34 = .ok (.aload_n 0, 1) := by decide +kernel
theorem dX5_cat_35 : decode cX5_cat 35 = .ok (.getfield 20, 3) := by decide +kernel
theorem dX5_cat_38 : decode cX5_cat 38 = .ok (.aload_n 0, 1) := by decide +kernel
theorem dX5_cat_39 : decode cX5_cat 39 = .ok (.getfield 95, 3) := by decide +kernel
theorem dX5_cat_42 : decode cX5_cat 42 = .ok (.iload_n 1, 1) := by decide +kernel
theorem dX5_cat_43 : decode cX5_cat 43 = .ok (.iastore, 1) := by decide +kernel
theorem dX5_cat_44 : decode cX5_cat 44 = .ok (.aload_n 0, 1) := by decide +kernel
theorem dX5_cat_45 : decode cX5_cat 45 = .ok (.getfield 32, 3) := by decide +kernel
theorem dX5_cat_48 : decode cX5_cat 48 = .ok (.aload_n 0, 1) := by decide +kernel
theorem dX5_cat_49 : decode cX5_cat 49 = .ok (.getfield 95, 3) := by decide +kernel
theorem dX5_cat_52 : decode cX5_cat 52 = .ok (.iconst (-1), 1) := by decide +kernel
theorem dX5_cat_53 : decode cX5_cat 53 = .ok (.iastore, 1) := by decide +kernel
theorem dX5_cat_54 : decode cX5_cat 54 = .ok (.aload_n 0, 1) := by decide +kernel
theorem dX5_cat_55 : decode cX5_cat 55 = .ok (.dup, 1) := by decide +kernel
theorem dX5_cat_56 : decode cX5_cat 56 = .ok (.getfield 95, 3) := by decide +kernel
theorem dX5_cat_59 : decode cX5_cat 59 = .ok (.iconst 1, 1) := by decide +kernel
theorem dX5_cat_60 : decode cX5_cat 60 = .ok (.iadd, 1) := by decide +kernel
theorem dX5_cat_61 : decode cX5_cat 61 = .ok (.putfield 95, 3) := by decide +kernel
theorem dX5_cat_64 : decode cX5_cat 64 = .ok (.aload_n 0, 1) := by decide +kernel
theorem dX5_cat_65 : decode cX5_cat 65 = .ok (.getfield 95, 3) := by decide +kernel
theorem dX5_cat_68 : decode cX5_cat 68 = .ok (.iconst 1, 1) := by decide +kernel
theorem dX5_cat_69 : decode cX5_cat 69 = .ok (.isub, 1) := by decide +kernel
theorem dX5_cat_70 : decode cX5_cat 70 = .ok (.ireturn, 1) := by decide +kernel
set_option maxRecDepth 20000 in
theorem ggX5_give_X5_isCalibre : GoodIn wsX5_give wsX5_isCalibre := goodIn_r _ [6, 7, 8, 5, 9] (by decide +kernel) (by decide +kernel)
set_option maxRecDepth 20000 in
theorem gX5_give_X5_isCalibre : GoodIn wsX5_give (va_wsS RX5 88 yX5_isCalibre wsX5_isCalibre) := goodIn_app (goodIn_of _ (by decide +kernel)) ggX5_give_X5_isCalibre
set_option maxRecDepth 20000 in
theorem ggX5_give_X5_fail : GoodIn wsX5_give wsX5_fail := goodIn_r _ [13, 1, 18, 19, 20, 21, 22, 23, 24, 25, 26, 27, 28, 29, 30, 31, 32, 33, 34, 35, 36] (by decide +kernel) (by decide +kernel)
set_option maxRecDepth 20000 in
theorem gX5_give_X5_fail : GoodIn wsX5_give (wsV RX5 92 RX5 yX5_fail wsX5_fail) := goodIn_app (goodIn_of _ (by decide +kernel)) ggX5_give_X5_fail
set_option maxRecDepth 20000 in
theorem ggX5_give_X5_isIn : GoodIn wsX5_give wsX5_isIn := goodIn_r _ [9] (by decide +kernel) (by decide +kernel)
set_option maxRecDepth 20000 in
theorem gX5_give_X5_isIn : GoodIn wsX5_give (va_wsS RX5 59 yX5_isIn wsX5_isIn) := goodIn_app (goodIn_of _ (by decide +kernel)) ggX5_give_X5_isIn
set_option maxRecDepth 20000 in
theorem ggX5_give_X5_more : GoodIn wsX5_give wsX5_more := goodIn_r _ [17, 2, 18, 19, 20, 21, 22, 23, 24, 25, 26, 27, 28, 29, 30, 31, 32, 33, 34, 35, 36] (by decide +kernel) (by decide +kernel)
set_option maxRecDepth 20000 in
theorem gX5_give_X5_more : GoodIn wsX5_give (wsV RX5 98 RX5 yX5_more wsX5_more) := goodIn_app (goodIn_of _ (by decide +kernel)) ggX5_give_X5_more
theorem dX5_give_0 : decode cX5_give 0 = .ok (.aload_n 0, 1) := by decide +kernel
theorem dX5_give_1 : decode cX5_give 1 = .ok (.iconst 0, 1) := by decide +kernel
theorem dX5_give_2 : decode cX5_give 2 = .ok (.putfield 53, 3) := by decide +kernel
theorem dX5_give_5 : decode cX5_give 5 = .ok (.iload_n 1, 1) := by decide +kernel
theorem dX5_give_6 : decode cX5_give 6 = .ok (.invokestatic 88, 3) := by decide +kernel
theorem dX5_give_9 : decode cX5_give 9 = .ok (.ifCond .ne 9, 3) := by decide +kernel
theorem dX5_give_12 : decode cX5_give 12 = .ok (.aload_n 0, 1) := by decide +kernel
theorem dX5_give_13 : decode cX5_give 13 = .ok (.iconst 1, 1) := by decide +kernel
theorem dX5_give_14 : decode cX5_give 14 = .ok (.invokevirtual 92, 3) := by decide +kernel
theorem dX5_give_17 : decode cX5_give 17 = .ok (.ireturn, 1) := by decide +kernel
theorem dX5_give_18 : decode cX5_give 18 = .ok (.iload_n 2, 1) := by decide +kernel
theorem dX5_give_19 : decode cX5_give 19 = .ok (.iconst 1, 1) := by decide +kernel
theorem dX5_give_20 : decode cX5_give 20 = .ok (.bipush 99, 2) := by decide +kernel
theorem dX5_give_22 : decode cX5_give 22 = .ok (.invokestatic 59, 3) := by decide +kernel
theorem dX5_give_25 : decode cX5_give 25 = .ok (.ifCond .ne 9, 3) := by decide +kernel
theorem dX5_give_28 : decode cX5_give 28 = .ok (.aload_n 0, 1) := by decide +kernel
theorem dX5_give_29 : decode cX5_give 29 = .ok (.iconst 2, 1) := by decide +kernel
theorem dX5_give_30 : decode cX5_give 30 = .ok (.invokevirtual 92, 3) := by decide +kernel
theorem dX5_give_33 : decode cX5_give 33 = .ok (.ireturn, 1) := by decide +kernel
theorem dX5_give_34 : decode cX5_give 34 = .ok (.aload_n 0, 1) := by decide +kernel
theorem dX5_give_35 : decode cX5_give 35 = .ok (.iload_n 1, 1) := by decide +kernel
theorem dX5_give_36 : decode cX5_give 36 = .ok (.iconst 0, 1) := by decide +kernel
theorem dX5_give_37 : decode cX5_give 37 = .ok (.iload_n 2, 1) := by decide +kernel
theorem dX5_give_38 : decode cX5_give 38 = .ok (.invokevirtual 98, 3) := by decide +kernel
theorem dX5_give_41 : decode cX5_give 41 = .ok (.aload_n 0, 1) := by decide +kernel
theorem dX5_give_42 : decode cX5_give 42 = .ok (.getfield 29, 3) := by decide +kernel
theorem dX5_give_45 : decode cX5_give 45 = .ok (.iconst 4, 1) := by decide +kernel
theorem dX5_give_46 : decode cX5_give 46 = .ok (.iload_n 1, 1) := by decide +kernel
theorem dX5_give_47 : decode cX5_give 47 = .ok (.imul, 1) := by decide +kernel
theorem dX5_give_48 : decode cX5_give 48 = .ok (.iconst 0, 1) := by decide +kernel
theorem dX5_give_49 : decode cX5_give 49 = .ok (.iadd, 1) := by decide +kernel
theorem dX5_give_50 : decode cX5_give 50 = .ok (.iaload, 1) := by decide +kernel
theorem dX5_give_51 : decode cX5_give 51 = .ok (.ireturn, 1) := by decide +kernel
set_option maxRecDepth 20000 in
theorem ggX5_setRain_X5_isIn : GoodIn wsX5_setRain wsX5_isIn := goodIn_r _ [6] (by decide +kernel) (by decide +kernel)
set_option maxRecDepth 20000 in
theorem gX5_setRain_X5_isIn : GoodIn wsX5_setRain (va_wsS RX5 59 yX5_isIn wsX5_isIn) := goodIn_app (goodIn_of _ (by decide +kernel)) ggX5_setRain_X5_isIn
set_option maxRecDepth 20000 in
theorem ggX5_setRain_X5_fail : GoodIn wsX5_setRain wsX5_fail := goodIn_r _ [10, 1, 11, 12, 13, 14, 15, 16, 17, 18, 19, 20, 21, 22, 23, 24, 25, 26, 27, 28, 29] (by decide +kernel) (by decide +kernel)
set_option maxRecDepth 20000 in
theorem gX5_setRain_X5_fail : GoodIn wsX5_setRain (wsV RX5 92 RX5 yX5_fail wsX5_fail) := goodIn_app (goodIn_of _ (by decide +kernel)) ggX5_setRain_X5_fail
theorem dX5_setRain_0 : decode cX5_setRain 0 = .ok (.aload_n 0, 1) := by decide +kernel
theorem dX5_setRain_1 : decode cX5_setRain 1 = .ok (.iconst 0, 1) := by decide +kernel
theorem dX5_setRain_2 : decode cX5_setRain 2 = .ok (.putfield 53, 3) := by decide +kernel
theorem dX5_setRain_5 : decode cX5_setRain 5 = .ok (.iload_n 1, 1) := by decide +kernel
theorem dX5_setRain_6 : decode cX5_setRain 6 = .ok (.iconst 0, 1) := by decide +kernel
theorem dX5_setRain_7 : decode cX5_setRain 7 = .ok (.iconst 3, 1) := by decide +kernel
theorem dX5_setRain_8 : decode cX5_setRain 8 = .ok (.invokestatic 59, 3) := by decide +kernel
theorem dX5_setRain_11 : decode cX5_setRain 11 = .ok (.ifCond .ne 9, 3) := by decide +kernel
theorem dX5_setRain_14 : decode cX5_setRain 14 = .ok (.aload_n 0, 1) := by decide +kernel
theorem dX5_setRain_15 : decode cX5_setRain 15 = .ok (.iconst 1, 1) := by decide +kernel
theorem dX5_setRain_16 : decode cX5_setRain 16 = .ok (.invokevirtual 92, 3) := by decide +kernel
theorem dX5_setRain_19 : decode cX5_setRain 19 = .ok (.ireturn, 1) := by decide +kernel
theorem dX5_setRain_20 : decode cX5_setRain 20 = .ok (.aload_n 0, 1) := by decide +kernel
theorem dX5_setRain_21 : decode cX5_setRain 21 = .ok (.getfield 102, 3) := by decide +kernel
theorem dX5_setRain_24 : decode cX5_setRain 24 = .ok (.istore_n 2, 1) := by decide +kernel
theorem dX5_setRain_25 : decode cX5_setRain 25 = .ok (.aload_n 0, 1) := by decide +kernel
theorem dX5_setRain_26 : decode cX5_setRain 26 = .ok (.iload_n 1, 1) := by decide +kernel
theorem dX5_setRain_27 : decode cX5_setRain 27 = .ok (.putfield 102, 3) := by decide +kernel
theorem dX5_setRain_30 : decode cX5_setRain 30 = .ok (.iload_n 2, 1) := by decide +kernel
theorem dX5_setRain_31 : decode cX5_setRain 31 = .ok (.ireturn, 1) := by decide +kernel
set_option maxRecDepth 20000 in
theorem ggX5_setLimit_X5_isIn : GoodIn wsX5_setLimit wsX5_isIn := goodIn_r _ [6] (by decide +kernel) (by decide +kernel)
set_option maxRecDepth 20000 in
theorem gX5_setLimit_X5_isIn : GoodIn wsX5_setLimit (va_wsS RX5 59 yX5_isIn wsX5_isIn) := goodIn_app (goodIn_of _ (by decide +kernel)) ggX5_setLimit_X5_isIn
set_option maxRecDepth 20000 in
theorem ggX5_setLimit_X5_fail : GoodIn wsX5_setLimit wsX5_fail := goodIn_r _ [10, 1, 11, 12, 13, 14, 15, 16, 17, 18, 19, 20, 21, 22, 23, 24, 25, 26, 27, 28, 29] (by decide +kernel) (by decide +kernel)
set_option maxRecDepth 20000 in
theorem gX5_setLimit_X5_fail : GoodIn wsX5_setLimit (wsV RX5 92 RX5 yX5_fail wsX5_fail) := goodIn_app (goodIn_of _ (by decide +kernel)) ggX5_setLimit_X5_fail
theorem dX5_setLimit_0 : decode cX5_setLimit 0 = .ok (.aload_n 0, 1) := by decide +kernel
theorem dX5_setLimit_1 : decode cX5_setLimit 1 = .ok (.iconst 0, 1) := by decide +kernel
theorem dX5_setLimit_2 : decode cX5_setLimit 2 = .ok (.putfield 53, 3) := by decide +kernel
theorem dX5_setLimit_5 : decode cX5_setLimit 5 = .ok (.iload_n 1, 1) := by decide +kernel
theorem dX5_setLimit_6 : decode cX5_setLimit 6 = .ok (.iconst 1, 1) := by decide +kernel
theorem dX5_setLimit_7 : decode cX5_setLimit 7 = .ok (.bipush 9, 2) := by decide +kernel
theorem dX5_setLimit_9 : decode cX5_setLimit 9 = .ok (.invokestatic 59, 3) := by decide +kernel
theorem dX5_setLimit_12 : decode cX5_setLimit 12 = .ok (.ifCond .ne 9, 3) := by decide +kernel
theorem dX5_setLimit_15 : decode cX5_setLimit 15 = .ok (.aload_n 0, 1) := by decide +kernel
theorem dX5_setLimit_16 : decode cX5_setLimit 16 = .ok (.iconst 1, 1) := by decide +kernel
theorem dX5_setLimit_17 : decode cX5_setLimit 17 = .ok (.invokevirtual 92, 3) := by decide +kernel
theorem dX5_setLimit_20 : decode cX5_setLimit 20 = .ok (.ireturn, 1) := by decide +kernel
theorem dX5_setLimit_21 : decode cX5_setLimit 21 = .ok (.aload_n 0, 1) := by decide +kernel
theorem dX5_setLimit_22 : decode cX5_setLimit 22 = .ok (.getfield 7, 3) := by decide +kernel
theorem dX5_setLimit_25 : decode cX5_setLimit 25 = .ok (.istore_n 2, 1) := by decide +kernel
theorem dX5_setLimit_26 : decode cX5_setLimit 26 = .ok (.aload_n 0, 1) := by decide +kernel
theorem dX5_setLimit_27 : decode cX5_setLimit 27 = .ok (.iload_n 1, 1) := by decide +kernel
theorem dX5_setLimit_28 : decode cX5_setLimit 28 = .ok (.putfield 7, 3) := by decide +kernel
theorem dX5_setLimit_31 : decode cX5_setLimit 31 = .ok (.iload_n 2, 1) := by decide +kernel
theorem dX5_setLimit_32 : decode cX5_setLimit 32 = .ok (.ireturn, 1) := by decide +kernel
set_option maxRecDepth 20000 in
theorem ggX5_left_X5_roomOf : GoodIn wsX5_left wsX5_roomOf := goodIn_r _ [6] (by decide +kernel) (by decide +kernel)
set_option maxRecDepth 20000 in
theorem gX5_left_X5_roomOf : GoodIn wsX5_left (va_wsS RX5 69 yX5_roomOf wsX5_roomOf) := goodIn_app (goodIn_of _ (by decide +kernel)) ggX5_left_X5_roomOf
theorem dX5_left_0 : decode cX5_left 0 = .ok (.aload_n 0, 1) := by decide +kernel
theorem dX5_left_1 : decode cX5_left 1 = .ok (.getfield 17, 3) := by decide +kernel
theorem dX5_left_4 : decode cX5_left 4 = .ok (.iload_n 1, 1) := by decide +kernel
theorem dX5_left_5 : decode cX5_left 5 = .ok (.iaload, 1) := by decide +kernel
theorem dX5_left_6 : decode cX5_left 6 = .ok (.invokestatic 69, 3) := by decide +kernel
theorem dX5_left_9 : decode cX5_left 9 = .ok (.aload_n 0, 1) := by decide +kernel
theorem dX5_left_10 : decode cX5_left 10 = .ok (.getfield 23, 3) := by decide +kernel
theorem dX5_left_13 : decode cX5_left 13 = .ok (.iload_n 1, 1) := by decide +kernel
theorem dX5_left_14 : decode cX5_left 14 = .ok (.iaload, 1) := by decide +kernel
theorem dX5_left_15 : decode cX5_left 15 = .ok (.isub, 1) := by decide +kernel
theorem dX5_left_16 : decode cX5_left 16 = .ok (.ireturn, 1) := by decide +kernel
theorem dX5_put_0 : decode cX5_put 0 = .ok (.aload_n 0, 1) := by decide +kernel
theorem dX5_put_1 : decode cX5_put 1 = .ok (.getfield 26, 3) := by decide +kernel
theorem dX5_put_4 : decode cX5_put 4 = .ok (.bipush 91, 2) := by decide +kernel
theorem dX5_put_6 : decode cX5_put 6 = .ok (.iload_n 1, 1) := by decide +kernel
theorem dX5_put_7 : decode cX5_put 7 = .ok (.imul, 1) := by decide +kernel
theorem dX5_put_8 : decode cX5_put 8 = .ok (.aload_n 0, 1) := by decide +kernel
theorem dX5_put_9 : decode cX5_put 9 = .ok (.getfield 23, 3) := by decide +kernel
theorem dX5_put_12 : decode cX5_put 12 = .ok (.iload_n 1, 1) := by decide +kernel
theorem dX5_put_13 : decode cX5_put 13 = .ok (.iaload, 1) := by decide +kernel
theorem dX5_put_14 : decode cX5_put 14 = .ok (.iadd, 1) := by decide +kernel
theorem dX5_put_15 : decode cX5_put 15 = .ok (.iload_n 2, 1) := by decide +kernel
theorem dX5_put_16 : decode cX5_put 16 = .ok (.iastore, 1) := by decide +kernel
theorem dX5_put_17 : decode cX5_put 17 = .ok (.aload_n 0, 1) := by decide +kernel
theorem dX5_put_18 : decode cX5_put 18 = .ok (.getfield 23, 3) := by decide +kernel
theorem dX5_put_21 : decode cX5_put 21 = .ok (.iload_n 1, 1) := by decide +kernel
theorem dX5_put_22 : decode cX5_put 22 = .ok (.dup2, 1) := by decide +kernel
theorem dX5_put_23 : decode cX5_put 23 = .ok (.iaload, 1) := by decide +kernel
theorem dX5_put_24 : decode cX5_put 24 = .ok (.iconst 1, 1) := by decide +kernel
theorem dX5_put_25 : decode cX5_put 25 = .ok (.iadd, 1) := by decide +kernel
theorem dX5_put_26 : decode cX5_put 26 = .ok (.iastore, 1) := by decide +kernel
theorem dX5_put_27 : decode cX5_put 27 = .ok (.return_, 1) := by decide +kernel
set_option maxRecDepth 20000 in
theorem ggX5_stack_X5_isPile : GoodIn wsX5_stack wsX5_isPile := goodIn_r _ [8, 9, 10, 11, 7, 12, 39, 40, 41, 42, 43, 44, 45, 46, 47, 48, 49, 50, 51, 52, 53, 54, 55, 56, 57] (by decide +kernel) (by decide +kernel)
set_option maxRecDepth 20000 in
theorem gX5_stack_X5_isPile : GoodIn wsX5_stack (wsV RX5 105 RX5 yX5_isPile wsX5_isPile) := goodIn_app (goodIn_of _ (by decide +kernel)) ggX5_stack_X5_isPile
set_option maxRecDepth 20000 in
theorem ggX5_stack_X5_fail : GoodIn wsX5_stack wsX5_fail := goodIn_r _ [16, 1, 39, 40, 41, 42, 43, 44, 45, 46, 47, 48, 49, 50, 51, 52, 53, 54, 55, 56, 57] (by decide +kernel) (by decide +kernel)
set_option maxRecDepth 20000 in
theorem gX5_stack_X5_fail : GoodIn wsX5_stack (wsV RX5 92 RX5 yX5_fail wsX5_fail) := goodIn_app (goodIn_of _ (by decide +kernel)) ggX5_stack_X5_fail
set_option maxRecDepth 20000 in
theorem ggX5_stack_X5_isIn : GoodIn wsX5_stack wsX5_isIn := goodIn_r _ [12] (by decide +kernel) (by decide +kernel)
set_option maxRecDepth 20000 in
theorem gX5_stack_X5_isIn : GoodIn wsX5_stack (va_wsS RX5 59 yX5_isIn wsX5_isIn) := goodIn_app (goodIn_of _ (by decide +kernel)) ggX5_stack_X5_isIn
set_option maxRecDepth 20000 in
theorem ggX5_stack_X5_of : GoodIn wsX5_stack wsX5_of := goodIn_r _ [20, 21, 2, 39, 40, 41, 42, 43, 44, 45, 46, 47, 48, 49, 50, 51, 52, 53, 54, 55, 56, 57] (by decide +kernel) (by decide +kernel)
set_option maxRecDepth 20000 in
theorem gX5_stack_X5_of : GoodIn wsX5_stack (wsV RX5 108 RX5 yX5_of wsX5_of) := goodIn_app (goodIn_of _ (by decide +kernel)) ggX5_stack_X5_of
set_option maxRecDepth 20000 in
theorem ggX5_stack_X5_left : GoodIn wsX5_stack wsX5_left := goodIn_r _ [25, 26, 3, 27, 28, 7, 29, 39, 40, 41, 42, 43, 44, 45, 46, 47, 48, 49, 50, 51, 52, 53, 54, 55, 56, 57] (by decide +kernel) (by decide +kernel)
set_option maxRecDepth 20000 in
theorem gX5_stack_X5_left : GoodIn wsX5_stack (wsV RX5 111 RX5 yX5_left wsX5_left) := goodIn_app (goodIn_of _ (by decide +kernel)) ggX5_stack_X5_left
set_option maxRecDepth 20000 in
theorem ggX5_stack_X5_more : GoodIn wsX5_stack wsX5_more := goodIn_r _ [33, 21, 39, 40, 41, 42, 43, 44, 45, 46, 47, 48, 49, 50, 51, 52, 53, 54, 55, 56, 57] (by decide +kernel) (by decide +kernel)
set_option maxRecDepth 20000 in
theorem gX5_stack_X5_more : GoodIn wsX5_stack (wsV RX5 98 RX5 yX5_more wsX5_more) := goodIn_app (goodIn_of _ (by decide +kernel)) ggX5_stack_X5_more
set_option maxRecDepth 20000 in
theorem ggX5_stack_X5_put : GoodIn wsX5_stack wsX5_put := goodIn_r _ [37, 38, 3, 39, 40, 41, 42, 43, 44, 45, 46, 47, 48, 49, 50, 51, 52, 53, 54, 55, 56, 57] (by decide +kernel) (by decide +kernel)
set_option maxRecDepth 20000 in
theorem gX5_stack_X5_put : GoodIn wsX5_stack (wsV RX5 114 RX5 yX5_put wsX5_put) := goodIn_app (goodIn_of _ (by decide +kernel)) ggX5_stack_X5_put
theorem dX5_stack_0 : decode cX5_stack 0 = .ok (.aload_n 0, 1) := by decide +kernel
theorem dX5_stack_1 : decode cX5_stack 1 = .ok (.iconst 0, 1) := by decide +kernel
theorem dX5_stack_2 : decode cX5_stack 2 = .ok (.putfield 53, 3) := by decide +kernel
theorem dX5_stack_5 : decode cX5_stack 5 = .ok (.aload_n 0, 1) := by decide +kernel
theorem dX5_stack_6 : decode cX5_stack 6 = .ok (.iload_n 1, 1) := by decide +kernel
theorem dX5_stack_7 : decode cX5_stack 7 = .ok (.invokevirtual 105, 3) := by decide +kernel
theorem dX5_stack_10 : decode cX5_stack 10 = .ok (.ifCond .ne 9, 3) := by decide +kernel
theorem dX5_stack_13 : decode cX5_stack 13 = .ok (.aload_n 0, 1) := by decide +kernel
theorem dX5_stack_14 : decode cX5_stack 14 = .ok (.iconst 1, 1) := by decide +kernel
theorem dX5_stack_15 : decode cX5_stack 15 = .ok (.invokevirtual 92, 3) := by decide +kernel
theorem dX5_stack_18 : decode cX5_stack 18 = .ok (.ireturn, 1) := by decide +kernel
theorem dX5_stack_19 : decode cX5_stack 19 = .ok (.iload_n 2, 1) := by decide +kernel
theorem dX5_stack_20 : decode cX5_stack 20 = .ok (.iconst 1, 1) := by decide +kernel
theorem dX5_stack_21 : decode cX5_stack 21 = .ok (.bipush 91, 2) := by decide +kernel
theorem dX5_stack_23 : decode cX5_stack 23 = .ok (.invokestatic 59, 3) := by decide +kernel
theorem dX5_stack_26 : decode cX5_stack 26 = .ok (.ifCond .ne 9, 3) := by decide +kernel
theorem dX5_stack_29 : decode cX5_stack 29 = .ok (.aload_n 0, 1) := by decide +kernel
theorem dX5_stack_30 : decode cX5_stack 30 = .ok (.iconst 2, 1) := by decide +kernel
theorem dX5_stack_31 : decode cX5_stack 31 = .ok (.invokevirtual 92, 3) := by decide +kernel
theorem dX5_stack_34 : decode cX5_stack 34 = .ok (.ireturn, 1) := by decide +kernel
theorem dX5_stack_35 : decode cX5_stack 35 = .ok (.aload_n 0, 1) := by decide +kernel
theorem dX5_stack_36 : decode cX5_stack 36 = .ok (.iload_n 1, 1) := by decide +kernel
theorem dX5_stack_37 : decode cX5_stack 37 = .ok (.iconst 0, 1) := by decide +kernel
theorem dX5_stack_38 : decode cX5_stack 38 = .ok (.invokevirtual 108, 3) := by decide +kernel
theorem dX5_stack_41 : decode cX5_stack 41 = .ok (.iload_n 2, 1) := by decide +kernel
theorem dX5_stack_42 : decode cX5_stack 42 = .ok (.if_icmp .lt 12, 3) := by decide +kernel
theorem dX5_stack_45 : decode cX5_stack 45 = .ok (.aload_n 0, 1) := by decide +kernel
theorem dX5_stack_46 : decode cX5_stack 46 = .ok (.iload_n 1, 1) := by decide +kernel
theorem dX5_stack_47 : decode cX5_stack 47 = .ok (.invokevirtual 111, 3) := by decide +kernel
theorem dX5_stack_50 : decode cX5_stack 50 = .ok (.iload_n 2, 1) := by decide +kernel
theorem dX5_stack_51 : decode cX5_stack 51 = .ok (.if_icmp .ge 9, 3) := by decide +kernel
theorem dX5_stack_54 : decode cX5_stack 54 = .ok (.aload_n 0, 1) := by decide +kernel
theorem dX5_stack_55 : decode cX5_stack 55 = .ok (.iconst 3, 1) := by decide +kernel
theorem dX5_stack_56 : decode cX5_stack 56 = .ok (.invokevirtual 92, 3) := by decide +kernel
theorem dX5_stack_59 : decode cX5_stack 59 = .ok (.ireturn, 1) := by decide +kernel
theorem dX5_stack_60 : decode cX5_stack 60 = .ok (.aload_n 0, 1) := by decide +kernel
theorem dX5_stack_61 : decode cX5_stack 61 = .ok (.aload_n 0, 1) := by decide +kernel
theorem dX5_stack_62 : decode cX5_stack 62 = .ok (.getfield 13, 3) := by decide +kernel
theorem dX5_stack_65 : decode cX5_stack 65 = .ok (.iload_n 1, 1) := by decide +kernel
theorem dX5_stack_66 : decode cX5_stack 66 = .ok (.iaload, 1) := by decide +kernel
theorem dX5_stack_67 : decode cX5_stack 67 = .ok (.iconst 0, 1) := by decide +kernel
theorem dX5_stack_68 : decode cX5_stack 68 = .ok (.iload_n 2, 1) := by decide +kernel
theorem dX5_stack_69 : decode cX5_stack 69 = .ok (.ineg, 1) := by decide +kernel
theorem dX5_stack_70 : decode cX5_stack 70 = .ok (.invokevirtual 98, 3) := by decide +kernel
theorem dX5_stack_73 : decode cX5_stack 73 = .ok (.iconst 0, 1) := by decide +kernel
theorem dX5_stack_74 : decode cX5_stack 74 = .ok (.istore_n 3, 1) := by decide +kernel
theorem dX5_stack_75 : decode cX5_stack 75 = .ok (.iload_n 3, 1) := by decide +kernel
theorem dX5_stack_76 : decode cX5_stack 76 = .ok (.iload_n 2, 1) := by decide +kernel
theorem dX5_stack_77 : decode cX5_stack 77 = .ok (.if_icmp .ge 15, 3) := by decide +kernel
theorem dX5_stack_80 : decode cX5_stack 80 = .ok (.aload_n 0, 1) := by decide +kernel
theorem dX5_stack_81 : decode cX5_stack 81 = .ok (.iload_n 1, 1) := by decide +kernel
theorem dX5_stack_82 : decode cX5_stack 82 = .ok (.iconst 0, 1) := by decide +kernel
theorem dX5_stack_83 : decode cX5_stack 83 = .ok (.invokevirtual 114, 3) := by decide +kernel
theorem dX5_stack_86 : decode cX5_stack 86 = .ok (.iinc 3 1, 3) := by decide +kernel
theorem dX5_stack_89 : decode cX5_stack 89 = .ok (.goto (-14), 3) := by decide +kernel
theorem dX5_stack_92 : decode cX5_stack 92 = .ok (.aload_n 0, 1) := by decide +kernel
theorem dX5_stack_93 : decode cX5_stack 93 = .ok (.getfield 23, 3) := by decide +kernel
theorem dX5_stack_96 : decode cX5_stack 96 = .ok (.iload_n 1, 1) := by decide +kernel
theorem dX5_stack_97 : decode cX5_stack 97 = .ok (.iaload, 1) := by decide +kernel
theorem dX5_stack_98 : decode cX5_stack 98 = .ok (.ireturn, 1) := by decide +kernel
set_option maxRecDepth 20000 in
theorem ggX5_fire_X5_isPile : GoodIn wsX5_fire wsX5_isPile := goodIn_r _ [8, 9, 10, 11, 7, 12, 27, 28, 29, 30, 31, 32, 33, 34, 35, 36, 37, 38, 39, 40, 41, 42, 43, 44, 45] (by decide +kernel) (by decide +kernel)
set_option maxRecDepth 20000 in
theorem gX5_fire_X5_isPile : GoodIn wsX5_fire (wsV RX5 105 RX5 yX5_isPile wsX5_isPile) := goodIn_app (goodIn_of _ (by decide +kernel)) ggX5_fire_X5_isPile
set_option maxRecDepth 20000 in
theorem ggX5_fire_X5_fail : GoodIn wsX5_fire wsX5_fail := goodIn_r _ [16, 1, 27, 28, 29, 30, 31, 32, 33, 34, 35, 36, 37, 38, 39, 40, 41, 42, 43, 44, 45] (by decide +kernel) (by decide +kernel)
set_option maxRecDepth 20000 in
theorem gX5_fire_X5_fail : GoodIn wsX5_fire (wsV RX5 92 RX5 yX5_fail wsX5_fail) := goodIn_app (goodIn_of _ (by decide +kernel)) ggX5_fire_X5_fail
set_option maxRecDepth 20000 in
theorem ggX5_fire_X5_isIn : GoodIn wsX5_fire wsX5_isIn := goodIn_r _ [12] (by decide +kernel) (by decide +kernel)
set_option maxRecDepth 20000 in
theorem gX5_fire_X5_isIn : GoodIn wsX5_fire (va_wsS RX5 59 yX5_isIn wsX5_isIn) := goodIn_app (goodIn_of _ (by decide +kernel)) ggX5_fire_X5_isIn
set_option maxRecDepth 20000 in
theorem ggX5_fire_X5_rustOf : GoodIn wsX5_fire wsX5_rustOf := goodIn_r _ [20, 21, 27, 28, 29, 30, 31, 32, 33, 34, 35, 36, 37, 38, 39, 40, 41, 42, 43, 44, 45] (by decide +kernel) (by decide +kernel)
set_option maxRecDepth 20000 in
theorem gX5_fire_X5_rustOf : GoodIn wsX5_fire (wsV RX5 118 RX5 yX5_rustOf wsX5_rustOf) := goodIn_app (goodIn_of _ (by decide +kernel)) ggX5_fire_X5_rustOf
set_option maxRecDepth 20000 in
theorem ggX5_fire_X5_more : GoodIn wsX5_fire wsX5_more := goodIn_r _ [25, 26, 27, 28, 29, 30, 31, 32, 33, 34, 35, 36, 37, 38, 39, 40, 41, 42, 43, 44, 45] (by decide +kernel) (by decide +kernel)
set_option maxRecDepth 20000 in
theorem gX5_fire_X5_more : GoodIn wsX5_fire (wsV RX5 98 RX5 yX5_more wsX5_more) := goodIn_app (goodIn_of _ (by decide +kernel)) ggX5_fire_X5_more
theorem dX5_fire_0 : decode cX5_fire 0 = .ok (.aload_n 0, 1) := by decide +kernel
theorem dX5_fire_1 : decode cX5_fire 1 = .ok (.iconst 0, 1) := by decide +kernel
theorem dX5_fire_2 : decode cX5_fire 2 = .ok (.putfield 53, 3) := by decide +kernel
theorem dX5_fire_5 : decode cX5_fire 5 = .ok (.aload_n 0, 1) := by decide +kernel
theorem dX5_fire_6 : decode cX5_fire 6 = .ok (.iload_n 1, 1) := by decide +kernel
theorem dX5_fire_7 : decode cX5_fire 7 = .ok (.invokevirtual 105, 3) := by decide +kernel
theorem dX5_fire_10 : decode cX5_fire 10 = .ok (.ifCond .ne 9, 3) := by decide +kernel
theorem dX5_fire_13 : decode cX5_fire 13 = .ok (.aload_n 0, 1) := by decide +kernel
theorem dX5_fire_14 : decode cX5_fire 14 = .ok (.iconst 1, 1) := by decide +kernel
theorem dX5_fire_15 : decode cX5_fire 15 = .ok (.invokevirtual 92, 3) := by decide +kernel
theorem dX5_fire_18 : decode cX5_fire 18 = .ok (.ireturn, 1) := by decide +kernel
theorem dX5_fire_19 : decode cX5_fire 19 = .ok (.iload_n 2, 1) := by decide +kernel
theorem dX5_fire_20 : decode cX5_fire 20 = .ok (.iconst 1, 1) := by decide +kernel
theorem dX5_fire_21 : decode cX5_fire 21 = .ok (.bipush 91, 2) := by decide +kernel
theorem dX5_fire_23 : decode cX5_fire 23 = .ok (.invokestatic 59, 3) := by decide +kernel
theorem dX5_fire_26 : decode cX5_fire 26 = .ok (.ifCond .ne 9, 3) := by decide +kernel
theorem dX5_fire_29 : decode cX5_fire 29 = .ok (.aload_n 0, 1) := by decide +kernel
theorem dX5_fire_30 : decode cX5_fire 30 = .ok (.iconst 2, 1) := by decide +kernel
theorem dX5_fire_31 : decode cX5_fire 31 = .ok (.invokevirtual 92, 3) := by decide +kernel
theorem dX5_fire_34 : decode cX5_fire 34 = .ok (.ireturn, 1) := by decide +kernel
theorem dX5_fire_35 : decode cX5_fire 35 = .ok (.aload_n 0, 1) := by decide +kernel
theorem dX5_fire_36 : decode cX5_fire 36 = .ok (.getfield 23, 3) := by decide +kernel
theorem dX5_fire_39 : decode cX5_fire 39 = .ok (.iload_n 1, 1) := by decide +kernel
theorem dX5_fire_40 : decode cX5_fire 40 = .ok (.iaload, 1) := by decide +kernel
theorem dX5_fire_41 : decode cX5_fire 41 = .ok (.iload_n 2, 1) := by decide +kernel
theorem dX5_fire_42 : decode cX5_fire 42 = .ok (.if_icmp .ge 9, 3) := by decide +kernel
theorem dX5_fire_45 : decode cX5_fire 45 = .ok (.aload_n 0, 1) := by decide +kernel
theorem dX5_fire_46 : decode cX5_fire 46 = .ok (.iconst 3, 1) := by decide +kernel
theorem dX5_fire_47 : decode cX5_fire 47 = .ok (.invokevirtual 92, 3) := by decide +kernel
theorem dX5_fire_50 : decode cX5_fire 50 = .ok (.ireturn, 1) := by decide +kernel
theorem dX5_fire_51 : decode cX5_fire 51 = .ok (.iconst 0, 1) := by decide +kernel
theorem dX5_fire_52 : decode cX5_fire 52 = .ok (.istore_n 3, 1) := by decide +kernel
theorem dX5_fire_53 : decode cX5_fire 53 = .ok (.iconst 0, 1) := by decide +kernel
theorem dX5_fire_54 : decode cX5_fire 54 = .ok (.istore 4, 2) := by decide +kernel
theorem dX5_fire_56 : decode cX5_fire 56 = .ok (.iload 4, 2) := by decide +kernel
theorem dX5_fire_58 : decode cX5_fire 58 = .ok (.iload_n 2, 1) := by decide +kernel
theorem dX5_fire_59 : decode cX5_fire 59 = .ok (.if_icmp .ge 33, 3) := by decide +kernel
theorem dX5_fire_62 : decode cX5_fire 62 = .ok (.aload_n 0, 1) := by decide +kernel
theorem dX5_fire_63 : decode cX5_fire 63 = .ok (.getfield 23, 3) := by decide +kernel
theorem dX5_fire_66 : decode cX5_fire 66 = .ok (.iload_n 1, 1) := by decide +kernel
theorem dX5_fire_67 : decode cX5_fire 67 = .ok (.dup2, 1) := by decide +kernel
theorem dX5_fire_68 : decode cX5_fire 68 = .ok (.iaload, 1) := by decide +kernel
theorem dX5_fire_69 : decode cX5_fire 69 = .ok (.iconst 1, 1) := by decide +kernel
theorem dX5_fire_70 : decode cX5_fire 70 = .ok (.isub, 1) := by decide +kernel
theorem dX5_fire_71 : decode cX5_fire 71 = .ok (.iastore, 1) := by decide +kernel
theorem dX5_fire_72 : decode cX5_fire 72 = .ok (.iload_n 3, 1) := by decide +kernel
theorem dX5_fire_73 : decode cX5_fire 73 = .ok (.aload_n 0, 1) := by decide +kernel
theorem dX5_fire_74 : decode cX5_fire 74 = .ok (.iload_n 1, 1) := by decide +kernel
theorem dX5_fire_75 : decode cX5_fire 75 = .ok (.aload_n 0, 1) := by decide +kernel
theorem dX5_fire_76 : decode cX5_fire 76 = .ok (.getfield 23, 3) := by decide +kernel
theorem dX5_fire_79 : decode cX5_fire 79 = .ok (.iload_n 1, 1) := by decide +kernel
theorem dX5_fire_80 : decode cX5_fire 80 = .ok (.iaload, 1) := by decide +kernel
theorem dX5_fire_81 : decode cX5_fire 81 = .ok (.invokevirtual 118, 3) := by decide +kernel
theorem dX5_fire_84 : decode cX5_fire 84 = .ok (.iadd, 1) := by decide +kernel
theorem dX5_fire_85 : decode cX5_fire 85 = .ok (.istore_n 3, 1) := by decide +kernel
theorem dX5_fire_86 : decode cX5_fire 86 = .ok (.iinc 4 1, 3) := by decide +kernel
theorem dX5_fire_89 : decode cX5_fire 89 = .ok (.goto (-33), 3) := by decide +kernel
theorem dX5_fire_92 : decode cX5_fire 92 = .ok (.aload_n 0, 1) := by decide +kernel
theorem dX5_fire_93 : decode cX5_fire 93 = .ok (.aload_n 0, 1) := by decide +kernel
theorem dX5_fire_94 : decode cX5_fire 94 = .ok (.getfield 13, 3) := by decide +kernel
theorem dX5_fire_97 : decode cX5_fire 97 = .ok (.iload_n 1, 1) := by decide +kernel
theorem dX5_fire_98 : decode cX5_fire 98 = .ok (.iaload, 1) := by decide +kernel
theorem dX5_fire_99 : decode cX5_fire 99 = .ok (.iconst 2, 1) := by decide +kernel
theorem dX5_fire_100 : decode cX5_fire 100 = .ok (.iload_n 2, 1) := by decide +kernel
theorem dX5_fire_101 : decode cX5_fire 101 = .ok (.invokevirtual 98, 3) := by decide +kernel
theorem dX5_fire_104 : decode cX5_fire 104 = .ok (.iload_n 3, 1) := by decide +kernel
theorem dX5_fire_105 : decode cX5_fire 105 = .ok (.ireturn, 1) := by decide +kernel
set_option maxRecDepth 20000 in
theorem ggX5_scour_X5_isPile : GoodIn wsX5_scour wsX5_isPile := goodIn_r _ [12, 13, 14, 15, 11, 16, 49, 50, 51, 52, 53, 54, 55, 56, 57, 58, 59, 60, 61, 62, 63, 64, 65, 66, 67] (by decide +kernel) (by decide +kernel)
set_option maxRecDepth 20000 in
theorem gX5_scour_X5_isPile : GoodIn wsX5_scour (wsV RX5 105 RX5 yX5_isPile wsX5_isPile) := goodIn_app (goodIn_of _ (by decide +kernel)) ggX5_scour_X5_isPile
set_option maxRecDepth 20000 in
theorem ggX5_scour_X5_fail : GoodIn wsX5_scour wsX5_fail := goodIn_r _ [20, 1, 49, 50, 51, 52, 53, 54, 55, 56, 57, 58, 59, 60, 61, 62, 63, 64, 65, 66, 67] (by decide +kernel) (by decide +kernel)
set_option maxRecDepth 20000 in
theorem gX5_scour_X5_fail : GoodIn wsX5_scour (wsV RX5 92 RX5 yX5_fail wsX5_fail) := goodIn_app (goodIn_of _ (by decide +kernel)) ggX5_scour_X5_fail
set_option maxRecDepth 20000 in
theorem ggX5_scour_X5_on : GoodIn wsX5_scour wsX5_on := goodIn_r _ [24, 25, 26, 27, 11, 28, 29, 30, 31, 32, 33, 34, 35, 36, 37, 38, 39, 40, 41, 42, 43, 44, 2, 14, 15, 16, 49, 50, 51, 52, 53, 54, 55, 56, 57, 58, 59, 60, 61, 62, 63, 64, 65, 66, 67] (by decide +kernel) (by decide +kernel)
set_option maxRecDepth 20000 in
theorem gX5_scour_X5_on : GoodIn wsX5_scour (wsV RX5 121 RX5 yX5_on wsX5_on) := goodIn_app (goodIn_of _ (by decide +kernel)) ggX5_scour_X5_on
set_option maxRecDepth 20000 in
theorem ggX5_scour_X5_rustOf : GoodIn wsX5_scour wsX5_rustOf := goodIn_r _ [48, 7, 49, 50, 51, 52, 53, 54, 55, 56, 57, 58, 59, 60, 61, 62, 63, 64, 65, 66, 67] (by decide +kernel) (by decide +kernel)
set_option maxRecDepth 20000 in
theorem gX5_scour_X5_rustOf : GoodIn wsX5_scour (wsV RX5 118 RX5 yX5_rustOf wsX5_rustOf) := goodIn_app (goodIn_of _ (by decide +kernel)) ggX5_scour_X5_rustOf
theorem dX5_scour_0 : decode cX5_scour 0 = .ok (.aload_n 0, 1) := by decide +kernel
theorem dX5_scour_1 : decode cX5_scour 1 = .ok (.iconst 0, 1) := by decide +kernel
theorem dX5_scour_2 : decode cX5_scour 2 = .ok (.putfield 53, 3) := by decide +kernel
theorem dX5_scour_5 : decode cX5_scour 5 = .ok (.aload_n 0, 1) := by decide +kernel
theorem dX5_scour_6 : decode cX5_scour 6 = .ok (.iload_n 1, 1) := by decide +kernel
theorem dX5_scour_7 : decode cX5_scour 7 = .ok (.invokevirtual 105, 3) := by decide +kernel
theorem dX5_scour_10 : decode cX5_scour 10 = .ok (.ifCond .ne 9, 3) := by decide +kernel
theorem dX5_scour_13 : decode cX5_scour 13 = .ok (.aload_n 0, 1) := by decide +kernel
theorem dX5_scour_14 : decode cX5_scour 14 = .ok (.iconst 1, 1) := by decide +kernel
theorem dX5_scour_15 : decode cX5_scour 15 = .ok (.invokevirtual 92, 3) := by decide +kernel
theorem dX5_scour_18 : decode cX5_scour 18 = .ok (.ireturn, 1) := by decide +kernel
theorem dX5_scour_19 : decode cX5_scour 19 = .ok (.iconst 0, 1) := by decide +kernel
theorem dX5_scour_20 : decode cX5_scour 20 = .ok (.istore_n 2, 1) := by decide +kernel
theorem dX5_scour_21 : decode cX5_scour 21 = .ok (.iconst 0, 1) := by decide +kernel
theorem dX5_scour_22 : decode cX5_scour 22 = .ok (.istore_n 3, 1) := by decide +kernel
theorem dX5_scour_23 : decode cX5_scour 23 = .ok (.iload_n 3, 1) := by decide +kernel
theorem dX5_scour_24 : decode cX5_scour 24 = .ok (.aload_n 0, 1) := by decide +kernel
theorem dX5_scour_25 : decode cX5_scour 25 = .ok (.getfield 23, 3) := by decide +kernel
theorem dX5_scour_28 : decode cX5_scour 28 = .ok (.iload_n 1, 1) := by decide +kernel
theorem dX5_scour_29 : decode cX5_scour 29 = .ok (.iaload, 1) := by decide +kernel
theorem dX5_scour_30 : decode cX5_scour 30 = .ok (.if_icmp .ge 54, 3) := by decide +kernel
theorem dX5_scour_33 : decode cX5_scour 33 = .ok (.aload_n 0, 1) := by decide +kernel
theorem dX5_scour_34 : decode cX5_scour 34 = .ok (.iload_n 1, 1) := by decide +kernel
theorem dX5_scour_35 : decode cX5_scour 35 = .ok (.iload_n 3, 1) := by decide +kernel
theorem dX5_scour_36 : decode cX5_scour 36 = .ok (.invokevirtual 121, 3) := by decide +kernel
theorem dX5_scour_39 : decode cX5_scour 39 = .ok (.ifCond .le 6, 3) := by decide +kernel
theorem dX5_scour_42 : decode cX5_scour 42 = .ok (.goto 36, 3) := by decide +kernel
theorem dX5_scour_45 : decode cX5_scour 45 = .ok (.iconst 3, 1) := by decide +kernel
theorem dX5_scour_46 : decode cX5_scour 46 = .ok (.aload_n 0, 1) := by decide +kernel
theorem dX5_scour_47 : decode cX5_scour 47 = .ok (.iload_n 1, 1) := by decide +kernel
theorem dX5_scour_48 : decode cX5_scour 48 = .ok (.iload_n 3, 1) := by decide +kernel
theorem dX5_scour_49 : decode cX5_scour 49 = .ok (.invokevirtual 118, 3) := by decide +kernel
theorem dX5_scour_52 : decode cX5_scour 52 = .ok (.invokestatic 124, 3) := by decide +kernel
theorem dX5_scour_55 : decode cX5_scour 55 = .ok (.istore 4, 2) := by decide +kernel
theorem dX5_scour_57 : decode cX5_scour 57 = .ok (.aload_n 0, 1) := by decide +kernel
theorem dX5_scour_58 : decode cX5_scour 58 = .ok (.getfield 26, 3) := by decide +kernel
theorem dX5_scour_61 : decode cX5_scour 61 = .ok (.bipush 91, 2) := by decide +kernel
theorem dX5_scour_63 : decode cX5_scour 63 = .ok (.iload_n 1, 1) := by decide +kernel
theorem dX5_scour_64 : decode cX5_scour 64 = .ok (.imul, 1) := by decide +kernel
theorem dX5_scour_65 : decode cX5_scour 65 = .ok (.iload_n 3, 1) := by decide +kernel
theorem dX5_scour_66 : decode cX5_scour 66 = .ok (.iadd, 1) := by decide +kernel
theorem dX5_scour_67 : decode cX5_scour 67 = .ok (.dup2, 1) := by decide +kernel
theorem dX5_scour_68 : decode cX5_scour 68 = .ok (.iaload, 1) := by decide +kernel
theorem dX5_scour_69 : decode cX5_scour 69 = .ok (.iload 4, 2) := by decide +kernel
theorem dX5_scour_71 : decode cX5_scour 71 = .ok (.isub, 1) := by decide +kernel
theorem dX5_scour_72 : decode cX5_scour 72 = .ok (.iastore, 1) := by decide +kernel
theorem dX5_scour_73 : decode cX5_scour 73 = .ok (.iload_n 2, 1) := by decide +kernel
theorem dX5_scour_74 : decode cX5_scour 74 = .ok (.iload 4, 2) := by decide +kernel
theorem dX5_scour_76 : decode cX5_scour 76 = .ok (.iadd, 1) := by decide +kernel
theorem dX5_scour_77 : decode cX5_scour 77 = .ok (.istore_n 2, 1) := by decide +kernel
theorem dX5_scour_78 : decode cX5_scour 78 = .ok (.iinc 3 1, 3) := by decide +kernel
theorem dX5_scour_81 : decode cX5_scour 81 = .ok (.goto (-58), 3) := by decide +kernel
theorem dX5_scour_84 : decode cX5_scour 84 = .ok (.iload_n 2, 1) := by decide +kernel
theorem dX5_scour_85 : decode cX5_scour 85 = .ok (.ireturn, 1) := by decide +kernel
set_option maxRecDepth 20000 in
theorem ggX5_rusty_X5_rustOf : GoodIn wsX5_rusty wsX5_rustOf := goodIn_r _ [7, 8, 9, 10, 11, 12, 13, 14, 15, 16, 17, 18, 19, 20, 21, 22, 23, 24, 25, 26, 27] (by decide +kernel) (by decide +kernel)
set_option maxRecDepth 20000 in
theorem gX5_rusty_X5_rustOf : GoodIn wsX5_rusty (wsV RX5 118 RX5 yX5_rustOf wsX5_rustOf) := goodIn_app (goodIn_of _ (by decide +kernel)) ggX5_rusty_X5_rustOf
theorem dX5_rusty_0 : decode cX5_rusty 0 = .ok (.iconst 0, 1) := by decide +kernel
theorem dX5_rusty_1 : decode cX5_rusty 1 = .ok (.istore_n 2, 1) := by decide +kernel
theorem dX5_rusty_2 : decode cX5_rusty 2 = .ok (.iconst 0, 1) := by decide +kernel
theorem dX5_rusty_3 : decode cX5_rusty 3 = .ok (.istore_n 3, 1) := by decide +kernel
theorem dX5_rusty_4 : decode cX5_rusty 4 = .ok (.iload_n 3, 1) := by decide +kernel
theorem dX5_rusty_5 : decode cX5_rusty 5 = .ok (.aload_n 0, 1) := by decide +kernel
theorem dX5_rusty_6 : decode cX5_rusty 6 = .ok (.getfield 23, 3) := by decide +kernel
theorem dX5_rusty_9 : decode cX5_rusty 9 = .ok (.iload_n 1, 1) := by decide +kernel
theorem dX5_rusty_10 : decode cX5_rusty 10 = .ok (.iaload, 1) := by decide +kernel
theorem dX5_rusty_11 : decode cX5_rusty 11 = .ok (.if_icmp .ge 30, 3) := by decide +kernel
theorem dX5_rusty_14 : decode cX5_rusty 14 = .ok (.iload_n 2, 1) := by decide +kernel
theorem dX5_rusty_15 : decode cX5_rusty 15 = .ok (.aload_n 0, 1) := by decide +kernel
theorem dX5_rusty_16 : decode cX5_rusty 16 = .ok (.iload_n 1, 1) := by decide +kernel
theorem dX5_rusty_17 : decode cX5_rusty 17 = .ok (.iload_n 3, 1) := by decide +kernel
theorem dX5_rusty_18 : decode cX5_rusty 18 = .ok (.invokevirtual 118, 3) := by decide +kernel
theorem dX5_rusty_21 : decode cX5_rusty 21 = .ok (.aload_n 0, 1) := by decide +kernel
theorem dX5_rusty_22 : decode cX5_rusty 22 = .ok (.getfield 7, 3) := by decide +kernel
theorem dX5_rusty_25 : decode cX5_rusty 25 = .ok (.if_icmp .lt 7, 3) := by decide +kernel
theorem dX5_rusty_28 : decode cX5_rusty 28 = .ok (.iconst 1, 1) := by decide +kernel
theorem dX5_rusty_29 : decode cX5_rusty 29 = .ok (.goto 4, 3) := by decide +kernel
theorem dX5_rusty_32 : decode cX5_rusty 32 = .ok (.iconst 0, 1) := by decide +kernel
theorem dX5_rusty_33 : decode cX5_rusty 33 = .ok (.iadd, 1) := by decide +kernel
theorem dX5_rusty_34 : decode cX5_rusty 34 = .ok (.istore_n 2, 1) := by decide +kernel
theorem dX5_rusty_35 : decode cX5_rusty 35 = .ok (.iinc 3 1, 3) := by decide +kernel
theorem dX5_rusty_38 : decode cX5_rusty 38 = .ok (.goto (-34), 3) := by decide +kernel
theorem dX5_rusty_41 : decode cX5_rusty 41 = .ok (.iload_n 2, 1) := by decide +kernel
theorem dX5_rusty_42 : decode cX5_rusty 42 = .ok (.ireturn, 1) := by decide +kernel
set_option maxRecDepth 20000 in
theorem ggX5_inspect_X5_isPile : GoodIn wsX5_inspect wsX5_isPile := goodIn_r _ [9, 10, 11, 12, 8, 13, 32, 33, 34, 35, 36, 37, 38, 39, 40, 41, 42, 43, 44, 45, 46, 47, 48, 49, 50] (by decide +kernel) (by decide +kernel)
set_option maxRecDepth 20000 in
theorem gX5_inspect_X5_isPile : GoodIn wsX5_inspect (wsV RX5 105 RX5 yX5_isPile wsX5_isPile) := goodIn_app (goodIn_of _ (by decide +kernel)) ggX5_inspect_X5_isPile
set_option maxRecDepth 20000 in
theorem ggX5_inspect_X5_fail : GoodIn wsX5_inspect wsX5_fail := goodIn_r _ [17, 1, 32, 33, 34, 35, 36, 37, 38, 39, 40, 41, 42, 43, 44, 45, 46, 47, 48, 49, 50] (by decide +kernel) (by decide +kernel)
set_option maxRecDepth 20000 in
theorem gX5_inspect_X5_fail : GoodIn wsX5_inspect (wsV RX5 92 RX5 yX5_fail wsX5_fail) := goodIn_app (goodIn_of _ (by decide +kernel)) ggX5_inspect_X5_fail
set_option maxRecDepth 20000 in
theorem ggX5_inspect_X5_rustOf : GoodIn wsX5_inspect wsX5_rustOf := goodIn_r _ [21, 22, 32, 33, 34, 35, 36, 37, 38, 39, 40, 41, 42, 43, 44, 45, 46, 47, 48, 49, 50] (by decide +kernel) (by decide +kernel)
set_option maxRecDepth 20000 in
theorem gX5_inspect_X5_rustOf : GoodIn wsX5_inspect (wsV RX5 118 RX5 yX5_rustOf wsX5_rustOf) := goodIn_app (goodIn_of _ (by decide +kernel)) ggX5_inspect_X5_rustOf
set_option maxRecDepth 20000 in
theorem ggX5_inspect_X5_put : GoodIn wsX5_inspect wsX5_put := goodIn_r _ [26, 22, 2, 32, 33, 34, 35, 36, 37, 38, 39, 40, 41, 42, 43, 44, 45, 46, 47, 48, 49, 50] (by decide +kernel) (by decide +kernel)
set_option maxRecDepth 20000 in
theorem gX5_inspect_X5_put : GoodIn wsX5_inspect (wsV RX5 114 RX5 yX5_put wsX5_put) := goodIn_app (goodIn_of _ (by decide +kernel)) ggX5_inspect_X5_put
set_option maxRecDepth 20000 in
theorem ggX5_inspect_X5_more : GoodIn wsX5_inspect wsX5_more := goodIn_r _ [30, 31, 32, 33, 34, 35, 36, 37, 38, 39, 40, 41, 42, 43, 44, 45, 46, 47, 48, 49, 50] (by decide +kernel) (by decide +kernel)
set_option maxRecDepth 20000 in
theorem gX5_inspect_X5_more : GoodIn wsX5_inspect (wsV RX5 98 RX5 yX5_more wsX5_more) := goodIn_app (goodIn_of _ (by decide +kernel)) ggX5_inspect_X5_more
theorem dX5_inspect_0 : decode cX5_inspect 0 = .ok (.aload_n 0, 1) := by decide +kernel
theorem dX5_inspect_1 : decode cX5_inspect 1 = .ok (.iconst 0, 1) := by decide +kernel
theorem dX5_inspect_2 : decode cX5_inspect 2 = .ok (.putfield 53, 3) := by decide +kernel
theorem dX5_inspect_5 : decode cX5_inspect 5 = .ok (.aload_n 0, 1) := by decide +kernel
theorem dX5_inspect_6 : decode cX5_inspect 6 = .ok (.iload_n 1, 1) := by decide +kernel
theorem dX5_inspect_7 : decode cX5_inspect 7 = .ok (.invokevirtual 105, 3) := by decide +kernel
theorem dX5_inspect_10 : decode cX5_inspect 10 = .ok (.ifCond .ne 9, 3) := by decide +kernel
theorem dX5_inspect_13 : decode cX5_inspect 13 = .ok (.aload_n 0, 1) := by decide +kernel
theorem dX5_inspect_14 : decode cX5_inspect 14 = .ok (.iconst 1, 1) := by decide +kernel
theorem dX5_inspect_15 : decode cX5_inspect 15 = .ok (.invokevirtual 92, 3) := by decide +kernel
theorem dX5_inspect_18 : decode cX5_inspect 18 = .ok (.ireturn, 1) := by decide +kernel
theorem dX5_inspect_19 : decode cX5_inspect 19 = .ok (.aload_n 0, 1) := by decide +kernel
theorem dX5_inspect_20 : decode cX5_inspect 20 = .ok (.getfield 23, 3) := by decide +kernel
theorem dX5_inspect_23 : decode cX5_inspect 23 = .ok (.iload_n 1, 1) := by decide +kernel
theorem dX5_inspect_24 : decode cX5_inspect 24 = .ok (.iaload, 1) := by decide +kernel
theorem dX5_inspect_25 : decode cX5_inspect 25 = .ok (.istore_n 2, 1) := by decide +kernel
theorem dX5_inspect_26 : decode cX5_inspect 26 = .ok (.aload_n 0, 1) := by decide +kernel
theorem dX5_inspect_27 : decode cX5_inspect 27 = .ok (.getfield 23, 3) := by decide +kernel
theorem dX5_inspect_30 : decode cX5_inspect 30 = .ok (.iload_n 1, 1) := by decide +kernel
theorem dX5_inspect_31 : decode cX5_inspect 31 = .ok (.iconst 0, 1) := by decide +kernel
theorem dX5_inspect_32 : decode cX5_inspect 32 = .ok (.iastore, 1) := by decide +kernel
theorem dX5_inspect_33 : decode cX5_inspect 33 = .ok (.iconst 0, 1) := by decide +kernel
theorem dX5_inspect_34 : decode cX5_inspect 34 = .ok (.istore_n 3, 1) := by decide +kernel
theorem dX5_inspect_35 : decode cX5_inspect 35 = .ok (.iload_n 3, 1) := by decide +kernel
theorem dX5_inspect_36 : decode cX5_inspect 36 = .ok (.iload_n 2, 1) := by decide +kernel
theorem dX5_inspect_37 : decode cX5_inspect 37 = .ok (.if_icmp .ge 33, 3) := by decide +kernel
theorem dX5_inspect_40 : decode cX5_inspect 40 = .ok (.aload_n 0, 1) := by decide +kernel
theorem dX5_inspect_41 : decode cX5_inspect 41 = .ok (.iload_n 1, 1) := by decide +kernel
theorem dX5_inspect_42 : decode cX5_inspect 42 = .ok (.iload_n 3, 1) := by decide +kernel
theorem dX5_inspect_43 : decode cX5_inspect 43 = .ok (.invokevirtual 118, 3) := by decide +kernel
theorem dX5_inspect_46 : decode cX5_inspect 46 = .ok (.aload_n 0, 1) := by decide +kernel
theorem dX5_inspect_47 : decode cX5_inspect 47 = .ok (.getfield 7, 3) := by decide +kernel
theorem dX5_inspect_50 : decode cX5_inspect 50 = .ok (.if_icmp .ge 14, 3) := by decide +kernel
theorem dX5_inspect_53 : decode cX5_inspect 53 = .ok (.aload_n 0, 1) := by decide +kernel
theorem dX5_inspect_54 : decode cX5_inspect 54 = .ok (.iload_n 1, 1) := by decide +kernel
theorem dX5_inspect_55 : decode cX5_inspect 55 = .ok (.aload_n 0, 1) := by decide +kernel
theorem dX5_inspect_56 : decode cX5_inspect 56 = .ok (.iload_n 1, 1) := by decide +kernel
theorem dX5_inspect_57 : decode cX5_inspect 57 = .ok (.iload_n 3, 1) := by decide +kernel
theorem dX5_inspect_58 : decode cX5_inspect 58 = .ok (.invokevirtual 118, 3) := by decide +kernel
theorem dX5_inspect_61 : decode cX5_inspect 61 = .ok (.invokevirtual 114, 3) := by decide +kernel
theorem dX5_inspect_64 : decode cX5_inspect 64 = .ok (.iinc 3 1, 3) := by decide +kernel
theorem dX5_inspect_67 : decode cX5_inspect 67 = .ok (.goto (-32), 3) := by decide +kernel
theorem dX5_inspect_70 : decode cX5_inspect 70 = .ok (.aload_n 0, 1) := by decide +kernel
theorem dX5_inspect_71 : decode cX5_inspect 71 = .ok (.aload_n 0, 1) := by decide +kernel
theorem dX5_inspect_72 : decode cX5_inspect 72 = .ok (.getfield 13, 3) := by decide +kernel
theorem dX5_inspect_75 : decode cX5_inspect 75 = .ok (.iload_n 1, 1) := by decide +kernel
theorem dX5_inspect_76 : decode cX5_inspect 76 = .ok (.iaload, 1) := by decide +kernel
theorem dX5_inspect_77 : decode cX5_inspect 77 = .ok (.iconst 3, 1) := by decide +kernel
theorem dX5_inspect_78 : decode cX5_inspect 78 = .ok (.iload_n 2, 1) := by decide +kernel
theorem dX5_inspect_79 : decode cX5_inspect 79 = .ok (.aload_n 0, 1) := by decide +kernel
theorem dX5_inspect_80 : decode cX5_inspect 80 = .ok (.getfield 23, 3) := by decide +kernel
theorem dX5_inspect_83 : decode cX5_inspect 83 = .ok (.iload_n 1, 1) := by decide +kernel
theorem dX5_inspect_84 : decode cX5_inspect 84 = .ok (.iaload, 1) := by decide +kernel
theorem dX5_inspect_85 : decode cX5_inspect 85 = .ok (.isub, 1) := by decide +kernel
theorem dX5_inspect_86 : decode cX5_inspect 86 = .ok (.invokevirtual 98, 3) := by decide +kernel
theorem dX5_inspect_89 : decode cX5_inspect 89 = .ok (.iload_n 2, 1) := by decide +kernel
theorem dX5_inspect_90 : decode cX5_inspect 90 = .ok (.aload_n 0, 1) := by decide +kernel
theorem dX5_inspect_91 : decode cX5_inspect 91 = .ok (.getfield 23, 3) := by decide +kernel
theorem dX5_inspect_94 : decode cX5_inspect 94 = .ok (.iload_n 1, 1) := by decide +kernel
theorem dX5_inspect_95 : decode cX5_inspect 95 = .ok (.iaload, 1) := by decide +kernel
theorem dX5_inspect_96 : decode cX5_inspect 96 = .ok (.isub, 1) := by decide +kernel
theorem dX5_inspect_97 : decode cX5_inspect 97 = .ok (.ireturn, 1) := by decide +kernel
set_option maxRecDepth 20000 in
theorem ggX5_shift_X5_isPile : GoodIn wsX5_shift wsX5_isPile := goodIn_r _ [8, 9, 10, 11, 7, 12, 34, 35, 36, 37, 38, 39, 40, 41, 42, 43, 44, 45, 46, 47, 48, 49, 50, 51, 52] (by decide +kernel) (by decide +kernel)
set_option maxRecDepth 20000 in
theorem gX5_shift_X5_isPile : GoodIn wsX5_shift (wsV RX5 105 RX5 yX5_isPile wsX5_isPile) := goodIn_app (goodIn_of _ (by decide +kernel)) ggX5_shift_X5_isPile
set_option maxRecDepth 20000 in
theorem ggX5_shift_X5_fail : GoodIn wsX5_shift wsX5_fail := goodIn_r _ [16, 1, 34, 35, 36, 37, 38, 39, 40, 41, 42, 43, 44, 45, 46, 47, 48, 49, 50, 51, 52] (by decide +kernel) (by decide +kernel)
set_option maxRecDepth 20000 in
theorem gX5_shift_X5_fail : GoodIn wsX5_shift (wsV RX5 92 RX5 yX5_fail wsX5_fail) := goodIn_app (goodIn_of _ (by decide +kernel)) ggX5_shift_X5_fail
set_option maxRecDepth 20000 in
theorem ggX5_shift_X5_left : GoodIn wsX5_shift wsX5_left := goodIn_r _ [20, 21, 3, 22, 23, 7, 24, 34, 35, 36, 37, 38, 39, 40, 41, 42, 43, 44, 45, 46, 47, 48, 49, 50, 51, 52] (by decide +kernel) (by decide +kernel)
set_option maxRecDepth 20000 in
theorem gX5_shift_X5_left : GoodIn wsX5_shift (wsV RX5 111 RX5 yX5_left wsX5_left) := goodIn_app (goodIn_of _ (by decide +kernel)) ggX5_shift_X5_left
set_option maxRecDepth 20000 in
theorem ggX5_shift_X5_rustOf : GoodIn wsX5_shift wsX5_rustOf := goodIn_r _ [28, 29, 34, 35, 36, 37, 38, 39, 40, 41, 42, 43, 44, 45, 46, 47, 48, 49, 50, 51, 52] (by decide +kernel) (by decide +kernel)
set_option maxRecDepth 20000 in
theorem gX5_shift_X5_rustOf : GoodIn wsX5_shift (wsV RX5 118 RX5 yX5_rustOf wsX5_rustOf) := goodIn_app (goodIn_of _ (by decide +kernel)) ggX5_shift_X5_rustOf
set_option maxRecDepth 20000 in
theorem ggX5_shift_X5_put : GoodIn wsX5_shift wsX5_put := goodIn_r _ [33, 29, 3, 34, 35, 36, 37, 38, 39, 40, 41, 42, 43, 44, 45, 46, 47, 48, 49, 50, 51, 52] (by decide +kernel) (by decide +kernel)
set_option maxRecDepth 20000 in
theorem gX5_shift_X5_put : GoodIn wsX5_shift (wsV RX5 114 RX5 yX5_put wsX5_put) := goodIn_app (goodIn_of _ (by decide +kernel)) ggX5_shift_X5_put
theorem dX5_shift_0 : decode cX5_shift 0 = .ok (.aload_n 0, 1) := by decide +kernel
theorem dX5_shift_1 : decode cX5_shift 1 = .ok (.iconst 0, 1) := by decide +kernel
theorem dX5_shift_2 : decode cX5_shift 2 = .ok (.putfield 53, 3) := by decide +kernel
theorem dX5_shift_5 : decode cX5_shift 5 = .ok (.aload_n 0, 1) := by decide +kernel
theorem dX5_shift_6 : decode cX5_shift 6 = .ok (.iload_n 1, 1) := by decide +kernel
theorem dX5_shift_7 : decode cX5_shift 7 = .ok (.invokevirtual 105, 3) := by decide +kernel
theorem dX5_shift_10 : decode cX5_shift 10 = .ok (.ifCond .eq 11, 3) := by decide +kernel
theorem dX5_shift_13 : decode cX5_shift 13 = .ok (.aload_n 0, 1) := by decide +kernel
theorem dX5_shift_14 : decode cX5_shift 14 = .ok (.iload_n 2, 1) := by decide +kernel
theorem dX5_shift_15 : decode cX5_shift 15 = .ok (.invokevirtual 105, 3) := by decide +kernel
theorem dX5_shift_18 : decode cX5_shift 18 = .ok (.ifCond .ne 9, 3) := by decide +kernel
theorem dX5_shift_21 : decode cX5_shift 21 = .ok (.aload_n 0, 1) := by decide +kernel
theorem dX5_shift_22 : decode cX5_shift 22 = .ok (.iconst 1, 1) := by decide +kernel
theorem dX5_shift_23 : decode cX5_shift 23 = .ok (.invokevirtual 92, 3) := by decide +kernel
theorem dX5_shift_26 : decode cX5_shift 26 = .ok (.ireturn, 1) := by decide +kernel
theorem dX5_shift_27 : decode cX5_shift 27 = .ok (.iload_n 1, 1) := by decide +kernel
theorem dX5_shift_28 : decode cX5_shift 28 = .ok (.iload_n 2, 1) := by decide +kernel
theorem dX5_shift_29 : decode cX5_shift 29 = .ok (.if_icmp .eq 18, 3) := by decide +kernel
theorem dX5_shift_32 : decode cX5_shift 32 = .ok (.aload_n 0, 1) := by decide +kernel
theorem dX5_shift_33 : decode cX5_shift 33 = .ok (.getfield 13, 3) := by decide +kernel
theorem dX5_shift_36 : decode cX5_shift 36 = .ok (.iload_n 1, 1) := by decide +kernel
theorem dX5_shift_37 : decode cX5_shift 37 = .ok (.iaload, 1) := by decide +kernel
theorem dX5_shift_38 : decode cX5_shift 38 = .ok (.aload_n 0, 1) := by decide +kernel
theorem dX5_shift_39 : decode cX5_shift 39 = .ok (.getfield 13, 3) := by decide +kernel
theorem dX5_shift_42 : decode cX5_shift 42 = .ok (.iload_n 2, 1) := by decide +kernel
theorem dX5_shift_43 : decode cX5_shift 43 = .ok (.iaload, 1) := by decide +kernel
theorem dX5_shift_44 : decode cX5_shift 44 = .ok (.if_icmp .eq 9, 3) := by decide +kernel
theorem dX5_shift_47 : decode cX5_shift 47 = .ok (.aload_n 0, 1) := by decide +kernel
theorem dX5_shift_48 : decode cX5_shift 48 = .ok (.iconst 2, 1) := by decide +kernel
theorem dX5_shift_49 : decode cX5_shift 49 = .ok (.invokevirtual 92, 3) := by decide +kernel
theorem dX5_shift_52 : decode cX5_shift 52 = .ok (.ireturn, 1) := by decide +kernel
theorem dX5_shift_53 : decode cX5_shift 53 = .ok (.iconst 0, 1) := by decide +kernel
theorem dX5_shift_54 : decode cX5_shift 54 = .ok (.istore_n 3, 1) := by decide +kernel
theorem dX5_shift_55 : decode cX5_shift 55 = .ok (.aload_n 0, 1) := by decide +kernel
theorem dX5_shift_56 : decode cX5_shift 56 = .ok (.getfield 23, 3) := by decide +kernel
theorem dX5_shift_59 : decode cX5_shift 59 = .ok (.iload_n 1, 1) := by decide +kernel
theorem dX5_shift_60 : decode cX5_shift 60 = .ok (.iaload, 1) := by decide +kernel
theorem dX5_shift_61 : decode cX5_shift 61 = .ok (.ifCond .le 43, 3) := by decide +kernel
theorem dX5_shift_64 : decode cX5_shift 64 = .ok (.aload_n 0, 1) := by decide +kernel
theorem dX5_shift_65 : decode cX5_shift 65 = .ok (.iload_n 2, 1) := by decide +kernel
theorem dX5_shift_66 : decode cX5_shift 66 = .ok (.invokevirtual 111, 3) := by decide +kernel
theorem dX5_shift_69 : decode cX5_shift 69 = .ok (.ifCond .le 35, 3) := by decide +kernel
theorem dX5_shift_72 : decode cX5_shift 72 = .ok (.aload_n 0, 1) := by decide +kernel
theorem dX5_shift_73 : decode cX5_shift 73 = .ok (.getfield 23, 3) := by decide +kernel
theorem dX5_shift_76 : decode cX5_shift 76 = .ok (.iload_n 1, 1) := by decide +kernel
theorem dX5_shift_77 : decode cX5_shift 77 = .ok (.dup2, 1) := by decide +kernel
theorem dX5_shift_78 : decode cX5_shift 78 = .ok (.iaload, 1) := by decide +kernel
theorem dX5_shift_79 : decode cX5_shift 79 = .ok (.iconst 1, 1) := by decide +kernel
theorem dX5_shift_80 : decode cX5_shift 80 = .ok (.isub, 1) := by decide +kernel
theorem dX5_shift_81 : decode cX5_shift 81 = .ok (.iastore, 1) := by decide +kernel
theorem dX5_shift_82 : decode cX5_shift 82 = .ok (.aload_n 0, 1) := by decide +kernel
theorem dX5_shift_83 : decode cX5_shift 83 = .ok (.iload_n 2, 1) := by decide +kernel
theorem dX5_shift_84 : decode cX5_shift 84 = .ok (.aload_n 0, 1) := by decide +kernel
theorem dX5_shift_85 : decode cX5_shift 85 = .ok (.iload_n 1, 1) := by decide +kernel
theorem dX5_shift_86 : decode cX5_shift 86 = .ok (.aload_n 0, 1) := by decide +kernel
theorem dX5_shift_87 : decode cX5_shift 87 = .ok (.getfield 23, 3) := by decide +kernel
theorem dX5_shift_90 : decode cX5_shift 90 = .ok (.iload_n 1, 1) := by decide +kernel
theorem dX5_shift_91 : decode cX5_shift 91 = .ok (.iaload, 1) := by decide +kernel
theorem dX5_shift_92 : decode cX5_shift 92 = .ok (.invokevirtual 118, 3) := by decide +kernel
theorem dX5_shift_95 : decode cX5_shift 95 = .ok (.invokevirtual 114, 3) := by decide +kernel
theorem dX5_shift_98 : decode cX5_shift 98 = .ok (.iinc 3 1, 3) := by decide +kernel
theorem dX5_shift_101 : decode cX5_shift 101 = .ok (.goto (-46), 3) := by decide +kernel
theorem dX5_shift_104 : decode cX5_shift 104 = .ok (.iload_n 3, 1) := by decide +kernel
theorem dX5_shift_105 : decode cX5_shift 105 = .ok (.ireturn, 1) := by decide +kernel
set_option maxRecDepth 20000 in
theorem ggX5_gather_X5_more : GoodIn wsX5_gather wsX5_more := goodIn_r _ [7, 2, 8, 9, 10, 11, 12, 13, 14, 15, 16, 17, 18, 19, 20, 21, 22, 23, 24, 25, 26] (by decide +kernel) (by decide +kernel)
set_option maxRecDepth 20000 in
theorem gX5_gather_X5_more : GoodIn wsX5_gather (wsV RX5 98 RX5 yX5_more wsX5_more) := goodIn_app (goodIn_of _ (by decide +kernel)) ggX5_gather_X5_more
theorem dX5_gather_0 : decode cX5_gather 0 = .ok (.aload_n 0, 1) := by decide +kernel
theorem dX5_gather_1 : decode cX5_gather 1 = .ok (.iconst 0, 1) := by decide +kernel
theorem dX5_gather_2 : decode cX5_gather 2 = .ok (.putfield 53, 3) := by decide +kernel
theorem dX5_gather_5 : decode cX5_gather 5 = .ok (.iconst 0, 1) := by decide +kernel
theorem dX5_gather_6 : decode cX5_gather 6 = .ok (.istore_n 1, 1) := by decide +kernel
theorem dX5_gather_7 : decode cX5_gather 7 = .ok (.iconst 0, 1) := by decide +kernel
theorem dX5_gather_8 : decode cX5_gather 8 = .ok (.istore_n 2, 1) := by decide +kernel
theorem dX5_gather_9 : decode cX5_gather 9 = .ok (.iload_n 2, 1) := by decide +kernel
theorem dX5_gather_10 : decode cX5_gather 10 = .ok (.iconst 5, 1) := by decide +kernel
theorem dX5_gather_11 : decode cX5_gather 11 = .ok (.if_icmp .ge 39, 3) := by decide +kernel
theorem dX5_gather_14 : decode cX5_gather 14 = .ok (.aload_n 0, 1) := by decide +kernel
theorem dX5_gather_15 : decode cX5_gather 15 = .ok (.getfield 29, 3) := by decide +kernel
theorem dX5_gather_18 : decode cX5_gather 18 = .ok (.iconst 4, 1) := by decide +kernel
theorem dX5_gather_19 : decode cX5_gather 19 = .ok (.iload_n 2, 1) := by decide +kernel
theorem dX5_gather_20 : decode cX5_gather 20 = .ok (.imul, 1) := by decide +kernel
theorem dX5_gather_21 : decode cX5_gather 21 = .ok (.iconst 1, 1) := by decide +kernel
theorem dX5_gather_22 : decode cX5_gather 22 = .ok (.iadd, 1) := by decide +kernel
theorem dX5_gather_23 : decode cX5_gather 23 = .ok (.iaload, 1) := by decide +kernel
theorem dX5_gather_24 : decode cX5_gather 24 = .ok (.istore_n 3, 1) := by decide +kernel
theorem dX5_gather_25 : decode cX5_gather 25 = .ok (.aload_n 0, 1) := by decide +kernel
theorem dX5_gather_26 : decode cX5_gather 26 = .ok (.iload_n 2, 1) := by decide +kernel
theorem dX5_gather_27 : decode cX5_gather 27 = .ok (.iconst 0, 1) := by decide +kernel
theorem dX5_gather_28 : decode cX5_gather 28 = .ok (.iload_n 3, 1) := by decide +kernel
theorem dX5_gather_29 : decode cX5_gather 29 = .ok (.invokevirtual 98, 3) := by decide +kernel
theorem dX5_gather_32 : decode cX5_gather 32 = .ok (.aload_n 0, 1) := by decide +kernel
theorem dX5_gather_33 : decode cX5_gather 33 = .ok (.iload_n 2, 1) := by decide +kernel
theorem dX5_gather_34 : decode cX5_gather 34 = .ok (.iconst 1, 1) := by decide +kernel
theorem dX5_gather_35 : decode cX5_gather 35 = .ok (.iload_n 3, 1) := by decide +kernel
theorem dX5_gather_36 : decode cX5_gather 36 = .ok (.ineg, 1) := by decide +kernel
theorem dX5_gather_37 : decode cX5_gather 37 = .ok (.invokevirtual 98, 3) := by decide +kernel
theorem dX5_gather_40 : decode cX5_gather 40 = .ok (.iload_n 1, 1) := by decide +kernel
theorem dX5_gather_41 : decode cX5_gather 41 = .ok (.iload_n 3, 1) := by decide +kernel
theorem dX5_gather_42 : decode cX5_gather 42 = .ok (.iadd, 1) := by decide +kernel
theorem dX5_gather_43 : decode cX5_gather 43 = .ok (.istore_n 1, 1) := by decide +kernel
theorem dX5_gather_44 : decode cX5_gather 44 = .ok (.iinc 2 1, 3) := by decide +kernel
theorem dX5_gather_47 : decode cX5_gather 47 = .ok (.goto (-38), 3) := by decide +kernel
theorem dX5_gather_50 : decode cX5_gather 50 = .ok (.iload_n 1, 1) := by decide +kernel
theorem dX5_gather_51 : decode cX5_gather 51 = .ok (.ireturn, 1) := by decide +kernel
set_option maxRecDepth 20000 in
theorem ggX5_chase_X5_isIn : GoodIn wsX5_chase wsX5_isIn := goodIn_r _ [7] (by decide +kernel) (by decide +kernel)
set_option maxRecDepth 20000 in
theorem gX5_chase_X5_isIn : GoodIn wsX5_chase (va_wsS RX5 59 yX5_isIn wsX5_isIn) := goodIn_app (goodIn_of _ (by decide +kernel)) ggX5_chase_X5_isIn
set_option maxRecDepth 20000 in
theorem ggX5_chase_X5_fail : GoodIn wsX5_chase wsX5_fail := goodIn_r _ [11, 1, 12, 13, 14, 15, 16, 17, 18, 19, 20, 21, 22, 23, 24, 25, 26, 27, 28, 29, 30] (by decide +kernel) (by decide +kernel)
set_option maxRecDepth 20000 in
theorem gX5_chase_X5_fail : GoodIn wsX5_chase (wsV RX5 92 RX5 yX5_fail wsX5_fail) := goodIn_app (goodIn_of _ (by decide +kernel)) ggX5_chase_X5_fail
theorem dX5_chase_0 : decode cX5_chase 0 = .ok (.aload_n 0, 1) := by decide +kernel
theorem dX5_chase_1 : decode cX5_chase 1 = .ok (.iconst 0, 1) := by decide +kernel
theorem dX5_chase_2 : decode cX5_chase 2 = .ok (.putfield 53, 3) := by decide +kernel
theorem dX5_chase_5 : decode cX5_chase 5 = .ok (.iload_n 1, 1) := by decide +kernel
theorem dX5_chase_6 : decode cX5_chase 6 = .ok (.iconst 0, 1) := by decide +kernel
theorem dX5_chase_7 : decode cX5_chase 7 = .ok (.aload_n 0, 1) := by decide +kernel
theorem dX5_chase_8 : decode cX5_chase 8 = .ok (.getfield 95, 3) := by decide +kernel
theorem dX5_chase_11 : decode cX5_chase 11 = .ok (.iconst 1, 1) := by decide +kernel
theorem dX5_chase_12 : decode cX5_chase 12 = .ok (.isub, 1) := by decide +kernel
theorem dX5_chase_13 : decode cX5_chase 13 = .ok (.invokestatic 59, 3) := by decide +kernel
theorem dX5_chase_16 : decode cX5_chase 16 = .ok (.ifCond .ne 9, 3) := by decide +kernel
theorem dX5_chase_19 : decode cX5_chase 19 = .ok (.aload_n 0, 1) := by decide +kernel
theorem dX5_chase_20 : decode cX5_chase 20 = .ok (.iconst 1, 1) := by decide +kernel
theorem dX5_chase_21 : decode cX5_chase 21 = .ok (.invokevirtual 92, 3) := by decide +kernel
theorem dX5_chase_24 : decode cX5_chase 24 = .ok (.ireturn, 1) := by decide +kernel
theorem dX5_chase_25 : decode cX5_chase 25 = .ok (.aload_n 0, 1) := by decide +kernel
theorem dX5_chase_26 : decode cX5_chase 26 = .ok (.getfield 32, 3) := by decide +kernel
theorem dX5_chase_29 : decode cX5_chase 29 = .ok (.iload_n 1, 1) := by decide +kernel
theorem dX5_chase_30 : decode cX5_chase 30 = .ok (.iaload, 1) := by decide +kernel
theorem dX5_chase_31 : decode cX5_chase 31 = .ok (.istore_n 2, 1) := by decide +kernel
theorem dX5_chase_32 : decode cX5_chase 32 = .ok (.aload_n 0, 1) := by decide +kernel
theorem dX5_chase_33 : decode cX5_chase 33 = .ok (.getfield 32, 3) := by decide +kernel
theorem dX5_chase_36 : decode cX5_chase 36 = .ok (.iload_n 1, 1) := by decide +kernel
theorem dX5_chase_37 : decode cX5_chase 37 = .ok (.iconst (-1), 1) := by decide +kernel
theorem dX5_chase_38 : decode cX5_chase 38 = .ok (.iastore, 1) := by decide +kernel
theorem dX5_chase_39 : decode cX5_chase 39 = .ok (.iload_n 2, 1) := by decide +kernel
theorem dX5_chase_40 : decode cX5_chase 40 = .ok (.ireturn, 1) := by decide +kernel
set_option maxRecDepth 20000 in
theorem ggX5_pileTold_X5_roomOf : GoodIn wsX5_pileTold wsX5_roomOf := goodIn_r _ [11] (by decide +kernel) (by decide +kernel)
set_option maxRecDepth 20000 in
theorem gX5_pileTold_X5_roomOf : GoodIn wsX5_pileTold (va_wsS RX5 69 yX5_roomOf wsX5_roomOf) := goodIn_app (goodIn_of _ (by decide +kernel)) ggX5_pileTold_X5_roomOf
set_option maxRecDepth 20000 in
theorem ggX5_pileTold_X5_layers : GoodIn wsX5_pileTold wsX5_layers := goodIn_r _ [15, 16, 17, 18, 10, 19, 2, 8, 9, 11, 53, 54, 55, 56, 57, 58, 59, 60, 61, 62, 63, 64, 65, 66, 67, 68, 69, 70, 71] (by decide +kernel) (by decide +kernel)
set_option maxRecDepth 20000 in
theorem gX5_pileTold_X5_layers : GoodIn wsX5_pileTold (wsV RX5 129 RX5 yX5_layers wsX5_layers) := goodIn_app (goodIn_of _ (by decide +kernel)) ggX5_pileTold_X5_layers
set_option maxRecDepth 20000 in
theorem ggX5_pileTold_X5_full : GoodIn wsX5_pileTold wsX5_full := goodIn_r _ [23, 2, 3, 16, 17, 18, 10, 19, 8, 9, 11, 53, 54, 55, 56, 57, 58, 59, 60, 61, 62, 63, 64, 65, 66, 67, 68, 69, 70, 71] (by decide +kernel) (by decide +kernel)
set_option maxRecDepth 20000 in
theorem gX5_pileTold_X5_full : GoodIn wsX5_pileTold (wsV RX5 132 RX5 yX5_full wsX5_full) := goodIn_app (goodIn_of _ (by decide +kernel)) ggX5_pileTold_X5_full
set_option maxRecDepth 20000 in
theorem ggX5_pileTold_X5_on : GoodIn wsX5_pileTold wsX5_on := goodIn_r _ [27, 28, 29, 30, 10, 31, 2, 32, 33, 34, 35, 16, 17, 18, 19, 8, 9, 11, 36, 37, 38, 39, 3, 40, 41, 42, 53, 54, 55, 56, 57, 58, 59, 60, 61, 62, 63, 64, 65, 66, 67, 68, 69, 70, 71] (by decide +kernel) (by decide +kernel)
set_option maxRecDepth 20000 in
theorem gX5_pileTold_X5_on : GoodIn wsX5_pileTold (wsV RX5 121 RX5 yX5_on wsX5_on) := goodIn_app (goodIn_of _ (by decide +kernel)) ggX5_pileTold_X5_on
set_option maxRecDepth 20000 in
theorem ggX5_pileTold_X5_rusty : GoodIn wsX5_pileTold wsX5_rusty := goodIn_r _ [46, 3, 47, 48, 49, 50, 10, 51, 52, 53, 54, 55, 56, 57, 58, 59, 60, 61, 62, 63, 64, 65, 66, 67, 68, 69, 70, 71] (by decide +kernel) (by decide +kernel)
set_option maxRecDepth 20000 in
theorem gX5_pileTold_X5_rusty : GoodIn wsX5_pileTold (wsV RX5 134 RX5 yX5_rusty wsX5_rusty) := goodIn_app (goodIn_of _ (by decide +kernel)) ggX5_pileTold_X5_rusty
set_option maxRecDepth 20000 in
theorem ggX5_pileTold_X5_rustOf : GoodIn wsX5_pileTold wsX5_rustOf := goodIn_r _ [51, 52, 53, 54, 55, 56, 57, 58, 59, 60, 61, 62, 63, 64, 65, 66, 67, 68, 69, 70, 71] (by decide +kernel) (by decide +kernel)
set_option maxRecDepth 20000 in
theorem gX5_pileTold_X5_rustOf : GoodIn wsX5_pileTold (wsV RX5 118 RX5 yX5_rustOf wsX5_rustOf) := goodIn_app (goodIn_of _ (by decide +kernel)) ggX5_pileTold_X5_rustOf
theorem dX5_pileTold_0 : decode cX5_pileTold 0 = .ok (.iconst 0, 1) := by decide +kernel
theorem dX5_pileTold_1 : decode cX5_pileTold 1 = .ok (.istore_n 3, 1) := by decide +kernel
theorem dX5_pileTold_2 : decode cX5_pileTold 2 = .ok (.iload_n 2, 1) := by decide +kernel
theorem dX5_pileTold_3 : decode cX5_pileTold 3 = .ok (.tableswitch 178 0 8 #[49, 56, 63, 70, 80, 92, 98, 138, 144], 49) := by decide +kernel
theorem dX5_pileTold_52 : decode cX5_pileTold 52 = .ok (.aload_n 0, 1) := by decide +kernel
theorem dX5_pileTold_53 : decode cX5_pileTold 53 = .ok (.getfield 13, 3) := by decide +kernel
theorem dX5_pileTold_56 : decode cX5_pileTold 56 = .ok (.iload_n 1, 1) := by decide +kernel
theorem dX5_pileTold_57 : decode cX5_pileTold 57 = .ok (.iaload, 1) := by decide +kernel
theorem dX5_pileTold_58 : decode cX5_pileTold 58 = .ok (.ireturn, 1) := by decide +kernel
theorem dX5_pileTold_59 : decode cX5_pileTold 59 = .ok (.aload_n 0, 1) := by decide +kernel
theorem dX5_pileTold_60 : decode cX5_pileTold 60 = .ok (.getfield 17, 3) := by decide +kernel
theorem dX5_pileTold_63 : decode cX5_pileTold 63 = .ok (.iload_n 1, 1) := by decide +kernel
theorem dX5_pileTold_64 : decode cX5_pileTold 64 = .ok (.iaload, 1) := by decide +kernel
theorem dX5_pileTold_65 : decode cX5_pileTold 65 = .ok (.ireturn, 1) := by decide +kernel
theorem dX5_pileTold_66 : decode cX5_pileTold 66 = .ok (.aload_n 0, 1) := by decide +kernel
theorem dX5_pileTold_67 : decode cX5_pileTold 67 = .ok (.getfield 23, 3) := by decide +kernel
theorem dX5_pileTold_70 : decode cX5_pileTold 70 = .ok (.iload_n 1, 1) := by decide +kernel
theorem dX5_pileTold_71 : decode cX5_pileTold 71 = .ok (.iaload, 1) := by decide +kernel
theorem dX5_pileTold_72 : decode cX5_pileTold 72 = .ok (.ireturn, 1) := by decide +kernel
theorem dX5_pileTold_73 : decode cX5_pileTold 73 = .ok (.aload_n 0, 1) := by decide +kernel
theorem dX5_pileTold_74 : decode cX5_pileTold 74 = .ok (.getfield 17, 3) := by decide +kernel
theorem dX5_pileTold_77 : decode cX5_pileTold 77 = .ok (.iload_n 1, 1) := by decide +kernel
theorem dX5_pileTold_78 : decode cX5_pileTold 78 = .ok (.iaload, 1) := by decide +kernel
theorem dX5_pileTold_79 : decode cX5_pileTold 79 = .ok (.invokestatic 69, 3) := by decide +kernel
theorem dX5_pileTold_82 : decode cX5_pileTold 82 = .ok (.ireturn, 1) := by decide +kernel
theorem dX5_pileTold_83 : decode cX5_pileTold 83 = .ok (.aload_n 0, 1) := by decide +kernel
theorem dX5_pileTold_84 : decode cX5_pileTold 84 = .ok (.iload_n 1, 1) := by decide +kernel
theorem dX5_pileTold_85 : decode cX5_pileTold 85 = .ok (.aload_n 0, 1) := by decide +kernel
theorem dX5_pileTold_86 : decode cX5_pileTold 86 = .ok (.getfield 23, 3) := by decide +kernel
theorem dX5_pileTold_89 : decode cX5_pileTold 89 = .ok (.iload_n 1, 1) := by decide +kernel
theorem dX5_pileTold_90 : decode cX5_pileTold 90 = .ok (.iaload, 1) := by decide +kernel
theorem dX5_pileTold_91 : decode cX5_pileTold 91 = .ok (.invokevirtual 129, 3) := by decide +kernel
theorem dX5_pileTold_94 : decode cX5_pileTold 94 = .ok (.ireturn, 1) := by decide +kernel
theorem dX5_pileTold_95 : decode cX5_pileTold 95 = .ok (.aload_n 0, 1) := by decide +kernel
theorem dX5_pileTold_96 : decode cX5_pileTold 96 = .ok (.iload_n 1, 1) := by decide +kernel
theorem dX5_pileTold_97 : decode cX5_pileTold 97 = .ok (.invokevirtual 132, 3) := by decide +kernel
theorem dX5_pileTold_100 : decode cX5_pileTold 100 = .ok (.ireturn, 1) := by decide +kernel
theorem dX5_pileTold_101 : decode cX5_pileTold 101 = .ok (.iconst 0, 1) := by decide +kernel
theorem dX5_pileTold_102 : decode cX5_pileTold 102 = .ok (.istore 4, 2) := by decide +kernel
theorem dX5_pileTold_104 : decode cX5_pileTold 104 = .ok (.iload 4, 2) := by decide +kernel
theorem dX5_pileTold_106 : decode cX5_pileTold 106 = .ok (.aload_n 0, 1) := by decide +kernel
theorem dX5_pileTold_107 : decode cX5_pileTold 107 = .ok (.getfield 23, 3) := by decide +kernel
theorem dX5_pileTold_110 : decode cX5_pileTold 110 = .ok (.iload_n 1, 1) := by decide +kernel
theorem dX5_pileTold_111 : decode cX5_pileTold 111 = .ok (.iaload, 1) := by decide +kernel
theorem dX5_pileTold_112 : decode cX5_pileTold 112 = .ok (.if_icmp .ge 27, 3) := by decide +kernel
theorem dX5_pileTold_115 : decode cX5_pileTold 115 = .ok (.iload_n 3, 1) := by decide +kernel
theorem dX5_pileTold_116 : decode cX5_pileTold 116 = .ok (.aload_n 0, 1) := by decide +kernel
theorem dX5_pileTold_117 : decode cX5_pileTold 117 = .ok (.iload_n 1, 1) := by decide +kernel
theorem dX5_pileTold_118 : decode cX5_pileTold 118 = .ok (.iload 4, 2) := by decide +kernel
theorem dX5_pileTold_120 : decode cX5_pileTold 120 = .ok (.invokevirtual 121, 3) := by decide +kernel
theorem dX5_pileTold_123 : decode cX5_pileTold 123 = .ok (.ifCond .ne 7, 3) := by decide +kernel
theorem dX5_pileTold_126 : decode cX5_pileTold 126 = .ok (.iconst 1, 1) := by decide +kernel
theorem dX5_pileTold_127 : decode cX5_pileTold 127 = .ok (.goto 4, 3) := by decide +kernel
theorem dX5_pileTold_130 : decode cX5_pileTold 130 = .ok (.iconst 0, 1) := by decide +kernel
theorem dX5_pileTold_131 : decode cX5_pileTold 131 = .ok (.iadd, 1) := by decide +kernel
theorem dX5_pileTold_132 : decode cX5_pileTold 132 = .ok (.istore_n 3, 1) := by decide +kernel
theorem dX5_pileTold_133 : decode cX5_pileTold 133 = .ok (.iinc 4 1, 3) := by decide +kernel
theorem dX5_pileTold_136 : decode cX5_pileTold 136 = .ok (.goto (-32), 3) := by decide +kernel
theorem dX5_pileTold_139 : decode cX5_pileTold 139 = .ok (.iload_n 3, 1) := by decide +kernel
theorem dX5_pileTold_140 : decode cX5_pileTold 140 = .ok (.ireturn, 1) := by decide +kernel
theorem dX5_pileTold_141 : decode cX5_pileTold 141 = .ok (.aload_n 0, 1) := by decide +kernel
theorem dX5_pileTold_142 : decode cX5_pileTold 142 = .ok (.iload_n 1, 1) := by decide +kernel
theorem dX5_pileTold_143 : decode cX5_pileTold 143 = .ok (.invokevirtual 134, 3) := by decide +kernel
theorem dX5_pileTold_146 : decode cX5_pileTold 146 = .ok (.ireturn, 1) := by decide +kernel
theorem dX5_pileTold_147 : decode cX5_pileTold 147 = .ok (.iconst 0, 1) := by decide +kernel
theorem dX5_pileTold_148 : decode cX5_pileTold 148 = .ok (.istore 4, 2) := by decide +kernel
theorem dX5_pileTold_150 : decode cX5_pileTold 150 = .ok (.iload 4, 2) := by decide +kernel
theorem dX5_pileTold_152 : decode cX5_pileTold 152 = .ok (.aload_n 0, 1) := by decide +kernel
theorem dX5_pileTold_153 : decode cX5_pileTold 153 = .ok (.getfield 23, 3) := by decide +kernel
theorem dX5_pileTold_156 : decode cX5_pileTold 156 = .ok (.iload_n 1, 1) := by decide +kernel
theorem dX5_pileTold_157 : decode cX5_pileTold 157 = .ok (.iaload, 1) := by decide +kernel
theorem dX5_pileTold_158 : decode cX5_pileTold 158 = .ok (.if_icmp .ge 21, 3) := by decide +kernel
theorem dX5_pileTold_161 : decode cX5_pileTold 161 = .ok (.iload_n 3, 1) := by decide +kernel
theorem dX5_pileTold_162 : decode cX5_pileTold 162 = .ok (.aload_n 0, 1) := by decide +kernel
theorem dX5_pileTold_163 : decode cX5_pileTold 163 = .ok (.iload_n 1, 1) := by decide +kernel
theorem dX5_pileTold_164 : decode cX5_pileTold 164 = .ok (.iload 4, 2) := by decide +kernel
theorem dX5_pileTold_166 : decode cX5_pileTold 166 = .ok (.invokevirtual 118, 3) := by decide +kernel
theorem dX5_pileTold_169 : decode cX5_pileTold 169 = .ok (.invokestatic 137, 3) := by decide +kernel
theorem dX5_pileTold_172 : decode cX5_pileTold 172 = .ok (.istore_n 3, 1) := by decide +kernel
theorem dX5_pileTold_173 : decode cX5_pileTold 173 = .ok (.iinc 4 1, 3) := by decide +kernel
theorem dX5_pileTold_176 : decode cX5_pileTold 176 = .ok (.goto (-26), 3) := by decide +kernel
theorem dX5_pileTold_179 : decode cX5_pileTold 179 = .ok (.iload_n 3, 1) := by decide +kernel
theorem dX5_pileTold_180 : decode cX5_pileTold 180 = .ok (.ireturn, 1) := by decide +kernel
theorem dX5_pileTold_181 : decode cX5_pileTold 181 = .ok (.iconst 0, 1) := by decide +kernel
theorem dX5_pileTold_182 : decode cX5_pileTold 182 = .ok (.istore 4, 2) := by decide +kernel
theorem dX5_pileTold_184 : decode cX5_pileTold 184 = .ok (.iload 4, 2) := by decide +kernel
theorem dX5_pileTold_186 : decode cX5_pileTold 186 = .ok (.aload_n 0, 1) := by decide +kernel
theorem dX5_pileTold_187 : decode cX5_pileTold 187 = .ok (.getfield 23, 3) := by decide +kernel
theorem dX5_pileTold_190 : decode cX5_pileTold 190 = .ok (.iload_n 1, 1) := by decide +kernel
theorem dX5_pileTold_191 : decode cX5_pileTold 191 = .ok (.iaload, 1) := by decide +kernel
theorem dX5_pileTold_192 : decode cX5_pileTold 192 = .ok (.if_icmp .ge 19, 3) := by decide +kernel
theorem dX5_pileTold_195 : decode cX5_pileTold 195 = .ok (.iload_n 3, 1) := by decide +kernel
theorem dX5_pileTold_196 : decode cX5_pileTold 196 = .ok (.aload_n 0, 1) := by decide +kernel
theorem dX5_pileTold_197 : decode cX5_pileTold 197 = .ok (.iload_n 1, 1) := by decide +kernel
theorem dX5_pileTold_198 : decode cX5_pileTold 198 = .ok (.iload 4, 2) := by decide +kernel
theorem dX5_pileTold_200 : decode cX5_pileTold 200 = .ok (.invokevirtual 118, 3) := by decide +kernel
theorem dX5_pileTold_203 : decode cX5_pileTold 203 = .ok (.iadd, 1) := by decide +kernel
theorem dX5_pileTold_204 : decode cX5_pileTold 204 = .ok (.istore_n 3, 1) := by decide +kernel
theorem dX5_pileTold_205 : decode cX5_pileTold 205 = .ok (.iinc 4 1, 3) := by decide +kernel
theorem dX5_pileTold_208 : decode cX5_pileTold 208 = .ok (.goto (-24), 3) := by decide +kernel
theorem dX5_pileTold_211 : decode cX5_pileTold 211 = .ok (.iload_n 3, 1) := by decide +kernel
theorem dX5_pileTold_212 : decode cX5_pileTold 212 = .ok (.ireturn, 1) := by decide +kernel
set_option maxRecDepth 20000 in
theorem ggX5_about_X5_isPile : GoodIn wsX5_about wsX5_isPile := goodIn_r _ [6, 7, 8, 9, 5, 10, 67, 68, 69, 70, 71, 72, 73, 74, 75, 76, 77, 78, 79, 80, 81, 82, 83, 84, 85] (by decide +kernel) (by decide +kernel)
set_option maxRecDepth 20000 in
theorem gX5_about_X5_isPile : GoodIn wsX5_about (wsV RX5 105 RX5 yX5_isPile wsX5_isPile) := goodIn_app (goodIn_of _ (by decide +kernel)) ggX5_about_X5_isPile
set_option maxRecDepth 20000 in
theorem ggX5_about_X5_isIn : GoodIn wsX5_about wsX5_isIn := goodIn_r _ [10] (by decide +kernel) (by decide +kernel)
set_option maxRecDepth 20000 in
theorem gX5_about_X5_isIn : GoodIn wsX5_about (va_wsS RX5 59 yX5_isIn wsX5_isIn) := goodIn_app (goodIn_of _ (by decide +kernel)) ggX5_about_X5_isIn
set_option maxRecDepth 20000 in
theorem ggX5_about_X5_pileTold : GoodIn wsX5_about wsX5_pileTold := goodIn_r _ [14, 15, 16, 17, 18, 19, 20, 21, 22, 23, 5, 24, 25, 26, 27, 28, 29, 30, 31, 32, 33, 34, 35, 36, 37, 38, 39, 40, 41, 42, 43, 44, 45, 46, 47, 48, 49, 50, 51, 52, 8, 9, 10, 53, 54, 55, 56, 57, 58, 59, 60, 61, 62, 67, 68, 69, 70, 71, 72, 73, 74, 75, 76, 77, 78, 79, 80, 81, 82, 83, 84, 85] (by decide +kernel) (by decide +kernel)
set_option maxRecDepth 20000 in
theorem gX5_about_X5_pileTold : GoodIn wsX5_about (wsV RX5 140 RX5 yX5_pileTold wsX5_pileTold) := goodIn_app (goodIn_of _ (by decide +kernel)) ggX5_about_X5_pileTold
set_option maxRecDepth 20000 in
theorem ggX5_about_X5_fail : GoodIn wsX5_about wsX5_fail := goodIn_r _ [66, 1, 67, 68, 69, 70, 71, 72, 73, 74, 75, 76, 77, 78, 79, 80, 81, 82, 83, 84, 85] (by decide +kernel) (by decide +kernel)
set_option maxRecDepth 20000 in
theorem gX5_about_X5_fail : GoodIn wsX5_about (wsV RX5 92 RX5 yX5_fail wsX5_fail) := goodIn_app (goodIn_of _ (by decide +kernel)) ggX5_about_X5_fail
theorem dX5_about_0 : decode cX5_about 0 = .ok (.aload_n 0, 1) := by decide +kernel
theorem dX5_about_1 : decode cX5_about 1 = .ok (.iconst 0, 1) := by decide +kernel
theorem dX5_about_2 : decode cX5_about 2 = .ok (.putfield 53, 3) := by decide +kernel
theorem dX5_about_5 : decode cX5_about 5 = .ok (.aload_n 0, 1) := by decide +kernel
theorem dX5_about_6 : decode cX5_about 6 = .ok (.iload_n 1, 1) := by decide +kernel
theorem dX5_about_7 : decode cX5_about 7 = .ok (.invokevirtual 105, 3) := by decide +kernel
theorem dX5_about_10 : decode cX5_about 10 = .ok (.ifCond .eq 22, 3) := by decide +kernel
theorem dX5_about_13 : decode cX5_about 13 = .ok (.iload_n 2, 1) := by decide +kernel
theorem dX5_about_14 : decode cX5_about 14 = .ok (.iconst 0, 1) := by decide +kernel
theorem dX5_about_15 : decode cX5_about 15 = .ok (.bipush 9, 2) := by decide +kernel
theorem dX5_about_17 : decode cX5_about 17 = .ok (.invokestatic 59, 3) := by decide +kernel
theorem dX5_about_20 : decode cX5_about 20 = .ok (.ifCond .eq 12, 3) := by decide +kernel
theorem dX5_about_23 : decode cX5_about 23 = .ok (.aload_n 0, 1) := by decide +kernel
theorem dX5_about_24 : decode cX5_about 24 = .ok (.iload_n 1, 1) := by decide +kernel
theorem dX5_about_25 : decode cX5_about 25 = .ok (.iload_n 2, 1) := by decide +kernel
theorem dX5_about_26 : decode cX5_about 26 = .ok (.invokevirtual 140, 3) := by decide +kernel
theorem dX5_about_29 : decode cX5_about 29 = .ok (.goto 8, 3) := by decide +kernel
theorem dX5_about_32 : decode cX5_about 32 = .ok (.aload_n 0, 1) := by decide +kernel
theorem dX5_about_33 : decode cX5_about 33 = .ok (.iconst 1, 1) := by decide +kernel
theorem dX5_about_34 : decode cX5_about 34 = .ok (.invokevirtual 92, 3) := by decide +kernel
theorem dX5_about_37 : decode cX5_about 37 = .ok (.ireturn, 1) := by decide +kernel
set_option maxRecDepth 20000 in
theorem ggX5_ball_X5_isPile : GoodIn wsX5_ball wsX5_isPile := goodIn_r _ [11, 12, 13, 14, 10, 15, 49, 50, 51, 52, 53, 54, 55, 56, 57, 58, 59, 60, 61, 62, 63, 64, 65, 66, 67] (by decide +kernel) (by decide +kernel)
set_option maxRecDepth 20000 in
theorem gX5_ball_X5_isPile : GoodIn wsX5_ball (wsV RX5 105 RX5 yX5_isPile wsX5_isPile) := goodIn_app (goodIn_of _ (by decide +kernel)) ggX5_ball_X5_isPile
set_option maxRecDepth 20000 in
theorem ggX5_ball_X5_isIn : GoodIn wsX5_ball wsX5_isIn := goodIn_r _ [15] (by decide +kernel) (by decide +kernel)
set_option maxRecDepth 20000 in
theorem gX5_ball_X5_isIn : GoodIn wsX5_ball (va_wsS RX5 59 yX5_isIn wsX5_isIn) := goodIn_app (goodIn_of _ (by decide +kernel)) ggX5_ball_X5_isIn
set_option maxRecDepth 20000 in
theorem ggX5_ball_X5_fail : GoodIn wsX5_ball wsX5_fail := goodIn_r _ [19, 1, 49, 50, 51, 52, 53, 54, 55, 56, 57, 58, 59, 60, 61, 62, 63, 64, 65, 66, 67] (by decide +kernel) (by decide +kernel)
set_option maxRecDepth 20000 in
theorem gX5_ball_X5_fail : GoodIn wsX5_ball (wsV RX5 92 RX5 yX5_fail wsX5_fail) := goodIn_app (goodIn_of _ (by decide +kernel)) ggX5_ball_X5_fail
set_option maxRecDepth 20000 in
theorem ggX5_ball_X5_rustOf : GoodIn wsX5_ball wsX5_rustOf := goodIn_r _ [23, 24, 49, 50, 51, 52, 53, 54, 55, 56, 57, 58, 59, 60, 61, 62, 63, 64, 65, 66, 67] (by decide +kernel) (by decide +kernel)
set_option maxRecDepth 20000 in
theorem gX5_ball_X5_rustOf : GoodIn wsX5_ball (wsV RX5 118 RX5 yX5_rustOf wsX5_rustOf) := goodIn_app (goodIn_of _ (by decide +kernel)) ggX5_ball_X5_rustOf
set_option maxRecDepth 20000 in
theorem ggX5_ball_X5_lies : GoodIn wsX5_ball wsX5_lies := goodIn_r _ [28, 29, 30, 31, 32, 10, 33, 34, 35, 36, 37, 38, 39, 40, 49, 50, 51, 52, 53, 54, 55, 56, 57, 58, 59, 60, 61, 62, 63, 64, 65, 66, 67] (by decide +kernel) (by decide +kernel)
set_option maxRecDepth 20000 in
theorem gX5_ball_X5_lies : GoodIn wsX5_ball (wsV RX5 80 RX5 yX5_lies wsX5_lies) := goodIn_app (goodIn_of _ (by decide +kernel)) ggX5_ball_X5_lies
set_option maxRecDepth 20000 in
theorem ggX5_ball_X5_on : GoodIn wsX5_ball wsX5_on := goodIn_r _ [44, 25, 26, 27, 10, 28, 29, 30, 31, 32, 33, 34, 35, 36, 37, 38, 39, 40, 45, 46, 47, 48, 2, 13, 14, 15, 49, 50, 51, 52, 53, 54, 55, 56, 57, 58, 59, 60, 61, 62, 63, 64, 65, 66, 67] (by decide +kernel) (by decide +kernel)
set_option maxRecDepth 20000 in
theorem gX5_ball_X5_on : GoodIn wsX5_ball (wsV RX5 121 RX5 yX5_on wsX5_on) := goodIn_app (goodIn_of _ (by decide +kernel)) ggX5_ball_X5_on
theorem dX5_ball_0 : decode cX5_ball 0 = .ok (.aload_n 0, 1) := by decide +kernel
theorem dX5_ball_1 : decode cX5_ball 1 = .ok (.iconst 0, 1) := by decide +kernel
theorem dX5_ball_2 : decode cX5_ball 2 = .ok (.putfield 53, 3) := by decide +kernel
theorem dX5_ball_5 : decode cX5_ball 5 = .ok (.aload_n 0, 1) := by decide +kernel
theorem dX5_ball_6 : decode cX5_ball 6 = .ok (.iload_n 1, 1) := by decide +kernel
theorem dX5_ball_7 : decode cX5_ball 7 = .ok (.invokevirtual 105, 3) := by decide +kernel
theorem dX5_ball_10 : decode cX5_ball 10 = .ok (.ifCond .eq 28, 3) := by decide +kernel
theorem dX5_ball_13 : decode cX5_ball 13 = .ok (.iload_n 2, 1) := by decide +kernel
theorem dX5_ball_14 : decode cX5_ball 14 = .ok (.iconst 0, 1) := by decide +kernel
theorem dX5_ball_15 : decode cX5_ball 15 = .ok (.aload_n 0, 1) := by decide +kernel
theorem dX5_ball_16 : decode cX5_ball 16 = .ok (.getfield 23, 3) := by decide +kernel
theorem dX5_ball_19 : decode cX5_ball 19 = .ok (.iload_n 1, 1) := by decide +kernel
theorem dX5_ball_20 : decode cX5_ball 20 = .ok (.iaload, 1) := by decide +kernel
theorem dX5_ball_21 : decode cX5_ball 21 = .ok (.iconst 1, 1) := by decide +kernel
theorem dX5_ball_22 : decode cX5_ball 22 = .ok (.isub, 1) := by decide +kernel
theorem dX5_ball_23 : decode cX5_ball 23 = .ok (.invokestatic 59, 3) := by decide +kernel
theorem dX5_ball_26 : decode cX5_ball 26 = .ok (.ifCond .eq 12, 3) := by decide +kernel
theorem dX5_ball_29 : decode cX5_ball 29 = .ok (.iload_n 3, 1) := by decide +kernel
theorem dX5_ball_30 : decode cX5_ball 30 = .ok (.iconst 0, 1) := by decide +kernel
theorem dX5_ball_31 : decode cX5_ball 31 = .ok (.iconst 5, 1) := by decide +kernel
theorem dX5_ball_32 : decode cX5_ball 32 = .ok (.invokestatic 59, 3) := by decide +kernel
theorem dX5_ball_35 : decode cX5_ball 35 = .ok (.ifCond .ne 9, 3) := by decide +kernel
theorem dX5_ball_38 : decode cX5_ball 38 = .ok (.aload_n 0, 1) := by decide +kernel
theorem dX5_ball_39 : decode cX5_ball 39 = .ok (.iconst 1, 1) := by decide +kernel
theorem dX5_ball_40 : decode cX5_ball 40 = .ok (.invokevirtual 92, 3) := by decide +kernel
theorem dX5_ball_43 : decode cX5_ball 43 = .ok (.ireturn, 1) := by decide +kernel
theorem dX5_ball_44 : decode cX5_ball 44 = .ok (.iload_n 3, 1) := by decide +kernel
theorem dX5_ball_45 : decode cX5_ball 45 = .ok (.ifCond .ne 12, 3) := by decide +kernel
theorem dX5_ball_48 : decode cX5_ball 48 = .ok (.aload_n 0, 1) := by decide +kernel
theorem dX5_ball_49 : decode cX5_ball 49 = .ok (.iload_n 1, 1) := by decide +kernel
theorem dX5_ball_50 : decode cX5_ball 50 = .ok (.iload_n 2, 1) := by decide +kernel
theorem dX5_ball_51 : decode cX5_ball 51 = .ok (.invokevirtual 118, 3) := by decide +kernel
theorem dX5_ball_54 : decode cX5_ball 54 = .ok (.goto 44, 3) := by decide +kernel
theorem dX5_ball_57 : decode cX5_ball 57 = .ok (.iload_n 3, 1) := by decide +kernel
theorem dX5_ball_58 : decode cX5_ball 58 = .ok (.iconst 4, 1) := by decide +kernel
theorem dX5_ball_59 : decode cX5_ball 59 = .ok (.if_icmp .ge 15, 3) := by decide +kernel
theorem dX5_ball_62 : decode cX5_ball 62 = .ok (.aload_n 0, 1) := by decide +kernel
theorem dX5_ball_63 : decode cX5_ball 63 = .ok (.iload_n 1, 1) := by decide +kernel
theorem dX5_ball_64 : decode cX5_ball 64 = .ok (.iload_n 2, 1) := by decide +kernel
theorem dX5_ball_65 : decode cX5_ball 65 = .ok (.iload_n 3, 1) := by decide +kernel
theorem dX5_ball_66 : decode cX5_ball 66 = .ok (.iconst 1, 1) := by decide +kernel
theorem dX5_ball_67 : decode cX5_ball 67 = .ok (.isub, 1) := by decide +kernel
theorem dX5_ball_68 : decode cX5_ball 68 = .ok (.invokevirtual 80, 3) := by decide +kernel
theorem dX5_ball_71 : decode cX5_ball 71 = .ok (.goto 27, 3) := by decide +kernel
theorem dX5_ball_74 : decode cX5_ball 74 = .ok (.iload_n 3, 1) := by decide +kernel
theorem dX5_ball_75 : decode cX5_ball 75 = .ok (.iconst 4, 1) := by decide +kernel
theorem dX5_ball_76 : decode cX5_ball 76 = .ok (.if_icmp .ne 16, 3) := by decide +kernel
theorem dX5_ball_79 : decode cX5_ball 79 = .ok (.iconst 1, 1) := by decide +kernel
theorem dX5_ball_80 : decode cX5_ball 80 = .ok (.aload_n 0, 1) := by decide +kernel
theorem dX5_ball_81 : decode cX5_ball 81 = .ok (.iload_n 1, 1) := by decide +kernel
theorem dX5_ball_82 : decode cX5_ball 82 = .ok (.iload_n 2, 1) := by decide +kernel
theorem dX5_ball_83 : decode cX5_ball 83 = .ok (.invokevirtual 121, 3) := by decide +kernel
theorem dX5_ball_86 : decode cX5_ball 86 = .ok (.invokestatic 124, 3) := by decide +kernel
theorem dX5_ball_89 : decode cX5_ball 89 = .ok (.goto 9, 3) := by decide +kernel
theorem dX5_ball_92 : decode cX5_ball 92 = .ok (.aload_n 0, 1) := by decide +kernel
theorem dX5_ball_93 : decode cX5_ball 93 = .ok (.iload_n 1, 1) := by decide +kernel
theorem dX5_ball_94 : decode cX5_ball 94 = .ok (.iload_n 2, 1) := by decide +kernel
theorem dX5_ball_95 : decode cX5_ball 95 = .ok (.invokevirtual 121, 3) := by decide +kernel
theorem dX5_ball_98 : decode cX5_ball 98 = .ok (.ireturn, 1) := by decide +kernel
set_option maxRecDepth 20000 in
theorem ggX5_at_X5_isPile : GoodIn wsX5_at wsX5_isPile := goodIn_r _ [7, 8, 9, 10, 6, 11, 28, 29, 30, 31, 32, 33, 34, 35, 36, 37, 38, 39, 40, 41, 42, 43, 44, 45, 46] (by decide +kernel) (by decide +kernel)
set_option maxRecDepth 20000 in
theorem gX5_at_X5_isPile : GoodIn wsX5_at (wsV RX5 105 RX5 yX5_isPile wsX5_isPile) := goodIn_app (goodIn_of _ (by decide +kernel)) ggX5_at_X5_isPile
set_option maxRecDepth 20000 in
theorem ggX5_at_X5_isIn : GoodIn wsX5_at wsX5_isIn := goodIn_r _ [11] (by decide +kernel) (by decide +kernel)
set_option maxRecDepth 20000 in
theorem gX5_at_X5_isIn : GoodIn wsX5_at (va_wsS RX5 59 yX5_isIn wsX5_isIn) := goodIn_app (goodIn_of _ (by decide +kernel)) ggX5_at_X5_isIn
set_option maxRecDepth 20000 in
theorem ggX5_at_X5_fail : GoodIn wsX5_at wsX5_fail := goodIn_r _ [15, 1, 28, 29, 30, 31, 32, 33, 34, 35, 36, 37, 38, 39, 40, 41, 42, 43, 44, 45, 46] (by decide +kernel) (by decide +kernel)
set_option maxRecDepth 20000 in
theorem gX5_at_X5_fail : GoodIn wsX5_at (wsV RX5 92 RX5 yX5_fail wsX5_fail) := goodIn_app (goodIn_of _ (by decide +kernel)) ggX5_at_X5_fail
set_option maxRecDepth 20000 in
theorem ggX5_at_X5_ballAt : GoodIn wsX5_at wsX5_ballAt := goodIn_r _ [19, 2, 20, 9, 10, 6, 11, 21, 22, 23, 24, 25, 26, 27, 28, 29, 30, 31, 32, 33, 34, 35, 36, 37, 38, 39, 40, 41, 42, 43, 44, 45, 46] (by decide +kernel) (by decide +kernel)
set_option maxRecDepth 20000 in
theorem gX5_at_X5_ballAt : GoodIn wsX5_at (wsV RX5 84 RX5 yX5_ballAt wsX5_ballAt) := goodIn_app (goodIn_of _ (by decide +kernel)) ggX5_at_X5_ballAt
theorem dX5_at_0 : decode cX5_at 0 = .ok (.aload_n 0, 1) := by decide +kernel
theorem dX5_at_1 : decode cX5_at 1 = .ok (.iconst 0, 1) := by decide +kernel
theorem dX5_at_2 : decode cX5_at 2 = .ok (.putfield 53, 3) := by decide +kernel
theorem dX5_at_5 : decode cX5_at 5 = .ok (.aload_n 0, 1) := by decide +kernel
theorem dX5_at_6 : decode cX5_at 6 = .ok (.iload_n 1, 1) := by decide +kernel
theorem dX5_at_7 : decode cX5_at 7 = .ok (.invokevirtual 105, 3) := by decide +kernel
theorem dX5_at_10 : decode cX5_at 10 = .ok (.ifCond .eq 19, 3) := by decide +kernel
theorem dX5_at_13 : decode cX5_at 13 = .ok (.iload_n 2, 1) := by decide +kernel
theorem dX5_at_14 : decode cX5_at 14 = .ok (.iconst 0, 1) := by decide +kernel
theorem dX5_at_15 : decode cX5_at 15 = .ok (.aload_n 0, 1) := by decide +kernel
theorem dX5_at_16 : decode cX5_at 16 = .ok (.getfield 17, 3) := by decide +kernel
theorem dX5_at_19 : decode cX5_at 19 = .ok (.iload_n 1, 1) := by decide +kernel
theorem dX5_at_20 : decode cX5_at 20 = .ok (.iaload, 1) := by decide +kernel
theorem dX5_at_21 : decode cX5_at 21 = .ok (.iconst 1, 1) := by decide +kernel
theorem dX5_at_22 : decode cX5_at 22 = .ok (.isub, 1) := by decide +kernel
theorem dX5_at_23 : decode cX5_at 23 = .ok (.invokestatic 59, 3) := by decide +kernel
theorem dX5_at_26 : decode cX5_at 26 = .ok (.ifCond .ne 9, 3) := by decide +kernel
theorem dX5_at_29 : decode cX5_at 29 = .ok (.aload_n 0, 1) := by decide +kernel
theorem dX5_at_30 : decode cX5_at 30 = .ok (.iconst 1, 1) := by decide +kernel
theorem dX5_at_31 : decode cX5_at 31 = .ok (.invokevirtual 92, 3) := by decide +kernel
theorem dX5_at_34 : decode cX5_at 34 = .ok (.ireturn, 1) := by decide +kernel
theorem dX5_at_35 : decode cX5_at 35 = .ok (.aload_n 0, 1) := by decide +kernel
theorem dX5_at_36 : decode cX5_at 36 = .ok (.getfield 17, 3) := by decide +kernel
theorem dX5_at_39 : decode cX5_at 39 = .ok (.iload_n 1, 1) := by decide +kernel
theorem dX5_at_40 : decode cX5_at 40 = .ok (.iaload, 1) := by decide +kernel
theorem dX5_at_41 : decode cX5_at 41 = .ok (.iload_n 2, 1) := by decide +kernel
theorem dX5_at_42 : decode cX5_at 42 = .ok (.isub, 1) := by decide +kernel
theorem dX5_at_43 : decode cX5_at 43 = .ok (.istore 5, 2) := by decide +kernel
theorem dX5_at_45 : decode cX5_at 45 = .ok (.iload_n 3, 1) := by decide +kernel
theorem dX5_at_46 : decode cX5_at 46 = .ok (.iconst 0, 1) := by decide +kernel
theorem dX5_at_47 : decode cX5_at 47 = .ok (.iload 5, 2) := by decide +kernel
theorem dX5_at_49 : decode cX5_at 49 = .ok (.iconst 1, 1) := by decide +kernel
theorem dX5_at_50 : decode cX5_at 50 = .ok (.isub, 1) := by decide +kernel
theorem dX5_at_51 : decode cX5_at 51 = .ok (.invokestatic 59, 3) := by decide +kernel
theorem dX5_at_54 : decode cX5_at 54 = .ok (.ifCond .eq 28, 3) := by decide +kernel
theorem dX5_at_57 : decode cX5_at 57 = .ok (.iload 4, 2) := by decide +kernel
theorem dX5_at_59 : decode cX5_at 59 = .ok (.iconst 0, 1) := by decide +kernel
theorem dX5_at_60 : decode cX5_at 60 = .ok (.iload 5, 2) := by decide +kernel
theorem dX5_at_62 : decode cX5_at 62 = .ok (.iconst 1, 1) := by decide +kernel
theorem dX5_at_63 : decode cX5_at 63 = .ok (.isub, 1) := by decide +kernel
theorem dX5_at_64 : decode cX5_at 64 = .ok (.invokestatic 59, 3) := by decide +kernel
theorem dX5_at_67 : decode cX5_at 67 = .ok (.ifCond .eq 15, 3) := by decide +kernel
theorem dX5_at_70 : decode cX5_at 70 = .ok (.aload_n 0, 1) := by decide +kernel
theorem dX5_at_71 : decode cX5_at 71 = .ok (.iload_n 1, 1) := by decide +kernel
theorem dX5_at_72 : decode cX5_at 72 = .ok (.iload_n 2, 1) := by decide +kernel
theorem dX5_at_73 : decode cX5_at 73 = .ok (.iload_n 3, 1) := by decide +kernel
theorem dX5_at_74 : decode cX5_at 74 = .ok (.iload 4, 2) := by decide +kernel
theorem dX5_at_76 : decode cX5_at 76 = .ok (.invokevirtual 84, 3) := by decide +kernel
theorem dX5_at_79 : decode cX5_at 79 = .ok (.goto 8, 3) := by decide +kernel
theorem dX5_at_82 : decode cX5_at 82 = .ok (.aload_n 0, 1) := by decide +kernel
theorem dX5_at_83 : decode cX5_at 83 = .ok (.iconst 1, 1) := by decide +kernel
theorem dX5_at_84 : decode cX5_at 84 = .ok (.invokevirtual 92, 3) := by decide +kernel
theorem dX5_at_87 : decode cX5_at 87 = .ok (.ireturn, 1) := by decide +kernel
theorem dX5_inPiles_0 : decode cX5_inPiles 0 = .ok (.iconst 0, 1) := by decide +kernel
theorem dX5_inPiles_1 : decode cX5_inPiles 1 = .ok (.istore_n 2, 1) := by decide +kernel
theorem dX5_inPiles_2 : decode cX5_inPiles 2 = .ok (.iconst 0, 1) := by decide +kernel
theorem dX5_inPiles_3 : decode cX5_inPiles 3 = .ok (.istore_n 3, 1) := by decide +kernel
theorem dX5_inPiles_4 : decode cX5_inPiles 4 = .ok (.iload_n 3, 1) := by decide +kernel
theorem dX5_inPiles_5 : decode cX5_inPiles 5 = .ok (.aload_n 0, 1) := by decide +kernel
theorem dX5_inPiles_6 : decode cX5_inPiles 6 = .ok (.getfield 56, 3) := by decide +kernel
theorem dX5_inPiles_9 : decode cX5_inPiles 9 = .ok (.if_icmp .ge 32, 3) := by decide +kernel
theorem dX5_inPiles_12 : decode cX5_inPiles 12 = .ok (.iload_n 2, 1) := by decide +kernel
theorem dX5_inPiles_13 : decode cX5_inPiles 13 = .ok (.aload_n 0, 1) := by decide +kernel
theorem dX5_inPiles_14 : decode cX5_inPiles 14 = .ok (.getfield 13, 3) := by decide +kernel
theorem dX5_inPiles_17 : decode cX5_inPiles 17 = .ok (.iload_n 3, 1) := by decide +kernel
theorem dX5_inPiles_18 : decode cX5_inPiles 18 = .ok (.iaload, 1) := by decide +kernel
theorem dX5_inPiles_19 : decode cX5_inPiles 19 = .ok (.iload_n 1, 1) := by decide +kernel
theorem dX5_inPiles_20 : decode cX5_inPiles 20 = .ok (.if_icmp .ne 12, 3) := by decide +kernel
theorem dX5_inPiles_23 : decode cX5_inPiles 23 = .ok (.aload_n 0, 1) := by decide +kernel
theorem dX5_inPiles_24 : decode cX5_inPiles 24 = .ok (.getfield 23, 3) := by decide +kernel
theorem dX5_inPiles_27 : decode cX5_inPiles 27 = .ok (.iload_n 3, 1) := by decide +kernel
theorem dX5_inPiles_28 : decode cX5_inPiles 28 = .ok (.iaload, 1) := by decide +kernel
theorem dX5_inPiles_29 : decode cX5_inPiles 29 = .ok (.goto 4, 3) := by decide +kernel
theorem dX5_inPiles_32 : decode cX5_inPiles 32 = .ok (.iconst 0, 1) := by decide +kernel
theorem dX5_inPiles_33 : decode cX5_inPiles 33 = .ok (.iadd, 1) := by decide +kernel
theorem dX5_inPiles_34 : decode cX5_inPiles 34 = .ok (.istore_n 2, 1) := by decide +kernel
theorem dX5_inPiles_35 : decode cX5_inPiles 35 = .ok (.iinc 3 1, 3) := by decide +kernel
theorem dX5_inPiles_38 : decode cX5_inPiles 38 = .ok (.goto (-34), 3) := by decide +kernel
theorem dX5_inPiles_41 : decode cX5_inPiles 41 = .ok (.iload_n 2, 1) := by decide +kernel
theorem dX5_inPiles_42 : decode cX5_inPiles 42 = .ok (.ireturn, 1) := by decide +kernel
set_option maxRecDepth 20000 in
theorem ggX5_calibreTold_X5_inPiles : GoodIn wsX5_calibreTold wsX5_inPiles := goodIn_r _ [6, 7, 8, 9, 10, 11, 12, 13, 14, 15, 16, 17, 18, 19, 20, 21, 22, 23, 24, 25, 26, 27, 28] (by decide +kernel) (by decide +kernel)
set_option maxRecDepth 20000 in
theorem gX5_calibreTold_X5_inPiles : GoodIn wsX5_calibreTold (wsV RX5 143 RX5 yX5_inPiles wsX5_inPiles) := goodIn_app (goodIn_of _ (by decide +kernel)) ggX5_calibreTold_X5_inPiles
theorem dX5_calibreTold_0 : decode cX5_calibreTold 0 = .ok (.iload_n 2, 1) := by decide +kernel
theorem dX5_calibreTold_1 : decode cX5_calibreTold 1 = .ok (.iconst 2, 1) := by decide +kernel
theorem dX5_calibreTold_2 : decode cX5_calibreTold 2 = .ok (.if_icmp .ne 11, 3) := by decide +kernel
theorem dX5_calibreTold_5 : decode cX5_calibreTold 5 = .ok (.aload_n 0, 1) := by decide +kernel
theorem dX5_calibreTold_6 : decode cX5_calibreTold 6 = .ok (.iload_n 1, 1) := by decide +kernel
theorem dX5_calibreTold_7 : decode cX5_calibreTold 7 = .ok (.invokevirtual 143, 3) := by decide +kernel
theorem dX5_calibreTold_10 : decode cX5_calibreTold 10 = .ok (.goto 24, 3) := by decide +kernel
theorem dX5_calibreTold_13 : decode cX5_calibreTold 13 = .ok (.aload_n 0, 1) := by decide +kernel
theorem dX5_calibreTold_14 : decode cX5_calibreTold 14 = .ok (.getfield 29, 3) := by decide +kernel
theorem dX5_calibreTold_17 : decode cX5_calibreTold 17 = .ok (.iconst 4, 1) := by decide +kernel
theorem dX5_calibreTold_18 : decode cX5_calibreTold 18 = .ok (.iload_n 1, 1) := by decide +kernel
theorem dX5_calibreTold_19 : decode cX5_calibreTold 19 = .ok (.imul, 1) := by decide +kernel
theorem dX5_calibreTold_20 : decode cX5_calibreTold 20 = .ok (.iload_n 2, 1) := by decide +kernel
theorem dX5_calibreTold_21 : decode cX5_calibreTold 21 = .ok (.iconst 2, 1) := by decide +kernel
theorem dX5_calibreTold_22 : decode cX5_calibreTold 22 = .ok (.if_icmp .ge 7, 3) := by decide +kernel
theorem dX5_calibreTold_25 : decode cX5_calibreTold 25 = .ok (.iload_n 2, 1) := by decide +kernel
theorem dX5_calibreTold_26 : decode cX5_calibreTold 26 = .ok (.goto 6, 3) := by decide +kernel
theorem dX5_calibreTold_29 : decode cX5_calibreTold 29 = .ok (.iload_n 2, 1) := by decide +kernel
theorem dX5_calibreTold_30 : decode cX5_calibreTold 30 = .ok (.iconst 1, 1) := by decide +kernel
theorem dX5_calibreTold_31 : decode cX5_calibreTold 31 = .ok (.isub, 1) := by decide +kernel
theorem dX5_calibreTold_32 : decode cX5_calibreTold 32 = .ok (.iadd, 1) := by decide +kernel
theorem dX5_calibreTold_33 : decode cX5_calibreTold 33 = .ok (.iaload, 1) := by decide +kernel
theorem dX5_calibreTold_34 : decode cX5_calibreTold 34 = .ok (.ireturn, 1) := by decide +kernel
set_option maxRecDepth 20000 in
theorem ggX5_told_X5_isCalibre : GoodIn wsX5_told wsX5_isCalibre := goodIn_r _ [5, 6, 7, 4, 8] (by decide +kernel) (by decide +kernel)
set_option maxRecDepth 20000 in
theorem gX5_told_X5_isCalibre : GoodIn wsX5_told (va_wsS RX5 88 yX5_isCalibre wsX5_isCalibre) := goodIn_app (goodIn_of _ (by decide +kernel)) ggX5_told_X5_isCalibre
set_option maxRecDepth 20000 in
theorem ggX5_told_X5_isIn : GoodIn wsX5_told wsX5_isIn := goodIn_r _ [8] (by decide +kernel) (by decide +kernel)
set_option maxRecDepth 20000 in
theorem gX5_told_X5_isIn : GoodIn wsX5_told (va_wsS RX5 59 yX5_isIn wsX5_isIn) := goodIn_app (goodIn_of _ (by decide +kernel)) ggX5_told_X5_isIn
set_option maxRecDepth 20000 in
theorem ggX5_told_X5_calibreTold : GoodIn wsX5_told wsX5_calibreTold := goodIn_r _ [12, 13, 14, 15, 16, 4, 17, 18, 19, 20, 25, 26, 27, 28, 29, 30, 31, 32, 33, 34, 35, 36, 37, 38, 39, 40, 41, 42, 43] (by decide +kernel) (by decide +kernel)
set_option maxRecDepth 20000 in
theorem gX5_told_X5_calibreTold : GoodIn wsX5_told (wsV RX5 146 RX5 yX5_calibreTold wsX5_calibreTold) := goodIn_app (goodIn_of _ (by decide +kernel)) ggX5_told_X5_calibreTold
set_option maxRecDepth 20000 in
theorem ggX5_told_X5_fail : GoodIn wsX5_told wsX5_fail := goodIn_r _ [24, 1, 25, 26, 27, 28, 29, 30, 31, 32, 33, 34, 35, 36, 37, 38, 39, 40, 41, 42, 43] (by decide +kernel) (by decide +kernel)
set_option maxRecDepth 20000 in
theorem gX5_told_X5_fail : GoodIn wsX5_told (wsV RX5 92 RX5 yX5_fail wsX5_fail) := goodIn_app (goodIn_of _ (by decide +kernel)) ggX5_told_X5_fail
theorem dX5_told_0 : decode cX5_told 0 = .ok (.aload_n 0, 1) := by decide +kernel
theorem dX5_told_1 : decode cX5_told 1 = .ok (.iconst 0, 1) := by decide +kernel
theorem dX5_told_2 : decode cX5_told 2 = .ok (.putfield 53, 3) := by decide +kernel
theorem dX5_told_5 : decode cX5_told 5 = .ok (.iload_n 1, 1) := by decide +kernel
theorem dX5_told_6 : decode cX5_told 6 = .ok (.invokestatic 88, 3) := by decide +kernel
theorem dX5_told_9 : decode cX5_told 9 = .ok (.ifCond .eq 21, 3) := by decide +kernel
theorem dX5_told_12 : decode cX5_told 12 = .ok (.iload_n 2, 1) := by decide +kernel
theorem dX5_told_13 : decode cX5_told 13 = .ok (.iconst 0, 1) := by decide +kernel
theorem dX5_told_14 : decode cX5_told 14 = .ok (.iconst 4, 1) := by decide +kernel
theorem dX5_told_15 : decode cX5_told 15 = .ok (.invokestatic 59, 3) := by decide +kernel
theorem dX5_told_18 : decode cX5_told 18 = .ok (.ifCond .eq 12, 3) := by decide +kernel
theorem dX5_told_21 : decode cX5_told 21 = .ok (.aload_n 0, 1) := by decide +kernel
theorem dX5_told_22 : decode cX5_told 22 = .ok (.iload_n 1, 1) := by decide +kernel
theorem dX5_told_23 : decode cX5_told 23 = .ok (.iload_n 2, 1) := by decide +kernel
theorem dX5_told_24 : decode cX5_told 24 = .ok (.invokevirtual 146, 3) := by decide +kernel
theorem dX5_told_27 : decode cX5_told 27 = .ok (.goto 8, 3) := by decide +kernel
theorem dX5_told_30 : decode cX5_told 30 = .ok (.aload_n 0, 1) := by decide +kernel
theorem dX5_told_31 : decode cX5_told 31 = .ok (.iconst 1, 1) := by decide +kernel
theorem dX5_told_32 : decode cX5_told 32 = .ok (.invokevirtual 92, 3) := by decide +kernel
theorem dX5_told_35 : decode cX5_told 35 = .ok (.ireturn, 1) := by decide +kernel
theorem dX5_catTold_0 : decode cX5_catTold 0 = .ok (.iload_n 2, 1) := by decide +kernel
theorem dX5_catTold_1 : decode cX5_catTold 1 = .ok (.ifCond .ne 12, 3) := by decide +kernel
theorem dX5_catTold_4 : decode cX5_catTold 4 = .ok (.aload_n 0, 1) := by decide +kernel
theorem dX5_catTold_5 : decode cX5_catTold 5 = .ok (.getfield 20, 3) := by decide +kernel
theorem dX5_catTold_8 : decode cX5_catTold 8 = .ok (.iload_n 1, 1) := by decide +kernel
theorem dX5_catTold_9 : decode cX5_catTold 9 = .ok (.iaload, 1) := by decide +kernel
theorem dX5_catTold_10 : decode cX5_catTold 10 = .ok (.goto 23, 3) := by decide +kernel
theorem dX5_catTold_13 : decode cX5_catTold 13 = .ok (.iload_n 2, 1) := by decide +kernel
theorem dX5_catTold_14 : decode cX5_catTold 14 = .ok (.iconst 1, 1) := by decide +kernel
theorem dX5_catTold_15 : decode cX5_catTold 15 = .ok (.if_icmp .ne 12, 3) := by decide +kernel
theorem dX5_catTold_18 : decode cX5_catTold 18 = .ok (.aload_n 0, 1) := by decide +kernel
theorem dX5_catTold_19 : decode cX5_catTold 19 = .ok (.getfield 32, 3) := by decide +kernel
theorem dX5_catTold_22 : decode cX5_catTold 22 = .ok (.iload_n 1, 1) := by decide +kernel
theorem dX5_catTold_23 : decode cX5_catTold 23 = .ok (.iaload, 1) := by decide +kernel
theorem dX5_catTold_24 : decode cX5_catTold 24 = .ok (.goto 9, 3) := by decide +kernel
theorem dX5_catTold_27 : decode cX5_catTold 27 = .ok (.aload_n 0, 1) := by decide +kernel
theorem dX5_catTold_28 : decode cX5_catTold 28 = .ok (.getfield 35, 3) := by decide +kernel
theorem dX5_catTold_31 : decode cX5_catTold 31 = .ok (.iload_n 1, 1) := by decide +kernel
theorem dX5_catTold_32 : decode cX5_catTold 32 = .ok (.iaload, 1) := by decide +kernel
theorem dX5_catTold_33 : decode cX5_catTold 33 = .ok (.ireturn, 1) := by decide +kernel
set_option maxRecDepth 20000 in
theorem ggX5_mouser_X5_isIn : GoodIn wsX5_mouser wsX5_isIn := goodIn_r _ [6] (by decide +kernel) (by decide +kernel)
set_option maxRecDepth 20000 in
theorem gX5_mouser_X5_isIn : GoodIn wsX5_mouser (va_wsS RX5 59 yX5_isIn wsX5_isIn) := goodIn_app (goodIn_of _ (by decide +kernel)) ggX5_mouser_X5_isIn
set_option maxRecDepth 20000 in
theorem ggX5_mouser_X5_catTold : GoodIn wsX5_mouser wsX5_catTold := goodIn_r _ [10, 11, 12, 13, 18, 19, 20, 21, 22, 23, 24, 25, 26, 27, 28, 29, 30, 31, 32, 33, 34, 35, 36] (by decide +kernel) (by decide +kernel)
set_option maxRecDepth 20000 in
theorem gX5_mouser_X5_catTold : GoodIn wsX5_mouser (wsV RX5 149 RX5 yX5_catTold wsX5_catTold) := goodIn_app (goodIn_of _ (by decide +kernel)) ggX5_mouser_X5_catTold
set_option maxRecDepth 20000 in
theorem ggX5_mouser_X5_fail : GoodIn wsX5_mouser wsX5_fail := goodIn_r _ [17, 1, 18, 19, 20, 21, 22, 23, 24, 25, 26, 27, 28, 29, 30, 31, 32, 33, 34, 35, 36] (by decide +kernel) (by decide +kernel)
set_option maxRecDepth 20000 in
theorem gX5_mouser_X5_fail : GoodIn wsX5_mouser (wsV RX5 92 RX5 yX5_fail wsX5_fail) := goodIn_app (goodIn_of _ (by decide +kernel)) ggX5_mouser_X5_fail
theorem dX5_mouser_0 : decode cX5_mouser 0 = .ok (.aload_n 0, 1) := by decide +kernel
theorem dX5_mouser_1 : decode cX5_mouser 1 = .ok (.iconst 0, 1) := by decide +kernel
theorem dX5_mouser_2 : decode cX5_mouser 2 = .ok (.putfield 53, 3) := by decide +kernel
theorem dX5_mouser_5 : decode cX5_mouser 5 = .ok (.iload_n 1, 1) := by decide +kernel
theorem dX5_mouser_6 : decode cX5_mouser 6 = .ok (.iconst 0, 1) := by decide +kernel
theorem dX5_mouser_7 : decode cX5_mouser 7 = .ok (.aload_n 0, 1) := by decide +kernel
theorem dX5_mouser_8 : decode cX5_mouser 8 = .ok (.getfield 95, 3) := by decide +kernel
theorem dX5_mouser_11 : decode cX5_mouser 11 = .ok (.iconst 1, 1) := by decide +kernel
theorem dX5_mouser_12 : decode cX5_mouser 12 = .ok (.isub, 1) := by decide +kernel
theorem dX5_mouser_13 : decode cX5_mouser 13 = .ok (.invokestatic 59, 3) := by decide +kernel
theorem dX5_mouser_16 : decode cX5_mouser 16 = .ok (.ifCond .eq 21, 3) := by decide +kernel
theorem dX5_mouser_19 : decode cX5_mouser 19 = .ok (.iload_n 2, 1) := by decide +kernel
theorem dX5_mouser_20 : decode cX5_mouser 20 = .ok (.iconst 0, 1) := by decide +kernel
theorem dX5_mouser_21 : decode cX5_mouser 21 = .ok (.iconst 2, 1) := by decide +kernel
theorem dX5_mouser_22 : decode cX5_mouser 22 = .ok (.invokestatic 59, 3) := by decide +kernel
theorem dX5_mouser_25 : decode cX5_mouser 25 = .ok (.ifCond .eq 12, 3) := by decide +kernel
theorem dX5_mouser_28 : decode cX5_mouser 28 = .ok (.aload_n 0, 1) := by decide +kernel
theorem dX5_mouser_29 : decode cX5_mouser 29 = .ok (.iload_n 1, 1) := by decide +kernel
theorem dX5_mouser_30 : decode cX5_mouser 30 = .ok (.iload_n 2, 1) := by decide +kernel
theorem dX5_mouser_31 : decode cX5_mouser 31 = .ok (.invokevirtual 149, 3) := by decide +kernel
theorem dX5_mouser_34 : decode cX5_mouser 34 = .ok (.goto 8, 3) := by decide +kernel
theorem dX5_mouser_37 : decode cX5_mouser 37 = .ok (.aload_n 0, 1) := by decide +kernel
theorem dX5_mouser_38 : decode cX5_mouser 38 = .ok (.iconst 1, 1) := by decide +kernel
theorem dX5_mouser_39 : decode cX5_mouser 39 = .ok (.invokevirtual 92, 3) := by decide +kernel
theorem dX5_mouser_42 : decode cX5_mouser 42 = .ok (.ireturn, 1) := by decide +kernel
set_option maxRecDepth 20000 in
theorem ggX5_all_X5_calibreTold : GoodIn wsX5_all wsX5_calibreTold := goodIn_r _ [5, 6, 7, 8, 9, 4, 10, 11, 12, 13, 14, 15, 16, 17, 18, 19, 20, 21, 22, 23, 24, 25, 26, 27, 28, 29, 30, 31, 32] (by decide +kernel) (by decide +kernel)
set_option maxRecDepth 20000 in
theorem gX5_all_X5_calibreTold : GoodIn wsX5_all (wsV RX5 146 RX5 yX5_calibreTold wsX5_calibreTold) := goodIn_app (goodIn_of _ (by decide +kernel)) ggX5_all_X5_calibreTold
theorem dX5_all_0 : decode cX5_all 0 = .ok (.iconst 0, 1) := by decide +kernel
theorem dX5_all_1 : decode cX5_all 1 = .ok (.istore_n 2, 1) := by decide +kernel
theorem dX5_all_2 : decode cX5_all 2 = .ok (.iconst 0, 1) := by decide +kernel
theorem dX5_all_3 : decode cX5_all 3 = .ok (.istore_n 3, 1) := by decide +kernel
theorem dX5_all_4 : decode cX5_all 4 = .ok (.iload_n 3, 1) := by decide +kernel
theorem dX5_all_5 : decode cX5_all 5 = .ok (.iconst 5, 1) := by decide +kernel
theorem dX5_all_6 : decode cX5_all 6 = .ok (.if_icmp .ge 18, 3) := by decide +kernel
theorem dX5_all_9 : decode cX5_all 9 = .ok (.iload_n 2, 1) := by decide +kernel
theorem dX5_all_10 : decode cX5_all 10 = .ok (.aload_n 0, 1) := by decide +kernel
theorem dX5_all_11 : decode cX5_all 11 = .ok (.iload_n 3, 1) := by decide +kernel
theorem dX5_all_12 : decode cX5_all 12 = .ok (.iload_n 1, 1) := by decide +kernel
theorem dX5_all_13 : decode cX5_all 13 = .ok (.invokevirtual 146, 3) := by decide +kernel
theorem dX5_all_16 : decode cX5_all 16 = .ok (.iadd, 1) := by decide +kernel
theorem dX5_all_17 : decode cX5_all 17 = .ok (.istore_n 2, 1) := by decide +kernel
theorem dX5_all_18 : decode cX5_all 18 = .ok (.iinc 3 1, 3) := by decide +kernel
theorem dX5_all_21 : decode cX5_all 21 = .ok (.goto (-17), 3) := by decide +kernel
theorem dX5_all_24 : decode cX5_all 24 = .ok (.iload_n 2, 1) := by decide +kernel
theorem dX5_all_25 : decode cX5_all 25 = .ok (.ireturn, 1) := by decide +kernel
set_option maxRecDepth 20000 in
theorem ggX5_counted_X5_all : GoodIn wsX5_counted wsX5_all := goodIn_r _ [10, 11, 12, 13, 9, 14, 15, 16, 17, 18, 19, 2, 20, 21, 31, 32, 33, 34, 35, 36, 37, 38, 39, 40, 41, 42, 43, 44, 45, 46, 47, 48, 49] (by decide +kernel) (by decide +kernel)
set_option maxRecDepth 20000 in
theorem gX5_counted_X5_all : GoodIn wsX5_counted (wsV RX5 155 RX5 yX5_all wsX5_all) := goodIn_app (goodIn_of _ (by decide +kernel)) ggX5_counted_X5_all
set_option maxRecDepth 20000 in
theorem ggX5_counted_X5_rusty : GoodIn wsX5_counted wsX5_rusty := goodIn_r _ [25, 21, 5, 26, 27, 28, 9, 29, 30, 31, 32, 33, 34, 35, 36, 37, 38, 39, 40, 41, 42, 43, 44, 45, 46, 47, 48, 49] (by decide +kernel) (by decide +kernel)
set_option maxRecDepth 20000 in
theorem gX5_counted_X5_rusty : GoodIn wsX5_counted (wsV RX5 134 RX5 yX5_rusty wsX5_rusty) := goodIn_app (goodIn_of _ (by decide +kernel)) ggX5_counted_X5_rusty
theorem dX5_counted_0 : decode cX5_counted 0 = .ok (.iconst 0, 1) := by decide +kernel
theorem dX5_counted_1 : decode cX5_counted 1 = .ok (.istore_n 2, 1) := by decide +kernel
theorem dX5_counted_2 : decode cX5_counted 2 = .ok (.iload_n 1, 1) := by decide +kernel
theorem dX5_counted_3 : decode cX5_counted 3 = .ok (.tableswitch 129 0 9 #[53, 58, 63, 68, 74, 80, 86, 112, 118, 124], 53) := by decide +kernel
theorem dX5_counted_56 : decode cX5_counted 56 = .ok (.aload_n 0, 1) := by decide +kernel
theorem dX5_counted_57 : decode cX5_counted 57 = .ok (.getfield 152, 3) := by decide +kernel
theorem dX5_counted_60 : decode cX5_counted 60 = .ok (.ireturn, 1) := by decide +kernel
theorem dX5_counted_61 : decode cX5_counted 61 = .ok (.aload_n 0, 1) := by decide +kernel
theorem dX5_counted_62 : decode cX5_counted 62 = .ok (.getfield 56, 3) := by decide +kernel
theorem dX5_counted_65 : decode cX5_counted 65 = .ok (.ireturn, 1) := by decide +kernel
theorem dX5_counted_66 : decode cX5_counted 66 = .ok (.aload_n 0, 1) := by decide +kernel
theorem dX5_counted_67 : decode cX5_counted 67 = .ok (.getfield 95, 3) := by decide +kernel
theorem dX5_counted_70 : decode cX5_counted 70 = .ok (.ireturn, 1) := by decide +kernel
theorem dX5_counted_71 : decode cX5_counted 71 = .ok (.aload_n 0, 1) := by decide +kernel
theorem dX5_counted_72 : decode cX5_counted 72 = .ok (.iconst 0, 1) := by decide +kernel
theorem dX5_counted_73 : decode cX5_counted 73 = .ok (.invokevirtual 155, 3) := by decide +kernel
theorem dX5_counted_76 : decode cX5_counted 76 = .ok (.ireturn, 1) := by decide +kernel
theorem dX5_counted_77 : decode cX5_counted 77 = .ok (.aload_n 0, 1) := by decide +kernel
theorem dX5_counted_78 : decode cX5_counted 78 = .ok (.iconst 1, 1) := by decide +kernel
theorem dX5_counted_79 : decode cX5_counted 79 = .ok (.invokevirtual 155, 3) := by decide +kernel
theorem dX5_counted_82 : decode cX5_counted 82 = .ok (.ireturn, 1) := by decide +kernel
theorem dX5_counted_83 : decode cX5_counted 83 = .ok (.aload_n 0, 1) := by decide +kernel
theorem dX5_counted_84 : decode cX5_counted 84 = .ok (.iconst 2, 1) := by decide +kernel
theorem dX5_counted_85 : decode cX5_counted 85 = .ok (.invokevirtual 155, 3) := by decide +kernel
theorem dX5_counted_88 : decode cX5_counted 88 = .ok (.ireturn, 1) := by decide +kernel
theorem dX5_counted_89 : decode cX5_counted 89 = .ok (.iconst 0, 1) := by decide +kernel
theorem dX5_counted_90 : decode cX5_counted 90 = .ok (.istore_n 3, 1) := by decide +kernel
theorem dX5_counted_91 : decode cX5_counted 91 = .ok (.iload_n 3, 1) := by decide +kernel
theorem dX5_counted_92 : decode cX5_counted 92 = .ok (.aload_n 0, 1) := by decide +kernel
theorem dX5_counted_93 : decode cX5_counted 93 = .ok (.getfield 56, 3) := by decide +kernel
theorem dX5_counted_96 : decode cX5_counted 96 = .ok (.if_icmp .ge 17, 3) := by decide +kernel
theorem dX5_counted_99 : decode cX5_counted 99 = .ok (.iload_n 2, 1) := by decide +kernel
theorem dX5_counted_100 : decode cX5_counted 100 = .ok (.aload_n 0, 1) := by decide +kernel
theorem dX5_counted_101 : decode cX5_counted 101 = .ok (.iload_n 3, 1) := by decide +kernel
theorem dX5_counted_102 : decode cX5_counted 102 = .ok (.invokevirtual 134, 3) := by decide +kernel
theorem dX5_counted_105 : decode cX5_counted 105 = .ok (.iadd, 1) := by decide +kernel
theorem dX5_counted_106 : decode cX5_counted 106 = .ok (.istore_n 2, 1) := by decide +kernel
theorem dX5_counted_107 : decode cX5_counted 107 = .ok (.iinc 3 1, 3) := by decide +kernel
theorem dX5_counted_110 : decode cX5_counted 110 = .ok (.goto (-19), 3) := by decide +kernel
theorem dX5_counted_113 : decode cX5_counted 113 = .ok (.iload_n 2, 1) := by decide +kernel
theorem dX5_counted_114 : decode cX5_counted 114 = .ok (.ireturn, 1) := by decide +kernel
theorem dX5_counted_115 : decode cX5_counted 115 = .ok (.aload_n 0, 1) := by decide +kernel
theorem dX5_counted_116 : decode cX5_counted 116 = .ok (.iconst 3, 1) := by decide +kernel
theorem dX5_counted_117 : decode cX5_counted 117 = .ok (.invokevirtual 155, 3) := by decide +kernel
theorem dX5_counted_120 : decode cX5_counted 120 = .ok (.ireturn, 1) := by decide +kernel
theorem dX5_counted_121 : decode cX5_counted 121 = .ok (.aload_n 0, 1) := by decide +kernel
theorem dX5_counted_122 : decode cX5_counted 122 = .ok (.iconst 4, 1) := by decide +kernel
theorem dX5_counted_123 : decode cX5_counted 123 = .ok (.invokevirtual 155, 3) := by decide +kernel
theorem dX5_counted_126 : decode cX5_counted 126 = .ok (.ireturn, 1) := by decide +kernel
theorem dX5_counted_127 : decode cX5_counted 127 = .ok (.aload_n 0, 1) := by decide +kernel
theorem dX5_counted_128 : decode cX5_counted 128 = .ok (.getfield 102, 3) := by decide +kernel
theorem dX5_counted_131 : decode cX5_counted 131 = .ok (.ireturn, 1) := by decide +kernel
theorem dX5_counted_132 : decode cX5_counted 132 = .ok (.aload_n 0, 1) := by decide +kernel
theorem dX5_counted_133 : decode cX5_counted 133 = .ok (.getfield 7, 3) := by decide +kernel
theorem dX5_counted_136 : decode cX5_counted 136 = .ok (.ireturn, 1) := by decide +kernel
set_option maxRecDepth 20000 in
theorem ggX5_count_X5_isIn : GoodIn wsX5_count wsX5_isIn := goodIn_r _ [5] (by decide +kernel) (by decide +kernel)
set_option maxRecDepth 20000 in
theorem gX5_count_X5_isIn : GoodIn wsX5_count (va_wsS RX5 59 yX5_isIn wsX5_isIn) := goodIn_app (goodIn_of _ (by decide +kernel)) ggX5_count_X5_isIn
set_option maxRecDepth 20000 in
theorem ggX5_count_X5_counted : GoodIn wsX5_count wsX5_counted := goodIn_r _ [9, 10, 11, 12, 13, 14, 15, 16, 17, 4, 18, 19, 20, 21, 22, 23, 24, 25, 26, 27, 28, 29, 30, 31, 32, 33, 34, 35, 36, 37, 38, 43, 44, 45, 46, 47, 48, 49, 50, 51, 52, 53, 54, 55, 56, 57, 58, 59, 60, 61] (by decide +kernel) (by decide +kernel)
set_option maxRecDepth 20000 in
theorem gX5_count_X5_counted : GoodIn wsX5_count (wsV RX5 158 RX5 yX5_counted wsX5_counted) := goodIn_app (goodIn_of _ (by decide +kernel)) ggX5_count_X5_counted
set_option maxRecDepth 20000 in
theorem ggX5_count_X5_fail : GoodIn wsX5_count wsX5_fail := goodIn_r _ [42, 1, 43, 44, 45, 46, 47, 48, 49, 50, 51, 52, 53, 54, 55, 56, 57, 58, 59, 60, 61] (by decide +kernel) (by decide +kernel)
set_option maxRecDepth 20000 in
theorem gX5_count_X5_fail : GoodIn wsX5_count (wsV RX5 92 RX5 yX5_fail wsX5_fail) := goodIn_app (goodIn_of _ (by decide +kernel)) ggX5_count_X5_fail
theorem dX5_count_0 : decode cX5_count 0 = .ok (.aload_n 0, 1) := by decide +kernel
theorem dX5_count_1 : decode cX5_count 1 = .ok (.iconst 0, 1) := by decide +kernel
theorem dX5_count_2 : decode cX5_count 2 = .ok (.putfield 53, 3) := by decide +kernel
theorem dX5_count_5 : decode cX5_count 5 = .ok (.iload_n 1, 1) := by decide +kernel
theorem dX5_count_6 : decode cX5_count 6 = .ok (.iconst 0, 1) := by decide +kernel
theorem dX5_count_7 : decode cX5_count 7 = .ok (.bipush 10, 2) := by decide +kernel
theorem dX5_count_9 : decode cX5_count 9 = .ok (.invokestatic 59, 3) := by decide +kernel
theorem dX5_count_12 : decode cX5_count 12 = .ok (.ifCond .eq 11, 3) := by decide +kernel
theorem dX5_count_15 : decode cX5_count 15 = .ok (.aload_n 0, 1) := by decide +kernel
theorem dX5_count_16 : decode cX5_count 16 = .ok (.iload_n 1, 1) := by decide +kernel
theorem dX5_count_17 : decode cX5_count 17 = .ok (.invokevirtual 158, 3) := by decide +kernel
theorem dX5_count_20 : decode cX5_count 20 = .ok (.goto 8, 3) := by decide +kernel
theorem dX5_count_23 : decode cX5_count 23 = .ok (.aload_n 0, 1) := by decide +kernel
theorem dX5_count_24 : decode cX5_count 24 = .ok (.iconst 1, 1) := by decide +kernel
theorem dX5_count_25 : decode cX5_count 25 = .ok (.invokevirtual 92, 3) := by decide +kernel
theorem dX5_count_28 : decode cX5_count 28 = .ok (.ireturn, 1) := by decide +kernel
set_option maxRecDepth 20000 in
theorem ggX5_room__X5_isIn : GoodIn wsX5_room_ wsX5_isIn := goodIn_r _ [5] (by decide +kernel) (by decide +kernel)
set_option maxRecDepth 20000 in
theorem gX5_room__X5_isIn : GoodIn wsX5_room_ (va_wsS RX5 59 yX5_isIn wsX5_isIn) := goodIn_app (goodIn_of _ (by decide +kernel)) ggX5_room__X5_isIn
set_option maxRecDepth 20000 in
theorem ggX5_room__X5_roomOf : GoodIn wsX5_room_ wsX5_roomOf := goodIn_r _ [8] (by decide +kernel) (by decide +kernel)
set_option maxRecDepth 20000 in
theorem gX5_room__X5_roomOf : GoodIn wsX5_room_ (va_wsS RX5 69 yX5_roomOf wsX5_roomOf) := goodIn_app (goodIn_of _ (by decide +kernel)) ggX5_room__X5_roomOf
set_option maxRecDepth 20000 in
theorem ggX5_room__X5_fail : GoodIn wsX5_room_ wsX5_fail := goodIn_r _ [12, 1, 13, 14, 15, 16, 17, 18, 19, 20, 21, 22, 23, 24, 25, 26, 27, 28, 29, 30, 31] (by decide +kernel) (by decide +kernel)
set_option maxRecDepth 20000 in
theorem gX5_room__X5_fail : GoodIn wsX5_room_ (wsV RX5 92 RX5 yX5_fail wsX5_fail) := goodIn_app (goodIn_of _ (by decide +kernel)) ggX5_room__X5_fail
theorem dX5_room__0 : decode cX5_room_ 0 = .ok (.aload_n 0, 1) := by decide +kernel
theorem dX5_room__1 : decode cX5_room_ 1 = .ok (.iconst 0, 1) := by decide +kernel
theorem dX5_room__2 : decode cX5_room_ 2 = .ok (.putfield 53, 3) := by decide +kernel
theorem dX5_room__5 : decode cX5_room_ 5 = .ok (.iload_n 1, 1) := by decide +kernel
theorem dX5_room__6 : decode cX5_room_ 6 = .ok (.iconst 1, 1) := by decide +kernel
theorem dX5_room__7 : decode cX5_room_ 7 = .ok (.bipush 20, 2) := by decide +kernel
theorem dX5_room__9 : decode cX5_room_ 9 = .ok (.invokestatic 59, 3) := by decide +kernel
theorem dX5_room__12 : decode cX5_room_ 12 = .ok (.ifCond .eq 10, 3) := by decide +kernel
theorem dX5_room__15 : decode cX5_room_ 15 = .ok (.iload_n 1, 1) := by decide +kernel
theorem dX5_room__16 : decode cX5_room_ 16 = .ok (.invokestatic 69, 3) := by decide +kernel
theorem dX5_room__19 : decode cX5_room_ 19 = .ok (.goto 8, 3) := by decide +kernel
theorem dX5_room__22 : decode cX5_room_ 22 = .ok (.aload_n 0, 1) := by decide +kernel
theorem dX5_room__23 : decode cX5_room_ 23 = .ok (.iconst 1, 1) := by decide +kernel
theorem dX5_room__24 : decode cX5_room_ 24 = .ok (.invokevirtual 92, 3) := by decide +kernel
theorem dX5_room__27 : decode cX5_room_ 27 = .ok (.ireturn, 1) := by decide +kernel
set_option maxRecDepth 20000 in
theorem ggX5_side_X5_roomOf : GoodIn wsX5_side wsX5_roomOf := goodIn_r _ [5] (by decide +kernel) (by decide +kernel)
set_option maxRecDepth 20000 in
theorem gX5_side_X5_roomOf : GoodIn wsX5_side (va_wsS RX5 69 yX5_roomOf wsX5_roomOf) := goodIn_app (goodIn_of _ (by decide +kernel)) ggX5_side_X5_roomOf
set_option maxRecDepth 20000 in
theorem ggX5_side_X5_isIn : GoodIn wsX5_side wsX5_isIn := goodIn_r _ [8] (by decide +kernel) (by decide +kernel)
set_option maxRecDepth 20000 in
theorem gX5_side_X5_isIn : GoodIn wsX5_side (va_wsS RX5 59 yX5_isIn wsX5_isIn) := goodIn_app (goodIn_of _ (by decide +kernel)) ggX5_side_X5_isIn
set_option maxRecDepth 20000 in
theorem ggX5_side_X5_fail : GoodIn wsX5_side wsX5_fail := goodIn_r _ [12, 1, 13, 14, 15, 16, 17, 18, 19, 20, 21, 22, 23, 24, 25, 26, 27, 28, 29, 30, 31] (by decide +kernel) (by decide +kernel)
set_option maxRecDepth 20000 in
theorem gX5_side_X5_fail : GoodIn wsX5_side (wsV RX5 92 RX5 yX5_fail wsX5_fail) := goodIn_app (goodIn_of _ (by decide +kernel)) ggX5_side_X5_fail
theorem dX5_side_0 : decode cX5_side 0 = .ok (.aload_n 0, 1) := by decide +kernel
theorem dX5_side_1 : decode cX5_side 1 = .ok (.iconst 0, 1) := by decide +kernel
theorem dX5_side_2 : decode cX5_side 2 = .ok (.putfield 53, 3) := by decide +kernel
theorem dX5_side_5 : decode cX5_side 5 = .ok (.iload_n 1, 1) := by decide +kernel
theorem dX5_side_6 : decode cX5_side 6 = .ok (.iconst 1, 1) := by decide +kernel
theorem dX5_side_7 : decode cX5_side 7 = .ok (.bipush 20, 2) := by decide +kernel
theorem dX5_side_9 : decode cX5_side 9 = .ok (.invokestatic 69, 3) := by decide +kernel
theorem dX5_side_12 : decode cX5_side 12 = .ok (.invokestatic 59, 3) := by decide +kernel
theorem dX5_side_15 : decode cX5_side 15 = .ok (.ifCond .ne 9, 3) := by decide +kernel
theorem dX5_side_18 : decode cX5_side 18 = .ok (.aload_n 0, 1) := by decide +kernel
theorem dX5_side_19 : decode cX5_side 19 = .ok (.iconst 1, 1) := by decide +kernel
theorem dX5_side_20 : decode cX5_side 20 = .ok (.invokevirtual 92, 3) := by decide +kernel
theorem dX5_side_23 : decode cX5_side 23 = .ok (.ireturn, 1) := by decide +kernel
theorem dX5_side_24 : decode cX5_side 24 = .ok (.iconst 1, 1) := by decide +kernel
theorem dX5_side_25 : decode cX5_side 25 = .ok (.istore_n 2, 1) := by decide +kernel
theorem dX5_side_26 : decode cX5_side 26 = .ok (.iload_n 2, 1) := by decide +kernel
theorem dX5_side_27 : decode cX5_side 27 = .ok (.invokestatic 69, 3) := by decide +kernel
theorem dX5_side_30 : decode cX5_side 30 = .ok (.iload_n 1, 1) := by decide +kernel
theorem dX5_side_31 : decode cX5_side 31 = .ok (.if_icmp .ge 9, 3) := by decide +kernel
theorem dX5_side_34 : decode cX5_side 34 = .ok (.iinc 2 1, 3) := by decide +kernel
theorem dX5_side_37 : decode cX5_side 37 = .ok (.goto (-11), 3) := by decide +kernel
theorem dX5_side_40 : decode cX5_side 40 = .ok (.iload_n 2, 1) := by decide +kernel
theorem dX5_side_41 : decode cX5_side 41 = .ok (.ireturn, 1) := by decide +kernel
set_option maxRecDepth 20000 in
theorem ggX5_leap_X5_layers : GoodIn wsX5_leap wsX5_layers := goodIn_r _ [11, 12, 13, 14, 10, 15, 16, 17, 18, 19, 29, 30, 31, 32, 33, 34, 35, 36, 37, 38, 39, 40, 41, 42, 43, 44, 45, 46, 47] (by decide +kernel) (by decide +kernel)
set_option maxRecDepth 20000 in
theorem gX5_leap_X5_layers : GoodIn wsX5_leap (wsV RX5 129 RX5 yX5_layers wsX5_layers) := goodIn_app (goodIn_of _ (by decide +kernel)) ggX5_leap_X5_layers
set_option maxRecDepth 20000 in
theorem ggX5_leap_X5_full : GoodIn wsX5_leap wsX5_full := goodIn_r _ [23, 16, 4, 12, 13, 14, 10, 15, 17, 18, 19, 29, 30, 31, 32, 33, 34, 35, 36, 37, 38, 39, 40, 41, 42, 43, 44, 45, 46, 47] (by decide +kernel) (by decide +kernel)
set_option maxRecDepth 20000 in
theorem gX5_leap_X5_full : GoodIn wsX5_leap (wsV RX5 132 RX5 yX5_full wsX5_full) := goodIn_app (goodIn_of _ (by decide +kernel)) ggX5_leap_X5_full
set_option maxRecDepth 20000 in
theorem ggX5_leap_X5_more : GoodIn wsX5_leap wsX5_more := goodIn_r _ [27, 28, 29, 30, 31, 32, 33, 34, 35, 36, 37, 38, 39, 40, 41, 42, 43, 44, 45, 46, 47] (by decide +kernel) (by decide +kernel)
set_option maxRecDepth 20000 in
theorem gX5_leap_X5_more : GoodIn wsX5_leap (wsV RX5 98 RX5 yX5_more wsX5_more) := goodIn_app (goodIn_of _ (by decide +kernel)) ggX5_leap_X5_more
theorem dX5_leap_0 : decode cX5_leap 0 = .ok (.aload_n 0, 1) := by decide +kernel
theorem dX5_leap_1 : decode cX5_leap 1 = .ok (.getfield 32, 3) := by decide +kernel
theorem dX5_leap_4 : decode cX5_leap 4 = .ok (.iload_n 1, 1) := by decide +kernel
theorem dX5_leap_5 : decode cX5_leap 5 = .ok (.aload_n 0, 1) := by decide +kernel
theorem dX5_leap_6 : decode cX5_leap 6 = .ok (.getfield 32, 3) := by decide +kernel
theorem dX5_leap_9 : decode cX5_leap 9 = .ok (.iload_n 1, 1) := by decide +kernel
theorem dX5_leap_10 : decode cX5_leap 10 = .ok (.iaload, 1) := by decide +kernel
theorem dX5_leap_11 : decode cX5_leap 11 = .ok (.iconst (-1), 1) := by decide +kernel
theorem dX5_leap_12 : decode cX5_leap 12 = .ok (.if_icmp .ne 7, 3) := by decide +kernel
theorem dX5_leap_15 : decode cX5_leap 15 = .ok (.iconst 0, 1) := by decide +kernel
theorem dX5_leap_16 : decode cX5_leap 16 = .ok (.goto 21, 3) := by decide +kernel
theorem dX5_leap_19 : decode cX5_leap 19 = .ok (.aload_n 0, 1) := by decide +kernel
theorem dX5_leap_20 : decode cX5_leap 20 = .ok (.getfield 32, 3) := by decide +kernel
theorem dX5_leap_23 : decode cX5_leap 23 = .ok (.iload_n 1, 1) := by decide +kernel
theorem dX5_leap_24 : decode cX5_leap 24 = .ok (.iaload, 1) := by decide +kernel
theorem dX5_leap_25 : decode cX5_leap 25 = .ok (.aload_n 0, 1) := by decide +kernel
theorem dX5_leap_26 : decode cX5_leap 26 = .ok (.getfield 20, 3) := by decide +kernel
theorem dX5_leap_29 : decode cX5_leap 29 = .ok (.iload_n 1, 1) := by decide +kernel
theorem dX5_leap_30 : decode cX5_leap 30 = .ok (.iaload, 1) := by decide +kernel
theorem dX5_leap_31 : decode cX5_leap 31 = .ok (.iadd, 1) := by decide +kernel
theorem dX5_leap_32 : decode cX5_leap 32 = .ok (.aload_n 0, 1) := by decide +kernel
theorem dX5_leap_33 : decode cX5_leap 33 = .ok (.getfield 56, 3) := by decide +kernel
theorem dX5_leap_36 : decode cX5_leap 36 = .ok (.irem, 1) := by decide +kernel
theorem dX5_leap_37 : decode cX5_leap 37 = .ok (.iastore, 1) := by decide +kernel
theorem dX5_leap_38 : decode cX5_leap 38 = .ok (.aload_n 0, 1) := by decide +kernel
theorem dX5_leap_39 : decode cX5_leap 39 = .ok (.getfield 32, 3) := by decide +kernel
theorem dX5_leap_42 : decode cX5_leap 42 = .ok (.iload_n 1, 1) := by decide +kernel
theorem dX5_leap_43 : decode cX5_leap 43 = .ok (.iaload, 1) := by decide +kernel
theorem dX5_leap_44 : decode cX5_leap 44 = .ok (.istore_n 2, 1) := by decide +kernel
theorem dX5_leap_45 : decode cX5_leap 45 = .ok (.aload_n 0, 1) := by decide +kernel
theorem dX5_leap_46 : decode cX5_leap 46 = .ok (.getfield 23, 3) := by decide +kernel
theorem dX5_leap_49 : decode cX5_leap 49 = .ok (.iload_n 2, 1) := by decide +kernel
theorem dX5_leap_50 : decode cX5_leap 50 = .ok (.iaload, 1) := by decide +kernel
theorem dX5_leap_51 : decode cX5_leap 51 = .ok (.ifCond .eq 22, 3) := by decide +kernel
theorem dX5_leap_54 : decode cX5_leap 54 = .ok (.aload_n 0, 1) := by decide +kernel
theorem dX5_leap_55 : decode cX5_leap 55 = .ok (.iload_n 2, 1) := by decide +kernel
theorem dX5_leap_56 : decode cX5_leap 56 = .ok (.aload_n 0, 1) := by decide +kernel
theorem dX5_leap_57 : decode cX5_leap 57 = .ok (.getfield 23, 3) := by decide +kernel
theorem dX5_leap_60 : decode cX5_leap 60 = .ok (.iload_n 2, 1) := by decide +kernel
theorem dX5_leap_61 : decode cX5_leap 61 = .ok (.iaload, 1) := by decide +kernel
theorem dX5_leap_62 : decode cX5_leap 62 = .ok (.invokevirtual 129, 3) := by decide +kernel
theorem dX5_leap_65 : decode cX5_leap 65 = .ok (.aload_n 0, 1) := by decide +kernel
theorem dX5_leap_66 : decode cX5_leap 66 = .ok (.iload_n 2, 1) := by decide +kernel
theorem dX5_leap_67 : decode cX5_leap 67 = .ok (.invokevirtual 132, 3) := by decide +kernel
theorem dX5_leap_70 : decode cX5_leap 70 = .ok (.if_icmp .ne 4, 3) := by decide +kernel
theorem dX5_leap_73 : decode cX5_leap 73 = .ok (.return_, 1) := by decide +kernel
theorem dX5_leap_74 : decode cX5_leap 74 = .ok (.aload_n 0, 1) := by decide +kernel
theorem dX5_leap_75 : decode cX5_leap 75 = .ok (.getfield 23, 3) := by decide +kernel
theorem dX5_leap_78 : decode cX5_leap 78 = .ok (.iload_n 2, 1) := by decide +kernel
theorem dX5_leap_79 : decode cX5_leap 79 = .ok (.dup2, 1) := by decide +kernel
theorem dX5_leap_80 : decode cX5_leap 80 = .ok (.iaload, 1) := by decide +kernel
theorem dX5_leap_81 : decode cX5_leap 81 = .ok (.iconst 1, 1) := by decide +kernel
theorem dX5_leap_82 : decode cX5_leap 82 = .ok (.isub, 1) := by decide +kernel
theorem dX5_leap_83 : decode cX5_leap 83 = .ok (.iastore, 1) := by decide +kernel
theorem dX5_leap_84 : decode cX5_leap 84 = .ok (.aload_n 0, 1) := by decide +kernel
theorem dX5_leap_85 : decode cX5_leap 85 = .ok (.aload_n 0, 1) := by decide +kernel
theorem dX5_leap_86 : decode cX5_leap 86 = .ok (.getfield 13, 3) := by decide +kernel
theorem dX5_leap_89 : decode cX5_leap 89 = .ok (.iload_n 2, 1) := by decide +kernel
theorem dX5_leap_90 : decode cX5_leap 90 = .ok (.iaload, 1) := by decide +kernel
theorem dX5_leap_91 : decode cX5_leap 91 = .ok (.iconst 1, 1) := by decide +kernel
theorem dX5_leap_92 : decode cX5_leap 92 = .ok (.iconst 1, 1) := by decide +kernel
theorem dX5_leap_93 : decode cX5_leap 93 = .ok (.invokevirtual 98, 3) := by decide +kernel
theorem dX5_leap_96 : decode cX5_leap 96 = .ok (.aload_n 0, 1) := by decide +kernel
theorem dX5_leap_97 : decode cX5_leap 97 = .ok (.getfield 35, 3) := by decide +kernel
theorem dX5_leap_100 : decode cX5_leap 100 = .ok (.iload_n 1, 1) := by decide +kernel
theorem dX5_leap_101 : decode cX5_leap 101 = .ok (.dup2, 1) := by decide +kernel
theorem dX5_leap_102 : decode cX5_leap 102 = .ok (.iaload, 1) := by decide +kernel
theorem dX5_leap_103 : decode cX5_leap 103 = .ok (.iconst 1, 1) := by decide +kernel
theorem dX5_leap_104 : decode cX5_leap 104 = .ok (.iadd, 1) := by decide +kernel
theorem dX5_leap_105 : decode cX5_leap 105 = .ok (.iastore, 1) := by decide +kernel
theorem dX5_leap_106 : decode cX5_leap 106 = .ok (.return_, 1) := by decide +kernel
set_option maxRecDepth 20000 in
theorem ggX5_dayOn_X5_on : GoodIn wsX5_dayOn wsX5_on := goodIn_r _ [14, 15, 16, 17, 13, 18, 19, 20, 21, 22, 23, 24, 25, 26, 27, 28, 29, 30, 31, 32, 33, 34, 2, 35, 36, 37, 63, 64, 65, 66, 67, 68, 69, 70, 71, 72, 73, 74, 75, 76, 77, 78, 79, 80, 81] (by decide +kernel) (by decide +kernel)
set_option maxRecDepth 20000 in
theorem gX5_dayOn_X5_on : GoodIn wsX5_dayOn (wsV RX5 121 RX5 yX5_on wsX5_on) := goodIn_app (goodIn_of _ (by decide +kernel)) ggX5_dayOn_X5_on
set_option maxRecDepth 20000 in
theorem ggX5_dayOn_X5_rustOf : GoodIn wsX5_dayOn wsX5_rustOf := goodIn_r _ [41, 4, 63, 64, 65, 66, 67, 68, 69, 70, 71, 72, 73, 74, 75, 76, 77, 78, 79, 80, 81] (by decide +kernel) (by decide +kernel)
set_option maxRecDepth 20000 in
theorem gX5_dayOn_X5_rustOf : GoodIn wsX5_dayOn (wsV RX5 118 RX5 yX5_rustOf wsX5_rustOf) := goodIn_app (goodIn_of _ (by decide +kernel)) ggX5_dayOn_X5_rustOf
set_option maxRecDepth 20000 in
theorem ggX5_dayOn_X5_leap : GoodIn wsX5_dayOn wsX5_leap := goodIn_r _ [45, 46, 47, 1, 2, 48, 49, 50, 51, 52, 13, 53, 24, 25, 26, 27, 19, 28, 29, 30, 54, 55, 56, 57, 58, 59, 60, 61, 62, 63, 64, 65, 66, 67, 68, 69, 70, 71, 72, 73, 74, 75, 76, 77, 78, 79, 80, 81] (by decide +kernel) (by decide +kernel)
set_option maxRecDepth 20000 in
theorem gX5_dayOn_X5_leap : GoodIn wsX5_dayOn (wsV RX5 161 RX5 yX5_leap wsX5_leap) := goodIn_app (goodIn_of _ (by decide +kernel)) ggX5_dayOn_X5_leap
theorem dX5_dayOn_0 : decode cX5_dayOn 0 = .ok (.iconst 0, 1) := by decide +kernel
theorem dX5_dayOn_1 : decode cX5_dayOn 1 = .ok (.istore_n 1, 1) := by decide +kernel
theorem dX5_dayOn_2 : decode cX5_dayOn 2 = .ok (.iload_n 1, 1) := by decide +kernel
theorem dX5_dayOn_3 : decode cX5_dayOn 3 = .ok (.aload_n 0, 1) := by decide +kernel
theorem dX5_dayOn_4 : decode cX5_dayOn 4 = .ok (.getfield 56, 3) := by decide +kernel
theorem dX5_dayOn_7 : decode cX5_dayOn 7 = .ok (.if_icmp .ge 76, 3) := by decide +kernel
theorem dX5_dayOn_10 : decode cX5_dayOn 10 = .ok (.iconst 0, 1) := by decide +kernel
theorem dX5_dayOn_11 : decode cX5_dayOn 11 = .ok (.istore_n 2, 1) := by decide +kernel
theorem dX5_dayOn_12 : decode cX5_dayOn 12 = .ok (.iload_n 2, 1) := by decide +kernel
theorem dX5_dayOn_13 : decode cX5_dayOn 13 = .ok (.aload_n 0, 1) := by decide +kernel
theorem dX5_dayOn_14 : decode cX5_dayOn 14 = .ok (.getfield 23, 3) := by decide +kernel
theorem dX5_dayOn_17 : decode cX5_dayOn 17 = .ok (.iload_n 1, 1) := by decide +kernel
theorem dX5_dayOn_18 : decode cX5_dayOn 18 = .ok (.iaload, 1) := by decide +kernel
theorem dX5_dayOn_19 : decode cX5_dayOn 19 = .ok (.if_icmp .ge 58, 3) := by decide +kernel
theorem dX5_dayOn_22 : decode cX5_dayOn 22 = .ok (.aload_n 0, 1) := by decide +kernel
theorem dX5_dayOn_23 : decode cX5_dayOn 23 = .ok (.iload_n 1, 1) := by decide +kernel
theorem dX5_dayOn_24 : decode cX5_dayOn 24 = .ok (.iload_n 2, 1) := by decide +kernel
theorem dX5_dayOn_25 : decode cX5_dayOn 25 = .ok (.invokevirtual 121, 3) := by decide +kernel
theorem dX5_dayOn_28 : decode cX5_dayOn 28 = .ok (.ifCond .ne 12, 3) := by decide +kernel
theorem dX5_dayOn_31 : decode cX5_dayOn 31 = .ok (.iconst 1, 1) := by decide +kernel
theorem dX5_dayOn_32 : decode cX5_dayOn 32 = .ok (.aload_n 0, 1) := by decide +kernel
theorem dX5_dayOn_33 : decode cX5_dayOn 33 = .ok (.getfield 102, 3) := by decide +kernel
theorem dX5_dayOn_36 : decode cX5_dayOn 36 = .ok (.iadd, 1) := by decide +kernel
theorem dX5_dayOn_37 : decode cX5_dayOn 37 = .ok (.goto 9, 3) := by decide +kernel
theorem dX5_dayOn_40 : decode cX5_dayOn 40 = .ok (.aload_n 0, 1) := by decide +kernel
theorem dX5_dayOn_41 : decode cX5_dayOn 41 = .ok (.getfield 102, 3) := by decide +kernel
theorem dX5_dayOn_44 : decode cX5_dayOn 44 = .ok (.iconst 2, 1) := by decide +kernel
theorem dX5_dayOn_45 : decode cX5_dayOn 45 = .ok (.idiv, 1) := by decide +kernel
theorem dX5_dayOn_46 : decode cX5_dayOn 46 = .ok (.istore_n 3, 1) := by decide +kernel
theorem dX5_dayOn_47 : decode cX5_dayOn 47 = .ok (.aload_n 0, 1) := by decide +kernel
theorem dX5_dayOn_48 : decode cX5_dayOn 48 = .ok (.getfield 26, 3) := by decide +kernel
theorem dX5_dayOn_51 : decode cX5_dayOn 51 = .ok (.bipush 91, 2) := by decide +kernel
theorem dX5_dayOn_53 : decode cX5_dayOn 53 = .ok (.iload_n 1, 1) := by decide +kernel
theorem dX5_dayOn_54 : decode cX5_dayOn 54 = .ok (.imul, 1) := by decide +kernel
theorem dX5_dayOn_55 : decode cX5_dayOn 55 = .ok (.iload_n 2, 1) := by decide +kernel
theorem dX5_dayOn_56 : decode cX5_dayOn 56 = .ok (.iadd, 1) := by decide +kernel
theorem dX5_dayOn_57 : decode cX5_dayOn 57 = .ok (.bipush 9, 2) := by decide +kernel
theorem dX5_dayOn_59 : decode cX5_dayOn 59 = .ok (.aload_n 0, 1) := by decide +kernel
theorem dX5_dayOn_60 : decode cX5_dayOn 60 = .ok (.iload_n 1, 1) := by decide +kernel
theorem dX5_dayOn_61 : decode cX5_dayOn 61 = .ok (.iload_n 2, 1) := by decide +kernel
theorem dX5_dayOn_62 : decode cX5_dayOn 62 = .ok (.invokevirtual 118, 3) := by decide +kernel
theorem dX5_dayOn_65 : decode cX5_dayOn 65 = .ok (.iload_n 3, 1) := by decide +kernel
theorem dX5_dayOn_66 : decode cX5_dayOn 66 = .ok (.iadd, 1) := by decide +kernel
theorem dX5_dayOn_67 : decode cX5_dayOn 67 = .ok (.invokestatic 124, 3) := by decide +kernel
theorem dX5_dayOn_70 : decode cX5_dayOn 70 = .ok (.iastore, 1) := by decide +kernel
theorem dX5_dayOn_71 : decode cX5_dayOn 71 = .ok (.iinc 2 1, 3) := by decide +kernel
theorem dX5_dayOn_74 : decode cX5_dayOn 74 = .ok (.goto (-62), 3) := by decide +kernel
theorem dX5_dayOn_77 : decode cX5_dayOn 77 = .ok (.iinc 1 1, 3) := by decide +kernel
theorem dX5_dayOn_80 : decode cX5_dayOn 80 = .ok (.goto (-78), 3) := by decide +kernel
theorem dX5_dayOn_83 : decode cX5_dayOn 83 = .ok (.iconst 0, 1) := by decide +kernel
theorem dX5_dayOn_84 : decode cX5_dayOn 84 = .ok (.istore_n 1, 1) := by decide +kernel
theorem dX5_dayOn_85 : decode cX5_dayOn 85 = .ok (.iload_n 1, 1) := by decide +kernel
theorem dX5_dayOn_86 : decode cX5_dayOn 86 = .ok (.aload_n 0, 1) := by decide +kernel
theorem dX5_dayOn_87 : decode cX5_dayOn 87 = .ok (.getfield 95, 3) := by decide +kernel
theorem dX5_dayOn_90 : decode cX5_dayOn 90 = .ok (.if_icmp .ge 21, 3) := by decide +kernel
theorem dX5_dayOn_93 : decode cX5_dayOn 93 = .ok (.aload_n 0, 1) := by decide +kernel
theorem dX5_dayOn_94 : decode cX5_dayOn 94 = .ok (.getfield 56, 3) := by decide +kernel
theorem dX5_dayOn_97 : decode cX5_dayOn 97 = .ok (.ifCond .le 14, 3) := by decide +kernel
theorem dX5_dayOn_100 : decode cX5_dayOn 100 = .ok (.aload_n 0, 1) := by decide +kernel
theorem dX5_dayOn_101 : decode cX5_dayOn 101 = .ok (.iload_n 1, 1) := by decide +kernel
theorem dX5_dayOn_102 : decode cX5_dayOn 102 = .ok (.invokevirtual 161, 3) := by decide +kernel
theorem dX5_dayOn_105 : decode cX5_dayOn 105 = .ok (.iinc 1 1, 3) := by decide +kernel
theorem dX5_dayOn_108 : decode cX5_dayOn 108 = .ok (.goto (-23), 3) := by decide +kernel
theorem dX5_dayOn_111 : decode cX5_dayOn 111 = .ok (.return_, 1) := by decide +kernel
set_option maxRecDepth 20000 in
theorem ggX5_pass_X5_isIn : GoodIn wsX5_pass wsX5_isIn := goodIn_r _ [6] (by decide +kernel) (by decide +kernel)
set_option maxRecDepth 20000 in
theorem gX5_pass_X5_isIn : GoodIn wsX5_pass (va_wsS RX5 59 yX5_isIn wsX5_isIn) := goodIn_app (goodIn_of _ (by decide +kernel)) ggX5_pass_X5_isIn
set_option maxRecDepth 20000 in
theorem ggX5_pass_X5_fail : GoodIn wsX5_pass wsX5_fail := goodIn_r _ [10, 1, 85, 86, 87, 88, 89, 90, 91, 92, 93, 94, 95, 96, 97, 98, 99, 100, 101, 102, 103] (by decide +kernel) (by decide +kernel)
set_option maxRecDepth 20000 in
theorem gX5_pass_X5_fail : GoodIn wsX5_pass (wsV RX5 92 RX5 yX5_fail wsX5_fail) := goodIn_app (goodIn_of _ (by decide +kernel)) ggX5_pass_X5_fail
set_option maxRecDepth 20000 in
theorem ggX5_pass_X5_all : GoodIn wsX5_pass wsX5_all := goodIn_r _ [14, 15, 16, 17, 5, 18, 19, 20, 21, 22, 23, 24, 25, 26, 85, 86, 87, 88, 89, 90, 91, 92, 93, 94, 95, 96, 97, 98, 99, 100, 101, 102, 103] (by decide +kernel) (by decide +kernel)
set_option maxRecDepth 20000 in
theorem gX5_pass_X5_all : GoodIn wsX5_pass (wsV RX5 155 RX5 yX5_all wsX5_all) := goodIn_app (goodIn_of _ (by decide +kernel)) ggX5_pass_X5_all
set_option maxRecDepth 20000 in
theorem ggX5_pass_X5_dayOn : GoodIn wsX5_pass wsX5_dayOn := goodIn_r _ [30, 24, 26, 31, 32, 33, 34, 35, 36, 37, 38, 39, 40, 5, 41, 42, 43, 44, 45, 46, 47, 48, 49, 50, 51, 52, 53, 54, 55, 56, 57, 58, 59, 60, 61, 3, 4, 6, 62, 63, 64, 65, 66, 67, 68, 69, 70, 71, 25, 72, 73, 74, 75, 76, 77, 78, 79, 80, 81, 82, 83, 84, 19, 85, 86, 87, 88, 89, 90, 91, 92, 93, 94, 95, 96, 97, 98, 99, 100, 101, 102, 103] (by decide +kernel) (by decide +kernel)
set_option maxRecDepth 20000 in
theorem gX5_pass_X5_dayOn : GoodIn wsX5_pass (wsV RX5 165 RX5 yX5_dayOn wsX5_dayOn) := goodIn_app (goodIn_of _ (by decide +kernel)) ggX5_pass_X5_dayOn
theorem dX5_pass_0 : decode cX5_pass 0 = .ok (.aload_n 0, 1) := by decide +kernel
theorem dX5_pass_1 : decode cX5_pass 1 = .ok (.iconst 0, 1) := by decide +kernel
theorem dX5_pass_2 : decode cX5_pass 2 = .ok (.putfield 53, 3) := by decide +kernel
theorem dX5_pass_5 : decode cX5_pass 5 = .ok (.iload_n 1, 1) := by decide +kernel
theorem dX5_pass_6 : decode cX5_pass 6 = .ok (.iconst 1, 1) := by decide +kernel
theorem dX5_pass_7 : decode cX5_pass 7 = .ok (.bipush 60, 2) := by decide +kernel
theorem dX5_pass_9 : decode cX5_pass 9 = .ok (.invokestatic 59, 3) := by decide +kernel
theorem dX5_pass_12 : decode cX5_pass 12 = .ok (.ifCond .ne 9, 3) := by decide +kernel
theorem dX5_pass_15 : decode cX5_pass 15 = .ok (.aload_n 0, 1) := by decide +kernel
theorem dX5_pass_16 : decode cX5_pass 16 = .ok (.iconst 1, 1) := by decide +kernel
theorem dX5_pass_17 : decode cX5_pass 17 = .ok (.invokevirtual 92, 3) := by decide +kernel
theorem dX5_pass_20 : decode cX5_pass 20 = .ok (.ireturn, 1) := by decide +kernel
theorem dX5_pass_21 : decode cX5_pass 21 = .ok (.aload_n 0, 1) := by decide +kernel
theorem dX5_pass_22 : decode cX5_pass 22 = .ok (.iconst 1, 1) := by decide +kernel
theorem dX5_pass_23 : decode cX5_pass 23 = .ok (.invokevirtual 155, 3) := by decide +kernel
theorem dX5_pass_26 : decode cX5_pass 26 = .ok (.istore_n 2, 1) := by decide +kernel
theorem dX5_pass_27 : decode cX5_pass 27 = .ok (.iconst 0, 1) := by decide +kernel
theorem dX5_pass_28 : decode cX5_pass 28 = .ok (.istore_n 3, 1) := by decide +kernel
theorem dX5_pass_29 : decode cX5_pass 29 = .ok (.iload_n 3, 1) := by decide +kernel
theorem dX5_pass_30 : decode cX5_pass 30 = .ok (.iload_n 1, 1) := by decide +kernel
theorem dX5_pass_31 : decode cX5_pass 31 = .ok (.if_icmp .ge 13, 3) := by decide +kernel
theorem dX5_pass_34 : decode cX5_pass 34 = .ok (.aload_n 0, 1) := by decide +kernel
theorem dX5_pass_35 : decode cX5_pass 35 = .ok (.invokevirtual 165, 3) := by decide +kernel
theorem dX5_pass_38 : decode cX5_pass 38 = .ok (.iinc 3 1, 3) := by decide +kernel
theorem dX5_pass_41 : decode cX5_pass 41 = .ok (.goto (-12), 3) := by decide +kernel
theorem dX5_pass_44 : decode cX5_pass 44 = .ok (.aload_n 0, 1) := by decide +kernel
theorem dX5_pass_45 : decode cX5_pass 45 = .ok (.dup, 1) := by decide +kernel
theorem dX5_pass_46 : decode cX5_pass 46 = .ok (.getfield 152, 3) := by decide +kernel
theorem dX5_pass_49 : decode cX5_pass 49 = .ok (.iload_n 1, 1) := by decide +kernel
theorem dX5_pass_50 : decode cX5_pass 50 = .ok (.iadd, 1) := by decide +kernel
theorem dX5_pass_51 : decode cX5_pass 51 = .ok (.putfield 152, 3) := by decide +kernel
theorem dX5_pass_54 : decode cX5_pass 54 = .ok (.aload_n 0, 1) := by decide +kernel
theorem dX5_pass_55 : decode cX5_pass 55 = .ok (.iconst 1, 1) := by decide +kernel
theorem dX5_pass_56 : decode cX5_pass 56 = .ok (.invokevirtual 155, 3) := by decide +kernel
theorem dX5_pass_59 : decode cX5_pass 59 = .ok (.iload_n 2, 1) := by decide +kernel
theorem dX5_pass_60 : decode cX5_pass 60 = .ok (.isub, 1) := by decide +kernel
theorem dX5_pass_61 : decode cX5_pass 61 = .ok (.ireturn, 1) := by decide +kernel
set_option maxRecDepth 20000 in
theorem ggX5_until_X5_isPile : GoodIn wsX5_until wsX5_isPile := goodIn_r _ [6, 7, 8, 9, 5, 10, 98, 99, 100, 101, 102, 103, 104, 105, 106, 107, 108, 109, 110, 111, 112, 113, 114, 115, 116] (by decide +kernel) (by decide +kernel)
set_option maxRecDepth 20000 in
theorem gX5_until_X5_isPile : GoodIn wsX5_until (wsV RX5 105 RX5 yX5_isPile wsX5_isPile) := goodIn_app (goodIn_of _ (by decide +kernel)) ggX5_until_X5_isPile
set_option maxRecDepth 20000 in
theorem ggX5_until_X5_fail : GoodIn wsX5_until wsX5_fail := goodIn_r _ [14, 1, 98, 99, 100, 101, 102, 103, 104, 105, 106, 107, 108, 109, 110, 111, 112, 113, 114, 115, 116] (by decide +kernel) (by decide +kernel)
set_option maxRecDepth 20000 in
theorem gX5_until_X5_fail : GoodIn wsX5_until (wsV RX5 92 RX5 yX5_fail wsX5_fail) := goodIn_app (goodIn_of _ (by decide +kernel)) ggX5_until_X5_fail
set_option maxRecDepth 20000 in
theorem ggX5_until_X5_keep : GoodIn wsX5_until wsX5_keep := goodIn_r _ [18, 19, 20, 21, 22, 23, 24, 25, 26, 27, 28, 29, 30, 31, 32, 98, 99, 100, 101, 102, 103, 104, 105, 106, 107, 108, 109, 110, 111, 112, 113, 114, 115, 116] (by decide +kernel) (by decide +kernel)
set_option maxRecDepth 20000 in
theorem gX5_until_X5_keep : GoodIn wsX5_until (wsV RX5 168 RX5 yX5_keep wsX5_keep) := goodIn_app (goodIn_of _ (by decide +kernel)) ggX5_until_X5_keep
set_option maxRecDepth 20000 in
theorem ggX5_until_X5_rusty : GoodIn wsX5_until wsX5_rusty := goodIn_r _ [36, 19, 37, 38, 39, 40, 5, 41, 25, 98, 99, 100, 101, 102, 103, 104, 105, 106, 107, 108, 109, 110, 111, 112, 113, 114, 115, 116] (by decide +kernel) (by decide +kernel)
set_option maxRecDepth 20000 in
theorem gX5_until_X5_rusty : GoodIn wsX5_until (wsV RX5 134 RX5 yX5_rusty wsX5_rusty) := goodIn_app (goodIn_of _ (by decide +kernel)) ggX5_until_X5_rusty
set_option maxRecDepth 20000 in
theorem ggX5_until_X5_dayOn : GoodIn wsX5_until wsX5_dayOn := goodIn_r _ [45, 7, 19, 46, 25, 47, 48, 49, 50, 51, 52, 53, 54, 5, 55, 56, 57, 58, 59, 60, 61, 62, 63, 64, 65, 66, 67, 68, 69, 70, 71, 72, 73, 74, 75, 8, 9, 10, 38, 39, 40, 41, 76, 77, 78, 79, 29, 80, 81, 31, 82, 83, 84, 85, 86, 87, 88, 89, 90, 91, 92, 93, 27, 98, 99, 100, 101, 102, 103, 104, 105, 106, 107, 108, 109, 110, 111, 112, 113, 114, 115, 116] (by decide +kernel) (by decide +kernel)
set_option maxRecDepth 20000 in
theorem gX5_until_X5_dayOn : GoodIn wsX5_until (wsV RX5 165 RX5 yX5_dayOn wsX5_dayOn) := goodIn_app (goodIn_of _ (by decide +kernel)) ggX5_until_X5_dayOn
set_option maxRecDepth 20000 in
theorem ggX5_until_X5_bringBack : GoodIn wsX5_until wsX5_bringBack := goodIn_r _ [97, 20, 19, 21, 22, 23, 24, 26, 25, 28, 27, 30, 29, 32, 31, 98, 99, 100, 101, 102, 103, 104, 105, 106, 107, 108, 109, 110, 111, 112, 113, 114, 115, 116] (by decide +kernel) (by decide +kernel)
set_option maxRecDepth 20000 in
theorem gX5_until_X5_bringBack : GoodIn wsX5_until (wsV RX5 171 RX5 yX5_bringBack wsX5_bringBack) := goodIn_app (goodIn_of _ (by decide +kernel)) ggX5_until_X5_bringBack
theorem dX5_until_0 : decode cX5_until 0 = .ok (.aload_n 0, 1) := by decide +kernel
theorem dX5_until_1 : decode cX5_until 1 = .ok (.iconst 0, 1) := by decide +kernel
theorem dX5_until_2 : decode cX5_until 2 = .ok (.putfield 53, 3) := by decide +kernel
theorem dX5_until_5 : decode cX5_until 5 = .ok (.aload_n 0, 1) := by decide +kernel
theorem dX5_until_6 : decode cX5_until 6 = .ok (.iload_n 1, 1) := by decide +kernel
theorem dX5_until_7 : decode cX5_until 7 = .ok (.invokevirtual 105, 3) := by decide +kernel
theorem dX5_until_10 : decode cX5_until 10 = .ok (.ifCond .ne 9, 3) := by decide +kernel
theorem dX5_until_13 : decode cX5_until 13 = .ok (.aload_n 0, 1) := by decide +kernel
theorem dX5_until_14 : decode cX5_until 14 = .ok (.iconst 1, 1) := by decide +kernel
theorem dX5_until_15 : decode cX5_until 15 = .ok (.invokevirtual 92, 3) := by decide +kernel
theorem dX5_until_18 : decode cX5_until 18 = .ok (.ireturn, 1) := by decide +kernel
theorem dX5_until_19 : decode cX5_until 19 = .ok (.aload_n 0, 1) := by decide +kernel
theorem dX5_until_20 : decode cX5_until 20 = .ok (.invokevirtual 168, 3) := by decide +kernel
theorem dX5_until_23 : decode cX5_until 23 = .ok (.iconst 0, 1) := by decide +kernel
theorem dX5_until_24 : decode cX5_until 24 = .ok (.istore_n 2, 1) := by decide +kernel
theorem dX5_until_25 : decode cX5_until 25 = .ok (.iload_n 2, 1) := by decide +kernel
theorem dX5_until_26 : decode cX5_until 26 = .ok (.bipush 40, 2) := by decide +kernel
theorem dX5_until_28 : decode cX5_until 28 = .ok (.if_icmp .gt 21, 3) := by decide +kernel
theorem dX5_until_31 : decode cX5_until 31 = .ok (.aload_n 0, 1) := by decide +kernel
theorem dX5_until_32 : decode cX5_until 32 = .ok (.iload_n 1, 1) := by decide +kernel
theorem dX5_until_33 : decode cX5_until 33 = .ok (.invokevirtual 134, 3) := by decide +kernel
theorem dX5_until_36 : decode cX5_until 36 = .ok (.ifCond .ne 13, 3) := by decide +kernel
theorem dX5_until_39 : decode cX5_until 39 = .ok (.aload_n 0, 1) := by decide +kernel
theorem dX5_until_40 : decode cX5_until 40 = .ok (.invokevirtual 165, 3) := by decide +kernel
theorem dX5_until_43 : decode cX5_until 43 = .ok (.iinc 2 1, 3) := by decide +kernel
theorem dX5_until_46 : decode cX5_until 46 = .ok (.goto (-21), 3) := by decide +kernel
theorem dX5_until_49 : decode cX5_until 49 = .ok (.aload_n 0, 1) := by decide +kernel
theorem dX5_until_50 : decode cX5_until 50 = .ok (.invokevirtual 171, 3) := by decide +kernel
theorem dX5_until_53 : decode cX5_until 53 = .ok (.iload_n 2, 1) := by decide +kernel
theorem dX5_until_54 : decode cX5_until 54 = .ok (.bipush 40, 2) := by decide +kernel
theorem dX5_until_56 : decode cX5_until 56 = .ok (.if_icmp .le 7, 3) := by decide +kernel
theorem dX5_until_59 : decode cX5_until 59 = .ok (.iconst (-1), 1) := by decide +kernel
theorem dX5_until_60 : decode cX5_until 60 = .ok (.goto 4, 3) := by decide +kernel
theorem dX5_until_63 : decode cX5_until 63 = .ok (.iload_n 2, 1) := by decide +kernel
theorem dX5_until_64 : decode cX5_until 64 = .ok (.ireturn, 1) := by decide +kernel
set_option maxRecDepth 20000 in
theorem ggX5_foresee_X5_isIn : GoodIn wsX5_foresee wsX5_isIn := goodIn_r _ [5] (by decide +kernel) (by decide +kernel)
set_option maxRecDepth 20000 in
theorem gX5_foresee_X5_isIn : GoodIn wsX5_foresee (va_wsS RX5 59 yX5_isIn wsX5_isIn) := goodIn_app (goodIn_of _ (by decide +kernel)) ggX5_foresee_X5_isIn
set_option maxRecDepth 20000 in
theorem ggX5_foresee_X5_fail : GoodIn wsX5_foresee wsX5_fail := goodIn_r _ [9, 1, 111, 112, 113, 114, 115, 116, 117, 118, 119, 120, 121, 122, 123, 124, 125, 126, 127, 128, 129] (by decide +kernel) (by decide +kernel)
set_option maxRecDepth 20000 in
theorem gX5_foresee_X5_fail : GoodIn wsX5_foresee (wsV RX5 92 RX5 yX5_fail wsX5_fail) := goodIn_app (goodIn_of _ (by decide +kernel)) ggX5_foresee_X5_fail
set_option maxRecDepth 20000 in
theorem ggX5_foresee_X5_keep : GoodIn wsX5_foresee wsX5_keep := goodIn_r _ [13, 14, 15, 16, 17, 18, 19, 20, 21, 22, 23, 24, 25, 26, 27, 111, 112, 113, 114, 115, 116, 117, 118, 119, 120, 121, 122, 123, 124, 125, 126, 127, 128, 129] (by decide +kernel) (by decide +kernel)
set_option maxRecDepth 20000 in
theorem gX5_foresee_X5_keep : GoodIn wsX5_foresee (wsV RX5 168 RX5 yX5_keep wsX5_keep) := goodIn_app (goodIn_of _ (by decide +kernel)) ggX5_foresee_X5_keep
set_option maxRecDepth 20000 in
theorem ggX5_foresee_X5_dayOn : GoodIn wsX5_foresee wsX5_dayOn := goodIn_r _ [31, 32, 14, 33, 20, 34, 35, 36, 37, 38, 39, 40, 41, 4, 42, 43, 44, 45, 46, 47, 48, 49, 50, 51, 52, 53, 54, 55, 56, 57, 58, 59, 60, 61, 62, 2, 3, 5, 63, 64, 65, 66, 67, 68, 69, 70, 24, 71, 72, 26, 73, 74, 75, 76, 77, 78, 79, 80, 81, 82, 83, 84, 22, 111, 112, 113, 114, 115, 116, 117, 118, 119, 120, 121, 122, 123, 124, 125, 126, 127, 128, 129] (by decide +kernel) (by decide +kernel)
set_option maxRecDepth 20000 in
theorem gX5_foresee_X5_dayOn : GoodIn wsX5_foresee (wsV RX5 165 RX5 yX5_dayOn wsX5_dayOn) := goodIn_app (goodIn_of _ (by decide +kernel)) ggX5_foresee_X5_dayOn
set_option maxRecDepth 20000 in
theorem ggX5_foresee_X5_counted : GoodIn wsX5_foresee wsX5_counted := goodIn_r _ [88, 89, 32, 38, 33, 90, 91, 92, 93, 4, 94, 95, 96, 97, 98, 22, 99, 100, 101, 102, 72, 14, 103, 104, 105, 106, 63, 64, 65, 66, 20, 111, 112, 113, 114, 115, 116, 117, 118, 119, 120, 121, 122, 123, 124, 125, 126, 127, 128, 129] (by decide +kernel) (by decide +kernel)
set_option maxRecDepth 20000 in
theorem gX5_foresee_X5_counted : GoodIn wsX5_foresee (wsV RX5 158 RX5 yX5_counted wsX5_counted) := goodIn_app (goodIn_of _ (by decide +kernel)) ggX5_foresee_X5_counted
set_option maxRecDepth 20000 in
theorem ggX5_foresee_X5_bringBack : GoodIn wsX5_foresee wsX5_bringBack := goodIn_r _ [110, 15, 14, 16, 17, 18, 19, 21, 20, 23, 22, 25, 24, 27, 26, 111, 112, 113, 114, 115, 116, 117, 118, 119, 120, 121, 122, 123, 124, 125, 126, 127, 128, 129] (by decide +kernel) (by decide +kernel)
set_option maxRecDepth 20000 in
theorem gX5_foresee_X5_bringBack : GoodIn wsX5_foresee (wsV RX5 171 RX5 yX5_bringBack wsX5_bringBack) := goodIn_app (goodIn_of _ (by decide +kernel)) ggX5_foresee_X5_bringBack
theorem dX5_foresee_0 : decode cX5_foresee 0 = .ok (.aload_n 0, 1) := by decide +kernel
theorem dX5_foresee_1 : decode cX5_foresee 1 = .ok (.iconst 0, 1) := by decide +kernel
theorem dX5_foresee_2 : decode cX5_foresee 2 = .ok (.putfield 53, 3) := by decide +kernel
theorem dX5_foresee_5 : decode cX5_foresee 5 = .ok (.iload_n 1, 1) := by decide +kernel
theorem dX5_foresee_6 : decode cX5_foresee 6 = .ok (.iconst 1, 1) := by decide +kernel
theorem dX5_foresee_7 : decode cX5_foresee 7 = .ok (.bipush 30, 2) := by decide +kernel
theorem dX5_foresee_9 : decode cX5_foresee 9 = .ok (.invokestatic 59, 3) := by decide +kernel
theorem dX5_foresee_12 : decode cX5_foresee 12 = .ok (.ifCond .ne 9, 3) := by decide +kernel
theorem dX5_foresee_15 : decode cX5_foresee 15 = .ok (.aload_n 0, 1) := by decide +kernel
theorem dX5_foresee_16 : decode cX5_foresee 16 = .ok (.iconst 1, 1) := by decide +kernel
theorem dX5_foresee_17 : decode cX5_foresee 17 = .ok (.invokevirtual 92, 3) := by decide +kernel
theorem dX5_foresee_20 : decode cX5_foresee 20 = .ok (.ireturn, 1) := by decide +kernel
theorem dX5_foresee_21 : decode cX5_foresee 21 = .ok (.iload_n 2, 1) := by decide +kernel
theorem dX5_foresee_22 : decode cX5_foresee 22 = .ok (.iconst 4, 1) := by decide +kernel
theorem dX5_foresee_23 : decode cX5_foresee 23 = .ok (.bipush 6, 2) := by decide +kernel
theorem dX5_foresee_25 : decode cX5_foresee 25 = .ok (.invokestatic 59, 3) := by decide +kernel
theorem dX5_foresee_28 : decode cX5_foresee 28 = .ok (.ifCond .ne 9, 3) := by decide +kernel
theorem dX5_foresee_31 : decode cX5_foresee 31 = .ok (.aload_n 0, 1) := by decide +kernel
theorem dX5_foresee_32 : decode cX5_foresee 32 = .ok (.iconst 2, 1) := by decide +kernel
theorem dX5_foresee_33 : decode cX5_foresee 33 = .ok (.invokevirtual 92, 3) := by decide +kernel
theorem dX5_foresee_36 : decode cX5_foresee 36 = .ok (.ireturn, 1) := by decide +kernel
theorem dX5_foresee_37 : decode cX5_foresee 37 = .ok (.aload_n 0, 1) := by decide +kernel
theorem dX5_foresee_38 : decode cX5_foresee 38 = .ok (.invokevirtual 168, 3) := by decide +kernel
theorem dX5_foresee_41 : decode cX5_foresee 41 = .ok (.iconst 0, 1) := by decide +kernel
theorem dX5_foresee_42 : decode cX5_foresee 42 = .ok (.istore_n 3, 1) := by decide +kernel
theorem dX5_foresee_43 : decode cX5_foresee 43 = .ok (.iload_n 3, 1) := by decide +kernel
theorem dX5_foresee_44 : decode cX5_foresee 44 = .ok (.iload_n 1, 1) := by decide +kernel
theorem dX5_foresee_45 : decode cX5_foresee 45 = .ok (.if_icmp .ge 13, 3) := by decide +kernel
theorem dX5_foresee_48 : decode cX5_foresee 48 = .ok (.aload_n 0, 1) := by decide +kernel
theorem dX5_foresee_49 : decode cX5_foresee 49 = .ok (.invokevirtual 165, 3) := by decide +kernel
theorem dX5_foresee_52 : decode cX5_foresee 52 = .ok (.iinc 3 1, 3) := by decide +kernel
theorem dX5_foresee_55 : decode cX5_foresee 55 = .ok (.goto (-12), 3) := by decide +kernel
theorem dX5_foresee_58 : decode cX5_foresee 58 = .ok (.aload_n 0, 1) := by decide +kernel
theorem dX5_foresee_59 : decode cX5_foresee 59 = .ok (.iload_n 2, 1) := by decide +kernel
theorem dX5_foresee_60 : decode cX5_foresee 60 = .ok (.invokevirtual 158, 3) := by decide +kernel
theorem dX5_foresee_63 : decode cX5_foresee 63 = .ok (.istore_n 3, 1) := by decide +kernel
theorem dX5_foresee_64 : decode cX5_foresee 64 = .ok (.aload_n 0, 1) := by decide +kernel
theorem dX5_foresee_65 : decode cX5_foresee 65 = .ok (.invokevirtual 171, 3) := by decide +kernel
theorem dX5_foresee_68 : decode cX5_foresee 68 = .ok (.iload_n 3, 1) := by decide +kernel
theorem dX5_foresee_69 : decode cX5_foresee 69 = .ok (.ireturn, 1) := by decide +kernel
set_option maxRecDepth 20000 in
theorem ggX5_would_X5_isPile : GoodIn wsX5_would wsX5_isPile := goodIn_r _ [7, 8, 9, 10, 6, 11, 38, 39, 40, 41, 42, 43, 44, 45, 46, 47, 48, 49, 50, 51, 52, 53, 54, 55, 56] (by decide +kernel) (by decide +kernel)
set_option maxRecDepth 20000 in
theorem gX5_would_X5_isPile : GoodIn wsX5_would (wsV RX5 105 RX5 yX5_isPile wsX5_isPile) := goodIn_app (goodIn_of _ (by decide +kernel)) ggX5_would_X5_isPile
set_option maxRecDepth 20000 in
theorem ggX5_would_X5_rusty : GoodIn wsX5_would wsX5_rusty := goodIn_r _ [15, 2, 16, 17, 18, 19, 6, 20, 21, 38, 39, 40, 41, 42, 43, 44, 45, 46, 47, 48, 49, 50, 51, 52, 53, 54, 55, 56] (by decide +kernel) (by decide +kernel)
set_option maxRecDepth 20000 in
theorem gX5_would_X5_rusty : GoodIn wsX5_would (wsV RX5 134 RX5 yX5_rusty wsX5_rusty) := goodIn_app (goodIn_of _ (by decide +kernel)) ggX5_would_X5_rusty
set_option maxRecDepth 20000 in
theorem ggX5_would_X5_layers : GoodIn wsX5_would wsX5_layers := goodIn_r _ [25, 26, 27, 28, 6, 29, 30, 31, 32, 33, 38, 39, 40, 41, 42, 43, 44, 45, 46, 47, 48, 49, 50, 51, 52, 53, 54, 55, 56] (by decide +kernel) (by decide +kernel)
set_option maxRecDepth 20000 in
theorem gX5_would_X5_layers : GoodIn wsX5_would (wsV RX5 129 RX5 yX5_layers wsX5_layers) := goodIn_app (goodIn_of _ (by decide +kernel)) ggX5_would_X5_layers
set_option maxRecDepth 20000 in
theorem ggX5_would_X5_fail : GoodIn wsX5_would wsX5_fail := goodIn_r _ [37, 1, 38, 39, 40, 41, 42, 43, 44, 45, 46, 47, 48, 49, 50, 51, 52, 53, 54, 55, 56] (by decide +kernel) (by decide +kernel)
set_option maxRecDepth 20000 in
theorem gX5_would_X5_fail : GoodIn wsX5_would (wsV RX5 92 RX5 yX5_fail wsX5_fail) := goodIn_app (goodIn_of _ (by decide +kernel)) ggX5_would_X5_fail
theorem dX5_would_0 : decode cX5_would 0 = .ok (.aload_n 0, 1) := by decide +kernel
theorem dX5_would_1 : decode cX5_would 1 = .ok (.iconst 0, 1) := by decide +kernel
theorem dX5_would_2 : decode cX5_would 2 = .ok (.putfield 53, 3) := by decide +kernel
theorem dX5_would_5 : decode cX5_would 5 = .ok (.aload_n 0, 1) := by decide +kernel
theorem dX5_would_6 : decode cX5_would 6 = .ok (.iload_n 1, 1) := by decide +kernel
theorem dX5_would_7 : decode cX5_would 7 = .ok (.invokevirtual 105, 3) := by decide +kernel
theorem dX5_would_10 : decode cX5_would 10 = .ok (.ifCond .eq 23, 3) := by decide +kernel
theorem dX5_would_13 : decode cX5_would 13 = .ok (.aload_n 0, 1) := by decide +kernel
theorem dX5_would_14 : decode cX5_would 14 = .ok (.iload_n 1, 1) := by decide +kernel
theorem dX5_would_15 : decode cX5_would 15 = .ok (.aload_n 0, 1) := by decide +kernel
theorem dX5_would_16 : decode cX5_would 16 = .ok (.getfield 23, 3) := by decide +kernel
theorem dX5_would_19 : decode cX5_would 19 = .ok (.iload_n 1, 1) := by decide +kernel
theorem dX5_would_20 : decode cX5_would 20 = .ok (.iaload, 1) := by decide +kernel
theorem dX5_would_21 : decode cX5_would 21 = .ok (.aload_n 0, 1) := by decide +kernel
theorem dX5_would_22 : decode cX5_would 22 = .ok (.iload_n 1, 1) := by decide +kernel
theorem dX5_would_23 : decode cX5_would 23 = .ok (.invokevirtual 134, 3) := by decide +kernel
theorem dX5_would_26 : decode cX5_would 26 = .ok (.isub, 1) := by decide +kernel
theorem dX5_would_27 : decode cX5_would 27 = .ok (.invokevirtual 129, 3) := by decide +kernel
theorem dX5_would_30 : decode cX5_would 30 = .ok (.goto 8, 3) := by decide +kernel
theorem dX5_would_33 : decode cX5_would 33 = .ok (.aload_n 0, 1) := by decide +kernel
theorem dX5_would_34 : decode cX5_would 34 = .ok (.iconst 1, 1) := by decide +kernel
theorem dX5_would_35 : decode cX5_would 35 = .ok (.invokevirtual 92, 3) := by decide +kernel
theorem dX5_would_38 : decode cX5_would 38 = .ok (.ireturn, 1) := by decide +kernel
set_option maxRecDepth 20000 in
theorem ggX5_advise_X5_rusty : GoodIn wsX5_advise wsX5_rusty := goodIn_r _ [8, 3, 9, 10, 11, 12, 7, 13, 14, 15, 16, 17, 18, 19, 20, 21, 22, 23, 24, 25, 26, 27, 28, 29, 30, 31, 32, 33] (by decide +kernel) (by decide +kernel)
set_option maxRecDepth 20000 in
theorem gX5_advise_X5_rusty : GoodIn wsX5_advise (wsV RX5 134 RX5 yX5_rusty wsX5_rusty) := goodIn_app (goodIn_of _ (by decide +kernel)) ggX5_advise_X5_rusty
theorem dX5_advise_0 : decode cX5_advise 0 = .ok (.aload_n 0, 1) := by decide +kernel
theorem dX5_advise_1 : decode cX5_advise 1 = .ok (.iconst 0, 1) := by decide +kernel
theorem dX5_advise_2 : decode cX5_advise 2 = .ok (.putfield 53, 3) := by decide +kernel
theorem dX5_advise_5 : decode cX5_advise 5 = .ok (.iconst (-1), 1) := by decide +kernel
theorem dX5_advise_6 : decode cX5_advise 6 = .ok (.istore_n 1, 1) := by decide +kernel
theorem dX5_advise_7 : decode cX5_advise 7 = .ok (.iconst 0, 1) := by decide +kernel
theorem dX5_advise_8 : decode cX5_advise 8 = .ok (.istore_n 2, 1) := by decide +kernel
theorem dX5_advise_9 : decode cX5_advise 9 = .ok (.iconst 0, 1) := by decide +kernel
theorem dX5_advise_10 : decode cX5_advise 10 = .ok (.istore_n 3, 1) := by decide +kernel
theorem dX5_advise_11 : decode cX5_advise 11 = .ok (.iload_n 3, 1) := by decide +kernel
theorem dX5_advise_12 : decode cX5_advise 12 = .ok (.aload_n 0, 1) := by decide +kernel
theorem dX5_advise_13 : decode cX5_advise 13 = .ok (.getfield 56, 3) := by decide +kernel
theorem dX5_advise_16 : decode cX5_advise 16 = .ok (.if_icmp .ge 56, 3) := by decide +kernel
theorem dX5_advise_19 : decode cX5_advise 19 = .ok (.aload_n 0, 1) := by decide +kernel
theorem dX5_advise_20 : decode cX5_advise 20 = .ok (.iload_n 3, 1) := by decide +kernel
theorem dX5_advise_21 : decode cX5_advise 21 = .ok (.invokevirtual 134, 3) := by decide +kernel
theorem dX5_advise_24 : decode cX5_advise 24 = .ok (.istore 4, 2) := by decide +kernel
theorem dX5_advise_26 : decode cX5_advise 26 = .ok (.iload 4, 2) := by decide +kernel
theorem dX5_advise_28 : decode cX5_advise 28 = .ok (.ifCond .eq 38, 3) := by decide +kernel
theorem dX5_advise_31 : decode cX5_advise 31 = .ok (.iload 4, 2) := by decide +kernel
theorem dX5_advise_33 : decode cX5_advise 33 = .ok (.iload_n 2, 1) := by decide +kernel
theorem dX5_advise_34 : decode cX5_advise 34 = .ok (.if_icmp .lt 32, 3) := by decide +kernel
theorem dX5_advise_37 : decode cX5_advise 37 = .ok (.iload 4, 2) := by decide +kernel
theorem dX5_advise_39 : decode cX5_advise 39 = .ok (.iload_n 2, 1) := by decide +kernel
theorem dX5_advise_40 : decode cX5_advise 40 = .ok (.if_icmp .ne 21, 3) := by decide +kernel
theorem dX5_advise_43 : decode cX5_advise 43 = .ok (.aload_n 0, 1) := by decide +kernel
theorem dX5_advise_44 : decode cX5_advise 44 = .ok (.getfield 23, 3) := by decide +kernel
theorem dX5_advise_47 : decode cX5_advise 47 = .ok (.iload_n 3, 1) := by decide +kernel
theorem dX5_advise_48 : decode cX5_advise 48 = .ok (.iaload, 1) := by decide +kernel
theorem dX5_advise_49 : decode cX5_advise 49 = .ok (.aload_n 0, 1) := by decide +kernel
theorem dX5_advise_50 : decode cX5_advise 50 = .ok (.getfield 23, 3) := by decide +kernel
theorem dX5_advise_53 : decode cX5_advise 53 = .ok (.iload_n 1, 1) := by decide +kernel
theorem dX5_advise_54 : decode cX5_advise 54 = .ok (.iaload, 1) := by decide +kernel
theorem dX5_advise_55 : decode cX5_advise 55 = .ok (.if_icmp .lt 6, 3) := by decide +kernel
theorem dX5_advise_58 : decode cX5_advise 58 = .ok (.goto 8, 3) := by decide +kernel
theorem dX5_advise_61 : decode cX5_advise 61 = .ok (.iload_n 3, 1) := by decide +kernel
theorem dX5_advise_62 : decode cX5_advise 62 = .ok (.istore_n 1, 1) := by decide +kernel
theorem dX5_advise_63 : decode cX5_advise 63 = .ok (.iload 4, 2) := by decide +kernel
theorem dX5_advise_65 : decode cX5_advise 65 = .ok (.istore_n 2, 1) := by decide +kernel
theorem dX5_advise_66 : decode cX5_advise 66 = .ok (.iinc 3 1, 3) := by decide +kernel
theorem dX5_advise_69 : decode cX5_advise 69 = .ok (.goto (-58), 3) := by decide +kernel
theorem dX5_advise_72 : decode cX5_advise 72 = .ok (.iload_n 1, 1) := by decide +kernel
theorem dX5_advise_73 : decode cX5_advise 73 = .ok (.ireturn, 1) := by decide +kernel
set_option maxRecDepth 20000 in
theorem ggX5_mean_X5_pileTold : GoodIn wsX5_mean wsX5_pileTold := goodIn_r _ [7, 8, 9, 10, 11, 12, 13, 14, 15, 16, 6, 17, 18, 19, 20, 21, 22, 23, 24, 25, 26, 27, 28, 29, 30, 31, 32, 33, 34, 35, 36, 37, 38, 39, 40, 41, 42, 43, 44, 45, 46, 47, 48, 49, 50, 51, 52, 53, 54, 55, 56, 57, 58, 72, 73, 74, 75, 76, 77, 78, 79, 80, 81, 82, 83, 84, 85, 86, 87, 88, 89, 90] (by decide +kernel) (by decide +kernel)
set_option maxRecDepth 20000 in
theorem gX5_mean_X5_pileTold : GoodIn wsX5_mean (wsV RX5 140 RX5 yX5_pileTold wsX5_pileTold) := goodIn_app (goodIn_of _ (by decide +kernel)) ggX5_mean_X5_pileTold
set_option maxRecDepth 20000 in
theorem ggX5_mean_X5_all : GoodIn wsX5_mean wsX5_all := goodIn_r _ [62, 63, 64, 65, 6, 66, 67, 68, 69, 70, 71, 2, 8, 10, 72, 73, 74, 75, 76, 77, 78, 79, 80, 81, 82, 83, 84, 85, 86, 87, 88, 89, 90] (by decide +kernel) (by decide +kernel)
set_option maxRecDepth 20000 in
theorem gX5_mean_X5_all : GoodIn wsX5_mean (wsV RX5 155 RX5 yX5_all wsX5_all) := goodIn_app (goodIn_of _ (by decide +kernel)) ggX5_mean_X5_all
theorem dX5_mean_0 : decode cX5_mean 0 = .ok (.aload_n 0, 1) := by decide +kernel
theorem dX5_mean_1 : decode cX5_mean 1 = .ok (.iconst 0, 1) := by decide +kernel
theorem dX5_mean_2 : decode cX5_mean 2 = .ok (.putfield 53, 3) := by decide +kernel
theorem dX5_mean_5 : decode cX5_mean 5 = .ok (.iconst 0, 1) := by decide +kernel
theorem dX5_mean_6 : decode cX5_mean 6 = .ok (.istore_n 1, 1) := by decide +kernel
theorem dX5_mean_7 : decode cX5_mean 7 = .ok (.iconst 0, 1) := by decide +kernel
theorem dX5_mean_8 : decode cX5_mean 8 = .ok (.istore_n 2, 1) := by decide +kernel
theorem dX5_mean_9 : decode cX5_mean 9 = .ok (.iload_n 2, 1) := by decide +kernel
theorem dX5_mean_10 : decode cX5_mean 10 = .ok (.aload_n 0, 1) := by decide +kernel
theorem dX5_mean_11 : decode cX5_mean 11 = .ok (.getfield 56, 3) := by decide +kernel
theorem dX5_mean_14 : decode cX5_mean 14 = .ok (.if_icmp .ge 19, 3) := by decide +kernel
theorem dX5_mean_17 : decode cX5_mean 17 = .ok (.iload_n 1, 1) := by decide +kernel
theorem dX5_mean_18 : decode cX5_mean 18 = .ok (.aload_n 0, 1) := by decide +kernel
theorem dX5_mean_19 : decode cX5_mean 19 = .ok (.iload_n 2, 1) := by decide +kernel
theorem dX5_mean_20 : decode cX5_mean 20 = .ok (.bipush 9, 2) := by decide +kernel
theorem dX5_mean_22 : decode cX5_mean 22 = .ok (.invokevirtual 140, 3) := by decide +kernel
theorem dX5_mean_25 : decode cX5_mean 25 = .ok (.iadd, 1) := by decide +kernel
theorem dX5_mean_26 : decode cX5_mean 26 = .ok (.istore_n 1, 1) := by decide +kernel
theorem dX5_mean_27 : decode cX5_mean 27 = .ok (.iinc 2 1, 3) := by decide +kernel
theorem dX5_mean_30 : decode cX5_mean 30 = .ok (.goto (-21), 3) := by decide +kernel
theorem dX5_mean_33 : decode cX5_mean 33 = .ok (.aload_n 0, 1) := by decide +kernel
theorem dX5_mean_34 : decode cX5_mean 34 = .ok (.iconst 2, 1) := by decide +kernel
theorem dX5_mean_35 : decode cX5_mean 35 = .ok (.invokevirtual 155, 3) := by decide +kernel
theorem dX5_mean_38 : decode cX5_mean 38 = .ok (.ifCond .ne 7, 3) := by decide +kernel
theorem dX5_mean_41 : decode cX5_mean 41 = .ok (.dconst 0, 1) := by decide +kernel
theorem dX5_mean_42 : decode cX5_mean 42 = .ok (.goto 12, 3) := by decide +kernel
theorem dX5_mean_45 : decode cX5_mean 45 = .ok (.iload_n 1, 1) := by decide +kernel
theorem dX5_mean_46 : decode cX5_mean 46 = .ok (.i2d, 1) := by decide +kernel
theorem dX5_mean_47 : decode cX5_mean 47 = .ok (.aload_n 0, 1) := by decide +kernel
theorem dX5_mean_48 : decode cX5_mean 48 = .ok (.iconst 2, 1) := by decide +kernel
theorem dX5_mean_49 : decode cX5_mean 49 = .ok (.invokevirtual 155, 3) := by decide +kernel
theorem dX5_mean_52 : decode cX5_mean 52 = .ok (.i2d, 1) := by decide +kernel
theorem dX5_mean_53 : decode cX5_mean 53 = .ok (.ddiv, 1) := by decide +kernel
theorem dX5_mean_54 : decode cX5_mean 54 = .ok (.dreturn, 1) := by decide +kernel
set_option maxRecDepth 20000 in
theorem ggX5_digest_X5_counted : GoodIn wsX5_digest wsX5_counted := goodIn_r _ [11, 12, 4, 6, 13, 14, 15, 16, 17, 10, 18, 19, 20, 21, 22, 23, 24, 25, 26, 27, 28, 5, 29, 30, 31, 32, 33, 34, 35, 36, 37, 88, 89, 90, 91, 92, 93, 94, 95, 96, 97, 98, 99, 100, 101, 102, 103, 104, 105, 106] (by decide +kernel) (by decide +kernel)
set_option maxRecDepth 20000 in
theorem gX5_digest_X5_counted : GoodIn wsX5_digest (wsV RX5 158 RX5 yX5_counted wsX5_counted) := goodIn_app (goodIn_of _ (by decide +kernel)) ggX5_digest_X5_counted
set_option maxRecDepth 20000 in
theorem ggX5_digest_X5_calibreTold : GoodIn wsX5_digest wsX5_calibreTold := goodIn_r _ [22, 23, 24, 25, 26, 10, 27, 4, 28, 5, 88, 89, 90, 91, 92, 93, 94, 95, 96, 97, 98, 99, 100, 101, 102, 103, 104, 105, 106] (by decide +kernel) (by decide +kernel)
set_option maxRecDepth 20000 in
theorem gX5_digest_X5_calibreTold : GoodIn wsX5_digest (wsV RX5 146 RX5 yX5_calibreTold wsX5_calibreTold) := goodIn_app (goodIn_of _ (by decide +kernel)) ggX5_digest_X5_calibreTold
set_option maxRecDepth 20000 in
theorem ggX5_digest_X5_pileTold : GoodIn wsX5_digest wsX5_pileTold := goodIn_r _ [41, 28, 42, 5, 43, 44, 45, 46, 47, 48, 10, 49, 50, 51, 52, 53, 54, 55, 56, 57, 58, 59, 60, 61, 62, 63, 64, 65, 66, 67, 68, 69, 70, 71, 72, 73, 74, 75, 76, 77, 78, 79, 80, 29, 30, 31, 32, 14, 33, 34, 35, 36, 37, 88, 89, 90, 91, 92, 93, 94, 95, 96, 97, 98, 99, 100, 101, 102, 103, 104, 105, 106] (by decide +kernel) (by decide +kernel)
set_option maxRecDepth 20000 in
theorem gX5_digest_X5_pileTold : GoodIn wsX5_digest (wsV RX5 140 RX5 yX5_pileTold wsX5_pileTold) := goodIn_app (goodIn_of _ (by decide +kernel)) ggX5_digest_X5_pileTold
set_option maxRecDepth 20000 in
theorem ggX5_digest_X5_rustOf : GoodIn wsX5_digest wsX5_rustOf := goodIn_r _ [36, 37, 88, 89, 90, 91, 92, 93, 94, 95, 96, 97, 98, 99, 100, 101, 102, 103, 104, 105, 106] (by decide +kernel) (by decide +kernel)
set_option maxRecDepth 20000 in
theorem gX5_digest_X5_rustOf : GoodIn wsX5_digest (wsV RX5 118 RX5 yX5_rustOf wsX5_rustOf) := goodIn_app (goodIn_of _ (by decide +kernel)) ggX5_digest_X5_rustOf
set_option maxRecDepth 20000 in
theorem ggX5_digest_X5_catTold : GoodIn wsX5_digest wsX5_catTold := goodIn_r _ [84, 85, 86, 87, 88, 89, 90, 91, 92, 93, 94, 95, 96, 97, 98, 99, 100, 101, 102, 103, 104, 105, 106] (by decide +kernel) (by decide +kernel)
set_option maxRecDepth 20000 in
theorem gX5_digest_X5_catTold : GoodIn wsX5_digest (wsV RX5 149 RX5 yX5_catTold wsX5_catTold) := goodIn_app (goodIn_of _ (by decide +kernel)) ggX5_digest_X5_catTold
theorem dX5_digest_0 : decode cX5_digest 0 = .ok (.aload_n 0, 1) := by decide +kernel
theorem dX5_digest_1 : decode cX5_digest 1 = .ok (.iconst 0, 1) := by decide +kernel
theorem dX5_digest_2 : decode cX5_digest 2 = .ok (.putfield 53, 3) := by decide +kernel
theorem dX5_digest_5 : decode cX5_digest 5 = .ok (.ldc2_w 174, 3) := by decide +kernel
theorem dX5_digest_8 : decode cX5_digest 8 = .ok (.lstore_n 1, 1) := by decide +kernel
theorem dX5_digest_9 : decode cX5_digest 9 = .ok (.iconst 0, 1) := by decide +kernel
theorem dX5_digest_10 : decode cX5_digest 10 = .ok (.istore_n 3, 1) := by decide +kernel
theorem dX5_digest_11 : decode cX5_digest 11 = .ok (.iload_n 3, 1) := by decide +kernel
theorem dX5_digest_12 : decode cX5_digest 12 = .ok (.bipush 11, 2) := by decide +kernel
theorem dX5_digest_14 : decode cX5_digest 14 = .ok (.if_icmp .ge 22, 3) := by decide +kernel
theorem dX5_digest_17 : decode cX5_digest 17 = .ok (.lload_n 1, 1) := by decide +kernel
theorem dX5_digest_18 : decode cX5_digest 18 = .ok (.ldc2_w 176, 3) := by decide +kernel
theorem dX5_digest_21 : decode cX5_digest 21 = .ok (.lmul, 1) := by decide +kernel
theorem dX5_digest_22 : decode cX5_digest 22 = .ok (.aload_n 0, 1) := by decide +kernel
theorem dX5_digest_23 : decode cX5_digest 23 = .ok (.iload_n 3, 1) := by decide +kernel
theorem dX5_digest_24 : decode cX5_digest 24 = .ok (.invokevirtual 158, 3) := by decide +kernel
theorem dX5_digest_27 : decode cX5_digest 27 = .ok (.i2l, 1) := by decide +kernel
theorem dX5_digest_28 : decode cX5_digest 28 = .ok (.ladd, 1) := by decide +kernel
theorem dX5_digest_29 : decode cX5_digest 29 = .ok (.lstore_n 1, 1) := by decide +kernel
theorem dX5_digest_30 : decode cX5_digest 30 = .ok (.iinc 3 1, 3) := by decide +kernel
theorem dX5_digest_33 : decode cX5_digest 33 = .ok (.goto (-22), 3) := by decide +kernel
theorem dX5_digest_36 : decode cX5_digest 36 = .ok (.iconst 0, 1) := by decide +kernel
theorem dX5_digest_37 : decode cX5_digest 37 = .ok (.istore_n 3, 1) := by decide +kernel
theorem dX5_digest_38 : decode cX5_digest 38 = .ok (.iload_n 3, 1) := by decide +kernel
theorem dX5_digest_39 : decode cX5_digest 39 = .ok (.iconst 5, 1) := by decide +kernel
theorem dX5_digest_40 : decode cX5_digest 40 = .ok (.if_icmp .ge 39, 3) := by decide +kernel
theorem dX5_digest_43 : decode cX5_digest 43 = .ok (.iconst 0, 1) := by decide +kernel
theorem dX5_digest_44 : decode cX5_digest 44 = .ok (.istore 4, 2) := by decide +kernel
theorem dX5_digest_46 : decode cX5_digest 46 = .ok (.iload 4, 2) := by decide +kernel
theorem dX5_digest_48 : decode cX5_digest 48 = .ok (.iconst 5, 1) := by decide +kernel
theorem dX5_digest_49 : decode cX5_digest 49 = .ok (.if_icmp .ge 24, 3) := by decide +kernel
theorem dX5_digest_52 : decode cX5_digest 52 = .ok (.lload_n 1, 1) := by decide +kernel
theorem dX5_digest_53 : decode cX5_digest 53 = .ok (.ldc2_w 176, 3) := by decide +kernel
theorem dX5_digest_56 : decode cX5_digest 56 = .ok (.lmul, 1) := by decide +kernel
theorem dX5_digest_57 : decode cX5_digest 57 = .ok (.aload_n 0, 1) := by decide +kernel
theorem dX5_digest_58 : decode cX5_digest 58 = .ok (.iload_n 3, 1) := by decide +kernel
theorem dX5_digest_59 : decode cX5_digest 59 = .ok (.iload 4, 2) := by decide +kernel
theorem dX5_digest_61 : decode cX5_digest 61 = .ok (.invokevirtual 146, 3) := by decide +kernel
theorem dX5_digest_64 : decode cX5_digest 64 = .ok (.i2l, 1) := by decide +kernel
theorem dX5_digest_65 : decode cX5_digest 65 = .ok (.ladd, 1) := by decide +kernel
theorem dX5_digest_66 : decode cX5_digest 66 = .ok (.lstore_n 1, 1) := by decide +kernel
theorem dX5_digest_67 : decode cX5_digest 67 = .ok (.iinc 4 1, 3) := by decide +kernel
theorem dX5_digest_70 : decode cX5_digest 70 = .ok (.goto (-24), 3) := by decide +kernel
theorem dX5_digest_73 : decode cX5_digest 73 = .ok (.iinc 3 1, 3) := by decide +kernel
theorem dX5_digest_76 : decode cX5_digest 76 = .ok (.goto (-38), 3) := by decide +kernel
theorem dX5_digest_79 : decode cX5_digest 79 = .ok (.iconst 0, 1) := by decide +kernel
theorem dX5_digest_80 : decode cX5_digest 80 = .ok (.istore_n 3, 1) := by decide +kernel
theorem dX5_digest_81 : decode cX5_digest 81 = .ok (.iload_n 3, 1) := by decide +kernel
theorem dX5_digest_82 : decode cX5_digest 82 = .ok (.aload_n 0, 1) := by decide +kernel
theorem dX5_digest_83 : decode cX5_digest 83 = .ok (.getfield 56, 3) := by decide +kernel
theorem dX5_digest_86 : decode cX5_digest 86 = .ok (.if_icmp .ge 75, 3) := by decide +kernel
theorem dX5_digest_89 : decode cX5_digest 89 = .ok (.iconst 0, 1) := by decide +kernel
theorem dX5_digest_90 : decode cX5_digest 90 = .ok (.istore 4, 2) := by decide +kernel
theorem dX5_digest_92 : decode cX5_digest 92 = .ok (.iload 4, 2) := by decide +kernel
theorem dX5_digest_94 : decode cX5_digest 94 = .ok (.bipush 10, 2) := by decide +kernel
theorem dX5_digest_96 : decode cX5_digest 96 = .ok (.if_icmp .ge 24, 3) := by decide +kernel
theorem dX5_digest_99 : decode cX5_digest 99 = .ok (.lload_n 1, 1) := by decide +kernel
theorem dX5_digest_100 : decode cX5_digest 100 = .ok (.ldc2_w 176, 3) := by decide +kernel
theorem dX5_digest_103 : decode cX5_digest 103 = .ok (.lmul, 1) := by decide +kernel
theorem dX5_digest_104 : decode cX5_digest 104 = .ok (.aload_n 0, 1) := by decide +kernel
theorem dX5_digest_105 : decode cX5_digest 105 = .ok (.iload_n 3, 1) := by decide +kernel
theorem dX5_digest_106 : decode cX5_digest 106 = .ok (.iload 4, 2) := by decide +kernel
theorem dX5_digest_108 : decode cX5_digest 108 = .ok (.invokevirtual 140, 3) := by decide +kernel
theorem dX5_digest_111 : decode cX5_digest 111 = .ok (.i2l, 1) := by decide +kernel
theorem dX5_digest_112 : decode cX5_digest 112 = .ok (.ladd, 1) := by decide +kernel
theorem dX5_digest_113 : decode cX5_digest 113 = .ok (.lstore_n 1, 1) := by decide +kernel
theorem dX5_digest_114 : decode cX5_digest 114 = .ok (.iinc 4 1, 3) := by decide +kernel
theorem dX5_digest_117 : decode cX5_digest 117 = .ok (.goto (-25), 3) := by decide +kernel
theorem dX5_digest_120 : decode cX5_digest 120 = .ok (.iconst 0, 1) := by decide +kernel
theorem dX5_digest_121 : decode cX5_digest 121 = .ok (.istore 4, 2) := by decide +kernel
theorem dX5_digest_123 : decode cX5_digest 123 = .ok (.iload 4, 2) := by decide +kernel
theorem dX5_digest_125 : decode cX5_digest 125 = .ok (.aload_n 0, 1) := by decide +kernel
theorem dX5_digest_126 : decode cX5_digest 126 = .ok (.getfield 23, 3) := by decide +kernel
theorem dX5_digest_129 : decode cX5_digest 129 = .ok (.iload_n 3, 1) := by decide +kernel
theorem dX5_digest_130 : decode cX5_digest 130 = .ok (.iaload, 1) := by decide +kernel
theorem dX5_digest_131 : decode cX5_digest 131 = .ok (.if_icmp .ge 24, 3) := by decide +kernel
theorem dX5_digest_134 : decode cX5_digest 134 = .ok (.lload_n 1, 1) := by decide +kernel
theorem dX5_digest_135 : decode cX5_digest 135 = .ok (.ldc2_w 176, 3) := by decide +kernel
theorem dX5_digest_138 : decode cX5_digest 138 = .ok (.lmul, 1) := by decide +kernel
theorem dX5_digest_139 : decode cX5_digest 139 = .ok (.aload_n 0, 1) := by decide +kernel
theorem dX5_digest_140 : decode cX5_digest 140 = .ok (.iload_n 3, 1) := by decide +kernel
theorem dX5_digest_141 : decode cX5_digest 141 = .ok (.iload 4, 2) := by decide +kernel
theorem dX5_digest_143 : decode cX5_digest 143 = .ok (.invokevirtual 118, 3) := by decide +kernel
theorem dX5_digest_146 : decode cX5_digest 146 = .ok (.i2l, 1) := by decide +kernel
theorem dX5_digest_147 : decode cX5_digest 147 = .ok (.ladd, 1) := by decide +kernel
theorem dX5_digest_148 : decode cX5_digest 148 = .ok (.lstore_n 1, 1) := by decide +kernel
theorem dX5_digest_149 : decode cX5_digest 149 = .ok (.iinc 4 1, 3) := by decide +kernel
theorem dX5_digest_152 : decode cX5_digest 152 = .ok (.goto (-29), 3) := by decide +kernel
theorem dX5_digest_155 : decode cX5_digest 155 = .ok (.iinc 3 1, 3) := by decide +kernel
theorem dX5_digest_158 : decode cX5_digest 158 = .ok (.goto (-77), 3) := by decide +kernel
theorem dX5_digest_161 : decode cX5_digest 161 = .ok (.iconst 0, 1) := by decide +kernel
theorem dX5_digest_162 : decode cX5_digest 162 = .ok (.istore_n 3, 1) := by decide +kernel
theorem dX5_digest_163 : decode cX5_digest 163 = .ok (.iload_n 3, 1) := by decide +kernel
theorem dX5_digest_164 : decode cX5_digest 164 = .ok (.aload_n 0, 1) := by decide +kernel
theorem dX5_digest_165 : decode cX5_digest 165 = .ok (.getfield 95, 3) := by decide +kernel
theorem dX5_digest_168 : decode cX5_digest 168 = .ok (.if_icmp .ge 39, 3) := by decide +kernel
theorem dX5_digest_171 : decode cX5_digest 171 = .ok (.iconst 0, 1) := by decide +kernel
theorem dX5_digest_172 : decode cX5_digest 172 = .ok (.istore 4, 2) := by decide +kernel
theorem dX5_digest_174 : decode cX5_digest 174 = .ok (.iload 4, 2) := by decide +kernel
theorem dX5_digest_176 : decode cX5_digest 176 = .ok (.iconst 3, 1) := by decide +kernel
theorem dX5_digest_177 : decode cX5_digest 177 = .ok (.if_icmp .ge 24, 3) := by decide +kernel
theorem dX5_digest_180 : decode cX5_digest 180 = .ok (.lload_n 1, 1) := by decide +kernel
theorem dX5_digest_181 : decode cX5_digest 181 = .ok (.ldc2_w 176, 3) := by decide +kernel
theorem dX5_digest_184 : decode cX5_digest 184 = .ok (.lmul, 1) := by decide +kernel
theorem dX5_digest_185 : decode cX5_digest 185 = .ok (.aload_n 0, 1) := by decide +kernel
theorem dX5_digest_186 : decode cX5_digest 186 = .ok (.iload_n 3, 1) := by decide +kernel
theorem dX5_digest_187 : decode cX5_digest 187 = .ok (.iload 4, 2) := by decide +kernel
theorem dX5_digest_189 : decode cX5_digest 189 = .ok (.invokevirtual 149, 3) := by decide +kernel
theorem dX5_digest_192 : decode cX5_digest 192 = .ok (.i2l, 1) := by decide +kernel
theorem dX5_digest_193 : decode cX5_digest 193 = .ok (.ladd, 1) := by decide +kernel
theorem dX5_digest_194 : decode cX5_digest 194 = .ok (.lstore_n 1, 1) := by decide +kernel
theorem dX5_digest_195 : decode cX5_digest 195 = .ok (.iinc 4 1, 3) := by decide +kernel
theorem dX5_digest_198 : decode cX5_digest 198 = .ok (.goto (-24), 3) := by decide +kernel
theorem dX5_digest_201 : decode cX5_digest 201 = .ok (.iinc 3 1, 3) := by decide +kernel
theorem dX5_digest_204 : decode cX5_digest 204 = .ok (.goto (-41), 3) := by decide +kernel
theorem dX5_digest_207 : decode cX5_digest 207 = .ok (.lload_n 1, 1) := by decide +kernel
theorem dX5_digest_208 : decode cX5_digest 208 = .ok (.lreturn, 1) := by decide +kernel
theorem dJ9_max_7cf53_0 : decode cJ9_max_7cf53 0 = .ok (.iload_n 0, 1) := by decide +kernel
theorem dJ9_max_7cf53_1 : decode cJ9_max_7cf53 1 = .ok (.iload_n 1, 1) := by decide +kernel
theorem dJ9_max_7cf53_2 : decode cJ9_max_7cf53 2 = .ok (.if_icmp .lt 7, 3) := by decide +kernel
theorem dJ9_max_7cf53_5 : decode cJ9_max_7cf53 5 = .ok (.iload_n 0, 1) := by decide +kernel
theorem dJ9_max_7cf53_6 : decode cJ9_max_7cf53 6 = .ok (.goto 4, 3) := by decide +kernel
theorem dJ9_max_7cf53_9 : decode cJ9_max_7cf53 9 = .ok (.iload_n 1, 1) := by decide +kernel
theorem dJ9_max_7cf53_10 : decode cJ9_max_7cf53 10 = .ok (.ireturn, 1) := by decide +kernel
theorem dJ9_min_7cf53_0 : decode cJ9_min_7cf53 0 = .ok (.iload_n 0, 1) := by decide +kernel
theorem dJ9_min_7cf53_1 : decode cJ9_min_7cf53 1 = .ok (.iload_n 1, 1) := by decide +kernel
theorem dJ9_min_7cf53_2 : decode cJ9_min_7cf53 2 = .ok (.if_icmp .gt 7, 3) := by decide +kernel
theorem dJ9_min_7cf53_5 : decode cJ9_min_7cf53 5 = .ok (.iload_n 0, 1) := by decide +kernel
theorem dJ9_min_7cf53_6 : decode cJ9_min_7cf53 6 = .ok (.goto 4, 3) := by decide +kernel
theorem dJ9_min_7cf53_9 : decode cJ9_min_7cf53 9 = .ok (.iload_n 1, 1) := by decide +kernel
theorem dJ9_min_7cf53_10 : decode cJ9_min_7cf53 10 = .ok (.ireturn, 1) := by decide +kernel
end
section
/-! ===== CORE: ints as integers; the judgement GW over a world; a row an instruction ===== -/
def zI (z : Int) : Int32 := Int32.ofInt z
theorem zI_add (a b : Int) : zI a + zI b = zI (a + b) := (Int32.ofInt_add a b).symm
theorem zI_sub (a b : Int) : zI a - zI b = zI (a - b) := (Int32.ofInt_sub a b).symm
theorem zI_mul (a b : Int) : zI a * zI b = zI (a * b) := (Int32.ofInt_mul a b).symm
theorem zI_neg (a : Int) : - zI a = zI (- a) := (Int32.ofInt_neg a).symm
theorem zI_nI (n : Nat) : nI n = zI n := Int32.ofInt_eq_ofNat.symm
theorem zI_self (x : Int32) : zI x.toInt = x := Int32.ofInt_toInt x
theorem zI_toInt {z : Int} (h : -2147483648 ≤ z ∧ z < 2147483648) : (zI z).toInt = z := Int32.toInt_ofInt_of_le (by omega) (by omega)
theorem zI_cl {z : Int} (h : -2147483648 ≤ z ∧ z < 2147483648) : (zI z).toNatClampNeg = z.toNat := by
  show (zI z).toInt.toNat = z.toNat
  rw [zI_toInt h]
theorem i32_rng (x : Int32) : -2147483648 ≤ x.toInt ∧ x.toInt < 2147483648 := ⟨by have := Int32.le_toInt x; omega, by have := Int32.toInt_lt x; omega⟩
theorem zI_lt {a b : Int} (ha : -2147483648 ≤ a ∧ a < 2147483648) (hb : -2147483648 ≤ b ∧ b < 2147483648) : zI a < zI b ↔ a < b := by
  rw [Int32.lt_iff_toInt_lt, zI_toInt ha, zI_toInt hb]
theorem zI_le {a b : Int} (ha : -2147483648 ≤ a ∧ a < 2147483648) (hb : -2147483648 ≤ b ∧ b < 2147483648) : zI a ≤ zI b ↔ a ≤ b := by
  rw [Int32.le_iff_toInt_le, zI_toInt ha, zI_toInt hb]
theorem zI_eq {a b : Int} (ha : -2147483648 ≤ a ∧ a < 2147483648) (hb : -2147483648 ≤ b ∧ b < 2147483648) : zI a = zI b ↔ a = b := by
  rw [← Int32.toInt_inj, zI_toInt ha, zI_toInt hb]
theorem zI_in {a : Int} {n : Nat} (h : 0 ≤ a ∧ a < n) (hn : n ≤ 2147483648) : vp_in (zI a) n := by
  rw [vp_in_iff, zI_toInt (by omega)]
  exact h
theorem zI_div {a b : Int} (ha : 0 ≤ a ∧ a < 2147483648) (hb : 0 < b ∧ b < 2147483648) : zI a / zI b = zI (a / b) := by
  have h0 : zI b ≠ -1 := by
    intro h
    have h1 := congrArg Int32.toInt h
    rw [zI_toInt (by omega)] at h1
    have h2 : (-1 : Int32).toInt = -1 := by decide
    omega
  rw [← Int32.toInt_inj, Int32.toInt_div_of_ne_right _ _ h0, zI_toInt (by omega), zI_toInt (by omega), zI_toInt ?_, Int.tdiv_eq_ediv_of_nonneg ha.1]
  have h1 := Int.ediv_nonneg ha.1 (show 0 ≤ b by omega)
  have h2 := Int.ediv_le_self b ha.1
  omega
theorem zI_rem {a b : Int} (ha : 0 ≤ a ∧ a < 2147483648) (hb : 0 < b ∧ b < 2147483648) : zI a - zI a / zI b * zI b = zI (a % b) := by
  rw [zI_div ha hb, zI_mul, zI_sub, Int.emod_def, Int.mul_comm]
theorem zI_ne0 {b : Int} (hb : 0 < b ∧ b < 2147483648) : ¬ zI b = 0 := by
  intro h
  have h1 := congrArg Int32.toInt h
  rw [zI_toInt (by omega)] at h1
  have h2 : (0 : Int32).toInt = 0 := by decide
  omega
theorem zI_lit {n : Int} {v : Int32} (h : Int32.ofInt n = v) : v = zI n := h.symm
theorem zI_0 : zI 0 = 0 := by decide
/-- what a list of locals holds -/
def lk : List (Nat × Value) → Nat → Option Value
  | [], _ => none
  | (j, v) :: t, i => bif Nat.beq j i then some v else lk t i
theorem nbeq_f {j i : Nat} (e : ¬ j = i) : Nat.beq j i = false := by
  cases hq : Nat.beq j i with
  | false => rfl
  | true => exact absurd (Nat.eq_of_beq_eq_true hq) e
theorem lk_s {j : Nat} {w : Value} {t : List (Nat × Value)} : lk ((j, w) :: t) j = some w := by
  show (bif Nat.beq j j then some w else lk t j) = some w
  rw [Nat.beq_refl]; rfl
theorem lk_n {j i : Nat} {w : Value} {t : List (Nat × Value)} (e : ¬ j = i) : lk ((j, w) :: t) i = lk t i := by
  show (bif Nat.beq j i then some w else lk t i) = lk t i
  rw [nbeq_f e]; rfl
theorem lk_place {v : Value} {i : Nat} : ∀ {l : List (Nat × Value)}, lk l i = some v → ∃ k : Nat, l[k]? = some (i, v)
  | [], h => by cases h
  | (j, w) :: t, hk => by
    by_cases e : j = i
    · subst e
      rw [lk_s] at hk
      exact ⟨0, by rw [← Option.some.inj hk]; rfl⟩
    · rw [lk_n e] at hk
      obtain ⟨k, h⟩ := lk_place hk
      exact ⟨k + 1, h⟩
theorem lk_at {ls : Array Slot} {nL : Nat} {v : Value} {i : Nat} {l : List (Nat × Value)} (h : lv_has ls nL l) (hk : lk l i = some v) : ls[i]? = some (.val v) := by
  obtain ⟨k, hk⟩ := lk_place hk
  exact lv_at h k hk
def lput1 (l : List (Nat × Value)) (i : Nat) (v : Value) : List (Nat × Value) := (i, v) :: l.filter (fun q => !(q.1 == i) && !(q.1 + 1 == i && q.2.category == 2))
def lput2 (l : List (Nat × Value)) (i : Nat) (v : Value) : List (Nat × Value) := (i, v) :: l.filter (fun q => !(q.1 == i) && (!(q.1 == i + 1) && !(q.1 + 1 == i && q.2.category == 2)))
def lsub (l : List (Nat × Value)) : List (Nat × Value) → Prop
  | [] => True
  | (i, v) :: t => lk l i = some v ∧ lsub l t
theorem lsub_has {ls : Array Slot} {nL : Nat} {l : List (Nat × Value)} (h : lv_has ls nL l) : ∀ {l' : List (Nat × Value)}, lsub l l' → lv_has ls nL l'
  | [], _ => ⟨h.1, h.2.1, fun q hq => nomatch hq⟩
  | (i, v) :: t, hs => ⟨h.1, h.2.1, fun q hq => by
      rcases List.mem_cons.mp hq with e | e
      · subst e
        exact lk_at h hs.1
      · exact (lsub_has h hs.2).2.2 q e⟩
abbrev gT : Type := List (ClassId × FieldType)
def nestW : Cond := .methodLinkNest RX3 94 yX4_sum "CannonStacks"
def gK (D : va_G) (tys : gT) (U : State) : Prop := va_K D vwCl tys U ∧ va_Nw nestW U
theorem gK.moved {D : va_G} {tys : gT} {s U : State} (hW : s.WarmedH U.vm) (h : gK D tys s) : gK D tys U := ⟨va_K.moved hW.alike h.1, va_Nw.warmM hW h.2⟩
theorem gK.calling {D : va_G} {tys : gT} {U : State} (h : gK D tys U) (g : JFrame) (mk : MethodId) (a : Array Value) : gK D tys (U.calling g mk a) := ⟨va_K.moved (u := U) (U := U.calling g mk a) (Vm.Alike.refl U.vm) h.1, va_Nw.same (w := nestW) rfl (u := U) (U := U.calling g mk a) rfl h.2⟩
/-- a method's start: its arguments, the tables, the world -/
def PcG (D : va_G) (tys : gT) (A : Nat → Prop) (ws : va_W) (As : List Value) : Array Value → State → Prop := va_Pc As (fun U => va_P D vwCl ws U.heap ∧ gK D tys U ∧ va_D A ws)
def gB (D : va_G) (A : Nat → Prop) (ws : va_W) (t : State) : Prop := va_P D vwCl ws t.heap ∧ va_D A ws
theorem PcG.blind {D : va_G} {tys : gT} {A : Nat → Prop} {ws : va_W} {As : List Value} : FrameBlind (PcG D tys A ws As) := fun _ _ g mk h => ⟨h.1, h.2.1, h.2.2.1.calling g mk _, h.2.2.2⟩
theorem PcG.at {D : va_G} {tys : gT} {A : Nat → Prop} {ws : va_W} {As : List Value} {s U : State} {H : Heap} (hU : U.heap = H) (hW : s.WarmedH U.vm) (hP : va_P D vwCl ws H) (hK : gK D tys s) (hD : va_D A ws) : PcG D tys A ws As As.toArray U := ⟨rfl, by rw [hU]; exact hP, hK.moved hW, hD⟩
/-- what holds all along a method's body -/
def GE (p : Program) (s : State) (m : MethodId) (args : Array Value) (meth : Method) (c : Code) (D : va_G) (tys : gT) (cc : ByteArray) (nL : Nat) (own : String) (Ts : List Cond) (ret : Option FieldType) : Prop :=
  p.tables.exec = Jvm.exec ∧ c.code = cc ∧ c.maxLocals = nL ∧ s.vm.findClass own = some m.cls ∧ (∀ w ∈ Ts, w.before args s = true) ∧ gK D tys s ∧ meth.sig.returnType = ret ∧ meth.locks = false
/-- from any heap that holds the world ws and any frame that holds the locals lv, the machine comes to Q -/
def GW (p : Program) (l : Launch) (e : Env) (R : Room) (s : State) (m : MethodId) (args : Array Value) (below : List Frame) (meth : Method) (c : Code) (Q : State → Prop) (D : va_G) (A : Nat → Prop) (nL : Nat) (ws : va_W) (cells slots pc : Nat) (lv : List (Nat × Value)) (st : List Value) : Prop :=
  ∀ (H : Heap) (locs : List Loc) (ls : Array Slot), va_P D vwCl ws H → va_D A ws → va_S A s.heap H locs → lv_has ls nL lv → W p l e R s m args below meth c H locs cells slots Q (F0 m pc ls st)
section GG
variable {p : Program} {l : Launch} {e : Env} {R : Room} {s : State} {m : MethodId} {args : Array Value} {below : List Frame} {meth : Method} {c : Code} {Q : State → Prop} {D : va_G} {tys : gT} {A : Nat → Prop} {nL : Nat} {ws : va_W} {cells slots pc : Nat} {lv : List (Nat × Value)} {st : List Value} {cc : ByteArray} {own : String} {Ts : List Cond} {ret : Option FieldType}
theorem g_loc {lv' : List (Nat × Value)} (h : lsub lv lv') (kk : GW p l e R s m args below meth c Q D A nL ws cells slots pc lv' st) : GW p l e R s m args below meth c Q D A nL ws cells slots pc lv st :=
  fun H locs ls hP hD hS hl => kk H locs ls hP hD hS (lsub_has hl h)
theorem g_st {st' : List Value} {lv' : List (Nat × Value)} {ws' : va_W} (h1 : ws = ws') (h2 : lv = lv') (h3 : st = st') (kk : GW p l e R s m args below meth c Q D A nL ws' cells slots pc lv' st') : GW p l e R s m args below meth c Q D A nL ws cells slots pc lv st := by
  subst h1; subst h2; subst h3; exact kk
theorem g_wid {k n : Nat} (h1 : cells ≤ k) (h2 : slots ≤ n) (kk : GW p l e R s m args below meth c Q D A nL ws k n pc lv st) : GW p l e R s m args below meth c Q D A nL ws cells slots pc lv st :=
  fun H locs ls hP hD hS hl => W.widen h1 h2 (kk H locs ls hP hD hS hl)
theorem g_top {v v' : Value} {rest : List Value} (h : v = v') (kk : GW p l e R s m args below meth c Q D A nL ws cells slots pc lv (v' :: rest)) : GW p l e R s m args below meth c Q D A nL ws cells slots pc lv (v :: rest) := by
  subst h; exact kk
-- loads and stores
theorem g_iload_n (E : GE p s m args meth c D tys cc nL own Ts ret) {k : Fin 4} {v : Int32} (hdg : decode cc pc = .ok (.iload_n k, 1)) (hl : lk lv k = some (.int v)) (kk : GW p l e R s m args below meth c Q D A nL ws cells slots (pc + 1) lv (.int v :: st)) : GW p l e R s m args below meth c Q D A nL ws cells slots pc lv st :=
  fun H locs ls hP hD hS h => lv_iload_n E.1 E.2.1 hdg rfl (lk_at h hl) (kk H locs ls hP hD hS h)
theorem g_iload (E : GE p s m args meth c D tys cc nL own Ts ret) {k : Nat} {v : Int32} (hdg : decode cc pc = .ok (.iload k, 2)) (hl : lk lv k = some (.int v)) (kk : GW p l e R s m args below meth c Q D A nL ws cells slots (pc + 2) lv (.int v :: st)) : GW p l e R s m args below meth c Q D A nL ws cells slots pc lv st :=
  fun H locs ls hP hD hS h => lv_iload E.1 E.2.1 hdg (lk_at h hl) (kk H locs ls hP hD hS h)
theorem g_aload_n (E : GE p s m args meth c D tys cc nL own Ts ret) {k : Fin 4} {v : Nat} (hdg : decode cc pc = .ok (.aload_n k, 1)) (hl : lk lv k = some (.ref v)) (kk : GW p l e R s m args below meth c Q D A nL ws cells slots (pc + 1) lv (.ref v :: st)) : GW p l e R s m args below meth c Q D A nL ws cells slots pc lv st :=
  fun H locs ls hP hD hS h => lv_aload_n E.1 E.2.1 hdg rfl (lk_at h hl) (kk H locs ls hP hD hS h)
theorem g_aload (E : GE p s m args meth c D tys cc nL own Ts ret) {k : Nat} {v : Nat} (hdg : decode cc pc = .ok (.aload k, 2)) (hl : lk lv k = some (.ref v)) (kk : GW p l e R s m args below meth c Q D A nL ws cells slots (pc + 2) lv (.ref v :: st)) : GW p l e R s m args below meth c Q D A nL ws cells slots pc lv st :=
  fun H locs ls hP hD hS h => lv_aload E.1 E.2.1 hdg (lk_at h hl) (kk H locs ls hP hD hS h)
theorem g_lload_n (E : GE p s m args meth c D tys cc nL own Ts ret) {k : Fin 4} {v : Int64} (hdg : decode cc pc = .ok (.lload_n k, 1)) (hl : lk lv k = some (.long v)) (kk : GW p l e R s m args below meth c Q D A nL ws cells slots (pc + 1) lv (.long v :: st)) : GW p l e R s m args below meth c Q D A nL ws cells slots pc lv st :=
  fun H locs ls hP hD hS h => lv_lload_n E.1 E.2.1 hdg rfl (lk_at h hl) (kk H locs ls hP hD hS h)
theorem g_lload (E : GE p s m args meth c D tys cc nL own Ts ret) {k : Nat} {v : Int64} (hdg : decode cc pc = .ok (.lload k, 2)) (hl : lk lv k = some (.long v)) (kk : GW p l e R s m args below meth c Q D A nL ws cells slots (pc + 2) lv (.long v :: st)) : GW p l e R s m args below meth c Q D A nL ws cells slots pc lv st :=
  fun H locs ls hP hD hS h => lv_lload E.1 E.2.1 hdg (lk_at h hl) (kk H locs ls hP hD hS h)
theorem g_istore_n (E : GE p s m args meth c D tys cc nL own Ts ret) {k : Fin 4} {v : Int32} (hdg : decode cc pc = .ok (.istore_n k, 1)) (hn : (k : Nat) < nL) (kk : GW p l e R s m args below meth c Q D A nL ws cells slots (pc + 1) (lput1 lv k (.int v)) st) : GW p l e R s m args below meth c Q D A nL ws cells slots pc lv (.int v :: st) :=
  fun H locs ls hP hD hS h => lv_istore_n E.1 E.2.1 hdg rfl h hn rfl (fun ls' h' => kk H locs ls' hP hD hS h')
theorem g_istore (E : GE p s m args meth c D tys cc nL own Ts ret) {k : Nat} {v : Int32} (hdg : decode cc pc = .ok (.istore k, 2)) (hn : k < nL) (kk : GW p l e R s m args below meth c Q D A nL ws cells slots (pc + 2) (lput1 lv k (.int v)) st) : GW p l e R s m args below meth c Q D A nL ws cells slots pc lv (.int v :: st) :=
  fun H locs ls hP hD hS h => lv_istore E.1 E.2.1 hdg h hn rfl (fun ls' h' => kk H locs ls' hP hD hS h')
theorem g_astore_n (E : GE p s m args meth c D tys cc nL own Ts ret) {k : Fin 4} {v : Nat} (hdg : decode cc pc = .ok (.astore_n k, 1)) (hn : (k : Nat) < nL) (kk : GW p l e R s m args below meth c Q D A nL ws cells slots (pc + 1) (lput1 lv k (.ref v)) st) : GW p l e R s m args below meth c Q D A nL ws cells slots pc lv (.ref v :: st) :=
  fun H locs ls hP hD hS h => lv_astore_n E.1 E.2.1 hdg rfl h hn rfl (fun ls' h' => kk H locs ls' hP hD hS h')
theorem g_astore (E : GE p s m args meth c D tys cc nL own Ts ret) {k : Nat} {v : Nat} (hdg : decode cc pc = .ok (.astore k, 2)) (hn : k < nL) (kk : GW p l e R s m args below meth c Q D A nL ws cells slots (pc + 2) (lput1 lv k (.ref v)) st) : GW p l e R s m args below meth c Q D A nL ws cells slots pc lv (.ref v :: st) :=
  fun H locs ls hP hD hS h => lv_astore E.1 E.2.1 hdg h hn rfl (fun ls' h' => kk H locs ls' hP hD hS h')
theorem g_lstore_n (E : GE p s m args meth c D tys cc nL own Ts ret) {k : Fin 4} {v : Int64} (hdg : decode cc pc = .ok (.lstore_n k, 1)) (hn : (k : Nat) + 1 < nL) (kk : GW p l e R s m args below meth c Q D A nL ws cells slots (pc + 1) (lput2 lv k (.long v)) st) : GW p l e R s m args below meth c Q D A nL ws cells slots pc lv (.long v :: st) :=
  fun H locs ls hP hD hS h => lv_lstore_n E.1 E.2.1 hdg rfl h hn rfl (fun ls' h' => kk H locs ls' hP hD hS h')
theorem g_lstore (E : GE p s m args meth c D tys cc nL own Ts ret) {k : Nat} {v : Int64} (hdg : decode cc pc = .ok (.lstore k, 2)) (hn : k + 1 < nL) (kk : GW p l e R s m args below meth c Q D A nL ws cells slots (pc + 2) (lput2 lv k (.long v)) st) : GW p l e R s m args below meth c Q D A nL ws cells slots pc lv (.long v :: st) :=
  fun H locs ls hP hD hS h => lv_lstore E.1 E.2.1 hdg h hn rfl (fun ls' h' => kk H locs ls' hP hD hS h')
theorem g_iinc (E : GE p s m args meth c D tys cc nL own Ts ret) {i : Nat} {n a : Int} (hdg : decode cc pc = .ok (.iinc i n, 3)) (hl : lk lv i = some (.int (zI a))) (hn : i < nL) (kk : GW p l e R s m args below meth c Q D A nL ws cells slots (pc + 3) (lput1 lv i (.int (zI (a + n)))) st) : GW p l e R s m args below meth c Q D A nL ws cells slots pc lv st := by
  intro H locs ls hP hD hS h
  obtain ⟨k, hk⟩ := lk_place hl
  exact lv_iinc E.1 E.2.1 hdg h hk (zI_add a n) hn rfl (fun ls' h' => kk H locs ls' hP hD hS h')
theorem g_iconst (E : GE p s m args meth c D tys cc nL own Ts ret) {n : Int} (hdg : decode cc pc = .ok (.iconst n, 1)) (kk : GW p l e R s m args below meth c Q D A nL ws cells slots (pc + 1) lv (.int (zI n) :: st)) : GW p l e R s m args below meth c Q D A nL ws cells slots pc lv st :=
  fun H locs ls hP hD hS h => lv_iconst E.1 E.2.1 hdg rfl (kk H locs ls hP hD hS h)
theorem g_bipush (E : GE p s m args meth c D tys cc nL own Ts ret) {n : Int} (hdg : decode cc pc = .ok (.bipush n, 2)) (hv : (Int8.ofInt n).toInt32 = zI n) (kk : GW p l e R s m args below meth c Q D A nL ws cells slots (pc + 2) lv (.int (zI n) :: st)) : GW p l e R s m args below meth c Q D A nL ws cells slots pc lv st :=
  fun H locs ls hP hD hS h => lv_bipush E.1 E.2.1 hdg hv (kk H locs ls hP hD hS h)
theorem g_sipush (E : GE p s m args meth c D tys cc nL own Ts ret) {n : Int} (hdg : decode cc pc = .ok (.sipush n, 3)) (hv : (Int16.ofInt n).toInt32 = zI n) (kk : GW p l e R s m args below meth c Q D A nL ws cells slots (pc + 3) lv (.int (zI n) :: st)) : GW p l e R s m args below meth c Q D A nL ws cells slots pc lv st :=
  fun H locs ls hP hD hS h => lv_sipush E.1 E.2.1 hdg hv (kk H locs ls hP hD hS h)
theorem g_iaddR (E : GE p s m args meth c D tys cc nL own Ts ret) {x y : Int32} (hdg : decode cc pc = .ok (.iadd, 1)) (kk : GW p l e R s m args below meth c Q D A nL ws cells slots (pc + 1) lv (.int (x + y) :: st)) : GW p l e R s m args below meth c Q D A nL ws cells slots pc lv (.int y :: .int x :: st) :=
  fun H locs ls hP hD hS h => lv_iadd E.1 E.2.1 hdg (kk H locs ls hP hD hS h)
theorem g_iadd (E : GE p s m args meth c D tys cc nL own Ts ret) {a b : Int} (hdg : decode cc pc = .ok (.iadd, 1)) (kk : GW p l e R s m args below meth c Q D A nL ws cells slots (pc + 1) lv (.int (zI (a + b)) :: st)) : GW p l e R s m args below meth c Q D A nL ws cells slots pc lv (.int (zI b) :: .int (zI a) :: st) :=
  fun H locs ls hP hD hS h => lv_iadd E.1 E.2.1 hdg (zI_add a b ▸ kk H locs ls hP hD hS h)
theorem g_isubR (E : GE p s m args meth c D tys cc nL own Ts ret) {x y : Int32} (hdg : decode cc pc = .ok (.isub, 1)) (kk : GW p l e R s m args below meth c Q D A nL ws cells slots (pc + 1) lv (.int (x - y) :: st)) : GW p l e R s m args below meth c Q D A nL ws cells slots pc lv (.int y :: .int x :: st) :=
  fun H locs ls hP hD hS h => lv_isub E.1 E.2.1 hdg (kk H locs ls hP hD hS h)
theorem g_isub (E : GE p s m args meth c D tys cc nL own Ts ret) {a b : Int} (hdg : decode cc pc = .ok (.isub, 1)) (kk : GW p l e R s m args below meth c Q D A nL ws cells slots (pc + 1) lv (.int (zI (a - b)) :: st)) : GW p l e R s m args below meth c Q D A nL ws cells slots pc lv (.int (zI b) :: .int (zI a) :: st) :=
  fun H locs ls hP hD hS h => lv_isub E.1 E.2.1 hdg (zI_sub a b ▸ kk H locs ls hP hD hS h)
theorem g_imulR (E : GE p s m args meth c D tys cc nL own Ts ret) {x y : Int32} (hdg : decode cc pc = .ok (.imul, 1)) (kk : GW p l e R s m args below meth c Q D A nL ws cells slots (pc + 1) lv (.int (x * y) :: st)) : GW p l e R s m args below meth c Q D A nL ws cells slots pc lv (.int y :: .int x :: st) :=
  fun H locs ls hP hD hS h => lv_imul E.1 E.2.1 hdg (kk H locs ls hP hD hS h)
theorem g_imul (E : GE p s m args meth c D tys cc nL own Ts ret) {a b : Int} (hdg : decode cc pc = .ok (.imul, 1)) (kk : GW p l e R s m args below meth c Q D A nL ws cells slots (pc + 1) lv (.int (zI (a * b)) :: st)) : GW p l e R s m args below meth c Q D A nL ws cells slots pc lv (.int (zI b) :: .int (zI a) :: st) :=
  fun H locs ls hP hD hS h => lv_imul E.1 E.2.1 hdg (zI_mul a b ▸ kk H locs ls hP hD hS h)
theorem g_idivR (E : GE p s m args meth c D tys cc nL own Ts ret) {x y : Int32} (hdg : decode cc pc = .ok (.idiv, 1)) (hne : ¬ y = 0) (kk : GW p l e R s m args below meth c Q D A nL ws cells slots (pc + 1) lv (.int (x / y) :: st)) : GW p l e R s m args below meth c Q D A nL ws cells slots pc lv (.int y :: .int x :: st) :=
  fun H locs ls hP hD hS h => lv_idiv E.1 E.2.1 hdg hne (kk H locs ls hP hD hS h)
theorem g_idiv (E : GE p s m args meth c D tys cc nL own Ts ret) {a b : Int} (hdg : decode cc pc = .ok (.idiv, 1)) (ha : 0 ≤ a ∧ a < 2147483648) (hb : 0 < b ∧ b < 2147483648) (kk : GW p l e R s m args below meth c Q D A nL ws cells slots (pc + 1) lv (.int (zI (a / b)) :: st)) : GW p l e R s m args below meth c Q D A nL ws cells slots pc lv (.int (zI b) :: .int (zI a) :: st) :=
  fun H locs ls hP hD hS h => lv_idiv E.1 E.2.1 hdg (zI_ne0 hb) (zI_div ha hb ▸ kk H locs ls hP hD hS h)
theorem g_irem (E : GE p s m args meth c D tys cc nL own Ts ret) {a b : Int} (hdg : decode cc pc = .ok (.irem, 1)) (ha : 0 ≤ a ∧ a < 2147483648) (hb : 0 < b ∧ b < 2147483648) (kk : GW p l e R s m args below meth c Q D A nL ws cells slots (pc + 1) lv (.int (zI (a % b)) :: st)) : GW p l e R s m args below meth c Q D A nL ws cells slots pc lv (.int (zI b) :: .int (zI a) :: st) :=
  fun H locs ls hP hD hS h => lv_irem E.1 E.2.1 hdg (zI_ne0 hb) (zI_rem ha hb ▸ kk H locs ls hP hD hS h)
theorem g_ineg (E : GE p s m args meth c D tys cc nL own Ts ret) {x : Int32} (hdg : decode cc pc = .ok (.ineg, 1)) (kk : GW p l e R s m args below meth c Q D A nL ws cells slots (pc + 1) lv (.int (-x) :: st)) : GW p l e R s m args below meth c Q D A nL ws cells slots pc lv (.int x :: st) :=
  fun H locs ls hP hD hS h => lv_ineg E.1 E.2.1 hdg (kk H locs ls hP hD hS h)
theorem g_i2l (E : GE p s m args meth c D tys cc nL own Ts ret) {x : Int32} (hdg : decode cc pc = .ok (.i2l, 1)) (kk : GW p l e R s m args below meth c Q D A nL ws cells slots (pc + 1) lv (.long x.toInt64 :: st)) : GW p l e R s m args below meth c Q D A nL ws cells slots pc lv (.int x :: st) :=
  fun H locs ls hP hD hS h => lv_i2l E.1 E.2.1 hdg rfl (kk H locs ls hP hD hS h)
theorem g_ladd (E : GE p s m args meth c D tys cc nL own Ts ret) {x y : Int64} (hdg : decode cc pc = .ok (.ladd, 1)) (kk : GW p l e R s m args below meth c Q D A nL ws cells slots (pc + 1) lv (.long (x + y) :: st)) : GW p l e R s m args below meth c Q D A nL ws cells slots pc lv (.long y :: .long x :: st) :=
  fun H locs ls hP hD hS h => lv_ladd E.1 E.2.1 hdg (kk H locs ls hP hD hS h)
theorem g_lmul (E : GE p s m args meth c D tys cc nL own Ts ret) {x y : Int64} (hdg : decode cc pc = .ok (.lmul, 1)) (kk : GW p l e R s m args below meth c Q D A nL ws cells slots (pc + 1) lv (.long (x * y) :: st)) : GW p l e R s m args below meth c Q D A nL ws cells slots pc lv (.long y :: .long x :: st) :=
  fun H locs ls hP hD hS h => lv_lmul E.1 E.2.1 hdg (kk H locs ls hP hD hS h)
theorem g_ldc2 (E : GE p s m args meth c D tys cc nL own Ts ret) {index : Nat} {v : Int64} (hdg : decode cc pc = .ok (.ldc2_w index, 3)) (hc : Cond.constantLong own index v ∈ Ts) (kk : GW p l e R s m args below meth c Q D A nL ws cells slots (pc + 3) lv (.long v :: st)) : GW p l e R s m args below meth c Q D A nL ws cells slots pc lv st :=
  fun H locs ls hP hD hS h => lv_ldc2 E.1 E.2.1 E.2.2.2.1 (E.2.2.2.2.1 _ hc) hdg (kk H locs ls hP hD hS h)
theorem g_dup (E : GE p s m args meth c D tys cc nL own Ts ret) {v : Value} (hdg : decode cc pc = .ok (.dup, 1)) (hv : v.category = 1) (kk : GW p l e R s m args below meth c Q D A nL ws cells slots (pc + 1) lv (v :: v :: st)) : GW p l e R s m args below meth c Q D A nL ws cells slots pc lv (v :: st) :=
  fun H locs ls hP hD hS h => lv_dup E.1 E.2.1 hdg hv (kk H locs ls hP hD hS h)
theorem g_dup2 (E : GE p s m args meth c D tys cc nL own Ts ret) {v w : Value} (hdg : decode cc pc = .ok (.dup2, 1)) (hv : v.category = 1) (hw : w.category = 1) (kk : GW p l e R s m args below meth c Q D A nL ws cells slots (pc + 1) lv (v :: w :: v :: w :: st)) : GW p l e R s m args below meth c Q D A nL ws cells slots pc lv (v :: w :: st) :=
  fun H locs ls hP hD hS h => lv_dup2_11 E.1 E.2.1 hdg hv hw (kk H locs ls hP hD hS h)
theorem g_dup_x1 (E : GE p s m args meth c D tys cc nL own Ts ret) {v w : Value} (hdg : decode cc pc = .ok (.dup_x1, 1)) (hv : v.category = 1) (hw : w.category = 1) (kk : GW p l e R s m args below meth c Q D A nL ws cells slots (pc + 1) lv (v :: w :: v :: st)) : GW p l e R s m args below meth c Q D A nL ws cells slots pc lv (v :: w :: st) :=
  fun H locs ls hP hD hS h => lv_dup_x1 E.1 E.2.1 hdg hv hw (kk H locs ls hP hD hS h)
theorem g_pop (E : GE p s m args meth c D tys cc nL own Ts ret) {v : Value} (hdg : decode cc pc = .ok (.pop, 1)) (hv : v.category = 1) (kk : GW p l e R s m args below meth c Q D A nL ws cells slots (pc + 1) lv st) : GW p l e R s m args below meth c Q D A nL ws cells slots pc lv (v :: st) :=
  fun H locs ls hP hD hS h => lv_pop E.1 E.2.1 hdg hv (kk H locs ls hP hD hS h)
theorem g_goto (E : GE p s m args meth c D tys cc nL own Ts ret) {off : Int} {tgt : Nat} (hdg : decode cc pc = .ok (.goto off, 3)) (ht : (pc : Int) + off = (tgt : Int)) (kk : GW p l e R s m args below meth c Q D A nL ws cells slots tgt lv st) : GW p l e R s m args below meth c Q D A nL ws cells slots pc lv st :=
  fun H locs ls hP hD hS h => lv_goto E.1 E.2.1 hdg ht (kk H locs ls hP hD hS h)
-- branches
theorem g_icmp_ltR (E : GE p s m args meth c D tys cc nL own Ts ret) {x y : Int32} {off : Int} {tgt : Nat} (hdg : decode cc pc = .ok (.if_icmp .lt off, 3)) (ht : (pc : Int) + off = (tgt : Int)) (kt : x < y → GW p l e R s m args below meth c Q D A nL ws cells slots tgt lv st) (kf : ¬ x < y → GW p l e R s m args below meth c Q D A nL ws cells slots (pc + 3) lv st) : GW p l e R s m args below meth c Q D A nL ws cells slots pc lv (.int y :: .int x :: st) :=
  fun H locs ls hP hD hS h0 => lv_icmp_lt E.1 E.2.1 hdg ht (fun h => kt h H locs ls hP hD hS h0) (fun h => kf h H locs ls hP hD hS h0)
theorem g_icmp_lt (E : GE p s m args meth c D tys cc nL own Ts ret) {a b : Int} {off : Int} {tgt : Nat} (hdg : decode cc pc = .ok (.if_icmp .lt off, 3)) (ht : (pc : Int) + off = (tgt : Int)) (ha : -2147483648 ≤ a ∧ a < 2147483648) (hb : -2147483648 ≤ b ∧ b < 2147483648) (kt : a < b → GW p l e R s m args below meth c Q D A nL ws cells slots tgt lv st) (kf : ¬ a < b → GW p l e R s m args below meth c Q D A nL ws cells slots (pc + 3) lv st) : GW p l e R s m args below meth c Q D A nL ws cells slots pc lv (.int (zI b) :: .int (zI a) :: st) :=
  g_icmp_ltR E hdg ht (fun h => kt ((zI_lt ha hb).mp h)) (fun h => kf (fun q => h ((zI_lt ha hb).mpr q)))
theorem g_if_ltR (E : GE p s m args meth c D tys cc nL own Ts ret) {x : Int32} {off : Int} {tgt : Nat} (hdg : decode cc pc = .ok (.ifCond .lt off, 3)) (ht : (pc : Int) + off = (tgt : Int)) (kt : x < 0 → GW p l e R s m args below meth c Q D A nL ws cells slots tgt lv st) (kf : ¬ x < 0 → GW p l e R s m args below meth c Q D A nL ws cells slots (pc + 3) lv st) : GW p l e R s m args below meth c Q D A nL ws cells slots pc lv (.int x :: st) :=
  fun H locs ls hP hD hS h0 => lv_if_lt E.1 E.2.1 hdg ht (fun h => kt h H locs ls hP hD hS h0) (fun h => kf h H locs ls hP hD hS h0)
theorem g_if_lt (E : GE p s m args meth c D tys cc nL own Ts ret) {a : Int} {off : Int} {tgt : Nat} (hdg : decode cc pc = .ok (.ifCond .lt off, 3)) (ht : (pc : Int) + off = (tgt : Int)) (ha : -2147483648 ≤ a ∧ a < 2147483648) (kt : a < 0 → GW p l e R s m args below meth c Q D A nL ws cells slots tgt lv st) (kf : ¬ a < 0 → GW p l e R s m args below meth c Q D A nL ws cells slots (pc + 3) lv st) : GW p l e R s m args below meth c Q D A nL ws cells slots pc lv (.int (zI a) :: st) := by
  have hb : -2147483648 ≤ (0 : Int) ∧ (0 : Int) < 2147483648 := by omega
  have hz : zI 0 = 0 := zI_0
  exact g_if_ltR E hdg ht (by rw [← hz]; exact fun h => kt ((zI_lt ha hb).mp h)) (by rw [← hz]; exact fun h => kf (fun q => h ((zI_lt ha hb).mpr q)))
theorem g_icmp_leR (E : GE p s m args meth c D tys cc nL own Ts ret) {x y : Int32} {off : Int} {tgt : Nat} (hdg : decode cc pc = .ok (.if_icmp .le off, 3)) (ht : (pc : Int) + off = (tgt : Int)) (kt : x ≤ y → GW p l e R s m args below meth c Q D A nL ws cells slots tgt lv st) (kf : ¬ x ≤ y → GW p l e R s m args below meth c Q D A nL ws cells slots (pc + 3) lv st) : GW p l e R s m args below meth c Q D A nL ws cells slots pc lv (.int y :: .int x :: st) :=
  fun H locs ls hP hD hS h0 => lv_icmp_le E.1 E.2.1 hdg ht (fun h => kt h H locs ls hP hD hS h0) (fun h => kf h H locs ls hP hD hS h0)
theorem g_icmp_le (E : GE p s m args meth c D tys cc nL own Ts ret) {a b : Int} {off : Int} {tgt : Nat} (hdg : decode cc pc = .ok (.if_icmp .le off, 3)) (ht : (pc : Int) + off = (tgt : Int)) (ha : -2147483648 ≤ a ∧ a < 2147483648) (hb : -2147483648 ≤ b ∧ b < 2147483648) (kt : a ≤ b → GW p l e R s m args below meth c Q D A nL ws cells slots tgt lv st) (kf : ¬ a ≤ b → GW p l e R s m args below meth c Q D A nL ws cells slots (pc + 3) lv st) : GW p l e R s m args below meth c Q D A nL ws cells slots pc lv (.int (zI b) :: .int (zI a) :: st) :=
  g_icmp_leR E hdg ht (fun h => kt ((zI_le ha hb).mp h)) (fun h => kf (fun q => h ((zI_le ha hb).mpr q)))
theorem g_if_leR (E : GE p s m args meth c D tys cc nL own Ts ret) {x : Int32} {off : Int} {tgt : Nat} (hdg : decode cc pc = .ok (.ifCond .le off, 3)) (ht : (pc : Int) + off = (tgt : Int)) (kt : x ≤ 0 → GW p l e R s m args below meth c Q D A nL ws cells slots tgt lv st) (kf : ¬ x ≤ 0 → GW p l e R s m args below meth c Q D A nL ws cells slots (pc + 3) lv st) : GW p l e R s m args below meth c Q D A nL ws cells slots pc lv (.int x :: st) :=
  fun H locs ls hP hD hS h0 => lv_if_le E.1 E.2.1 hdg ht (fun h => kt h H locs ls hP hD hS h0) (fun h => kf h H locs ls hP hD hS h0)
theorem g_if_le (E : GE p s m args meth c D tys cc nL own Ts ret) {a : Int} {off : Int} {tgt : Nat} (hdg : decode cc pc = .ok (.ifCond .le off, 3)) (ht : (pc : Int) + off = (tgt : Int)) (ha : -2147483648 ≤ a ∧ a < 2147483648) (kt : a ≤ 0 → GW p l e R s m args below meth c Q D A nL ws cells slots tgt lv st) (kf : ¬ a ≤ 0 → GW p l e R s m args below meth c Q D A nL ws cells slots (pc + 3) lv st) : GW p l e R s m args below meth c Q D A nL ws cells slots pc lv (.int (zI a) :: st) := by
  have hb : -2147483648 ≤ (0 : Int) ∧ (0 : Int) < 2147483648 := by omega
  have hz : zI 0 = 0 := zI_0
  exact g_if_leR E hdg ht (by rw [← hz]; exact fun h => kt ((zI_le ha hb).mp h)) (by rw [← hz]; exact fun h => kf (fun q => h ((zI_le ha hb).mpr q)))
theorem g_icmp_eqR (E : GE p s m args meth c D tys cc nL own Ts ret) {x y : Int32} {off : Int} {tgt : Nat} (hdg : decode cc pc = .ok (.if_icmp .eq off, 3)) (ht : (pc : Int) + off = (tgt : Int)) (kt : x = y → GW p l e R s m args below meth c Q D A nL ws cells slots tgt lv st) (kf : ¬ x = y → GW p l e R s m args below meth c Q D A nL ws cells slots (pc + 3) lv st) : GW p l e R s m args below meth c Q D A nL ws cells slots pc lv (.int y :: .int x :: st) :=
  fun H locs ls hP hD hS h0 => lv_icmp_eq E.1 E.2.1 hdg ht (fun h => kt h H locs ls hP hD hS h0) (fun h => kf h H locs ls hP hD hS h0)
theorem g_icmp_eq (E : GE p s m args meth c D tys cc nL own Ts ret) {a b : Int} {off : Int} {tgt : Nat} (hdg : decode cc pc = .ok (.if_icmp .eq off, 3)) (ht : (pc : Int) + off = (tgt : Int)) (ha : -2147483648 ≤ a ∧ a < 2147483648) (hb : -2147483648 ≤ b ∧ b < 2147483648) (kt : a = b → GW p l e R s m args below meth c Q D A nL ws cells slots tgt lv st) (kf : ¬ a = b → GW p l e R s m args below meth c Q D A nL ws cells slots (pc + 3) lv st) : GW p l e R s m args below meth c Q D A nL ws cells slots pc lv (.int (zI b) :: .int (zI a) :: st) :=
  g_icmp_eqR E hdg ht (fun h => kt ((zI_eq ha hb).mp h)) (fun h => kf (fun q => h ((zI_eq ha hb).mpr q)))
theorem g_if_eqR (E : GE p s m args meth c D tys cc nL own Ts ret) {x : Int32} {off : Int} {tgt : Nat} (hdg : decode cc pc = .ok (.ifCond .eq off, 3)) (ht : (pc : Int) + off = (tgt : Int)) (kt : x = 0 → GW p l e R s m args below meth c Q D A nL ws cells slots tgt lv st) (kf : ¬ x = 0 → GW p l e R s m args below meth c Q D A nL ws cells slots (pc + 3) lv st) : GW p l e R s m args below meth c Q D A nL ws cells slots pc lv (.int x :: st) :=
  fun H locs ls hP hD hS h0 => lv_if_eq E.1 E.2.1 hdg ht (fun h => kt h H locs ls hP hD hS h0) (fun h => kf h H locs ls hP hD hS h0)
theorem g_if_eq (E : GE p s m args meth c D tys cc nL own Ts ret) {a : Int} {off : Int} {tgt : Nat} (hdg : decode cc pc = .ok (.ifCond .eq off, 3)) (ht : (pc : Int) + off = (tgt : Int)) (ha : -2147483648 ≤ a ∧ a < 2147483648) (kt : a = 0 → GW p l e R s m args below meth c Q D A nL ws cells slots tgt lv st) (kf : ¬ a = 0 → GW p l e R s m args below meth c Q D A nL ws cells slots (pc + 3) lv st) : GW p l e R s m args below meth c Q D A nL ws cells slots pc lv (.int (zI a) :: st) := by
  have hb : -2147483648 ≤ (0 : Int) ∧ (0 : Int) < 2147483648 := by omega
  have hz : zI 0 = 0 := zI_0
  exact g_if_eqR E hdg ht (by rw [← hz]; exact fun h => kt ((zI_eq ha hb).mp h)) (by rw [← hz]; exact fun h => kf (fun q => h ((zI_eq ha hb).mpr q)))
theorem g_icmp_geR (E : GE p s m args meth c D tys cc nL own Ts ret) {x y : Int32} {off : Int} {tgt : Nat} (hdg : decode cc pc = .ok (.if_icmp .ge off, 3)) (ht : (pc : Int) + off = (tgt : Int)) (kt : y ≤ x → GW p l e R s m args below meth c Q D A nL ws cells slots tgt lv st) (kf : ¬ y ≤ x → GW p l e R s m args below meth c Q D A nL ws cells slots (pc + 3) lv st) : GW p l e R s m args below meth c Q D A nL ws cells slots pc lv (.int y :: .int x :: st) :=
  fun H locs ls hP hD hS h0 => lv_icmp_ge E.1 E.2.1 hdg ht (fun h => kt h H locs ls hP hD hS h0) (fun h => kf h H locs ls hP hD hS h0)
theorem g_icmp_ge (E : GE p s m args meth c D tys cc nL own Ts ret) {a b : Int} {off : Int} {tgt : Nat} (hdg : decode cc pc = .ok (.if_icmp .ge off, 3)) (ht : (pc : Int) + off = (tgt : Int)) (ha : -2147483648 ≤ a ∧ a < 2147483648) (hb : -2147483648 ≤ b ∧ b < 2147483648) (kt : b ≤ a → GW p l e R s m args below meth c Q D A nL ws cells slots tgt lv st) (kf : ¬ b ≤ a → GW p l e R s m args below meth c Q D A nL ws cells slots (pc + 3) lv st) : GW p l e R s m args below meth c Q D A nL ws cells slots pc lv (.int (zI b) :: .int (zI a) :: st) :=
  g_icmp_geR E hdg ht (fun h => kt ((zI_le hb ha).mp h)) (fun h => kf (fun q => h ((zI_le hb ha).mpr q)))
theorem g_if_geR (E : GE p s m args meth c D tys cc nL own Ts ret) {x : Int32} {off : Int} {tgt : Nat} (hdg : decode cc pc = .ok (.ifCond .ge off, 3)) (ht : (pc : Int) + off = (tgt : Int)) (kt : 0 ≤ x → GW p l e R s m args below meth c Q D A nL ws cells slots tgt lv st) (kf : ¬ 0 ≤ x → GW p l e R s m args below meth c Q D A nL ws cells slots (pc + 3) lv st) : GW p l e R s m args below meth c Q D A nL ws cells slots pc lv (.int x :: st) :=
  fun H locs ls hP hD hS h0 => lv_if_ge E.1 E.2.1 hdg ht (fun h => kt h H locs ls hP hD hS h0) (fun h => kf h H locs ls hP hD hS h0)
theorem g_if_ge (E : GE p s m args meth c D tys cc nL own Ts ret) {a : Int} {off : Int} {tgt : Nat} (hdg : decode cc pc = .ok (.ifCond .ge off, 3)) (ht : (pc : Int) + off = (tgt : Int)) (ha : -2147483648 ≤ a ∧ a < 2147483648) (kt : 0 ≤ a → GW p l e R s m args below meth c Q D A nL ws cells slots tgt lv st) (kf : ¬ 0 ≤ a → GW p l e R s m args below meth c Q D A nL ws cells slots (pc + 3) lv st) : GW p l e R s m args below meth c Q D A nL ws cells slots pc lv (.int (zI a) :: st) := by
  have hb : -2147483648 ≤ (0 : Int) ∧ (0 : Int) < 2147483648 := by omega
  have hz : zI 0 = 0 := zI_0
  exact g_if_geR E hdg ht (by rw [← hz]; exact fun h => kt ((zI_le hb ha).mp h)) (by rw [← hz]; exact fun h => kf (fun q => h ((zI_le hb ha).mpr q)))
theorem g_icmp_gtR (E : GE p s m args meth c D tys cc nL own Ts ret) {x y : Int32} {off : Int} {tgt : Nat} (hdg : decode cc pc = .ok (.if_icmp .gt off, 3)) (ht : (pc : Int) + off = (tgt : Int)) (kt : y < x → GW p l e R s m args below meth c Q D A nL ws cells slots tgt lv st) (kf : ¬ y < x → GW p l e R s m args below meth c Q D A nL ws cells slots (pc + 3) lv st) : GW p l e R s m args below meth c Q D A nL ws cells slots pc lv (.int y :: .int x :: st) :=
  fun H locs ls hP hD hS h0 => lv_icmp_gt E.1 E.2.1 hdg ht (fun h => kt h H locs ls hP hD hS h0) (fun h => kf h H locs ls hP hD hS h0)
theorem g_icmp_gt (E : GE p s m args meth c D tys cc nL own Ts ret) {a b : Int} {off : Int} {tgt : Nat} (hdg : decode cc pc = .ok (.if_icmp .gt off, 3)) (ht : (pc : Int) + off = (tgt : Int)) (ha : -2147483648 ≤ a ∧ a < 2147483648) (hb : -2147483648 ≤ b ∧ b < 2147483648) (kt : b < a → GW p l e R s m args below meth c Q D A nL ws cells slots tgt lv st) (kf : ¬ b < a → GW p l e R s m args below meth c Q D A nL ws cells slots (pc + 3) lv st) : GW p l e R s m args below meth c Q D A nL ws cells slots pc lv (.int (zI b) :: .int (zI a) :: st) :=
  g_icmp_gtR E hdg ht (fun h => kt ((zI_lt hb ha).mp h)) (fun h => kf (fun q => h ((zI_lt hb ha).mpr q)))
theorem g_if_gtR (E : GE p s m args meth c D tys cc nL own Ts ret) {x : Int32} {off : Int} {tgt : Nat} (hdg : decode cc pc = .ok (.ifCond .gt off, 3)) (ht : (pc : Int) + off = (tgt : Int)) (kt : 0 < x → GW p l e R s m args below meth c Q D A nL ws cells slots tgt lv st) (kf : ¬ 0 < x → GW p l e R s m args below meth c Q D A nL ws cells slots (pc + 3) lv st) : GW p l e R s m args below meth c Q D A nL ws cells slots pc lv (.int x :: st) :=
  fun H locs ls hP hD hS h0 => lv_if_gt E.1 E.2.1 hdg ht (fun h => kt h H locs ls hP hD hS h0) (fun h => kf h H locs ls hP hD hS h0)
theorem g_if_gt (E : GE p s m args meth c D tys cc nL own Ts ret) {a : Int} {off : Int} {tgt : Nat} (hdg : decode cc pc = .ok (.ifCond .gt off, 3)) (ht : (pc : Int) + off = (tgt : Int)) (ha : -2147483648 ≤ a ∧ a < 2147483648) (kt : 0 < a → GW p l e R s m args below meth c Q D A nL ws cells slots tgt lv st) (kf : ¬ 0 < a → GW p l e R s m args below meth c Q D A nL ws cells slots (pc + 3) lv st) : GW p l e R s m args below meth c Q D A nL ws cells slots pc lv (.int (zI a) :: st) := by
  have hb : -2147483648 ≤ (0 : Int) ∧ (0 : Int) < 2147483648 := by omega
  have hz : zI 0 = 0 := zI_0
  exact g_if_gtR E hdg ht (by rw [← hz]; exact fun h => kt ((zI_lt hb ha).mp h)) (by rw [← hz]; exact fun h => kf (fun q => h ((zI_lt hb ha).mpr q)))
theorem g_icmp_neR (E : GE p s m args meth c D tys cc nL own Ts ret) {x y : Int32} {off : Int} {tgt : Nat} (hdg : decode cc pc = .ok (.if_icmp .ne off, 3)) (ht : (pc : Int) + off = (tgt : Int)) (kt : ¬ x = y → GW p l e R s m args below meth c Q D A nL ws cells slots tgt lv st) (kf : x = y → GW p l e R s m args below meth c Q D A nL ws cells slots (pc + 3) lv st) : GW p l e R s m args below meth c Q D A nL ws cells slots pc lv (.int y :: .int x :: st) :=
  fun H locs ls hP hD hS h0 => lv_icmp_ne E.1 E.2.1 hdg ht (fun h => kt h H locs ls hP hD hS h0) (fun h => kf h H locs ls hP hD hS h0)
theorem g_icmp_ne (E : GE p s m args meth c D tys cc nL own Ts ret) {a b : Int} {off : Int} {tgt : Nat} (hdg : decode cc pc = .ok (.if_icmp .ne off, 3)) (ht : (pc : Int) + off = (tgt : Int)) (ha : -2147483648 ≤ a ∧ a < 2147483648) (hb : -2147483648 ≤ b ∧ b < 2147483648) (kt : ¬ a = b → GW p l e R s m args below meth c Q D A nL ws cells slots tgt lv st) (kf : a = b → GW p l e R s m args below meth c Q D A nL ws cells slots (pc + 3) lv st) : GW p l e R s m args below meth c Q D A nL ws cells slots pc lv (.int (zI b) :: .int (zI a) :: st) :=
  g_icmp_neR E hdg ht (fun h => kt (fun q => h ((zI_eq ha hb).mpr q))) (fun h => kf ((zI_eq ha hb).mp h))
theorem g_if_neR (E : GE p s m args meth c D tys cc nL own Ts ret) {x : Int32} {off : Int} {tgt : Nat} (hdg : decode cc pc = .ok (.ifCond .ne off, 3)) (ht : (pc : Int) + off = (tgt : Int)) (kt : ¬ x = 0 → GW p l e R s m args below meth c Q D A nL ws cells slots tgt lv st) (kf : x = 0 → GW p l e R s m args below meth c Q D A nL ws cells slots (pc + 3) lv st) : GW p l e R s m args below meth c Q D A nL ws cells slots pc lv (.int x :: st) :=
  fun H locs ls hP hD hS h0 => lv_if_ne E.1 E.2.1 hdg ht (fun h => kt h H locs ls hP hD hS h0) (fun h => kf h H locs ls hP hD hS h0)
theorem g_if_ne (E : GE p s m args meth c D tys cc nL own Ts ret) {a : Int} {off : Int} {tgt : Nat} (hdg : decode cc pc = .ok (.ifCond .ne off, 3)) (ht : (pc : Int) + off = (tgt : Int)) (ha : -2147483648 ≤ a ∧ a < 2147483648) (kt : ¬ a = 0 → GW p l e R s m args below meth c Q D A nL ws cells slots tgt lv st) (kf : a = 0 → GW p l e R s m args below meth c Q D A nL ws cells slots (pc + 3) lv st) : GW p l e R s m args below meth c Q D A nL ws cells slots pc lv (.int (zI a) :: st) := by
  have hb : -2147483648 ≤ (0 : Int) ∧ (0 : Int) < 2147483648 := by omega
  have hz : zI 0 = 0 := zI_0
  exact g_if_neR E hdg ht (by rw [← hz]; exact fun h => kt (fun q => h ((zI_eq ha hb).mpr q))) (by rw [← hz]; exact fun h => kf ((zI_eq ha hb).mp h))
theorem g_tab (E : GE p s m args meth c D tys cc nL own Ts ret) {dflt lo hi : Int} {offs : Array Int} {len : Nat} {a : Int} {off : Int} {tgt : Nat} (hdg : decode cc pc = .ok (.tableswitch dflt lo hi offs, len)) (ha : -2147483648 ≤ a ∧ a < 2147483648) (h1 : ¬ a < lo) (h2 : ¬ hi < a) (ho : offs[(a - lo).toNat]? = some off) (ht : (pc : Int) + off = (tgt : Int)) (kk : GW p l e R s m args below meth c Q D A nL ws cells slots tgt lv st) : GW p l e R s m args below meth c Q D A nL ws cells slots pc lv (.int (zI a) :: st) :=
  fun H locs ls hP hD hS h0 => lv_tableIn E.1 E.2.1 hdg (by rw [zI_toInt ha]; exact h1) (by rw [zI_toInt ha]; exact h2) (by rw [zI_toInt ha]; exact ho) ht (kk H locs ls hP hD hS h0)
theorem g_tabOut (E : GE p s m args meth c D tys cc nL own Ts ret) {dflt lo hi : Int} {offs : Array Int} {len : Nat} {a : Int} {tgt : Nat} (hdg : decode cc pc = .ok (.tableswitch dflt lo hi offs, len)) (ha : -2147483648 ≤ a ∧ a < 2147483648) (h1 : a < lo ∨ hi < a) (ht : (pc : Int) + dflt = (tgt : Int)) (kk : GW p l e R s m args below meth c Q D A nL ws cells slots tgt lv st) : GW p l e R s m args below meth c Q D A nL ws cells slots pc lv (.int (zI a) :: st) :=
  fun H locs ls hP hD hS h0 => lv_tableOut E.1 E.2.1 hdg (by rw [zI_toInt ha]; exact h1) ht (kk H locs ls hP hD hS h0)
-- memory
theorem g_getf (E : GE p s m args meth c D tys cc nL own Ts ret) {C : String} {T : u_T} {N ci index a : Nat} {fs : List Value} {v : Value} (hin : ∀ w ∈ u_ws C T N, w ∈ Ts) (hc : vwCl[ci]? = some (C, T, N)) (he : ∃ q0 : Nat, ws[q0]? = some (a, .inr (ci, fs))) (k : Nat) (hk : k < N) (hlink : Cond.fieldLink own index C (T k).2.1 (T k).2.2.1 ∈ Ts) (hcn : (T k).1 = C) (hv : fs[k]? = some v) (hdg : decode cc pc = .ok (.getfield index, 3))
    (kk : GW p l e R s m args below meth c Q D A nL ws cells slots (pc + 3) lv (v :: st)) : GW p l e R s m args below meth c Q D A nL ws cells slots pc lv (.ref a :: st) := by
  intro H locs ls hP hD hS h0
  obtain ⟨q0, hq⟩ := he
  exact va_get E.1 E.2.1 E.2.2.2.2.1 hin E.2.2.2.1 E.2.2.2.2.2.1.1 hP q0 hq hc k hk (E.2.2.2.2.1 _ hlink) (fun x hx => by rw [hcn] at hx; exact hx) hv hdg (kk H locs ls hP hD hS h0)
theorem g_putf (E : GE p s m args meth c D tys cc nL own Ts ret) {C : String} {T : u_T} {N ci index a : Nat} {fs : List Value} {v : Value} {ty0 : Nat → FieldType} {ty : FieldType} {ws' : va_W} (hin : ∀ w ∈ u_ws C T N, w ∈ Ts) (hty : ∀ k, k < N → parseFieldDescriptor (T k).2.2.1 = some (ty0 k)) (hnm : ∀ a, a < N → ∀ b, b < N → a ≠ b → (T a).2.1 ≠ (T b).2.1) (hc : vwCl[ci]? = some (C, T, N)) (k : Nat) (hk : k < N) (hlink : Cond.fieldLink own index C (T k).2.1 (T k).2.2.1 ∈ Ts) (hcn : (T k).1 = C) (hfin : (T k).2.2.2 = false) (hd : parseFieldDescriptor (T k).2.2.1 = some ty) (hn : narrow ty v = v) (hfit : fits ty v = true) (hl : k < fs.length)
    (he : ∃ q0 : Nat, ws[q0]? = some (a, .inr (ci, fs)) ∧ ws.set q0 (a, .inr (ci, fs.set k v)) = ws') (hdg : decode cc pc = .ok (.putfield index, 3))
    (kk : GW p l e R s m args below meth c Q D A nL ws' cells slots (pc + 3) lv st) : GW p l e R s m args below meth c Q D A nL ws cells slots pc lv (v :: .ref a :: st) := by
  intro H locs ls hP hD hS h0
  obtain ⟨q0, hq, e⟩ := he
  subst e
  exact va_put E.1 E.2.1 E.2.2.2.2.1 hin ty0 hty hnm E.2.2.2.1 E.2.2.2.2.2.1.1 hP hD hS q0 hq hc k hk (E.2.2.2.2.1 _ hlink) (fun x hx => by rw [hcn] at hx; exact hx) hfin hd hn hfit hl hdg (fun H1 locs1 hP hD hS => kk H1 locs1 ls hP hD hS h0)
theorem g_iald (E : GE p s m args meth c D tys cc nL own Ts ret) {cA : ClassId} {n a : Nat} {f : Nat → Int32} {z : Int} {v : Int32} (t0 : Nat) (ht : tys[t0]? = some (cA, .int)) (he : ∃ q0 : Nat, ws[q0]? = some (a, .inl (cA, n, .inl f))) (hz : 0 ≤ z ∧ z < n) (hn : n ≤ 2147483648) (hv : f z.toNat = v) (hdg : decode cc pc = .ok (.iaload, 1))
    (kk : GW p l e R s m args below meth c Q D A nL ws cells slots (pc + 1) lv (.int v :: st)) : GW p l e R s m args below meth c Q D A nL ws cells slots pc lv (.int (zI z) :: .ref a :: st) := by
  intro H locs ls hP hD hS h0
  obtain ⟨q0, hq⟩ := he
  subst hv
  exact va_iald E.1 E.2.1 E.2.2.2.2.2.1.1 hP q0 t0 hq ht (zI_in hz hn) hdg (by rw [zI_cl (by omega)]; exact kk H locs ls hP hD hS h0)
theorem g_iast (E : GE p s m args meth c D tys cc nL own Ts ret) {cA : ClassId} {n a : Nat} {f : Nat → Int32} {z : Int} {x : Int32} {ws' : va_W} (t0 : Nat) (ht : tys[t0]? = some (cA, .int)) (hz : 0 ≤ z ∧ z < n) (hn : n ≤ 2147483648) (he : ∃ q0 : Nat, ws[q0]? = some (a, .inl (cA, n, .inl f)) ∧ ws.set q0 (a, .inl (cA, n, .inl (upd f z.toNat x))) = ws') (hdg : decode cc pc = .ok (.iastore, 1))
    (kk : GW p l e R s m args below meth c Q D A nL ws' cells slots (pc + 1) lv st) : GW p l e R s m args below meth c Q D A nL ws cells slots pc lv (.int x :: .int (zI z) :: .ref a :: st) := by
  intro H locs ls hP hD hS h0
  obtain ⟨q0, hq, e⟩ := he
  subst e
  exact va_iast E.1 E.2.1 E.2.2.2.2.2.1.1 hP hD hS q0 t0 hq ht (zI_in hz hn) hdg (fun H1 locs1 hP hD hS => by rw [zI_cl (by omega)] at hP hD; exact kk H1 locs1 ls hP hD hS h0)
theorem g_alen (E : GE p s m args meth c D tys cc nL own Ts ret) {cA : ClassId} {a : Nat} {x : vp_A} {ty : FieldType} (t0 : Nat) (ht : tys[t0]? = some (cA, ty)) (he : ∃ q0 : Nat, ws[q0]? = some (a, .inl (cA, x))) (hdg : decode cc pc = .ok (.arraylength, 1))
    (kk : GW p l e R s m args below meth c Q D A nL ws cells slots (pc + 1) lv (.int (zI (x.1 : Nat)) :: st)) : GW p l e R s m args below meth c Q D A nL ws cells slots pc lv (.ref a :: st) := by
  intro H locs ls hP hD hS h0
  obtain ⟨q0, hq⟩ := he
  exact va_alen E.1 E.2.1 E.2.2.2.2.2.1.1 hP q0 t0 hq ht (v := zI (x.1 : Nat)) (zI_nI x.1) hdg (kk H locs ls hP hD hS h0)
theorem g_aald (E : GE p s m args meth c D tys cc nL own Ts ret) {cA : ClassId} {C : String} {n a b : Nat} {f : Nat → Option Nat} {z : Int} (t0 : Nat) (ht : tys[t0]? = some (cA, .object C)) (he : ∃ q0 : Nat, ws[q0]? = some (a, .inl (cA, n, .inr (.inr (.inr (.inr f)))))) (hz : 0 ≤ z ∧ z < n) (hn : n ≤ 2147483648) (hv : f z.toNat = some b) (hdg : decode cc pc = .ok (.aaload, 1))
    (kk : GW p l e R s m args below meth c Q D A nL ws cells slots (pc + 1) lv (.ref b :: st)) : GW p l e R s m args below meth c Q D A nL ws cells slots pc lv (.int (zI z) :: .ref a :: st) := by
  intro H locs ls hP hD hS h0
  obtain ⟨q0, hq⟩ := he
  exact va_aldq E.1 E.2.1 E.2.2.2.2.2.1.1 hP q0 t0 hq ht (zI_in hz hn) hdg (by rw [zI_cl (by omega), hv]; exact kk H locs ls hP hD hS h0)
theorem g_mmin (E : GE p s m args meth c D tys cc nL own Ts ret) {index : Nat} {x y : Int32} (hlink : Cond.methodLink own index Lib.Math.min.name ∈ Ts) (hstat : Cond.static Lib.Math.min.name ∈ Ts) (hini : Cond.initialized "java/lang/Math" ∈ Ts) (hcode : Cond.code Lib.Math.min.name Lib.Math.min.code 2 (some .int) ∈ Ts) (hframes : 1 ≤ R.frames) (hlocals : (st.map fun v => v.category).sum + 13 ≤ R.locals) (hc : cells ≤ R.cells) (hs : slots ≤ R.slots) (hdg : decode cc pc = .ok (.invokestatic index, 3))
    (kk : GW p l e R s m args below meth c Q D A nL ws cells slots (pc + 3) lv (.int (if y < x then y else x) :: st)) : GW p l e R s m args below meth c Q D A nL ws cells slots pc lv (.int y :: .int x :: st) :=
  fun H locs ls hP hD hS h0 => va_mmin E.1 E.2.1 (E.2.2.1.trans h0.1.symm) E.2.2.2.1 (E.2.2.2.2.1 _ hlink) (E.2.2.2.2.1 _ hstat) (E.2.2.2.2.1 _ hini) (E.2.2.2.2.1 _ hcode) hframes hlocals hc hs hdg (kk H locs ls hP hD hS h0)
theorem g_mmax (E : GE p s m args meth c D tys cc nL own Ts ret) {index : Nat} {x y : Int32} (hlink : Cond.methodLink own index Lib.Math.max.name ∈ Ts) (hstat : Cond.static Lib.Math.max.name ∈ Ts) (hini : Cond.initialized "java/lang/Math" ∈ Ts) (hcode : Cond.code Lib.Math.max.name Lib.Math.max.code 2 (some .int) ∈ Ts) (hframes : 1 ≤ R.frames) (hlocals : (st.map fun v => v.category).sum + 13 ≤ R.locals) (hc : cells ≤ R.cells) (hs : slots ≤ R.slots) (hdg : decode cc pc = .ok (.invokestatic index, 3))
    (kk : GW p l e R s m args below meth c Q D A nL ws cells slots (pc + 3) lv (.int (if x < y then y else x) :: st)) : GW p l e R s m args below meth c Q D A nL ws cells slots pc lv (.int y :: .int x :: st) :=
  fun H locs ls hP hD hS h0 => va_mmax E.1 E.2.1 (E.2.2.1.trans h0.1.symm) E.2.2.2.1 (E.2.2.2.2.1 _ hlink) (E.2.2.2.2.1 _ hstat) (E.2.2.2.2.1 _ hini) (E.2.2.2.2.1 _ hcode) hframes hlocals hc hs hdg (kk H locs ls hP hD hS h0)
-- ends
theorem g_iret {post : Int32 → va_W → Prop} {r : Int32} (E : GE p s m args meth c D tys cc nL own Ts (some .int)) (hq : post r ws) (hdg : decode cc pc = .ok (.ireturn, 1)) : GW p l e R s m args below meth c (MQ below (va_Qi post (gB D A) A) args s cells slots A) D A nL ws cells slots pc lv [.int r] :=
  fun H locs ls hP hD hS h0 => W.iret E.1 E.2.1 E.2.2.2.2.2.2.1 (fun t ht hW => ⟨⟨r, ws, rfl, hq, by rw [ht]; exact hP, hD⟩, hS.F ht⟩) hS.2.2 hdg E.2.2.2.2.2.2.2
theorem g_zret {post : Int32 → va_W → Prop} {r : Int32} (E : GE p s m args meth c D tys cc nL own Ts (some .boolean)) (hn : narrow .boolean (.int r) = .int r) (hq : post r ws) (hdg : decode cc pc = .ok (.ireturn, 1)) : GW p l e R s m args below meth c (MQ below (va_Qi post (gB D A) A) args s cells slots A) D A nL ws cells slots pc lv [.int r] :=
  fun H locs ls hP hD hS h0 => W.zret E.1 E.2.1 E.2.2.2.2.2.2.1 hn (fun t ht hW => ⟨⟨r, ws, rfl, hq, by rw [ht]; exact hP, hD⟩, hS.F ht⟩) hS.2.2 hdg E.2.2.2.2.2.2.2
theorem g_lret {post : Int64 → va_W → Prop} {r : Int64} (E : GE p s m args meth c D tys cc nL own Ts (some .long)) (hq : post r ws) (hdg : decode cc pc = .ok (.lreturn, 1)) : GW p l e R s m args below meth c (MQ below (va_Ql post (gB D A) A) args s cells slots A) D A nL ws cells slots pc lv [.long r] :=
  fun H locs ls hP hD hS h0 => W.lret E.1 E.2.1 E.2.2.2.2.2.2.1 (fun t ht hW => ⟨⟨r, ws, rfl, hq, by rw [ht]; exact hP, hD⟩, hS.F ht⟩) hS.2.2 hdg E.2.2.2.2.2.2.2
theorem g_vret {post : va_W → Prop} (E : GE p s m args meth c D tys cc nL own Ts none) (hq : post ws) (hdg : decode cc pc = .ok (.return_, 1)) : GW p l e R s m args below meth c (MQ below (va_Qv post (gB D A) A) args s cells slots A) D A nL ws cells slots pc lv [] :=
  fun H locs ls hP hD hS h0 => W.vret E.1 E.2.1 E.2.2.2.2.2.2.1 (fun t ht hW => ⟨⟨ws, rfl, hq, by rw [ht]; exact hP, hD⟩, hS.F ht⟩) hS.2.2 hdg E.2.2.2.2.2.2.2
-- calls of methods that don't throw and make nothing
theorem g_callVi (E : GE p s m args meth c D tys cc nL own Ts ret) {y : MethodName} {bytes : ByteArray} {maxL : Nat} {rt : Option FieldType} {wsc wsc' : List Cond} {rm : Room} {n index : Nat} {C : String} {T : u_T} {N ci b : Nat} {As rest : List Value} {post : Int32 → va_W → Prop} (hM : Met l y wsc rm (PcG D tys A ws (.ref b :: As)) (va_Qi post (gB D A) A) 0 0 A)
    (hG : GoodIn Ts (wsV own index C y wsc)) (hw : wsc = Cond.code y bytes maxL rt :: wsc') (hrm : rm.cells = 0 ∧ rm.slots = 0) (hd : y.cls = C ∧ y.cls ≠ "java/lang/invoke/MethodHandle" ∧ y.cls ≠ "java/lang/invoke/VarHandle" ∧ (parseMethodDescriptor y.desc).map (fun d => d.parameters.length) = some n) (hR : rm.frames + 1 ≤ R.frames ∧ 8 + (maxL + 11) + rm.locals ≤ R.locals)
    (he : ∃ (q0 : Nat) (fs : List Value), ws[q0]? = some (b, .inr (ci, fs))) (hc : vwCl[ci]? = some (C, T, N)) (hn : As.length = n) (hst : st = As.reverse ++ .ref b :: rest) (hst8 : (rest.map fun v => v.category).sum ≤ 8) (hf : cells + 0 ≤ R.cells ∧ slots + 0 ≤ R.slots) (hdg : decode cc pc = .ok (.invokevirtual index, 3))
    (kk : ∀ (r : Int32) (ws' : va_W), post r ws' → GW p l e R s m args below meth c Q D A nL ws' cells slots (pc + 3) lv (.int r :: rest)) : GW p l e R s m args below meth c Q D A nL ws cells slots pc lv st := by
  intro H locs ls hP hD hS h0
  subst hst
  obtain ⟨q0, fs, hq⟩ := he
  exact va_calli (va_runV (As := As) (rest := rest) ⟨E.1, E.2.1, E.2.2.1, E.2.2.2.1, E.2.2.2.2.1⟩ hM (cwV n E.2.2.2.2.1 hG hw hrm.1 hrm.2 hd hR) ⟨PcG.blind, va_recv (q0 := q0) E.2.2.2.2.2.1.1 hP hc hq, fun U hU hW => PcG.at hU hW hP E.2.2.2.2.2.1 hD⟩ rfl hn (h0.1) rfl (lv_room hst8) hdg hf) hS (fun q _ h => h) (fun q h => h) (fun r ws' t H1 locs1 ht _ hp hB _ _ hS' => kk r ws' hp H1 locs1 ls (by rw [← ht]; exact hB.1) hB.2 hS' h0)
theorem g_callVl (E : GE p s m args meth c D tys cc nL own Ts ret) {y : MethodName} {bytes : ByteArray} {maxL : Nat} {rt : Option FieldType} {wsc wsc' : List Cond} {rm : Room} {n index : Nat} {C : String} {T : u_T} {N ci b : Nat} {As rest : List Value} {post : Int64 → va_W → Prop} (hM : Met l y wsc rm (PcG D tys A ws (.ref b :: As)) (va_Ql post (gB D A) A) 0 0 A)
    (hG : GoodIn Ts (wsV own index C y wsc)) (hw : wsc = Cond.code y bytes maxL rt :: wsc') (hrm : rm.cells = 0 ∧ rm.slots = 0) (hd : y.cls = C ∧ y.cls ≠ "java/lang/invoke/MethodHandle" ∧ y.cls ≠ "java/lang/invoke/VarHandle" ∧ (parseMethodDescriptor y.desc).map (fun d => d.parameters.length) = some n) (hR : rm.frames + 1 ≤ R.frames ∧ 8 + (maxL + 11) + rm.locals ≤ R.locals)
    (he : ∃ (q0 : Nat) (fs : List Value), ws[q0]? = some (b, .inr (ci, fs))) (hc : vwCl[ci]? = some (C, T, N)) (hn : As.length = n) (hst : st = As.reverse ++ .ref b :: rest) (hst8 : (rest.map fun v => v.category).sum ≤ 8) (hf : cells + 0 ≤ R.cells ∧ slots + 0 ≤ R.slots) (hdg : decode cc pc = .ok (.invokevirtual index, 3))
    (kk : ∀ (r : Int64) (ws' : va_W), post r ws' → GW p l e R s m args below meth c Q D A nL ws' cells slots (pc + 3) lv (.long r :: rest)) : GW p l e R s m args below meth c Q D A nL ws cells slots pc lv st := by
  intro H locs ls hP hD hS h0
  subst hst
  obtain ⟨q0, fs, hq⟩ := he
  exact va_calll (va_runV (As := As) (rest := rest) ⟨E.1, E.2.1, E.2.2.1, E.2.2.2.1, E.2.2.2.2.1⟩ hM (cwV n E.2.2.2.2.1 hG hw hrm.1 hrm.2 hd hR) ⟨PcG.blind, va_recv (q0 := q0) E.2.2.2.2.2.1.1 hP hc hq, fun U hU hW => PcG.at hU hW hP E.2.2.2.2.2.1 hD⟩ rfl hn (h0.1) rfl (lv_room hst8) hdg hf) hS (fun q _ h => h) (fun q h => h) (fun r ws' t H1 locs1 ht _ hp hB _ _ hS' => kk r ws' hp H1 locs1 ls (by rw [← ht]; exact hB.1) hB.2 hS' h0)
theorem g_callVv (E : GE p s m args meth c D tys cc nL own Ts ret) {y : MethodName} {bytes : ByteArray} {maxL : Nat} {rt : Option FieldType} {wsc wsc' : List Cond} {rm : Room} {n index : Nat} {C : String} {T : u_T} {N ci b : Nat} {As rest : List Value} {post : va_W → Prop} (hM : Met l y wsc rm (PcG D tys A ws (.ref b :: As)) (va_Qv post (gB D A) A) 0 0 A)
    (hG : GoodIn Ts (wsV own index C y wsc)) (hw : wsc = Cond.code y bytes maxL rt :: wsc') (hrm : rm.cells = 0 ∧ rm.slots = 0) (hd : y.cls = C ∧ y.cls ≠ "java/lang/invoke/MethodHandle" ∧ y.cls ≠ "java/lang/invoke/VarHandle" ∧ (parseMethodDescriptor y.desc).map (fun d => d.parameters.length) = some n) (hR : rm.frames + 1 ≤ R.frames ∧ 8 + (maxL + 11) + rm.locals ≤ R.locals)
    (he : ∃ (q0 : Nat) (fs : List Value), ws[q0]? = some (b, .inr (ci, fs))) (hc : vwCl[ci]? = some (C, T, N)) (hn : As.length = n) (hst : st = As.reverse ++ .ref b :: rest) (hst8 : (rest.map fun v => v.category).sum ≤ 8) (hf : cells + 0 ≤ R.cells ∧ slots + 0 ≤ R.slots) (hdg : decode cc pc = .ok (.invokevirtual index, 3))
    (kk : ∀ (ws' : va_W), post ws' → GW p l e R s m args below meth c Q D A nL ws' cells slots (pc + 3) lv (rest)) : GW p l e R s m args below meth c Q D A nL ws cells slots pc lv st := by
  intro H locs ls hP hD hS h0
  subst hst
  obtain ⟨q0, fs, hq⟩ := he
  exact va_callv (va_runV (As := As) (rest := rest) ⟨E.1, E.2.1, E.2.2.1, E.2.2.2.1, E.2.2.2.2.1⟩ hM (cwV n E.2.2.2.2.1 hG hw hrm.1 hrm.2 hd hR) ⟨PcG.blind, va_recv (q0 := q0) E.2.2.2.2.2.1.1 hP hc hq, fun U hU hW => PcG.at hU hW hP E.2.2.2.2.2.1 hD⟩ rfl hn (h0.1) rfl (lv_room hst8) hdg hf) hS (fun q _ h => h) (fun q h => h) (fun ws' t H1 locs1 ht _ hp hB _ _ hS' => kk ws' hp H1 locs1 ls (by rw [← ht]; exact hB.1) hB.2 hS' h0)
theorem g_callSi (E : GE p s m args meth c D tys cc nL own Ts ret) {y : MethodName} {bytes : ByteArray} {maxL : Nat} {rt : Option FieldType} {wsc wsc' : List Cond} {rm : Room} {n index : Nat} {As rest : List Value} {post : Int32 → va_W → Prop} (hM : Met l y wsc rm (PcG D tys A ws As) (va_Qi post (gB D A) A) 0 0 A)
    (hG : GoodIn Ts (wsS own index y wsc)) (hw : wsc = Cond.code y bytes maxL rt :: wsc') (hrm : rm.cells = 0 ∧ rm.slots = 0) (hd : y.cls = own ∧ y.cls ≠ "java/lang/invoke/MethodHandle" ∧ y.cls ≠ "java/lang/invoke/VarHandle" ∧ (parseMethodDescriptor y.desc).map (fun d => d.parameters.length) = some n) (hR : rm.frames + 1 ≤ R.frames ∧ 8 + (maxL + 11) + rm.locals ≤ R.locals)
    (hn : As.length = n) (hst : st = As.reverse ++ rest) (hst8 : (rest.map fun v => v.category).sum ≤ 8) (hf : cells + 0 ≤ R.cells ∧ slots + 0 ≤ R.slots) (hdg : decode cc pc = .ok (.invokestatic index, 3))
    (kk : ∀ (r : Int32) (ws' : va_W), post r ws' → GW p l e R s m args below meth c Q D A nL ws' cells slots (pc + 3) lv (.int r :: rest)) : GW p l e R s m args below meth c Q D A nL ws cells slots pc lv st := by
  intro H locs ls hP hD hS h0
  subst hst
  exact va_calli (va_runS (As := As) (rest := rest) ⟨E.1, E.2.1, E.2.2.1, E.2.2.2.1, E.2.2.2.2.1⟩ hM (cwS n E.2.2.2.2.1 hG hw hrm.1 hrm.2 hd hR) ⟨PcG.blind, fun U hU hW => PcG.at hU hW hP E.2.2.2.2.2.1 hD⟩ rfl hn (h0.1) rfl (lv_room hst8) hdg hf) hS (fun q _ h => h) (fun q h => h) (fun r ws' t H1 locs1 ht _ hp hB _ _ hS' => kk r ws' hp H1 locs1 ls (by rw [← ht]; exact hB.1) hB.2 hS' h0)
theorem g_callSv (E : GE p s m args meth c D tys cc nL own Ts ret) {y : MethodName} {bytes : ByteArray} {maxL : Nat} {rt : Option FieldType} {wsc wsc' : List Cond} {rm : Room} {n index : Nat} {As rest : List Value} {post : va_W → Prop} (hM : Met l y wsc rm (PcG D tys A ws As) (va_Qv post (gB D A) A) 0 0 A)
    (hG : GoodIn Ts (wsS own index y wsc)) (hw : wsc = Cond.code y bytes maxL rt :: wsc') (hrm : rm.cells = 0 ∧ rm.slots = 0) (hd : y.cls = own ∧ y.cls ≠ "java/lang/invoke/MethodHandle" ∧ y.cls ≠ "java/lang/invoke/VarHandle" ∧ (parseMethodDescriptor y.desc).map (fun d => d.parameters.length) = some n) (hR : rm.frames + 1 ≤ R.frames ∧ 8 + (maxL + 11) + rm.locals ≤ R.locals)
    (hn : As.length = n) (hst : st = As.reverse ++ rest) (hst8 : (rest.map fun v => v.category).sum ≤ 8) (hf : cells + 0 ≤ R.cells ∧ slots + 0 ≤ R.slots) (hdg : decode cc pc = .ok (.invokestatic index, 3))
    (kk : ∀ (ws' : va_W), post ws' → GW p l e R s m args below meth c Q D A nL ws' cells slots (pc + 3) lv (rest)) : GW p l e R s m args below meth c Q D A nL ws cells slots pc lv st := by
  intro H locs ls hP hD hS h0
  subst hst
  exact va_callv (va_runS (As := As) (rest := rest) ⟨E.1, E.2.1, E.2.2.1, E.2.2.2.1, E.2.2.2.2.1⟩ hM (cwS n E.2.2.2.2.1 hG hw hrm.1 hrm.2 hd hR) ⟨PcG.blind, fun U hU hW => PcG.at hU hW hP E.2.2.2.2.2.1 hD⟩ rfl hn (h0.1) rfl (lv_room hst8) hdg hf) hS (fun q _ h => h) (fun q h => h) (fun ws' t H1 locs1 ht _ hp hB _ _ hS' => kk ws' hp H1 locs1 ls (by rw [← ht]; exact hB.1) hB.2 hS' h0)
theorem g_callTi (E : GE p s m args meth c D tys cc nL own Ts ret) {y : MethodName} {bytes : ByteArray} {maxL : Nat} {rt : Option FieldType} {wsc wsc' : List Cond} {rm : Room} {n index : Nat} {As rest : List Value} {post : Int32 → va_W → Prop} (hM : Met l y wsc rm (PcG D tys A ws As) (va_Qi post (gB D A) A) 0 0 A)
    (hG : GoodIn Ts (va_wsS own index y wsc)) (hw : wsc = Cond.code y bytes maxL rt :: wsc') (hrm : rm.cells = 0 ∧ rm.slots = 0) (hd : y.cls ≠ "java/lang/invoke/MethodHandle" ∧ y.cls ≠ "java/lang/invoke/VarHandle" ∧ (parseMethodDescriptor y.desc).map (fun d => d.parameters.length) = some n) (hR : rm.frames + 1 ≤ R.frames ∧ 8 + (maxL + 11) + rm.locals ≤ R.locals)
    (hn : As.length = n) (hst : st = As.reverse ++ rest) (hst8 : (rest.map fun v => v.category).sum ≤ 8) (hf : cells + 0 ≤ R.cells ∧ slots + 0 ≤ R.slots) (hdg : decode cc pc = .ok (.invokestatic index, 3))
    (kk : ∀ (r : Int32) (ws' : va_W), post r ws' → GW p l e R s m args below meth c Q D A nL ws' cells slots (pc + 3) lv (.int r :: rest)) : GW p l e R s m args below meth c Q D A nL ws cells slots pc lv st := by
  intro H locs ls hP hD hS h0
  subst hst
  exact va_calli (va_runS (As := As) (rest := rest) ⟨E.1, E.2.1, E.2.2.1, E.2.2.2.1, E.2.2.2.2.1⟩ hM (va_cwS n E.2.2.2.2.1 hG hw hrm.1 hrm.2 hd hR) ⟨PcG.blind, fun U hU hW => PcG.at hU hW hP E.2.2.2.2.2.1 hD⟩ rfl hn (h0.1) rfl (lv_room hst8) hdg hf) hS (fun q _ h => h) (fun q h => h) (fun r ws' t H1 locs1 ht _ hp hB _ _ hS' => kk r ws' hp H1 locs1 ls (by rw [← ht]; exact hB.1) hB.2 hS' h0)
theorem g_callTv (E : GE p s m args meth c D tys cc nL own Ts ret) {y : MethodName} {bytes : ByteArray} {maxL : Nat} {rt : Option FieldType} {wsc wsc' : List Cond} {rm : Room} {n index : Nat} {As rest : List Value} {post : va_W → Prop} (hM : Met l y wsc rm (PcG D tys A ws As) (va_Qv post (gB D A) A) 0 0 A)
    (hG : GoodIn Ts (va_wsS own index y wsc)) (hw : wsc = Cond.code y bytes maxL rt :: wsc') (hrm : rm.cells = 0 ∧ rm.slots = 0) (hd : y.cls ≠ "java/lang/invoke/MethodHandle" ∧ y.cls ≠ "java/lang/invoke/VarHandle" ∧ (parseMethodDescriptor y.desc).map (fun d => d.parameters.length) = some n) (hR : rm.frames + 1 ≤ R.frames ∧ 8 + (maxL + 11) + rm.locals ≤ R.locals)
    (hn : As.length = n) (hst : st = As.reverse ++ rest) (hst8 : (rest.map fun v => v.category).sum ≤ 8) (hf : cells + 0 ≤ R.cells ∧ slots + 0 ≤ R.slots) (hdg : decode cc pc = .ok (.invokestatic index, 3))
    (kk : ∀ (ws' : va_W), post ws' → GW p l e R s m args below meth c Q D A nL ws' cells slots (pc + 3) lv (rest)) : GW p l e R s m args below meth c Q D A nL ws cells slots pc lv st := by
  intro H locs ls hP hD hS h0
  subst hst
  exact va_callv (va_runS (As := As) (rest := rest) ⟨E.1, E.2.1, E.2.2.1, E.2.2.2.1, E.2.2.2.2.1⟩ hM (va_cwS n E.2.2.2.2.1 hG hw hrm.1 hrm.2 hd hR) ⟨PcG.blind, fun U hU hW => PcG.at hU hW hP E.2.2.2.2.2.1 hD⟩ rfl hn (h0.1) rfl (lv_room hst8) hdg hf) hS (fun q _ h => h) (fun q h => h) (fun ws' t H1 locs1 ht _ hp hB _ _ hS' => kk ws' hp H1 locs1 ls (by rw [← ht]; exact hB.1) hB.2 hS' h0)
theorem g_callNi (E : GE p s m args meth c D tys cc nL own Ts ret) {y : MethodName} {bytes : ByteArray} {maxL : Nat} {rt : Option FieldType} {wsc wsc' : List Cond} {rm : Room} {n index : Nat} {host : String} {As rest : List Value} {post : Int32 → va_W → Prop} (hM : Met l y wsc rm (PcG D tys A ws As) (va_Qi post (gB D A) A) 0 0 A)
    (hG : GoodIn Ts wsc) (hl : va_Nw (.methodLinkNest own index y host) s) (hini : Cond.initialized y.cls ∈ Ts) (hsta : Cond.static y ∈ Ts) (hw : wsc = Cond.code y bytes maxL rt :: wsc') (hrm : rm.cells = 0 ∧ rm.slots = 0) (hd : y.cls ≠ "java/lang/invoke/MethodHandle" ∧ y.cls ≠ "java/lang/invoke/VarHandle" ∧ (parseMethodDescriptor y.desc).map (fun d => d.parameters.length) = some n) (hR : rm.frames + 1 ≤ R.frames ∧ 8 + (maxL + 11) + rm.locals ≤ R.locals)
    (hn : As.length = n) (hst : st = As.reverse ++ rest) (hst8 : (rest.map fun v => v.category).sum ≤ 8) (hf : cells + 0 ≤ R.cells ∧ slots + 0 ≤ R.slots) (hdg : decode cc pc = .ok (.invokestatic index, 3))
    (kk : ∀ (r : Int32) (ws' : va_W), post r ws' → GW p l e R s m args below meth c Q D A nL ws' cells slots (pc + 3) lv (.int r :: rest)) : GW p l e R s m args below meth c Q D A nL ws cells slots pc lv st := by
  intro H locs ls hP hD hS h0
  subst hst
  exact va_calli (va_runSN (As := As) (rest := rest) ⟨E.1, E.2.1, E.2.2.1, E.2.2.2.1, E.2.2.2.2.1⟩ hM ⟨va_cnB n E.2.2.2.2.1 hG hw hrm.1 hrm.2 hl (E.2.2.2.2.1 _ hini) hd hR, E.2.2.2.2.1 _ hsta, trivial⟩ ⟨PcG.blind, fun U hU hW => PcG.at hU hW hP E.2.2.2.2.2.1 hD⟩ rfl hn (h0.1) rfl (lv_room hst8) hdg hf) hS (fun q _ h => h) (fun q h => h) (fun r ws' t H1 locs1 ht _ hp hB _ _ hS' => kk r ws' hp H1 locs1 ls (by rw [← ht]; exact hB.1) hB.2 hS' h0)
theorem g_callNv (E : GE p s m args meth c D tys cc nL own Ts ret) {y : MethodName} {bytes : ByteArray} {maxL : Nat} {rt : Option FieldType} {wsc wsc' : List Cond} {rm : Room} {n index : Nat} {host : String} {As rest : List Value} {post : va_W → Prop} (hM : Met l y wsc rm (PcG D tys A ws As) (va_Qv post (gB D A) A) 0 0 A)
    (hG : GoodIn Ts wsc) (hl : va_Nw (.methodLinkNest own index y host) s) (hini : Cond.initialized y.cls ∈ Ts) (hsta : Cond.static y ∈ Ts) (hw : wsc = Cond.code y bytes maxL rt :: wsc') (hrm : rm.cells = 0 ∧ rm.slots = 0) (hd : y.cls ≠ "java/lang/invoke/MethodHandle" ∧ y.cls ≠ "java/lang/invoke/VarHandle" ∧ (parseMethodDescriptor y.desc).map (fun d => d.parameters.length) = some n) (hR : rm.frames + 1 ≤ R.frames ∧ 8 + (maxL + 11) + rm.locals ≤ R.locals)
    (hn : As.length = n) (hst : st = As.reverse ++ rest) (hst8 : (rest.map fun v => v.category).sum ≤ 8) (hf : cells + 0 ≤ R.cells ∧ slots + 0 ≤ R.slots) (hdg : decode cc pc = .ok (.invokestatic index, 3))
    (kk : ∀ (ws' : va_W), post ws' → GW p l e R s m args below meth c Q D A nL ws' cells slots (pc + 3) lv (rest)) : GW p l e R s m args below meth c Q D A nL ws cells slots pc lv st := by
  intro H locs ls hP hD hS h0
  subst hst
  exact va_callv (va_runSN (As := As) (rest := rest) ⟨E.1, E.2.1, E.2.2.1, E.2.2.2.1, E.2.2.2.2.1⟩ hM ⟨va_cnB n E.2.2.2.2.1 hG hw hrm.1 hrm.2 hl (E.2.2.2.2.1 _ hini) hd hR, E.2.2.2.2.1 _ hsta, trivial⟩ ⟨PcG.blind, fun U hU hW => PcG.at hU hW hP E.2.2.2.2.2.1 hD⟩ rfl hn (h0.1) rfl (lv_room hst8) hdg hf) hS (fun q _ h => h) (fun q h => h) (fun ws' t H1 locs1 ht _ hp hB _ _ hS' => kk ws' hp H1 locs1 ls (by rw [← ht]; exact hB.1) hB.2 hS' h0)
end GG
/-- a method's contract out of the walk of its body -/
theorem g_met {l : Launch} {D : va_G} {tys : gT} {A : Nat → Prop} {ws0 : va_W} {As : List Value} {y : MethodName} {wsc wsc' : List Cond} {rm : Room} {Qc : Array Value → State → Outcome → State → Prop} {mc ms : Nat} {cc : ByteArray} {maxL : Nat} {ret : Option FieldType} {own : String} (ho : y.cls = own) (hy : plainName y.cls = true) (hw : wsc = Cond.code y cc maxL ret :: wsc') (hlen : (lg_sl As).length ≤ maxL)
    (body : ∀ (p : Program) (e : Env) (s : State) (m : MethodId) (below : List Frame) (meth : Method) (c : Code), GE p s m As.toArray meth c D tys cc maxL own wsc ret → GW p l e (headSpec wsc rm).room s m As.toArray below meth c (MQ below Qc As.toArray s mc ms A) D A maxL ws0 0 0 0 (lv_args 0 As) []) : Met l y wsc rm (PcG D tys A ws0 As) Qc mc ms A := by
  refine Met.ofW (cc := cc) (maxL := maxL) (ret := ret) hy hw ?_
  intro p e s m args below meth c s₁ B hml hv
  obtain ⟨rfl, hP, hK, hD⟩ := hv
  subst ho
  have E : GE p s m As.toArray meth c D tys cc maxL y.cls wsc ret := ⟨B.exec, B.bytes, hml, findClass_of_methodNamed B.named, atoms_spec (ws := wsc) B.pre, hK, B.returns, B.notSynchronized⟩
  rw [lg_entry_eq]
  exact body p e s m below meth c E s.heap [] _ hP hD va_S.rf (lv_entry As hlen)
/-- .. of a constructor -/
theorem g_metI {l : Launch} {D : va_G} {tys : gT} {A : Nat → Prop} {ws0 : va_W} {As : List Value} {y : MethodName} {wsc wsc' : List Cond} {rm : Room} {Qc : Array Value → State → Outcome → State → Prop} {mc ms : Nat} {cc : ByteArray} {maxL : Nat} {ret : Option FieldType} {own : String} (ho : y.cls = own) (hy : plainName y.cls = true) (hyn : y.name = "<init>") (hw : wsc = Cond.code y cc maxL ret :: wsc') (hlen : (lg_sl As).length ≤ maxL)
    (body : ∀ (p : Program) (e : Env) (s : State) (m : MethodId) (below : List Frame) (meth : Method) (c : Code), GE p s m As.toArray meth c D tys cc maxL own wsc ret → meth.name = "<init>" → GW p l e (headSpec wsc rm).room s m As.toArray below meth c (MQ below Qc As.toArray s mc ms A) D A maxL ws0 0 0 0 (lv_args 0 As) []) : Met l y wsc rm (PcG D tys A ws0 As) Qc mc ms A := by
  refine Met.ofW (cc := cc) (maxL := maxL) (ret := ret) hy hw ?_
  intro p e s m args below meth c s₁ B hml hv
  obtain ⟨rfl, hP, hK, hD⟩ := hv
  subst ho
  have E : GE p s m As.toArray meth c D tys cc maxL y.cls wsc ret := ⟨B.exec, B.bytes, hml, findClass_of_methodNamed B.named, atoms_spec (ws := wsc) B.pre, hK, B.returns, B.notSynchronized⟩
  rw [lg_entry_eq]
  exact body p e s m below meth c E ((name_of_methodNamed B.named B.method).1.trans hyn) s.heap [] _ hP hD va_S.rf (lv_entry As hlen)
end
section
/-! ===== SPEC: the bastion as one mathematical value; what pyramids are ===== -/
abbrev St : Type := Nat → Nat → Nat → Int32
def upR (f : St) (t i : Nat) (r : Nat → Int32) : St := fun t' i' => if t' = t ∧ i' = i then r else f t' i'
theorem upR_s {f : St} {t i : Nat} {r : Nat → Int32} : upR f t i r t i = r := by simp [upR]
theorem upR_n {f : St} {t i t' i' : Nat} {r : Nat → Int32} (h : ¬ (t' = t ∧ i' = i)) : upR f t i r t' i' = f t' i' := by simp only [upR, if_neg h]
def up3 (f : St) (t i j : Nat) (v : Int32) : St := upR f t i (upd (f t i) j v)
theorem up3_e {f : St} {t i j t' i' j' : Nat} {v : Int32} : up3 f t i j v t' i' j' = if t' = t ∧ i' = i ∧ j' = j then v else f t' i' j' := by
  by_cases h : t' = t ∧ i' = i
  · obtain ⟨rfl, rfl⟩ := h
    simp [up3, upR, upd]
  · rw [up3, upR_n h, if_neg (fun q => h ⟨q.1, q.2.1⟩)]
theorem up3_s {f : St} {t i j : Nat} {v : Int32} : up3 f t i j v t i j = v := by rw [up3_e, if_pos ⟨rfl, rfl, rfl⟩]
theorem up3_n {f : St} {t i j t' i' j' : Nat} {v : Int32} (h : ¬ (t' = t ∧ i' = i ∧ j' = j)) : up3 f t i j v t' i' j' = f t' i' j' := by rw [up3_e, if_neg h]
def upY (σ : Nat → St) (y : Nat) (a : St) : Nat → St := fun y' => if y' = y then a else σ y'
theorem upY_s {σ : Nat → St} {y : Nat} {a : St} : upY σ y a y = a := by simp [upY]
theorem upY_n {σ : Nat → St} {y y' : Nat} {a : St} (h : ¬ y' = y) : upY σ y a y' = σ y' := by simp [upY, h]
theorem upY_upY {σ : Nat → St} {y : Nat} {a b : St} : upY (upY σ y a) y b = upY σ y b := by
  funext y'
  by_cases h : y' = y <;> simp [upY, h]
theorem upY_self {σ : Nat → St} {y : Nat} : upY σ y (σ y) = σ := by
  funext y'
  by_cases h : y' = y
  · subst h; simp [upY]
  · simp [upY, h]
-- tags: 0 numbers of a yard (0 piles, 1 cats, 2 day, 3 rain, 4 limit); 1 piles (0 calibre, 1 side, 2 balls); 2 rust; 3 cats (0 leap, 1 on, 2 rolled off); 4 loose; 5 store; 6 fired; 7 thrown away
def np (a : St) : Int := (a 0 0 0).toInt
def nc (a : St) : Int := (a 0 0 1).toInt
def cal (a : St) (p : Nat) : Int := (a 1 p 0).toInt
def sd (a : St) (p : Nat) : Int := (a 1 p 1).toInt
def bl (a : St) (p : Nat) : Int := (a 1 p 2).toInt
def lp (a : St) (c : Nat) : Int := (a 3 c 0).toInt
def on (a : St) (c : Nat) : Int := (a 3 c 1).toInt
/-- squares up to n, added -/
def sq (n : Int) : Int := n * (n + 1) * (2 * n + 1) / 6
/-- where layer k starts in a pyramid with the edge e -/
def stz (e k : Int) : Int := sq e - sq (e - k)
/-- full layers among b balls, of n looked at from k on -/
def lfA (e b : Int) : Nat → Int → Int
  | 0, k => k
  | n + 1, k => if k < e ∧ stz e (k + 1) ≤ b then lfA e b n (k + 1) else k
def lf (e b : Int) : Int := lfA e b 7 0
/-- layers begun -/
def lbA (e b : Int) : Nat → Int → Int
  | 0, k => k
  | n + 1, k => if k < e ∧ stz e k < b then lbA e b n (k + 1) else k
def lb (e b : Int) : Int := lbA e b 7 0
def row (e b : Int) : Int := (b - stz e (lf e b)) / (e - lf e b)
def pla (e b : Int) : Int := (b - stz e (lf e b)) % (e - lf e b)
/-- the least number of a ball that lies on b -/
def cov (e b : Int) : Int := stz e (lf e b + 1) + max (row e b - 1) 0 * (e - lf e b - 1) + max (pla e b - 1) 0
/-- is there a ball at this row and place of this layer, among n -/
def isAt (e n k r q : Int) : Bool := decide (0 ≤ r) && decide (r < e - k) && decide (0 ≤ q) && decide (q < e - k) && decide (stz e k + (e - k) * r + q < n)
/-- how many of n balls lie on b -/
def onN (e n b : Int) : Int := (if isAt e n (lf e b + 1) (row e b) (pla e b) then 1 else 0) + (if isAt e n (lf e b + 1) (row e b) (pla e b - 1) then 1 else 0) + (if isAt e n (lf e b + 1) (row e b - 1) (pla e b) then 1 else 0) + (if isAt e n (lf e b + 1) (row e b - 1) (pla e b - 1) then 1 else 0)
theorem e16 {P : Int → Prop} (h1 : P 1) (h2 : P 2) (h3 : P 3) (h4 : P 4) (h5 : P 5) (h6 : P 6) {e : Int} (h : 1 ≤ e ∧ e ≤ 6) : P e := by
  rcases (show e = 1 ∨ e = 2 ∨ e = 3 ∨ e = 4 ∨ e = 5 ∨ e = 6 by omega) with rfl | rfl | rfl | rfl | rfl | rfl <;> assumption
theorem sq_le {e : Int} (h : 1 ≤ e ∧ e ≤ 6) : 1 ≤ sq e ∧ sq e ≤ 91 := e16 (P := fun e => 1 ≤ sq e ∧ sq e ≤ 91) (by decide) (by decide) (by decide) (by decide) (by decide) (by decide) h
end
section
/-! ===== WORLD X: the cells of a CannonStacks, by number (y, t, i): y the yard (0 true, 1 trial, 2 the pyramids), t the kind, i which ===== -/
abbrev Ad : Type := Nat → Nat → Nat → Nat
def pyN (r : Nat → Int32) : Nat := (max 1 (r 1).toInt).toNat
def mB (cA : Nat → ClassId) (ad : Ad) (y t i : Nat) (r : Nat → Int32) : va_E := match t with
  | 0 => .inr (3, [.ref (ad y 10 0), .ref (ad y 11 0), .ref (ad y 4 0), .int (r 0), .int (r 1), .int (r 2), .int (r 3), .int (r 4)])
  | 1 => .inr (1, [.int (r 0), .ref (ad 2 9 (pyN r)), .int (r 2), .ref (ad y 2 i)])
  | 2 => .inl (cA 0, 91, .inl r)
  | 3 => .inr (0, [.int (r 0), .int (r 1), .int (r 2)])
  | 4 => .inl (cA 0, 5, .inl r)
  | 5 => .inl (cA 0, 5, .inl r)
  | 6 => .inl (cA 0, 5, .inl r)
  | 7 => .inl (cA 0, 5, .inl r)
  | 8 => .inr (4, [.ref (ad 2 12 0), .ref (ad 0 5 0), .ref (ad 0 6 0), .ref (ad 0 7 0), .ref (ad 0 0 0), .ref (ad 1 0 0)])
  | 9 => .inr (2, [.int (zI i), .int (zI (sq i)), .ref (ad 2 13 i), .ref (ad 2 14 i)])
  | 10 => .inl (cA 2, 6, .inr (.inr (.inr (.inr fun k => some (ad y 1 k)))))
  | 11 => .inl (cA 3, 3, .inr (.inr (.inr (.inr fun k => some (ad y 3 k)))))
  | 12 => .inl (cA 1, 6, .inr (.inr (.inr (.inr fun k => some (ad 2 9 (k + 1))))))
  | 13 => .inl (cA 0, i + 1, .inl fun k => zI (stz i k))
  | _ => .inl (cA 0, (sq i).toNat, .inl fun k => zI (cov i k))
abbrev Id3 : Type := Nat × Nat × Nat
def idsX : List Id3 := [(0, 8, 0), (2, 12, 0), (0, 5, 0), (0, 6, 0), (0, 7, 0), (0, 0, 0), (0, 10, 0), (0, 11, 0), (0, 4, 0), (0, 1, 0), (0, 1, 1), (0, 1, 2), (0, 1, 3), (0, 1, 4), (0, 1, 5), (0, 2, 0), (0, 2, 1), (0, 2, 2), (0, 2, 3), (0, 2, 4), (0, 2, 5), (0, 3, 0), (0, 3, 1), (0, 3, 2), (1, 0, 0), (1, 10, 0), (1, 11, 0), (1, 4, 0), (1, 1, 0), (1, 1, 1), (1, 1, 2), (1, 1, 3), (1, 1, 4), (1, 1, 5), (1, 2, 0), (1, 2, 1), (1, 2, 2), (1, 2, 3), (1, 2, 4), (1, 2, 5), (1, 3, 0), (1, 3, 1), (1, 3, 2), (2, 9, 1), (2, 13, 1), (2, 14, 1), (2, 9, 2), (2, 13, 2), (2, 14, 2), (2, 9, 3), (2, 13, 3), (2, 14, 3), (2, 9, 4), (2, 13, 4), (2, 14, 4), (2, 9, 5), (2, 13, 5), (2, 14, 5), (2, 9, 6), (2, 13, 6), (2, 14, 6)]
theorem idsX_nd : idsX.Nodup := by decide +kernel
theorem mem_y : ∀ y, y < 2 → (y, 0, 0) ∈ idsX := by decide +kernel
theorem mem_1 : ∀ y, y < 2 → ∀ i, i < 6 → (y, 1, i) ∈ idsX := by decide +kernel
theorem mem_2 : ∀ y, y < 2 → ∀ i, i < 6 → (y, 2, i) ∈ idsX := by decide +kernel
theorem mem_3 : ∀ y, y < 2 → ∀ i, i < 3 → (y, 3, i) ∈ idsX := by decide +kernel
theorem mem_4 : ∀ y, y < 2 → (y, 4, 0) ∈ idsX := by decide +kernel
theorem mem_10 : ∀ y, y < 2 → (y, 10, 0) ∈ idsX := by decide +kernel
theorem mem_11 : ∀ y, y < 2 → (y, 11, 0) ∈ idsX := by decide +kernel
theorem mem_9 : ∀ i, i < 7 → 1 ≤ i → (2, 9, i) ∈ idsX := by decide +kernel
theorem mem_13 : ∀ i, i < 7 → 1 ≤ i → (2, 13, i) ∈ idsX := by decide +kernel
theorem mem_14 : ∀ i, i < 7 → 1 ≤ i → (2, 14, i) ∈ idsX := by decide +kernel
theorem mem_5 : (0, 5, 0) ∈ idsX := by decide +kernel
theorem mem_6 : (0, 6, 0) ∈ idsX := by decide +kernel
theorem mem_7 : (0, 7, 0) ∈ idsX := by decide +kernel
theorem mem_8 : (0, 8, 0) ∈ idsX := by decide +kernel
theorem mem_12 : (2, 12, 0) ∈ idsX := by decide +kernel
def wX (cA : Nat → ClassId) (ad : Ad) (σ : Nat → St) : va_W := idsX.map (fun q => (ad q.1 q.2.1 q.2.2, mB cA ad q.1 q.2.1 q.2.2 (σ q.1 q.2.1 q.2.2)))
def tysX (cA : Nat → ClassId) : gT := [(cA 0, .int), (cA 1, .object RX2), (cA 2, .object RX1), (cA 3, .object RX0), (cA 4, .long)]
theorem wX_at {cA : Nat → ClassId} {ad : Ad} {σ : Nat → St} {y t i : Nat} (h : (y, t, i) ∈ idsX) : ∃ q0 : Nat, (wX cA ad σ)[q0]? = some (ad y t i, mB cA ad y t i (σ y t i)) := by
  obtain ⟨k, hk⟩ := List.getElem?_of_mem h
  exact ⟨k, by rw [wX, List.getElem?_map, hk]; rfl⟩
theorem nd_inj {α : Type} : ∀ {L : List α}, L.Nodup → ∀ {i j : Nat} {x : α}, L[i]? = some x → L[j]? = some x → i = j
  | [], _, i, j, x, h, _ => by simp at h
  | a :: L, hn, i, j, x, h1, h2 => by
    obtain ⟨hn1, hn2⟩ := List.nodup_cons.mp hn
    cases i with
    | zero =>
      cases j with
      | zero => rfl
      | succ j =>
        rw [List.getElem?_cons_zero] at h1
        rw [List.getElem?_cons_succ] at h2
        cases h1
        exact absurd (List.mem_of_getElem? h2) hn1
    | succ i =>
      rw [List.getElem?_cons_succ] at h1
      cases j with
      | zero =>
        rw [List.getElem?_cons_zero] at h2
        cases h2
        exact absurd (List.mem_of_getElem? h1) hn1
      | succ j =>
        rw [List.getElem?_cons_succ] at h2
        rw [nd_inj hn2 h1 h2]
theorem wl_set {α β : Type} {L : List α} (hn : L.Nodup) {x : α} (hx : x ∈ L) {f f' : α → β} {e : β} (h1 : f' x = e) (h2 : ∀ z ∈ L, z ≠ x → f' z = f z) : ∃ q0 : Nat, (L.map f)[q0]? = some (f x) ∧ (L.map f).set q0 e = L.map f' := by
  obtain ⟨k, hk⟩ := List.getElem?_of_mem hx
  refine ⟨k, by rw [List.getElem?_map, hk]; rfl, List.ext_getElem? fun j => ?_⟩
  rw [List.getElem?_set]
  by_cases hj : k = j
  · subst hj
    have hl : k < L.length := (List.getElem?_eq_some_iff.mp hk).1
    rw [if_pos rfl, if_pos (by simpa using hl), ← h1, List.getElem?_map, hk]
    rfl
  · rw [if_neg hj, List.getElem?_map, List.getElem?_map]
    cases hz : L[j]? with
    | none => rfl
    | some z =>
      show some (f z) = some (f' z)
      rw [h2 z (List.mem_of_getElem? hz) (fun q => hj (nd_inj hn hk (by rw [← q]; exact hz)))]
/-- a row of the value changes: one cell does -/
theorem wX_set {cA : Nat → ClassId} {ad : Ad} {σ : Nat → St} {y t i : Nat} (h : (y, t, i) ∈ idsX) {r : Nat → Int32} {e0 e' : va_E} (h0 : mB cA ad y t i (σ y t i) = e0) (h1 : mB cA ad y t i r = e') : ∃ q0 : Nat, (wX cA ad σ)[q0]? = some (ad y t i, e0) ∧ (wX cA ad σ).set q0 (ad y t i, e') = wX cA ad (upY σ y (upR (σ y) t i r)) := by
  subst h0; subst h1
  refine wl_set (f := fun q : Id3 => (ad q.1 q.2.1 q.2.2, mB cA ad q.1 q.2.1 q.2.2 (σ q.1 q.2.1 q.2.2))) (f' := fun q : Id3 => (ad q.1 q.2.1 q.2.2, mB cA ad q.1 q.2.1 q.2.2 (upY σ y (upR (σ y) t i r) q.1 q.2.1 q.2.2))) idsX_nd h ?_ ?_
  · show (ad y t i, mB cA ad y t i (upY σ y (upR (σ y) t i r) y t i)) = _
    rw [upY_s, upR_s]
  · rintro ⟨y', t', i'⟩ _ hne
    show (ad y' t' i', mB cA ad y' t' i' (upY σ y (upR (σ y) t i r) y' t' i')) = (ad y' t' i', mB cA ad y' t' i' (σ y' t' i'))
    congr 2
    by_cases hy : y' = y
    · subst hy
      rw [upY_s, upR_n]
      rintro ⟨rfl, rfl⟩
      exact hne rfl
    · rw [upY_n hy]
theorem ob_0 {cA : Nat → ClassId} {ad : Ad} {σ : Nat → St} {y : Nat} (h : (y, 0, 0) ∈ idsX) : ∃ (q0 : Nat) (fs : List Value), (wX cA ad σ)[q0]? = some (ad y 0 0, .inr (3, fs)) := let ⟨q, h⟩ := wX_at h; ⟨q, _, h⟩
theorem ob_1 {cA : Nat → ClassId} {ad : Ad} {σ : Nat → St} {y i : Nat} (h : (y, 1, i) ∈ idsX) : ∃ (q0 : Nat) (fs : List Value), (wX cA ad σ)[q0]? = some (ad y 1 i, .inr (1, fs)) := let ⟨q, h⟩ := wX_at h; ⟨q, _, h⟩
theorem ob_3 {cA : Nat → ClassId} {ad : Ad} {σ : Nat → St} {y i : Nat} (h : (y, 3, i) ∈ idsX) : ∃ (q0 : Nat) (fs : List Value), (wX cA ad σ)[q0]? = some (ad y 3 i, .inr (0, fs)) := let ⟨q, h⟩ := wX_at h; ⟨q, _, h⟩
theorem ob_8 {cA : Nat → ClassId} {ad : Ad} {σ : Nat → St} (h : (0, 8, 0) ∈ idsX) : ∃ (q0 : Nat) (fs : List Value), (wX cA ad σ)[q0]? = some (ad 0 8 0, .inr (4, fs)) := let ⟨q, h⟩ := wX_at h; ⟨q, _, h⟩
theorem ob_9 {cA : Nat → ClassId} {ad : Ad} {σ : Nat → St} {i : Nat} (h : (2, 9, i) ∈ idsX) : ∃ (q0 : Nat) (fs : List Value), (wX cA ad σ)[q0]? = some (ad 2 9 i, .inr (2, fs)) := let ⟨q, h⟩ := wX_at h; ⟨q, _, h⟩
section WX
variable {p : Program} {l : Launch} {e : Env} {R : Room} {s : State} {m : MethodId} {args : Array Value} {below : List Frame} {meth : Method} {c : Code} {Q : State → Prop} {D : va_G} {tys : gT} {A : Nat → Prop} {nL : Nat} {cells slots pc : Nat} {lv : List (Nat × Value)} {st : List Value} {cc : ByteArray} {own : String} {Ts : List Cond} {ret : Option FieldType} {cA : Nat → ClassId} {ad : Ad} {σ : Nat → St} {y i : Nat}
theorem gx_Yard_piles (E : GE p s m args meth c D tys cc nL own Ts ret) {index : Nat} (hi : (y, 0, 0) ∈ idsX) (hin : ∀ w ∈ u_ws RX3 TX3 8, w ∈ Ts) (hlink : Cond.fieldLink own index RX3 "piles" "[LCannonStacks$Pile;" ∈ Ts) (hdg : decode cc pc = .ok (.getfield index, 3)) (kk : GW p l e R s m args below meth c Q D A nL (wX cA ad σ) cells slots (pc + 3) lv (.ref (ad y 10 0) :: st)) : GW p l e R s m args below meth c Q D A nL (wX cA ad σ) cells slots pc lv (.ref (ad y 0 0) :: st) :=
  g_getf E hin (T := TX3) rfl (wX_at hi) 0 (by decide) hlink rfl rfl hdg kk
theorem gx_Yard_cats (E : GE p s m args meth c D tys cc nL own Ts ret) {index : Nat} (hi : (y, 0, 0) ∈ idsX) (hin : ∀ w ∈ u_ws RX3 TX3 8, w ∈ Ts) (hlink : Cond.fieldLink own index RX3 "cats" "[LCannonStacks$Cat;" ∈ Ts) (hdg : decode cc pc = .ok (.getfield index, 3)) (kk : GW p l e R s m args below meth c Q D A nL (wX cA ad σ) cells slots (pc + 3) lv (.ref (ad y 11 0) :: st)) : GW p l e R s m args below meth c Q D A nL (wX cA ad σ) cells slots pc lv (.ref (ad y 0 0) :: st) :=
  g_getf E hin (T := TX3) rfl (wX_at hi) 1 (by decide) hlink rfl rfl hdg kk
theorem gx_Yard_loose (E : GE p s m args meth c D tys cc nL own Ts ret) {index : Nat} (hi : (y, 0, 0) ∈ idsX) (hin : ∀ w ∈ u_ws RX3 TX3 8, w ∈ Ts) (hlink : Cond.fieldLink own index RX3 "loose" "[I" ∈ Ts) (hdg : decode cc pc = .ok (.getfield index, 3)) (kk : GW p l e R s m args below meth c Q D A nL (wX cA ad σ) cells slots (pc + 3) lv (.ref (ad y 4 0) :: st)) : GW p l e R s m args below meth c Q D A nL (wX cA ad σ) cells slots pc lv (.ref (ad y 0 0) :: st) :=
  g_getf E hin (T := TX3) rfl (wX_at hi) 2 (by decide) hlink rfl rfl hdg kk
theorem gx_Yard_pileCount (E : GE p s m args meth c D tys cc nL own Ts ret) {index : Nat} (hi : (y, 0, 0) ∈ idsX) (hin : ∀ w ∈ u_ws RX3 TX3 8, w ∈ Ts) (hlink : Cond.fieldLink own index RX3 "pileCount" "I" ∈ Ts) (hdg : decode cc pc = .ok (.getfield index, 3)) (kk : GW p l e R s m args below meth c Q D A nL (wX cA ad σ) cells slots (pc + 3) lv (.int (zI (np (σ y))) :: st)) : GW p l e R s m args below meth c Q D A nL (wX cA ad σ) cells slots pc lv (.ref (ad y 0 0) :: st) :=
  g_getf E hin (T := TX3) rfl (wX_at hi) 3 (by decide) hlink rfl (by simp [cal, bl, np, nc, lp, on, zI_self]) hdg kk
theorem px_Yard_pileCount (E : GE p s m args meth c D tys cc nL own Ts ret) {index : Nat} {v : Int32} (hi : (y, 0, 0) ∈ idsX) (hin : ∀ w ∈ u_ws RX3 TX3 8, w ∈ Ts) (hlink : Cond.fieldLink own index RX3 "pileCount" "I" ∈ Ts) (hdg : decode cc pc = .ok (.putfield index, 3)) (kk : GW p l e R s m args below meth c Q D A nL (wX cA ad (upY σ y (up3 (σ y) 0 0 0 v))) cells slots (pc + 3) lv st) : GW p l e R s m args below meth c Q D A nL (wX cA ad σ) cells slots pc lv (.int v :: .ref (ad y 0 0) :: st) :=
  g_putf (ty := .int) (k := 3) E hin (T := TX3) tyX3_ok nmX3 rfl (by decide) hlink rfl rfl (by decide +kernel) rfl rfl (Nat.le_of_ble_eq_true rfl) (wX_set hi rfl rfl) hdg kk
theorem gx_Yard_catCount (E : GE p s m args meth c D tys cc nL own Ts ret) {index : Nat} (hi : (y, 0, 0) ∈ idsX) (hin : ∀ w ∈ u_ws RX3 TX3 8, w ∈ Ts) (hlink : Cond.fieldLink own index RX3 "catCount" "I" ∈ Ts) (hdg : decode cc pc = .ok (.getfield index, 3)) (kk : GW p l e R s m args below meth c Q D A nL (wX cA ad σ) cells slots (pc + 3) lv (.int (zI (nc (σ y))) :: st)) : GW p l e R s m args below meth c Q D A nL (wX cA ad σ) cells slots pc lv (.ref (ad y 0 0) :: st) :=
  g_getf E hin (T := TX3) rfl (wX_at hi) 4 (by decide) hlink rfl (by simp [cal, bl, np, nc, lp, on, zI_self]) hdg kk
theorem px_Yard_catCount (E : GE p s m args meth c D tys cc nL own Ts ret) {index : Nat} {v : Int32} (hi : (y, 0, 0) ∈ idsX) (hin : ∀ w ∈ u_ws RX3 TX3 8, w ∈ Ts) (hlink : Cond.fieldLink own index RX3 "catCount" "I" ∈ Ts) (hdg : decode cc pc = .ok (.putfield index, 3)) (kk : GW p l e R s m args below meth c Q D A nL (wX cA ad (upY σ y (up3 (σ y) 0 0 1 v))) cells slots (pc + 3) lv st) : GW p l e R s m args below meth c Q D A nL (wX cA ad σ) cells slots pc lv (.int v :: .ref (ad y 0 0) :: st) :=
  g_putf (ty := .int) (k := 4) E hin (T := TX3) tyX3_ok nmX3 rfl (by decide) hlink rfl rfl (by decide +kernel) rfl rfl (Nat.le_of_ble_eq_true rfl) (wX_set hi rfl rfl) hdg kk
theorem gx_Yard_day (E : GE p s m args meth c D tys cc nL own Ts ret) {index : Nat} (hi : (y, 0, 0) ∈ idsX) (hin : ∀ w ∈ u_ws RX3 TX3 8, w ∈ Ts) (hlink : Cond.fieldLink own index RX3 "day" "I" ∈ Ts) (hdg : decode cc pc = .ok (.getfield index, 3)) (kk : GW p l e R s m args below meth c Q D A nL (wX cA ad σ) cells slots (pc + 3) lv (.int (σ y 0 0 2) :: st)) : GW p l e R s m args below meth c Q D A nL (wX cA ad σ) cells slots pc lv (.ref (ad y 0 0) :: st) :=
  g_getf E hin (T := TX3) rfl (wX_at hi) 5 (by decide) hlink rfl rfl hdg kk
theorem px_Yard_day (E : GE p s m args meth c D tys cc nL own Ts ret) {index : Nat} {v : Int32} (hi : (y, 0, 0) ∈ idsX) (hin : ∀ w ∈ u_ws RX3 TX3 8, w ∈ Ts) (hlink : Cond.fieldLink own index RX3 "day" "I" ∈ Ts) (hdg : decode cc pc = .ok (.putfield index, 3)) (kk : GW p l e R s m args below meth c Q D A nL (wX cA ad (upY σ y (up3 (σ y) 0 0 2 v))) cells slots (pc + 3) lv st) : GW p l e R s m args below meth c Q D A nL (wX cA ad σ) cells slots pc lv (.int v :: .ref (ad y 0 0) :: st) :=
  g_putf (ty := .int) (k := 5) E hin (T := TX3) tyX3_ok nmX3 rfl (by decide) hlink rfl rfl (by decide +kernel) rfl rfl (Nat.le_of_ble_eq_true rfl) (wX_set hi rfl rfl) hdg kk
theorem gx_Yard_rain (E : GE p s m args meth c D tys cc nL own Ts ret) {index : Nat} (hi : (y, 0, 0) ∈ idsX) (hin : ∀ w ∈ u_ws RX3 TX3 8, w ∈ Ts) (hlink : Cond.fieldLink own index RX3 "rain" "I" ∈ Ts) (hdg : decode cc pc = .ok (.getfield index, 3)) (kk : GW p l e R s m args below meth c Q D A nL (wX cA ad σ) cells slots (pc + 3) lv (.int (σ y 0 0 3) :: st)) : GW p l e R s m args below meth c Q D A nL (wX cA ad σ) cells slots pc lv (.ref (ad y 0 0) :: st) :=
  g_getf E hin (T := TX3) rfl (wX_at hi) 6 (by decide) hlink rfl rfl hdg kk
theorem px_Yard_rain (E : GE p s m args meth c D tys cc nL own Ts ret) {index : Nat} {v : Int32} (hi : (y, 0, 0) ∈ idsX) (hin : ∀ w ∈ u_ws RX3 TX3 8, w ∈ Ts) (hlink : Cond.fieldLink own index RX3 "rain" "I" ∈ Ts) (hdg : decode cc pc = .ok (.putfield index, 3)) (kk : GW p l e R s m args below meth c Q D A nL (wX cA ad (upY σ y (up3 (σ y) 0 0 3 v))) cells slots (pc + 3) lv st) : GW p l e R s m args below meth c Q D A nL (wX cA ad σ) cells slots pc lv (.int v :: .ref (ad y 0 0) :: st) :=
  g_putf (ty := .int) (k := 6) E hin (T := TX3) tyX3_ok nmX3 rfl (by decide) hlink rfl rfl (by decide +kernel) rfl rfl (Nat.le_of_ble_eq_true rfl) (wX_set hi rfl rfl) hdg kk
theorem gx_Yard_limit (E : GE p s m args meth c D tys cc nL own Ts ret) {index : Nat} (hi : (y, 0, 0) ∈ idsX) (hin : ∀ w ∈ u_ws RX3 TX3 8, w ∈ Ts) (hlink : Cond.fieldLink own index RX3 "limit" "I" ∈ Ts) (hdg : decode cc pc = .ok (.getfield index, 3)) (kk : GW p l e R s m args below meth c Q D A nL (wX cA ad σ) cells slots (pc + 3) lv (.int (σ y 0 0 4) :: st)) : GW p l e R s m args below meth c Q D A nL (wX cA ad σ) cells slots pc lv (.ref (ad y 0 0) :: st) :=
  g_getf E hin (T := TX3) rfl (wX_at hi) 7 (by decide) hlink rfl rfl hdg kk
theorem px_Yard_limit (E : GE p s m args meth c D tys cc nL own Ts ret) {index : Nat} {v : Int32} (hi : (y, 0, 0) ∈ idsX) (hin : ∀ w ∈ u_ws RX3 TX3 8, w ∈ Ts) (hlink : Cond.fieldLink own index RX3 "limit" "I" ∈ Ts) (hdg : decode cc pc = .ok (.putfield index, 3)) (kk : GW p l e R s m args below meth c Q D A nL (wX cA ad (upY σ y (up3 (σ y) 0 0 4 v))) cells slots (pc + 3) lv st) : GW p l e R s m args below meth c Q D A nL (wX cA ad σ) cells slots pc lv (.int v :: .ref (ad y 0 0) :: st) :=
  g_putf (ty := .int) (k := 7) E hin (T := TX3) tyX3_ok nmX3 rfl (by decide) hlink rfl rfl (by decide +kernel) rfl rfl (Nat.le_of_ble_eq_true rfl) (wX_set hi rfl rfl) hdg kk
theorem gx_Pile_calibre (E : GE p s m args meth c D tys cc nL own Ts ret) {index : Nat} (hi : (y, 1, i) ∈ idsX) (hin : ∀ w ∈ u_ws RX1 TX1 4, w ∈ Ts) (hlink : Cond.fieldLink own index RX1 "calibre" "I" ∈ Ts) (hdg : decode cc pc = .ok (.getfield index, 3)) (kk : GW p l e R s m args below meth c Q D A nL (wX cA ad σ) cells slots (pc + 3) lv (.int (zI (cal (σ y) i)) :: st)) : GW p l e R s m args below meth c Q D A nL (wX cA ad σ) cells slots pc lv (.ref (ad y 1 i) :: st) :=
  g_getf E hin (T := TX1) rfl (wX_at hi) 0 (by decide) hlink rfl (by simp [cal, bl, np, nc, lp, on, zI_self]) hdg kk
theorem px_Pile_calibre (E : GE p s m args meth c D tys cc nL own Ts ret) {index : Nat} {v : Int32} (hi : (y, 1, i) ∈ idsX) (hin : ∀ w ∈ u_ws RX1 TX1 4, w ∈ Ts) (hlink : Cond.fieldLink own index RX1 "calibre" "I" ∈ Ts) (hdg : decode cc pc = .ok (.putfield index, 3)) (kk : GW p l e R s m args below meth c Q D A nL (wX cA ad (upY σ y (up3 (σ y) 1 i 0 v))) cells slots (pc + 3) lv st) : GW p l e R s m args below meth c Q D A nL (wX cA ad σ) cells slots pc lv (.int v :: .ref (ad y 1 i) :: st) :=
  g_putf (ty := .int) (k := 0) E hin (T := TX1) tyX1_ok nmX1 rfl (by decide) hlink rfl rfl (by decide +kernel) rfl rfl (Nat.le_of_ble_eq_true rfl) (wX_set hi rfl rfl) hdg kk
theorem gx_Pile_pyramid (E : GE p s m args meth c D tys cc nL own Ts ret) {index : Nat} (hi : (y, 1, i) ∈ idsX) (hin : ∀ w ∈ u_ws RX1 TX1 4, w ∈ Ts) (hlink : Cond.fieldLink own index RX1 "pyramid" "LCannonStacks$Pyramid;" ∈ Ts) (hdg : decode cc pc = .ok (.getfield index, 3)) (kk : GW p l e R s m args below meth c Q D A nL (wX cA ad σ) cells slots (pc + 3) lv (.ref (ad 2 9 (pyN (σ y 1 i))) :: st)) : GW p l e R s m args below meth c Q D A nL (wX cA ad σ) cells slots pc lv (.ref (ad y 1 i) :: st) :=
  g_getf E hin (T := TX1) rfl (wX_at hi) 1 (by decide) hlink rfl rfl hdg kk
theorem gx_Pile_balls (E : GE p s m args meth c D tys cc nL own Ts ret) {index : Nat} (hi : (y, 1, i) ∈ idsX) (hin : ∀ w ∈ u_ws RX1 TX1 4, w ∈ Ts) (hlink : Cond.fieldLink own index RX1 "balls" "I" ∈ Ts) (hdg : decode cc pc = .ok (.getfield index, 3)) (kk : GW p l e R s m args below meth c Q D A nL (wX cA ad σ) cells slots (pc + 3) lv (.int (zI (bl (σ y) i)) :: st)) : GW p l e R s m args below meth c Q D A nL (wX cA ad σ) cells slots pc lv (.ref (ad y 1 i) :: st) :=
  g_getf E hin (T := TX1) rfl (wX_at hi) 2 (by decide) hlink rfl (by simp [cal, bl, np, nc, lp, on, zI_self]) hdg kk
theorem px_Pile_balls (E : GE p s m args meth c D tys cc nL own Ts ret) {index : Nat} {v : Int32} (hi : (y, 1, i) ∈ idsX) (hin : ∀ w ∈ u_ws RX1 TX1 4, w ∈ Ts) (hlink : Cond.fieldLink own index RX1 "balls" "I" ∈ Ts) (hdg : decode cc pc = .ok (.putfield index, 3)) (kk : GW p l e R s m args below meth c Q D A nL (wX cA ad (upY σ y (up3 (σ y) 1 i 2 v))) cells slots (pc + 3) lv st) : GW p l e R s m args below meth c Q D A nL (wX cA ad σ) cells slots pc lv (.int v :: .ref (ad y 1 i) :: st) :=
  g_putf (ty := .int) (k := 2) E hin (T := TX1) tyX1_ok nmX1 rfl (by decide) hlink rfl rfl (by decide +kernel) rfl rfl (Nat.le_of_ble_eq_true rfl) (wX_set hi rfl rfl) hdg kk
theorem gx_Pile_rust (E : GE p s m args meth c D tys cc nL own Ts ret) {index : Nat} (hi : (y, 1, i) ∈ idsX) (hin : ∀ w ∈ u_ws RX1 TX1 4, w ∈ Ts) (hlink : Cond.fieldLink own index RX1 "rust" "[I" ∈ Ts) (hdg : decode cc pc = .ok (.getfield index, 3)) (kk : GW p l e R s m args below meth c Q D A nL (wX cA ad σ) cells slots (pc + 3) lv (.ref (ad y 2 i) :: st)) : GW p l e R s m args below meth c Q D A nL (wX cA ad σ) cells slots pc lv (.ref (ad y 1 i) :: st) :=
  g_getf E hin (T := TX1) rfl (wX_at hi) 3 (by decide) hlink rfl rfl hdg kk
theorem gx_Cat_leap (E : GE p s m args meth c D tys cc nL own Ts ret) {index : Nat} (hi : (y, 3, i) ∈ idsX) (hin : ∀ w ∈ u_ws RX0 TX0 3, w ∈ Ts) (hlink : Cond.fieldLink own index RX0 "leap" "I" ∈ Ts) (hdg : decode cc pc = .ok (.getfield index, 3)) (kk : GW p l e R s m args below meth c Q D A nL (wX cA ad σ) cells slots (pc + 3) lv (.int (zI (lp (σ y) i)) :: st)) : GW p l e R s m args below meth c Q D A nL (wX cA ad σ) cells slots pc lv (.ref (ad y 3 i) :: st) :=
  g_getf E hin (T := TX0) rfl (wX_at hi) 0 (by decide) hlink rfl (by simp [cal, bl, np, nc, lp, on, zI_self]) hdg kk
theorem px_Cat_leap (E : GE p s m args meth c D tys cc nL own Ts ret) {index : Nat} {v : Int32} (hi : (y, 3, i) ∈ idsX) (hin : ∀ w ∈ u_ws RX0 TX0 3, w ∈ Ts) (hlink : Cond.fieldLink own index RX0 "leap" "I" ∈ Ts) (hdg : decode cc pc = .ok (.putfield index, 3)) (kk : GW p l e R s m args below meth c Q D A nL (wX cA ad (upY σ y (up3 (σ y) 3 i 0 v))) cells slots (pc + 3) lv st) : GW p l e R s m args below meth c Q D A nL (wX cA ad σ) cells slots pc lv (.int v :: .ref (ad y 3 i) :: st) :=
  g_putf (ty := .int) (k := 0) E hin (T := TX0) tyX0_ok nmX0 rfl (by decide) hlink rfl rfl (by decide +kernel) rfl rfl (Nat.le_of_ble_eq_true rfl) (wX_set hi rfl rfl) hdg kk
theorem gx_Cat_on (E : GE p s m args meth c D tys cc nL own Ts ret) {index : Nat} (hi : (y, 3, i) ∈ idsX) (hin : ∀ w ∈ u_ws RX0 TX0 3, w ∈ Ts) (hlink : Cond.fieldLink own index RX0 "on" "I" ∈ Ts) (hdg : decode cc pc = .ok (.getfield index, 3)) (kk : GW p l e R s m args below meth c Q D A nL (wX cA ad σ) cells slots (pc + 3) lv (.int (zI (on (σ y) i)) :: st)) : GW p l e R s m args below meth c Q D A nL (wX cA ad σ) cells slots pc lv (.ref (ad y 3 i) :: st) :=
  g_getf E hin (T := TX0) rfl (wX_at hi) 1 (by decide) hlink rfl (by simp [cal, bl, np, nc, lp, on, zI_self]) hdg kk
theorem px_Cat_on (E : GE p s m args meth c D tys cc nL own Ts ret) {index : Nat} {v : Int32} (hi : (y, 3, i) ∈ idsX) (hin : ∀ w ∈ u_ws RX0 TX0 3, w ∈ Ts) (hlink : Cond.fieldLink own index RX0 "on" "I" ∈ Ts) (hdg : decode cc pc = .ok (.putfield index, 3)) (kk : GW p l e R s m args below meth c Q D A nL (wX cA ad (upY σ y (up3 (σ y) 3 i 1 v))) cells slots (pc + 3) lv st) : GW p l e R s m args below meth c Q D A nL (wX cA ad σ) cells slots pc lv (.int v :: .ref (ad y 3 i) :: st) :=
  g_putf (ty := .int) (k := 1) E hin (T := TX0) tyX0_ok nmX0 rfl (by decide) hlink rfl rfl (by decide +kernel) rfl rfl (Nat.le_of_ble_eq_true rfl) (wX_set hi rfl rfl) hdg kk
theorem gx_Cat_rolledOff (E : GE p s m args meth c D tys cc nL own Ts ret) {index : Nat} (hi : (y, 3, i) ∈ idsX) (hin : ∀ w ∈ u_ws RX0 TX0 3, w ∈ Ts) (hlink : Cond.fieldLink own index RX0 "rolledOff" "I" ∈ Ts) (hdg : decode cc pc = .ok (.getfield index, 3)) (kk : GW p l e R s m args below meth c Q D A nL (wX cA ad σ) cells slots (pc + 3) lv (.int (σ y 3 i 2) :: st)) : GW p l e R s m args below meth c Q D A nL (wX cA ad σ) cells slots pc lv (.ref (ad y 3 i) :: st) :=
  g_getf E hin (T := TX0) rfl (wX_at hi) 2 (by decide) hlink rfl rfl hdg kk
theorem px_Cat_rolledOff (E : GE p s m args meth c D tys cc nL own Ts ret) {index : Nat} {v : Int32} (hi : (y, 3, i) ∈ idsX) (hin : ∀ w ∈ u_ws RX0 TX0 3, w ∈ Ts) (hlink : Cond.fieldLink own index RX0 "rolledOff" "I" ∈ Ts) (hdg : decode cc pc = .ok (.putfield index, 3)) (kk : GW p l e R s m args below meth c Q D A nL (wX cA ad (upY σ y (up3 (σ y) 3 i 2 v))) cells slots (pc + 3) lv st) : GW p l e R s m args below meth c Q D A nL (wX cA ad σ) cells slots pc lv (.int v :: .ref (ad y 3 i) :: st) :=
  g_putf (ty := .int) (k := 2) E hin (T := TX0) tyX0_ok nmX0 rfl (by decide) hlink rfl rfl (by decide +kernel) rfl rfl (Nat.le_of_ble_eq_true rfl) (wX_set hi rfl rfl) hdg kk
theorem gx_Main_pyramids (E : GE p s m args meth c D tys cc nL own Ts ret) {index : Nat} (hi : (0, 8, 0) ∈ idsX) (hin : ∀ w ∈ u_ws RX4 TX4 6, w ∈ Ts) (hlink : Cond.fieldLink own index RX4 "pyramids" "[LCannonStacks$Pyramid;" ∈ Ts) (hdg : decode cc pc = .ok (.getfield index, 3)) (kk : GW p l e R s m args below meth c Q D A nL (wX cA ad σ) cells slots (pc + 3) lv (.ref (ad 2 12 0) :: st)) : GW p l e R s m args below meth c Q D A nL (wX cA ad σ) cells slots pc lv (.ref (ad 0 8 0) :: st) :=
  g_getf E hin (T := TX4) rfl (wX_at hi) 0 (by decide) hlink rfl rfl hdg kk
theorem gx_Main_store (E : GE p s m args meth c D tys cc nL own Ts ret) {index : Nat} (hi : (0, 8, 0) ∈ idsX) (hin : ∀ w ∈ u_ws RX4 TX4 6, w ∈ Ts) (hlink : Cond.fieldLink own index RX4 "store" "[I" ∈ Ts) (hdg : decode cc pc = .ok (.getfield index, 3)) (kk : GW p l e R s m args below meth c Q D A nL (wX cA ad σ) cells slots (pc + 3) lv (.ref (ad 0 5 0) :: st)) : GW p l e R s m args below meth c Q D A nL (wX cA ad σ) cells slots pc lv (.ref (ad 0 8 0) :: st) :=
  g_getf E hin (T := TX4) rfl (wX_at hi) 1 (by decide) hlink rfl rfl hdg kk
theorem gx_Main_fired (E : GE p s m args meth c D tys cc nL own Ts ret) {index : Nat} (hi : (0, 8, 0) ∈ idsX) (hin : ∀ w ∈ u_ws RX4 TX4 6, w ∈ Ts) (hlink : Cond.fieldLink own index RX4 "fired" "[I" ∈ Ts) (hdg : decode cc pc = .ok (.getfield index, 3)) (kk : GW p l e R s m args below meth c Q D A nL (wX cA ad σ) cells slots (pc + 3) lv (.ref (ad 0 6 0) :: st)) : GW p l e R s m args below meth c Q D A nL (wX cA ad σ) cells slots pc lv (.ref (ad 0 8 0) :: st) :=
  g_getf E hin (T := TX4) rfl (wX_at hi) 2 (by decide) hlink rfl rfl hdg kk
theorem gx_Main_thrownAway (E : GE p s m args meth c D tys cc nL own Ts ret) {index : Nat} (hi : (0, 8, 0) ∈ idsX) (hin : ∀ w ∈ u_ws RX4 TX4 6, w ∈ Ts) (hlink : Cond.fieldLink own index RX4 "thrownAway" "[I" ∈ Ts) (hdg : decode cc pc = .ok (.getfield index, 3)) (kk : GW p l e R s m args below meth c Q D A nL (wX cA ad σ) cells slots (pc + 3) lv (.ref (ad 0 7 0) :: st)) : GW p l e R s m args below meth c Q D A nL (wX cA ad σ) cells slots pc lv (.ref (ad 0 8 0) :: st) :=
  g_getf E hin (T := TX4) rfl (wX_at hi) 3 (by decide) hlink rfl rfl hdg kk
theorem gx_Main_yard (E : GE p s m args meth c D tys cc nL own Ts ret) {index : Nat} (hi : (0, 8, 0) ∈ idsX) (hin : ∀ w ∈ u_ws RX4 TX4 6, w ∈ Ts) (hlink : Cond.fieldLink own index RX4 "yard" "LCannonStacks$Yard;" ∈ Ts) (hdg : decode cc pc = .ok (.getfield index, 3)) (kk : GW p l e R s m args below meth c Q D A nL (wX cA ad σ) cells slots (pc + 3) lv (.ref (ad 0 0 0) :: st)) : GW p l e R s m args below meth c Q D A nL (wX cA ad σ) cells slots pc lv (.ref (ad 0 8 0) :: st) :=
  g_getf E hin (T := TX4) rfl (wX_at hi) 4 (by decide) hlink rfl rfl hdg kk
theorem gx_Main_trial (E : GE p s m args meth c D tys cc nL own Ts ret) {index : Nat} (hi : (0, 8, 0) ∈ idsX) (hin : ∀ w ∈ u_ws RX4 TX4 6, w ∈ Ts) (hlink : Cond.fieldLink own index RX4 "trial" "LCannonStacks$Yard;" ∈ Ts) (hdg : decode cc pc = .ok (.getfield index, 3)) (kk : GW p l e R s m args below meth c Q D A nL (wX cA ad σ) cells slots (pc + 3) lv (.ref (ad 1 0 0) :: st)) : GW p l e R s m args below meth c Q D A nL (wX cA ad σ) cells slots pc lv (.ref (ad 0 8 0) :: st) :=
  g_getf E hin (T := TX4) rfl (wX_at hi) 5 (by decide) hlink rfl rfl hdg kk
theorem gx_Pyr_edge (E : GE p s m args meth c D tys cc nL own Ts ret) {index : Nat} (hi : (2, 9, i) ∈ idsX) (hin : ∀ w ∈ u_ws RX2 TX2 4, w ∈ Ts) (hlink : Cond.fieldLink own index RX2 "edge" "I" ∈ Ts) (hdg : decode cc pc = .ok (.getfield index, 3)) (kk : GW p l e R s m args below meth c Q D A nL (wX cA ad σ) cells slots (pc + 3) lv (.int (zI i) :: st)) : GW p l e R s m args below meth c Q D A nL (wX cA ad σ) cells slots pc lv (.ref (ad 2 9 i) :: st) :=
  g_getf E hin (T := TX2) rfl (wX_at hi) 0 (by decide) hlink rfl rfl hdg kk
theorem gx_Pyr_capacity (E : GE p s m args meth c D tys cc nL own Ts ret) {index : Nat} (hi : (2, 9, i) ∈ idsX) (hin : ∀ w ∈ u_ws RX2 TX2 4, w ∈ Ts) (hlink : Cond.fieldLink own index RX2 "capacity" "I" ∈ Ts) (hdg : decode cc pc = .ok (.getfield index, 3)) (kk : GW p l e R s m args below meth c Q D A nL (wX cA ad σ) cells slots (pc + 3) lv (.int (zI (sq i)) :: st)) : GW p l e R s m args below meth c Q D A nL (wX cA ad σ) cells slots pc lv (.ref (ad 2 9 i) :: st) :=
  g_getf E hin (T := TX2) rfl (wX_at hi) 1 (by decide) hlink rfl rfl hdg kk
theorem gx_Pyr_starts (E : GE p s m args meth c D tys cc nL own Ts ret) {index : Nat} (hi : (2, 9, i) ∈ idsX) (hin : ∀ w ∈ u_ws RX2 TX2 4, w ∈ Ts) (hlink : Cond.fieldLink own index RX2 "starts" "[I" ∈ Ts) (hdg : decode cc pc = .ok (.getfield index, 3)) (kk : GW p l e R s m args below meth c Q D A nL (wX cA ad σ) cells slots (pc + 3) lv (.ref (ad 2 13 i) :: st)) : GW p l e R s m args below meth c Q D A nL (wX cA ad σ) cells slots pc lv (.ref (ad 2 9 i) :: st) :=
  g_getf E hin (T := TX2) rfl (wX_at hi) 2 (by decide) hlink rfl rfl hdg kk
theorem gx_Pyr_coverers (E : GE p s m args meth c D tys cc nL own Ts ret) {index : Nat} (hi : (2, 9, i) ∈ idsX) (hin : ∀ w ∈ u_ws RX2 TX2 4, w ∈ Ts) (hlink : Cond.fieldLink own index RX2 "coverers" "[I" ∈ Ts) (hdg : decode cc pc = .ok (.getfield index, 3)) (kk : GW p l e R s m args below meth c Q D A nL (wX cA ad σ) cells slots (pc + 3) lv (.ref (ad 2 14 i) :: st)) : GW p l e R s m args below meth c Q D A nL (wX cA ad σ) cells slots pc lv (.ref (ad 2 9 i) :: st) :=
  g_getf E hin (T := TX2) rfl (wX_at hi) 3 (by decide) hlink rfl rfl hdg kk
theorem px_Pile_pyramid (E : GE p s m args meth c D tys cc nL own Ts ret) {index e9 : Nat} (he : 1 ≤ e9 ∧ e9 < 7) (hi : (y, 1, i) ∈ idsX) (hin : ∀ w ∈ u_ws RX1 TX1 4, w ∈ Ts) (hlink : Cond.fieldLink own index RX1 "pyramid" "LCannonStacks$Pyramid;" ∈ Ts) (hdg : decode cc pc = .ok (.putfield index, 3)) (kk : GW p l e R s m args below meth c Q D A nL (wX cA ad (upY σ y (up3 (σ y) 1 i 1 (zI e9)))) cells slots (pc + 3) lv st) : GW p l e R s m args below meth c Q D A nL (wX cA ad σ) cells slots pc lv (.ref (ad 2 9 e9) :: .ref (ad y 1 i) :: st) := by
  have hz : pyN (upd (σ y 1 i) 1 (zI e9)) = e9 := by
    show (max 1 ((if 1 = 1 then zI e9 else σ y 1 i 1 : Int32)).toInt).toNat = e9
    rw [if_pos rfl, zI_toInt (by omega)]
    omega
  exact g_putf (ty := .object RX2) (k := 1) E hin (T := TX1) tyX1_ok nmX1 rfl (by decide) hlink rfl rfl (by decide +kernel) rfl rfl (Nat.le_of_ble_eq_true rfl) (wX_set hi rfl (by show (Sum.inr (1, [.int (σ y 1 i 0), .ref (ad 2 9 (pyN (upd (σ y 1 i) 1 (zI e9)))), .int (σ y 1 i 2), .ref (ad y 2 i)]) : va_E) = _; rw [hz]; rfl)) hdg kk
theorem lx_2 (E : GE p s m args meth c D (tysX cA) cc nL own Ts ret) {z : Int} (hi : (y, 2, i) ∈ idsX) (hz : 0 ≤ z ∧ z < 91) (hdg : decode cc pc = .ok (.iaload, 1)) (kk : GW p l e R s m args below meth c Q D A nL (wX cA ad σ) cells slots (pc + 1) lv (.int (σ y 2 i z.toNat) :: st)) : GW p l e R s m args below meth c Q D A nL (wX cA ad σ) cells slots pc lv (.int (zI z) :: .ref (ad y 2 i) :: st) :=
  g_iald E 0 rfl (wX_at hi) (n := 91) hz (by decide) rfl hdg kk
theorem sx_2 (E : GE p s m args meth c D (tysX cA) cc nL own Ts ret) {z : Int} {v : Int32} (hi : (y, 2, i) ∈ idsX) (hz : 0 ≤ z ∧ z < 91) (hdg : decode cc pc = .ok (.iastore, 1)) (kk : GW p l e R s m args below meth c Q D A nL (wX cA ad (upY σ y (up3 (σ y) 2 i z.toNat v))) cells slots (pc + 1) lv st) : GW p l e R s m args below meth c Q D A nL (wX cA ad σ) cells slots pc lv (.int v :: .int (zI z) :: .ref (ad y 2 i) :: st) :=
  g_iast E 0 rfl (n := 91) hz (by decide) (wX_set hi rfl rfl) hdg kk
theorem nx_2 (E : GE p s m args meth c D (tysX cA) cc nL own Ts ret) (hi : (y, 2, i) ∈ idsX) (hdg : decode cc pc = .ok (.arraylength, 1)) (kk : GW p l e R s m args below meth c Q D A nL (wX cA ad σ) cells slots (pc + 1) lv (.int (zI 91) :: st)) : GW p l e R s m args below meth c Q D A nL (wX cA ad σ) cells slots pc lv (.ref (ad y 2 i) :: st) :=
  g_alen E 0 rfl (wX_at hi) hdg kk
theorem lx_4 (E : GE p s m args meth c D (tysX cA) cc nL own Ts ret) {z : Int} (hi : (y, 4, 0) ∈ idsX) (hz : 0 ≤ z ∧ z < 5) (hdg : decode cc pc = .ok (.iaload, 1)) (kk : GW p l e R s m args below meth c Q D A nL (wX cA ad σ) cells slots (pc + 1) lv (.int (σ y 4 0 z.toNat) :: st)) : GW p l e R s m args below meth c Q D A nL (wX cA ad σ) cells slots pc lv (.int (zI z) :: .ref (ad y 4 0) :: st) :=
  g_iald E 0 rfl (wX_at hi) (n := 5) hz (by decide) rfl hdg kk
theorem sx_4 (E : GE p s m args meth c D (tysX cA) cc nL own Ts ret) {z : Int} {v : Int32} (hi : (y, 4, 0) ∈ idsX) (hz : 0 ≤ z ∧ z < 5) (hdg : decode cc pc = .ok (.iastore, 1)) (kk : GW p l e R s m args below meth c Q D A nL (wX cA ad (upY σ y (up3 (σ y) 4 0 z.toNat v))) cells slots (pc + 1) lv st) : GW p l e R s m args below meth c Q D A nL (wX cA ad σ) cells slots pc lv (.int v :: .int (zI z) :: .ref (ad y 4 0) :: st) :=
  g_iast E 0 rfl (n := 5) hz (by decide) (wX_set hi rfl rfl) hdg kk
theorem nx_4 (E : GE p s m args meth c D (tysX cA) cc nL own Ts ret) (hi : (y, 4, 0) ∈ idsX) (hdg : decode cc pc = .ok (.arraylength, 1)) (kk : GW p l e R s m args below meth c Q D A nL (wX cA ad σ) cells slots (pc + 1) lv (.int (zI 5) :: st)) : GW p l e R s m args below meth c Q D A nL (wX cA ad σ) cells slots pc lv (.ref (ad y 4 0) :: st) :=
  g_alen E 0 rfl (wX_at hi) hdg kk
theorem lx_5 (E : GE p s m args meth c D (tysX cA) cc nL own Ts ret) {z : Int} (hi : (0, 5, 0) ∈ idsX) (hz : 0 ≤ z ∧ z < 5) (hdg : decode cc pc = .ok (.iaload, 1)) (kk : GW p l e R s m args below meth c Q D A nL (wX cA ad σ) cells slots (pc + 1) lv (.int (σ 0 5 0 z.toNat) :: st)) : GW p l e R s m args below meth c Q D A nL (wX cA ad σ) cells slots pc lv (.int (zI z) :: .ref (ad 0 5 0) :: st) :=
  g_iald E 0 rfl (wX_at hi) (n := 5) hz (by decide) rfl hdg kk
theorem sx_5 (E : GE p s m args meth c D (tysX cA) cc nL own Ts ret) {z : Int} {v : Int32} (hi : (0, 5, 0) ∈ idsX) (hz : 0 ≤ z ∧ z < 5) (hdg : decode cc pc = .ok (.iastore, 1)) (kk : GW p l e R s m args below meth c Q D A nL (wX cA ad (upY σ 0 (up3 (σ 0) 5 0 z.toNat v))) cells slots (pc + 1) lv st) : GW p l e R s m args below meth c Q D A nL (wX cA ad σ) cells slots pc lv (.int v :: .int (zI z) :: .ref (ad 0 5 0) :: st) :=
  g_iast E 0 rfl (n := 5) hz (by decide) (wX_set hi rfl rfl) hdg kk
theorem nx_5 (E : GE p s m args meth c D (tysX cA) cc nL own Ts ret) (hi : (0, 5, 0) ∈ idsX) (hdg : decode cc pc = .ok (.arraylength, 1)) (kk : GW p l e R s m args below meth c Q D A nL (wX cA ad σ) cells slots (pc + 1) lv (.int (zI 5) :: st)) : GW p l e R s m args below meth c Q D A nL (wX cA ad σ) cells slots pc lv (.ref (ad 0 5 0) :: st) :=
  g_alen E 0 rfl (wX_at hi) hdg kk
theorem lx_6 (E : GE p s m args meth c D (tysX cA) cc nL own Ts ret) {z : Int} (hi : (0, 6, 0) ∈ idsX) (hz : 0 ≤ z ∧ z < 5) (hdg : decode cc pc = .ok (.iaload, 1)) (kk : GW p l e R s m args below meth c Q D A nL (wX cA ad σ) cells slots (pc + 1) lv (.int (σ 0 6 0 z.toNat) :: st)) : GW p l e R s m args below meth c Q D A nL (wX cA ad σ) cells slots pc lv (.int (zI z) :: .ref (ad 0 6 0) :: st) :=
  g_iald E 0 rfl (wX_at hi) (n := 5) hz (by decide) rfl hdg kk
theorem sx_6 (E : GE p s m args meth c D (tysX cA) cc nL own Ts ret) {z : Int} {v : Int32} (hi : (0, 6, 0) ∈ idsX) (hz : 0 ≤ z ∧ z < 5) (hdg : decode cc pc = .ok (.iastore, 1)) (kk : GW p l e R s m args below meth c Q D A nL (wX cA ad (upY σ 0 (up3 (σ 0) 6 0 z.toNat v))) cells slots (pc + 1) lv st) : GW p l e R s m args below meth c Q D A nL (wX cA ad σ) cells slots pc lv (.int v :: .int (zI z) :: .ref (ad 0 6 0) :: st) :=
  g_iast E 0 rfl (n := 5) hz (by decide) (wX_set hi rfl rfl) hdg kk
theorem nx_6 (E : GE p s m args meth c D (tysX cA) cc nL own Ts ret) (hi : (0, 6, 0) ∈ idsX) (hdg : decode cc pc = .ok (.arraylength, 1)) (kk : GW p l e R s m args below meth c Q D A nL (wX cA ad σ) cells slots (pc + 1) lv (.int (zI 5) :: st)) : GW p l e R s m args below meth c Q D A nL (wX cA ad σ) cells slots pc lv (.ref (ad 0 6 0) :: st) :=
  g_alen E 0 rfl (wX_at hi) hdg kk
theorem lx_7 (E : GE p s m args meth c D (tysX cA) cc nL own Ts ret) {z : Int} (hi : (0, 7, 0) ∈ idsX) (hz : 0 ≤ z ∧ z < 5) (hdg : decode cc pc = .ok (.iaload, 1)) (kk : GW p l e R s m args below meth c Q D A nL (wX cA ad σ) cells slots (pc + 1) lv (.int (σ 0 7 0 z.toNat) :: st)) : GW p l e R s m args below meth c Q D A nL (wX cA ad σ) cells slots pc lv (.int (zI z) :: .ref (ad 0 7 0) :: st) :=
  g_iald E 0 rfl (wX_at hi) (n := 5) hz (by decide) rfl hdg kk
theorem sx_7 (E : GE p s m args meth c D (tysX cA) cc nL own Ts ret) {z : Int} {v : Int32} (hi : (0, 7, 0) ∈ idsX) (hz : 0 ≤ z ∧ z < 5) (hdg : decode cc pc = .ok (.iastore, 1)) (kk : GW p l e R s m args below meth c Q D A nL (wX cA ad (upY σ 0 (up3 (σ 0) 7 0 z.toNat v))) cells slots (pc + 1) lv st) : GW p l e R s m args below meth c Q D A nL (wX cA ad σ) cells slots pc lv (.int v :: .int (zI z) :: .ref (ad 0 7 0) :: st) :=
  g_iast E 0 rfl (n := 5) hz (by decide) (wX_set hi rfl rfl) hdg kk
theorem nx_7 (E : GE p s m args meth c D (tysX cA) cc nL own Ts ret) (hi : (0, 7, 0) ∈ idsX) (hdg : decode cc pc = .ok (.arraylength, 1)) (kk : GW p l e R s m args below meth c Q D A nL (wX cA ad σ) cells slots (pc + 1) lv (.int (zI 5) :: st)) : GW p l e R s m args below meth c Q D A nL (wX cA ad σ) cells slots pc lv (.ref (ad 0 7 0) :: st) :=
  g_alen E 0 rfl (wX_at hi) hdg kk
theorem lx_13 (E : GE p s m args meth c D (tysX cA) cc nL own Ts ret) {z : Int} (hi : (2, 13, i) ∈ idsX) (hz : 0 ≤ z ∧ z < ((i + 1 : Nat) : Int)) (hn : i + 1 ≤ 2147483648) (hdg : decode cc pc = .ok (.iaload, 1)) (kk : GW p l e R s m args below meth c Q D A nL (wX cA ad σ) cells slots (pc + 1) lv (.int (zI (stz i z)) :: st)) : GW p l e R s m args below meth c Q D A nL (wX cA ad σ) cells slots pc lv (.int (zI z) :: .ref (ad 2 13 i) :: st) :=
  g_iald E 0 rfl (wX_at hi) (n := i + 1) hz hn (by show zI (stz i (z.toNat : Int)) = zI (stz i z); rw [Int.toNat_of_nonneg hz.1]) hdg kk
theorem nx_13 (E : GE p s m args meth c D (tysX cA) cc nL own Ts ret) (hi : (2, 13, i) ∈ idsX) (hdg : decode cc pc = .ok (.arraylength, 1)) (kk : GW p l e R s m args below meth c Q D A nL (wX cA ad σ) cells slots (pc + 1) lv (.int (zI ((i + 1 : Nat) : Int)) :: st)) : GW p l e R s m args below meth c Q D A nL (wX cA ad σ) cells slots pc lv (.ref (ad 2 13 i) :: st) :=
  g_alen E 0 rfl (wX_at hi) hdg kk
theorem lx_14 (E : GE p s m args meth c D (tysX cA) cc nL own Ts ret) {z : Int} (hi : (2, 14, i) ∈ idsX) (hz : 0 ≤ z ∧ z < (((sq i).toNat : Nat) : Int)) (hn : (sq i).toNat ≤ 2147483648) (hdg : decode cc pc = .ok (.iaload, 1)) (kk : GW p l e R s m args below meth c Q D A nL (wX cA ad σ) cells slots (pc + 1) lv (.int (zI (cov i z)) :: st)) : GW p l e R s m args below meth c Q D A nL (wX cA ad σ) cells slots pc lv (.int (zI z) :: .ref (ad 2 14 i) :: st) :=
  g_iald E 0 rfl (wX_at hi) (n := (sq i).toNat) hz hn (by show zI (cov i (z.toNat : Int)) = zI (cov i z); rw [Int.toNat_of_nonneg hz.1]) hdg kk
theorem nx_14 (E : GE p s m args meth c D (tysX cA) cc nL own Ts ret) (hi : (2, 14, i) ∈ idsX) (hdg : decode cc pc = .ok (.arraylength, 1)) (kk : GW p l e R s m args below meth c Q D A nL (wX cA ad σ) cells slots (pc + 1) lv (.int (zI (((sq i).toNat : Nat) : Int)) :: st)) : GW p l e R s m args below meth c Q D A nL (wX cA ad σ) cells slots pc lv (.ref (ad 2 14 i) :: st) :=
  g_alen E 0 rfl (wX_at hi) hdg kk
theorem lx_10 (E : GE p s m args meth c D (tysX cA) cc nL own Ts ret) {z : Int} (hi : (y, 10, 0) ∈ idsX) (hz : 0 ≤ z ∧ z < 6) (hdg : decode cc pc = .ok (.aaload, 1)) (kk : GW p l e R s m args below meth c Q D A nL (wX cA ad σ) cells slots (pc + 1) lv (.ref (ad y 1 z.toNat) :: st)) : GW p l e R s m args below meth c Q D A nL (wX cA ad σ) cells slots pc lv (.int (zI z) :: .ref (ad y 10 0) :: st) :=
  g_aald E 2 rfl (wX_at hi) (n := 6) hz (by decide) rfl hdg kk
theorem lx_11 (E : GE p s m args meth c D (tysX cA) cc nL own Ts ret) {z : Int} (hi : (y, 11, 0) ∈ idsX) (hz : 0 ≤ z ∧ z < 3) (hdg : decode cc pc = .ok (.aaload, 1)) (kk : GW p l e R s m args below meth c Q D A nL (wX cA ad σ) cells slots (pc + 1) lv (.ref (ad y 3 z.toNat) :: st)) : GW p l e R s m args below meth c Q D A nL (wX cA ad σ) cells slots pc lv (.int (zI z) :: .ref (ad y 11 0) :: st) :=
  g_aald E 3 rfl (wX_at hi) (n := 3) hz (by decide) rfl hdg kk
theorem lx_12 (E : GE p s m args meth c D (tysX cA) cc nL own Ts ret) {z : Int} (hi : (2, 12, 0) ∈ idsX) (hz : 0 ≤ z ∧ z < 6) (hdg : decode cc pc = .ok (.aaload, 1)) (kk : GW p l e R s m args below meth c Q D A nL (wX cA ad σ) cells slots (pc + 1) lv (.ref (ad 2 9 (z.toNat + 1)) :: st)) : GW p l e R s m args below meth c Q D A nL (wX cA ad σ) cells slots pc lv (.int (zI z) :: .ref (ad 2 12 0) :: st) :=
  g_aald E 1 rfl (wX_at hi) (n := 6) hz (by decide) rfl hdg kk
theorem gx_Yard_piles' {a : St} (E : GE p s m args meth c D tys cc nL own Ts ret) {index : Nat} (hi : (y, 0, 0) ∈ idsX) (hin : ∀ w ∈ u_ws RX3 TX3 8, w ∈ Ts) (hlink : Cond.fieldLink own index RX3 "piles" "[LCannonStacks$Pile;" ∈ Ts) (hdg : decode cc pc = .ok (.getfield index, 3)) (kk : GW p l e R s m args below meth c Q D A nL (wX cA ad (upY σ y a)) cells slots (pc + 3) lv (.ref (ad y 10 0) :: st)) : GW p l e R s m args below meth c Q D A nL (wX cA ad (upY σ y a)) cells slots pc lv (.ref (ad y 0 0) :: st) := by
  refine gx_Yard_piles (σ := upY σ y a) E hi hin hlink hdg ?_
  exact kk
theorem gx_Yard_cats' {a : St} (E : GE p s m args meth c D tys cc nL own Ts ret) {index : Nat} (hi : (y, 0, 0) ∈ idsX) (hin : ∀ w ∈ u_ws RX3 TX3 8, w ∈ Ts) (hlink : Cond.fieldLink own index RX3 "cats" "[LCannonStacks$Cat;" ∈ Ts) (hdg : decode cc pc = .ok (.getfield index, 3)) (kk : GW p l e R s m args below meth c Q D A nL (wX cA ad (upY σ y a)) cells slots (pc + 3) lv (.ref (ad y 11 0) :: st)) : GW p l e R s m args below meth c Q D A nL (wX cA ad (upY σ y a)) cells slots pc lv (.ref (ad y 0 0) :: st) := by
  refine gx_Yard_cats (σ := upY σ y a) E hi hin hlink hdg ?_
  exact kk
theorem gx_Yard_loose' {a : St} (E : GE p s m args meth c D tys cc nL own Ts ret) {index : Nat} (hi : (y, 0, 0) ∈ idsX) (hin : ∀ w ∈ u_ws RX3 TX3 8, w ∈ Ts) (hlink : Cond.fieldLink own index RX3 "loose" "[I" ∈ Ts) (hdg : decode cc pc = .ok (.getfield index, 3)) (kk : GW p l e R s m args below meth c Q D A nL (wX cA ad (upY σ y a)) cells slots (pc + 3) lv (.ref (ad y 4 0) :: st)) : GW p l e R s m args below meth c Q D A nL (wX cA ad (upY σ y a)) cells slots pc lv (.ref (ad y 0 0) :: st) := by
  refine gx_Yard_loose (σ := upY σ y a) E hi hin hlink hdg ?_
  exact kk
theorem gx_Yard_pileCount' {a : St} (E : GE p s m args meth c D tys cc nL own Ts ret) {index : Nat} (hi : (y, 0, 0) ∈ idsX) (hin : ∀ w ∈ u_ws RX3 TX3 8, w ∈ Ts) (hlink : Cond.fieldLink own index RX3 "pileCount" "I" ∈ Ts) (hdg : decode cc pc = .ok (.getfield index, 3)) (kk : GW p l e R s m args below meth c Q D A nL (wX cA ad (upY σ y a)) cells slots (pc + 3) lv (.int (zI (np a)) :: st)) : GW p l e R s m args below meth c Q D A nL (wX cA ad (upY σ y a)) cells slots pc lv (.ref (ad y 0 0) :: st) := by
  refine gx_Yard_pileCount (σ := upY σ y a) E hi hin hlink hdg ?_
  rw [upY_s]; exact kk
theorem px_Yard_pileCount' {a : St} (E : GE p s m args meth c D tys cc nL own Ts ret) {index : Nat} {v : Int32} (hi : (y, 0, 0) ∈ idsX) (hin : ∀ w ∈ u_ws RX3 TX3 8, w ∈ Ts) (hlink : Cond.fieldLink own index RX3 "pileCount" "I" ∈ Ts) (hdg : decode cc pc = .ok (.putfield index, 3)) (kk : GW p l e R s m args below meth c Q D A nL (wX cA ad (upY σ y (up3 a 0 0 0 v))) cells slots (pc + 3) lv st) : GW p l e R s m args below meth c Q D A nL (wX cA ad (upY σ y a)) cells slots pc lv (.int v :: .ref (ad y 0 0) :: st) := by
  refine px_Yard_pileCount (σ := upY σ y a) E hi hin hlink hdg ?_
  rw [upY_s, upY_upY]; exact kk
theorem gx_Yard_catCount' {a : St} (E : GE p s m args meth c D tys cc nL own Ts ret) {index : Nat} (hi : (y, 0, 0) ∈ idsX) (hin : ∀ w ∈ u_ws RX3 TX3 8, w ∈ Ts) (hlink : Cond.fieldLink own index RX3 "catCount" "I" ∈ Ts) (hdg : decode cc pc = .ok (.getfield index, 3)) (kk : GW p l e R s m args below meth c Q D A nL (wX cA ad (upY σ y a)) cells slots (pc + 3) lv (.int (zI (nc a)) :: st)) : GW p l e R s m args below meth c Q D A nL (wX cA ad (upY σ y a)) cells slots pc lv (.ref (ad y 0 0) :: st) := by
  refine gx_Yard_catCount (σ := upY σ y a) E hi hin hlink hdg ?_
  rw [upY_s]; exact kk
theorem px_Yard_catCount' {a : St} (E : GE p s m args meth c D tys cc nL own Ts ret) {index : Nat} {v : Int32} (hi : (y, 0, 0) ∈ idsX) (hin : ∀ w ∈ u_ws RX3 TX3 8, w ∈ Ts) (hlink : Cond.fieldLink own index RX3 "catCount" "I" ∈ Ts) (hdg : decode cc pc = .ok (.putfield index, 3)) (kk : GW p l e R s m args below meth c Q D A nL (wX cA ad (upY σ y (up3 a 0 0 1 v))) cells slots (pc + 3) lv st) : GW p l e R s m args below meth c Q D A nL (wX cA ad (upY σ y a)) cells slots pc lv (.int v :: .ref (ad y 0 0) :: st) := by
  refine px_Yard_catCount (σ := upY σ y a) E hi hin hlink hdg ?_
  rw [upY_s, upY_upY]; exact kk
theorem gx_Yard_day' {a : St} (E : GE p s m args meth c D tys cc nL own Ts ret) {index : Nat} (hi : (y, 0, 0) ∈ idsX) (hin : ∀ w ∈ u_ws RX3 TX3 8, w ∈ Ts) (hlink : Cond.fieldLink own index RX3 "day" "I" ∈ Ts) (hdg : decode cc pc = .ok (.getfield index, 3)) (kk : GW p l e R s m args below meth c Q D A nL (wX cA ad (upY σ y a)) cells slots (pc + 3) lv (.int (a 0 0 2) :: st)) : GW p l e R s m args below meth c Q D A nL (wX cA ad (upY σ y a)) cells slots pc lv (.ref (ad y 0 0) :: st) := by
  refine gx_Yard_day (σ := upY σ y a) E hi hin hlink hdg ?_
  rw [upY_s]; exact kk
theorem px_Yard_day' {a : St} (E : GE p s m args meth c D tys cc nL own Ts ret) {index : Nat} {v : Int32} (hi : (y, 0, 0) ∈ idsX) (hin : ∀ w ∈ u_ws RX3 TX3 8, w ∈ Ts) (hlink : Cond.fieldLink own index RX3 "day" "I" ∈ Ts) (hdg : decode cc pc = .ok (.putfield index, 3)) (kk : GW p l e R s m args below meth c Q D A nL (wX cA ad (upY σ y (up3 a 0 0 2 v))) cells slots (pc + 3) lv st) : GW p l e R s m args below meth c Q D A nL (wX cA ad (upY σ y a)) cells slots pc lv (.int v :: .ref (ad y 0 0) :: st) := by
  refine px_Yard_day (σ := upY σ y a) E hi hin hlink hdg ?_
  rw [upY_s, upY_upY]; exact kk
theorem gx_Yard_rain' {a : St} (E : GE p s m args meth c D tys cc nL own Ts ret) {index : Nat} (hi : (y, 0, 0) ∈ idsX) (hin : ∀ w ∈ u_ws RX3 TX3 8, w ∈ Ts) (hlink : Cond.fieldLink own index RX3 "rain" "I" ∈ Ts) (hdg : decode cc pc = .ok (.getfield index, 3)) (kk : GW p l e R s m args below meth c Q D A nL (wX cA ad (upY σ y a)) cells slots (pc + 3) lv (.int (a 0 0 3) :: st)) : GW p l e R s m args below meth c Q D A nL (wX cA ad (upY σ y a)) cells slots pc lv (.ref (ad y 0 0) :: st) := by
  refine gx_Yard_rain (σ := upY σ y a) E hi hin hlink hdg ?_
  rw [upY_s]; exact kk
theorem px_Yard_rain' {a : St} (E : GE p s m args meth c D tys cc nL own Ts ret) {index : Nat} {v : Int32} (hi : (y, 0, 0) ∈ idsX) (hin : ∀ w ∈ u_ws RX3 TX3 8, w ∈ Ts) (hlink : Cond.fieldLink own index RX3 "rain" "I" ∈ Ts) (hdg : decode cc pc = .ok (.putfield index, 3)) (kk : GW p l e R s m args below meth c Q D A nL (wX cA ad (upY σ y (up3 a 0 0 3 v))) cells slots (pc + 3) lv st) : GW p l e R s m args below meth c Q D A nL (wX cA ad (upY σ y a)) cells slots pc lv (.int v :: .ref (ad y 0 0) :: st) := by
  refine px_Yard_rain (σ := upY σ y a) E hi hin hlink hdg ?_
  rw [upY_s, upY_upY]; exact kk
theorem gx_Yard_limit' {a : St} (E : GE p s m args meth c D tys cc nL own Ts ret) {index : Nat} (hi : (y, 0, 0) ∈ idsX) (hin : ∀ w ∈ u_ws RX3 TX3 8, w ∈ Ts) (hlink : Cond.fieldLink own index RX3 "limit" "I" ∈ Ts) (hdg : decode cc pc = .ok (.getfield index, 3)) (kk : GW p l e R s m args below meth c Q D A nL (wX cA ad (upY σ y a)) cells slots (pc + 3) lv (.int (a 0 0 4) :: st)) : GW p l e R s m args below meth c Q D A nL (wX cA ad (upY σ y a)) cells slots pc lv (.ref (ad y 0 0) :: st) := by
  refine gx_Yard_limit (σ := upY σ y a) E hi hin hlink hdg ?_
  rw [upY_s]; exact kk
theorem px_Yard_limit' {a : St} (E : GE p s m args meth c D tys cc nL own Ts ret) {index : Nat} {v : Int32} (hi : (y, 0, 0) ∈ idsX) (hin : ∀ w ∈ u_ws RX3 TX3 8, w ∈ Ts) (hlink : Cond.fieldLink own index RX3 "limit" "I" ∈ Ts) (hdg : decode cc pc = .ok (.putfield index, 3)) (kk : GW p l e R s m args below meth c Q D A nL (wX cA ad (upY σ y (up3 a 0 0 4 v))) cells slots (pc + 3) lv st) : GW p l e R s m args below meth c Q D A nL (wX cA ad (upY σ y a)) cells slots pc lv (.int v :: .ref (ad y 0 0) :: st) := by
  refine px_Yard_limit (σ := upY σ y a) E hi hin hlink hdg ?_
  rw [upY_s, upY_upY]; exact kk
theorem gx_Pile_calibre' {a : St} (E : GE p s m args meth c D tys cc nL own Ts ret) {index : Nat} (hi : (y, 1, i) ∈ idsX) (hin : ∀ w ∈ u_ws RX1 TX1 4, w ∈ Ts) (hlink : Cond.fieldLink own index RX1 "calibre" "I" ∈ Ts) (hdg : decode cc pc = .ok (.getfield index, 3)) (kk : GW p l e R s m args below meth c Q D A nL (wX cA ad (upY σ y a)) cells slots (pc + 3) lv (.int (zI (cal a i)) :: st)) : GW p l e R s m args below meth c Q D A nL (wX cA ad (upY σ y a)) cells slots pc lv (.ref (ad y 1 i) :: st) := by
  refine gx_Pile_calibre (σ := upY σ y a) E hi hin hlink hdg ?_
  rw [upY_s]; exact kk
theorem px_Pile_calibre' {a : St} (E : GE p s m args meth c D tys cc nL own Ts ret) {index : Nat} {v : Int32} (hi : (y, 1, i) ∈ idsX) (hin : ∀ w ∈ u_ws RX1 TX1 4, w ∈ Ts) (hlink : Cond.fieldLink own index RX1 "calibre" "I" ∈ Ts) (hdg : decode cc pc = .ok (.putfield index, 3)) (kk : GW p l e R s m args below meth c Q D A nL (wX cA ad (upY σ y (up3 a 1 i 0 v))) cells slots (pc + 3) lv st) : GW p l e R s m args below meth c Q D A nL (wX cA ad (upY σ y a)) cells slots pc lv (.int v :: .ref (ad y 1 i) :: st) := by
  refine px_Pile_calibre (σ := upY σ y a) E hi hin hlink hdg ?_
  rw [upY_s, upY_upY]; exact kk
theorem gx_Pile_pyramid' {a : St} (E : GE p s m args meth c D tys cc nL own Ts ret) {index : Nat} (hi : (y, 1, i) ∈ idsX) (hin : ∀ w ∈ u_ws RX1 TX1 4, w ∈ Ts) (hlink : Cond.fieldLink own index RX1 "pyramid" "LCannonStacks$Pyramid;" ∈ Ts) (hdg : decode cc pc = .ok (.getfield index, 3)) (kk : GW p l e R s m args below meth c Q D A nL (wX cA ad (upY σ y a)) cells slots (pc + 3) lv (.ref (ad 2 9 (pyN (a 1 i))) :: st)) : GW p l e R s m args below meth c Q D A nL (wX cA ad (upY σ y a)) cells slots pc lv (.ref (ad y 1 i) :: st) := by
  refine gx_Pile_pyramid (σ := upY σ y a) E hi hin hlink hdg ?_
  rw [upY_s]; exact kk
theorem gx_Pile_balls' {a : St} (E : GE p s m args meth c D tys cc nL own Ts ret) {index : Nat} (hi : (y, 1, i) ∈ idsX) (hin : ∀ w ∈ u_ws RX1 TX1 4, w ∈ Ts) (hlink : Cond.fieldLink own index RX1 "balls" "I" ∈ Ts) (hdg : decode cc pc = .ok (.getfield index, 3)) (kk : GW p l e R s m args below meth c Q D A nL (wX cA ad (upY σ y a)) cells slots (pc + 3) lv (.int (zI (bl a i)) :: st)) : GW p l e R s m args below meth c Q D A nL (wX cA ad (upY σ y a)) cells slots pc lv (.ref (ad y 1 i) :: st) := by
  refine gx_Pile_balls (σ := upY σ y a) E hi hin hlink hdg ?_
  rw [upY_s]; exact kk
theorem px_Pile_balls' {a : St} (E : GE p s m args meth c D tys cc nL own Ts ret) {index : Nat} {v : Int32} (hi : (y, 1, i) ∈ idsX) (hin : ∀ w ∈ u_ws RX1 TX1 4, w ∈ Ts) (hlink : Cond.fieldLink own index RX1 "balls" "I" ∈ Ts) (hdg : decode cc pc = .ok (.putfield index, 3)) (kk : GW p l e R s m args below meth c Q D A nL (wX cA ad (upY σ y (up3 a 1 i 2 v))) cells slots (pc + 3) lv st) : GW p l e R s m args below meth c Q D A nL (wX cA ad (upY σ y a)) cells slots pc lv (.int v :: .ref (ad y 1 i) :: st) := by
  refine px_Pile_balls (σ := upY σ y a) E hi hin hlink hdg ?_
  rw [upY_s, upY_upY]; exact kk
theorem gx_Pile_rust' {a : St} (E : GE p s m args meth c D tys cc nL own Ts ret) {index : Nat} (hi : (y, 1, i) ∈ idsX) (hin : ∀ w ∈ u_ws RX1 TX1 4, w ∈ Ts) (hlink : Cond.fieldLink own index RX1 "rust" "[I" ∈ Ts) (hdg : decode cc pc = .ok (.getfield index, 3)) (kk : GW p l e R s m args below meth c Q D A nL (wX cA ad (upY σ y a)) cells slots (pc + 3) lv (.ref (ad y 2 i) :: st)) : GW p l e R s m args below meth c Q D A nL (wX cA ad (upY σ y a)) cells slots pc lv (.ref (ad y 1 i) :: st) := by
  refine gx_Pile_rust (σ := upY σ y a) E hi hin hlink hdg ?_
  exact kk
theorem gx_Cat_leap' {a : St} (E : GE p s m args meth c D tys cc nL own Ts ret) {index : Nat} (hi : (y, 3, i) ∈ idsX) (hin : ∀ w ∈ u_ws RX0 TX0 3, w ∈ Ts) (hlink : Cond.fieldLink own index RX0 "leap" "I" ∈ Ts) (hdg : decode cc pc = .ok (.getfield index, 3)) (kk : GW p l e R s m args below meth c Q D A nL (wX cA ad (upY σ y a)) cells slots (pc + 3) lv (.int (zI (lp a i)) :: st)) : GW p l e R s m args below meth c Q D A nL (wX cA ad (upY σ y a)) cells slots pc lv (.ref (ad y 3 i) :: st) := by
  refine gx_Cat_leap (σ := upY σ y a) E hi hin hlink hdg ?_
  rw [upY_s]; exact kk
theorem px_Cat_leap' {a : St} (E : GE p s m args meth c D tys cc nL own Ts ret) {index : Nat} {v : Int32} (hi : (y, 3, i) ∈ idsX) (hin : ∀ w ∈ u_ws RX0 TX0 3, w ∈ Ts) (hlink : Cond.fieldLink own index RX0 "leap" "I" ∈ Ts) (hdg : decode cc pc = .ok (.putfield index, 3)) (kk : GW p l e R s m args below meth c Q D A nL (wX cA ad (upY σ y (up3 a 3 i 0 v))) cells slots (pc + 3) lv st) : GW p l e R s m args below meth c Q D A nL (wX cA ad (upY σ y a)) cells slots pc lv (.int v :: .ref (ad y 3 i) :: st) := by
  refine px_Cat_leap (σ := upY σ y a) E hi hin hlink hdg ?_
  rw [upY_s, upY_upY]; exact kk
theorem gx_Cat_on' {a : St} (E : GE p s m args meth c D tys cc nL own Ts ret) {index : Nat} (hi : (y, 3, i) ∈ idsX) (hin : ∀ w ∈ u_ws RX0 TX0 3, w ∈ Ts) (hlink : Cond.fieldLink own index RX0 "on" "I" ∈ Ts) (hdg : decode cc pc = .ok (.getfield index, 3)) (kk : GW p l e R s m args below meth c Q D A nL (wX cA ad (upY σ y a)) cells slots (pc + 3) lv (.int (zI (on a i)) :: st)) : GW p l e R s m args below meth c Q D A nL (wX cA ad (upY σ y a)) cells slots pc lv (.ref (ad y 3 i) :: st) := by
  refine gx_Cat_on (σ := upY σ y a) E hi hin hlink hdg ?_
  rw [upY_s]; exact kk
theorem px_Cat_on' {a : St} (E : GE p s m args meth c D tys cc nL own Ts ret) {index : Nat} {v : Int32} (hi : (y, 3, i) ∈ idsX) (hin : ∀ w ∈ u_ws RX0 TX0 3, w ∈ Ts) (hlink : Cond.fieldLink own index RX0 "on" "I" ∈ Ts) (hdg : decode cc pc = .ok (.putfield index, 3)) (kk : GW p l e R s m args below meth c Q D A nL (wX cA ad (upY σ y (up3 a 3 i 1 v))) cells slots (pc + 3) lv st) : GW p l e R s m args below meth c Q D A nL (wX cA ad (upY σ y a)) cells slots pc lv (.int v :: .ref (ad y 3 i) :: st) := by
  refine px_Cat_on (σ := upY σ y a) E hi hin hlink hdg ?_
  rw [upY_s, upY_upY]; exact kk
theorem gx_Cat_rolledOff' {a : St} (E : GE p s m args meth c D tys cc nL own Ts ret) {index : Nat} (hi : (y, 3, i) ∈ idsX) (hin : ∀ w ∈ u_ws RX0 TX0 3, w ∈ Ts) (hlink : Cond.fieldLink own index RX0 "rolledOff" "I" ∈ Ts) (hdg : decode cc pc = .ok (.getfield index, 3)) (kk : GW p l e R s m args below meth c Q D A nL (wX cA ad (upY σ y a)) cells slots (pc + 3) lv (.int (a 3 i 2) :: st)) : GW p l e R s m args below meth c Q D A nL (wX cA ad (upY σ y a)) cells slots pc lv (.ref (ad y 3 i) :: st) := by
  refine gx_Cat_rolledOff (σ := upY σ y a) E hi hin hlink hdg ?_
  rw [upY_s]; exact kk
theorem px_Cat_rolledOff' {a : St} (E : GE p s m args meth c D tys cc nL own Ts ret) {index : Nat} {v : Int32} (hi : (y, 3, i) ∈ idsX) (hin : ∀ w ∈ u_ws RX0 TX0 3, w ∈ Ts) (hlink : Cond.fieldLink own index RX0 "rolledOff" "I" ∈ Ts) (hdg : decode cc pc = .ok (.putfield index, 3)) (kk : GW p l e R s m args below meth c Q D A nL (wX cA ad (upY σ y (up3 a 3 i 2 v))) cells slots (pc + 3) lv st) : GW p l e R s m args below meth c Q D A nL (wX cA ad (upY σ y a)) cells slots pc lv (.int v :: .ref (ad y 3 i) :: st) := by
  refine px_Cat_rolledOff (σ := upY σ y a) E hi hin hlink hdg ?_
  rw [upY_s, upY_upY]; exact kk
theorem px_Pile_pyramid' {a : St} (E : GE p s m args meth c D tys cc nL own Ts ret) {index e9 : Nat} (he : 1 ≤ e9 ∧ e9 < 7) (hi : (y, 1, i) ∈ idsX) (hin : ∀ w ∈ u_ws RX1 TX1 4, w ∈ Ts) (hlink : Cond.fieldLink own index RX1 "pyramid" "LCannonStacks$Pyramid;" ∈ Ts) (hdg : decode cc pc = .ok (.putfield index, 3)) (kk : GW p l e R s m args below meth c Q D A nL (wX cA ad (upY σ y (up3 a 1 i 1 (zI e9)))) cells slots (pc + 3) lv st) : GW p l e R s m args below meth c Q D A nL (wX cA ad (upY σ y a)) cells slots pc lv (.ref (ad 2 9 e9) :: .ref (ad y 1 i) :: st) := by
  refine px_Pile_pyramid (σ := upY σ y a) E he hi hin hlink hdg ?_
  rw [upY_s, upY_upY]; exact kk
theorem lx_2' {a : St} (E : GE p s m args meth c D (tysX cA) cc nL own Ts ret) {z : Int} (hi : (y, 2, i) ∈ idsX) (hz : 0 ≤ z ∧ z < 91) (hdg : decode cc pc = .ok (.iaload, 1)) (kk : GW p l e R s m args below meth c Q D A nL (wX cA ad (upY σ y a)) cells slots (pc + 1) lv (.int (a 2 i z.toNat) :: st)) : GW p l e R s m args below meth c Q D A nL (wX cA ad (upY σ y a)) cells slots pc lv (.int (zI z) :: .ref (ad y 2 i) :: st) := by
  refine lx_2 (σ := upY σ y a) E hi hz hdg ?_
  rw [upY_s]; exact kk
theorem sx_2' {a : St} (E : GE p s m args meth c D (tysX cA) cc nL own Ts ret) {z : Int} {v : Int32} (hi : (y, 2, i) ∈ idsX) (hz : 0 ≤ z ∧ z < 91) (hdg : decode cc pc = .ok (.iastore, 1)) (kk : GW p l e R s m args below meth c Q D A nL (wX cA ad (upY σ y (up3 a 2 i z.toNat v))) cells slots (pc + 1) lv st) : GW p l e R s m args below meth c Q D A nL (wX cA ad (upY σ y a)) cells slots pc lv (.int v :: .int (zI z) :: .ref (ad y 2 i) :: st) := by
  refine sx_2 (σ := upY σ y a) E hi hz hdg ?_
  rw [upY_s, upY_upY]; exact kk
theorem nx_2' {a : St} (E : GE p s m args meth c D (tysX cA) cc nL own Ts ret) (hi : (y, 2, i) ∈ idsX) (hdg : decode cc pc = .ok (.arraylength, 1)) (kk : GW p l e R s m args below meth c Q D A nL (wX cA ad (upY σ y a)) cells slots (pc + 1) lv (.int (zI 91) :: st)) : GW p l e R s m args below meth c Q D A nL (wX cA ad (upY σ y a)) cells slots pc lv (.ref (ad y 2 i) :: st) := by
  refine nx_2 (σ := upY σ y a) E hi hdg ?_
  exact kk
theorem lx_4' {a : St} (E : GE p s m args meth c D (tysX cA) cc nL own Ts ret) {z : Int} (hi : (y, 4, 0) ∈ idsX) (hz : 0 ≤ z ∧ z < 5) (hdg : decode cc pc = .ok (.iaload, 1)) (kk : GW p l e R s m args below meth c Q D A nL (wX cA ad (upY σ y a)) cells slots (pc + 1) lv (.int (a 4 0 z.toNat) :: st)) : GW p l e R s m args below meth c Q D A nL (wX cA ad (upY σ y a)) cells slots pc lv (.int (zI z) :: .ref (ad y 4 0) :: st) := by
  refine lx_4 (σ := upY σ y a) E hi hz hdg ?_
  rw [upY_s]; exact kk
theorem sx_4' {a : St} (E : GE p s m args meth c D (tysX cA) cc nL own Ts ret) {z : Int} {v : Int32} (hi : (y, 4, 0) ∈ idsX) (hz : 0 ≤ z ∧ z < 5) (hdg : decode cc pc = .ok (.iastore, 1)) (kk : GW p l e R s m args below meth c Q D A nL (wX cA ad (upY σ y (up3 a 4 0 z.toNat v))) cells slots (pc + 1) lv st) : GW p l e R s m args below meth c Q D A nL (wX cA ad (upY σ y a)) cells slots pc lv (.int v :: .int (zI z) :: .ref (ad y 4 0) :: st) := by
  refine sx_4 (σ := upY σ y a) E hi hz hdg ?_
  rw [upY_s, upY_upY]; exact kk
theorem nx_4' {a : St} (E : GE p s m args meth c D (tysX cA) cc nL own Ts ret) (hi : (y, 4, 0) ∈ idsX) (hdg : decode cc pc = .ok (.arraylength, 1)) (kk : GW p l e R s m args below meth c Q D A nL (wX cA ad (upY σ y a)) cells slots (pc + 1) lv (.int (zI 5) :: st)) : GW p l e R s m args below meth c Q D A nL (wX cA ad (upY σ y a)) cells slots pc lv (.ref (ad y 4 0) :: st) := by
  refine nx_4 (σ := upY σ y a) E hi hdg ?_
  exact kk
theorem lx_5' {a : St} (E : GE p s m args meth c D (tysX cA) cc nL own Ts ret) {z : Int} (hi : (0, 5, 0) ∈ idsX) (hz : 0 ≤ z ∧ z < 5) (hdg : decode cc pc = .ok (.iaload, 1)) (kk : GW p l e R s m args below meth c Q D A nL (wX cA ad (upY σ 0 a)) cells slots (pc + 1) lv (.int (a 5 0 z.toNat) :: st)) : GW p l e R s m args below meth c Q D A nL (wX cA ad (upY σ 0 a)) cells slots pc lv (.int (zI z) :: .ref (ad 0 5 0) :: st) := by
  refine lx_5 (σ := upY σ 0 a) E hi hz hdg ?_
  rw [upY_s]; exact kk
theorem sx_5' {a : St} (E : GE p s m args meth c D (tysX cA) cc nL own Ts ret) {z : Int} {v : Int32} (hi : (0, 5, 0) ∈ idsX) (hz : 0 ≤ z ∧ z < 5) (hdg : decode cc pc = .ok (.iastore, 1)) (kk : GW p l e R s m args below meth c Q D A nL (wX cA ad (upY σ 0 (up3 a 5 0 z.toNat v))) cells slots (pc + 1) lv st) : GW p l e R s m args below meth c Q D A nL (wX cA ad (upY σ 0 a)) cells slots pc lv (.int v :: .int (zI z) :: .ref (ad 0 5 0) :: st) := by
  refine sx_5 (σ := upY σ 0 a) E hi hz hdg ?_
  rw [upY_s, upY_upY]; exact kk
theorem lx_6' {a : St} (E : GE p s m args meth c D (tysX cA) cc nL own Ts ret) {z : Int} (hi : (0, 6, 0) ∈ idsX) (hz : 0 ≤ z ∧ z < 5) (hdg : decode cc pc = .ok (.iaload, 1)) (kk : GW p l e R s m args below meth c Q D A nL (wX cA ad (upY σ 0 a)) cells slots (pc + 1) lv (.int (a 6 0 z.toNat) :: st)) : GW p l e R s m args below meth c Q D A nL (wX cA ad (upY σ 0 a)) cells slots pc lv (.int (zI z) :: .ref (ad 0 6 0) :: st) := by
  refine lx_6 (σ := upY σ 0 a) E hi hz hdg ?_
  rw [upY_s]; exact kk
theorem sx_6' {a : St} (E : GE p s m args meth c D (tysX cA) cc nL own Ts ret) {z : Int} {v : Int32} (hi : (0, 6, 0) ∈ idsX) (hz : 0 ≤ z ∧ z < 5) (hdg : decode cc pc = .ok (.iastore, 1)) (kk : GW p l e R s m args below meth c Q D A nL (wX cA ad (upY σ 0 (up3 a 6 0 z.toNat v))) cells slots (pc + 1) lv st) : GW p l e R s m args below meth c Q D A nL (wX cA ad (upY σ 0 a)) cells slots pc lv (.int v :: .int (zI z) :: .ref (ad 0 6 0) :: st) := by
  refine sx_6 (σ := upY σ 0 a) E hi hz hdg ?_
  rw [upY_s, upY_upY]; exact kk
theorem lx_7' {a : St} (E : GE p s m args meth c D (tysX cA) cc nL own Ts ret) {z : Int} (hi : (0, 7, 0) ∈ idsX) (hz : 0 ≤ z ∧ z < 5) (hdg : decode cc pc = .ok (.iaload, 1)) (kk : GW p l e R s m args below meth c Q D A nL (wX cA ad (upY σ 0 a)) cells slots (pc + 1) lv (.int (a 7 0 z.toNat) :: st)) : GW p l e R s m args below meth c Q D A nL (wX cA ad (upY σ 0 a)) cells slots pc lv (.int (zI z) :: .ref (ad 0 7 0) :: st) := by
  refine lx_7 (σ := upY σ 0 a) E hi hz hdg ?_
  rw [upY_s]; exact kk
theorem sx_7' {a : St} (E : GE p s m args meth c D (tysX cA) cc nL own Ts ret) {z : Int} {v : Int32} (hi : (0, 7, 0) ∈ idsX) (hz : 0 ≤ z ∧ z < 5) (hdg : decode cc pc = .ok (.iastore, 1)) (kk : GW p l e R s m args below meth c Q D A nL (wX cA ad (upY σ 0 (up3 a 7 0 z.toNat v))) cells slots (pc + 1) lv st) : GW p l e R s m args below meth c Q D A nL (wX cA ad (upY σ 0 a)) cells slots pc lv (.int v :: .int (zI z) :: .ref (ad 0 7 0) :: st) := by
  refine sx_7 (σ := upY σ 0 a) E hi hz hdg ?_
  rw [upY_s, upY_upY]; exact kk
theorem lx_10' {a : St} (E : GE p s m args meth c D (tysX cA) cc nL own Ts ret) {z : Int} (hi : (y, 10, 0) ∈ idsX) (hz : 0 ≤ z ∧ z < 6) (hdg : decode cc pc = .ok (.aaload, 1)) (kk : GW p l e R s m args below meth c Q D A nL (wX cA ad (upY σ y a)) cells slots (pc + 1) lv (.ref (ad y 1 z.toNat) :: st)) : GW p l e R s m args below meth c Q D A nL (wX cA ad (upY σ y a)) cells slots pc lv (.int (zI z) :: .ref (ad y 10 0) :: st) := by
  refine lx_10 (σ := upY σ y a) E hi hz hdg ?_
  exact kk
theorem lx_11' {a : St} (E : GE p s m args meth c D (tysX cA) cc nL own Ts ret) {z : Int} (hi : (y, 11, 0) ∈ idsX) (hz : 0 ≤ z ∧ z < 3) (hdg : decode cc pc = .ok (.aaload, 1)) (kk : GW p l e R s m args below meth c Q D A nL (wX cA ad (upY σ y a)) cells slots (pc + 1) lv (.ref (ad y 3 z.toNat) :: st)) : GW p l e R s m args below meth c Q D A nL (wX cA ad (upY σ y a)) cells slots pc lv (.int (zI z) :: .ref (ad y 11 0) :: st) := by
  refine lx_11 (σ := upY σ y a) E hi hz hdg ?_
  exact kk
end WX
end
section
/-! ===== PYRAMID ===== -/
theorem sq_b : ∀ n : Nat, n ≤ 20 → 0 ≤ (n : Int) * (n + 1) * (2 * n + 1) ∧ (n : Int) * (n + 1) * (2 * n + 1) < 2147483648 := by decide +kernel
theorem sq_bz {n : Int} (h : 0 ≤ n ∧ n ≤ 20) : 0 ≤ n * (n + 1) * (2 * n + 1) ∧ n * (n + 1) * (2 * n + 1) < 2147483648 := by
  obtain ⟨k, rfl⟩ := Int.eq_ofNat_of_zero_le h.1
  exact sq_b k (by omega)
def pyr_fB (i b : Nat) : Bool := decide (1 ≤ i → (b : Int) < sq i → 0 ≤ lf i b ∧ lf i b < i ∧ stz i (lf i b) ≤ b) && decide (1 ≤ i → (b : Int) < sq i → b < stz i (lf i b + 1) ∧ 0 ≤ row i b ∧ row i b < i - lf i b) && decide (1 ≤ i → (b : Int) < sq i → 0 ≤ pla i b ∧ pla i b < i - lf i b ∧ b < cov i b ∧ cov i b ≤ sq i)
theorem pyr_fT : ∀ i : Nat, i < 7 → ∀ b : Nat, b < 91 → pyr_fB i b = true := by decide +kernel
theorem pyr_f0 (i : Nat) (h1 : i < 7) (b : Nat) (h2 : b < 91) (h3 : 1 ≤ i) (h4 : (b : Int) < sq i) : 0 ≤ lf i b ∧ lf i b < i ∧ stz i (lf i b) ≤ b ∧ b < stz i (lf i b + 1) ∧ 0 ≤ row i b ∧ row i b < i - lf i b ∧ 0 ≤ pla i b ∧ pla i b < i - lf i b ∧ b < cov i b ∧ cov i b ≤ sq i := by
  have h := pyr_fT i h1 b h2
  simp only [pyr_fB, Bool.and_eq_true, decide_eq_true_eq] at h
  obtain ⟨⟨ha, hb⟩, hc⟩ := h
  have ha := ha h3 h4
  have hb := hb h3 h4
  have hc := hc h3 h4
  exact ⟨ha.1, ha.2.1, ha.2.2, hb.1, hb.2.1, hb.2.2, hc⟩
theorem pyr_f {i : Nat} {b : Int} (hi : 1 ≤ i ∧ i < 7) (hb : 0 ≤ b ∧ b < sq i) : 0 ≤ lf i b ∧ lf i b < i ∧ stz i (lf i b) ≤ b ∧ b < stz i (lf i b + 1) ∧ 0 ≤ row i b ∧ row i b < i - lf i b ∧ 0 ≤ pla i b ∧ pla i b < i - lf i b ∧ b < cov i b ∧ cov i b ≤ sq i := by
  obtain ⟨k, rfl⟩ := Int.eq_ofNat_of_zero_le hb.1
  have := sq_le (e := i) (by omega)
  exact pyr_f0 i hi.2 k (by omega) hi.1 hb.2
theorem stz_b0 : ∀ i : Nat, i < 7 → ∀ k : Nat, k ≤ i → 0 ≤ stz i k ∧ stz i k ≤ 91 := by decide +kernel
theorem stz_b {i : Nat} {k : Int} (hi : 1 ≤ i ∧ i < 7) (hk : 0 ≤ k ∧ k ≤ i) : 0 ≤ stz i k ∧ stz i k ≤ 91 := by
  obtain ⟨j, rfl⟩ := Int.eq_ofNat_of_zero_le hk.1
  exact stz_b0 i hi.2 j (by omega)
theorem lfA_s {e b k : Int} {n : Nat} (h : 0 < n) : lfA e b n k = if k < e ∧ stz e (k + 1) ≤ b then lfA e b (n - 1) (k + 1) else k := by
  obtain ⟨m, rfl⟩ : ∃ m, n = m + 1 := ⟨n - 1, by omega⟩
  rfl
theorem lbA_s {e b k : Int} {n : Nat} (h : 0 < n) : lbA e b n k = if k < e ∧ stz e k < b then lbA e b (n - 1) (k + 1) else k := by
  obtain ⟨m, rfl⟩ : ∃ m, n = m + 1 := ⟨n - 1, by omega⟩
  rfl
set_option maxHeartbeats 4000000 in
set_option maxRecDepth 100000 in
/-- Pyramid.squares(n) -/
theorem c_X2_squares (l : Launch) (D : va_G) (tys : gT) (A : Nat → Prop) (ws : va_W) (n : Int) (hn : 0 ≤ n ∧ n ≤ 20) : Met l yX2_squares wsX2_squares ({ frames := 0, cells := 0, slots := 0, locals := 0 }) (PcG D tys A (ws) [.int (zI n)]) (va_Qi (fun (r : Int32) ws' => r = zI (sq n) ∧ ws' = ws) (gB D A) A) 0 0 A := by
  refine g_met (cc := cX2_squares) (maxL := 1) (ret := (some .int)) (own := RX2) rfl (by decide) rfl (Nat.le_of_ble_eq_true rfl) ?_
  intro p e s m below meth c E
  have hb := sq_bz hn
  refine g_loc (lv' := [(0, .int (zI n))]) ⟨rfl, trivial⟩ ?_
  refine g_iload_n E dX2_squares_0 rfl ?_
  refine g_iload_n E dX2_squares_1 rfl ?_
  refine g_iconst E dX2_squares_2 ?_
  refine g_iadd E dX2_squares_3 ?_
  refine g_imul E dX2_squares_4 ?_
  refine g_iconst E dX2_squares_5 ?_
  refine g_iload_n E dX2_squares_6 rfl ?_
  refine g_imul E dX2_squares_7 ?_
  refine g_iconst E dX2_squares_8 ?_
  refine g_iadd E dX2_squares_9 ?_
  refine g_imul E dX2_squares_10 ?_
  refine g_bipush E dX2_squares_11 (by decide) ?_
  refine g_idiv E dX2_squares_13 (by omega) (by omega) ?_
  exact g_iret E (⟨rfl, rfl⟩) dX2_squares_14
set_option maxHeartbeats 4000000 in
set_option maxRecDepth 100000 in
/-- Pyramid.startOf(k) -/
theorem c_X2_startOf (l : Launch) (D : va_G) (cA : Nat → ClassId) (A : Nat → Prop) (ad : Ad) (σ : Nat → St) (i : Nat) (hi : 1 ≤ i ∧ i < 7) (e9 : Int) (he : (i : Int) = e9) (k : Int) (hk : 0 ≤ k ∧ k ≤ e9) : Met l yX2_startOf wsX2_startOf ({ frames := 0, cells := 0, slots := 0, locals := 0 }) (PcG D (tysX cA) A (wX cA ad σ) [.ref (ad 2 9 i), .int (zI k)]) (va_Qi (fun (r : Int32) ws' => r = zI (stz e9 k) ∧ ws' = wX cA ad σ) (gB D A) A) 0 0 A := by
  refine g_met (cc := cX2_startOf) (maxL := 2) (ret := (some .int)) (own := RX2) rfl (by decide) rfl (Nat.le_of_ble_eq_true rfl) ?_
  intro p e s m below meth c E
  have hin2 : ∀ w ∈ u_ws RX2 TX2 4, w ∈ wsX2_startOf := by decide +kernel
  subst he
  refine g_loc (lv' := [(0, .ref (ad 2 9 i)), (1, .int (zI k))]) ⟨rfl, rfl, trivial⟩ ?_
  refine g_iload_n E dX2_startOf_0 rfl ?_
  refine g_if_lt (tgt := 22) E dX2_startOf_1 (by decide) (by omega) (fun c_1 => ?_) (fun c_1 => ?_)
  · exact absurd c_1 (by omega)
  · refine g_iload_n E dX2_startOf_4 rfl ?_
    refine g_aload_n E dX2_startOf_5 rfl ?_
    refine gx_Pyr_starts E (mem_9 _ (by omega) (by omega)) hin2 (by decide +kernel) dX2_startOf_6 ?_
    refine nx_13 E (mem_13 _ (by omega) (by omega)) dX2_startOf_9 ?_
    refine g_icmp_ge (tgt := 22) E dX2_startOf_10 (by decide) (by omega) (by omega) (fun c_10 => ?_) (fun c_10 => ?_)
    · exact absurd c_10 (by omega)
    · refine g_aload_n E dX2_startOf_13 rfl ?_
      refine gx_Pyr_starts E (mem_9 _ (by omega) (by omega)) hin2 (by decide +kernel) dX2_startOf_14 ?_
      refine g_iload_n E dX2_startOf_17 rfl ?_
      refine lx_13 E (mem_13 _ (by omega) (by omega)) (by omega) (by omega) dX2_startOf_18 ?_
      refine g_goto (tgt := 26) E dX2_startOf_19 (by decide) ?_
      exact g_iret E (⟨rfl, rfl⟩) dX2_startOf_26
set_option maxHeartbeats 4000000 in
set_option maxRecDepth 100000 in
/-- Pyramid.firstOn(b) -/
theorem c_X2_firstOn (l : Launch) (D : va_G) (cA : Nat → ClassId) (A : Nat → Prop) (ad : Ad) (σ : Nat → St) (i : Nat) (hi : 1 ≤ i ∧ i < 7) (e9 : Int) (he : (i : Int) = e9) (b : Int) (hb : 0 ≤ b ∧ b < sq e9) : Met l yX2_firstOn wsX2_firstOn ({ frames := 0, cells := 0, slots := 0, locals := 0 }) (PcG D (tysX cA) A (wX cA ad σ) [.ref (ad 2 9 i), .int (zI b)]) (va_Qi (fun (r : Int32) ws' => r = zI (cov e9 b) ∧ ws' = wX cA ad σ) (gB D A) A) 0 0 A := by
  refine g_met (cc := cX2_firstOn) (maxL := 2) (ret := (some .int)) (own := RX2) rfl (by decide) rfl (Nat.le_of_ble_eq_true rfl) ?_
  intro p e s m below meth c E
  have hin2 : ∀ w ∈ u_ws RX2 TX2 4, w ∈ wsX2_firstOn := by decide +kernel
  subst he
  have hs := sq_le (e := i) (by omega)
  refine g_loc (lv' := [(0, .ref (ad 2 9 i)), (1, .int (zI b))]) ⟨rfl, rfl, trivial⟩ ?_
  refine g_iload_n E dX2_firstOn_0 rfl ?_
  refine g_if_lt (tgt := 22) E dX2_firstOn_1 (by decide) (by omega) (fun c_1 => ?_) (fun c_1 => ?_)
  · exact absurd c_1 (by omega)
  · refine g_iload_n E dX2_firstOn_4 rfl ?_
    refine g_aload_n E dX2_firstOn_5 rfl ?_
    refine gx_Pyr_coverers E (mem_9 _ (by omega) (by omega)) hin2 (by decide +kernel) dX2_firstOn_6 ?_
    refine nx_14 E (mem_14 _ (by omega) (by omega)) dX2_firstOn_9 ?_
    refine g_icmp_ge (tgt := 22) E dX2_firstOn_10 (by decide) (by omega) (by omega) (fun c_10 => ?_) (fun c_10 => ?_)
    · exact absurd c_10 (by omega)
    · refine g_aload_n E dX2_firstOn_13 rfl ?_
      refine gx_Pyr_coverers E (mem_9 _ (by omega) (by omega)) hin2 (by decide +kernel) dX2_firstOn_14 ?_
      refine g_iload_n E dX2_firstOn_17 rfl ?_
      refine lx_14 E (mem_14 _ (by omega) (by omega)) (by omega) (by omega) dX2_firstOn_18 ?_
      refine g_goto (tgt := 26) E dX2_firstOn_19 (by decide) ?_
      exact g_iret E (⟨rfl, rfl⟩) dX2_firstOn_26
set_option maxHeartbeats 4000000 in
set_option maxRecDepth 100000 in
/-- Pyramid.layersBegun(b) -/
theorem c_X2_layersBegun (l : Launch) (D : va_G) (cA : Nat → ClassId) (A : Nat → Prop) (ad : Ad) (σ : Nat → St) (i : Nat) (hi : 1 ≤ i ∧ i < 7) (e9 : Int) (he : (i : Int) = e9) (b : Int) (hb : 0 ≤ b ∧ b ≤ 100) : Met l yX2_layersBegun wsX2_layersBegun ({ frames := 0, cells := 0, slots := 0, locals := 0 }) (PcG D (tysX cA) A (wX cA ad σ) [.ref (ad 2 9 i), .int (zI b)]) (va_Qi (fun (r : Int32) ws' => r = zI (lb e9 b) ∧ ws' = wX cA ad σ) (gB D A) A) 0 0 A := by
  refine g_met (cc := cX2_layersBegun) (maxL := 3) (ret := (some .int)) (own := RX2) rfl (by decide) rfl (Nat.le_of_ble_eq_true rfl) ?_
  intro p e s m below meth c E
  have hin2 : ∀ w ∈ u_ws RX2 TX2 4, w ∈ wsX2_layersBegun := by decide +kernel
  subst he
  refine g_loc (lv' := [(0, .ref (ad 2 9 i)), (1, .int (zI b))]) ⟨rfl, rfl, trivial⟩ ?_
  refine g_iconst E dX2_layersBegun_0 ?_
  refine g_istore_n E dX2_layersBegun_1 (by decide) ?_
  have key_k : ∀ (n_k k : Nat), (k : Int) ≤ (i : Int) → (i : Int) + 1 ≤ (k : Int) + n_k → (lbA i b (7 - k) k = lb i b) → GW p l e (headSpec wsX2_layersBegun ({ frames := 0, cells := 0, slots := 0, locals := 0 })).room s m ([.ref (ad 2 9 i), .int (zI b)] : List Value).toArray below meth c (MQ below (va_Qi (fun (r : Int32) ws' => r = zI (lb (i : Int) b) ∧ ws' = wX cA ad σ) (gB D A) A) ([.ref (ad 2 9 i), .int (zI b)] : List Value).toArray s 0 0 A) D A 3 (wX cA ad σ) 0 0 2 [(0, .ref (ad 2 9 i)), (1, .int (zI b)), (2, .int (zI (k : Int)))] [] := by
    intro n_k
    induction n_k with
    | zero => intro k h1 h2; exact absurd h2 (by omega)
    | succ n_k ih_k =>
      intro k hle_k hfu_k hi0_k
      have hst := stz_b hi (k := k) (by omega)
      have hst1 : (k : Int) < i → 0 ≤ stz i (k + 1) ∧ stz i (k + 1) ≤ 91 := fun h => stz_b hi (by omega)
      refine g_iload_n E dX2_layersBegun_2 rfl ?_
      refine g_aload_n E dX2_layersBegun_3 rfl ?_
      refine gx_Pyr_edge E (mem_9 _ (by omega) (by omega)) hin2 (by decide +kernel) dX2_layersBegun_4 ?_
      refine g_icmp_ge (tgt := 26) E dX2_layersBegun_7 (by decide) (by omega) (by omega) (fun c_7 => ?_) (fun c_7 => ?_)
      · refine g_iload_n E dX2_layersBegun_26 rfl ?_
        exact g_iret E (⟨by rw [← hi0_k, lbA_s (by omega), if_neg (fun h => by omega)], rfl⟩) dX2_layersBegun_27
      · refine g_aload_n E dX2_layersBegun_10 rfl ?_
        refine gx_Pyr_starts E (mem_9 _ (by omega) (by omega)) hin2 (by decide +kernel) dX2_layersBegun_11 ?_
        refine g_iload_n E dX2_layersBegun_14 rfl ?_
        refine lx_13 E (mem_13 _ (by omega) (by omega)) (by omega) (by omega) dX2_layersBegun_15 ?_
        refine g_iload_n E dX2_layersBegun_16 rfl ?_
        refine g_icmp_ge (tgt := 26) E dX2_layersBegun_17 (by decide) (by omega) (by omega) (fun c_17 => ?_) (fun c_17 => ?_)
        · refine g_iload_n E dX2_layersBegun_26 rfl ?_
          exact g_iret E (⟨by rw [← hi0_k, lbA_s (by omega), if_neg (fun h => by omega)], rfl⟩) dX2_layersBegun_27
        · refine g_iinc E dX2_layersBegun_20 rfl (by decide) ?_
          refine g_goto (tgt := 2) E dX2_layersBegun_23 (by decide) ?_
          refine g_loc (lv' := [(0, .ref (ad 2 9 i)), (1, .int (zI b)), (2, .int (zI ((k + 1) : Int)))]) ⟨rfl, rfl, rfl, trivial⟩ ?_
          exact ih_k (k + 1) (by omega) (by omega) (by rw [← hi0_k, lbA_s (by omega) (n := 7 - k), if_pos ⟨by omega, by omega⟩]; rfl)
  refine g_loc (lv' := [(0, .ref (ad 2 9 i)), (1, .int (zI b)), (2, .int (zI (0 : Int)))]) ⟨rfl, rfl, rfl, trivial⟩ ?_
  exact key_k (((i : Int)) + 1).toNat.succ 0 (by omega) (by omega) (rfl)
set_option maxHeartbeats 4000000 in
set_option maxRecDepth 100000 in
/-- Pyramid.layersFull(b) -/
theorem c_X2_layersFull (l : Launch) (D : va_G) (cA : Nat → ClassId) (A : Nat → Prop) (ad : Ad) (σ : Nat → St) (i : Nat) (hi : 1 ≤ i ∧ i < 7) (e9 : Int) (he : (i : Int) = e9) (b : Int) (hb : 0 ≤ b ∧ b ≤ 100) : Met l yX2_layersFull wsX2_layersFull ({ frames := 0, cells := 0, slots := 0, locals := 0 }) (PcG D (tysX cA) A (wX cA ad σ) [.ref (ad 2 9 i), .int (zI b)]) (va_Qi (fun (r : Int32) ws' => r = zI (lf e9 b) ∧ ws' = wX cA ad σ) (gB D A) A) 0 0 A := by
  refine g_met (cc := cX2_layersFull) (maxL := 3) (ret := (some .int)) (own := RX2) rfl (by decide) rfl (Nat.le_of_ble_eq_true rfl) ?_
  intro p e s m below meth c E
  have hin2 : ∀ w ∈ u_ws RX2 TX2 4, w ∈ wsX2_layersFull := by decide +kernel
  subst he
  refine g_loc (lv' := [(0, .ref (ad 2 9 i)), (1, .int (zI b))]) ⟨rfl, rfl, trivial⟩ ?_
  refine g_iconst E dX2_layersFull_0 ?_
  refine g_istore_n E dX2_layersFull_1 (by decide) ?_
  have key_k : ∀ (n_k k : Nat), (k : Int) ≤ (i : Int) → (i : Int) + 1 ≤ (k : Int) + n_k → (lfA i b (7 - k) k = lf i b) → GW p l e (headSpec wsX2_layersFull ({ frames := 0, cells := 0, slots := 0, locals := 0 })).room s m ([.ref (ad 2 9 i), .int (zI b)] : List Value).toArray below meth c (MQ below (va_Qi (fun (r : Int32) ws' => r = zI (lf (i : Int) b) ∧ ws' = wX cA ad σ) (gB D A) A) ([.ref (ad 2 9 i), .int (zI b)] : List Value).toArray s 0 0 A) D A 3 (wX cA ad σ) 0 0 2 [(0, .ref (ad 2 9 i)), (1, .int (zI b)), (2, .int (zI (k : Int)))] [] := by
    intro n_k
    induction n_k with
    | zero => intro k h1 h2; exact absurd h2 (by omega)
    | succ n_k ih_k =>
      intro k hle_k hfu_k hi0_k
      have hst := stz_b hi (k := k) (by omega)
      have hst1 : (k : Int) < i → 0 ≤ stz i (k + 1) ∧ stz i (k + 1) ≤ 91 := fun h => stz_b hi (by omega)
      refine g_iload_n E dX2_layersFull_2 rfl ?_
      refine g_aload_n E dX2_layersFull_3 rfl ?_
      refine gx_Pyr_edge E (mem_9 _ (by omega) (by omega)) hin2 (by decide +kernel) dX2_layersFull_4 ?_
      refine g_icmp_ge (tgt := 28) E dX2_layersFull_7 (by decide) (by omega) (by omega) (fun c_7 => ?_) (fun c_7 => ?_)
      · refine g_iload_n E dX2_layersFull_28 rfl ?_
        exact g_iret E (⟨by rw [← hi0_k, lfA_s (by omega), if_neg (fun h => by omega)], rfl⟩) dX2_layersFull_29
      · refine g_aload_n E dX2_layersFull_10 rfl ?_
        refine gx_Pyr_starts E (mem_9 _ (by omega) (by omega)) hin2 (by decide +kernel) dX2_layersFull_11 ?_
        refine g_iload_n E dX2_layersFull_14 rfl ?_
        refine g_iconst E dX2_layersFull_15 ?_
        refine g_iadd E dX2_layersFull_16 ?_
        refine lx_13 E (mem_13 _ (by omega) (by omega)) (by omega) (by omega) dX2_layersFull_17 ?_
        refine g_iload_n E dX2_layersFull_18 rfl ?_
        refine g_icmp_gt (tgt := 28) E dX2_layersFull_19 (by decide) (by omega) (by omega) (fun c_19 => ?_) (fun c_19 => ?_)
        · refine g_iload_n E dX2_layersFull_28 rfl ?_
          exact g_iret E (⟨by rw [← hi0_k, lfA_s (by omega), if_neg (fun h => by omega)], rfl⟩) dX2_layersFull_29
        · refine g_iinc E dX2_layersFull_22 rfl (by decide) ?_
          refine g_goto (tgt := 2) E dX2_layersFull_25 (by decide) ?_
          refine g_loc (lv' := [(0, .ref (ad 2 9 i)), (1, .int (zI b)), (2, .int (zI ((k + 1) : Int)))]) ⟨rfl, rfl, rfl, trivial⟩ ?_
          exact ih_k (k + 1) (by omega) (by omega) (by rw [← hi0_k, lfA_s (by omega) (n := 7 - k), if_pos ⟨by omega, by omega⟩]; rfl)
  refine g_loc (lv' := [(0, .ref (ad 2 9 i)), (1, .int (zI b)), (2, .int (zI (0 : Int)))]) ⟨rfl, rfl, rfl, trivial⟩ ?_
  exact key_k (((i : Int)) + 1).toNat.succ 0 (by omega) (by omega) (rfl)
set_option maxHeartbeats 4000000 in
set_option maxRecDepth 100000 in
/-- Pyramid.layerOf(b) -/
theorem c_X2_layerOf (l : Launch) (D : va_G) (cA : Nat → ClassId) (A : Nat → Prop) (ad : Ad) (σ : Nat → St) (i : Nat) (hi : 1 ≤ i ∧ i < 7) (e9 : Int) (he : (i : Int) = e9) (b : Int) (hb : 0 ≤ b ∧ b ≤ 100) : Met l yX2_layerOf wsX2_layerOf ({ frames := 1, cells := 0, slots := 0, locals := 22 }) (PcG D (tysX cA) A (wX cA ad σ) [.ref (ad 2 9 i), .int (zI b)]) (va_Qi (fun (r : Int32) ws' => r = zI (lf e9 b) ∧ ws' = wX cA ad σ) (gB D A) A) 0 0 A := by
  refine g_met (cc := cX2_layerOf) (maxL := 2) (ret := (some .int)) (own := RX2) rfl (by decide) rfl (Nat.le_of_ble_eq_true rfl) ?_
  intro p e s m below meth c E
  have hin2 : ∀ w ∈ u_ws RX2 TX2 4, w ∈ wsX2_layerOf := by decide +kernel
  subst he
  refine g_loc (lv' := [(0, .ref (ad 2 9 i)), (1, .int (zI b))]) ⟨rfl, rfl, trivial⟩ ?_
  refine g_aload_n E dX2_layerOf_0 rfl ?_
  refine g_iload_n E dX2_layerOf_1 rfl ?_
  refine g_callVi (T := TX2) (ci := 2) (n := 1) (As := [_]) (rest := _) E (c_X2_layersFull l D cA A ad _ _ (by omega) _ rfl _ (by omega)) gX2_layerOf_X2_layersFull rfl ⟨rfl, rfl⟩ (by decide +kernel) ⟨Nat.le_of_ble_eq_true rfl, Nat.le_of_ble_eq_true rfl⟩ (ob_9 (mem_9 _ (by omega) (by omega))) rfl rfl rfl (Nat.le_of_ble_eq_true rfl) ⟨Nat.zero_le _, Nat.zero_le _⟩ dX2_layerOf_2 ?_
  rintro r_2 ws_2 ⟨rfl, rfl⟩
  exact g_iret E (⟨rfl, rfl⟩) dX2_layerOf_5
set_option maxHeartbeats 4000000 in
set_option maxRecDepth 100000 in
/-- Pyramid.rowOf(b) -/
theorem c_X2_rowOf (l : Launch) (D : va_G) (cA : Nat → ClassId) (A : Nat → Prop) (ad : Ad) (σ : Nat → St) (i : Nat) (hi : 1 ≤ i ∧ i < 7) (e9 : Int) (he : (i : Int) = e9) (b : Int) (hb : 0 ≤ b ∧ b < sq e9) : Met l yX2_rowOf wsX2_rowOf ({ frames := 2, cells := 0, slots := 0, locals := 43 }) (PcG D (tysX cA) A (wX cA ad σ) [.ref (ad 2 9 i), .int (zI b)]) (va_Qi (fun (r : Int32) ws' => r = zI (row e9 b) ∧ ws' = wX cA ad σ) (gB D A) A) 0 0 A := by
  refine g_met (cc := cX2_rowOf) (maxL := 4) (ret := (some .int)) (own := RX2) rfl (by decide) rfl (Nat.le_of_ble_eq_true rfl) ?_
  intro p e s m below meth c E
  have hin2 : ∀ w ∈ u_ws RX2 TX2 4, w ∈ wsX2_rowOf := by decide +kernel
  subst he
  have hs := sq_le (e := i) (by omega)
  have hf := pyr_f hi hb
  have hst := stz_b hi (k := lf i b) (by omega)
  refine g_loc (lv' := [(0, .ref (ad 2 9 i)), (1, .int (zI b))]) ⟨rfl, rfl, trivial⟩ ?_
  refine g_aload_n E dX2_rowOf_0 rfl ?_
  refine g_iload_n E dX2_rowOf_1 rfl ?_
  refine g_callVi (T := TX2) (ci := 2) (n := 1) (As := [_]) (rest := _) E (c_X2_layerOf l D cA A ad _ _ (by omega) _ rfl _ (by omega)) gX2_rowOf_X2_layerOf rfl ⟨rfl, rfl⟩ (by decide +kernel) ⟨Nat.le_of_ble_eq_true rfl, Nat.le_of_ble_eq_true rfl⟩ (ob_9 (mem_9 _ (by omega) (by omega))) rfl rfl rfl (Nat.le_of_ble_eq_true rfl) ⟨Nat.zero_le _, Nat.zero_le _⟩ dX2_rowOf_2 ?_
  rintro r_2 ws_2 ⟨rfl, rfl⟩
  refine g_istore_n E dX2_rowOf_5 (by decide) ?_
  refine g_aload_n E dX2_rowOf_6 rfl ?_
  refine gx_Pyr_edge E (mem_9 _ (by omega) (by omega)) hin2 (by decide +kernel) dX2_rowOf_7 ?_
  refine g_iload_n E dX2_rowOf_10 rfl ?_
  refine g_isub E dX2_rowOf_11 ?_
  refine g_istore_n E dX2_rowOf_12 (by decide) ?_
  refine g_iload_n E dX2_rowOf_13 rfl ?_
  refine g_if_le (tgt := 29) E dX2_rowOf_14 (by decide) (by omega) (fun c_14 => ?_) (fun c_14 => ?_)
  · exact absurd c_14 (by omega)
  · refine g_iload_n E dX2_rowOf_17 rfl ?_
    refine g_aload_n E dX2_rowOf_18 rfl ?_
    refine g_iload_n E dX2_rowOf_19 rfl ?_
    refine g_callVi (T := TX2) (ci := 2) (n := 1) (As := [_]) (rest := _) E (c_X2_startOf l D cA A ad _ _ (by omega) _ rfl _ (by omega)) gX2_rowOf_X2_startOf rfl ⟨rfl, rfl⟩ (by decide +kernel) ⟨Nat.le_of_ble_eq_true rfl, Nat.le_of_ble_eq_true rfl⟩ (ob_9 (mem_9 _ (by omega) (by omega))) rfl rfl rfl (Nat.le_of_ble_eq_true rfl) ⟨Nat.zero_le _, Nat.zero_le _⟩ dX2_rowOf_20 ?_
    rintro r_20 ws_20 ⟨rfl, rfl⟩
    refine g_isub E dX2_rowOf_23 ?_
    refine g_iload_n E dX2_rowOf_24 rfl ?_
    refine g_idiv E dX2_rowOf_25 (by omega) (by omega) ?_
    refine g_goto (tgt := 30) E dX2_rowOf_26 (by decide) ?_
    exact g_iret E (⟨rfl, rfl⟩) dX2_rowOf_30
set_option maxHeartbeats 4000000 in
set_option maxRecDepth 100000 in
/-- Pyramid.placeOf(b) -/
theorem c_X2_placeOf (l : Launch) (D : va_G) (cA : Nat → ClassId) (A : Nat → Prop) (ad : Ad) (σ : Nat → St) (i : Nat) (hi : 1 ≤ i ∧ i < 7) (e9 : Int) (he : (i : Int) = e9) (b : Int) (hb : 0 ≤ b ∧ b < sq e9) : Met l yX2_placeOf wsX2_placeOf ({ frames := 2, cells := 0, slots := 0, locals := 43 }) (PcG D (tysX cA) A (wX cA ad σ) [.ref (ad 2 9 i), .int (zI b)]) (va_Qi (fun (r : Int32) ws' => r = zI (pla e9 b) ∧ ws' = wX cA ad σ) (gB D A) A) 0 0 A := by
  refine g_met (cc := cX2_placeOf) (maxL := 4) (ret := (some .int)) (own := RX2) rfl (by decide) rfl (Nat.le_of_ble_eq_true rfl) ?_
  intro p e s m below meth c E
  have hin2 : ∀ w ∈ u_ws RX2 TX2 4, w ∈ wsX2_placeOf := by decide +kernel
  subst he
  have hs := sq_le (e := i) (by omega)
  have hf := pyr_f hi hb
  have hst := stz_b hi (k := lf i b) (by omega)
  refine g_loc (lv' := [(0, .ref (ad 2 9 i)), (1, .int (zI b))]) ⟨rfl, rfl, trivial⟩ ?_
  refine g_aload_n E dX2_placeOf_0 rfl ?_
  refine g_iload_n E dX2_placeOf_1 rfl ?_
  refine g_callVi (T := TX2) (ci := 2) (n := 1) (As := [_]) (rest := _) E (c_X2_layerOf l D cA A ad _ _ (by omega) _ rfl _ (by omega)) gX2_placeOf_X2_layerOf rfl ⟨rfl, rfl⟩ (by decide +kernel) ⟨Nat.le_of_ble_eq_true rfl, Nat.le_of_ble_eq_true rfl⟩ (ob_9 (mem_9 _ (by omega) (by omega))) rfl rfl rfl (Nat.le_of_ble_eq_true rfl) ⟨Nat.zero_le _, Nat.zero_le _⟩ dX2_placeOf_2 ?_
  rintro r_2 ws_2 ⟨rfl, rfl⟩
  refine g_istore_n E dX2_placeOf_5 (by decide) ?_
  refine g_aload_n E dX2_placeOf_6 rfl ?_
  refine gx_Pyr_edge E (mem_9 _ (by omega) (by omega)) hin2 (by decide +kernel) dX2_placeOf_7 ?_
  refine g_iload_n E dX2_placeOf_10 rfl ?_
  refine g_isub E dX2_placeOf_11 ?_
  refine g_istore_n E dX2_placeOf_12 (by decide) ?_
  refine g_iload_n E dX2_placeOf_13 rfl ?_
  refine g_if_le (tgt := 29) E dX2_placeOf_14 (by decide) (by omega) (fun c_14 => ?_) (fun c_14 => ?_)
  · exact absurd c_14 (by omega)
  · refine g_iload_n E dX2_placeOf_17 rfl ?_
    refine g_aload_n E dX2_placeOf_18 rfl ?_
    refine g_iload_n E dX2_placeOf_19 rfl ?_
    refine g_callVi (T := TX2) (ci := 2) (n := 1) (As := [_]) (rest := _) E (c_X2_startOf l D cA A ad _ _ (by omega) _ rfl _ (by omega)) gX2_placeOf_X2_startOf rfl ⟨rfl, rfl⟩ (by decide +kernel) ⟨Nat.le_of_ble_eq_true rfl, Nat.le_of_ble_eq_true rfl⟩ (ob_9 (mem_9 _ (by omega) (by omega))) rfl rfl rfl (Nat.le_of_ble_eq_true rfl) ⟨Nat.zero_le _, Nat.zero_le _⟩ dX2_placeOf_20 ?_
    rintro r_20 ws_20 ⟨rfl, rfl⟩
    refine g_isub E dX2_placeOf_23 ?_
    refine g_iload_n E dX2_placeOf_24 rfl ?_
    refine g_irem E dX2_placeOf_25 (by omega) (by omega) ?_
    refine g_goto (tgt := 30) E dX2_placeOf_26 (by decide) ?_
    exact g_iret E (⟨rfl, rfl⟩) dX2_placeOf_30
set_option maxHeartbeats 4000000 in
set_option maxRecDepth 100000 in
/-- Pyramid.numberOf(k, r, q) -/
theorem c_X2_numberOf (l : Launch) (D : va_G) (cA : Nat → ClassId) (A : Nat → Prop) (ad : Ad) (σ : Nat → St) (i : Nat) (hi : 1 ≤ i ∧ i < 7) (e9 : Int) (he : (i : Int) = e9) (k ro q : Int) (hk : 0 ≤ k ∧ k ≤ e9) : Met l yX2_numberOf wsX2_numberOf ({ frames := 1, cells := 0, slots := 0, locals := 21 }) (PcG D (tysX cA) A (wX cA ad σ) [.ref (ad 2 9 i), .int (zI k), .int (zI ro), .int (zI q)]) (va_Qi (fun (r : Int32) ws' => r = zI (stz e9 k + ro * (e9 - k) + q) ∧ ws' = wX cA ad σ) (gB D A) A) 0 0 A := by
  refine g_met (cc := cX2_numberOf) (maxL := 4) (ret := (some .int)) (own := RX2) rfl (by decide) rfl (Nat.le_of_ble_eq_true rfl) ?_
  intro p e s m below meth c E
  have hin2 : ∀ w ∈ u_ws RX2 TX2 4, w ∈ wsX2_numberOf := by decide +kernel
  subst he
  refine g_loc (lv' := [(0, .ref (ad 2 9 i)), (1, .int (zI k)), (2, .int (zI ro)), (3, .int (zI q))]) ⟨rfl, rfl, rfl, rfl, trivial⟩ ?_
  refine g_aload_n E dX2_numberOf_0 rfl ?_
  refine g_iload_n E dX2_numberOf_1 rfl ?_
  refine g_callVi (T := TX2) (ci := 2) (n := 1) (As := [_]) (rest := _) E (c_X2_startOf l D cA A ad _ _ (by omega) _ rfl _ (by omega)) gX2_numberOf_X2_startOf rfl ⟨rfl, rfl⟩ (by decide +kernel) ⟨Nat.le_of_ble_eq_true rfl, Nat.le_of_ble_eq_true rfl⟩ (ob_9 (mem_9 _ (by omega) (by omega))) rfl rfl rfl (Nat.le_of_ble_eq_true rfl) ⟨Nat.zero_le _, Nat.zero_le _⟩ dX2_numberOf_2 ?_
  rintro r_2 ws_2 ⟨rfl, rfl⟩
  refine g_iload_n E dX2_numberOf_5 rfl ?_
  refine g_aload_n E dX2_numberOf_6 rfl ?_
  refine gx_Pyr_edge E (mem_9 _ (by omega) (by omega)) hin2 (by decide +kernel) dX2_numberOf_7 ?_
  refine g_iload_n E dX2_numberOf_10 rfl ?_
  refine g_isub E dX2_numberOf_11 ?_
  refine g_imul E dX2_numberOf_12 ?_
  refine g_iadd E dX2_numberOf_13 ?_
  refine g_iload_n E dX2_numberOf_14 rfl ?_
  refine g_iadd E dX2_numberOf_15 ?_
  exact g_iret E (⟨rfl, rfl⟩) dX2_numberOf_16
end
