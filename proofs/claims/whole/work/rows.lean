section
-- ===== PART A: goes FIRST, ahead of the names: the tables' words, and 'selects' of the private methods out of them =====
/-- a private method of a class that the tables say can be made, by its rows of tables_1 -/
def lw_okq (q : MethodName × Nat) : Prop := (q.1.cls ≠ "java/lang/invoke/MethodHandle" ∧ q.1.cls ≠ "java/lang/invoke/VarHandle") ∧ Cond.instantiable q.1.cls q.2 ∈ tables_1 ∧ Cond.privateMethod q.1 ∈ tables_1 ∧ Cond.instanceMethod q.1 ∈ tables_1
theorem lw_p0 : lw_okq (⟨"java/lang/Throwable", "fillInStackTrace", "(I)Ljava/lang/Throwable;"⟩, 6) := ⟨⟨by decide +kernel, by decide +kernel⟩, List.mem_of_getElem? (i := 146) (by decide +kernel), List.mem_of_getElem? (i := 144) (by decide +kernel), List.mem_of_getElem? (i := 145) (by decide +kernel)⟩
theorem lw_p1 : lw_okq (⟨"MarbleBench$Bath", "countCellsAway", "(II)V"⟩, 5) := ⟨⟨by decide +kernel, by decide +kernel⟩, List.mem_of_getElem? (i := 26) (by decide +kernel), List.mem_of_getElem? (i := 199) (by decide +kernel), List.mem_of_getElem? (i := 200) (by decide +kernel)⟩
theorem lw_p2 : lw_okq (⟨"MarbleBench", "printOf", "(I)LMarbleBench$Print;"⟩, 7) := ⟨⟨by decide +kernel, by decide +kernel⟩, List.mem_of_getElem? (i := 18) (by decide +kernel), List.mem_of_getElem? (i := 285) (by decide +kernel), List.mem_of_getElem? (i := 286) (by decide +kernel)⟩
theorem lw_p3 : lw_okq (⟨"MarbleBench", "bookOf", "(I)LMarbleBench$Book;"⟩, 7) := ⟨⟨by decide +kernel, by decide +kernel⟩, List.mem_of_getElem? (i := 18) (by decide +kernel), List.mem_of_getElem? (i := 452) (by decide +kernel), List.mem_of_getElem? (i := 453) (by decide +kernel)⟩
theorem lw_p4 : lw_okq (⟨"MarbleBench$Sewing", "go", "(II)V"⟩, 10) := ⟨⟨by decide +kernel, by decide +kernel⟩, List.mem_of_getElem? (i := 373) (by decide +kernel), List.mem_of_getElem? (i := 465) (by decide +kernel), List.mem_of_getElem? (i := 466) (by decide +kernel)⟩
theorem lw_p5 : lw_okq (⟨"MarbleBench$Sewing", "pass", "(II)V"⟩, 10) := ⟨⟨by decide +kernel, by decide +kernel⟩, List.mem_of_getElem? (i := 373) (by decide +kernel), List.mem_of_getElem? (i := 469) (by decide +kernel), List.mem_of_getElem? (i := 470) (by decide +kernel)⟩
theorem lw_p6 : lw_okq (⟨"MarbleBench$Sewing", "link", "(II)V"⟩, 10) := ⟨⟨by decide +kernel, by decide +kernel⟩, List.mem_of_getElem? (i := 373) (by decide +kernel), List.mem_of_getElem? (i := 473) (by decide +kernel), List.mem_of_getElem? (i := 474) (by decide +kernel)⟩
theorem lw_p7 : lw_okq (⟨"MarbleBench$Sewing", "mostStitches", "(I)I"⟩, 10) := ⟨⟨by decide +kernel, by decide +kernel⟩, List.mem_of_getElem? (i := 373) (by decide +kernel), List.mem_of_getElem? (i := 544) (by decide +kernel), List.mem_of_getElem? (i := 545) (by decide +kernel)⟩
theorem lw_p8 : lw_okq (⟨"MarbleBench$Book", "stiffness", "()I"⟩, 7) := ⟨⟨by decide +kernel, by decide +kernel⟩, List.mem_of_getElem? (i := 333) (by decide +kernel), List.mem_of_getElem? (i := 565) (by decide +kernel), List.mem_of_getElem? (i := 566) (by decide +kernel)⟩
theorem lw_p9 : lw_okq (⟨"MarbleBench", "skinOf", "(I)LMarbleBench$Skin;"⟩, 7) := ⟨⟨by decide +kernel, by decide +kernel⟩, List.mem_of_getElem? (i := 18) (by decide +kernel), List.mem_of_getElem? (i := 618) (by decide +kernel), List.mem_of_getElem? (i := 619) (by decide +kernel)⟩
theorem lw_p10 : lw_okq (⟨"MarbleBench$Speakers", "weightIn", "(I)I"⟩, 4) := ⟨⟨by decide +kernel, by decide +kernel⟩, List.mem_of_getElem? (i := 353) (by decide +kernel), List.mem_of_getElem? (i := 706) (by decide +kernel), List.mem_of_getElem? (i := 707) (by decide +kernel)⟩
theorem lw_p11 : lw_okq (⟨"MarbleBenchModel", "goes", "(ZZZ)Z"⟩, 28) := ⟨⟨by decide +kernel, by decide +kernel⟩, List.mem_of_getElem? (i := 730) (by decide +kernel), List.mem_of_getElem? (i := 836) (by decide +kernel), List.mem_of_getElem? (i := 837) (by decide +kernel)⟩
theorem lw_p12 : lw_okq (⟨"MarbleBenchModel", "turns", "(ZI)V"⟩, 28) := ⟨⟨by decide +kernel, by decide +kernel⟩, List.mem_of_getElem? (i := 730) (by decide +kernel), List.mem_of_getElem? (i := 847) (by decide +kernel), List.mem_of_getElem? (i := 848) (by decide +kernel)⟩
theorem lw_p13 : lw_okq (⟨"MarbleBenchModel", "isPrint", "(I)Z"⟩, 28) := ⟨⟨by decide +kernel, by decide +kernel⟩, List.mem_of_getElem? (i := 730) (by decide +kernel), List.mem_of_getElem? (i := 870) (by decide +kernel), List.mem_of_getElem? (i := 871) (by decide +kernel)⟩
theorem lw_p14 : lw_okq (⟨"MarbleBenchModel", "isBook", "(I)Z"⟩, 28) := ⟨⟨by decide +kernel, by decide +kernel⟩, List.mem_of_getElem? (i := 730) (by decide +kernel), List.mem_of_getElem? (i := 906) (by decide +kernel), List.mem_of_getElem? (i := 907) (by decide +kernel)⟩
theorem lw_p15 : lw_okq (⟨"MarbleBenchModel", "canMove", "(II)Z"⟩, 28) := ⟨⟨by decide +kernel, by decide +kernel⟩, List.mem_of_getElem? (i := 730) (by decide +kernel), List.mem_of_getElem? (i := 910) (by decide +kernel), List.mem_of_getElem? (i := 911) (by decide +kernel)⟩
def lw_privs_1 : List (MethodName × Nat) := [(⟨"java/lang/Throwable", "fillInStackTrace", "(I)Ljava/lang/Throwable;"⟩, 6), (⟨"MarbleBench$Bath", "countCellsAway", "(II)V"⟩, 5), (⟨"MarbleBench", "printOf", "(I)LMarbleBench$Print;"⟩, 7), (⟨"MarbleBench", "bookOf", "(I)LMarbleBench$Book;"⟩, 7), (⟨"MarbleBench$Sewing", "go", "(II)V"⟩, 10), (⟨"MarbleBench$Sewing", "pass", "(II)V"⟩, 10), (⟨"MarbleBench$Sewing", "link", "(II)V"⟩, 10), (⟨"MarbleBench$Sewing", "mostStitches", "(I)I"⟩, 10), (⟨"MarbleBench$Book", "stiffness", "()I"⟩, 7), (⟨"MarbleBench", "skinOf", "(I)LMarbleBench$Skin;"⟩, 7), (⟨"MarbleBench$Speakers", "weightIn", "(I)I"⟩, 4), (⟨"MarbleBenchModel", "goes", "(ZZZ)Z"⟩, 28), (⟨"MarbleBenchModel", "turns", "(ZI)V"⟩, 28), (⟨"MarbleBenchModel", "isPrint", "(I)Z"⟩, 28), (⟨"MarbleBenchModel", "isBook", "(I)Z"⟩, 28), (⟨"MarbleBenchModel", "canMove", "(II)Z"⟩, 28)]
theorem lw_r1 : ∀ q ∈ lw_privs_1, lw_okq q := List.forall_mem_cons.mpr ⟨lw_p0, List.forall_mem_cons.mpr ⟨lw_p1, List.forall_mem_cons.mpr ⟨lw_p2, List.forall_mem_cons.mpr ⟨lw_p3, List.forall_mem_cons.mpr ⟨lw_p4, List.forall_mem_cons.mpr ⟨lw_p5, List.forall_mem_cons.mpr ⟨lw_p6, List.forall_mem_cons.mpr ⟨lw_p7, List.forall_mem_cons.mpr ⟨lw_p8, List.forall_mem_cons.mpr ⟨lw_p9, List.forall_mem_cons.mpr ⟨lw_p10, List.forall_mem_cons.mpr ⟨lw_p11, List.forall_mem_cons.mpr ⟨lw_p12, List.forall_mem_cons.mpr ⟨lw_p13, List.forall_mem_cons.mpr ⟨lw_p14, List.forall_mem_cons.mpr ⟨lw_p15, fun _ h => absurd h List.not_mem_nil⟩⟩⟩⟩⟩⟩⟩⟩⟩⟩⟩⟩⟩⟩⟩⟩
theorem lw_p16 : lw_okq (⟨"MarbleBenchModel", "follows", "(I)V"⟩, 28) := ⟨⟨by decide +kernel, by decide +kernel⟩, List.mem_of_getElem? (i := 730) (by decide +kernel), List.mem_of_getElem? (i := 914) (by decide +kernel), List.mem_of_getElem? (i := 915) (by decide +kernel)⟩
theorem lw_p17 : lw_okq (⟨"MarbleBenchModel", "moves", "(I)V"⟩, 28) := ⟨⟨by decide +kernel, by decide +kernel⟩, List.mem_of_getElem? (i := 730) (by decide +kernel), List.mem_of_getElem? (i := 918) (by decide +kernel), List.mem_of_getElem? (i := 919) (by decide +kernel)⟩
theorem lw_p18 : lw_okq (⟨"MarbleBenchModel", "lays", "(II)V"⟩, 28) := ⟨⟨by decide +kernel, by decide +kernel⟩, List.mem_of_getElem? (i := 730) (by decide +kernel), List.mem_of_getElem? (i := 922) (by decide +kernel), List.mem_of_getElem? (i := 923) (by decide +kernel)⟩
theorem lw_p19 : lw_okq (⟨"MarbleBenchModel", "links", "(I)V"⟩, 28) := ⟨⟨by decide +kernel, by decide +kernel⟩, List.mem_of_getElem? (i := 730) (by decide +kernel), List.mem_of_getElem? (i := 926) (by decide +kernel), List.mem_of_getElem? (i := 927) (by decide +kernel)⟩
theorem lw_p20 : lw_okq (⟨"MarbleBenchModel", "can", "(II)Z"⟩, 28) := ⟨⟨by decide +kernel, by decide +kernel⟩, List.mem_of_getElem? (i := 730) (by decide +kernel), List.mem_of_getElem? (i := 930) (by decide +kernel), List.mem_of_getElem? (i := 931) (by decide +kernel)⟩
theorem lw_p21 : lw_okq (⟨"MarbleBenchModel", "isSewn", "(I)Z"⟩, 28) := ⟨⟨by decide +kernel, by decide +kernel⟩, List.mem_of_getElem? (i := 730) (by decide +kernel), List.mem_of_getElem? (i := 942) (by decide +kernel), List.mem_of_getElem? (i := 943) (by decide +kernel)⟩
theorem lw_p22 : lw_okq (⟨"MarbleBenchModel", "holds", "(II)Z"⟩, 28) := ⟨⟨by decide +kernel, by decide +kernel⟩, List.mem_of_getElem? (i := 730) (by decide +kernel), List.mem_of_getElem? (i := 946) (by decide +kernel), List.mem_of_getElem? (i := 947) (by decide +kernel)⟩
theorem lw_p23 : lw_okq (⟨"MarbleBenchModel", "isGathering", "(II)Z"⟩, 28) := ⟨⟨by decide +kernel, by decide +kernel⟩, List.mem_of_getElem? (i := 730) (by decide +kernel), List.mem_of_getElem? (i := 954) (by decide +kernel), List.mem_of_getElem? (i := 955) (by decide +kernel)⟩
theorem lw_p24 : lw_okq (⟨"MarbleBenchModel", "swells", "(I)I"⟩, 28) := ⟨⟨by decide +kernel, by decide +kernel⟩, List.mem_of_getElem? (i := 730) (by decide +kernel), List.mem_of_getElem? (i := 970) (by decide +kernel), List.mem_of_getElem? (i := 971) (by decide +kernel)⟩
theorem lw_p25 : lw_okq (⟨"MarbleBenchModel", "all", "(I)I"⟩, 28) := ⟨⟨by decide +kernel, by decide +kernel⟩, List.mem_of_getElem? (i := 730) (by decide +kernel), List.mem_of_getElem? (i := 978) (by decide +kernel), List.mem_of_getElem? (i := 979) (by decide +kernel)⟩
theorem lw_p26 : lw_okq (⟨"MarbleBenchModel", "bends", "(II)I"⟩, 28) := ⟨⟨by decide +kernel, by decide +kernel⟩, List.mem_of_getElem? (i := 730) (by decide +kernel), List.mem_of_getElem? (i := 982) (by decide +kernel), List.mem_of_getElem? (i := 983) (by decide +kernel)⟩
theorem lw_p27 : lw_okq (⟨"MarbleBenchModel", "isSkin", "(I)Z"⟩, 28) := ⟨⟨by decide +kernel, by decide +kernel⟩, List.mem_of_getElem? (i := 730) (by decide +kernel), List.mem_of_getElem? (i := 1003) (by decide +kernel), List.mem_of_getElem? (i := 1004) (by decide +kernel)⟩
theorem lw_p28 : lw_okq (⟨"MarbleBenchModel", "least", "(IIIII)I"⟩, 28) := ⟨⟨by decide +kernel, by decide +kernel⟩, List.mem_of_getElem? (i := 730) (by decide +kernel), List.mem_of_getElem? (i := 1007) (by decide +kernel), List.mem_of_getElem? (i := 1008) (by decide +kernel)⟩
theorem lw_p29 : lw_okq (⟨"MarbleBenchModel", "best", "(I)I"⟩, 28) := ⟨⟨by decide +kernel, by decide +kernel⟩, List.mem_of_getElem? (i := 730) (by decide +kernel), List.mem_of_getElem? (i := 1035) (by decide +kernel), List.mem_of_getElem? (i := 1036) (by decide +kernel)⟩
theorem lw_p30 : lw_okq (⟨"MarbleBenchModel", "sumOf", "(II)I"⟩, 28) := ⟨⟨by decide +kernel, by decide +kernel⟩, List.mem_of_getElem? (i := 730) (by decide +kernel), List.mem_of_getElem? (i := 1039) (by decide +kernel), List.mem_of_getElem? (i := 1040) (by decide +kernel)⟩
def lw_privs_2 : List (MethodName × Nat) := [(⟨"MarbleBenchModel", "follows", "(I)V"⟩, 28), (⟨"MarbleBenchModel", "moves", "(I)V"⟩, 28), (⟨"MarbleBenchModel", "lays", "(II)V"⟩, 28), (⟨"MarbleBenchModel", "links", "(I)V"⟩, 28), (⟨"MarbleBenchModel", "can", "(II)Z"⟩, 28), (⟨"MarbleBenchModel", "isSewn", "(I)Z"⟩, 28), (⟨"MarbleBenchModel", "holds", "(II)Z"⟩, 28), (⟨"MarbleBenchModel", "isGathering", "(II)Z"⟩, 28), (⟨"MarbleBenchModel", "swells", "(I)I"⟩, 28), (⟨"MarbleBenchModel", "all", "(I)I"⟩, 28), (⟨"MarbleBenchModel", "bends", "(II)I"⟩, 28), (⟨"MarbleBenchModel", "isSkin", "(I)Z"⟩, 28), (⟨"MarbleBenchModel", "least", "(IIIII)I"⟩, 28), (⟨"MarbleBenchModel", "best", "(I)I"⟩, 28), (⟨"MarbleBenchModel", "sumOf", "(II)I"⟩, 28)]
theorem lw_r2 : ∀ q ∈ lw_privs_2, lw_okq q := List.forall_mem_cons.mpr ⟨lw_p16, List.forall_mem_cons.mpr ⟨lw_p17, List.forall_mem_cons.mpr ⟨lw_p18, List.forall_mem_cons.mpr ⟨lw_p19, List.forall_mem_cons.mpr ⟨lw_p20, List.forall_mem_cons.mpr ⟨lw_p21, List.forall_mem_cons.mpr ⟨lw_p22, List.forall_mem_cons.mpr ⟨lw_p23, List.forall_mem_cons.mpr ⟨lw_p24, List.forall_mem_cons.mpr ⟨lw_p25, List.forall_mem_cons.mpr ⟨lw_p26, List.forall_mem_cons.mpr ⟨lw_p27, List.forall_mem_cons.mpr ⟨lw_p28, List.forall_mem_cons.mpr ⟨lw_p29, List.forall_mem_cons.mpr ⟨lw_p30, fun _ h => absurd h List.not_mem_nil⟩⟩⟩⟩⟩⟩⟩⟩⟩⟩⟩⟩⟩⟩⟩
def lw_privs : List (MethodName × Nat) := lw_privs_1 ++ (lw_privs_2)
def lw_tbl : List Cond := k2_sels lw_privs ++ tables_1
theorem lw_privs_ok : ∀ q ∈ lw_privs, lw_okq q := by
  show ∀ q ∈ lw_privs_1 ++ (lw_privs_2), lw_okq q
  exact List.forall_mem_append.mpr ⟨lw_r1, lw_r2⟩
end
section
/-! ===== BEGIN words of one list among another's, by their places ===== -/
theorem goodIn_r {big : List Cond} (ws : List Cond) (ps : List Nat) (hp : ws = ps.filterMap (fun i => big[i]?)) (h : ws.all goodWord = true) : GoodIn big ws := by
  intro w hw
  have h1 := List.all_eq_true.mp h w hw
  rw [hp] at hw
  obtain ⟨i, -, hi⟩ := List.mem_filterMap.mp hw
  have hm : w ∈ big := by first | exact List.mem_of_getElem? hi | exact List.getElem?_mem hi
  exact ⟨hm, good_of_word h1⟩
theorem goodIn_app {big a b : List Cond} (ha : GoodIn big a) (hb : GoodIn big b) : GoodIn big (a ++ b) := fun w h => (List.mem_append.mp h).elim (ha w) (hb w)
theorem goodIn_ca {big a b : List Cond} {c : Cond} (ha : GoodIn big (c :: a)) (hb : GoodIn big b) : GoodIn big (c :: (a ++ b)) := fun w h => (List.mem_cons.mp h).elim (fun e => ha w (List.mem_cons.mpr (Or.inl e))) (fun h => (List.mem_append.mp h).elim (fun h => ha w (List.mem_cons.mpr (Or.inr h))) (hb w))
theorem goodIn_sub {big ws : List Cond} (hm : ∀ w ∈ ws, w ∈ big) (h : ws.all goodWord = true) : GoodIn big ws := fun w hw => ⟨hm w hw, good_of_word (List.all_eq_true.mp h w hw)⟩
/-! ===== END ===== -/

/-! ===== BEGIN exceptions that leave a method, and their catching by the caller (launches without stack traces) ===== -/
section VXA
/-! The laws vx_back, vx_callV, vx_callS, vx_callSW, vx_throw0, vx_throwS follow proofs of the library, with one case more: JvmDerived/Free/Laws.lean (Back.of_free), Shelf42/LK1.lean (callV, callS), Shelf/KitTraced.lean (throwNew0V, throwNewS). -/
/-- where a method has thrown q: the class by its name, the cell, what was written, the world -/
def vx_T (XC : String → State → State → Prop) (st : State) (q : Addr) (t : State) (mc ms : Nat) (free : Addr → Prop) : Prop :=
  ∃ (E : String) (ce : Cell) (L : List Loc), XC E st t ∧ t.heap[q]? = some ce ∧ ce.vm = .none ∧ st.vm.findClass E = some ce.cls ∧ st.WarmedH t.vm ∧ st.sameButNew ({ t with vm := st.vm } : State) L mc ms ∧ ∀ z ∈ L, free z.base
def vx_Q (Qc : Array Value → State → Outcome → State → Prop) (XC : String → State → State → Prop) (mc ms : Nat) (free : Addr → Prop) : Array Value → State → Outcome → State → Prop := fun a st o t =>
  (Qc a st o t ∧ ∃ L, FrameEnd st o t L mc ms ∧ ∀ q ∈ L, free q.base) ∨ ∃ q, o = .threw q ∧ vx_T XC st q t mc ms free
/-- a callee that returns or throws -/
def vx_Met (l : Launch) (y : MethodName) (ws : List Cond) (rm : Room) (Pc : Array Value → State → Prop) (Qc : Array Value → State → Outcome → State → Prop) (XC : String → State → State → Prop) (mc ms : Nat) (free : Addr → Prop) : Prop :=
  MetFree l y (headSpec ws rm) Pc (fun _ _ _ _ _ => True) (vx_Q Qc XC mc ms free)
def vx_Post (XC : String → State → State → Prop) (mc ms : Nat) (free : Addr → Prop) : Pt → Array Value → Addr → Pt → Prop := fun A a q B =>
  ∃ (g : JFrame) (mk : MethodId) (t : State) (L : List Loc) (E : String) (ce : Cell), B.U.heap = t.heap ∧ B.U.vm = t.vm ∧ XC E (A.U.calling g mk a) t ∧ t.heap[q]? = some ce ∧ ce.vm = .none ∧ A.U.vm.findClass E = some ce.cls ∧ B.locs = A.locs ++ L ∧ (∀ z ∈ L, free z.base) ∧ B.cells = A.cells + mc ∧ B.slots = A.slots + ms
def vx_Back (l : Launch) (R : Room) (p : Program) (e : Env) (below : List Frame) (s : State) (sargs : Array Value) (y : MethodName) (len W9 : Nat)
    (Pre : Pt → Array Value → Prop) (Post : Pt → Array Value → Option Value → Pt → Prop) (PostX : Pt → Array Value → Addr → Pt → Prop) : Prop :=
  ∀ (m : MethodId) (meth : Method) (c : Code) (A : Pt) (g : JFrame) (ig : Instr) (mk : MethodId) (a : Array Value),
    Stand p l e R s m sargs below meth c A.U A.locs A.cells A.slots → g.method = m → g.locals.size = c.maxLocals → decode c.code g.pc = .ok (ig, len) →
    2 * g.monitorRoom + (g.stack.map fun v => v.category).sum ≤ W9 → A.U.methodNamed? y = some mk → Pre A a →
    (∃ (v : Option Value) (B : Pt), Stand p l e R s m sargs below meth c B.U B.locs B.cells B.slots ∧ Post A a v B ∧
      Steps p.tables e below (doInvoke e (A.U.setTop g) [] mk a).1 (B.U.setTop { g with pc := g.pc + len, stack := v.toList ++ g.stack })) ∨
    (∃ (q : Addr) (B : Pt), Stand p l e R s m sargs below meth c B.U B.locs B.cells B.slots ∧ PostX A a q B ∧
      Steps p.tables e below (doInvoke e (A.U.setTop g) [] mk a).1 ((B.U.setTop g).pushFrame (.throwing q)))
section Payer
variable {l : Launch} {R : Room} {p : Program} {e : Env} {below : List Frame} {s : State} {sargs : Array Value} {y : MethodName} {len W9 : Nat}
theorem vx_back {ws : List Cond} {rm : Room} {Pc : Array Value → State → Prop} {Qc : Array Value → State → Outcome → State → Prop} {XC : String → State → State → Prop} {mc ms : Nat} {free : Addr → Prop} {bytes : ByteArray} {maxL : Nat} {ret : Option FieldType}
    (hM : vx_Met l y ws rm Pc Qc XC mc ms free) (hblind : FrameBlind Pc) (hrc : rm.cells = mc) (hrs : rm.slots = ms)
    (hframes : rm.frames + 1 ≤ R.frames) (hlocals : W9 + (maxL + 11) + rm.locals ≤ R.locals)
    (hws : ∀ w ∈ ws, ∀ a' U, s.WarmedH U.vm → w.before a' U = true) (hcode : Cond.code y bytes maxL ret ∈ ws) (hinit : ∀ a' U, s.WarmedH U.vm → (Cond.initialized y.cls).before a' U = true) :
    vx_Back l R p e below s sargs y len W9 (PreOf R mc ms Pc) (PostOf Qc mc ms free) (vx_Post XC mc ms free) := by
  intro m meth c A g ig mk a X hg hsize hdg hW hn hp
  have h1 : (headSpec ws rm).pre.before a A.U = true := atoms_intro fun w hw => hws w hw _ _ X.warmed
  have h2 : (Cond.code y bytes maxL ret).before a A.U = true := hws _ hcode _ _ X.warmed
  have h3 : (Cond.initialized y.cls).before a A.U = true := hinit _ _ X.warmed
  have h4 : A.cells + (headSpec ws rm).room.cells ≤ R.cells := by rw [show (headSpec ws rm).room.cells = mc from hrc]; exact hp.1
  have h5 : A.slots + (headSpec ws rm).room.slots ≤ R.slots := by rw [show (headSpec ws rm).room.slots = ms from hrs]; exact hp.2.1
  have hPc : Pc a (A.U.calling g mk a) := hblind _ _ _ _ hp.2.2
  obtain ⟨U, Ls, c0, s0⟩ := A
  dsimp only [Pt.U, Pt.locs, Pt.cells, Pt.slots] at h1 h2 h3 h4 h5 X hn hPc ⊢
  obtain ⟨methY, cY, hmY, hcY, -, hlY, -, -, -, -⟩ := Cond.code_spec hn h2
  obtain ⟨kY, hkY, -⟩ := className_of_methodNamed hn
  have hinitY : kY.init = .initialized := Cond.initialized_spec (findClass_of_methodNamed hn) hkY h3
  have h : At U g.method c below := by rw [hg]; exact X.here
  have hlocals9 : W9 + (maxL + 11) + (headSpec ws rm).room.locals ≤ R.locals := hlocals
  have happ : (headSpec ws rm).appliesLoose y e.platform (U.calling g mk a) = true :=
    Spec.appliesLoose_calling (g := g) h hdg hn hkY hinitY
      (X.room_calling (g := g) (R' := (headSpec ws rm).room) hsize hmY hcY hframes (by rw [hlY]; omega) h4 h5) h1
  obtain ⟨mid, hmid⟩ := h.above
  have hfr : (U.setTop g).frames = (.java g :: mid) ++ below := by rw [State.frames_setTop' g h.top, hmid]; rfl
  obtain ⟨o, s₂, hsteps, -, hend, hq⟩ := Steps.callFree hM p X.admits X.cas X.clock (acts := []) hfr happ hPc trivial
  have hq' : vx_Q Qc XC mc ms free a (U.calling g mk a) o s₂ := hq
  rw [State.frames_setTop' g h.top] at hend
  obtain ⟨g₀, hg0⟩ := Option.isSome_iff_exists.mp h.top
  obtain ⟨r, hr⟩ := State.topJava?_eq_some.mp hg0
  have hr' : (({ U with heap := s₂.heap, slotsUsed := s₂.slotsUsed } : State).setVm s₂.vm).frames = .java g₀ :: r := hr
  rcases hq' with ⟨hqc, L, hfe, hL⟩ | ⟨q, rfl, E, ce, L, hx, hce, hcv, hcl, hW₂, hsm, hL⟩
  · obtain ⟨⟨v, rfl⟩, hW₂, e2, q2, q3, q4, q5, q6⟩ := id hfe
    have e3 : s₂ = ({ (U.calling g mk a).setFrames s₂.frames with heap := s₂.heap, slotsUsed := s₂.slotsUsed } : State).setVm s₂.vm := by
      have : s₂ = ({ s₂ with vm := (U.calling g mk a).vm } : State).setVm s₂.vm := rfl
      rw [e2] at this
      exact this
    obtain ⟨c₂, i₂, len₂, hc₂, hd₂, hf₂⟩ := hend
    have hW' : U.WarmedH s₂.vm := hW₂
    have hcc : c₂ = c := by
      have h1 : s₂.code? g.method = U.code? g.method := by
        rw [State.code?_eq, State.code?_eq, hW'.alike.method?]
      exact Option.some.inj (hc₂.symm.trans (h1.trans h.code))
    subst hcc
    have hlen : len₂ = len := by rw [hdg] at hd₂; cases hd₂; rfl
    subst hlen
    have hs₂ : s₂ = (({ U with heap := s₂.heap, slotsUsed := s₂.slotsUsed } : State).setVm s₂.vm).setTop { g with pc := g.pc + len₂, stack := v.toList ++ g.stack } := by
      refine e3.trans ?_
      rw [hf₂, State.calling_eq h.top, State.setFrames_setFrames, State.setTop_of_frames _ hr', hr]
      rfl
    have hsame : U.sameButNew ({ U with heap := s₂.heap, slotsUsed := s₂.slotsUsed } : State) L mc ms := by
      refine ⟨?_, q2, q3, q4, q5, q6⟩
      obtain ⟨t, ht, -⟩ := State.frames_cons hr
      show ({ U with heap := s₂.heap, slotsUsed := s₂.slotsUsed } : State) = { U.setFrames U.frames with heap := s₂.heap, slotsUsed := s₂.slotsUsed }
      rw [State.setFrames_self ht]
    subst hg
    refine Or.inl ⟨v, ⟨(({ U with heap := s₂.heap, slotsUsed := s₂.slotsUsed } : State).setVm s₂.vm), Ls ++ L, c0 + mc, s0 + ms⟩,
      ⟨X.admits, X.cas, X.clock, X.frames, X.room, X.hears, X.method, X.code, (X.here.setHeapUsed s₂.heap s₂.slotsUsed).setVm hW'.alike, X.tail, State.WarmedH.trans X.warmed hW', X.limits, X.bytes, X.same.trans (hsame.setVm s.vm)⟩,
      ⟨g, mk, s₂, L, rfl, rfl, hqc, rfl, hL, rfl, rfl⟩, ?_⟩
    show Steps p.tables e below _ ((({ U with heap := s₂.heap, slotsUsed := s₂.slotsUsed } : State).setVm s₂.vm).setTop { g with pc := g.pc + len₂, stack := v.toList ++ g.stack })
    rw [← hs₂]
    exact hsteps
  · obtain ⟨e2, q2, q3, q4, q5, q6⟩ := id hsm
    have e3 : s₂ = ({ (U.calling g mk a).setFrames s₂.frames with heap := s₂.heap, slotsUsed := s₂.slotsUsed } : State).setVm s₂.vm := by
      have : s₂ = ({ s₂ with vm := (U.calling g mk a).vm } : State).setVm s₂.vm := rfl
      rw [e2] at this
      exact this
    have hf₂ : s₂.frames = .throwing q :: .java g :: U.frames.tail := hend
    have hW' : U.WarmedH s₂.vm := hW₂
    have hs₂ : s₂ = ((({ U with heap := s₂.heap, slotsUsed := s₂.slotsUsed } : State).setVm s₂.vm).setTop g).pushFrame (.throwing q) := by
      refine e3.trans ?_
      rw [hf₂, State.calling_eq h.top, State.setFrames_setFrames, State.pushFrame, State.frames_setTop _ hr', State.setTop_of_frames _ hr', State.setFrames_setFrames, hr]
      rfl
    have hsame : U.sameButNew ({ U with heap := s₂.heap, slotsUsed := s₂.slotsUsed } : State) L mc ms := by
      refine ⟨?_, q2, q3, q4, q5, q6⟩
      obtain ⟨t, ht, -⟩ := State.frames_cons hr
      show ({ U with heap := s₂.heap, slotsUsed := s₂.slotsUsed } : State) = { U.setFrames U.frames with heap := s₂.heap, slotsUsed := s₂.slotsUsed }
      rw [State.setFrames_self ht]
    subst hg
    refine Or.inr ⟨q, ⟨(({ U with heap := s₂.heap, slotsUsed := s₂.slotsUsed } : State).setVm s₂.vm), Ls ++ L, c0 + mc, s0 + ms⟩,
      ⟨X.admits, X.cas, X.clock, X.frames, X.room, X.hears, X.method, X.code, (X.here.setHeapUsed s₂.heap s₂.slotsUsed).setVm hW'.alike, X.tail, State.WarmedH.trans X.warmed hW', X.limits, X.bytes, X.same.trans (hsame.setVm s.vm)⟩,
      ⟨g, mk, s₂, L, E, ce, rfl, rfl, hx, hce, hcv, hcl, rfl, hL, rfl, rfl⟩, ?_⟩
    show Steps p.tables e below _ (((({ U with heap := s₂.heap, slotsUsed := s₂.slotsUsed } : State).setVm s₂.vm).setTop g).pushFrame (.throwing q))
    rw [← hs₂]
    exact hsteps
end Payer
section Calls
variable {p : Program} {l : Launch} {e : Env} {R : Room} {s : State} {m : MethodId} {args : Array Value} {below : List Frame} {meth : Method} {c : Code} {T : State} {locs : List Loc} {cells slots : Nat}
theorem vx_callV (X : Stand p l e R s m args below meth c T locs cells slots) (hexec : p.tables.exec = Jvm.exec) {own C : String} {index : Nat} {y : MethodName} {bytes : ByteArray} {maxL : Nat} {ret : Option FieldType}
    (hown : s.vm.findClass own = some m.cls) (hlink : (Cond.methodLink own index y).before args s = true) (hinst : (Cond.instanceMethod y).before args s = true) (hsel : (Cond.selects C y y).before args s = true)
    (hcode : (Cond.code y bytes maxL ret).before args s = true) (hy : y.cls ≠ "java/lang/invoke/MethodHandle" ∧ y.cls ≠ "java/lang/invoke/VarHandle")
    {W9 : Nat} {Pre : Pt → Array Value → Prop} {Post : Pt → Array Value → Option Value → Pt → Prop} {PostX : Pt → Array Value → Addr → Pt → Prop} (hK : vx_Back l R p e below s args y 3 W9 Pre Post PostX)
    {b : Addr} {cellB : Cell} (hcell : T.heap[b]? = some cellB) (hobj : cellB.vm.isStatics = false) (hcls : s.vm.findClass C = some cellB.cls)
    {g : JFrame} (hg : g.method = m) (hsize : g.locals.size = c.maxLocals) {argsL rest : List Value} (hlen : ∀ sig, parseMethodDescriptor y.desc = some sig → argsL.length = sig.parameters.length)
    (hstack : g.stack = argsL.reverse ++ .ref b :: rest) (hW : 2 * g.monitorRoom + (rest.map fun v => v.category).sum ≤ W9) (hdg : decode c.code g.pc = .ok (.invokevirtual index, 3))
    (hpre : ∀ vm₁, s.WarmedH vm₁ → Pre ⟨T.setVm vm₁, locs, cells, slots⟩ (Value.ref b :: argsL).toArray) :
    (∃ (v : Option Value) (vm₁ : Vm) (B : Pt), s.WarmedH vm₁ ∧ Stand p l e R s m args below meth c B.U B.locs B.cells B.slots ∧ Post ⟨T.setVm vm₁, locs, cells, slots⟩ (Value.ref b :: argsL).toArray v B ∧
      ∀ target, Steps p.tables e below (B.U.setTop { g with pc := g.pc + 3, stack := v.toList ++ rest }) target → Steps p.tables e below (T.setTop g) target) ∨
    (∃ (q : Addr) (vm₁ : Vm) (B : Pt), s.WarmedH vm₁ ∧ Stand p l e R s m args below meth c B.U B.locs B.cells B.slots ∧ PostX ⟨T.setVm vm₁, locs, cells, slots⟩ (Value.ref b :: argsL).toArray q B ∧
      Steps p.tables e below (T.setTop g) ((B.U.setTop { g with stack := rest }).pushFrame (.throwing q))) := by
  obtain ⟨mk, methM, hnamed, hmethM, hstM, habM⟩ := Cond.instanceMethod_spec hinst
  obtain ⟨methM', cM, hmethM', -, -, -, -, -, -, hsigM⟩ := Cond.code_spec hnamed hcode
  cases hmethM.symm.trans hmethM'
  obtain ⟨c2, r2, m2, q1, q2, q3, q4, kP, hkP, hkPi⟩ := Cond.selects_spec hsel
  cases hcls.symm.trans q1
  cases (State.methodFound?_of_named hnamed hy).symm.trans q2
  cases hnamed.symm.trans q3
  have hselP : selectMethod e.platform s.vm cellB.cls mk = .method mk := by rw [Launch.admits_selectMethod X.admits]; exact q4
  obtain ⟨vm₁, X₁, hstep₁⟩ := X.invokevirtual hexec hown hlink hnamed hmethM hstM hkP hkPi hy (a := b) (cell := cellB) hcell
    (fun z h => by rw [h] at hobj; cases hobj) hselP hmethM habM hkP hkPi (g := g) hg (argsL := argsL) (rest := rest) (hlen _ hsigM) hstack hdg
  rcases hK m meth c ⟨T.setVm vm₁, locs, cells, slots⟩ { g with stack := rest } (.invokevirtual index) mk (Value.ref b :: argsL).toArray X₁ hg hsize hdg hW (X₁.named hnamed) (hpre vm₁ X₁.warmed) with ⟨v, B, X', hpost, hsteps⟩ | ⟨q, B, X', hpost, hsteps⟩
  · exact Or.inl ⟨v, vm₁, B, X₁.warmed, X', hpost, fun target h => hstep₁ _ fun acts => by rw [doInvoke_state]; exact hsteps.trans h⟩
  · exact Or.inr ⟨q, vm₁, B, X₁.warmed, X', hpost, hstep₁ _ fun acts => by rw [doInvoke_state]; exact hsteps⟩
theorem vx_callS (X : Stand p l e R s m args below meth c T locs cells slots) (hexec : p.tables.exec = Jvm.exec) {own : String} {index : Nat} {y : MethodName} {bytes : ByteArray} {maxL : Nat} {ret : Option FieldType}
    (hown : s.vm.findClass own = some m.cls) (hlink : (Cond.methodLink own index y).before args s = true) (hstat : (Cond.static y).before args s = true) (hinit : (Cond.initialized y.cls).before args s = true)
    (hcode : (Cond.code y bytes maxL ret).before args s = true) (hy : y.cls ≠ "java/lang/invoke/MethodHandle" ∧ y.cls ≠ "java/lang/invoke/VarHandle")
    {W9 : Nat} {Pre : Pt → Array Value → Prop} {Post : Pt → Array Value → Option Value → Pt → Prop} {PostX : Pt → Array Value → Addr → Pt → Prop} (hK : vx_Back l R p e below s args y 3 W9 Pre Post PostX)
    {g : JFrame} (hg : g.method = m) (hsize : g.locals.size = c.maxLocals) {argsL rest : List Value} (hlen : ∀ sig, parseMethodDescriptor y.desc = some sig → argsL.length = sig.parameters.length)
    (hstack : g.stack = argsL.reverse ++ rest) (hW : 2 * g.monitorRoom + (rest.map fun v => v.category).sum ≤ W9) (hdg : decode c.code g.pc = .ok (.invokestatic index, 3))
    (hpre : ∀ vm₁, s.WarmedH vm₁ → Pre ⟨T.setVm vm₁, locs, cells, slots⟩ argsL.toArray) :
    (∃ (v : Option Value) (vm₁ : Vm) (B : Pt), s.WarmedH vm₁ ∧ Stand p l e R s m args below meth c B.U B.locs B.cells B.slots ∧ Post ⟨T.setVm vm₁, locs, cells, slots⟩ argsL.toArray v B ∧
      ∀ target, Steps p.tables e below (B.U.setTop { g with pc := g.pc + 3, stack := v.toList ++ rest }) target → Steps p.tables e below (T.setTop g) target) ∨
    (∃ (q : Addr) (vm₁ : Vm) (B : Pt), s.WarmedH vm₁ ∧ Stand p l e R s m args below meth c B.U B.locs B.cells B.slots ∧ PostX ⟨T.setVm vm₁, locs, cells, slots⟩ argsL.toArray q B ∧
      Steps p.tables e below (T.setTop g) ((B.U.setTop { g with stack := rest }).pushFrame (.throwing q))) := by
  obtain ⟨mk, hnamed⟩ := Cond.code_named hcode
  obtain ⟨methM, cM, hmethM, -, -, -, -, -, -, hsigM⟩ := Cond.code_spec hnamed hcode
  have hstatic : methM.isStatic = true := Cond.static_spec hnamed hmethM hstat
  obtain ⟨kP, hkP, -⟩ := className_of_methodNamed hnamed
  have hinitP : kP.init = .initialized := Cond.initialized_spec (findClass_of_methodNamed hnamed) hkP hinit
  obtain ⟨vm₁, X₁, hstep₁⟩ := X.invokestatic hexec hown hlink hnamed hmethM hstatic hkP hinitP hy (g := g) hg (argsL := argsL) (rest := rest) (hlen _ hsigM) hstack hdg
  rcases hK m meth c ⟨T.setVm vm₁, locs, cells, slots⟩ { g with stack := rest } (.invokestatic index) mk argsL.toArray X₁ hg hsize hdg hW (X₁.named hnamed) (hpre vm₁ X₁.warmed) with ⟨v, B, X', hpost, hsteps⟩ | ⟨q, B, X', hpost, hsteps⟩
  · exact Or.inl ⟨v, vm₁, B, X₁.warmed, X', hpost, fun target h => hstep₁ _ fun acts => by rw [doInvoke_state]; exact hsteps.trans h⟩
  · exact Or.inr ⟨q, vm₁, B, X₁.warmed, X', hpost, hstep₁ _ fun acts => by rw [doInvoke_state]; exact hsteps⟩
end Calls
theorem vx_cls {s : State} {T : State} {vm₁ : Vm} {E : String} {k : ClassId} (hW : s.WarmedH vm₁) (h : (T.setVm vm₁).vm.findClass E = some k) : s.vm.findClass E = some k := by
  have h1 : vm₁.findClass E = some k := h
  rw [hW.alike.findClass] at h1
  exact h1
/-- the method's frame g, with q thrown over it -/
def vx_W (p : Program) (l : Launch) (e : Env) (R : Room) (s : State) (m : MethodId) (args : Array Value) (below : List Frame) (meth : Method) (c : Code) (H : Heap) (locs : List Loc) (cells slots : Nat) (Q : State → Prop) (g : JFrame) (q : Addr) : Prop :=
  ∀ T : State, T.heap = H → Stand p l e R s m args below meth c T locs cells slots → ∃ t, Steps p.tables e below ((T.setTop g).pushFrame (.throwing q)) t ∧ Q t
def vx_Run (p : Program) (l : Launch) (e : Env) (R : Room) (s : State) (m : MethodId) (args : Array Value) (below : List Frame) (meth : Method) (c : Code) (H : Heap) (locs : List Loc) (cells slots mc ms : Nat) (g : JFrame) (rest : List Value) (Qa : State → Outcome → State → Prop) (XC : String → State → State → Prop) (free : Addr → Prop) : Prop :=
  ∀ T : State, T.heap = H → Stand p l e R s m args below meth c T locs cells slots →
    (∃ (v : Option Value) (st₀ t T' : State) (L : List Loc), st₀.heap = H ∧ Stand p l e R s m args below meth c T' (locs ++ L) (cells + mc) (slots + ms) ∧ (∀ q ∈ L, free q.base) ∧ T'.heap = t.heap ∧ T'.vm = t.vm ∧ Qa st₀ (.returned v) t ∧
      Goes p e below T g T' { g with pc := g.pc + 3, stack := v.toList ++ rest }) ∨
    (∃ (q : Addr) (st₀ t T' : State) (L : List Loc) (E : String) (ce : Cell), st₀.heap = H ∧ Stand p l e R s m args below meth c T' (locs ++ L) (cells + mc) (slots + ms) ∧ (∀ z ∈ L, free z.base) ∧ T'.heap = t.heap ∧ T'.vm = t.vm ∧ XC E st₀ t ∧ t.heap[q]? = some ce ∧ ce.vm = .none ∧ s.vm.findClass E = some ce.cls ∧
      Steps p.tables e below (T.setTop g) ((T'.setTop { g with stack := rest }).pushFrame (.throwing q)))
def vx_X {S : Type} (px : S → Prop) (B : String → S → State → Prop) (A : Nat → Prop) : String → State → State → Prop := fun E st t => ∃ u : S, px u ∧ B E u t ∧ va_F A st t
section Runs
variable {p : Program} {l : Launch} {e : Env} {R : Room} {s : State} {m : MethodId} {args : Array Value} {below : List Frame} {meth : Method} {c : Code} {H : Heap} {locs : List Loc} {cells slots : Nat}
variable {y : MethodName} {bytes cc : ByteArray} {maxL nL mc ms n index : Nat} {ret : Option FieldType} {ws : List Cond} {rm : Room} {Pc : Array Value → State → Prop} {Qc : Array Value → State → Outcome → State → Prop} {XC : String → State → State → Prop} {free : Addr → Prop} {Ts : List Cond} {own C : String} {b : Addr} {As rest : List Value} {g : JFrame}
theorem vx_callBack (cb : CallB R s args own index y bytes maxL ret ws rm mc ms n) (hM : vx_Met l y ws rm Pc Qc XC mc ms free) (hbl : FrameBlind Pc) : vx_Back l R p e below s args y 3 8 (PreOf R mc ms Pc) (PostOf Qc mc ms free) (vx_Post XC mc ms free) := by
  obtain ⟨hrc, hrs, hfr, hlo, hws, hcw, -, hini, -⟩ := cb
  exact vx_back (bytes := bytes) (maxL := maxL) (ret := ret) hM hbl hrc hrs hfr hlo hws hcw (fun a' U hW => word_at hW (Or.inl (by first | rfl | simp [Cond.onTables, Cond.keeps, Cond.steady])) hini)
theorem vx_runV (S : CallFix p m c cc nL s args Ts own) (hM : vx_Met l y ws rm Pc Qc XC mc ms free) (cw : CallW R s args own C index y bytes maxL ret ws rm mc ms n) (hp : PreV s H C b Pc As)
    (hg : g.method = m) (hn : As.length = n) (hsize : g.locals.size = nL) (hstack : g.stack = As.reverse ++ .ref b :: rest) (hW : 2 * g.monitorRoom + (rest.map fun v => v.category).sum ≤ 8) (hdg : decode cc g.pc = .ok (.invokevirtual index, 3)) (hf : cells + mc ≤ R.cells ∧ slots + ms ≤ R.slots) :
    vx_Run p l e R s m args below meth c H locs cells slots mc ms g rest (Qc (Value.ref b :: As).toArray) XC free := by
  have hK : vx_Back l R p e below s args y 3 8 (PreOf R mc ms Pc) (PostOf Qc mc ms free) (vx_Post XC mc ms free) := vx_callBack cw.1 hM hp.1
  obtain ⟨⟨-, -, -, -, -, -, hcode, -, hy, hlen, hl⟩, hin, hse⟩ := cw
  obtain ⟨hx, hb, hml, ho, -⟩ := S
  obtain ⟨-, ⟨cellB, hcB, hoB, hclB⟩, hPc⟩ := hp
  intro T hT X
  rcases vx_callV X hx (C := C) (bytes := bytes) (maxL := maxL) (ret := ret) ho hl hin hse hcode hy hK (by rw [hT]; exact hcB) hoB hclB hg (hsize.trans hml.symm) (argsL := As) (rest := rest) (fun sig h => hn.trans (hlen sig h)) hstack hW (by rw [hb]; exact hdg)
    (fun vm₁ hW₁ => ⟨hf.1, hf.2, hPc (T.setVm vm₁) hT hW₁⟩) with ⟨v, vm₁, ⟨U', l2, c2, s2⟩, hW₁, X', ⟨g', mk, t, L, e1, e2, hq, h1, hL, h2, h3⟩, st⟩ | ⟨q, vm₁, ⟨U', l2, c2, s2⟩, hW₁, X', ⟨g', mk, t, L, E, ce, e1, e2, hq, hce, hcv, hcl, h1, hL, h2, h3⟩, st⟩
  · dsimp only [Pt.U, Pt.locs, Pt.cells, Pt.slots] at X' e1 e2 h1 h2 h3 st
    subst h1; subst h2; subst h3
    exact Or.inl ⟨v, (T.setVm vm₁).calling g' mk (Value.ref b :: As).toArray, t, U', L, hT, X', hL, e1, e2, hq, st⟩
  · dsimp only [Pt.U, Pt.locs, Pt.cells, Pt.slots] at X' e1 e2 h1 h2 h3 st hcl
    subst h1; subst h2; subst h3
    exact Or.inr ⟨q, (T.setVm vm₁).calling g' mk (Value.ref b :: As).toArray, t, U', L, E, ce, hT, X', hL, e1, e2, hq, hce, hcv, vx_cls hW₁ hcl, st⟩
theorem vx_runS (S : CallFix p m c cc nL s args Ts own) (hM : vx_Met l y ws rm Pc Qc XC mc ms free) (cw : CallB R s args own index y bytes maxL ret ws rm mc ms n ∧ (Cond.static y).before args s = true) (hp : PreS s H Pc As)
    (hg : g.method = m) (hn : As.length = n) (hsize : g.locals.size = nL) (hstack : g.stack = As.reverse ++ rest) (hW : 2 * g.monitorRoom + (rest.map fun v => v.category).sum ≤ 8) (hdg : decode cc g.pc = .ok (.invokestatic index, 3)) (hf : cells + mc ≤ R.cells ∧ slots + ms ≤ R.slots) :
    vx_Run p l e R s m args below meth c H locs cells slots mc ms g rest (Qc As.toArray) XC free := by
  have hK : vx_Back l R p e below s args y 3 8 (PreOf R mc ms Pc) (PostOf Qc mc ms free) (vx_Post XC mc ms free) := vx_callBack cw.1 hM hp.1
  obtain ⟨⟨-, -, -, -, -, -, hcode, hini, hy, hlen, hl⟩, hstt⟩ := cw
  obtain ⟨hx, hb, hml, ho, -⟩ := S
  intro T hT X
  rcases vx_callS X hx (bytes := bytes) (maxL := maxL) (ret := ret) ho hl hstt hini hcode hy hK hg (hsize.trans hml.symm) (argsL := As) (rest := rest) (fun sig h => hn.trans (hlen sig h)) hstack hW (by rw [hb]; exact hdg)
    (fun vm₁ hW₁ => ⟨hf.1, hf.2, hp.2 (T.setVm vm₁) hT hW₁⟩) with ⟨v, vm₁, ⟨U', l2, c2, s2⟩, hW₁, X', ⟨g', mk, t, L, e1, e2, hq, h1, hL, h2, h3⟩, st⟩ | ⟨q, vm₁, ⟨U', l2, c2, s2⟩, hW₁, X', ⟨g', mk, t, L, E, ce, e1, e2, hq, hce, hcv, hcl, h1, hL, h2, h3⟩, st⟩
  · dsimp only [Pt.U, Pt.locs, Pt.cells, Pt.slots] at X' e1 e2 h1 h2 h3 st
    subst h1; subst h2; subst h3
    exact Or.inl ⟨v, (T.setVm vm₁).calling g' mk As.toArray, t, U', L, hT, X', hL, e1, e2, hq, st⟩
  · dsimp only [Pt.U, Pt.locs, Pt.cells, Pt.slots] at X' e1 e2 h1 h2 h3 st hcl
    subst h1; subst h2; subst h3
    exact Or.inr ⟨q, (T.setVm vm₁).calling g' mk As.toArray, t, U', L, E, ce, hT, X', hL, e1, e2, hq, hce, hcv, vx_cls hW₁ hcl, st⟩
end Runs
section Rows
variable {p : Program} {l : Launch} {e : Env} {R : Room} {s : State} {m : MethodId} {args : Array Value} {below : List Frame} {meth : Method} {c : Code} {H : Heap} {locs : List Loc} {cells slots : Nat} {Q : State → Prop}
variable {mc ms : Nat} {free : Addr → Prop} {A0 A1 : Nat → Prop} {H0 : Heap} {a : Array Value} {pc : Nat} {ls : Array Slot} {st0 rest : List Value}
theorem vx_keep {st₀ t T' : State} {L : List Loc} (h0 : st₀.heap = H) (e1 : T'.heap = t.heap) (hS : va_S A0 H0 H locs) (hA : ∀ q, q < H.size → A1 q → A0 q) (hf : ∀ q, free q → A0 q) (hL : ∀ q ∈ L, free q.base) (hF : va_F A1 st₀ t) :
    H.size ≤ T'.heap.size ∧ (∀ q : Nat, q < H.size → ¬ A1 q → T'.heap[q]? = H[q]?) ∧ va_S A0 H0 T'.heap (locs ++ L) := by
  obtain ⟨hz, hk⟩ := hF
  rw [h0] at hz hk
  exact ⟨by rw [e1]; exact hz, fun q h1 h2 => by rw [e1]; exact hk q h1 h2,
    ⟨Nat.le_trans hS.1 (by rw [e1]; exact hz), fun q h1 h2 => by rw [e1, hk q (Nat.lt_of_lt_of_le h1 hS.1) (fun z => h2 (hA q (Nat.lt_of_lt_of_le h1 hS.1) z))]; exact hS.2.1 q h1 h2, fun q hq => by
      rcases List.mem_append.mp hq with h | h
      · exact hS.2.2 q h
      · exact hf _ (hL q h)⟩⟩
theorem vx_calli {S SX : Type} {post : Int32 → S → Prop} {px : SX → Prop} {B : S → State → Prop} {BX : String → SX → State → Prop} {AX : Nat → Prop} (hr : vx_Run p l e R s m args below meth c H locs cells slots mc ms (F0 m pc ls st0) rest (va_Qi post B A1 a) (vx_X px BX AX) free) (hS : va_S A0 H0 H locs) (hA : ∀ q, q < H.size → A1 q → A0 q) (hf : ∀ q, free q → A0 q) (hAX : ∀ q, q < H.size → AX q → A0 q)
    (kx : ∀ (E : String) (ce : Cell) (q9 : Addr) (u : SX) (t : State) (H1 : Heap) (locs1 : List Loc), t.heap = H1 → s.vm.Alike t.vm → px u → BX E u t → H.size ≤ H1.size → (∀ q : Nat, q < H.size → ¬ AX q → H1[q]? = H[q]?) → va_S A0 H0 H1 locs1 → H1[q9]? = some ce → ce.vm = .none → s.vm.findClass E = some ce.cls → vx_W p l e R s m args below meth c H1 locs1 (cells + mc) (slots + ms) Q (F0 m pc ls rest) q9)
    (kk : ∀ (r : Int32) (u : S) (t : State) (H1 : Heap) (locs1 : List Loc), t.heap = H1 → s.vm.Alike t.vm → post r u → B u t → H.size ≤ H1.size → (∀ q : Nat, q < H.size → ¬ A1 q → H1[q]? = H[q]?) → va_S A0 H0 H1 locs1 → W p l e R s m args below meth c H1 locs1 (cells + mc) (slots + ms) Q (F0 m (pc + 3) ls (.int r :: rest))) : W p l e R s m args below meth c H locs cells slots Q (F0 m pc ls st0) := by
  intro T hT X
  rcases hr T hT X with ⟨v, st₀, t, T', L, h0, X', hL, e1, e2, ⟨⟨r, u, hv, hp, hb⟩, hF⟩, st⟩ | ⟨q, st₀, t, T', L, E, ce, h0, X', hL, e1, e2, ⟨u, hp, hb, hF⟩, hce, hcv, hcl, st⟩
  · cases hv
    obtain ⟨k1, k2, k3⟩ := vx_keep h0 e1 hS hA hf hL hF
    obtain ⟨t2, a1, b1⟩ := kk r u t T'.heap (locs ++ L) e1.symm (by rw [← e2]; exact X'.warmed.alike) hp hb k1 k2 k3 T' rfl X'
    exact ⟨t2, st t2 a1, b1⟩
  · obtain ⟨k1, k2, k3⟩ := vx_keep h0 e1 hS hAX hf hL hF
    obtain ⟨t2, a1, b1⟩ := kx E ce q u t T'.heap (locs ++ L) e1.symm (by rw [← e2]; exact X'.warmed.alike) hp hb k1 k2 k3 (by rw [e1]; exact hce) hcv hcl T' rfl X'
    exact ⟨t2, st.trans a1, b1⟩
theorem vx_calll {S SX : Type} {post : Int64 → S → Prop} {px : SX → Prop} {B : S → State → Prop} {BX : String → SX → State → Prop} {AX : Nat → Prop} (hr : vx_Run p l e R s m args below meth c H locs cells slots mc ms (F0 m pc ls st0) rest (va_Ql post B A1 a) (vx_X px BX AX) free) (hS : va_S A0 H0 H locs) (hA : ∀ q, q < H.size → A1 q → A0 q) (hf : ∀ q, free q → A0 q) (hAX : ∀ q, q < H.size → AX q → A0 q)
    (kx : ∀ (E : String) (ce : Cell) (q9 : Addr) (u : SX) (t : State) (H1 : Heap) (locs1 : List Loc), t.heap = H1 → s.vm.Alike t.vm → px u → BX E u t → H.size ≤ H1.size → (∀ q : Nat, q < H.size → ¬ AX q → H1[q]? = H[q]?) → va_S A0 H0 H1 locs1 → H1[q9]? = some ce → ce.vm = .none → s.vm.findClass E = some ce.cls → vx_W p l e R s m args below meth c H1 locs1 (cells + mc) (slots + ms) Q (F0 m pc ls rest) q9)
    (kk : ∀ (r : Int64) (u : S) (t : State) (H1 : Heap) (locs1 : List Loc), t.heap = H1 → s.vm.Alike t.vm → post r u → B u t → H.size ≤ H1.size → (∀ q : Nat, q < H.size → ¬ A1 q → H1[q]? = H[q]?) → va_S A0 H0 H1 locs1 → W p l e R s m args below meth c H1 locs1 (cells + mc) (slots + ms) Q (F0 m (pc + 3) ls (.long r :: rest))) : W p l e R s m args below meth c H locs cells slots Q (F0 m pc ls st0) := by
  intro T hT X
  rcases hr T hT X with ⟨v, st₀, t, T', L, h0, X', hL, e1, e2, ⟨⟨r, u, hv, hp, hb⟩, hF⟩, st⟩ | ⟨q, st₀, t, T', L, E, ce, h0, X', hL, e1, e2, ⟨u, hp, hb, hF⟩, hce, hcv, hcl, st⟩
  · cases hv
    obtain ⟨k1, k2, k3⟩ := vx_keep h0 e1 hS hA hf hL hF
    obtain ⟨t2, a1, b1⟩ := kk r u t T'.heap (locs ++ L) e1.symm (by rw [← e2]; exact X'.warmed.alike) hp hb k1 k2 k3 T' rfl X'
    exact ⟨t2, st t2 a1, b1⟩
  · obtain ⟨k1, k2, k3⟩ := vx_keep h0 e1 hS hAX hf hL hF
    obtain ⟨t2, a1, b1⟩ := kx E ce q u t T'.heap (locs ++ L) e1.symm (by rw [← e2]; exact X'.warmed.alike) hp hb k1 k2 k3 (by rw [e1]; exact hce) hcv hcl T' rfl X'
    exact ⟨t2, st.trans a1, b1⟩
theorem vx_callf {S SX : Type} {post : UInt32 → S → Prop} {px : SX → Prop} {B : S → State → Prop} {BX : String → SX → State → Prop} {AX : Nat → Prop} (hr : vx_Run p l e R s m args below meth c H locs cells slots mc ms (F0 m pc ls st0) rest (va_Qf post B A1 a) (vx_X px BX AX) free) (hS : va_S A0 H0 H locs) (hA : ∀ q, q < H.size → A1 q → A0 q) (hf : ∀ q, free q → A0 q) (hAX : ∀ q, q < H.size → AX q → A0 q)
    (kx : ∀ (E : String) (ce : Cell) (q9 : Addr) (u : SX) (t : State) (H1 : Heap) (locs1 : List Loc), t.heap = H1 → s.vm.Alike t.vm → px u → BX E u t → H.size ≤ H1.size → (∀ q : Nat, q < H.size → ¬ AX q → H1[q]? = H[q]?) → va_S A0 H0 H1 locs1 → H1[q9]? = some ce → ce.vm = .none → s.vm.findClass E = some ce.cls → vx_W p l e R s m args below meth c H1 locs1 (cells + mc) (slots + ms) Q (F0 m pc ls rest) q9)
    (kk : ∀ (r : UInt32) (u : S) (t : State) (H1 : Heap) (locs1 : List Loc), t.heap = H1 → s.vm.Alike t.vm → post r u → B u t → H.size ≤ H1.size → (∀ q : Nat, q < H.size → ¬ A1 q → H1[q]? = H[q]?) → va_S A0 H0 H1 locs1 → W p l e R s m args below meth c H1 locs1 (cells + mc) (slots + ms) Q (F0 m (pc + 3) ls (.float r :: rest))) : W p l e R s m args below meth c H locs cells slots Q (F0 m pc ls st0) := by
  intro T hT X
  rcases hr T hT X with ⟨v, st₀, t, T', L, h0, X', hL, e1, e2, ⟨⟨r, u, hv, hp, hb⟩, hF⟩, st⟩ | ⟨q, st₀, t, T', L, E, ce, h0, X', hL, e1, e2, ⟨u, hp, hb, hF⟩, hce, hcv, hcl, st⟩
  · cases hv
    obtain ⟨k1, k2, k3⟩ := vx_keep h0 e1 hS hA hf hL hF
    obtain ⟨t2, a1, b1⟩ := kk r u t T'.heap (locs ++ L) e1.symm (by rw [← e2]; exact X'.warmed.alike) hp hb k1 k2 k3 T' rfl X'
    exact ⟨t2, st t2 a1, b1⟩
  · obtain ⟨k1, k2, k3⟩ := vx_keep h0 e1 hS hAX hf hL hF
    obtain ⟨t2, a1, b1⟩ := kx E ce q u t T'.heap (locs ++ L) e1.symm (by rw [← e2]; exact X'.warmed.alike) hp hb k1 k2 k3 (by rw [e1]; exact hce) hcv hcl T' rfl X'
    exact ⟨t2, st.trans a1, b1⟩
theorem vx_calld {S SX : Type} {post : UInt64 → S → Prop} {px : SX → Prop} {B : S → State → Prop} {BX : String → SX → State → Prop} {AX : Nat → Prop} (hr : vx_Run p l e R s m args below meth c H locs cells slots mc ms (F0 m pc ls st0) rest (va_Qd post B A1 a) (vx_X px BX AX) free) (hS : va_S A0 H0 H locs) (hA : ∀ q, q < H.size → A1 q → A0 q) (hf : ∀ q, free q → A0 q) (hAX : ∀ q, q < H.size → AX q → A0 q)
    (kx : ∀ (E : String) (ce : Cell) (q9 : Addr) (u : SX) (t : State) (H1 : Heap) (locs1 : List Loc), t.heap = H1 → s.vm.Alike t.vm → px u → BX E u t → H.size ≤ H1.size → (∀ q : Nat, q < H.size → ¬ AX q → H1[q]? = H[q]?) → va_S A0 H0 H1 locs1 → H1[q9]? = some ce → ce.vm = .none → s.vm.findClass E = some ce.cls → vx_W p l e R s m args below meth c H1 locs1 (cells + mc) (slots + ms) Q (F0 m pc ls rest) q9)
    (kk : ∀ (r : UInt64) (u : S) (t : State) (H1 : Heap) (locs1 : List Loc), t.heap = H1 → s.vm.Alike t.vm → post r u → B u t → H.size ≤ H1.size → (∀ q : Nat, q < H.size → ¬ A1 q → H1[q]? = H[q]?) → va_S A0 H0 H1 locs1 → W p l e R s m args below meth c H1 locs1 (cells + mc) (slots + ms) Q (F0 m (pc + 3) ls (.double r :: rest))) : W p l e R s m args below meth c H locs cells slots Q (F0 m pc ls st0) := by
  intro T hT X
  rcases hr T hT X with ⟨v, st₀, t, T', L, h0, X', hL, e1, e2, ⟨⟨r, u, hv, hp, hb⟩, hF⟩, st⟩ | ⟨q, st₀, t, T', L, E, ce, h0, X', hL, e1, e2, ⟨u, hp, hb, hF⟩, hce, hcv, hcl, st⟩
  · cases hv
    obtain ⟨k1, k2, k3⟩ := vx_keep h0 e1 hS hA hf hL hF
    obtain ⟨t2, a1, b1⟩ := kk r u t T'.heap (locs ++ L) e1.symm (by rw [← e2]; exact X'.warmed.alike) hp hb k1 k2 k3 T' rfl X'
    exact ⟨t2, st t2 a1, b1⟩
  · obtain ⟨k1, k2, k3⟩ := vx_keep h0 e1 hS hAX hf hL hF
    obtain ⟨t2, a1, b1⟩ := kx E ce q u t T'.heap (locs ++ L) e1.symm (by rw [← e2]; exact X'.warmed.alike) hp hb k1 k2 k3 (by rw [e1]; exact hce) hcv hcl T' rfl X'
    exact ⟨t2, st.trans a1, b1⟩
theorem vx_callv {S SX : Type} {post : S → Prop} {px : SX → Prop} {B : S → State → Prop} {BX : String → SX → State → Prop} {AX : Nat → Prop} (hr : vx_Run p l e R s m args below meth c H locs cells slots mc ms (F0 m pc ls st0) rest (va_Qv post B A1 a) (vx_X px BX AX) free) (hS : va_S A0 H0 H locs) (hA : ∀ q, q < H.size → A1 q → A0 q) (hf : ∀ q, free q → A0 q) (hAX : ∀ q, q < H.size → AX q → A0 q)
    (kx : ∀ (E : String) (ce : Cell) (q9 : Addr) (u : SX) (t : State) (H1 : Heap) (locs1 : List Loc), t.heap = H1 → s.vm.Alike t.vm → px u → BX E u t → H.size ≤ H1.size → (∀ q : Nat, q < H.size → ¬ AX q → H1[q]? = H[q]?) → va_S A0 H0 H1 locs1 → H1[q9]? = some ce → ce.vm = .none → s.vm.findClass E = some ce.cls → vx_W p l e R s m args below meth c H1 locs1 (cells + mc) (slots + ms) Q (F0 m pc ls rest) q9)
    (kk : ∀ (u : S) (t : State) (H1 : Heap) (locs1 : List Loc), t.heap = H1 → s.vm.Alike t.vm → post u → B u t → H.size ≤ H1.size → (∀ q : Nat, q < H.size → ¬ A1 q → H1[q]? = H[q]?) → va_S A0 H0 H1 locs1 → W p l e R s m args below meth c H1 locs1 (cells + mc) (slots + ms) Q (F0 m (pc + 3) ls (rest))) : W p l e R s m args below meth c H locs cells slots Q (F0 m pc ls st0) := by
  intro T hT X
  rcases hr T hT X with ⟨v, st₀, t, T', L, h0, X', hL, e1, e2, ⟨⟨u, hv, hp, hb⟩, hF⟩, st⟩ | ⟨q, st₀, t, T', L, E, ce, h0, X', hL, e1, e2, ⟨u, hp, hb, hF⟩, hce, hcv, hcl, st⟩
  · cases hv
    obtain ⟨k1, k2, k3⟩ := vx_keep h0 e1 hS hA hf hL hF
    obtain ⟨t2, a1, b1⟩ := kk u t T'.heap (locs ++ L) e1.symm (by rw [← e2]; exact X'.warmed.alike) hp hb k1 k2 k3 T' rfl X'
    exact ⟨t2, st t2 a1, b1⟩
  · obtain ⟨k1, k2, k3⟩ := vx_keep h0 e1 hS hAX hf hL hF
    obtain ⟨t2, a1, b1⟩ := kx E ce q u t T'.heap (locs ++ L) e1.symm (by rw [← e2]; exact X'.warmed.alike) hp hb k1 k2 k3 (by rw [e1]; exact hce) hcv hcl T' rfl X'
    exact ⟨t2, st.trans a1, b1⟩
/-- caught by the row x of this method's table; the rows ahead don't take it -/
theorem vx_catch {own name : String} {E : String} {ce : Cell} {q : Addr} (hown : s.vm.findClass own = some m.cls) (pre : List ExceptionTableEntry) (x : ExceptionTableEntry) (suf : List ExceptionTableEntry) (hsplit : c.exceptionTable.toList = pre ++ x :: suf)
    (hpass : ∀ z ∈ pre, covers z pc = false ∨ (z.catchType ≠ 0 ∧ ∃ nm : String, (Cond.classLink own z.catchType nm).before args s = true ∧ va_Nc E nm s)) (hx : covers x pc = true) (h0 : x.catchType ≠ 0)
    (hlink : (Cond.classLink own x.catchType name).before args s = true) (hcast : (Cond.castable E name).before args s = true) (hcell : H[q]? = some ce) (hv : ce.vm = .none) (hcl : s.vm.findClass E = some ce.cls)
    (kk : W p l e R s m args below meth c H locs cells slots Q (F0 m x.handlerPc ls [.ref q])) : vx_W p l e R s m args below meth c H locs cells slots Q (F0 m pc ls rest) q := by
  intro T hT X
  have hpl : e.platform.magicAccessors = ({} : Platform).magicAccessors := by rw [X.admits.platform]
  obtain ⟨c3, c4, hc3, hc4, hasg⟩ := Cond.castable_spec hcast
  cases Option.some.inj (hc3.symm.trans hcl)
  obtain ⟨c5, hc5, hcl5⟩ := Cond.classLink_spec hown hlink e.platform hpl
  cases Option.some.inj (hc4.symm.trans hc5)
  obtain ⟨vm', X', st⟩ := X.thenCaughtThrough q (g := F0 m pc ls rest) rfl (Steps.refl _) (by rw [hT]; exact hcell) (by rw [hv]; rfl) (by obtain ⟨k9, h9, -⟩ := Vm.findClass_spec hcl; exact ⟨k9, h9⟩) pre x suf hsplit
    (fun z hz => by
      rcases hpass z hz with h | ⟨hz0, nm, hl1, hn1⟩
      · exact Or.inl h
      · obtain ⟨c6, hc6, hcl6⟩ := Cond.classLink_spec hown hl1 e.platform hpl
        obtain ⟨a8, b8, h1, h2, h3⟩ := hn1
        cases Option.some.inj (h1.symm.trans hcl)
        cases Option.some.inj (h2.symm.trans hc6)
        exact Or.inr ⟨hz0, _, hcl6, h3⟩) hx (Or.inr ⟨h0, c4, hcl5, hasg⟩)
  obtain ⟨t, a1, b1⟩ := kk (T.setVm vm') hT X'
  exact ⟨t, st.trans a1, b1⟩
end Rows
section Ends
variable {p : Program} {l : Launch} {e : Env} {R : Room} {s : State} {m : MethodId} {args : Array Value} {below : List Frame} {meth : Method} {c : Code} {H : Heap} {locs : List Loc} {cells slots : Nat} {Q : State → Prop}
variable {mc ms : Nat} {free : Addr → Prop} {A0 A1 : Nat → Prop} {H0 : Heap} {a : Array Value} {ls : Array Slot} {st0 rest : List Value}
variable {Qc : Array Value → State → Outcome → State → Prop} {XC : String → State → State → Prop}
/-- what a body that may throw owes at its end -/
def vx_MQ (below : List Frame) (Qc : Array Value → State → Outcome → State → Prop) (XC : String → State → State → Prop) (a : Array Value) (s : State) (mc ms : Nat) (free : Addr → Prop) : State → Prop := fun t =>
  ∃ o, t.status = .running ∧ Ended t below o ∧ vx_Q Qc XC mc ms free a s o t
theorem vx_ret {g : JFrame} {mc ms : Nat} (k : W p l e R s m args below meth c H locs cells slots (MQ below Qc args s mc ms free) g) : W p l e R s m args below meth c H locs cells slots (vx_MQ below Qc XC args s mc ms free) g := by
  intro T hT X
  obtain ⟨t, a1, o, b1, b2, b3, b4⟩ := k T hT X
  exact ⟨t, a1, o, b1, b2, Or.inl ⟨b3, b4⟩⟩
/-- not caught here: it goes on to the caller -/
theorem vx_widen {g : JFrame} {q : Addr} {k n : Nat} (h1 : cells ≤ k) (h2 : slots ≤ n) (kk : vx_W p l e R s m args below meth c H locs k n Q g q) : vx_W p l e R s m args below meth c H locs cells slots Q g q := fun T hT X => kk T hT (stand_widen X h1 h2)
theorem vx_out {pc : Nat} {E : String} {ce : Cell} {q : Addr} {mc ms : Nat} (hout : ∀ x ∈ c.exceptionTable.toList, covers x pc = false) (hlocks : meth.locks = false) (hcell : H[q]? = some ce) (hv : ce.vm = .none) (hcl : s.vm.findClass E = some ce.cls)
    (hx : ∀ t : State, t.heap = H → s.vm.Alike t.vm → XC E s t) (hf : ∀ z ∈ locs, free z.base) (hc : cells ≤ mc) (hs : slots ≤ ms) :
    vx_W p l e R s m args below meth c H locs cells slots (vx_MQ below Qc XC args s mc ms free) (F0 m pc ls rest) q := by
  intro T hT X
  obtain ⟨st1, hrun, hend, hW, hsm⟩ := X.leaveThrown q (g := F0 m pc ls rest) rfl rfl rfl hout hlocks
  have hcell9 : (T.setFrames (.throwing q :: below)).heap[q]? = some ce := by
    show T.heap[q]? = some ce
    rw [hT]; exact hcell
  exact ⟨_, st1, .threw q, hrun, hend, Or.inr ⟨q, rfl, E, ce, locs, hx _ hT hW.alike, hcell9, hv, hcl, hW, hsm.mono hc hs, hf⟩⟩
theorem vx_frame {U : State} {k n : Nat} (h : s.sameButNew ({ U with vm := s.vm } : State) locs k n) : s.heap.size ≤ U.heap.size ∧ ∀ q : Nat, q < s.heap.size → (∀ z ∈ locs, z.base ≠ q) → U.heap[q]? = s.heap[q]? := by
  obtain ⟨-, h2, -, -, -, h6⟩ := h
  refine ⟨h2, fun q hq hz => ?_⟩
  obtain ⟨c9, e1, e2, e3, e4⟩ := h6 q _ (Array.getElem?_eq_getElem hq)
  have hs : c9.slots = (s.heap[q]).slots := Array.ext_getElem? fun i => e4 i fun hm => hz _ hm rfl
  have h9 : c9 = s.heap[q] := by
    rw [hs] at e2
    exact e2
  have e5 : U.heap[q]? = some c9 := e1
  rw [e5, h9, Array.getElem?_eq_getElem hq]
/-- the words of a throw but the four that speak of the heap -/
def vx_no (w : Cond) : Bool := decide (w ≠ .isRef (.static Bundle.tN "UNASSIGNED_STACK" Bundle.steD)) && decide (w ≠ .isRef (.static Bundle.tN "SUPPRESSED_SENTINEL" Bundle.listD)) && decide (w ≠ .laysStatic Bundle.tN "UNASSIGNED_STACK" Bundle.steD) && decide (w ≠ .laysStatic Bundle.tN "SUPPRESSED_SENTINEL" Bundle.listD)
def vx_at0 (own : String) (ic : Nat) (X : String) (names : List String) : List Cond := (Bundle.ownAtoms0 own ic X names).filter vx_no
def vx_atS (own : String) (ic : Nat) (X : String) (names : List String) : List Cond := (Bundle.ownAtoms own ic X names).filter vx_no
/-- a word that the tables alone decide, or a good one -/
def vx_ot (w : Cond) : Bool := w.onTables || goodWord w
theorem vx_ot_at {args a' : Array Value} {s U : State} {w : Cond} (hW : s.WarmedH U.vm) (hvm : s.vm = U.vm) (hg : vx_ot w = true) (h : w.before args s = true) : w.before a' U = true := by
  simp only [vx_ot, Bool.or_eq_true] at hg
  rcases hg with hg | hg
  · exact va_tabs hg hvm h
  · exact word_at hW (good_of_word hg) h
/-- a list's words: the good ones out of the method's own list, the others by premises of their own -/
theorem vx_hat {args : Array Value} {s : State} {L B : List Cond} (h1 : ∀ w ∈ L.filter goodWord, w.before args s = true) (h2 : ∀ w ∈ L.filter (fun w => !goodWord w), w ∈ B) (h3 : ∀ w ∈ B, w.before args s = true) : ∀ w ∈ L, w.before args s = true := by
  intro w hw
  by_cases g : goodWord w = true
  · exact h1 w (List.mem_filter.mpr ⟨hw, g⟩)
  · refine h3 w (h2 w (List.mem_filter.mpr ⟨hw, ?_⟩))
    show (!goodWord w) = true
    cases hgw : goodWord w
    · rfl
    · exact absurd hgw g
theorem vx_c {args : Array Value} {s : State} {w : Cond} {B : List Cond} (h : w.before args s = true) (t : ∀ w ∈ B, w.before args s = true) : ∀ w' ∈ w :: B, w'.before args s = true := fun w' h' => (List.mem_cons.mp h').elim (fun e => by rw [e]; exact h) (t w')
theorem vx_n {args : Array Value} {s : State} : ∀ w ∈ ([] : List Cond), w.before args s = true := fun _ h => nomatch h
theorem vx_own {args : Array Value} {s : State} {L : List Cond} (h1 : ∀ w ∈ L.filter vx_no, w.before args s = true)
    (hU : (Cond.isRef (.static Bundle.tN "UNASSIGNED_STACK" Bundle.steD)).before args s = true) (hN : (Cond.isRef (.static Bundle.tN "SUPPRESSED_SENTINEL" Bundle.listD)).before args s = true)
    (lU : (Cond.laysStatic Bundle.tN "UNASSIGNED_STACK" Bundle.steD).before args s = true) (lN : (Cond.laysStatic Bundle.tN "SUPPRESSED_SENTINEL" Bundle.listD).before args s = true) : ∀ w ∈ L, w.before args s = true := by
  intro w hw
  by_cases e1 : w = .isRef (.static Bundle.tN "UNASSIGNED_STACK" Bundle.steD)
  · rw [e1]; exact hU
  · by_cases e2 : w = .isRef (.static Bundle.tN "SUPPRESSED_SENTINEL" Bundle.listD)
    · rw [e2]; exact hN
    · by_cases e3 : w = .laysStatic Bundle.tN "UNASSIGNED_STACK" Bundle.steD
      · rw [e3]; exact lU
      · by_cases e4 : w = .laysStatic Bundle.tN "SUPPRESSED_SENTINEL" Bundle.listD
        · rw [e4]; exact lN
        · exact h1 w (List.mem_filter.mpr ⟨hw, by unfold vx_no; rw [decide_eq_true e1, decide_eq_true e2, decide_eq_true e3, decide_eq_true e4]; rfl⟩)
/-- where a static field lies, its class's statics cell in H -/
def vx_L (C n d : String) (A : Nat → Prop) (U : State) (H : Heap) : Prop := ∃ (c : ClassId) (k : Class) (i : Nat) (f : Field) (a : Nat) (cell : Cell), U.vm.findClass C = some c ∧ U.fieldFound? C n d = some (c, k, i, f) ∧ f.isStatic = true ∧ k.statics = some a ∧ H[a]? = some cell ∧ cell.vm.isStatics = true ∧ cell.cls = c ∧ f.slot < cell.slots.size ∧ k.staticTypes[f.slot]? = some f.type ∧ ¬ A a
theorem vx_L.moved {C n d : String} {A : Nat → Prop} {u U : State} {H : Heap} (hvm : u.vm.Alike U.vm) (h : vx_L C n d A u H) : vx_L C n d A U H := by
  obtain ⟨c, k, i, f, a, cell, h1, h2, h3, h4, h5, h6, h7, h8, h9, h10⟩ := h
  obtain ⟨k', hi', he⟩ := State.fieldFound?_setVm hvm h2
  exact ⟨c, k', i, f, a, cell, by rw [hvm.findClass]; exact h1, hi', h3, by rw [he]; exact h4, h5, h6, h7, h8, by rw [he]; exact h9, h10⟩
theorem vx_L.kept {C n d : String} {A : Nat → Prop} {U : State} {H H1 : Heap} (h : vx_L C n d A U H) (hq : ∀ a : Nat, a < H.size → ¬ A a → H1[a]? = H[a]?) : vx_L C n d A U H1 := by
  obtain ⟨c, k, i, f, a, cell, h1, h2, h3, h4, h5, h6, h7, h8, h9, h10⟩ := h
  exact ⟨c, k, i, f, a, cell, h1, h2, h3, h4, by rw [hq a (Array.getElem?_eq_some_iff.mp h5).1 h10]; exact h5, h6, h7, h8, h9, h10⟩
theorem vx_L.narrow {C n d : String} {A B : Nat → Prop} {U : State} {H : Heap} (h : vx_L C n d A U H) (hAB : ∀ q, B q → A q) : vx_L C n d B U H := by
  obtain ⟨c, k, i, f, a, cell, h1, h2, h3, h4, h5, h6, h7, h8, h9, h10⟩ := h
  exact ⟨c, k, i, f, a, cell, h1, h2, h3, h4, h5, h6, h7, h8, h9, fun z => h10 (hAB _ z)⟩
theorem vx_L.word {C n d : String} {A : Nat → Prop} {s : State} {args : Array Value} (h : vx_L C n d A s s.heap) : (Cond.laysStatic C n d).before args s = true := by
  obtain ⟨c, k, i, f, a, cell, h1, h2, h3, h4, h5, h6, h7, h8, h9, -⟩ := h
  show (Cond.laysStatic C n d).holds args s none s [] = true
  exact Cond.laysStatic_of h1 h2 h3 h4 h5 h6 h7 h8 h9
/-- .. and what it holds: null or some reference -/
def vx_Zq (C n d : String) (A : Nat → Prop) (U : State) (H : Heap) : Prop := va_Zq C n d A U H ∧ vx_L C n d A U H
theorem vx_Zq.moved {C n d : String} {A : Nat → Prop} {u U : State} {H : Heap} (hvm : u.vm.Alike U.vm) (h : vx_Zq C n d A u H) : vx_Zq C n d A U H := ⟨va_Zq.moved hvm h.1, vx_L.moved hvm h.2⟩
theorem vx_Zq.kept {C n d : String} {A : Nat → Prop} {U : State} {H H1 : Heap} (h : vx_Zq C n d A U H) (hq : ∀ a : Nat, a < H.size → ¬ A a → H1[a]? = H[a]?) : vx_Zq C n d A U H1 := ⟨va_Zq.kept h.1 hq, vx_L.kept h.2 hq⟩
theorem vx_Zq.narrow {C n d : String} {A B : Nat → Prop} {U : State} {H : Heap} (h : vx_Zq C n d A U H) (hAB : ∀ q, B q → A q) : vx_Zq C n d B U H := ⟨va_Zq.narrow h.1 hAB, vx_L.narrow h.2 hAB⟩
theorem vx_Zqof {args : Array Value} {s : State} {C n d : String} {A : Nat → Prop} (hl : (Cond.laysStatic C n d).before args s = true) (hini : (Cond.initialized C).before args s = true) (h : (Cond.isRef (.static C n d)).before args s = true) (hA : ∀ a : Nat, a < s.heap.size → ¬ A a) : vx_Zq C n d A s s.heap := by
  refine ⟨va_Zqof hl hini h hA, ?_⟩
  obtain ⟨c, k, i, f, a, cell, h1, h2, h3, h4, h5, h6, h7, h8, h9⟩ := Cond.laysStatic_spec hl
  exact ⟨c, k, i, f, a, cell, h1, h2, h3, h4, h5, h6, h7, h8, h9, hA a (Array.getElem?_eq_some_iff.mp h5).1⟩
theorem vx_isRef {C n d : String} {v : Value} {A : Nat → Prop} {s : State} {args : Array Value} (h : va_Z C n d v A s s.heap) (hv : v.isRef = true) : (Cond.isRef (.static C n d)).before args s = true := by
  obtain ⟨cf, kf, fi, f, a, cell, h1, h2, h3, h4, h5, h6, h7, -⟩ := h
  have he : (Term.static C n d).eval args s none [] s = some v := by
    simp [Term.eval, State.fieldNamed?, h1, h2, h4, h5, h6, h7]
  simp only [Cond.before, Cond.holds, Cond.value, he]
  cases v <;> simp_all [Value.isRef]
theorem vx_isRefq {C n d : String} {A : Nat → Prop} {s : State} {args : Array Value} (h : va_Zq C n d A s s.heap) : (Cond.isRef (.static C n d)).before args s = true := by
  rcases h with h | ⟨t, h⟩
  · exact vx_isRef h rfl
  · exact vx_isRef h rfl
/-- the same frame, seen from here: as if the method were called anew in this heap -/
theorem vx_rebase {T : State} (X : Stand p l e R s m args below meth c T locs cells slots) {R' : Room} (hf : R'.frames ≤ R.frames) (hl : R'.locals ≤ R.locals) (hc : cells + R'.cells ≤ R.cells) (hs : slots + R'.slots ≤ R.slots) :
    Stand p l e R' ((T.setVm s.vm).setFrames (.invoking m args :: below)) m args below meth c T [] 0 0 := by
  have htop : (T.setVm s.vm).topJava?.isSome := X.here.top
  have hF : ((T.setVm s.vm).setFrames (.invoking m args :: below)).frames = .invoking m args :: below := State.frames_setFrames _ (State.cur_lt_of_top htop)
  obtain ⟨g₀, hg0⟩ := Option.isSome_iff_exists.mp htop
  obtain ⟨r, hr⟩ := State.topJava?_eq_some.mp hg0
  have hl9 : e.platform.stackLimits (T.setVm s.vm).me = e.platform.stackLimits s.me := X.limits
  have hb9 : (T.setVm s.vm).me.stackBytes = s.me.stackBytes := X.bytes
  refine ⟨X.admits, X.cas, X.clock, hF, ?_, X.hears, X.method, X.code, X.here, X.tail, X.warmed, ?_, ?_, ?_⟩
  · have h := X.room
    have hU : ((T.setVm s.vm).setFrames (.invoking m args :: below)).localsInUse = s.localsInUse := by
      rw [State.localsInUse_invoking hF (meth := meth) (c := c) X.method X.code, State.localsInUse_invoking X.frames X.method X.code]
    simp only [State.hasRoom, Bool.and_eq_true, decide_eq_true_eq] at h ⊢
    obtain ⟨⟨⟨⟨h1, h2, h3, h4, h5, h6⟩, h7⟩, h8⟩, h9⟩ := h
    rw [X.frames, List.length_cons] at h2 h3
    have q1 := X.heapSize
    have q2 := X.used
    simp only [hF, hU, List.length_cons, State.stackLimits_setFrames, State.stackBytes_setFrames, hl9, hb9]
    refine ⟨⟨⟨⟨by omega, by omega, by omega, by omega, by omega, h6⟩, ?_⟩, ?_⟩, X.book⟩
    · show T.heap.size + R'.cells ≤ e.platform.maxCells
      omega
    · show T.slotsUsed + R'.slots ≤ e.platform.maxSlots
      omega
  · rw [State.stackLimits_setFrames]; rfl
  · rw [State.stackBytes_setFrames]; rfl
  · refine ⟨?_, Nat.le_refl _, Nat.le_refl _, ?_, ?_, fun a c9 h9 => ⟨c9, h9, rfl, rfl, fun _ _ => rfl⟩⟩
    · obtain ⟨t, ht, -⟩ := State.frames_cons hr
      show T.setVm s.vm = { ((T.setVm s.vm).setFrames (.invoking m args :: below)).setFrames (T.setVm s.vm).frames with heap := T.heap, slotsUsed := T.slotsUsed }
      rw [State.setFrames_setFrames, State.setFrames_self ht]
      rfl
    · show T.slotsUsed = T.slotsUsed + ((T.heap.toList.drop T.heap.size).map (·.slots.size)).sum
      rw [List.drop_eq_nil_of_le (Nat.le_of_eq Array.length_toList)]
      rfl
    · show ((T.heap.toList.drop T.heap.size).map (·.slots.size)).sum ≤ 0
      rw [List.drop_eq_nil_of_le (Nat.le_of_eq Array.length_toList)]
      exact Nat.le_refl _
/-- 'throw new E()': new; dup; invokespecial; athrow -/
theorem vx_throw0 {cc : ByteArray} {pc : Nat} (hexec : p.tables.exec = Jvm.exec) (hb : c.code = cc) (hl : l.stackTraces = false) {own cls : String} {names : List String} {ik ic mc ms : Nat} {A : Nat → Prop}
    (hown : s.vm.findClass own = some m.cls) (hcls : Bundle.fit cls = true) (hnames : ∀ n ∈ names, Bundle.fit n = true)
    (hk : (Cond.classLink own ik cls).before args s = true) (hini : (Cond.initialized cls).before args s = true) (hat : ∀ w ∈ vx_at0 own ic cls names, w.before args s = true)
    (hgood : ∀ w ∈ Cond.classLink own ik cls :: Cond.initialized cls :: vx_at0 own ic cls names, vx_ot w = true)
    (hU : vx_Zq Bundle.tN "UNASSIGNED_STACK" Bundle.steD A s s.heap) (hN : vx_Zq Bundle.tN "SUPPRESSED_SENTINEL" Bundle.listD A s s.heap) (hS : va_S A s.heap H locs) (hsize : ls.size = c.maxLocals)
    (d0 : decode cc pc = .ok (.new ik, 3)) (d3 : decode cc (pc + 3) = .ok (.dup, 1)) (d4 : decode cc (pc + 4) = .ok (.invokespecial ic, 3)) (d7 : decode cc (pc + 7) = .ok (.athrow, 1))
    (hout : ∀ x ∈ c.exceptionTable.toList, covers x (pc + 7) = false)
    (hRframes : names.length + 3 < R.frames) (hRlocals : (rest.map fun v => v.category).sum + (13 * (names.length + 1) + 42) ≤ R.locals) (hRcells : cells + 1 ≤ R.cells) (hRslots : slots + 6 ≤ R.slots) (hlocks : meth.locks = false)
    (hx : ∀ t : State, s.vm.Alike t.vm → H.size ≤ t.heap.size → (∀ q : Nat, q < H.size → t.heap[q]? = H[q]?) → XC cls s t)
    (hf : ∀ z ∈ locs, free z.base) (hc : cells + 1 ≤ mc) (hs : slots + 6 ≤ ms) :
    W p l e R s m args below meth c H locs cells slots (vx_MQ below Qc XC args s mc ms free) (F0 m pc ls rest) := by
  intro T hT X
  have htr : e.platform.stackTraces = false := (show e.platform.stackTraces = l.stackTraces by rw [X.admits.platform]).trans hl
  have Y := vx_rebase X (R' := { frames := R.frames, locals := R.locals, cells := 1, slots := 6 }) (Nat.le_refl _) (Nat.le_refl _) hRcells hRslots
  obtain ⟨s', hA⟩ : ∃ z, z = (T.setVm s.vm).setFrames (.invoking m args :: below) := ⟨_, rfl⟩
  rw [← hA] at Y
  have hvm : s'.vm = s.vm := by rw [hA]; rfl
  have hhp : s'.heap = H := by rw [hA]; exact hT
  have hW0 : s.WarmedH s'.vm := by rw [hvm]; exact State.WarmedH.refl s
  have hat' : ∀ w ∈ vx_at0 own ic cls names, w.before args s' = true := fun w hw => vx_ot_at hW0 hvm.symm (hgood w (List.mem_cons_of_mem _ (List.mem_cons_of_mem _ hw))) (hat w hw)
  have hk' : (Cond.classLink own ik cls).before args s' = true := vx_ot_at hW0 hvm.symm (hgood _ List.mem_cons_self) hk
  have hini' : (Cond.initialized cls).before args s' = true := vx_ot_at hW0 hvm.symm (hgood _ (List.mem_cons_of_mem _ List.mem_cons_self)) hini
  have hU' : vx_Zq Bundle.tN "UNASSIGNED_STACK" Bundle.steD A s' s'.heap := by rw [hhp]; exact vx_Zq.moved hW0.alike (hU.kept hS.2.1)
  have hN' : vx_Zq Bundle.tN "SUPPRESSED_SENTINEL" Bundle.listD A s' s'.heap := by rw [hhp]; exact vx_Zq.moved hW0.alike (hN.kept hS.2.1)
  have h : ∀ w ∈ Bundle.ownAtoms0 own ic cls names, w.before args s' = true := vx_own hat' (vx_isRefq hU'.1) (vx_isRefq hN'.1) hU'.2.word hN'.2.word
  have hown' : s'.vm.findClass own = some m.cls := by rw [hvm]; exact hown
  have hins : (Cond.instantiable cls 6).before args s' = true := h _ (by simp [Bundle.ownAtoms0])
  obtain ⟨vm₁, cX, kX, hfX, hkX, -, -, X₁, st1⟩ := Y.newCold hexec (own := own) (C := cls) (index := ik) (n := 6) hown' hk' hins hini'
    (g := F0 m pc ls rest) rfl (by rw [hb]; exact d0) (Nat.le_refl _) (Nat.le_refl _)
  generalize hT1 : (T.setVm vm₁).pushCell { cls := cX, slots := kX.instanceTypes.map defaultValue, vm := .none } = T1 at X₁ st1
  have hcat : (Value.ref T.heap.size).category = 1 := rfl
  have hcellA : T1.heap[T.heap.size]? = some (freshCell cX kX) := by rw [← hT1]; exact State.heap_pushCell_size _ _
  have d3' : decode c.code (pc + 3) = .ok (.dup, 1) := by rw [hb]; exact d3
  obtain ⟨U, hsteps, hrun, hend, hW, hsame, ce, hce, hO⟩ := X₁.ctorThrow0 hexec htr (own := own) (cls := cls) (names := names) (ic := ic) hown' hcls hnames h (fun x hx => nomatch hx) hfX hkX hcellA (by rw [hhp, hT]; exact Nat.le_refl _)
    (g := { method := m, pc := pc + 4, locals := ls, stack := .ref T.heap.size :: .ref T.heap.size :: rest, locked := none }) rfl hsize rfl rfl (rest := rest) rfl
    (by rw [hb]; exact d4) (by rw [hb]; exact d7) hout hRframes (by simp only [List.map_cons, List.sum_cons, hcat]; omega) hlocks
  obtain ⟨f1, f2⟩ := vx_frame hsame
  rw [hhp] at f1 f2
  have hWs : s.WarmedH U.vm := State.WarmedH.trans hW0 hW
  have hcl : s.vm.findClass cls = some ce.cls := by
    have h9 := hO.cls
    rw [hvm] at h9
    exact h9
  have hall : s.sameButNew ({ U with vm := s.vm } : State) locs mc ms := by
    subst hA
    obtain ⟨e1, e2⟩ := hsame
    rw [State.setFrames_setFrames] at e1
    have h2 : (T.setVm s.vm).sameButNew ({ U with vm := s.vm } : State) [] (0 + 1) (0 + 6) := ⟨e1, e2⟩
    have h3 := X.same.trans h2
    rw [List.append_nil] at h3
    exact h3.mono hc hs
  refine ⟨U, ?_, .threw T.heap.size, hrun, hend, Or.inr ⟨T.heap.size, rfl, cls, ce, locs, hx U hWs.alike f1 (fun q hq => f2 q hq (fun z hz => nomatch hz)), hce, hO.vm, hcl, hWs, hall, hf⟩⟩
  refine st1 _ ?_
  show Steps p.tables e below (T1.setTop { method := m, pc := pc + 3, locals := ls, stack := .ref T.heap.size :: rest, locked := none }) _
  jvm_step X₁.here [X₁.here.top, hexec, d3', Value.category]
  exact hsteps
/-- 'throw new E("text")': new; dup; ldc; invokespecial; athrow -/
theorem vx_throwS {cc : ByteArray} {pc : Nat} (hexec : p.tables.exec = Jvm.exec) (hb : c.code = cc) (hl : l.stackTraces = false) {own cls text : String} {names : List String} {ik is ic mc ms sa : Nat} {A : Nat → Prop}
    (hown : s.vm.findClass own = some m.cls) (hcls : Bundle.fit cls = true) (hnames : ∀ n ∈ names, Bundle.fit n = true)
    (hk : (Cond.classLink own ik cls).before args s = true) (hini : (Cond.initialized cls).before args s = true) (hstr : vk_R own is text sa s) (hat : ∀ w ∈ vx_atS own ic cls names, w.before args s = true)
    (hgood : ∀ w ∈ Cond.classLink own ik cls :: Cond.initialized cls :: vx_atS own ic cls names, vx_ot w = true)
    (hU : vx_Zq Bundle.tN "UNASSIGNED_STACK" Bundle.steD A s s.heap) (hN : vx_Zq Bundle.tN "SUPPRESSED_SENTINEL" Bundle.listD A s s.heap) (hS : va_S A s.heap H locs) (hsize : ls.size = c.maxLocals)
    (d0 : decode cc pc = .ok (.new ik, 3)) (d3 : decode cc (pc + 3) = .ok (.dup, 1)) (d4 : decode cc (pc + 4) = .ok (.ldc is, 2)) (d6 : decode cc (pc + 6) = .ok (.invokespecial ic, 3)) (d9 : decode cc (pc + 9) = .ok (.athrow, 1))
    (hout : ∀ x ∈ c.exceptionTable.toList, covers x (pc + 9) = false)
    (hRframes : names.length + 3 < R.frames) (hRlocals : (rest.map fun v => v.category).sum + (13 * (names.length + 1) + 43) ≤ R.locals) (hRcells : cells + 1 ≤ R.cells) (hRslots : slots + 6 ≤ R.slots) (hlocks : meth.locks = false)
    (hx : ∀ t : State, s.vm.Alike t.vm → H.size ≤ t.heap.size → (∀ q : Nat, q < H.size → t.heap[q]? = H[q]?) → XC cls s t)
    (hf : ∀ z ∈ locs, free z.base) (hc : cells + 1 ≤ mc) (hs : slots + 6 ≤ ms) :
    W p l e R s m args below meth c H locs cells slots (vx_MQ below Qc XC args s mc ms free) (F0 m pc ls rest) := by
  intro T hT X
  have htr : e.platform.stackTraces = false := (show e.platform.stackTraces = l.stackTraces by rw [X.admits.platform]).trans hl
  have Y := vx_rebase X (R' := { frames := R.frames, locals := R.locals, cells := 1, slots := 6 }) (Nat.le_refl _) (Nat.le_refl _) hRcells hRslots
  obtain ⟨s', hA⟩ : ∃ z, z = (T.setVm s.vm).setFrames (.invoking m args :: below) := ⟨_, rfl⟩
  rw [← hA] at Y
  have hvm : s'.vm = s.vm := by rw [hA]; rfl
  have hhp : s'.heap = H := by rw [hA]; exact hT
  have hW0 : s.WarmedH s'.vm := by rw [hvm]; exact State.WarmedH.refl s
  have hat' : ∀ w ∈ vx_atS own ic cls names, w.before args s' = true := fun w hw => vx_ot_at hW0 hvm.symm (hgood w (List.mem_cons_of_mem _ (List.mem_cons_of_mem _ hw))) (hat w hw)
  have hk' : (Cond.classLink own ik cls).before args s' = true := vx_ot_at hW0 hvm.symm (hgood _ List.mem_cons_self) hk
  have hini' : (Cond.initialized cls).before args s' = true := vx_ot_at hW0 hvm.symm (hgood _ (List.mem_cons_of_mem _ List.mem_cons_self)) hini
  have hU' : vx_Zq Bundle.tN "UNASSIGNED_STACK" Bundle.steD A s' s'.heap := by rw [hhp]; exact vx_Zq.moved hW0.alike (hU.kept hS.2.1)
  have hN' : vx_Zq Bundle.tN "SUPPRESSED_SENTINEL" Bundle.listD A s' s'.heap := by rw [hhp]; exact vx_Zq.moved hW0.alike (hN.kept hS.2.1)
  have h : ∀ w ∈ Bundle.ownAtoms own ic cls names, w.before args s' = true := vx_own hat' (vx_isRefq hU'.1) (vx_isRefq hN'.1) hU'.2.word hN'.2.word
  have hown' : s'.vm.findClass own = some m.cls := by rw [hvm]; exact hown
  have hins : (Cond.instantiable cls 6).before args s' = true := h _ (by simp [Bundle.ownAtoms])
  obtain ⟨vm₁, cX, kX, hfX, hkX, -, -, X₁, st1⟩ := Y.newCold hexec (own := own) (C := cls) (index := ik) (n := 6) hown' hk' hins hini'
    (g := F0 m pc ls rest) rfl (by rw [hb]; exact d0) (Nat.le_refl _) (Nat.le_refl _)
  generalize hT1 : (T.setVm vm₁).pushCell { cls := cX, slots := kX.instanceTypes.map defaultValue, vm := .none } = T1 at X₁ st1
  have hcat : (Value.ref T.heap.size).category = 1 := rfl
  have hcellA : T1.heap[T.heap.size]? = some (freshCell cX kX) := by rw [← hT1]; exact State.heap_pushCell_size _ _
  have d3' : decode c.code (pc + 3) = .ok (.dup, 1) := by rw [hb]; exact d3
  have d4' : decode c.code (pc + 4) = .ok (.ldc is, 2) := by rw [hb]; exact d4
  have hstr' : vk_R own is text sa s' := vk_R.warm hW0 hstr
  obtain ⟨U, hsteps, hrun, hend, hW, hsame, ce, hce, hO⟩ := X₁.ctorThrowS hexec htr (own := own) (cls := cls) (names := names) (ic := ic) hown' hcls hnames h (fun x hx => nomatch hx) hfX hkX hcellA (by rw [hhp, hT]; exact Nat.le_refl _) (msg := .ref sa) rfl
    (g := { method := m, pc := pc + 6, locals := ls, stack := .ref sa :: .ref T.heap.size :: .ref T.heap.size :: rest, locked := none }) rfl hsize rfl rfl (rest := rest) rfl
    (by rw [hb]; exact d6) (by rw [hb]; exact d9) hout hRframes (by simp only [List.map_cons, List.sum_cons, hcat]; omega) hlocks
  obtain ⟨f1, f2⟩ := vx_frame hsame
  rw [hhp] at f1 f2
  have hWs : s.WarmedH U.vm := State.WarmedH.trans hW0 hW
  have hcl : s.vm.findClass cls = some ce.cls := by
    have h9 := hO.cls
    rw [hvm] at h9
    exact h9
  have hall : s.sameButNew ({ U with vm := s.vm } : State) locs mc ms := by
    subst hA
    obtain ⟨e1, e2⟩ := hsame
    rw [State.setFrames_setFrames] at e1
    have h2 : (T.setVm s.vm).sameButNew ({ U with vm := s.vm } : State) [] (0 + 1) (0 + 6) := ⟨e1, e2⟩
    have h3 := X.same.trans h2
    rw [List.append_nil] at h3
    exact h3.mono hc hs
  refine ⟨U, ?_, .threw T.heap.size, hrun, hend, Or.inr ⟨T.heap.size, rfl, cls, ce, locs, hx U hWs.alike f1 (fun q hq => f2 q hq (fun z hz => nomatch hz)), hce, hO.vm, hcl, hWs, hall, hf⟩⟩
  refine st1 _ ?_
  show Steps p.tables e below (T1.setTop { method := m, pc := pc + 3, locals := ls, stack := .ref T.heap.size :: rest, locked := none }) _
  jvm_step X₁.here [X₁.here.top, hexec, d3', Value.category]
  exact X₁.ldcString hexec (own := own) (text := text) (index := is) (a := sa) hown' hstr'.1 hstr'.2
    (g := { method := m, pc := pc + 4, locals := ls, stack := .ref T.heap.size :: .ref T.heap.size :: rest, locked := none }) rfl d4' _ hsteps
/-- 'throw new E("text")', the text by a wide index -/
theorem vx_throwSW {cc : ByteArray} {pc : Nat} (hexec : p.tables.exec = Jvm.exec) (hb : c.code = cc) (hl : l.stackTraces = false) {own cls text : String} {names : List String} {ik is ic mc ms sa : Nat} {A : Nat → Prop}
    (hown : s.vm.findClass own = some m.cls) (hcls : Bundle.fit cls = true) (hnames : ∀ n ∈ names, Bundle.fit n = true)
    (hk : (Cond.classLink own ik cls).before args s = true) (hini : (Cond.initialized cls).before args s = true) (hstr : vk_R own is text sa s) (hat : ∀ w ∈ vx_atS own ic cls names, w.before args s = true)
    (hgood : ∀ w ∈ Cond.classLink own ik cls :: Cond.initialized cls :: vx_atS own ic cls names, vx_ot w = true)
    (hU : vx_Zq Bundle.tN "UNASSIGNED_STACK" Bundle.steD A s s.heap) (hN : vx_Zq Bundle.tN "SUPPRESSED_SENTINEL" Bundle.listD A s s.heap) (hS : va_S A s.heap H locs) (hsize : ls.size = c.maxLocals)
    (d0 : decode cc pc = .ok (.new ik, 3)) (d3 : decode cc (pc + 3) = .ok (.dup, 1)) (d4 : decode cc (pc + 4) = .ok (.ldc_w is, 3)) (d7 : decode cc (pc + 7) = .ok (.invokespecial ic, 3)) (d10 : decode cc (pc + 10) = .ok (.athrow, 1))
    (hout : ∀ x ∈ c.exceptionTable.toList, covers x (pc + 10) = false)
    (hRframes : names.length + 3 < R.frames) (hRlocals : (rest.map fun v => v.category).sum + (13 * (names.length + 1) + 43) ≤ R.locals) (hRcells : cells + 1 ≤ R.cells) (hRslots : slots + 6 ≤ R.slots) (hlocks : meth.locks = false)
    (hx : ∀ t : State, s.vm.Alike t.vm → H.size ≤ t.heap.size → (∀ q : Nat, q < H.size → t.heap[q]? = H[q]?) → XC cls s t)
    (hf : ∀ z ∈ locs, free z.base) (hc : cells + 1 ≤ mc) (hs : slots + 6 ≤ ms) :
    W p l e R s m args below meth c H locs cells slots (vx_MQ below Qc XC args s mc ms free) (F0 m pc ls rest) := by
  intro T hT X
  have htr : e.platform.stackTraces = false := (show e.platform.stackTraces = l.stackTraces by rw [X.admits.platform]).trans hl
  have Y := vx_rebase X (R' := { frames := R.frames, locals := R.locals, cells := 1, slots := 6 }) (Nat.le_refl _) (Nat.le_refl _) hRcells hRslots
  obtain ⟨s', hA⟩ : ∃ z, z = (T.setVm s.vm).setFrames (.invoking m args :: below) := ⟨_, rfl⟩
  rw [← hA] at Y
  have hvm : s'.vm = s.vm := by rw [hA]; rfl
  have hhp : s'.heap = H := by rw [hA]; exact hT
  have hW0 : s.WarmedH s'.vm := by rw [hvm]; exact State.WarmedH.refl s
  have hat' : ∀ w ∈ vx_atS own ic cls names, w.before args s' = true := fun w hw => vx_ot_at hW0 hvm.symm (hgood w (List.mem_cons_of_mem _ (List.mem_cons_of_mem _ hw))) (hat w hw)
  have hk' : (Cond.classLink own ik cls).before args s' = true := vx_ot_at hW0 hvm.symm (hgood _ List.mem_cons_self) hk
  have hini' : (Cond.initialized cls).before args s' = true := vx_ot_at hW0 hvm.symm (hgood _ (List.mem_cons_of_mem _ List.mem_cons_self)) hini
  have hU' : vx_Zq Bundle.tN "UNASSIGNED_STACK" Bundle.steD A s' s'.heap := by rw [hhp]; exact vx_Zq.moved hW0.alike (hU.kept hS.2.1)
  have hN' : vx_Zq Bundle.tN "SUPPRESSED_SENTINEL" Bundle.listD A s' s'.heap := by rw [hhp]; exact vx_Zq.moved hW0.alike (hN.kept hS.2.1)
  have h : ∀ w ∈ Bundle.ownAtoms own ic cls names, w.before args s' = true := vx_own hat' (vx_isRefq hU'.1) (vx_isRefq hN'.1) hU'.2.word hN'.2.word
  have hown' : s'.vm.findClass own = some m.cls := by rw [hvm]; exact hown
  have hins : (Cond.instantiable cls 6).before args s' = true := h _ (by simp [Bundle.ownAtoms])
  obtain ⟨vm₁, cX, kX, hfX, hkX, -, -, X₁, st1⟩ := Y.newCold hexec (own := own) (C := cls) (index := ik) (n := 6) hown' hk' hins hini'
    (g := F0 m pc ls rest) rfl (by rw [hb]; exact d0) (Nat.le_refl _) (Nat.le_refl _)
  generalize hT1 : (T.setVm vm₁).pushCell { cls := cX, slots := kX.instanceTypes.map defaultValue, vm := .none } = T1 at X₁ st1
  have hcat : (Value.ref T.heap.size).category = 1 := rfl
  have hcellA : T1.heap[T.heap.size]? = some (freshCell cX kX) := by rw [← hT1]; exact State.heap_pushCell_size _ _
  have d3' : decode c.code (pc + 3) = .ok (.dup, 1) := by rw [hb]; exact d3
  have d4' : decode c.code (pc + 4) = .ok (.ldc_w is, 3) := by rw [hb]; exact d4
  have hstr' : vk_R own is text sa s' := vk_R.warm hW0 hstr
  obtain ⟨U, hsteps, hrun, hend, hW, hsame, ce, hce, hO⟩ := X₁.ctorThrowS hexec htr (own := own) (cls := cls) (names := names) (ic := ic) hown' hcls hnames h (fun x hx => nomatch hx) hfX hkX hcellA (by rw [hhp, hT]; exact Nat.le_refl _) (msg := .ref sa) rfl
    (g := { method := m, pc := pc + 7, locals := ls, stack := .ref sa :: .ref T.heap.size :: .ref T.heap.size :: rest, locked := none }) rfl hsize rfl rfl (rest := rest) rfl
    (by rw [hb]; exact d7) (by rw [hb]; exact d10) hout hRframes (by simp only [List.map_cons, List.sum_cons, hcat]; omega) hlocks
  obtain ⟨f1, f2⟩ := vx_frame hsame
  rw [hhp] at f1 f2
  have hWs : s.WarmedH U.vm := State.WarmedH.trans hW0 hW
  have hcl : s.vm.findClass cls = some ce.cls := by
    have h9 := hO.cls
    rw [hvm] at h9
    exact h9
  have hall : s.sameButNew ({ U with vm := s.vm } : State) locs mc ms := by
    subst hA
    obtain ⟨e1, e2⟩ := hsame
    rw [State.setFrames_setFrames] at e1
    have h2 : (T.setVm s.vm).sameButNew ({ U with vm := s.vm } : State) [] (0 + 1) (0 + 6) := ⟨e1, e2⟩
    have h3 := X.same.trans h2
    rw [List.append_nil] at h3
    exact h3.mono hc hs
  refine ⟨U, ?_, .threw T.heap.size, hrun, hend, Or.inr ⟨T.heap.size, rfl, cls, ce, locs, hx U hWs.alike f1 (fun q hq => f2 q hq (fun z hz => nomatch hz)), hce, hO.vm, hcl, hWs, hall, hf⟩⟩
  refine st1 _ ?_
  show Steps p.tables e below (T1.setTop { method := m, pc := pc + 3, locals := ls, stack := .ref T.heap.size :: rest, locked := none }) _
  jvm_step X₁.here [X₁.here.top, hexec, d3', Value.category]
  exact X₁.ldcStringW hexec (own := own) (text := text) (index := is) (a := sa) hown' hstr'.1 hstr'.2
    (g := { method := m, pc := pc + 4, locals := ls, stack := .ref T.heap.size :: .ref T.heap.size :: rest, locked := none }) rfl d4' _ hsteps
end Ends
section Bodies
variable {l : Launch}
theorem vx_ofW {y : MethodName} {ws ws' : List Cond} {rm : Room} {Pc : Array Value → State → Prop} {Qc : Array Value → State → Outcome → State → Prop} {XC : String → State → State → Prop} {mc ms : Nat} {free : Addr → Prop} {cc : ByteArray} {maxL : Nat} {ret : Option FieldType}
    (hy : plainName y.cls = true) (hw : ws = Cond.code y cc maxL ret :: ws')
    (body : ∀ p e s m args below meth c s₁, BodyLoose p l y (headSpec ws rm) cc maxL ret e s m args below meth c s₁ → c.maxLocals = maxL → (∀ x ∈ c.exceptionTable.toList, False) → Pc args s →
      W p l e (headSpec ws rm).room s m args below meth c s.heap [] 0 0 (vx_MQ below Qc XC args s mc ms free) (entryFrame m args maxL)) : vx_Met l y ws rm Pc Qc XC mc ms free := by
  refine MetFree.of_bodyS (code := cc) (maxLocals := maxL) (ret := ret) hy ?_ ?_
  · intro args s m h hn
    obtain ⟨meth, c, h1, h2, h3, h4, h5, h6, -, -⟩ := Cond.code_spec hn (atoms_spec (ws := ws) h _ (by rw [hw]; exact List.mem_cons_self))
    exact ⟨meth, c, h1, h2, h3, h4, h5, h6⟩
  · intro p e s m args below meth c s₁ B hml hP _
    have hh0 : s₁.heap = s.heap := by rw [B.state]; rfl
    have ht : ∀ x ∈ c.exceptionTable.toList, False := by
      obtain ⟨meth9, c9, h1, h2, -, -, -, -, h7, -⟩ := Cond.code_spec B.named (atoms_spec (ws := ws) B.pre _ (by rw [hw]; exact List.mem_cons_self))
      cases Option.some.inj (h1.symm.trans B.method)
      cases Option.some.inj (h2.symm.trans (Stand.of_body B).code)
      intro x hx
      rw [Array.isEmpty_iff.mp h7] at hx
      cases hx
    obtain ⟨t, a1, o, b1, b2, b3⟩ := body p e s m args below meth c s₁ B hml ht hP s₁ hh0 (Stand.of_body B)
    exact ⟨t, o, a1, b1, b2, b3⟩
/-- the table of a body with handlers -/
theorem vx_table {p : Program} {x y : MethodName} {S : Spec} {cc bytes : ByteArray} {maxL maxL' : Nat} {ret ret' : Option FieldType} {e : Env} {s s₁ : State} {m : MethodId} {args : Array Value} {below : List Frame} {meth : Method} {c : Code} {hh : List (Nat × Nat × Nat × Nat)}
    (B : BodyLoose p l y S cc maxL ret e s m args below meth c s₁) (h : (Cond.codeWith y bytes maxL' ret' hh).before args s = true) : c.exceptionTable.toList = tableOf hh := by
  obtain ⟨m9, meth9, c9, hn9, h1, h2, -, -, h6, -⟩ := Cond.codeWith_spec h
  cases Option.some.inj (hn9.symm.trans B.named)
  cases Option.some.inj (h1.symm.trans B.method)
  cases Option.some.inj (h2.symm.trans (Stand.of_body B).code)
  rw [← h6, table_eq]
end Bodies
end VXA
/-! ===== END ===== -/
/-! ===== BEGIN a static call of a method with an exception table ===== -/
section VXS
variable {p : Program} {l : Launch} {e : Env} {R : Room} {s : State} {m : MethodId} {args : Array Value} {below : List Frame} {meth : Method} {c : Code} {T : State} {H : Heap} {locs : List Loc} {cells slots : Nat}
abbrev vx_CSW (R : Room) (s : State) (args : Array Value) (own : String) (index : Nat) (y : MethodName) (bytes : ByteArray) (maxL : Nat) (ret : Option FieldType) (hh : List (Nat × Nat × Nat × Nat)) (ws : List Cond) (rm : Room) (mc ms n : Nat) : Prop :=
  (rm.cells = mc ∧ rm.slots = ms ∧ rm.frames + 1 ≤ R.frames ∧ 8 + (maxL + 11) + rm.locals ≤ R.locals ∧ (∀ w ∈ ws, ∀ (a' : Array Value) (U : State), s.WarmedH U.vm → w.before a' U = true) ∧ Cond.codeWith y bytes maxL ret hh ∈ ws) ∧
  (Cond.codeWith y bytes maxL ret hh).before args s = true ∧ (Cond.initialized y.cls).before args s = true ∧ (y.cls ≠ "java/lang/invoke/MethodHandle" ∧ y.cls ≠ "java/lang/invoke/VarHandle") ∧
  (∀ sig, parseMethodDescriptor y.desc = some sig → n = sig.parameters.length) ∧ (Cond.methodLink own index y).before args s = true ∧ (Cond.static y).before args s = true
theorem vx_cwSW {own : String} {index maxL mc ms : Nat} {y : MethodName} {bytes : ByteArray} {ret : Option FieldType} {hh : List (Nat × Nat × Nat × Nat)} {Ts ws ws' : List Cond} {rm : Room} (n : Nat) (ht : ∀ w ∈ Ts, w.before args s = true) (hT : GoodIn Ts (va_wsS own index y ws)) (hw : ws = Cond.codeWith y bytes maxL ret hh :: ws') (hrc : rm.cells = mc) (hrs : rm.slots = ms)
    (hd : y.cls ≠ "java/lang/invoke/MethodHandle" ∧ y.cls ≠ "java/lang/invoke/VarHandle" ∧ (parseMethodDescriptor y.desc).map (fun d => d.parameters.length) = some n) (hR : rm.frames + 1 ≤ R.frames ∧ 8 + (maxL + 11) + rm.locals ≤ R.locals) :
    vx_CSW R s args own index y bytes maxL ret hh ws rm mc ms n := by
  have ok : ∀ w ∈ va_wsS own index y ws, w.before args s = true := fun w h => ht w (hT w h).1
  have hG : GoodIn Ts ws := fun w h => hT w (by unfold va_wsS; exact List.mem_append_right _ h)
  have hc : Cond.codeWith y bytes maxL ret hh ∈ ws := by rw [hw]; exact List.mem_cons_self
  refine ⟨⟨hrc, hrs, hR.1, hR.2, pay_in ht hG, hc⟩, ht _ (hG _ hc).1, ok _ (by simp [va_wsS]), ⟨hd.1, hd.2.1⟩, fun sig h => ?_, ok _ (by simp [va_wsS]), ok _ (by simp [va_wsS])⟩
  have h2 := hd.2.2
  rw [h] at h2
  exact (Option.some.inj h2).symm
theorem vx_callSW (X : Stand p l e R s m args below meth c T locs cells slots) (hexec : p.tables.exec = Jvm.exec) {own : String} {index : Nat} {y : MethodName} {bytes : ByteArray} {maxL : Nat} {ret : Option FieldType} {hh : List (Nat × Nat × Nat × Nat)}
    (hown : s.vm.findClass own = some m.cls) (hlink : (Cond.methodLink own index y).before args s = true) (hstat : (Cond.static y).before args s = true) (hinit : (Cond.initialized y.cls).before args s = true)
    (hcode : (Cond.codeWith y bytes maxL ret hh).before args s = true) (hy : y.cls ≠ "java/lang/invoke/MethodHandle" ∧ y.cls ≠ "java/lang/invoke/VarHandle")
    {W9 : Nat} {Pre : Pt → Array Value → Prop} {Post : Pt → Array Value → Option Value → Pt → Prop} (hK : Back l R p e below s args y 3 W9 Pre Post)
    {g : JFrame} (hg : g.method = m) (hsize : g.locals.size = c.maxLocals) {argsL rest : List Value} (hlen : ∀ sig, parseMethodDescriptor y.desc = some sig → argsL.length = sig.parameters.length)
    (hstack : g.stack = argsL.reverse ++ rest) (hW : 2 * g.monitorRoom + (rest.map fun v => v.category).sum ≤ W9) (hdg : decode c.code g.pc = .ok (.invokestatic index, 3))
    (hpre : ∀ vm₁, s.WarmedH vm₁ → Pre ⟨T.setVm vm₁, locs, cells, slots⟩ argsL.toArray) :
    ∃ (v : Option Value) (vm₁ : Vm) (B : Pt), s.WarmedH vm₁ ∧ Stand p l e R s m args below meth c B.U B.locs B.cells B.slots ∧ Post ⟨T.setVm vm₁, locs, cells, slots⟩ argsL.toArray v B ∧
      ∀ target, Steps p.tables e below (B.U.setTop { g with pc := g.pc + 3, stack := v.toList ++ rest }) target → Steps p.tables e below (T.setTop g) target := by
  obtain ⟨mk, methM, cM, hnamed, hmethM, -, -, -, -, -, -, hsigM⟩ := Cond.codeWith_spec hcode
  have hstatic : methM.isStatic = true := Cond.static_spec hnamed hmethM hstat
  obtain ⟨kP, hkP, -⟩ := className_of_methodNamed hnamed
  have hinitP : kP.init = .initialized := Cond.initialized_spec (findClass_of_methodNamed hnamed) hkP hinit
  obtain ⟨vm₁, X₁, hstep₁⟩ := X.invokestatic hexec hown hlink hnamed hmethM hstatic hkP hinitP hy (g := g) hg (argsL := argsL) (rest := rest) (hlen _ hsigM) hstack hdg
  obtain ⟨v, B, X', hpost, hsteps⟩ := hK m meth c ⟨T.setVm vm₁, locs, cells, slots⟩ { g with stack := rest } (.invokestatic index) mk argsL.toArray X₁ hg hsize hdg hW (X₁.named hnamed) (hpre vm₁ X₁.warmed)
  exact ⟨v, vm₁, B, X₁.warmed, X', hpost, fun target h => hstep₁ _ fun acts => by rw [doInvoke_state]; exact hsteps.trans h⟩
theorem vx_runSW {y : MethodName} {bytes cc : ByteArray} {maxL nL mc ms n index : Nat} {ret : Option FieldType} {hh : List (Nat × Nat × Nat × Nat)} {ws : List Cond} {rm : Room} {Pc : Array Value → State → Prop} {Qc : Array Value → State → Outcome → State → Prop} {free : Addr → Prop} {Ts : List Cond} {own : String} {As rest : List Value} {g : JFrame}
    (S : CallFix p m c cc nL s args Ts own) (hM : Met l y ws rm Pc Qc mc ms free) (cw : vx_CSW R s args own index y bytes maxL ret hh ws rm mc ms n) (hp : PreS s H Pc As)
    (hg : g.method = m) (hn : As.length = n) (hsize : g.locals.size = nL) (hstack : g.stack = As.reverse ++ rest) (hW : 2 * g.monitorRoom + (rest.map fun v => v.category).sum ≤ 8) (hdg : decode cc g.pc = .ok (.invokestatic index, 3)) (hf : cells + mc ≤ R.cells ∧ slots + ms ≤ R.slots) :
    va_Run p l e R s m args below meth c H locs cells slots mc ms g rest (Qc As.toArray) (free) := by
  obtain ⟨⟨hrc, hrs, hfr, hlo, hws, hcw⟩, hcode, hini, hy, hlen, hl, hstt⟩ := cw
  have hK : Back l R p e below s args y 3 8 (PreOf R mc ms Pc) (PostOf Qc mc ms free) := va_backW (hh := hh) (bytes := bytes) (maxL := maxL) (ret := ret) hM hp.1 hrc hrs hfr hlo hws hcw (fun a' U hW => word_at hW (Or.inl (by first | rfl | simp [Cond.onTables, Cond.keeps, Cond.steady])) hini)
  obtain ⟨hx, hb, hml, ho, -⟩ := S
  intro T hT X
  obtain ⟨v, vm₁, ⟨U', l2, c2, s2⟩, hW₁, X', ⟨g', mk, t, L, e1, e2, hq, h1, hL, h2, h3⟩, st⟩ := vx_callSW X hx (hh := hh) (bytes := bytes) (maxL := maxL) (ret := ret) ho hl hstt hini hcode hy hK hg (hsize.trans hml.symm) (argsL := As) (rest := rest) (fun sig h => hn.trans (hlen sig h)) hstack hW (by rw [hb]; exact hdg)
    (fun vm₁ hW₁ => ⟨hf.1, hf.2, hp.2 (T.setVm vm₁) hT hW₁⟩)
  dsimp only [Pt.U, Pt.locs, Pt.cells, Pt.slots] at X' e1 e2 h1 h2 h3 st
  subst h1; subst h2; subst h3
  exact ⟨v, (T.setVm vm₁).calling g' mk As.toArray, t, U', L, hT, X', hL, e1, e2, hq, st⟩
/-- not caught here, past rows that name other classes: it goes on to the caller -/
theorem vx_outP {p : Program} {l : Launch} {e : Env} {R : Room} {s : State} {m : MethodId} {args : Array Value} {below : List Frame} {meth : Method} {c : Code} {H : Heap} {locs : List Loc} {cells slots : Nat} {free : Addr → Prop} {ls : Array Slot} {rest : List Value} {Qc : Array Value → State → Outcome → State → Prop} {XC : String → State → State → Prop}
    {pc : Nat} {own E : String} {ce : Cell} {q : Addr} {mc ms : Nat} (hown : s.vm.findClass own = some m.cls) (hlocks : meth.locks = false)
    (hpass : ∀ z ∈ c.exceptionTable.toList, covers z pc = false ∨ (z.catchType ≠ 0 ∧ ∃ nm : String, (Cond.classLink own z.catchType nm).before args s = true ∧ va_Nc E nm s)) (hcell : H[q]? = some ce) (hv : ce.vm = .none) (hcl : s.vm.findClass E = some ce.cls)
    (hx : ∀ t : State, t.heap = H → s.vm.Alike t.vm → XC E s t) (hf : ∀ z ∈ locs, free z.base) (hc : cells ≤ mc) (hs : slots ≤ ms) :
    vx_W p l e R s m args below meth c H locs cells slots (vx_MQ below Qc XC args s mc ms free) (F0 m pc ls rest) q := by
  intro T hT X
  have hpl : e.platform.magicAccessors = ({} : Platform).magicAccessors := by rw [X.admits.platform]
  obtain ⟨vm', hW', X', st⟩ := X.outThrough hlocks q (g := F0 m pc ls rest) rfl rfl rfl (cell := ce) (by rw [hT]; exact hcell) (by rw [hv]; rfl)
    (by obtain ⟨k9, h9, -⟩ := Vm.findClass_spec hcl; exact ⟨k9, h9⟩) (fun z hz => by
      rcases hpass z hz with h | ⟨hz0, nm, hl1, hn1⟩
      · exact Or.inl h
      · obtain ⟨c6, hc6, hcl6⟩ := Cond.classLink_spec hown hl1 e.platform hpl
        obtain ⟨a8, b8, h1, h2, h3⟩ := hn1
        cases Option.some.inj (h1.symm.trans hcl)
        cases Option.some.inj (h2.symm.trans hc6)
        exact Or.inr ⟨hz0, _, hcl6, h3⟩)
  obtain ⟨g₀, hfr⟩ := X'.frames_eq
  have hcell9 : ((T.setVm vm').setFrames (.throwing q :: below)).heap[q]? = some ce := by
    show T.heap[q]? = some ce
    rw [hT]; exact hcell
  have hend : Ended ((T.setVm vm').setFrames (.throwing q :: below)) below (.threw q) := State.frames_setFrames _ (State.cur_lt_of_frames hfr)
  refine ⟨(T.setVm vm').setFrames (.throwing q :: below), ?_, .threw q, X'.here.running, hend, Or.inr ⟨q, rfl, E, ce, locs, hx _ hT (X'.ends _).1.alike, hcell9, hv, hcl, (X'.ends _).1, (X'.ends _).2.mono hc hs, hf⟩⟩
  rw [X.pushThrowing_eq]
  exact st
/-- a thing of a world lies in the heap -/
theorem vx_lt {D : va_G} {cl : List vw_C} {ws : va_W} {H1 : Heap} (h : va_P D cl ws H1) {k : Nat} {q : Nat × va_E} (hk : ws[k]? = some q) : q.1 < H1.size := (h k q hk).lt
end VXS
/-! ===== END ===== -/
/-! ===== BEGIN methods with a table of their own: called by a name, returning or throwing ===== -/
section VXH
/-! vx_backW, vx_callVX, vx_callSX, vx_callVW, vx_runVW, vx_runVX, vx_runSX, vx_ofWH follow the same proofs as their sisters above (Free/Laws.lean, Shelf42/LK1.lean); vx_outP calls Shelf42/NT130.lean (outThrough). -/
section
variable {l : Launch} {R : Room} {p : Program} {e : Env} {below : List Frame} {s : State} {sargs : Array Value} {y : MethodName} {len W9 : Nat}
theorem vx_backW {ws : List Cond} {rm : Room} {Pc : Array Value → State → Prop} {Qc : Array Value → State → Outcome → State → Prop} {XC : String → State → State → Prop} {mc ms : Nat} {free : Addr → Prop} {bytes : ByteArray} {maxL : Nat} {ret : Option FieldType} {hh : List (Nat × Nat × Nat × Nat)}
    (hM : vx_Met l y ws rm Pc Qc XC mc ms free) (hblind : FrameBlind Pc) (hrc : rm.cells = mc) (hrs : rm.slots = ms)
    (hframes : rm.frames + 1 ≤ R.frames) (hlocals : W9 + (maxL + 11) + rm.locals ≤ R.locals)
    (hws : ∀ w ∈ ws, ∀ a' U, s.WarmedH U.vm → w.before a' U = true) (hcode : Cond.codeWith y bytes maxL ret hh ∈ ws) (hinit : ∀ a' U, s.WarmedH U.vm → (Cond.initialized y.cls).before a' U = true) :
    vx_Back l R p e below s sargs y len W9 (PreOf R mc ms Pc) (PostOf Qc mc ms free) (vx_Post XC mc ms free) := by
  intro m meth c A g ig mk a X hg hsize hdg hW hn hp
  have h1 : (headSpec ws rm).pre.before a A.U = true := atoms_intro fun w hw => hws w hw _ _ X.warmed
  have h2 : (Cond.codeWith y bytes maxL ret hh).before a A.U = true := hws _ hcode _ _ X.warmed
  have h3 : (Cond.initialized y.cls).before a A.U = true := hinit _ _ X.warmed
  have h4 : A.cells + (headSpec ws rm).room.cells ≤ R.cells := by rw [show (headSpec ws rm).room.cells = mc from hrc]; exact hp.1
  have h5 : A.slots + (headSpec ws rm).room.slots ≤ R.slots := by rw [show (headSpec ws rm).room.slots = ms from hrs]; exact hp.2.1
  have hPc : Pc a (A.U.calling g mk a) := hblind _ _ _ _ hp.2.2
  obtain ⟨U, Ls, c0, s0⟩ := A
  dsimp only [Pt.U, Pt.locs, Pt.cells, Pt.slots] at h1 h2 h3 h4 h5 X hn hPc ⊢
  obtain ⟨m9, methY, cY, hn9, hmY, hcY, -, hlY, -⟩ := Cond.codeWith_spec h2
  cases Option.some.inj (hn9.symm.trans hn)
  obtain ⟨kY, hkY, -⟩ := className_of_methodNamed hn
  have hinitY : kY.init = .initialized := Cond.initialized_spec (findClass_of_methodNamed hn) hkY h3
  have h : At U g.method c below := by rw [hg]; exact X.here
  have hlocals9 : W9 + (maxL + 11) + (headSpec ws rm).room.locals ≤ R.locals := hlocals
  have happ : (headSpec ws rm).appliesLoose y e.platform (U.calling g mk a) = true :=
    Spec.appliesLoose_calling (g := g) h hdg hn hkY hinitY
      (X.room_calling (g := g) (R' := (headSpec ws rm).room) hsize hmY hcY hframes (by rw [hlY]; omega) h4 h5) h1
  obtain ⟨mid, hmid⟩ := h.above
  have hfr : (U.setTop g).frames = (.java g :: mid) ++ below := by rw [State.frames_setTop' g h.top, hmid]; rfl
  obtain ⟨o, s₂, hsteps, -, hend, hq⟩ := Steps.callFree hM p X.admits X.cas X.clock (acts := []) hfr happ hPc trivial
  have hq' : vx_Q Qc XC mc ms free a (U.calling g mk a) o s₂ := hq
  rw [State.frames_setTop' g h.top] at hend
  obtain ⟨g₀, hg0⟩ := Option.isSome_iff_exists.mp h.top
  obtain ⟨r, hr⟩ := State.topJava?_eq_some.mp hg0
  have hr' : (({ U with heap := s₂.heap, slotsUsed := s₂.slotsUsed } : State).setVm s₂.vm).frames = .java g₀ :: r := hr
  rcases hq' with ⟨hqc, L, hfe, hL⟩ | ⟨q, rfl, E, ce, L, hx, hce, hcv, hcl, hW₂, hsm, hL⟩
  · obtain ⟨⟨v, rfl⟩, hW₂, e2, q2, q3, q4, q5, q6⟩ := id hfe
    have e3 : s₂ = ({ (U.calling g mk a).setFrames s₂.frames with heap := s₂.heap, slotsUsed := s₂.slotsUsed } : State).setVm s₂.vm := by
      have : s₂ = ({ s₂ with vm := (U.calling g mk a).vm } : State).setVm s₂.vm := rfl
      rw [e2] at this
      exact this
    obtain ⟨c₂, i₂, len₂, hc₂, hd₂, hf₂⟩ := hend
    have hW' : U.WarmedH s₂.vm := hW₂
    have hcc : c₂ = c := by
      have h1 : s₂.code? g.method = U.code? g.method := by
        rw [State.code?_eq, State.code?_eq, hW'.alike.method?]
      exact Option.some.inj (hc₂.symm.trans (h1.trans h.code))
    subst hcc
    have hlen : len₂ = len := by rw [hdg] at hd₂; cases hd₂; rfl
    subst hlen
    have hs₂ : s₂ = (({ U with heap := s₂.heap, slotsUsed := s₂.slotsUsed } : State).setVm s₂.vm).setTop { g with pc := g.pc + len₂, stack := v.toList ++ g.stack } := by
      refine e3.trans ?_
      rw [hf₂, State.calling_eq h.top, State.setFrames_setFrames, State.setTop_of_frames _ hr', hr]
      rfl
    have hsame : U.sameButNew ({ U with heap := s₂.heap, slotsUsed := s₂.slotsUsed } : State) L mc ms := by
      refine ⟨?_, q2, q3, q4, q5, q6⟩
      obtain ⟨t, ht, -⟩ := State.frames_cons hr
      show ({ U with heap := s₂.heap, slotsUsed := s₂.slotsUsed } : State) = { U.setFrames U.frames with heap := s₂.heap, slotsUsed := s₂.slotsUsed }
      rw [State.setFrames_self ht]
    subst hg
    refine Or.inl ⟨v, ⟨(({ U with heap := s₂.heap, slotsUsed := s₂.slotsUsed } : State).setVm s₂.vm), Ls ++ L, c0 + mc, s0 + ms⟩,
      ⟨X.admits, X.cas, X.clock, X.frames, X.room, X.hears, X.method, X.code, (X.here.setHeapUsed s₂.heap s₂.slotsUsed).setVm hW'.alike, X.tail, State.WarmedH.trans X.warmed hW', X.limits, X.bytes, X.same.trans (hsame.setVm s.vm)⟩,
      ⟨g, mk, s₂, L, rfl, rfl, hqc, rfl, hL, rfl, rfl⟩, ?_⟩
    show Steps p.tables e below _ ((({ U with heap := s₂.heap, slotsUsed := s₂.slotsUsed } : State).setVm s₂.vm).setTop { g with pc := g.pc + len₂, stack := v.toList ++ g.stack })
    rw [← hs₂]
    exact hsteps
  · obtain ⟨e2, q2, q3, q4, q5, q6⟩ := id hsm
    have e3 : s₂ = ({ (U.calling g mk a).setFrames s₂.frames with heap := s₂.heap, slotsUsed := s₂.slotsUsed } : State).setVm s₂.vm := by
      have : s₂ = ({ s₂ with vm := (U.calling g mk a).vm } : State).setVm s₂.vm := rfl
      rw [e2] at this
      exact this
    have hf₂ : s₂.frames = .throwing q :: .java g :: U.frames.tail := hend
    have hW' : U.WarmedH s₂.vm := hW₂
    have hs₂ : s₂ = ((({ U with heap := s₂.heap, slotsUsed := s₂.slotsUsed } : State).setVm s₂.vm).setTop g).pushFrame (.throwing q) := by
      refine e3.trans ?_
      rw [hf₂, State.calling_eq h.top, State.setFrames_setFrames, State.pushFrame, State.frames_setTop _ hr', State.setTop_of_frames _ hr', State.setFrames_setFrames, hr]
      rfl
    have hsame : U.sameButNew ({ U with heap := s₂.heap, slotsUsed := s₂.slotsUsed } : State) L mc ms := by
      refine ⟨?_, q2, q3, q4, q5, q6⟩
      obtain ⟨t, ht, -⟩ := State.frames_cons hr
      show ({ U with heap := s₂.heap, slotsUsed := s₂.slotsUsed } : State) = { U.setFrames U.frames with heap := s₂.heap, slotsUsed := s₂.slotsUsed }
      rw [State.setFrames_self ht]
    subst hg
    refine Or.inr ⟨q, ⟨(({ U with heap := s₂.heap, slotsUsed := s₂.slotsUsed } : State).setVm s₂.vm), Ls ++ L, c0 + mc, s0 + ms⟩,
      ⟨X.admits, X.cas, X.clock, X.frames, X.room, X.hears, X.method, X.code, (X.here.setHeapUsed s₂.heap s₂.slotsUsed).setVm hW'.alike, X.tail, State.WarmedH.trans X.warmed hW', X.limits, X.bytes, X.same.trans (hsame.setVm s.vm)⟩,
      ⟨g, mk, s₂, L, E, ce, rfl, rfl, hx, hce, hcv, hcl, rfl, hL, rfl, rfl⟩, ?_⟩
    show Steps p.tables e below _ (((({ U with heap := s₂.heap, slotsUsed := s₂.slotsUsed } : State).setVm s₂.vm).setTop g).pushFrame (.throwing q))
    rw [← hs₂]
    exact hsteps
end
variable {p : Program} {l : Launch} {e : Env} {R : Room} {s : State} {m : MethodId} {args : Array Value} {below : List Frame} {meth : Method} {c : Code} {T : State} {H : Heap} {locs : List Loc} {cells slots : Nat}
theorem vx_callVX (X : Stand p l e R s m args below meth c T locs cells slots) (hexec : p.tables.exec = Jvm.exec) {own C : String} {index : Nat} {y : MethodName} {bytes : ByteArray} {maxL : Nat} {ret : Option FieldType} {hh : List (Nat × Nat × Nat × Nat)}
    (hown : s.vm.findClass own = some m.cls) (hlink : (Cond.methodLink own index y).before args s = true) (hinst : (Cond.instanceMethod y).before args s = true) (hsel : (Cond.selects C y y).before args s = true)
    (hcode : (Cond.codeWith y bytes maxL ret hh).before args s = true) (hy : y.cls ≠ "java/lang/invoke/MethodHandle" ∧ y.cls ≠ "java/lang/invoke/VarHandle")
    {W9 : Nat} {Pre : Pt → Array Value → Prop} {Post : Pt → Array Value → Option Value → Pt → Prop} {PostX : Pt → Array Value → Addr → Pt → Prop} (hK : vx_Back l R p e below s args y 3 W9 Pre Post PostX)
    {b : Addr} {cellB : Cell} (hcell : T.heap[b]? = some cellB) (hobj : cellB.vm.isStatics = false) (hcls : s.vm.findClass C = some cellB.cls)
    {g : JFrame} (hg : g.method = m) (hsize : g.locals.size = c.maxLocals) {argsL rest : List Value} (hlen : ∀ sig, parseMethodDescriptor y.desc = some sig → argsL.length = sig.parameters.length)
    (hstack : g.stack = argsL.reverse ++ .ref b :: rest) (hW : 2 * g.monitorRoom + (rest.map fun v => v.category).sum ≤ W9) (hdg : decode c.code g.pc = .ok (.invokevirtual index, 3))
    (hpre : ∀ vm₁, s.WarmedH vm₁ → Pre ⟨T.setVm vm₁, locs, cells, slots⟩ (Value.ref b :: argsL).toArray) :
    (∃ (v : Option Value) (vm₁ : Vm) (B : Pt), s.WarmedH vm₁ ∧ Stand p l e R s m args below meth c B.U B.locs B.cells B.slots ∧ Post ⟨T.setVm vm₁, locs, cells, slots⟩ (Value.ref b :: argsL).toArray v B ∧
      ∀ target, Steps p.tables e below (B.U.setTop { g with pc := g.pc + 3, stack := v.toList ++ rest }) target → Steps p.tables e below (T.setTop g) target) ∨
    (∃ (q : Addr) (vm₁ : Vm) (B : Pt), s.WarmedH vm₁ ∧ Stand p l e R s m args below meth c B.U B.locs B.cells B.slots ∧ PostX ⟨T.setVm vm₁, locs, cells, slots⟩ (Value.ref b :: argsL).toArray q B ∧
      Steps p.tables e below (T.setTop g) ((B.U.setTop { g with stack := rest }).pushFrame (.throwing q))) := by
  obtain ⟨mk, methM, hnamed, hmethM, hstM, habM⟩ := Cond.instanceMethod_spec hinst
  obtain ⟨m8, methM', cM, hn8, hmethM', -, -, -, -, -, -, hsigM⟩ := Cond.codeWith_spec hcode
  cases Option.some.inj (hn8.symm.trans hnamed)
  cases hmethM.symm.trans hmethM'
  obtain ⟨c2, r2, m2, q1, q2, q3, q4, kP, hkP, hkPi⟩ := Cond.selects_spec hsel
  cases hcls.symm.trans q1
  cases (State.methodFound?_of_named hnamed hy).symm.trans q2
  cases hnamed.symm.trans q3
  have hselP : selectMethod e.platform s.vm cellB.cls mk = .method mk := by rw [Launch.admits_selectMethod X.admits]; exact q4
  obtain ⟨vm₁, X₁, hstep₁⟩ := X.invokevirtual hexec hown hlink hnamed hmethM hstM hkP hkPi hy (a := b) (cell := cellB) hcell
    (fun z h => by rw [h] at hobj; cases hobj) hselP hmethM habM hkP hkPi (g := g) hg (argsL := argsL) (rest := rest) (hlen _ hsigM) hstack hdg
  rcases hK m meth c ⟨T.setVm vm₁, locs, cells, slots⟩ { g with stack := rest } (.invokevirtual index) mk (Value.ref b :: argsL).toArray X₁ hg hsize hdg hW (X₁.named hnamed) (hpre vm₁ X₁.warmed) with ⟨v, B, X', hpost, hsteps⟩ | ⟨q, B, X', hpost, hsteps⟩
  · exact Or.inl ⟨v, vm₁, B, X₁.warmed, X', hpost, fun target h => hstep₁ _ fun acts => by rw [doInvoke_state]; exact hsteps.trans h⟩
  · exact Or.inr ⟨q, vm₁, B, X₁.warmed, X', hpost, hstep₁ _ fun acts => by rw [doInvoke_state]; exact hsteps⟩
theorem vx_callSX (X : Stand p l e R s m args below meth c T locs cells slots) (hexec : p.tables.exec = Jvm.exec) {own : String} {index : Nat} {y : MethodName} {bytes : ByteArray} {maxL : Nat} {ret : Option FieldType} {hh : List (Nat × Nat × Nat × Nat)}
    (hown : s.vm.findClass own = some m.cls) (hlink : (Cond.methodLink own index y).before args s = true) (hstat : (Cond.static y).before args s = true) (hinit : (Cond.initialized y.cls).before args s = true)
    (hcode : (Cond.codeWith y bytes maxL ret hh).before args s = true) (hy : y.cls ≠ "java/lang/invoke/MethodHandle" ∧ y.cls ≠ "java/lang/invoke/VarHandle")
    {W9 : Nat} {Pre : Pt → Array Value → Prop} {Post : Pt → Array Value → Option Value → Pt → Prop} {PostX : Pt → Array Value → Addr → Pt → Prop} (hK : vx_Back l R p e below s args y 3 W9 Pre Post PostX)
    {g : JFrame} (hg : g.method = m) (hsize : g.locals.size = c.maxLocals) {argsL rest : List Value} (hlen : ∀ sig, parseMethodDescriptor y.desc = some sig → argsL.length = sig.parameters.length)
    (hstack : g.stack = argsL.reverse ++ rest) (hW : 2 * g.monitorRoom + (rest.map fun v => v.category).sum ≤ W9) (hdg : decode c.code g.pc = .ok (.invokestatic index, 3))
    (hpre : ∀ vm₁, s.WarmedH vm₁ → Pre ⟨T.setVm vm₁, locs, cells, slots⟩ argsL.toArray) :
    (∃ (v : Option Value) (vm₁ : Vm) (B : Pt), s.WarmedH vm₁ ∧ Stand p l e R s m args below meth c B.U B.locs B.cells B.slots ∧ Post ⟨T.setVm vm₁, locs, cells, slots⟩ argsL.toArray v B ∧
      ∀ target, Steps p.tables e below (B.U.setTop { g with pc := g.pc + 3, stack := v.toList ++ rest }) target → Steps p.tables e below (T.setTop g) target) ∨
    (∃ (q : Addr) (vm₁ : Vm) (B : Pt), s.WarmedH vm₁ ∧ Stand p l e R s m args below meth c B.U B.locs B.cells B.slots ∧ PostX ⟨T.setVm vm₁, locs, cells, slots⟩ argsL.toArray q B ∧
      Steps p.tables e below (T.setTop g) ((B.U.setTop { g with stack := rest }).pushFrame (.throwing q))) := by
  obtain ⟨mk, methM, cM, hnamed, hmethM, -, -, -, -, -, -, hsigM⟩ := Cond.codeWith_spec hcode
  have hstatic : methM.isStatic = true := Cond.static_spec hnamed hmethM hstat
  obtain ⟨kP, hkP, -⟩ := className_of_methodNamed hnamed
  have hinitP : kP.init = .initialized := Cond.initialized_spec (findClass_of_methodNamed hnamed) hkP hinit
  obtain ⟨vm₁, X₁, hstep₁⟩ := X.invokestatic hexec hown hlink hnamed hmethM hstatic hkP hinitP hy (g := g) hg (argsL := argsL) (rest := rest) (hlen _ hsigM) hstack hdg
  rcases hK m meth c ⟨T.setVm vm₁, locs, cells, slots⟩ { g with stack := rest } (.invokestatic index) mk argsL.toArray X₁ hg hsize hdg hW (X₁.named hnamed) (hpre vm₁ X₁.warmed) with ⟨v, B, X', hpost, hsteps⟩ | ⟨q, B, X', hpost, hsteps⟩
  · exact Or.inl ⟨v, vm₁, B, X₁.warmed, X', hpost, fun target h => hstep₁ _ fun acts => by rw [doInvoke_state]; exact hsteps.trans h⟩
  · exact Or.inr ⟨q, vm₁, B, X₁.warmed, X', hpost, hstep₁ _ fun acts => by rw [doInvoke_state]; exact hsteps⟩
theorem vx_callVW (X : Stand p l e R s m args below meth c T locs cells slots) (hexec : p.tables.exec = Jvm.exec) {own C : String} {index : Nat} {y : MethodName} {bytes : ByteArray} {maxL : Nat} {ret : Option FieldType} {hh : List (Nat × Nat × Nat × Nat)}
    (hown : s.vm.findClass own = some m.cls) (hlink : (Cond.methodLink own index y).before args s = true) (hinst : (Cond.instanceMethod y).before args s = true) (hsel : (Cond.selects C y y).before args s = true)
    (hcode : (Cond.codeWith y bytes maxL ret hh).before args s = true) (hy : y.cls ≠ "java/lang/invoke/MethodHandle" ∧ y.cls ≠ "java/lang/invoke/VarHandle")
    {W9 : Nat} {Pre : Pt → Array Value → Prop} {Post : Pt → Array Value → Option Value → Pt → Prop} (hK : Back l R p e below s args y 3 W9 Pre Post)
    {b : Addr} {cellB : Cell} (hcell : T.heap[b]? = some cellB) (hobj : cellB.vm.isStatics = false) (hcls : s.vm.findClass C = some cellB.cls)
    {g : JFrame} (hg : g.method = m) (hsize : g.locals.size = c.maxLocals) {argsL rest : List Value} (hlen : ∀ sig, parseMethodDescriptor y.desc = some sig → argsL.length = sig.parameters.length)
    (hstack : g.stack = argsL.reverse ++ .ref b :: rest) (hW : 2 * g.monitorRoom + (rest.map fun v => v.category).sum ≤ W9) (hdg : decode c.code g.pc = .ok (.invokevirtual index, 3))
    (hpre : ∀ vm₁, s.WarmedH vm₁ → Pre ⟨T.setVm vm₁, locs, cells, slots⟩ (Value.ref b :: argsL).toArray) :
    ∃ (v : Option Value) (vm₁ : Vm) (B : Pt), s.WarmedH vm₁ ∧ Stand p l e R s m args below meth c B.U B.locs B.cells B.slots ∧ Post ⟨T.setVm vm₁, locs, cells, slots⟩ (Value.ref b :: argsL).toArray v B ∧
      ∀ target, Steps p.tables e below (B.U.setTop { g with pc := g.pc + 3, stack := v.toList ++ rest }) target → Steps p.tables e below (T.setTop g) target := by
  obtain ⟨mk, methM, hnamed, hmethM, hstM, habM⟩ := Cond.instanceMethod_spec hinst
  obtain ⟨m8, methM', cM, hn8, hmethM', -, -, -, -, -, -, hsigM⟩ := Cond.codeWith_spec hcode
  cases Option.some.inj (hn8.symm.trans hnamed)
  cases hmethM.symm.trans hmethM'
  obtain ⟨c2, r2, m2, q1, q2, q3, q4, kP, hkP, hkPi⟩ := Cond.selects_spec hsel
  cases hcls.symm.trans q1
  cases (State.methodFound?_of_named hnamed hy).symm.trans q2
  cases hnamed.symm.trans q3
  have hselP : selectMethod e.platform s.vm cellB.cls mk = .method mk := by rw [Launch.admits_selectMethod X.admits]; exact q4
  obtain ⟨vm₁, X₁, hstep₁⟩ := X.invokevirtual hexec hown hlink hnamed hmethM hstM hkP hkPi hy (a := b) (cell := cellB) hcell
    (fun z h => by rw [h] at hobj; cases hobj) hselP hmethM habM hkP hkPi (g := g) hg (argsL := argsL) (rest := rest) (hlen _ hsigM) hstack hdg
  obtain ⟨v, B, X', hpost, hsteps⟩ := hK m meth c ⟨T.setVm vm₁, locs, cells, slots⟩ { g with stack := rest } (.invokevirtual index) mk (Value.ref b :: argsL).toArray X₁ hg hsize hdg hW (X₁.named hnamed) (hpre vm₁ X₁.warmed)
  exact ⟨v, vm₁, B, X₁.warmed, X', hpost, fun target h => hstep₁ _ fun acts => by rw [doInvoke_state]; exact hsteps.trans h⟩
abbrev vx_CVW (R : Room) (s : State) (args : Array Value) (own C : String) (index : Nat) (y : MethodName) (bytes : ByteArray) (maxL : Nat) (ret : Option FieldType) (hh : List (Nat × Nat × Nat × Nat)) (ws : List Cond) (rm : Room) (mc ms n : Nat) : Prop :=
  (rm.cells = mc ∧ rm.slots = ms ∧ rm.frames + 1 ≤ R.frames ∧ 8 + (maxL + 11) + rm.locals ≤ R.locals ∧ (∀ w ∈ ws, ∀ (a' : Array Value) (U : State), s.WarmedH U.vm → w.before a' U = true) ∧ Cond.codeWith y bytes maxL ret hh ∈ ws) ∧
  (Cond.codeWith y bytes maxL ret hh).before args s = true ∧ (Cond.initialized y.cls).before args s = true ∧ (y.cls ≠ "java/lang/invoke/MethodHandle" ∧ y.cls ≠ "java/lang/invoke/VarHandle") ∧
  (∀ sig, parseMethodDescriptor y.desc = some sig → n = sig.parameters.length) ∧ (Cond.methodLink own index y).before args s = true ∧ (Cond.instanceMethod y).before args s = true ∧ (Cond.selects C y y).before args s = true
theorem vx_cwVW {own C : String} {index maxL mc ms : Nat} {y : MethodName} {bytes : ByteArray} {ret : Option FieldType} {hh : List (Nat × Nat × Nat × Nat)} {Ts ws ws' : List Cond} {rm : Room} (n : Nat) (ht : ∀ w ∈ Ts, w.before args s = true) (hT : GoodIn Ts (wsV own index C y ws)) (hw : ws = Cond.codeWith y bytes maxL ret hh :: ws') (hrc : rm.cells = mc) (hrs : rm.slots = ms)
    (hd : y.cls = C ∧ y.cls ≠ "java/lang/invoke/MethodHandle" ∧ y.cls ≠ "java/lang/invoke/VarHandle" ∧ (parseMethodDescriptor y.desc).map (fun d => d.parameters.length) = some n) (hR : rm.frames + 1 ≤ R.frames ∧ 8 + (maxL + 11) + rm.locals ≤ R.locals) :
    vx_CVW R s args own C index y bytes maxL ret hh ws rm mc ms n := by
  obtain ⟨hC, hd⟩ := hd
  subst hC
  have ok : ∀ w ∈ wsV own index y.cls y ws, w.before args s = true := fun w h => ht w (hT w h).1
  have hG : GoodIn Ts ws := fun w h => hT w (by unfold wsV; exact List.mem_append_right _ h)
  have hc : Cond.codeWith y bytes maxL ret hh ∈ ws := by rw [hw]; exact List.mem_cons_self
  refine ⟨⟨hrc, hrs, hR.1, hR.2, pay_in ht hG, hc⟩, ht _ (hG _ hc).1, ok _ (by simp [wsV]), ⟨hd.1, hd.2.1⟩, fun sig h => ?_, ok _ (by simp [wsV]), ok _ (by simp [wsV]), ok _ (by simp [wsV])⟩
  have h2 := hd.2.2
  rw [h] at h2
  exact (Option.some.inj h2).symm
theorem vx_runVW {y : MethodName} {bytes cc : ByteArray} {maxL nL mc ms n index : Nat} {ret : Option FieldType} {hh : List (Nat × Nat × Nat × Nat)} {ws : List Cond} {rm : Room} {Pc : Array Value → State → Prop} {Qc : Array Value → State → Outcome → State → Prop} {free : Addr → Prop} {Ts : List Cond} {own C : String} {b : Addr} {As rest : List Value} {g : JFrame}
    (S : CallFix p m c cc nL s args Ts own) (hM : Met l y ws rm Pc Qc mc ms free) (cw : vx_CVW R s args own C index y bytes maxL ret hh ws rm mc ms n) (hp : PreV s H C b Pc As)
    (hg : g.method = m) (hn : As.length = n) (hsize : g.locals.size = nL) (hstack : g.stack = As.reverse ++ .ref b :: rest) (hW : 2 * g.monitorRoom + (rest.map fun v => v.category).sum ≤ 8) (hdg : decode cc g.pc = .ok (.invokevirtual index, 3)) (hf : cells + mc ≤ R.cells ∧ slots + ms ≤ R.slots) :
    va_Run p l e R s m args below meth c H locs cells slots mc ms g rest (Qc (Value.ref b :: As).toArray) free := by
  obtain ⟨⟨hrc, hrs, hfr, hlo, hws, hcw⟩, hcode, hini, hy, hlen, hl, hin, hse⟩ := cw
  have hK : Back l R p e below s args y 3 8 (PreOf R mc ms Pc) (PostOf Qc mc ms free) := va_backW (hh := hh) (bytes := bytes) (maxL := maxL) (ret := ret) hM hp.1 hrc hrs hfr hlo hws hcw (fun a' U hW => word_at hW (Or.inl (by first | rfl | simp [Cond.onTables, Cond.keeps, Cond.steady])) hini)
  obtain ⟨hx, hb, hml, ho, -⟩ := S
  obtain ⟨-, ⟨cellB, hcB, hoB, hclB⟩, hPc⟩ := hp
  intro T hT X
  obtain ⟨v, vm₁, ⟨U', l2, c2, s2⟩, hW₁, X', ⟨g', mk, t, L, e1, e2, hq, h1, hL, h2, h3⟩, st⟩ := vx_callVW X hx (C := C) (hh := hh) (bytes := bytes) (maxL := maxL) (ret := ret) ho hl hin hse hcode hy hK (by rw [hT]; exact hcB) hoB hclB hg (hsize.trans hml.symm) (argsL := As) (rest := rest) (fun sig h => hn.trans (hlen sig h)) hstack hW (by rw [hb]; exact hdg)
    (fun vm₁ hW₁ => ⟨hf.1, hf.2, hPc (T.setVm vm₁) hT hW₁⟩)
  dsimp only [Pt.U, Pt.locs, Pt.cells, Pt.slots] at X' e1 e2 h1 h2 h3 st
  subst h1; subst h2; subst h3
  exact ⟨v, (T.setVm vm₁).calling g' mk (Value.ref b :: As).toArray, t, U', L, hT, X', hL, e1, e2, hq, st⟩
section
variable {y : MethodName} {bytes cc : ByteArray} {maxL nL mc ms n index : Nat} {ret : Option FieldType} {ws : List Cond} {rm : Room} {Pc : Array Value → State → Prop} {Qc : Array Value → State → Outcome → State → Prop} {XC : String → State → State → Prop} {free : Addr → Prop} {Ts : List Cond} {own C : String} {b : Addr} {As rest : List Value} {g : JFrame}
theorem vx_runVX {hh : List (Nat × Nat × Nat × Nat)} (S : CallFix p m c cc nL s args Ts own) (hM : vx_Met l y ws rm Pc Qc XC mc ms free) (cw : vx_CVW R s args own C index y bytes maxL ret hh ws rm mc ms n) (hp : PreV s H C b Pc As)
    (hg : g.method = m) (hn : As.length = n) (hsize : g.locals.size = nL) (hstack : g.stack = As.reverse ++ .ref b :: rest) (hW : 2 * g.monitorRoom + (rest.map fun v => v.category).sum ≤ 8) (hdg : decode cc g.pc = .ok (.invokevirtual index, 3)) (hf : cells + mc ≤ R.cells ∧ slots + ms ≤ R.slots) :
    vx_Run p l e R s m args below meth c H locs cells slots mc ms g rest (Qc (Value.ref b :: As).toArray) XC free := by
  obtain ⟨⟨hrc, hrs, hfr, hlo, hws, hcw⟩, hcode, hini, hy, hlen, hl, hin, hse⟩ := cw
  have hK : vx_Back l R p e below s args y 3 8 (PreOf R mc ms Pc) (PostOf Qc mc ms free) (vx_Post XC mc ms free) := vx_backW (hh := hh) (bytes := bytes) (maxL := maxL) (ret := ret) hM hp.1 hrc hrs hfr hlo hws hcw (fun a' U hW => word_at hW (Or.inl (by first | rfl | simp [Cond.onTables, Cond.keeps, Cond.steady])) hini)
  obtain ⟨hx, hb, hml, ho, -⟩ := S
  obtain ⟨-, ⟨cellB, hcB, hoB, hclB⟩, hPc⟩ := hp
  intro T hT X
  rcases vx_callVX X hx (C := C) (hh := hh) (bytes := bytes) (maxL := maxL) (ret := ret) ho hl hin hse hcode hy hK (by rw [hT]; exact hcB) hoB hclB hg (hsize.trans hml.symm) (argsL := As) (rest := rest) (fun sig h => hn.trans (hlen sig h)) hstack hW (by rw [hb]; exact hdg)
    (fun vm₁ hW₁ => ⟨hf.1, hf.2, hPc (T.setVm vm₁) hT hW₁⟩) with ⟨v, vm₁, ⟨U', l2, c2, s2⟩, hW₁, X', ⟨g', mk, t, L, e1, e2, hq, h1, hL, h2, h3⟩, st⟩ | ⟨q, vm₁, ⟨U', l2, c2, s2⟩, hW₁, X', ⟨g', mk, t, L, E, ce, e1, e2, hq, hce, hcv, hcl, h1, hL, h2, h3⟩, st⟩
  · dsimp only [Pt.U, Pt.locs, Pt.cells, Pt.slots] at X' e1 e2 h1 h2 h3 st
    subst h1; subst h2; subst h3
    exact Or.inl ⟨v, (T.setVm vm₁).calling g' mk (Value.ref b :: As).toArray, t, U', L, hT, X', hL, e1, e2, hq, st⟩
  · dsimp only [Pt.U, Pt.locs, Pt.cells, Pt.slots] at X' e1 e2 h1 h2 h3 st hcl
    subst h1; subst h2; subst h3
    exact Or.inr ⟨q, (T.setVm vm₁).calling g' mk (Value.ref b :: As).toArray, t, U', L, E, ce, hT, X', hL, e1, e2, hq, hce, hcv, vx_cls hW₁ hcl, st⟩
theorem vx_runSX {hh : List (Nat × Nat × Nat × Nat)} (S : CallFix p m c cc nL s args Ts own) (hM : vx_Met l y ws rm Pc Qc XC mc ms free) (cw : vx_CSW R s args own index y bytes maxL ret hh ws rm mc ms n) (hp : PreS s H Pc As)
    (hg : g.method = m) (hn : As.length = n) (hsize : g.locals.size = nL) (hstack : g.stack = As.reverse ++ rest) (hW : 2 * g.monitorRoom + (rest.map fun v => v.category).sum ≤ 8) (hdg : decode cc g.pc = .ok (.invokestatic index, 3)) (hf : cells + mc ≤ R.cells ∧ slots + ms ≤ R.slots) :
    vx_Run p l e R s m args below meth c H locs cells slots mc ms g rest (Qc As.toArray) XC free := by
  obtain ⟨⟨hrc, hrs, hfr, hlo, hws, hcw⟩, hcode, hini, hy, hlen, hl, hstt⟩ := cw
  have hK : vx_Back l R p e below s args y 3 8 (PreOf R mc ms Pc) (PostOf Qc mc ms free) (vx_Post XC mc ms free) := vx_backW (hh := hh) (bytes := bytes) (maxL := maxL) (ret := ret) hM hp.1 hrc hrs hfr hlo hws hcw (fun a' U hW => word_at hW (Or.inl (by first | rfl | simp [Cond.onTables, Cond.keeps, Cond.steady])) hini)
  obtain ⟨hx, hb, hml, ho, -⟩ := S
  intro T hT X
  rcases vx_callSX X hx (hh := hh) (bytes := bytes) (maxL := maxL) (ret := ret) ho hl hstt hini hcode hy hK hg (hsize.trans hml.symm) (argsL := As) (rest := rest) (fun sig h => hn.trans (hlen sig h)) hstack hW (by rw [hb]; exact hdg)
    (fun vm₁ hW₁ => ⟨hf.1, hf.2, hp.2 (T.setVm vm₁) hT hW₁⟩) with ⟨v, vm₁, ⟨U', l2, c2, s2⟩, hW₁, X', ⟨g', mk, t, L, e1, e2, hq, h1, hL, h2, h3⟩, st⟩ | ⟨q, vm₁, ⟨U', l2, c2, s2⟩, hW₁, X', ⟨g', mk, t, L, E, ce, e1, e2, hq, hce, hcv, hcl, h1, hL, h2, h3⟩, st⟩
  · dsimp only [Pt.U, Pt.locs, Pt.cells, Pt.slots] at X' e1 e2 h1 h2 h3 st
    subst h1; subst h2; subst h3
    exact Or.inl ⟨v, (T.setVm vm₁).calling g' mk As.toArray, t, U', L, hT, X', hL, e1, e2, hq, st⟩
  · dsimp only [Pt.U, Pt.locs, Pt.cells, Pt.slots] at X' e1 e2 h1 h2 h3 st hcl
    subst h1; subst h2; subst h3
    exact Or.inr ⟨q, (T.setVm vm₁).calling g' mk As.toArray, t, U', L, E, ce, hT, X', hL, e1, e2, hq, hce, hcv, vx_cls hW₁ hcl, st⟩
end
end VXH
theorem vx_ofWH {l : Launch} {y : MethodName} {ws ws' : List Cond} {rm : Room} {Pc : Array Value → State → Prop} {Qc : Array Value → State → Outcome → State → Prop} {XC : String → State → State → Prop} {mc ms : Nat} {free : Addr → Prop} {cc : ByteArray} {maxL : Nat} {ret : Option FieldType} {hh : List (Nat × Nat × Nat × Nat)}
    (hy : plainName y.cls = true) (hw : ws = Cond.codeWith y cc maxL ret hh :: ws')
    (body : ∀ p e s m args below meth c s₁, BodyLoose p l y (headSpec ws rm) cc maxL ret e s m args below meth c s₁ → c.maxLocals = maxL → Pc args s →
      W p l e (headSpec ws rm).room s m args below meth c s.heap [] 0 0 (vx_MQ below Qc XC args s mc ms free) (entryFrame m args maxL)) : vx_Met l y ws rm Pc Qc XC mc ms free := by
  refine MetFree.of_bodyS (code := cc) (maxLocals := maxL) (ret := ret) hy ?_ ?_
  · intro args s m h hn
    obtain ⟨m9, meth, c, hn9, h1, h2, h3, h4, -, h5, h6, -⟩ := Cond.codeWith_spec (atoms_spec (ws := ws) h _ (by rw [hw]; exact List.mem_cons_self))
    cases hn.symm.trans hn9
    exact ⟨meth, c, h1, h2, h3, h4, h5, h6⟩
  · intro p e s m args below meth c s₁ B hml hP _
    have hh0 : s₁.heap = s.heap := by rw [B.state]; rfl
    obtain ⟨t, a1, o, b1, b2, b3⟩ := body p e s m args below meth c s₁ B hml hP s₁ hh0 (Stand.of_body B)
    exact ⟨t, o, a1, b1, b2, b3⟩
/-! ===== END ===== -/

/-! ===== BEGIN printed: names, fields, word lists, decode rows ===== -/
def RX0 : String := "MarbleBench$Bath"
def TX0 : u_T := fun k => match k with
  | 0 => ("MarbleBench$Bath", "colours", "[I", true)
  | 1 => ("MarbleBench$Bath", "strengths", "[I", true)
  | 2 => ("MarbleBench$Bath", "cellsAway", "[I", true)
  | 3 => ("MarbleBench$Bath", "lineColours", "[I", true)
  | _ => ("MarbleBench$Bath", "lineStrengths", "[I", true)
def tyX0 : Nat → FieldType := fun k => match k with
  | 0 => .array .int
  | 1 => .array .int
  | 2 => .array .int
  | 3 => .array .int
  | _ => .array .int
abbrev wsX00 : List Cond := u_ws RX0 TX0 5
theorem nmX0 : ∀ a, a < 5 → ∀ b, b < 5 → a ≠ b → (TX0 a).2.1 ≠ (TX0 b).2.1 := by decide +kernel
theorem tyX0_ok : ∀ k, k < 5 → parseFieldDescriptor (TX0 k).2.2.1 = some (tyX0 k) := by decide +kernel
abbrev cX0_init : ByteArray := prog_2_method_1_code
def yX0_init : MethodName := ⟨RX0, "<init>", "()V"⟩
abbrev cX0_spread : ByteArray := prog_2_method_2_code
def yX0_spread : MethodName := ⟨RX0, "spread", "(IIII)I"⟩
abbrev cX0_countCellsAway : ByteArray := prog_2_method_3_code
def yX0_countCellsAway : MethodName := ⟨RX0, "countCellsAway", "(II)V"⟩
abbrev cX0_distance : ByteArray := prog_2_method_4_code
def yX0_distance : MethodName := ⟨RX0, "distance", "(III)I"⟩
abbrev cX0_shift : ByteArray := prog_2_method_5_code
def yX0_shift : MethodName := ⟨RX0, "shift", "(ZII)I"⟩
abbrev cX0_press : ByteArray := prog_2_method_6_code
def yX0_press : MethodName := ⟨RX0, "press", "()LMarbleBench$Print;"⟩
abbrev cX0_fade : ByteArray := prog_2_method_7_code
def yX0_fade : MethodName := ⟨RX0, "fade", "()V"⟩
abbrev cX0_empty : ByteArray := prog_2_method_8_code
def yX0_empty : MethodName := ⟨RX0, "empty", "()I"⟩
def RX1 : String := "MarbleBench$Book"
def TX1 : u_T := fun k => match k with
  | 0 => ("MarbleBench$Book", "sewing", "LMarbleBench$Sewing;", true)
  | 1 => ("MarbleBench$Book", "repairs", "LMarbleBench$Repairs;", true)
  | 2 => ("MarbleBench$Book", "speakers", "LMarbleBench$Speakers;", true)
  | 3 => ("MarbleBench$Book", "leavesInAll", "I", true)
  | 4 => ("MarbleBench$Book", "thickness", "I", true)
  | 5 => ("MarbleBench$Book", "isOld", "Z", true)
  | _ => ("MarbleBench$Book", "spine", "I", false)
def tyX1 : Nat → FieldType := fun k => match k with
  | 0 => .object "MarbleBench$Sewing"
  | 1 => .object "MarbleBench$Repairs"
  | 2 => .object "MarbleBench$Speakers"
  | 3 => .int
  | 4 => .int
  | 5 => .boolean
  | _ => .int
abbrev wsX10 : List Cond := u_ws RX1 TX1 7
theorem nmX1 : ∀ a, a < 7 → ∀ b, b < 7 → a ≠ b → (TX1 a).2.1 ≠ (TX1 b).2.1 := by decide +kernel
theorem tyX1_ok : ∀ k, k < 7 → parseFieldDescriptor (TX1 k).2.2.1 = some (tyX1 k) := by decide +kernel
abbrev cX1_init : ByteArray := prog_3_method_1_code
def yX1_init : MethodName := ⟨RX1, "<init>", "(IIIIZ)V"⟩
abbrev cX1_bendAt : ByteArray := prog_3_method_2_code
def yX1_bendAt : MethodName := ⟨RX1, "bendAt", "(I)I"⟩
abbrev cX1_stiffness : ByteArray := prog_3_method_3_code
def yX1_stiffness : MethodName := ⟨RX1, "stiffness", "()I"⟩
abbrev cX1_stiffestOpening : ByteArray := prog_3_method_4_code
def yX1_stiffestOpening : MethodName := ⟨RX1, "stiffestOpening", "()I"⟩
abbrev cX1_openingsWithin : ByteArray := prog_3_method_5_code
def yX1_openingsWithin : MethodName := ⟨RX1, "openingsWithin", "(I)I"⟩
def RX2 : String := "MarbleBench$Print"
def TX2 : u_T := fun k => match k with
  | _ => ("MarbleBench$Print", "colours", "[I", true)
def tyX2 : Nat → FieldType := fun k => match k with
  | _ => .array .int
abbrev wsX20 : List Cond := u_ws RX2 TX2 1
theorem nmX2 : ∀ a, a < 1 → ∀ b, b < 1 → a ≠ b → (TX2 a).2.1 ≠ (TX2 b).2.1 := by decide +kernel
theorem tyX2_ok : ∀ k, k < 1 → parseFieldDescriptor (TX2 k).2.2.1 = some (tyX2 k) := by decide +kernel
abbrev cX2_init : ByteArray := prog_4_method_1_code
def yX2_init : MethodName := ⟨RX2, "<init>", "()V"⟩
abbrev cX2_cellsWith : ByteArray := prog_4_method_2_code
def yX2_cellsWith : MethodName := ⟨RX2, "cellsWith", "(I)I"⟩
def RX3 : String := "MarbleBench$Repairs"
def TX3 : u_T := fun k => match k with
  | 0 => ("MarbleBench$Repairs", "stuffs", "[I", true)
  | _ => ("MarbleBench$Repairs", "number", "I", false)
def tyX3 : Nat → FieldType := fun k => match k with
  | 0 => .array .int
  | _ => .int
abbrev wsX30 : List Cond := u_ws RX3 TX3 2
theorem nmX3 : ∀ a, a < 2 → ∀ b, b < 2 → a ≠ b → (TX3 a).2.1 ≠ (TX3 b).2.1 := by decide +kernel
theorem tyX3_ok : ∀ k, k < 2 → parseFieldDescriptor (TX3 k).2.2.1 = some (tyX3 k) := by decide +kernel
abbrev cX3_init : ByteArray := prog_5_method_1_code
def yX3_init : MethodName := ⟨RX3, "<init>", "()V"⟩
abbrev cX3_add : ByteArray := prog_5_method_2_code
def yX3_add : MethodName := ⟨RX3, "add", "(I)V"⟩
abbrev cX3_latest : ByteArray := prog_5_method_3_code
def yX3_latest : MethodName := ⟨RX3, "latest", "()I"⟩
abbrev cX3_dropLatest : ByteArray := prog_5_method_4_code
def yX3_dropLatest : MethodName := ⟨RX3, "dropLatest", "()V"⟩
def RX4 : String := "MarbleBench$Sewing"
def TX4 : u_T := fun k => match k with
  | 0 => ("MarbleBench$Sewing", "gatherings", "I", true)
  | 1 => ("MarbleBench$Sewing", "stations", "I", true)
  | 2 => ("MarbleBench$Sewing", "laid", "[I", true)
  | 3 => ("MarbleBench$Sewing", "links", "[I", true)
  | 4 => ("MarbleBench$Sewing", "moves", "[I", true)
  | 5 => ("MarbleBench$Sewing", "moveCount", "I", false)
  | 6 => ("MarbleBench$Sewing", "gathering", "I", false)
  | 7 => ("MarbleBench$Sewing", "station", "I", false)
  | 8 => ("MarbleBench$Sewing", "isInside", "Z", false)
  | _ => ("MarbleBench$Sewing", "length", "I", false)
def tyX4 : Nat → FieldType := fun k => match k with
  | 0 => .int
  | 1 => .int
  | 2 => .array .int
  | 3 => .array .int
  | 4 => .array .int
  | 5 => .int
  | 6 => .int
  | 7 => .int
  | 8 => .boolean
  | _ => .int
abbrev wsX40 : List Cond := u_ws RX4 TX4 10
theorem nmX4 : ∀ a, a < 10 → ∀ b, b < 10 → a ≠ b → (TX4 a).2.1 ≠ (TX4 b).2.1 := by decide +kernel
theorem tyX4_ok : ∀ k, k < 10 → parseFieldDescriptor (TX4 k).2.2.1 = some (tyX4 k) := by decide +kernel
abbrev cX4_init : ByteArray := prog_6_method_1_code
def yX4_init : MethodName := ⟨RX4, "<init>", "(II)V"⟩
abbrev cX4_allows : ByteArray := prog_6_method_2_code
def yX4_allows : MethodName := ⟨RX4, "allows", "(I)Z"⟩
abbrev cX4_make : ByteArray := prog_6_method_3_code
def yX4_make : MethodName := ⟨RX4, "make", "(I)V"⟩
abbrev cX4_takeBack : ByteArray := prog_6_method_4_code
def yX4_takeBack : MethodName := ⟨RX4, "takeBack", "()V"⟩
abbrev cX4_opposite : ByteArray := prog_6_method_5_code
def yX4_opposite : MethodName := ⟨RX4, "opposite", "(I)I"⟩
abbrev cX4_go : ByteArray := prog_6_method_6_code
def yX4_go : MethodName := ⟨RX4, "go", "(II)V"⟩
abbrev cX4_pass : ByteArray := prog_6_method_7_code
def yX4_pass : MethodName := ⟨RX4, "pass", "(II)V"⟩
abbrev cX4_link : ByteArray := prog_6_method_8_code
def yX4_link : MethodName := ⟨RX4, "link", "(II)V"⟩
abbrev cX4_stitchesAt : ByteArray := prog_6_method_9_code
def yX4_stitchesAt : MethodName := ⟨RX4, "stitchesAt", "(II)I"⟩
abbrev cX4_holds : ByteArray := prog_6_method_10_code
def yX4_holds : MethodName := ⟨RX4, "holds", "(I)Z"⟩
abbrev cX4_isSewn : ByteArray := prog_6_method_11_code
def yX4_isSewn : MethodName := ⟨RX4, "isSewn", "()Z"⟩
abbrev cX4_swell : ByteArray := prog_6_method_12_code
def yX4_swell : MethodName := ⟨RX4, "swell", "()I"⟩
abbrev cX4_mostStitches : ByteArray := prog_6_method_13_code
def yX4_mostStitches : MethodName := ⟨RX4, "mostStitches", "(I)I"⟩
def RX5 : String := "MarbleBench$Skin"
def TX5 : u_T := fun k => match k with
  | _ => ("MarbleBench$Skin", "thicknesses", "[I", true)
def tyX5 : Nat → FieldType := fun k => match k with
  | _ => .array .int
abbrev wsX50 : List Cond := u_ws RX5 TX5 1
theorem nmX5 : ∀ a, a < 1 → ∀ b, b < 1 → a ≠ b → (TX5 a).2.1 ≠ (TX5 b).2.1 := by decide +kernel
theorem tyX5_ok : ∀ k, k < 1 → parseFieldDescriptor (TX5 k).2.2.1 = some (tyX5 k) := by decide +kernel
abbrev cX5_init : ByteArray := prog_7_method_1_code
def yX5_init : MethodName := ⟨RX5, "<init>", "(I)V"⟩
abbrev cX5_thinnest : ByteArray := prog_7_method_2_code
def yX5_thinnest : MethodName := ⟨RX5, "thinnest", "(IIII)I"⟩
abbrev cX5_thin : ByteArray := prog_7_method_3_code
def yX5_thin : MethodName := ⟨RX5, "thin", "(IIIII)V"⟩
abbrev cX5_placesTooThick : ByteArray := prog_7_method_4_code
def yX5_placesTooThick : MethodName := ⟨RX5, "placesTooThick", "()I"⟩
abbrev cX5_mostAt : ByteArray := prog_7_method_5_code
def yX5_mostAt : MethodName := ⟨RX5, "mostAt", "(II)I"⟩
def RX6 : String := "MarbleBench$Speakers"
def TX6 : u_T := fun k => match k with
  | 0 => ("MarbleBench$Speakers", "froms", "[I", true)
  | 1 => ("MarbleBench$Speakers", "tos", "[I", true)
  | 2 => ("MarbleBench$Speakers", "weights", "[I", true)
  | _ => ("MarbleBench$Speakers", "number", "I", false)
def tyX6 : Nat → FieldType := fun k => match k with
  | 0 => .array .int
  | 1 => .array .int
  | 2 => .array .int
  | _ => .int
abbrev wsX60 : List Cond := u_ws RX6 TX6 4
theorem nmX6 : ∀ a, a < 4 → ∀ b, b < 4 → a ≠ b → (TX6 a).2.1 ≠ (TX6 b).2.1 := by decide +kernel
theorem tyX6_ok : ∀ k, k < 4 → parseFieldDescriptor (TX6 k).2.2.1 = some (tyX6 k) := by decide +kernel
abbrev cX6_init : ByteArray := prog_8_method_1_code
def yX6_init : MethodName := ⟨RX6, "<init>", "()V"⟩
abbrev cX6_add : ByteArray := prog_8_method_2_code
def yX6_add : MethodName := ⟨RX6, "add", "(III)V"⟩
abbrev cX6_weightIn : ByteArray := prog_8_method_3_code
def yX6_weightIn : MethodName := ⟨RX6, "weightIn", "(I)I"⟩
abbrev cX6_firstByEnds : ByteArray := prog_8_method_4_code
def yX6_firstByEnds : MethodName := ⟨RX6, "firstByEnds", "()I"⟩
abbrev cX6_lastByEnds : ByteArray := prog_8_method_5_code
def yX6_lastByEnds : MethodName := ⟨RX6, "lastByEnds", "(I)I"⟩
abbrev cX6_firstByYears : ByteArray := prog_8_method_6_code
def yX6_firstByYears : MethodName := ⟨RX6, "firstByYears", "()I"⟩
abbrev cX6_lastByYears : ByteArray := prog_8_method_7_code
def yX6_lastByYears : MethodName := ⟨RX6, "lastByYears", "(I)I"⟩
def RX7 : String := "MarbleBench"
def TX7 : u_T := fun k => match k with
  | 0 => ("MarbleBench", "bath", "LMarbleBench$Bath;", true)
  | 1 => ("MarbleBench", "prints", "[LMarbleBench$Print;", true)
  | 2 => ("MarbleBench", "books", "[LMarbleBench$Book;", true)
  | 3 => ("MarbleBench", "skins", "[LMarbleBench$Skin;", true)
  | 4 => ("MarbleBench", "printCount", "I", false)
  | 5 => ("MarbleBench", "bookCount", "I", false)
  | _ => ("MarbleBench", "skinCount", "I", false)
def tyX7 : Nat → FieldType := fun k => match k with
  | 0 => .object "MarbleBench$Bath"
  | 1 => .array (.object "MarbleBench$Print")
  | 2 => .array (.object "MarbleBench$Book")
  | 3 => .array (.object "MarbleBench$Skin")
  | 4 => .int
  | 5 => .int
  | _ => .int
abbrev wsX70 : List Cond := u_ws RX7 TX7 7
theorem nmX7 : ∀ a, a < 7 → ∀ b, b < 7 → a ≠ b → (TX7 a).2.1 ≠ (TX7 b).2.1 := by decide +kernel
theorem tyX7_ok : ∀ k, k < 7 → parseFieldDescriptor (TX7 k).2.2.1 = some (tyX7 k) := by decide +kernel
abbrev cX7_init : ByteArray := prog_1_method_1_code
def yX7_init : MethodName := ⟨RX7, "<init>", "()V"⟩
abbrev cX7_drop : ByteArray := prog_1_method_2_code
def yX7_drop : MethodName := ⟨RX7, "drop", "(IIII)I"⟩
abbrev cX7_comb : ByteArray := prog_1_method_3_code
def yX7_comb : MethodName := ⟨RX7, "comb", "(ZII)I"⟩
abbrev cX7_lift : ByteArray := prog_1_method_4_code
def yX7_lift : MethodName := ⟨RX7, "lift", "()I"⟩
abbrev cX7_clean : ByteArray := prog_1_method_5_code
def yX7_clean : MethodName := ⟨RX7, "clean", "()I"⟩
abbrev cX7_cellAt : ByteArray := prog_1_method_6_code
def yX7_cellAt : MethodName := ⟨RX7, "cellAt", "(III)I"⟩
abbrev cX7_printAt : ByteArray := prog_1_method_7_code
def yX7_printAt : MethodName := ⟨RX7, "printAt", "(III)I"⟩
abbrev cX7_count : ByteArray := prog_1_method_8_code
def yX7_count : MethodName := ⟨RX7, "count", "(II)I"⟩
abbrev cX7_pageAt : ByteArray := prog_1_method_9_code
def yX7_pageAt : MethodName := ⟨RX7, "pageAt", "(IZII)I"⟩
abbrev cX7_placeOf : ByteArray := prog_1_method_10_code
def yX7_placeOf : MethodName := ⟨RX7, "placeOf", "(II)I"⟩
abbrev cX7_book : ByteArray := prog_1_method_11_code
def yX7_book : MethodName := ⟨RX7, "book", "(IIIIZ)I"⟩
abbrev cX7_sew : ByteArray := prog_1_method_12_code
def yX7_sew : MethodName := ⟨RX7, "sew", "(II)I"⟩
abbrev cX7_unsew : ByteArray := prog_1_method_13_code
def yX7_unsew : MethodName := ⟨RX7, "unsew", "(II)I"⟩
abbrev cX7_ofThread : ByteArray := prog_1_method_14_code
def yX7_ofThread : MethodName := ⟨RX7, "ofThread", "(II)I"⟩
abbrev cX7_stitches : ByteArray := prog_1_method_15_code
def yX7_stitches : MethodName := ⟨RX7, "stitches", "(III)I"⟩
abbrev cX7_isHeld : ByteArray := prog_1_method_16_code
def yX7_isHeld : MethodName := ⟨RX7, "isHeld", "(II)Z"⟩
abbrev cX7_back : ByteArray := prog_1_method_17_code
def yX7_back : MethodName := ⟨RX7, "back", "(II)I"⟩
abbrev cX7_swelling : ByteArray := prog_1_method_18_code
def yX7_swelling : MethodName := ⟨RX7, "swelling", "(I)I"⟩
abbrev cX7_strain : ByteArray := prog_1_method_19_code
def yX7_strain : MethodName := ⟨RX7, "strain", "(II)I"⟩
abbrev cX7_worst : ByteArray := prog_1_method_20_code
def yX7_worst : MethodName := ⟨RX7, "worst", "(I)I"⟩
abbrev cX7_opens : ByteArray := prog_1_method_21_code
def yX7_opens : MethodName := ⟨RX7, "opens", "(II)I"⟩
abbrev cX7_skin : ByteArray := prog_1_method_22_code
def yX7_skin : MethodName := ⟨RX7, "skin", "(I)I"⟩
abbrev cX7_pare : ByteArray := prog_1_method_23_code
def yX7_pare : MethodName := ⟨RX7, "pare", "(IIIIII)I"⟩
abbrev cX7_thickAt : ByteArray := prog_1_method_24_code
def yX7_thickAt : MethodName := ⟨RX7, "thickAt", "(III)I"⟩
abbrev cX7_tooThick : ByteArray := prog_1_method_25_code
def yX7_tooThick : MethodName := ⟨RX7, "tooThick", "(I)I"⟩
abbrev cX7_repair : ByteArray := prog_1_method_26_code
def yX7_repair : MethodName := ⟨RX7, "repair", "(II)I"⟩
abbrev cX7_undo : ByteArray := prog_1_method_27_code
def yX7_undo : MethodName := ⟨RX7, "undo", "(I)I"⟩
abbrev cX7_speak : ByteArray := prog_1_method_28_code
def yX7_speak : MethodName := ⟨RX7, "speak", "(IIII)I"⟩
abbrev cX7_year : ByteArray := prog_1_method_29_code
def yX7_year : MethodName := ⟨RX7, "year", "(IZ)I"⟩
abbrev cX7_yearAnew : ByteArray := prog_1_method_30_code
def yX7_yearAnew : MethodName := ⟨RX7, "yearAnew", "(IZ)I"⟩
abbrev cX7_isWithin : ByteArray := prog_1_method_31_code
def yX7_isWithin : MethodName := ⟨RX7, "isWithin", "(III)Z"⟩
abbrev cX7_isOnSide : ByteArray := prog_1_method_32_code
def yX7_isOnSide : MethodName := ⟨RX7, "isOnSide", "(I)Z"⟩
abbrev cX7_isOnGrid : ByteArray := prog_1_method_33_code
def yX7_isOnGrid : MethodName := ⟨RX7, "isOnGrid", "(II)Z"⟩
abbrev cX7_cellOf : ByteArray := prog_1_method_34_code
def yX7_cellOf : MethodName := ⟨RX7, "cellOf", "(II)I"⟩
abbrev cX7_canBeUndone : ByteArray := prog_1_method_35_code
def yX7_canBeUndone : MethodName := ⟨RX7, "canBeUndone", "(I)Z"⟩
abbrev cX7_demandPlace : ByteArray := prog_1_method_36_code
def yX7_demandPlace : MethodName := ⟨RX7, "demandPlace", "(Z)V"⟩
abbrev cX7_demandArgument : ByteArray := prog_1_method_37_code
def yX7_demandArgument : MethodName := ⟨RX7, "demandArgument", "(Z)V"⟩
abbrev cX7_demandState : ByteArray := prog_1_method_38_code
def yX7_demandState : MethodName := ⟨RX7, "demandState", "(Z)V"⟩
abbrev cX7_printOf : ByteArray := prog_1_method_39_code
def yX7_printOf : MethodName := ⟨RX7, "printOf", "(I)LMarbleBench$Print;"⟩
abbrev cX7_bookOf : ByteArray := prog_1_method_40_code
def yX7_bookOf : MethodName := ⟨RX7, "bookOf", "(I)LMarbleBench$Book;"⟩
abbrev cX7_skinOf : ByteArray := prog_1_method_41_code
def yX7_skinOf : MethodName := ⟨RX7, "skinOf", "(I)LMarbleBench$Skin;"⟩
abbrev cX7_columnsOf : ByteArray := prog_1_method_42_code
def yX7_columnsOf : MethodName := ⟨RX7, "columnsOf", "(I)I"⟩
abbrev cX7_rowsOf : ByteArray := prog_1_method_43_code
def yX7_rowsOf : MethodName := ⟨RX7, "rowsOf", "(I)I"⟩
abbrev cX7_foldedPage : ByteArray := prog_1_method_44_code
def yX7_foldedPage : MethodName := ⟨RX7, "foldedPage", "(IZII)I"⟩
abbrev cX7_unfoldedPlace : ByteArray := prog_1_method_45_code
def yX7_unfoldedPlace : MethodName := ⟨RX7, "unfoldedPlace", "(II)I"⟩
def RX8 : String := "MarbleBenchModel"
def TX8 : u_T := fun k => match k with
  | 0 => ("MarbleBenchModel", "bath", "[I", true)
  | 1 => ("MarbleBenchModel", "strength", "[I", true)
  | 2 => ("MarbleBenchModel", "prints", "I", false)
  | 3 => ("MarbleBenchModel", "printed", "[I", true)
  | 4 => ("MarbleBenchModel", "books", "I", false)
  | 5 => ("MarbleBenchModel", "gatherings", "[I", true)
  | 6 => ("MarbleBenchModel", "leaves", "[I", true)
  | 7 => ("MarbleBenchModel", "stations", "[I", true)
  | 8 => ("MarbleBenchModel", "thickness", "[I", true)
  | 9 => ("MarbleBenchModel", "isOld", "[Z", true)
  | 10 => ("MarbleBenchModel", "back", "[I", true)
  | 11 => ("MarbleBenchModel", "moves", "[I", true)
  | 12 => ("MarbleBenchModel", "moved", "[I", true)
  | 13 => ("MarbleBenchModel", "stitch", "[I", true)
  | 14 => ("MarbleBenchModel", "isLinked", "[Z", true)
  | 15 => ("MarbleBenchModel", "length", "I", false)
  | 16 => ("MarbleBenchModel", "gathering", "I", false)
  | 17 => ("MarbleBenchModel", "station", "I", false)
  | 18 => ("MarbleBenchModel", "isInside", "Z", false)
  | 19 => ("MarbleBenchModel", "skins", "I", false)
  | 20 => ("MarbleBenchModel", "thick", "[I", true)
  | 21 => ("MarbleBenchModel", "repairs", "[I", true)
  | 22 => ("MarbleBenchModel", "stuff", "[I", true)
  | 23 => ("MarbleBenchModel", "voices", "[I", true)
  | 24 => ("MarbleBenchModel", "from", "[I", true)
  | 25 => ("MarbleBenchModel", "to", "[I", true)
  | 26 => ("MarbleBenchModel", "weight", "[I", true)
  | _ => ("MarbleBenchModel", "thrown", "I", false)
def tyX8 : Nat → FieldType := fun k => match k with
  | 0 => .array .int
  | 1 => .array .int
  | 2 => .int
  | 3 => .array .int
  | 4 => .int
  | 5 => .array .int
  | 6 => .array .int
  | 7 => .array .int
  | 8 => .array .int
  | 9 => .array .boolean
  | 10 => .array .int
  | 11 => .array .int
  | 12 => .array .int
  | 13 => .array .int
  | 14 => .array .boolean
  | 15 => .int
  | 16 => .int
  | 17 => .int
  | 18 => .boolean
  | 19 => .int
  | 20 => .array .int
  | 21 => .array .int
  | 22 => .array .int
  | 23 => .array .int
  | 24 => .array .int
  | 25 => .array .int
  | 26 => .array .int
  | _ => .int
abbrev wsX80 : List Cond := u_ws RX8 TX8 28
theorem nmX8 : ∀ a, a < 28 → ∀ b, b < 28 → a ≠ b → (TX8 a).2.1 ≠ (TX8 b).2.1 := by decide +kernel
theorem tyX8_ok : ∀ k, k < 28 → parseFieldDescriptor (TX8 k).2.2.1 = some (tyX8 k) := by decide +kernel
abbrev cX8_init : ByteArray := prog_10_method_1_code
def yX8_init : MethodName := ⟨RX8, "<init>", "()V"⟩
abbrev cX8_thrown : ByteArray := prog_10_method_2_code
def yX8_thrown : MethodName := ⟨RX8, "thrown", "()I"⟩
abbrev cX8_in : ByteArray := prog_10_method_3_code
def yX8_in : MethodName := ⟨RX8, "in", "(III)Z"⟩
abbrev cX8_goes : ByteArray := prog_10_method_4_code
def yX8_goes : MethodName := ⟨RX8, "goes", "(ZZZ)Z"⟩
abbrev cX8_isEdge : ByteArray := prog_10_method_5_code
def yX8_isEdge : MethodName := ⟨RX8, "isEdge", "(I)Z"⟩
abbrev cX8_order : ByteArray := prog_10_method_6_code
def yX8_order : MethodName := ⟨RX8, "order", "(III)I"⟩
abbrev cX8_drop : ByteArray := prog_10_method_7_code
def yX8_drop : MethodName := ⟨RX8, "drop", "(IIII)I"⟩
abbrev cX8_cellIn : ByteArray := prog_10_method_8_code
def yX8_cellIn : MethodName := ⟨RX8, "cellIn", "(ZII)I"⟩
abbrev cX8_turns : ByteArray := prog_10_method_9_code
def yX8_turns : MethodName := ⟨RX8, "turns", "(ZI)V"⟩
abbrev cX8_comb : ByteArray := prog_10_method_10_code
def yX8_comb : MethodName := ⟨RX8, "comb", "(ZII)I"⟩
abbrev cX8_lift : ByteArray := prog_10_method_11_code
def yX8_lift : MethodName := ⟨RX8, "lift", "()I"⟩
abbrev cX8_clean : ByteArray := prog_10_method_12_code
def yX8_clean : MethodName := ⟨RX8, "clean", "()I"⟩
abbrev cX8_cellAt : ByteArray := prog_10_method_13_code
def yX8_cellAt : MethodName := ⟨RX8, "cellAt", "(III)I"⟩
abbrev cX8_isPrint : ByteArray := prog_10_method_14_code
def yX8_isPrint : MethodName := ⟨RX8, "isPrint", "(I)Z"⟩
abbrev cX8_printAt : ByteArray := prog_10_method_15_code
def yX8_printAt : MethodName := ⟨RX8, "printAt", "(III)I"⟩
abbrev cX8_count : ByteArray := prog_10_method_16_code
def yX8_count : MethodName := ⟨RX8, "count", "(II)I"⟩
abbrev cX8_columnsOf : ByteArray := prog_10_method_17_code
def yX8_columnsOf : MethodName := ⟨RX8, "columnsOf", "(I)I"⟩
abbrev cX8_rowsOf : ByteArray := prog_10_method_18_code
def yX8_rowsOf : MethodName := ⟨RX8, "rowsOf", "(I)I"⟩
abbrev cX8_layerOf : ByteArray := prog_10_method_19_code
def yX8_layerOf : MethodName := ⟨RX8, "layerOf", "(III)I"⟩
abbrev cX8_pageOf : ByteArray := prog_10_method_20_code
def yX8_pageOf : MethodName := ⟨RX8, "pageOf", "(IZII)I"⟩
abbrev cX8_pageAt : ByteArray := prog_10_method_21_code
def yX8_pageAt : MethodName := ⟨RX8, "pageAt", "(IZII)I"⟩
abbrev cX8_placeOf : ByteArray := prog_10_method_22_code
def yX8_placeOf : MethodName := ⟨RX8, "placeOf", "(II)I"⟩
abbrev cX8_isBook : ByteArray := prog_10_method_23_code
def yX8_isBook : MethodName := ⟨RX8, "isBook", "(I)Z"⟩
abbrev cX8_book : ByteArray := prog_10_method_24_code
def yX8_book : MethodName := ⟨RX8, "book", "(IIIIZ)I"⟩
abbrev cX8_lays : ByteArray := prog_10_method_25_code
def yX8_lays : MethodName := ⟨RX8, "lays", "(II)V"⟩
abbrev cX8_links : ByteArray := prog_10_method_26_code
def yX8_links : MethodName := ⟨RX8, "links", "(I)V"⟩
abbrev cX8_moves : ByteArray := prog_10_method_27_code
def yX8_moves : MethodName := ⟨RX8, "moves", "(I)V"⟩
abbrev cX8_follows : ByteArray := prog_10_method_28_code
def yX8_follows : MethodName := ⟨RX8, "follows", "(I)V"⟩
abbrev cX8_can : ByteArray := prog_10_method_29_code
def yX8_can : MethodName := ⟨RX8, "can", "(II)Z"⟩
abbrev cX8_canMove : ByteArray := prog_10_method_30_code
def yX8_canMove : MethodName := ⟨RX8, "canMove", "(II)Z"⟩
abbrev cX8_sew : ByteArray := prog_10_method_31_code
def yX8_sew : MethodName := ⟨RX8, "sew", "(II)I"⟩
abbrev cX8_unsew : ByteArray := prog_10_method_32_code
def yX8_unsew : MethodName := ⟨RX8, "unsew", "(II)I"⟩
abbrev cX8_holds : ByteArray := prog_10_method_33_code
def yX8_holds : MethodName := ⟨RX8, "holds", "(II)Z"⟩
abbrev cX8_isSewn : ByteArray := prog_10_method_34_code
def yX8_isSewn : MethodName := ⟨RX8, "isSewn", "(I)Z"⟩
abbrev cX8_ofThread : ByteArray := prog_10_method_35_code
def yX8_ofThread : MethodName := ⟨RX8, "ofThread", "(II)I"⟩
abbrev cX8_isGathering : ByteArray := prog_10_method_36_code
def yX8_isGathering : MethodName := ⟨RX8, "isGathering", "(II)Z"⟩
abbrev cX8_stitches : ByteArray := prog_10_method_37_code
def yX8_stitches : MethodName := ⟨RX8, "stitches", "(III)I"⟩
abbrev cX8_isHeld : ByteArray := prog_10_method_38_code
def yX8_isHeld : MethodName := ⟨RX8, "isHeld", "(II)Z"⟩
abbrev cX8_back : ByteArray := prog_10_method_39_code
def yX8_back : MethodName := ⟨RX8, "back", "(II)I"⟩
abbrev cX8_swells : ByteArray := prog_10_method_40_code
def yX8_swells : MethodName := ⟨RX8, "swells", "(I)I"⟩
abbrev cX8_swelling : ByteArray := prog_10_method_41_code
def yX8_swelling : MethodName := ⟨RX8, "swelling", "(I)I"⟩
abbrev cX8_all : ByteArray := prog_10_method_42_code
def yX8_all : MethodName := ⟨RX8, "all", "(I)I"⟩
abbrev cX8_bends : ByteArray := prog_10_method_43_code
def yX8_bends : MethodName := ⟨RX8, "bends", "(II)I"⟩
abbrev cX8_strain : ByteArray := prog_10_method_44_code
def yX8_strain : MethodName := ⟨RX8, "strain", "(II)I"⟩
abbrev cX8_worst : ByteArray := prog_10_method_45_code
def yX8_worst : MethodName := ⟨RX8, "worst", "(I)I"⟩
abbrev cX8_opens : ByteArray := prog_10_method_46_code
def yX8_opens : MethodName := ⟨RX8, "opens", "(II)I"⟩
abbrev cX8_isSkin : ByteArray := prog_10_method_47_code
def yX8_isSkin : MethodName := ⟨RX8, "isSkin", "(I)Z"⟩
abbrev cX8_skin : ByteArray := prog_10_method_48_code
def yX8_skin : MethodName := ⟨RX8, "skin", "(I)I"⟩
abbrev cX8_least : ByteArray := prog_10_method_49_code
def yX8_least : MethodName := ⟨RX8, "least", "(IIIII)I"⟩
abbrev cX8_pare : ByteArray := prog_10_method_50_code
def yX8_pare : MethodName := ⟨RX8, "pare", "(IIIIII)I"⟩
abbrev cX8_thickAt : ByteArray := prog_10_method_51_code
def yX8_thickAt : MethodName := ⟨RX8, "thickAt", "(III)I"⟩
abbrev cX8_tooThick : ByteArray := prog_10_method_52_code
def yX8_tooThick : MethodName := ⟨RX8, "tooThick", "(I)I"⟩
abbrev cX8_repair : ByteArray := prog_10_method_53_code
def yX8_repair : MethodName := ⟨RX8, "repair", "(II)I"⟩
abbrev cX8_undo : ByteArray := prog_10_method_54_code
def yX8_undo : MethodName := ⟨RX8, "undo", "(I)I"⟩
abbrev cX8_speak : ByteArray := prog_10_method_55_code
def yX8_speak : MethodName := ⟨RX8, "speak", "(IIII)I"⟩
abbrev cX8_sumOf : ByteArray := prog_10_method_56_code
def yX8_sumOf : MethodName := ⟨RX8, "sumOf", "(II)I"⟩
abbrev cX8_best : ByteArray := prog_10_method_57_code
def yX8_best : MethodName := ⟨RX8, "best", "(I)I"⟩
abbrev cX8_year : ByteArray := prog_10_method_58_code
def yX8_year : MethodName := ⟨RX8, "year", "(IZ)I"⟩
abbrev cX8_yearAnew : ByteArray := prog_10_method_59_code
def yX8_yearAnew : MethodName := ⟨RX8, "yearAnew", "(IZ)I"⟩
def RJ9 : String := "java/lang/Math"
def TJ9 : u_T := fun k => match k with
  | _ => ("", "", "", false)
def tyJ9 : Nat → FieldType := fun k => match k with
  | _ => .int
abbrev wsJ90 : List Cond := u_ws RJ9 TJ9 0
theorem nmJ9 : ∀ a, a < 0 → ∀ b, b < 0 → a ≠ b → (TJ9 a).2.1 ≠ (TJ9 b).2.1 := by decide +kernel
theorem tyJ9_ok : ∀ k, k < 0 → parseFieldDescriptor (TJ9 k).2.2.1 = some (tyJ9 k) := by decide +kernel
abbrev cJ9_floorMod_7cf53 : ByteArray := prog_15_method_50_code
def yJ9_floorMod_7cf53 : MethodName := ⟨RJ9, "floorMod", "(II)I"⟩
abbrev cJ9_max_7cf53 : ByteArray := prog_15_method_65_code
def yJ9_max_7cf53 : MethodName := ⟨RJ9, "max", "(II)I"⟩
abbrev cJ9_min_7cf53 : ByteArray := prog_15_method_69_code
def yJ9_min_7cf53 : MethodName := ⟨RJ9, "min", "(II)I"⟩
def RJ0 : String := "java/lang/String"
def TJ0 : u_T := fun k => match k with
  | _ => ("", "", "", false)
def tyJ0 : Nat → FieldType := fun k => match k with
  | _ => .int
abbrev wsJ00 : List Cond := u_ws RJ0 TJ0 0
theorem nmJ0 : ∀ a, a < 0 → ∀ b, b < 0 → a ≠ b → (TJ0 a).2.1 ≠ (TJ0 b).2.1 := by decide +kernel
theorem tyJ0_ok : ∀ k, k < 0 → parseFieldDescriptor (TJ0 k).2.2.1 = some (tyJ0 k) := by decide +kernel
def RL : String := "MarbleBenchLaw"
abbrev cL_drop : ByteArray := method_3_code
def yL_drop : MethodName := ⟨RL, "drop", "(LMarbleBench;IIII[J)I"⟩
abbrev cL_comb : ByteArray := method_4_code
def yL_comb : MethodName := ⟨RL, "comb", "(LMarbleBench;ZII[J)I"⟩
abbrev cL_lift : ByteArray := method_5_code
def yL_lift : MethodName := ⟨RL, "lift", "(LMarbleBench;[J)I"⟩
abbrev cL_cellAt : ByteArray := method_6_code
def yL_cellAt : MethodName := ⟨RL, "cellAt", "(LMarbleBench;III[J)I"⟩
abbrev cL_printAt : ByteArray := method_7_code
def yL_printAt : MethodName := ⟨RL, "printAt", "(LMarbleBench;III[J)I"⟩
abbrev cL_count : ByteArray := method_8_code
def yL_count : MethodName := ⟨RL, "count", "(LMarbleBench;II[J)I"⟩
abbrev cL_pageAt : ByteArray := method_9_code
def yL_pageAt : MethodName := ⟨RL, "pageAt", "(LMarbleBench;IZII[J)I"⟩
abbrev cL_placeOf : ByteArray := method_10_code
def yL_placeOf : MethodName := ⟨RL, "placeOf", "(LMarbleBench;II[J)I"⟩
abbrev cL_book : ByteArray := method_11_code
def yL_book : MethodName := ⟨RL, "book", "(LMarbleBench;IIIIZ[J)I"⟩
abbrev cL_sew : ByteArray := method_12_code
def yL_sew : MethodName := ⟨RL, "sew", "(LMarbleBench;II[J)I"⟩
abbrev cL_unsew : ByteArray := method_13_code
def yL_unsew : MethodName := ⟨RL, "unsew", "(LMarbleBench;II[J)I"⟩
abbrev cL_ofThread : ByteArray := method_14_code
def yL_ofThread : MethodName := ⟨RL, "ofThread", "(LMarbleBench;II[J)I"⟩
abbrev cL_stitches : ByteArray := method_15_code
def yL_stitches : MethodName := ⟨RL, "stitches", "(LMarbleBench;III[J)I"⟩
abbrev cL_isHeld : ByteArray := method_16_code
def yL_isHeld : MethodName := ⟨RL, "isHeld", "(LMarbleBench;II[J)I"⟩
abbrev cL_back : ByteArray := method_17_code
def yL_back : MethodName := ⟨RL, "back", "(LMarbleBench;II[J)I"⟩
abbrev cL_swelling : ByteArray := method_18_code
def yL_swelling : MethodName := ⟨RL, "swelling", "(LMarbleBench;I[J)I"⟩
abbrev cL_strain : ByteArray := method_19_code
def yL_strain : MethodName := ⟨RL, "strain", "(LMarbleBench;II[J)I"⟩
abbrev cL_worst : ByteArray := method_20_code
def yL_worst : MethodName := ⟨RL, "worst", "(LMarbleBench;I[J)I"⟩
abbrev cL_opens : ByteArray := method_21_code
def yL_opens : MethodName := ⟨RL, "opens", "(LMarbleBench;II[J)I"⟩
abbrev cL_skin : ByteArray := method_22_code
def yL_skin : MethodName := ⟨RL, "skin", "(LMarbleBench;I[J)I"⟩
abbrev cL_pare : ByteArray := method_23_code
def yL_pare : MethodName := ⟨RL, "pare", "(LMarbleBench;IIIIII[J)I"⟩
abbrev cL_thickAt : ByteArray := method_24_code
def yL_thickAt : MethodName := ⟨RL, "thickAt", "(LMarbleBench;III[J)I"⟩
abbrev cL_tooThick : ByteArray := method_25_code
def yL_tooThick : MethodName := ⟨RL, "tooThick", "(LMarbleBench;I[J)I"⟩
abbrev cL_repair : ByteArray := method_26_code
def yL_repair : MethodName := ⟨RL, "repair", "(LMarbleBench;II[J)I"⟩
abbrev cL_undo : ByteArray := method_27_code
def yL_undo : MethodName := ⟨RL, "undo", "(LMarbleBench;I[J)I"⟩
abbrev cL_speak : ByteArray := method_28_code
def yL_speak : MethodName := ⟨RL, "speak", "(LMarbleBench;IIII[J)I"⟩
abbrev cL_year : ByteArray := method_29_code
def yL_year : MethodName := ⟨RL, "year", "(LMarbleBench;IZ[J)I"⟩
abbrev cL_yearAnew : ByteArray := method_30_code
def yL_yearAnew : MethodName := ⟨RL, "yearAnew", "(LMarbleBench;IZ[J)I"⟩
abbrev cL_law : ByteArray := code
def yL_law : MethodName := ⟨RL, "law", "([I)Z"⟩
def wsX0_init : List Cond := .code yX0_init cX0_init 2 none :: ([.methodLink RX0 3 objectInit, .instanceMethod objectInit, .code objectInit ⟨#[0xb1]⟩ 1 none, .arrayClass .int, .fieldLink RX0 9 "MarbleBench$Bath" "colours" "[I", .fieldLink RX0 15 "MarbleBench$Bath" "strengths" "[I", .fieldLink RX0 18 "MarbleBench$Bath" "cellsAway" "[I", .fieldLink RX0 21 "MarbleBench$Bath" "lineColours" "[I", .fieldLink RX0 24 "MarbleBench$Bath" "lineStrengths" "[I"] ++ wsX00)
def wsX0_distance : List Cond := .code yX0_distance cX0_distance 5 (some .int) :: ([])
def wsX0_countCellsAway : List Cond := .code yX0_countCellsAway cX0_countCellsAway 4 none :: ([.fieldLink RX0 18 "MarbleBench$Bath" "cellsAway" "[I", .methodLink RX0 31 yX0_distance, .static yX0_distance, .initialized RX0, .code yX0_distance cX0_distance 5 (some .int)] ++ wsX00)
def wsX0_spread : List Cond := .code yX0_spread cX0_spread 11 (some .int) :: ([.fieldLink RX0 18 "MarbleBench$Bath" "cellsAway" "[I", .fieldLink RX0 9 "MarbleBench$Bath" "colours" "[I", .fieldLink RX0 15 "MarbleBench$Bath" "strengths" "[I", .methodLink RX0 27 yX0_countCellsAway, .instanceMethod yX0_countCellsAway, .selects RX0 yX0_countCellsAway yX0_countCellsAway, .initialized RX0, .code yX0_countCellsAway cX0_countCellsAway 4 none, .methodLink RX0 31 yX0_distance, .static yX0_distance, .code yX0_distance cX0_distance 5 (some .int)] ++ wsX00)
def wsX7_cellOf : List Cond := .code yX7_cellOf cX7_cellOf 2 (some .int) :: ([])
def wsJ9_floorMod_7cf53 : List Cond := .code yJ9_floorMod_7cf53 cJ9_floorMod_7cf53 3 (some .int) :: ([])
def wsX0_shift : List Cond := .code yX0_shift cX0_shift 8 (some .int) :: ([.fieldLink RX0 21 "MarbleBench$Bath" "lineColours" "[I", .fieldLink RX0 9 "MarbleBench$Bath" "colours" "[I", .fieldLink RX0 24 "MarbleBench$Bath" "lineStrengths" "[I", .fieldLink RX0 15 "MarbleBench$Bath" "strengths" "[I", .static yX7_cellOf, .initialized RX7, .code yX7_cellOf cX7_cellOf 2 (some .int), .methodLink RX0 39 yJ9_floorMod_7cf53, .static yJ9_floorMod_7cf53, .initialized RJ9, .code yJ9_floorMod_7cf53 cJ9_floorMod_7cf53 3 (some .int)] ++ wsX00)
def wsX2_init : List Cond := .code yX2_init cX2_init 1 none :: ([.methodLink RX2 3 objectInit, .instanceMethod objectInit, .code objectInit ⟨#[0xb1]⟩ 1 none, .arrayClass .int, .fieldLink RX2 9 "MarbleBench$Print" "colours" "[I"] ++ wsX20)
def wsX0_press : List Cond := .code yX0_press cX0_press 3 (some (.object "MarbleBench$Print")) :: ([.classLink RX0 44 RX2, .instantiable RX2 1, .initialized RX2, .fieldLink RX0 9 "MarbleBench$Bath" "colours" "[I", .instanceMethod yX2_init, .code yX2_init cX2_init 1 none, .methodLink RX2 3 objectInit, .instanceMethod objectInit, .code objectInit ⟨#[0xb1]⟩ 1 none, .arrayClass .int, .fieldLink RX2 9 "MarbleBench$Print" "colours" "[I"] ++ wsX20 ++ wsX00)
def wsX0_fade : List Cond := .code yX0_fade cX0_fade 2 none :: ([.fieldLink RX0 9 "MarbleBench$Bath" "colours" "[I", .fieldLink RX0 15 "MarbleBench$Bath" "strengths" "[I"] ++ wsX00)
def wsX0_empty : List Cond := .code yX0_empty cX0_empty 3 (some .int) :: ([.fieldLink RX0 9 "MarbleBench$Bath" "colours" "[I", .fieldLink RX0 15 "MarbleBench$Bath" "strengths" "[I"] ++ wsX00)
def wsX3_init : List Cond := .code yX3_init cX3_init 1 none :: ([.methodLink RX3 3 objectInit, .instanceMethod objectInit, .code objectInit ⟨#[0xb1]⟩ 1 none, .arrayClass .int, .fieldLink RX3 9 "MarbleBench$Repairs" "stuffs" "[I"] ++ wsX30)
def wsX6_init : List Cond := .code yX6_init cX6_init 1 none :: ([.methodLink RX6 3 objectInit, .instanceMethod objectInit, .code objectInit ⟨#[0xb1]⟩ 1 none, .arrayClass .int, .fieldLink RX6 9 "MarbleBench$Speakers" "froms" "[I", .fieldLink RX6 15 "MarbleBench$Speakers" "tos" "[I", .fieldLink RX6 18 "MarbleBench$Speakers" "weights" "[I"] ++ wsX60)
def wsX4_init : List Cond := .code yX4_init cX4_init 3 none :: ([.methodLink RX4 3 objectInit, .instanceMethod objectInit, .code objectInit ⟨#[0xb1]⟩ 1 none, .arrayClass .int, .fieldLink RX4 9 "MarbleBench$Sewing" "laid" "[I", .fieldLink RX4 15 "MarbleBench$Sewing" "links" "[I", .fieldLink RX4 18 "MarbleBench$Sewing" "moves" "[I", .fieldLink RX4 21 "MarbleBench$Sewing" "gatherings" "I", .fieldLink RX4 25 "MarbleBench$Sewing" "stations" "I"] ++ wsX40)
def wsX1_init_r1 : List Cond := [Cond.methodLink RX1 3 objectInit, Cond.instanceMethod objectInit, Cond.code objectInit ⟨#[0xb1]⟩ 1 none, Cond.classLink RX1 9 RX3, Cond.instantiable RX3 2, Cond.initialized RX3, Cond.fieldLink RX1 12 "MarbleBench$Book" "repairs" "LMarbleBench$Repairs;", Cond.classLink RX1 18 RX6, Cond.instantiable RX6 4, Cond.initialized RX6, Cond.fieldLink RX1 21 "MarbleBench$Book" "speakers" "LMarbleBench$Speakers;", Cond.fieldLink RX1 25 "MarbleBench$Book" "spine" "I", Cond.classLink RX1 29 RX4, Cond.instantiable RX4 10, Cond.initialized RX4, Cond.fieldLink RX1 34 "MarbleBench$Book" "sewing" "LMarbleBench$Sewing;", Cond.fieldLink RX1 38 "MarbleBench$Book" "leavesInAll" "I", Cond.fieldLink RX1 41 "MarbleBench$Book" "thickness" "I", Cond.fieldLink RX1 44 "MarbleBench$Book" "isOld" "Z", Cond.instanceMethod yX3_init, Cond.code yX3_init cX3_init 1 none, Cond.methodLink RX3 3 objectInit, Cond.arrayClass .int, Cond.fieldLink RX3 9 "MarbleBench$Repairs" "stuffs" "[I"]
def wsX1_init_r2 : List Cond := [Cond.instanceMethod yX6_init, Cond.code yX6_init cX6_init 1 none, Cond.methodLink RX6 3 objectInit, Cond.fieldLink RX6 9 "MarbleBench$Speakers" "froms" "[I", Cond.fieldLink RX6 15 "MarbleBench$Speakers" "tos" "[I", Cond.fieldLink RX6 18 "MarbleBench$Speakers" "weights" "[I", Cond.methodLink RX1 31 yX4_init, Cond.instanceMethod yX4_init, Cond.code yX4_init cX4_init 3 none, Cond.methodLink RX4 3 objectInit, Cond.fieldLink RX4 9 "MarbleBench$Sewing" "laid" "[I", Cond.fieldLink RX4 15 "MarbleBench$Sewing" "links" "[I", Cond.fieldLink RX4 18 "MarbleBench$Sewing" "moves" "[I", Cond.fieldLink RX4 21 "MarbleBench$Sewing" "gatherings" "I", Cond.fieldLink RX4 25 "MarbleBench$Sewing" "stations" "I"]
def wsX1_init : List Cond := .code yX1_init cX1_init 6 none :: ((wsX1_init_r1 ++ wsX1_init_r2) ++ wsX30 ++ wsX10 ++ wsX60 ++ wsX40)
def wsX1_stiffness : List Cond := .code yX1_stiffness cX1_stiffness 1 (some .int) :: ([.fieldLink RX1 25 "MarbleBench$Book" "spine" "I"] ++ wsX10)
def wsX1_bendAt : List Cond := .code yX1_bendAt cX1_bendAt 2 (some .int) :: ([.fieldLink RX1 38 "MarbleBench$Book" "leavesInAll" "I", .methodLink RX1 48 Lib.Math.min.name, .static Lib.Math.min.name, .initialized "java/lang/Math", .code Lib.Math.min.name Lib.Math.min.code 2 (some .int), .fieldLink RX1 41 "MarbleBench$Book" "thickness" "I", .methodLink RX1 54 yX1_stiffness, .instanceMethod yX1_stiffness, .selects RX1 yX1_stiffness yX1_stiffness, .initialized RX1, .code yX1_stiffness cX1_stiffness 1 (some .int), .fieldLink RX1 25 "MarbleBench$Book" "spine" "I"] ++ wsX10)
def wsX1_stiffestOpening : List Cond := .code yX1_stiffestOpening cX1_stiffestOpening 3 (some .int) :: ([.fieldLink RX1 38 "MarbleBench$Book" "leavesInAll" "I", .methodLink RX1 58 yX1_bendAt, .instanceMethod yX1_bendAt, .selects RX1 yX1_bendAt yX1_bendAt, .initialized RX1, .code yX1_bendAt cX1_bendAt 2 (some .int), .methodLink RX1 48 Lib.Math.min.name, .static Lib.Math.min.name, .initialized "java/lang/Math", .code Lib.Math.min.name Lib.Math.min.code 2 (some .int), .fieldLink RX1 41 "MarbleBench$Book" "thickness" "I", .methodLink RX1 54 yX1_stiffness, .instanceMethod yX1_stiffness, .selects RX1 yX1_stiffness yX1_stiffness, .code yX1_stiffness cX1_stiffness 1 (some .int), .fieldLink RX1 25 "MarbleBench$Book" "spine" "I"] ++ wsX10)
def wsX4_stitchesAt : List Cond := .code yX4_stitchesAt cX4_stitchesAt 4 (some .int) :: ([.fieldLink RX4 9 "MarbleBench$Sewing" "laid" "[I"] ++ wsX40)
def wsX4_mostStitches : List Cond := .code yX4_mostStitches cX4_mostStitches 4 (some .int) :: ([.fieldLink RX4 25 "MarbleBench$Sewing" "stations" "I", .methodLink RX4 69 Lib.Math.max.name, .static Lib.Math.max.name, .initialized "java/lang/Math", .code Lib.Math.max.name Lib.Math.max.code 2 (some .int), .methodLink RX4 58 yX4_stitchesAt, .instanceMethod yX4_stitchesAt, .selects RX4 yX4_stitchesAt yX4_stitchesAt, .initialized RX4, .code yX4_stitchesAt cX4_stitchesAt 4 (some .int), .fieldLink RX4 9 "MarbleBench$Sewing" "laid" "[I"] ++ wsX40)
def wsX4_swell : List Cond := .code yX4_swell cX4_swell 3 (some .int) :: ([.fieldLink RX4 21 "MarbleBench$Sewing" "gatherings" "I", .methodLink RX4 66 yX4_mostStitches, .instanceMethod yX4_mostStitches, .selects RX4 yX4_mostStitches yX4_mostStitches, .initialized RX4, .code yX4_mostStitches cX4_mostStitches 4 (some .int), .fieldLink RX4 25 "MarbleBench$Sewing" "stations" "I", .methodLink RX4 69 Lib.Math.max.name, .static Lib.Math.max.name, .initialized "java/lang/Math", .code Lib.Math.max.name Lib.Math.max.code 2 (some .int), .methodLink RX4 58 yX4_stitchesAt, .instanceMethod yX4_stitchesAt, .selects RX4 yX4_stitchesAt yX4_stitchesAt, .code yX4_stitchesAt cX4_stitchesAt 4 (some .int), .fieldLink RX4 9 "MarbleBench$Sewing" "laid" "[I"] ++ wsX40)
def wsX1_openingsWithin_r1 : List Cond := [Cond.fieldLink RX1 34 "MarbleBench$Book" "sewing" "LMarbleBench$Sewing;", Cond.fieldLink RX1 38 "MarbleBench$Book" "leavesInAll" "I", Cond.methodLink RX1 62 yX4_swell, Cond.instanceMethod yX4_swell, Cond.selects RX4 yX4_swell yX4_swell, Cond.initialized RX4, Cond.code yX4_swell cX4_swell 3 (some .int), Cond.fieldLink RX4 21 "MarbleBench$Sewing" "gatherings" "I", Cond.methodLink RX4 66 yX4_mostStitches, Cond.instanceMethod yX4_mostStitches, Cond.selects RX4 yX4_mostStitches yX4_mostStitches, Cond.code yX4_mostStitches cX4_mostStitches 4 (some .int), Cond.fieldLink RX4 25 "MarbleBench$Sewing" "stations" "I", Cond.methodLink RX4 69 Lib.Math.max.name, Cond.static Lib.Math.max.name, Cond.initialized "java/lang/Math", Cond.code Lib.Math.max.name Lib.Math.max.code 2 (some .int), Cond.methodLink RX4 58 yX4_stitchesAt, Cond.instanceMethod yX4_stitchesAt, Cond.selects RX4 yX4_stitchesAt yX4_stitchesAt, Cond.code yX4_stitchesAt cX4_stitchesAt 4 (some .int), Cond.fieldLink RX4 9 "MarbleBench$Sewing" "laid" "[I", Cond.methodLink RX1 58 yX1_bendAt, Cond.instanceMethod yX1_bendAt]
def wsX1_openingsWithin_r2 : List Cond := [Cond.selects RX1 yX1_bendAt yX1_bendAt, Cond.initialized RX1, Cond.code yX1_bendAt cX1_bendAt 2 (some .int), Cond.methodLink RX1 48 Lib.Math.min.name, Cond.static Lib.Math.min.name, Cond.code Lib.Math.min.name Lib.Math.min.code 2 (some .int), Cond.fieldLink RX1 41 "MarbleBench$Book" "thickness" "I", Cond.methodLink RX1 54 yX1_stiffness, Cond.instanceMethod yX1_stiffness, Cond.selects RX1 yX1_stiffness yX1_stiffness, Cond.code yX1_stiffness cX1_stiffness 1 (some .int), Cond.fieldLink RX1 25 "MarbleBench$Book" "spine" "I"]
def wsX1_openingsWithin : List Cond := .code yX1_openingsWithin cX1_openingsWithin 5 (some .int) :: ((wsX1_openingsWithin_r1 ++ wsX1_openingsWithin_r2) ++ wsX10 ++ wsX40)
def wsX2_cellsWith : List Cond := .code yX2_cellsWith cX2_cellsWith 4 (some .int) :: ([.fieldLink RX2 9 "MarbleBench$Print" "colours" "[I"] ++ wsX20)
def wsX3_add : List Cond := .code yX3_add cX3_add 2 none :: ([.fieldLink RX3 15 "MarbleBench$Repairs" "number" "I", .fieldLink RX3 9 "MarbleBench$Repairs" "stuffs" "[I"] ++ wsX30)
def wsX3_latest : List Cond := .code yX3_latest cX3_latest 1 (some .int) :: ([.fieldLink RX3 15 "MarbleBench$Repairs" "number" "I", .fieldLink RX3 9 "MarbleBench$Repairs" "stuffs" "[I"] ++ wsX30)
def wsX3_dropLatest : List Cond := .code yX3_dropLatest cX3_dropLatest 1 none :: ([.fieldLink RX3 15 "MarbleBench$Repairs" "number" "I"] ++ wsX30)
def wsX4_allows : List Cond := .code yX4_allows cX4_allows 2 (some .boolean) :: ([.fieldLink RX4 28 "MarbleBench$Sewing" "moveCount" "I", .fieldLink RX4 31 "MarbleBench$Sewing" "station" "I", .fieldLink RX4 25 "MarbleBench$Sewing" "stations" "I", .fieldLink RX4 34 "MarbleBench$Sewing" "isInside" "Z", .fieldLink RX4 38 "MarbleBench$Sewing" "gathering" "I", .fieldLink RX4 21 "MarbleBench$Sewing" "gatherings" "I"] ++ wsX40)
def wsX4_pass : List Cond := .code yX4_pass cX4_pass 4 none :: ([.fieldLink RX4 55 "MarbleBench$Sewing" "length" "I", .fieldLink RX4 38 "MarbleBench$Sewing" "gathering" "I", .fieldLink RX4 34 "MarbleBench$Sewing" "isInside" "Z", .fieldLink RX4 9 "MarbleBench$Sewing" "laid" "[I"] ++ wsX40)
def wsX4_link : List Cond := .code yX4_link cX4_link 3 none :: ([.fieldLink RX4 55 "MarbleBench$Sewing" "length" "I", .fieldLink RX4 15 "MarbleBench$Sewing" "links" "[I"] ++ wsX40)
def wsX4_go : List Cond := .code yX4_go cX4_go 3 none :: ([.fieldLink RX4 31 "MarbleBench$Sewing" "station" "I", .fieldLink RX4 38 "MarbleBench$Sewing" "gathering" "I", .fieldLink RX4 34 "MarbleBench$Sewing" "isInside" "Z", .methodLink RX4 49 yX4_pass, .instanceMethod yX4_pass, .selects RX4 yX4_pass yX4_pass, .initialized RX4, .code yX4_pass cX4_pass 4 none, .fieldLink RX4 55 "MarbleBench$Sewing" "length" "I", .fieldLink RX4 9 "MarbleBench$Sewing" "laid" "[I", .methodLink RX4 52 yX4_link, .instanceMethod yX4_link, .selects RX4 yX4_link yX4_link, .code yX4_link cX4_link 3 none, .fieldLink RX4 15 "MarbleBench$Sewing" "links" "[I"] ++ wsX40)
def wsX4_make : List Cond := .code yX4_make cX4_make 2 none :: ([.fieldLink RX4 28 "MarbleBench$Sewing" "moveCount" "I", .fieldLink RX4 18 "MarbleBench$Sewing" "moves" "[I", .methodLink RX4 41 yX4_go, .instanceMethod yX4_go, .selects RX4 yX4_go yX4_go, .initialized RX4, .code yX4_go cX4_go 3 none, .fieldLink RX4 31 "MarbleBench$Sewing" "station" "I", .fieldLink RX4 38 "MarbleBench$Sewing" "gathering" "I", .fieldLink RX4 34 "MarbleBench$Sewing" "isInside" "Z", .methodLink RX4 49 yX4_pass, .instanceMethod yX4_pass, .selects RX4 yX4_pass yX4_pass, .code yX4_pass cX4_pass 4 none, .fieldLink RX4 55 "MarbleBench$Sewing" "length" "I", .fieldLink RX4 9 "MarbleBench$Sewing" "laid" "[I", .methodLink RX4 52 yX4_link, .instanceMethod yX4_link, .selects RX4 yX4_link yX4_link, .code yX4_link cX4_link 3 none, .fieldLink RX4 15 "MarbleBench$Sewing" "links" "[I"] ++ wsX40)
def wsX4_opposite : List Cond := .code yX4_opposite cX4_opposite 1 (some .int) :: ([])
def wsX4_takeBack : List Cond := .code yX4_takeBack cX4_takeBack 1 none :: ([.fieldLink RX4 28 "MarbleBench$Sewing" "moveCount" "I", .fieldLink RX4 18 "MarbleBench$Sewing" "moves" "[I", .methodLink RX4 45 yX4_opposite, .static yX4_opposite, .initialized RX4, .code yX4_opposite cX4_opposite 1 (some .int), .methodLink RX4 41 yX4_go, .instanceMethod yX4_go, .selects RX4 yX4_go yX4_go, .code yX4_go cX4_go 3 none, .fieldLink RX4 31 "MarbleBench$Sewing" "station" "I", .fieldLink RX4 38 "MarbleBench$Sewing" "gathering" "I", .fieldLink RX4 34 "MarbleBench$Sewing" "isInside" "Z", .methodLink RX4 49 yX4_pass, .instanceMethod yX4_pass, .selects RX4 yX4_pass yX4_pass, .code yX4_pass cX4_pass 4 none, .fieldLink RX4 55 "MarbleBench$Sewing" "length" "I", .fieldLink RX4 9 "MarbleBench$Sewing" "laid" "[I", .methodLink RX4 52 yX4_link, .instanceMethod yX4_link, .selects RX4 yX4_link yX4_link, .code yX4_link cX4_link 3 none, .fieldLink RX4 15 "MarbleBench$Sewing" "links" "[I"] ++ wsX40)
def wsX4_holds : List Cond := .code yX4_holds cX4_holds 4 (some .boolean) :: ([.fieldLink RX4 25 "MarbleBench$Sewing" "stations" "I", .methodLink RX4 58 yX4_stitchesAt, .instanceMethod yX4_stitchesAt, .selects RX4 yX4_stitchesAt yX4_stitchesAt, .initialized RX4, .code yX4_stitchesAt cX4_stitchesAt 4 (some .int), .fieldLink RX4 9 "MarbleBench$Sewing" "laid" "[I"] ++ wsX40)
def wsX4_isSewn : List Cond := .code yX4_isSewn cX4_isSewn 3 (some .boolean) :: ([.fieldLink RX4 34 "MarbleBench$Sewing" "isInside" "Z", .fieldLink RX4 21 "MarbleBench$Sewing" "gatherings" "I", .fieldLink RX4 15 "MarbleBench$Sewing" "links" "[I", .methodLink RX4 62 yX4_holds, .instanceMethod yX4_holds, .selects RX4 yX4_holds yX4_holds, .initialized RX4, .code yX4_holds cX4_holds 4 (some .boolean), .fieldLink RX4 25 "MarbleBench$Sewing" "stations" "I", .methodLink RX4 58 yX4_stitchesAt, .instanceMethod yX4_stitchesAt, .selects RX4 yX4_stitchesAt yX4_stitchesAt, .code yX4_stitchesAt cX4_stitchesAt 4 (some .int), .fieldLink RX4 9 "MarbleBench$Sewing" "laid" "[I"] ++ wsX40)
def wsX5_init : List Cond := .code yX5_init cX5_init 3 none :: ([.methodLink RX5 3 objectInit, .instanceMethod objectInit, .code objectInit ⟨#[0xb1]⟩ 1 none, .arrayClass .int, .fieldLink RX5 9 "MarbleBench$Skin" "thicknesses" "[I"] ++ wsX50)
def wsX5_thinnest : List Cond := .code yX5_thinnest cX5_thinnest 8 (some .int) :: ([.fieldLink RX5 9 "MarbleBench$Skin" "thicknesses" "[I", .methodLink RX5 19 Lib.Math.min.name, .static Lib.Math.min.name, .initialized "java/lang/Math", .code Lib.Math.min.name Lib.Math.min.code 2 (some .int), .static yX7_cellOf, .initialized RX7, .code yX7_cellOf cX7_cellOf 2 (some .int)] ++ wsX50)
def wsX5_thin : List Cond := .code yX5_thin cX5_thin 8 none :: ([.fieldLink RX5 9 "MarbleBench$Skin" "thicknesses" "[I", .static yX7_cellOf, .initialized RX7, .code yX7_cellOf cX7_cellOf 2 (some .int)] ++ wsX50)
def wsX7_isWithin : List Cond := .code yX7_isWithin cX7_isWithin 3 (some .boolean) :: ([])
def wsX5_mostAt : List Cond := .code yX5_mostAt cX5_mostAt 3 (some .int) :: ([.static yX7_isWithin, .initialized RX7, .code yX7_isWithin cX7_isWithin 3 (some .boolean)])
def wsX5_placesTooThick : List Cond := .code yX5_placesTooThick cX5_placesTooThick 4 (some .int) :: ([.fieldLink RX5 9 "MarbleBench$Skin" "thicknesses" "[I", .static yX7_cellOf, .initialized RX7, .code yX7_cellOf cX7_cellOf 2 (some .int), .methodLink RX5 24 yX5_mostAt, .static yX5_mostAt, .initialized RX5, .code yX5_mostAt cX5_mostAt 3 (some .int), .static yX7_isWithin, .code yX7_isWithin cX7_isWithin 3 (some .boolean)] ++ wsX50)
def wsX6_add : List Cond := .code yX6_add cX6_add 4 none :: ([.fieldLink RX6 21 "MarbleBench$Speakers" "number" "I", .fieldLink RX6 9 "MarbleBench$Speakers" "froms" "[I", .fieldLink RX6 15 "MarbleBench$Speakers" "tos" "[I", .fieldLink RX6 18 "MarbleBench$Speakers" "weights" "[I"] ++ wsX60)
def wsX6_weightIn : List Cond := .code yX6_weightIn cX6_weightIn 4 (some .int) :: ([.fieldLink RX6 21 "MarbleBench$Speakers" "number" "I", .fieldLink RX6 9 "MarbleBench$Speakers" "froms" "[I", .fieldLink RX6 15 "MarbleBench$Speakers" "tos" "[I", .fieldLink RX6 18 "MarbleBench$Speakers" "weights" "[I", .static yX7_isWithin, .initialized RX7, .code yX7_isWithin cX7_isWithin 3 (some .boolean)] ++ wsX60)
def wsX6_firstByEnds : List Cond := .code yX6_firstByEnds cX6_firstByEnds 5 (some .int) :: ([.fieldLink RX6 21 "MarbleBench$Speakers" "number" "I", .fieldLink RX6 9 "MarbleBench$Speakers" "froms" "[I", .methodLink RX6 29 yX6_weightIn, .instanceMethod yX6_weightIn, .selects RX6 yX6_weightIn yX6_weightIn, .initialized RX6, .code yX6_weightIn cX6_weightIn 4 (some .int), .fieldLink RX6 15 "MarbleBench$Speakers" "tos" "[I", .fieldLink RX6 18 "MarbleBench$Speakers" "weights" "[I", .static yX7_isWithin, .initialized RX7, .code yX7_isWithin cX7_isWithin 3 (some .boolean)] ++ wsX60)
def wsX6_lastByEnds : List Cond := .code yX6_lastByEnds cX6_lastByEnds 5 (some .int) :: ([.fieldLink RX6 21 "MarbleBench$Speakers" "number" "I", .fieldLink RX6 15 "MarbleBench$Speakers" "tos" "[I", .methodLink RX6 29 yX6_weightIn, .instanceMethod yX6_weightIn, .selects RX6 yX6_weightIn yX6_weightIn, .initialized RX6, .code yX6_weightIn cX6_weightIn 4 (some .int), .fieldLink RX6 9 "MarbleBench$Speakers" "froms" "[I", .fieldLink RX6 18 "MarbleBench$Speakers" "weights" "[I", .static yX7_isWithin, .initialized RX7, .code yX7_isWithin cX7_isWithin 3 (some .boolean)] ++ wsX60)
def wsX6_firstByYears : List Cond := .code yX6_firstByYears cX6_firstByYears 5 (some .int) :: ([.methodLink RX6 29 yX6_weightIn, .instanceMethod yX6_weightIn, .selects RX6 yX6_weightIn yX6_weightIn, .initialized RX6, .code yX6_weightIn cX6_weightIn 4 (some .int), .fieldLink RX6 21 "MarbleBench$Speakers" "number" "I", .fieldLink RX6 9 "MarbleBench$Speakers" "froms" "[I", .fieldLink RX6 15 "MarbleBench$Speakers" "tos" "[I", .fieldLink RX6 18 "MarbleBench$Speakers" "weights" "[I", .static yX7_isWithin, .initialized RX7, .code yX7_isWithin cX7_isWithin 3 (some .boolean)] ++ wsX60)
def wsX6_lastByYears : List Cond := .code yX6_lastByYears cX6_lastByYears 4 (some .int) :: ([.methodLink RX6 29 yX6_weightIn, .instanceMethod yX6_weightIn, .selects RX6 yX6_weightIn yX6_weightIn, .initialized RX6, .code yX6_weightIn cX6_weightIn 4 (some .int), .fieldLink RX6 21 "MarbleBench$Speakers" "number" "I", .fieldLink RX6 9 "MarbleBench$Speakers" "froms" "[I", .fieldLink RX6 15 "MarbleBench$Speakers" "tos" "[I", .fieldLink RX6 18 "MarbleBench$Speakers" "weights" "[I", .static yX7_isWithin, .initialized RX7, .code yX7_isWithin cX7_isWithin 3 (some .boolean)] ++ wsX60)
def wsX7_init : List Cond := .code yX7_init cX7_init 1 none :: ([.methodLink RX7 3 objectInit, .instanceMethod objectInit, .code objectInit ⟨#[0xb1]⟩ 1 none, .classLink RX7 9 RX0, .instantiable RX0 5, .initialized RX0, .fieldLink RX7 12 "MarbleBench" "bath" "LMarbleBench$Bath;", .classLink RX7 16 RX2, .fieldLink RX7 18 "MarbleBench" "prints" "[LMarbleBench$Print;", .classLink RX7 22 RX1, .fieldLink RX7 24 "MarbleBench" "books" "[LMarbleBench$Book;", .classLink RX7 28 RX5, .fieldLink RX7 30 "MarbleBench" "skins" "[LMarbleBench$Skin;", .methodLink RX7 11 yX0_init, .instanceMethod yX0_init, .code yX0_init cX0_init 2 none, .methodLink RX0 3 objectInit, .arrayClass .int, .fieldLink RX0 9 "MarbleBench$Bath" "colours" "[I", .fieldLink RX0 15 "MarbleBench$Bath" "strengths" "[I", .fieldLink RX0 18 "MarbleBench$Bath" "cellsAway" "[I", .fieldLink RX0 21 "MarbleBench$Bath" "lineColours" "[I", .fieldLink RX0 24 "MarbleBench$Bath" "lineStrengths" "[I"] ++ wsX00 ++ wsX70)
def wsX7_isOnSide : List Cond := .code yX7_isOnSide cX7_isOnSide 1 (some .boolean) :: ([.methodLink RX7 42 yX7_isWithin, .static yX7_isWithin, .initialized RX7, .code yX7_isWithin cX7_isWithin 3 (some .boolean)])
def wsX7_isOnGrid : List Cond := .code yX7_isOnGrid cX7_isOnGrid 2 (some .boolean) :: ([.methodLink RX7 53 yX7_isOnSide, .static yX7_isOnSide, .initialized RX7, .code yX7_isOnSide cX7_isOnSide 1 (some .boolean), .methodLink RX7 42 yX7_isWithin, .static yX7_isWithin, .code yX7_isWithin cX7_isWithin 3 (some .boolean)])
def wsX7_demandPlace : List Cond := .code yX7_demandPlace cX7_demandPlace 1 none :: ([.classLink RX7 257 "java/lang/IndexOutOfBoundsException", .initialized "java/lang/IndexOutOfBoundsException"] ++ (vx_atS RX7 261 "java/lang/IndexOutOfBoundsException" ["java/lang/RuntimeException", "java/lang/Exception"]).filter goodWord)
def wsX7_demandArgument : List Cond := .code yX7_demandArgument cX7_demandArgument 1 none :: ([.classLink RX7 264 "java/lang/IllegalArgumentException", .initialized "java/lang/IllegalArgumentException"] ++ (vx_atS RX7 268 "java/lang/IllegalArgumentException" ["java/lang/RuntimeException", "java/lang/Exception"]).filter goodWord)
def wsX7_drop_r1 : List Cond := [Cond.fieldLink RX7 12 "MarbleBench" "bath" "LMarbleBench$Bath;", Cond.methodLink RX7 34 yX7_isOnGrid, Cond.static yX7_isOnGrid, Cond.initialized RX7, Cond.code yX7_isOnGrid cX7_isOnGrid 2 (some .boolean), Cond.methodLink RX7 53 yX7_isOnSide, Cond.static yX7_isOnSide, Cond.code yX7_isOnSide cX7_isOnSide 1 (some .boolean), Cond.methodLink RX7 42 yX7_isWithin, Cond.static yX7_isWithin, Cond.code yX7_isWithin cX7_isWithin 3 (some .boolean), Cond.methodLink RX7 38 yX7_demandPlace, Cond.static yX7_demandPlace, Cond.code yX7_demandPlace cX7_demandPlace 1 none, Cond.classLink RX7 257 "java/lang/IndexOutOfBoundsException", Cond.initialized "java/lang/IndexOutOfBoundsException", Cond.methodLink RX7 46 yX7_demandArgument, Cond.static yX7_demandArgument, Cond.code yX7_demandArgument cX7_demandArgument 1 none, Cond.classLink RX7 264 "java/lang/IllegalArgumentException", Cond.initialized "java/lang/IllegalArgumentException", Cond.methodLink RX7 49 yX0_spread, Cond.instanceMethod yX0_spread, Cond.selects RX0 yX0_spread yX0_spread]
def wsX7_drop_r2 : List Cond := [Cond.initialized RX0, Cond.code yX0_spread cX0_spread 11 (some .int), Cond.fieldLink RX0 18 "MarbleBench$Bath" "cellsAway" "[I", Cond.fieldLink RX0 9 "MarbleBench$Bath" "colours" "[I", Cond.fieldLink RX0 15 "MarbleBench$Bath" "strengths" "[I", Cond.methodLink RX0 27 yX0_countCellsAway, Cond.instanceMethod yX0_countCellsAway, Cond.selects RX0 yX0_countCellsAway yX0_countCellsAway, Cond.code yX0_countCellsAway cX0_countCellsAway 4 none, Cond.methodLink RX0 31 yX0_distance, Cond.static yX0_distance, Cond.code yX0_distance cX0_distance 5 (some .int)]
def wsX7_drop : List Cond := .code yX7_drop cX7_drop 5 (some .int) :: ((wsX7_drop_r1 ++ wsX7_drop_r2) ++ wsX70 ++ wsX00 ++ (vx_atS RX7 261 "java/lang/IndexOutOfBoundsException" ["java/lang/RuntimeException", "java/lang/Exception"]).filter goodWord ++ (vx_atS RX7 268 "java/lang/IllegalArgumentException" ["java/lang/RuntimeException", "java/lang/Exception"]).filter goodWord)
def wsX7_comb_r1 : List Cond := [Cond.fieldLink RX7 12 "MarbleBench" "bath" "LMarbleBench$Bath;", Cond.methodLink RX7 53 yX7_isOnSide, Cond.static yX7_isOnSide, Cond.initialized RX7, Cond.code yX7_isOnSide cX7_isOnSide 1 (some .boolean), Cond.methodLink RX7 42 yX7_isWithin, Cond.static yX7_isWithin, Cond.code yX7_isWithin cX7_isWithin 3 (some .boolean), Cond.methodLink RX7 38 yX7_demandPlace, Cond.static yX7_demandPlace, Cond.code yX7_demandPlace cX7_demandPlace 1 none, Cond.classLink RX7 257 "java/lang/IndexOutOfBoundsException", Cond.initialized "java/lang/IndexOutOfBoundsException", Cond.methodLink RX7 46 yX7_demandArgument, Cond.static yX7_demandArgument, Cond.code yX7_demandArgument cX7_demandArgument 1 none, Cond.classLink RX7 264 "java/lang/IllegalArgumentException", Cond.initialized "java/lang/IllegalArgumentException", Cond.methodLink RX7 57 yX0_shift, Cond.instanceMethod yX0_shift, Cond.selects RX0 yX0_shift yX0_shift, Cond.initialized RX0, Cond.code yX0_shift cX0_shift 8 (some .int), Cond.fieldLink RX0 21 "MarbleBench$Bath" "lineColours" "[I"]
def wsX7_comb_r2 : List Cond := [Cond.fieldLink RX0 9 "MarbleBench$Bath" "colours" "[I", Cond.fieldLink RX0 24 "MarbleBench$Bath" "lineStrengths" "[I", Cond.fieldLink RX0 15 "MarbleBench$Bath" "strengths" "[I", Cond.static yX7_cellOf, Cond.code yX7_cellOf cX7_cellOf 2 (some .int), Cond.methodLink RX0 39 yJ9_floorMod_7cf53, Cond.static yJ9_floorMod_7cf53, Cond.initialized RJ9, Cond.code yJ9_floorMod_7cf53 cJ9_floorMod_7cf53 3 (some .int)]
def wsX7_comb : List Cond := .code yX7_comb cX7_comb 4 (some .int) :: ((wsX7_comb_r1 ++ wsX7_comb_r2) ++ wsX70 ++ wsX00 ++ (vx_atS RX7 261 "java/lang/IndexOutOfBoundsException" ["java/lang/RuntimeException", "java/lang/Exception"]).filter goodWord ++ (vx_atS RX7 268 "java/lang/IllegalArgumentException" ["java/lang/RuntimeException", "java/lang/Exception"]).filter goodWord)
def wsX7_demandState : List Cond := .code yX7_demandState cX7_demandState 1 none :: ([.classLink RX7 269 "java/lang/IllegalStateException", .initialized "java/lang/IllegalStateException"] ++ (vx_atS RX7 273 "java/lang/IllegalStateException" ["java/lang/RuntimeException", "java/lang/Exception"]).filter goodWord)
def wsX7_lift_r1 : List Cond := [Cond.fieldLink RX7 61 "MarbleBench" "printCount" "I", Cond.fieldLink RX7 18 "MarbleBench" "prints" "[LMarbleBench$Print;", Cond.fieldLink RX7 12 "MarbleBench" "bath" "LMarbleBench$Bath;", Cond.methodLink RX7 65 yX7_demandState, Cond.static yX7_demandState, Cond.initialized RX7, Cond.code yX7_demandState cX7_demandState 1 none, Cond.classLink RX7 269 "java/lang/IllegalStateException", Cond.initialized "java/lang/IllegalStateException", Cond.methodLink RX7 68 yX0_press, Cond.instanceMethod yX0_press, Cond.selects RX0 yX0_press yX0_press, Cond.initialized RX0, Cond.code yX0_press cX0_press 3 (some (.object "MarbleBench$Print")), Cond.classLink RX0 44 RX2, Cond.instantiable RX2 1, Cond.initialized RX2, Cond.fieldLink RX0 9 "MarbleBench$Bath" "colours" "[I", Cond.instanceMethod yX2_init, Cond.code yX2_init cX2_init 1 none, Cond.methodLink RX2 3 objectInit, Cond.instanceMethod objectInit, Cond.code objectInit ⟨#[0xb1]⟩ 1 none, Cond.arrayClass .int]
def wsX7_lift_r2 : List Cond := [Cond.fieldLink RX2 9 "MarbleBench$Print" "colours" "[I", Cond.methodLink RX7 72 yX0_fade, Cond.instanceMethod yX0_fade, Cond.selects RX0 yX0_fade yX0_fade, Cond.code yX0_fade cX0_fade 2 none, Cond.fieldLink RX0 15 "MarbleBench$Bath" "strengths" "[I"]
def wsX7_lift : List Cond := .code yX7_lift cX7_lift 2 (some .int) :: ((wsX7_lift_r1 ++ wsX7_lift_r2) ++ wsX70 ++ wsX20 ++ wsX00 ++ (vx_atS RX7 273 "java/lang/IllegalStateException" ["java/lang/RuntimeException", "java/lang/Exception"]).filter goodWord)
def wsX7_clean : List Cond := .code yX7_clean cX7_clean 1 (some .int) :: ([.fieldLink RX7 12 "MarbleBench" "bath" "LMarbleBench$Bath;", .methodLink RX7 75 yX0_empty, .instanceMethod yX0_empty, .selects RX0 yX0_empty yX0_empty, .initialized RX0, .code yX0_empty cX0_empty 3 (some .int), .fieldLink RX0 9 "MarbleBench$Bath" "colours" "[I", .fieldLink RX0 15 "MarbleBench$Bath" "strengths" "[I"] ++ wsX70 ++ wsX00)
def wsX7_cellAt : List Cond := .code yX7_cellAt cX7_cellAt 5 (some .int) :: ([.fieldLink RX7 12 "MarbleBench" "bath" "LMarbleBench$Bath;", .methodLink RX7 34 yX7_isOnGrid, .static yX7_isOnGrid, .initialized RX7, .code yX7_isOnGrid cX7_isOnGrid 2 (some .boolean), .methodLink RX7 53 yX7_isOnSide, .static yX7_isOnSide, .code yX7_isOnSide cX7_isOnSide 1 (some .boolean), .methodLink RX7 42 yX7_isWithin, .static yX7_isWithin, .code yX7_isWithin cX7_isWithin 3 (some .boolean), .methodLink RX7 38 yX7_demandPlace, .static yX7_demandPlace, .code yX7_demandPlace cX7_demandPlace 1 none, .classLink RX7 257 "java/lang/IndexOutOfBoundsException", .initialized "java/lang/IndexOutOfBoundsException", .methodLink RX7 46 yX7_demandArgument, .static yX7_demandArgument, .code yX7_demandArgument cX7_demandArgument 1 none, .classLink RX7 264 "java/lang/IllegalArgumentException", .initialized "java/lang/IllegalArgumentException", .methodLink RX7 79 yX7_cellOf, .static yX7_cellOf, .code yX7_cellOf cX7_cellOf 2 (some .int)] ++ wsX70 ++ wsX00 ++ (vx_atS RX7 261 "java/lang/IndexOutOfBoundsException" ["java/lang/RuntimeException", "java/lang/Exception"]).filter goodWord ++ (vx_atS RX7 268 "java/lang/IllegalArgumentException" ["java/lang/RuntimeException", "java/lang/Exception"]).filter goodWord)
def wsX7_printOf : List Cond := .code yX7_printOf cX7_printOf 3 (some (.object "MarbleBench$Print")) :: ([.classLink RX7 257 "java/lang/IndexOutOfBoundsException", .initialized "java/lang/IndexOutOfBoundsException", .fieldLink RX7 18 "MarbleBench" "prints" "[LMarbleBench$Print;", .methodLink RX7 42 yX7_isWithin, .static yX7_isWithin, .initialized RX7, .code yX7_isWithin cX7_isWithin 3 (some .boolean)] ++ wsX70 ++ (vx_atS RX7 261 "java/lang/IndexOutOfBoundsException" ["java/lang/RuntimeException", "java/lang/Exception"]).filter goodWord)
def wsX7_printAt : List Cond := .code yX7_printAt cX7_printAt 5 (some .int) :: ([.methodLink RX7 90 yX7_printOf, .instanceMethod yX7_printOf, .selects RX7 yX7_printOf yX7_printOf, .initialized RX7, .code yX7_printOf cX7_printOf 3 (some (.object "MarbleBench$Print")), .classLink RX7 257 "java/lang/IndexOutOfBoundsException", .initialized "java/lang/IndexOutOfBoundsException", .fieldLink RX7 18 "MarbleBench" "prints" "[LMarbleBench$Print;", .methodLink RX7 42 yX7_isWithin, .static yX7_isWithin, .code yX7_isWithin cX7_isWithin 3 (some .boolean), .methodLink RX7 34 yX7_isOnGrid, .static yX7_isOnGrid, .code yX7_isOnGrid cX7_isOnGrid 2 (some .boolean), .methodLink RX7 53 yX7_isOnSide, .static yX7_isOnSide, .code yX7_isOnSide cX7_isOnSide 1 (some .boolean), .methodLink RX7 38 yX7_demandPlace, .static yX7_demandPlace, .code yX7_demandPlace cX7_demandPlace 1 none, .methodLink RX7 79 yX7_cellOf, .static yX7_cellOf, .code yX7_cellOf cX7_cellOf 2 (some .int)] ++ wsX20 ++ wsX70 ++ (vx_atS RX7 261 "java/lang/IndexOutOfBoundsException" ["java/lang/RuntimeException", "java/lang/Exception"]).filter goodWord)
def wsX7_count : List Cond := .code yX7_count cX7_count 4 (some .int) :: ([.methodLink RX7 90 yX7_printOf, .instanceMethod yX7_printOf, .selects RX7 yX7_printOf yX7_printOf, .initialized RX7, .code yX7_printOf cX7_printOf 3 (some (.object "MarbleBench$Print")), .classLink RX7 257 "java/lang/IndexOutOfBoundsException", .initialized "java/lang/IndexOutOfBoundsException", .fieldLink RX7 18 "MarbleBench" "prints" "[LMarbleBench$Print;", .methodLink RX7 42 yX7_isWithin, .static yX7_isWithin, .code yX7_isWithin cX7_isWithin 3 (some .boolean), .methodLink RX7 46 yX7_demandArgument, .static yX7_demandArgument, .code yX7_demandArgument cX7_demandArgument 1 none, .classLink RX7 264 "java/lang/IllegalArgumentException", .initialized "java/lang/IllegalArgumentException", .methodLink RX7 95 yX2_cellsWith, .instanceMethod yX2_cellsWith, .selects RX2 yX2_cellsWith yX2_cellsWith, .initialized RX2, .code yX2_cellsWith cX2_cellsWith 4 (some .int), .fieldLink RX2 9 "MarbleBench$Print" "colours" "[I"] ++ wsX70 ++ wsX20 ++ (vx_atS RX7 261 "java/lang/IndexOutOfBoundsException" ["java/lang/RuntimeException", "java/lang/Exception"]).filter goodWord ++ (vx_atS RX7 268 "java/lang/IllegalArgumentException" ["java/lang/RuntimeException", "java/lang/Exception"]).filter goodWord)
def wsX7_columnsOf : List Cond := .code yX7_columnsOf cX7_columnsOf 1 (some .int) :: ([])
def wsX7_rowsOf : List Cond := .code yX7_rowsOf cX7_rowsOf 1 (some .int) :: ([])
def wsX7_foldedPage : List Cond := .code yX7_foldedPage cX7_foldedPage 10 (some .int) :: ([.methodLink RX7 99 yX7_columnsOf, .static yX7_columnsOf, .initialized RX7, .code yX7_columnsOf cX7_columnsOf 1 (some .int), .methodLink RX7 102 yX7_rowsOf, .static yX7_rowsOf, .code yX7_rowsOf cX7_rowsOf 1 (some .int)])
def wsX7_pageAt : List Cond := .code yX7_pageAt cX7_pageAt 5 (some .int) :: ([.methodLink RX7 42 yX7_isWithin, .static yX7_isWithin, .initialized RX7, .code yX7_isWithin cX7_isWithin 3 (some .boolean), .methodLink RX7 46 yX7_demandArgument, .static yX7_demandArgument, .code yX7_demandArgument cX7_demandArgument 1 none, .classLink RX7 264 "java/lang/IllegalArgumentException", .initialized "java/lang/IllegalArgumentException", .methodLink RX7 99 yX7_columnsOf, .static yX7_columnsOf, .code yX7_columnsOf cX7_columnsOf 1 (some .int), .methodLink RX7 102 yX7_rowsOf, .static yX7_rowsOf, .code yX7_rowsOf cX7_rowsOf 1 (some .int), .methodLink RX7 105 yX7_foldedPage, .static yX7_foldedPage, .code yX7_foldedPage cX7_foldedPage 10 (some .int)] ++ (vx_atS RX7 268 "java/lang/IllegalArgumentException" ["java/lang/RuntimeException", "java/lang/Exception"]).filter goodWord)
def wsX7_unfoldedPlace : List Cond := .code yX7_unfoldedPlace cX7_unfoldedPlace 4 (some .int) :: ([.methodLink RX7 102 yX7_rowsOf, .static yX7_rowsOf, .initialized RX7, .code yX7_rowsOf cX7_rowsOf 1 (some .int), .methodLink RX7 99 yX7_columnsOf, .static yX7_columnsOf, .code yX7_columnsOf cX7_columnsOf 1 (some .int), .methodLink RX7 105 yX7_foldedPage, .static yX7_foldedPage, .code yX7_foldedPage cX7_foldedPage 10 (some .int)])
def wsX7_placeOf : List Cond := .code yX7_placeOf cX7_placeOf 3 (some .int) :: ([.methodLink RX7 42 yX7_isWithin, .static yX7_isWithin, .initialized RX7, .code yX7_isWithin cX7_isWithin 3 (some .boolean), .methodLink RX7 46 yX7_demandArgument, .static yX7_demandArgument, .code yX7_demandArgument cX7_demandArgument 1 none, .classLink RX7 264 "java/lang/IllegalArgumentException", .initialized "java/lang/IllegalArgumentException", .methodLink RX7 99 yX7_columnsOf, .static yX7_columnsOf, .code yX7_columnsOf cX7_columnsOf 1 (some .int), .methodLink RX7 102 yX7_rowsOf, .static yX7_rowsOf, .code yX7_rowsOf cX7_rowsOf 1 (some .int), .methodLink RX7 109 yX7_unfoldedPlace, .static yX7_unfoldedPlace, .code yX7_unfoldedPlace cX7_unfoldedPlace 4 (some .int), .methodLink RX7 105 yX7_foldedPage, .static yX7_foldedPage, .code yX7_foldedPage cX7_foldedPage 10 (some .int)] ++ (vx_atS RX7 268 "java/lang/IllegalArgumentException" ["java/lang/RuntimeException", "java/lang/Exception"]).filter goodWord)
def wsX7_book_r1 : List Cond := [Cond.fieldLink RX7 112 "MarbleBench" "bookCount" "I", Cond.fieldLink RX7 24 "MarbleBench" "books" "[LMarbleBench$Book;", Cond.classLink RX7 22 RX1, Cond.instantiable RX1 7, Cond.initialized RX1, Cond.methodLink RX7 42 yX7_isWithin, Cond.static yX7_isWithin, Cond.initialized RX7, Cond.code yX7_isWithin cX7_isWithin 3 (some .boolean), Cond.methodLink RX7 46 yX7_demandArgument, Cond.static yX7_demandArgument, Cond.code yX7_demandArgument cX7_demandArgument 1 none, Cond.classLink RX7 264 "java/lang/IllegalArgumentException", Cond.initialized "java/lang/IllegalArgumentException", Cond.methodLink RX7 65 yX7_demandState, Cond.static yX7_demandState, Cond.code yX7_demandState cX7_demandState 1 none, Cond.classLink RX7 269 "java/lang/IllegalStateException", Cond.initialized "java/lang/IllegalStateException", Cond.methodLink RX7 115 yX1_init, Cond.instanceMethod yX1_init, Cond.code yX1_init cX1_init 6 none, Cond.methodLink RX1 3 objectInit, Cond.instanceMethod objectInit]
def wsX7_book_r2 : List Cond := [Cond.code objectInit ⟨#[0xb1]⟩ 1 none, Cond.classLink RX1 9 RX3, Cond.instantiable RX3 2, Cond.initialized RX3, Cond.fieldLink RX1 12 "MarbleBench$Book" "repairs" "LMarbleBench$Repairs;", Cond.classLink RX1 18 RX6, Cond.instantiable RX6 4, Cond.initialized RX6, Cond.fieldLink RX1 21 "MarbleBench$Book" "speakers" "LMarbleBench$Speakers;", Cond.fieldLink RX1 25 "MarbleBench$Book" "spine" "I", Cond.classLink RX1 29 RX4, Cond.instantiable RX4 10, Cond.initialized RX4, Cond.fieldLink RX1 34 "MarbleBench$Book" "sewing" "LMarbleBench$Sewing;", Cond.fieldLink RX1 38 "MarbleBench$Book" "leavesInAll" "I", Cond.fieldLink RX1 41 "MarbleBench$Book" "thickness" "I", Cond.fieldLink RX1 44 "MarbleBench$Book" "isOld" "Z", Cond.instanceMethod yX3_init, Cond.code yX3_init cX3_init 1 none, Cond.methodLink RX3 3 objectInit, Cond.arrayClass .int, Cond.fieldLink RX3 9 "MarbleBench$Repairs" "stuffs" "[I", Cond.instanceMethod yX6_init, Cond.code yX6_init cX6_init 1 none]
def wsX7_book_r3 : List Cond := [Cond.methodLink RX6 3 objectInit, Cond.fieldLink RX6 9 "MarbleBench$Speakers" "froms" "[I", Cond.fieldLink RX6 15 "MarbleBench$Speakers" "tos" "[I", Cond.fieldLink RX6 18 "MarbleBench$Speakers" "weights" "[I", Cond.methodLink RX1 31 yX4_init, Cond.instanceMethod yX4_init, Cond.code yX4_init cX4_init 3 none, Cond.methodLink RX4 3 objectInit, Cond.fieldLink RX4 9 "MarbleBench$Sewing" "laid" "[I", Cond.fieldLink RX4 15 "MarbleBench$Sewing" "links" "[I", Cond.fieldLink RX4 18 "MarbleBench$Sewing" "moves" "[I", Cond.fieldLink RX4 21 "MarbleBench$Sewing" "gatherings" "I", Cond.fieldLink RX4 25 "MarbleBench$Sewing" "stations" "I"]
def wsX7_book : List Cond := .code yX7_book cX7_book 7 (some .int) :: ((wsX7_book_r1 ++ (wsX7_book_r2 ++ wsX7_book_r3)) ++ wsX70 ++ wsX10 ++ wsX30 ++ wsX60 ++ wsX40 ++ (vx_atS RX7 268 "java/lang/IllegalArgumentException" ["java/lang/RuntimeException", "java/lang/Exception"]).filter goodWord ++ (vx_atS RX7 273 "java/lang/IllegalStateException" ["java/lang/RuntimeException", "java/lang/Exception"]).filter goodWord)
def wsX7_bookOf : List Cond := .code yX7_bookOf cX7_bookOf 3 (some (.object "MarbleBench$Book")) :: ([.classLink RX7 257 "java/lang/IndexOutOfBoundsException", .initialized "java/lang/IndexOutOfBoundsException", .fieldLink RX7 24 "MarbleBench" "books" "[LMarbleBench$Book;", .methodLink RX7 42 yX7_isWithin, .static yX7_isWithin, .initialized RX7, .code yX7_isWithin cX7_isWithin 3 (some .boolean)] ++ wsX70 ++ (vx_atS RX7 261 "java/lang/IndexOutOfBoundsException" ["java/lang/RuntimeException", "java/lang/Exception"]).filter goodWord)
def wsX7_sew_r1 : List Cond := [Cond.methodLink RX7 118 yX7_bookOf, Cond.instanceMethod yX7_bookOf, Cond.selects RX7 yX7_bookOf yX7_bookOf, Cond.initialized RX7, Cond.code yX7_bookOf cX7_bookOf 3 (some (.object "MarbleBench$Book")), Cond.classLink RX7 257 "java/lang/IndexOutOfBoundsException", Cond.initialized "java/lang/IndexOutOfBoundsException", Cond.fieldLink RX7 24 "MarbleBench" "books" "[LMarbleBench$Book;", Cond.methodLink RX7 42 yX7_isWithin, Cond.static yX7_isWithin, Cond.code yX7_isWithin cX7_isWithin 3 (some .boolean), Cond.methodLink RX7 46 yX7_demandArgument, Cond.static yX7_demandArgument, Cond.code yX7_demandArgument cX7_demandArgument 1 none, Cond.classLink RX7 264 "java/lang/IllegalArgumentException", Cond.initialized "java/lang/IllegalArgumentException", Cond.methodLink RX7 126 yX4_allows, Cond.instanceMethod yX4_allows, Cond.selects RX4 yX4_allows yX4_allows, Cond.initialized RX4, Cond.code yX4_allows cX4_allows 2 (some .boolean), Cond.fieldLink RX4 28 "MarbleBench$Sewing" "moveCount" "I", Cond.fieldLink RX4 31 "MarbleBench$Sewing" "station" "I", Cond.fieldLink RX4 25 "MarbleBench$Sewing" "stations" "I"]
def wsX7_sew_r2 : List Cond := [Cond.fieldLink RX4 34 "MarbleBench$Sewing" "isInside" "Z", Cond.fieldLink RX4 38 "MarbleBench$Sewing" "gathering" "I", Cond.fieldLink RX4 21 "MarbleBench$Sewing" "gatherings" "I", Cond.methodLink RX7 65 yX7_demandState, Cond.static yX7_demandState, Cond.code yX7_demandState cX7_demandState 1 none, Cond.classLink RX7 269 "java/lang/IllegalStateException", Cond.initialized "java/lang/IllegalStateException", Cond.methodLink RX7 131 yX4_make, Cond.instanceMethod yX4_make, Cond.selects RX4 yX4_make yX4_make, Cond.code yX4_make cX4_make 2 none, Cond.fieldLink RX4 18 "MarbleBench$Sewing" "moves" "[I", Cond.methodLink RX4 41 yX4_go, Cond.instanceMethod yX4_go, Cond.selects RX4 yX4_go yX4_go, Cond.code yX4_go cX4_go 3 none, Cond.methodLink RX4 49 yX4_pass, Cond.instanceMethod yX4_pass, Cond.selects RX4 yX4_pass yX4_pass, Cond.code yX4_pass cX4_pass 4 none, Cond.fieldLink RX4 55 "MarbleBench$Sewing" "length" "I", Cond.fieldLink RX4 9 "MarbleBench$Sewing" "laid" "[I", Cond.methodLink RX4 52 yX4_link]
def wsX7_sew_r3 : List Cond := [Cond.instanceMethod yX4_link, Cond.selects RX4 yX4_link yX4_link, Cond.code yX4_link cX4_link 3 none, Cond.fieldLink RX4 15 "MarbleBench$Sewing" "links" "[I"]
def wsX7_sew : List Cond := .code yX7_sew cX7_sew 4 (some .int) :: ((wsX7_sew_r1 ++ (wsX7_sew_r2 ++ wsX7_sew_r3)) ++ wsX10 ++ wsX40 ++ wsX70 ++ (vx_atS RX7 261 "java/lang/IndexOutOfBoundsException" ["java/lang/RuntimeException", "java/lang/Exception"]).filter goodWord ++ (vx_atS RX7 268 "java/lang/IllegalArgumentException" ["java/lang/RuntimeException", "java/lang/Exception"]).filter goodWord ++ (vx_atS RX7 273 "java/lang/IllegalStateException" ["java/lang/RuntimeException", "java/lang/Exception"]).filter goodWord)
def wsX7_unsew_r1 : List Cond := [Cond.methodLink RX7 118 yX7_bookOf, Cond.instanceMethod yX7_bookOf, Cond.selects RX7 yX7_bookOf yX7_bookOf, Cond.initialized RX7, Cond.code yX7_bookOf cX7_bookOf 3 (some (.object "MarbleBench$Book")), Cond.classLink RX7 257 "java/lang/IndexOutOfBoundsException", Cond.initialized "java/lang/IndexOutOfBoundsException", Cond.fieldLink RX7 24 "MarbleBench" "books" "[LMarbleBench$Book;", Cond.methodLink RX7 42 yX7_isWithin, Cond.static yX7_isWithin, Cond.code yX7_isWithin cX7_isWithin 3 (some .boolean), Cond.methodLink RX7 46 yX7_demandArgument, Cond.static yX7_demandArgument, Cond.code yX7_demandArgument cX7_demandArgument 1 none, Cond.classLink RX7 264 "java/lang/IllegalArgumentException", Cond.initialized "java/lang/IllegalArgumentException", Cond.methodLink RX7 65 yX7_demandState, Cond.static yX7_demandState, Cond.code yX7_demandState cX7_demandState 1 none, Cond.classLink RX7 269 "java/lang/IllegalStateException", Cond.initialized "java/lang/IllegalStateException", Cond.methodLink RX7 141 yX4_takeBack, Cond.instanceMethod yX4_takeBack, Cond.selects RX4 yX4_takeBack yX4_takeBack]
def wsX7_unsew_r2 : List Cond := [Cond.initialized RX4, Cond.code yX4_takeBack cX4_takeBack 1 none, Cond.fieldLink RX4 28 "MarbleBench$Sewing" "moveCount" "I", Cond.fieldLink RX4 18 "MarbleBench$Sewing" "moves" "[I", Cond.methodLink RX4 45 yX4_opposite, Cond.static yX4_opposite, Cond.code yX4_opposite cX4_opposite 1 (some .int), Cond.methodLink RX4 41 yX4_go, Cond.instanceMethod yX4_go, Cond.selects RX4 yX4_go yX4_go, Cond.code yX4_go cX4_go 3 none, Cond.fieldLink RX4 31 "MarbleBench$Sewing" "station" "I", Cond.fieldLink RX4 38 "MarbleBench$Sewing" "gathering" "I", Cond.fieldLink RX4 34 "MarbleBench$Sewing" "isInside" "Z", Cond.methodLink RX4 49 yX4_pass, Cond.instanceMethod yX4_pass, Cond.selects RX4 yX4_pass yX4_pass, Cond.code yX4_pass cX4_pass 4 none, Cond.fieldLink RX4 55 "MarbleBench$Sewing" "length" "I", Cond.fieldLink RX4 9 "MarbleBench$Sewing" "laid" "[I", Cond.methodLink RX4 52 yX4_link, Cond.instanceMethod yX4_link, Cond.selects RX4 yX4_link yX4_link, Cond.code yX4_link cX4_link 3 none]
def wsX7_unsew_r3 : List Cond := [Cond.fieldLink RX4 15 "MarbleBench$Sewing" "links" "[I"]
def wsX7_unsew : List Cond := .code yX7_unsew cX7_unsew 5 (some .int) :: ((wsX7_unsew_r1 ++ (wsX7_unsew_r2 ++ wsX7_unsew_r3)) ++ wsX10 ++ wsX40 ++ wsX70 ++ (vx_atS RX7 261 "java/lang/IndexOutOfBoundsException" ["java/lang/RuntimeException", "java/lang/Exception"]).filter goodWord ++ (vx_atS RX7 268 "java/lang/IllegalArgumentException" ["java/lang/RuntimeException", "java/lang/Exception"]).filter goodWord ++ (vx_atS RX7 273 "java/lang/IllegalStateException" ["java/lang/RuntimeException", "java/lang/Exception"]).filter goodWord)
def wsX7_ofThread_r1 : List Cond := [Cond.methodLink RX7 118 yX7_bookOf, Cond.instanceMethod yX7_bookOf, Cond.selects RX7 yX7_bookOf yX7_bookOf, Cond.initialized RX7, Cond.code yX7_bookOf cX7_bookOf 3 (some (.object "MarbleBench$Book")), Cond.classLink RX7 257 "java/lang/IndexOutOfBoundsException", Cond.initialized "java/lang/IndexOutOfBoundsException", Cond.fieldLink RX7 24 "MarbleBench" "books" "[LMarbleBench$Book;", Cond.methodLink RX7 42 yX7_isWithin, Cond.static yX7_isWithin, Cond.code yX7_isWithin cX7_isWithin 3 (some .boolean), Cond.methodLink RX7 46 yX7_demandArgument, Cond.static yX7_demandArgument, Cond.code yX7_demandArgument cX7_demandArgument 1 none, Cond.classLink RX7 264 "java/lang/IllegalArgumentException", Cond.initialized "java/lang/IllegalArgumentException", Cond.methodLink RX7 154 yX4_isSewn, Cond.instanceMethod yX4_isSewn, Cond.selects RX4 yX4_isSewn yX4_isSewn, Cond.initialized RX4, Cond.code yX4_isSewn cX4_isSewn 3 (some .boolean), Cond.fieldLink RX4 34 "MarbleBench$Sewing" "isInside" "Z", Cond.fieldLink RX4 21 "MarbleBench$Sewing" "gatherings" "I", Cond.fieldLink RX4 15 "MarbleBench$Sewing" "links" "[I"]
def wsX7_ofThread_r2 : List Cond := [Cond.methodLink RX4 62 yX4_holds, Cond.instanceMethod yX4_holds, Cond.selects RX4 yX4_holds yX4_holds, Cond.code yX4_holds cX4_holds 4 (some .boolean), Cond.fieldLink RX4 25 "MarbleBench$Sewing" "stations" "I", Cond.methodLink RX4 58 yX4_stitchesAt, Cond.instanceMethod yX4_stitchesAt, Cond.selects RX4 yX4_stitchesAt yX4_stitchesAt, Cond.code yX4_stitchesAt cX4_stitchesAt 4 (some .int), Cond.fieldLink RX4 9 "MarbleBench$Sewing" "laid" "[I"]
def wsX7_ofThread : List Cond := .code yX7_ofThread cX7_ofThread 4 (some .int) :: ((wsX7_ofThread_r1 ++ wsX7_ofThread_r2) ++ wsX10 ++ wsX40 ++ wsX70 ++ (vx_atS RX7 261 "java/lang/IndexOutOfBoundsException" ["java/lang/RuntimeException", "java/lang/Exception"]).filter goodWord ++ (vx_atS RX7 268 "java/lang/IllegalArgumentException" ["java/lang/RuntimeException", "java/lang/Exception"]).filter goodWord)
def wsX7_stitches : List Cond := .code yX7_stitches cX7_stitches 5 (some .int) :: ([.methodLink RX7 118 yX7_bookOf, .instanceMethod yX7_bookOf, .selects RX7 yX7_bookOf yX7_bookOf, .initialized RX7, .code yX7_bookOf cX7_bookOf 3 (some (.object "MarbleBench$Book")), .classLink RX7 257 "java/lang/IndexOutOfBoundsException", .initialized "java/lang/IndexOutOfBoundsException", .fieldLink RX7 24 "MarbleBench" "books" "[LMarbleBench$Book;", .methodLink RX7 42 yX7_isWithin, .static yX7_isWithin, .code yX7_isWithin cX7_isWithin 3 (some .boolean), .methodLink RX7 38 yX7_demandPlace, .static yX7_demandPlace, .code yX7_demandPlace cX7_demandPlace 1 none, .methodLink RX7 164 yX4_stitchesAt, .instanceMethod yX4_stitchesAt, .selects RX4 yX4_stitchesAt yX4_stitchesAt, .initialized RX4, .code yX4_stitchesAt cX4_stitchesAt 4 (some .int), .fieldLink RX4 9 "MarbleBench$Sewing" "laid" "[I"] ++ wsX10 ++ wsX40 ++ wsX70 ++ (vx_atS RX7 261 "java/lang/IndexOutOfBoundsException" ["java/lang/RuntimeException", "java/lang/Exception"]).filter goodWord)
def wsX7_isHeld_r1 : List Cond := [Cond.methodLink RX7 118 yX7_bookOf, Cond.instanceMethod yX7_bookOf, Cond.selects RX7 yX7_bookOf yX7_bookOf, Cond.initialized RX7, Cond.code yX7_bookOf cX7_bookOf 3 (some (.object "MarbleBench$Book")), Cond.classLink RX7 257 "java/lang/IndexOutOfBoundsException", Cond.initialized "java/lang/IndexOutOfBoundsException", Cond.fieldLink RX7 24 "MarbleBench" "books" "[LMarbleBench$Book;", Cond.methodLink RX7 42 yX7_isWithin, Cond.static yX7_isWithin, Cond.code yX7_isWithin cX7_isWithin 3 (some .boolean), Cond.methodLink RX7 38 yX7_demandPlace, Cond.static yX7_demandPlace, Cond.code yX7_demandPlace cX7_demandPlace 1 none, Cond.methodLink RX7 167 yX4_holds, Cond.instanceMethod yX4_holds, Cond.selects RX4 yX4_holds yX4_holds, Cond.initialized RX4, Cond.code yX4_holds cX4_holds 4 (some .boolean), Cond.fieldLink RX4 25 "MarbleBench$Sewing" "stations" "I", Cond.methodLink RX4 58 yX4_stitchesAt, Cond.instanceMethod yX4_stitchesAt, Cond.selects RX4 yX4_stitchesAt yX4_stitchesAt, Cond.code yX4_stitchesAt cX4_stitchesAt 4 (some .int)]
def wsX7_isHeld_r2 : List Cond := [Cond.fieldLink RX4 9 "MarbleBench$Sewing" "laid" "[I"]
def wsX7_isHeld : List Cond := .code yX7_isHeld cX7_isHeld 4 (some .boolean) :: ((wsX7_isHeld_r1 ++ wsX7_isHeld_r2) ++ wsX10 ++ wsX40 ++ wsX70 ++ (vx_atS RX7 261 "java/lang/IndexOutOfBoundsException" ["java/lang/RuntimeException", "java/lang/Exception"]).filter goodWord)
def wsX7_back : List Cond := .code yX7_back cX7_back 5 (some .int) :: ([.methodLink RX7 118 yX7_bookOf, .instanceMethod yX7_bookOf, .selects RX7 yX7_bookOf yX7_bookOf, .initialized RX7, .code yX7_bookOf cX7_bookOf 3 (some (.object "MarbleBench$Book")), .classLink RX7 257 "java/lang/IndexOutOfBoundsException", .initialized "java/lang/IndexOutOfBoundsException", .fieldLink RX7 24 "MarbleBench" "books" "[LMarbleBench$Book;", .methodLink RX7 42 yX7_isWithin, .static yX7_isWithin, .code yX7_isWithin cX7_isWithin 3 (some .boolean), .methodLink RX7 46 yX7_demandArgument, .static yX7_demandArgument, .code yX7_demandArgument cX7_demandArgument 1 none, .classLink RX7 264 "java/lang/IllegalArgumentException", .initialized "java/lang/IllegalArgumentException"] ++ wsX10 ++ wsX70 ++ (vx_atS RX7 261 "java/lang/IndexOutOfBoundsException" ["java/lang/RuntimeException", "java/lang/Exception"]).filter goodWord ++ (vx_atS RX7 268 "java/lang/IllegalArgumentException" ["java/lang/RuntimeException", "java/lang/Exception"]).filter goodWord)
def wsX7_swelling_r1 : List Cond := [Cond.methodLink RX7 118 yX7_bookOf, Cond.instanceMethod yX7_bookOf, Cond.selects RX7 yX7_bookOf yX7_bookOf, Cond.initialized RX7, Cond.code yX7_bookOf cX7_bookOf 3 (some (.object "MarbleBench$Book")), Cond.classLink RX7 257 "java/lang/IndexOutOfBoundsException", Cond.initialized "java/lang/IndexOutOfBoundsException", Cond.fieldLink RX7 24 "MarbleBench" "books" "[LMarbleBench$Book;", Cond.methodLink RX7 42 yX7_isWithin, Cond.static yX7_isWithin, Cond.code yX7_isWithin cX7_isWithin 3 (some .boolean), Cond.methodLink RX7 173 yX4_swell, Cond.instanceMethod yX4_swell, Cond.selects RX4 yX4_swell yX4_swell, Cond.initialized RX4, Cond.code yX4_swell cX4_swell 3 (some .int), Cond.fieldLink RX4 21 "MarbleBench$Sewing" "gatherings" "I", Cond.methodLink RX4 66 yX4_mostStitches, Cond.instanceMethod yX4_mostStitches, Cond.selects RX4 yX4_mostStitches yX4_mostStitches, Cond.code yX4_mostStitches cX4_mostStitches 4 (some .int), Cond.fieldLink RX4 25 "MarbleBench$Sewing" "stations" "I", Cond.methodLink RX4 69 Lib.Math.max.name, Cond.static Lib.Math.max.name]
def wsX7_swelling_r2 : List Cond := [Cond.initialized "java/lang/Math", Cond.code Lib.Math.max.name Lib.Math.max.code 2 (some .int), Cond.methodLink RX4 58 yX4_stitchesAt, Cond.instanceMethod yX4_stitchesAt, Cond.selects RX4 yX4_stitchesAt yX4_stitchesAt, Cond.code yX4_stitchesAt cX4_stitchesAt 4 (some .int), Cond.fieldLink RX4 9 "MarbleBench$Sewing" "laid" "[I"]
def wsX7_swelling : List Cond := .code yX7_swelling cX7_swelling 2 (some .int) :: ((wsX7_swelling_r1 ++ wsX7_swelling_r2) ++ wsX10 ++ wsX70 ++ wsX40 ++ (vx_atS RX7 261 "java/lang/IndexOutOfBoundsException" ["java/lang/RuntimeException", "java/lang/Exception"]).filter goodWord)
def wsX7_strain_r1 : List Cond := [Cond.methodLink RX7 118 yX7_bookOf, Cond.instanceMethod yX7_bookOf, Cond.selects RX7 yX7_bookOf yX7_bookOf, Cond.initialized RX7, Cond.code yX7_bookOf cX7_bookOf 3 (some (.object "MarbleBench$Book")), Cond.classLink RX7 257 "java/lang/IndexOutOfBoundsException", Cond.initialized "java/lang/IndexOutOfBoundsException", Cond.fieldLink RX7 24 "MarbleBench" "books" "[LMarbleBench$Book;", Cond.methodLink RX7 42 yX7_isWithin, Cond.static yX7_isWithin, Cond.code yX7_isWithin cX7_isWithin 3 (some .boolean), Cond.methodLink RX7 46 yX7_demandArgument, Cond.static yX7_demandArgument, Cond.code yX7_demandArgument cX7_demandArgument 1 none, Cond.classLink RX7 264 "java/lang/IllegalArgumentException", Cond.initialized "java/lang/IllegalArgumentException", Cond.methodLink RX7 179 yX1_bendAt, Cond.instanceMethod yX1_bendAt, Cond.selects RX1 yX1_bendAt yX1_bendAt, Cond.initialized RX1, Cond.code yX1_bendAt cX1_bendAt 2 (some .int), Cond.fieldLink RX1 38 "MarbleBench$Book" "leavesInAll" "I", Cond.methodLink RX1 48 Lib.Math.min.name, Cond.static Lib.Math.min.name]
def wsX7_strain_r2 : List Cond := [Cond.initialized "java/lang/Math", Cond.code Lib.Math.min.name Lib.Math.min.code 2 (some .int), Cond.fieldLink RX1 41 "MarbleBench$Book" "thickness" "I", Cond.methodLink RX1 54 yX1_stiffness, Cond.instanceMethod yX1_stiffness, Cond.selects RX1 yX1_stiffness yX1_stiffness, Cond.code yX1_stiffness cX1_stiffness 1 (some .int), Cond.fieldLink RX1 25 "MarbleBench$Book" "spine" "I", Cond.methodLink RX7 173 yX4_swell, Cond.instanceMethod yX4_swell, Cond.selects RX4 yX4_swell yX4_swell, Cond.initialized RX4, Cond.code yX4_swell cX4_swell 3 (some .int), Cond.fieldLink RX4 21 "MarbleBench$Sewing" "gatherings" "I", Cond.methodLink RX4 66 yX4_mostStitches, Cond.instanceMethod yX4_mostStitches, Cond.selects RX4 yX4_mostStitches yX4_mostStitches, Cond.code yX4_mostStitches cX4_mostStitches 4 (some .int), Cond.fieldLink RX4 25 "MarbleBench$Sewing" "stations" "I", Cond.methodLink RX4 69 Lib.Math.max.name, Cond.static Lib.Math.max.name, Cond.code Lib.Math.max.name Lib.Math.max.code 2 (some .int), Cond.methodLink RX4 58 yX4_stitchesAt, Cond.instanceMethod yX4_stitchesAt]
def wsX7_strain_r3 : List Cond := [Cond.selects RX4 yX4_stitchesAt yX4_stitchesAt, Cond.code yX4_stitchesAt cX4_stitchesAt 4 (some .int), Cond.fieldLink RX4 9 "MarbleBench$Sewing" "laid" "[I"]
def wsX7_strain : List Cond := .code yX7_strain cX7_strain 4 (some .int) :: ((wsX7_strain_r1 ++ (wsX7_strain_r2 ++ wsX7_strain_r3)) ++ wsX10 ++ wsX70 ++ wsX40 ++ (vx_atS RX7 261 "java/lang/IndexOutOfBoundsException" ["java/lang/RuntimeException", "java/lang/Exception"]).filter goodWord ++ (vx_atS RX7 268 "java/lang/IllegalArgumentException" ["java/lang/RuntimeException", "java/lang/Exception"]).filter goodWord)
def wsX7_worst_r1 : List Cond := [Cond.methodLink RX7 118 yX7_bookOf, Cond.instanceMethod yX7_bookOf, Cond.selects RX7 yX7_bookOf yX7_bookOf, Cond.initialized RX7, Cond.code yX7_bookOf cX7_bookOf 3 (some (.object "MarbleBench$Book")), Cond.classLink RX7 257 "java/lang/IndexOutOfBoundsException", Cond.initialized "java/lang/IndexOutOfBoundsException", Cond.fieldLink RX7 24 "MarbleBench" "books" "[LMarbleBench$Book;", Cond.methodLink RX7 42 yX7_isWithin, Cond.static yX7_isWithin, Cond.code yX7_isWithin cX7_isWithin 3 (some .boolean), Cond.methodLink RX7 182 yX1_stiffestOpening, Cond.instanceMethod yX1_stiffestOpening, Cond.selects RX1 yX1_stiffestOpening yX1_stiffestOpening, Cond.initialized RX1, Cond.code yX1_stiffestOpening cX1_stiffestOpening 3 (some .int), Cond.fieldLink RX1 38 "MarbleBench$Book" "leavesInAll" "I", Cond.methodLink RX1 58 yX1_bendAt, Cond.instanceMethod yX1_bendAt, Cond.selects RX1 yX1_bendAt yX1_bendAt, Cond.code yX1_bendAt cX1_bendAt 2 (some .int), Cond.methodLink RX1 48 Lib.Math.min.name, Cond.static Lib.Math.min.name, Cond.initialized "java/lang/Math"]
def wsX7_worst_r2 : List Cond := [Cond.code Lib.Math.min.name Lib.Math.min.code 2 (some .int), Cond.fieldLink RX1 41 "MarbleBench$Book" "thickness" "I", Cond.methodLink RX1 54 yX1_stiffness, Cond.instanceMethod yX1_stiffness, Cond.selects RX1 yX1_stiffness yX1_stiffness, Cond.code yX1_stiffness cX1_stiffness 1 (some .int), Cond.fieldLink RX1 25 "MarbleBench$Book" "spine" "I"]
def wsX7_worst : List Cond := .code yX7_worst cX7_worst 2 (some .int) :: ((wsX7_worst_r1 ++ wsX7_worst_r2) ++ wsX70 ++ wsX10 ++ (vx_atS RX7 261 "java/lang/IndexOutOfBoundsException" ["java/lang/RuntimeException", "java/lang/Exception"]).filter goodWord)
def wsX7_opens_r1 : List Cond := [Cond.constant RX7 185 (100000), Cond.methodLink RX7 118 yX7_bookOf, Cond.instanceMethod yX7_bookOf, Cond.selects RX7 yX7_bookOf yX7_bookOf, Cond.initialized RX7, Cond.code yX7_bookOf cX7_bookOf 3 (some (.object "MarbleBench$Book")), Cond.classLink RX7 257 "java/lang/IndexOutOfBoundsException", Cond.initialized "java/lang/IndexOutOfBoundsException", Cond.fieldLink RX7 24 "MarbleBench" "books" "[LMarbleBench$Book;", Cond.methodLink RX7 42 yX7_isWithin, Cond.static yX7_isWithin, Cond.code yX7_isWithin cX7_isWithin 3 (some .boolean), Cond.methodLink RX7 46 yX7_demandArgument, Cond.static yX7_demandArgument, Cond.code yX7_demandArgument cX7_demandArgument 1 none, Cond.classLink RX7 264 "java/lang/IllegalArgumentException", Cond.initialized "java/lang/IllegalArgumentException", Cond.methodLink RX7 186 yX1_openingsWithin, Cond.instanceMethod yX1_openingsWithin, Cond.selects RX1 yX1_openingsWithin yX1_openingsWithin, Cond.initialized RX1, Cond.code yX1_openingsWithin cX1_openingsWithin 5 (some .int), Cond.fieldLink RX1 34 "MarbleBench$Book" "sewing" "LMarbleBench$Sewing;", Cond.fieldLink RX1 38 "MarbleBench$Book" "leavesInAll" "I"]
def wsX7_opens_r2 : List Cond := [Cond.methodLink RX1 62 yX4_swell, Cond.instanceMethod yX4_swell, Cond.selects RX4 yX4_swell yX4_swell, Cond.initialized RX4, Cond.code yX4_swell cX4_swell 3 (some .int), Cond.fieldLink RX4 21 "MarbleBench$Sewing" "gatherings" "I", Cond.methodLink RX4 66 yX4_mostStitches, Cond.instanceMethod yX4_mostStitches, Cond.selects RX4 yX4_mostStitches yX4_mostStitches, Cond.code yX4_mostStitches cX4_mostStitches 4 (some .int), Cond.fieldLink RX4 25 "MarbleBench$Sewing" "stations" "I", Cond.methodLink RX4 69 Lib.Math.max.name, Cond.static Lib.Math.max.name, Cond.initialized "java/lang/Math", Cond.code Lib.Math.max.name Lib.Math.max.code 2 (some .int), Cond.methodLink RX4 58 yX4_stitchesAt, Cond.instanceMethod yX4_stitchesAt, Cond.selects RX4 yX4_stitchesAt yX4_stitchesAt, Cond.code yX4_stitchesAt cX4_stitchesAt 4 (some .int), Cond.fieldLink RX4 9 "MarbleBench$Sewing" "laid" "[I", Cond.methodLink RX1 58 yX1_bendAt, Cond.instanceMethod yX1_bendAt, Cond.selects RX1 yX1_bendAt yX1_bendAt, Cond.code yX1_bendAt cX1_bendAt 2 (some .int)]
def wsX7_opens_r3 : List Cond := [Cond.methodLink RX1 48 Lib.Math.min.name, Cond.static Lib.Math.min.name, Cond.code Lib.Math.min.name Lib.Math.min.code 2 (some .int), Cond.fieldLink RX1 41 "MarbleBench$Book" "thickness" "I", Cond.methodLink RX1 54 yX1_stiffness, Cond.instanceMethod yX1_stiffness, Cond.selects RX1 yX1_stiffness yX1_stiffness, Cond.code yX1_stiffness cX1_stiffness 1 (some .int), Cond.fieldLink RX1 25 "MarbleBench$Book" "spine" "I"]
def wsX7_opens : List Cond := .code yX7_opens cX7_opens 4 (some .int) :: ((wsX7_opens_r1 ++ (wsX7_opens_r2 ++ wsX7_opens_r3)) ++ wsX70 ++ wsX10 ++ wsX40 ++ (vx_atS RX7 261 "java/lang/IndexOutOfBoundsException" ["java/lang/RuntimeException", "java/lang/Exception"]).filter goodWord ++ (vx_atS RX7 268 "java/lang/IllegalArgumentException" ["java/lang/RuntimeException", "java/lang/Exception"]).filter goodWord)
def wsX7_skin_r1 : List Cond := [Cond.fieldLink RX7 189 "MarbleBench" "skinCount" "I", Cond.fieldLink RX7 30 "MarbleBench" "skins" "[LMarbleBench$Skin;", Cond.classLink RX7 28 RX5, Cond.instantiable RX5 1, Cond.initialized RX5, Cond.methodLink RX7 42 yX7_isWithin, Cond.static yX7_isWithin, Cond.initialized RX7, Cond.code yX7_isWithin cX7_isWithin 3 (some .boolean), Cond.methodLink RX7 46 yX7_demandArgument, Cond.static yX7_demandArgument, Cond.code yX7_demandArgument cX7_demandArgument 1 none, Cond.classLink RX7 264 "java/lang/IllegalArgumentException", Cond.initialized "java/lang/IllegalArgumentException", Cond.methodLink RX7 65 yX7_demandState, Cond.static yX7_demandState, Cond.code yX7_demandState cX7_demandState 1 none, Cond.classLink RX7 269 "java/lang/IllegalStateException", Cond.initialized "java/lang/IllegalStateException", Cond.methodLink RX7 192 yX5_init, Cond.instanceMethod yX5_init, Cond.code yX5_init cX5_init 3 none, Cond.methodLink RX5 3 objectInit, Cond.instanceMethod objectInit]
def wsX7_skin_r2 : List Cond := [Cond.code objectInit ⟨#[0xb1]⟩ 1 none, Cond.arrayClass .int, Cond.fieldLink RX5 9 "MarbleBench$Skin" "thicknesses" "[I"]
def wsX7_skin : List Cond := .code yX7_skin cX7_skin 3 (some .int) :: ((wsX7_skin_r1 ++ wsX7_skin_r2) ++ wsX70 ++ wsX50 ++ (vx_atS RX7 268 "java/lang/IllegalArgumentException" ["java/lang/RuntimeException", "java/lang/Exception"]).filter goodWord ++ (vx_atS RX7 273 "java/lang/IllegalStateException" ["java/lang/RuntimeException", "java/lang/Exception"]).filter goodWord)
def wsX7_skinOf : List Cond := .code yX7_skinOf cX7_skinOf 3 (some (.object "MarbleBench$Skin")) :: ([.classLink RX7 257 "java/lang/IndexOutOfBoundsException", .initialized "java/lang/IndexOutOfBoundsException", .fieldLink RX7 30 "MarbleBench" "skins" "[LMarbleBench$Skin;", .methodLink RX7 42 yX7_isWithin, .static yX7_isWithin, .initialized RX7, .code yX7_isWithin cX7_isWithin 3 (some .boolean)] ++ wsX70 ++ (vx_atS RX7 261 "java/lang/IndexOutOfBoundsException" ["java/lang/RuntimeException", "java/lang/Exception"]).filter goodWord)
def wsX7_pare_r1 : List Cond := [Cond.methodLink RX7 194 yX7_skinOf, Cond.instanceMethod yX7_skinOf, Cond.selects RX7 yX7_skinOf yX7_skinOf, Cond.initialized RX7, Cond.code yX7_skinOf cX7_skinOf 3 (some (.object "MarbleBench$Skin")), Cond.classLink RX7 257 "java/lang/IndexOutOfBoundsException", Cond.initialized "java/lang/IndexOutOfBoundsException", Cond.fieldLink RX7 30 "MarbleBench" "skins" "[LMarbleBench$Skin;", Cond.methodLink RX7 42 yX7_isWithin, Cond.static yX7_isWithin, Cond.code yX7_isWithin cX7_isWithin 3 (some .boolean), Cond.methodLink RX7 34 yX7_isOnGrid, Cond.static yX7_isOnGrid, Cond.code yX7_isOnGrid cX7_isOnGrid 2 (some .boolean), Cond.methodLink RX7 53 yX7_isOnSide, Cond.static yX7_isOnSide, Cond.code yX7_isOnSide cX7_isOnSide 1 (some .boolean), Cond.methodLink RX7 38 yX7_demandPlace, Cond.static yX7_demandPlace, Cond.code yX7_demandPlace cX7_demandPlace 1 none, Cond.methodLink RX7 46 yX7_demandArgument, Cond.static yX7_demandArgument, Cond.code yX7_demandArgument cX7_demandArgument 1 none, Cond.classLink RX7 264 "java/lang/IllegalArgumentException"]
def wsX7_pare_r2 : List Cond := [Cond.initialized "java/lang/IllegalArgumentException", Cond.methodLink RX7 198 yX5_thinnest, Cond.instanceMethod yX5_thinnest, Cond.selects RX5 yX5_thinnest yX5_thinnest, Cond.initialized RX5, Cond.code yX5_thinnest cX5_thinnest 8 (some .int), Cond.fieldLink RX5 9 "MarbleBench$Skin" "thicknesses" "[I", Cond.methodLink RX5 19 Lib.Math.min.name, Cond.static Lib.Math.min.name, Cond.initialized "java/lang/Math", Cond.code Lib.Math.min.name Lib.Math.min.code 2 (some .int), Cond.static yX7_cellOf, Cond.code yX7_cellOf cX7_cellOf 2 (some .int), Cond.methodLink RX7 65 yX7_demandState, Cond.static yX7_demandState, Cond.code yX7_demandState cX7_demandState 1 none, Cond.classLink RX7 269 "java/lang/IllegalStateException", Cond.initialized "java/lang/IllegalStateException", Cond.methodLink RX7 201 yX5_thin, Cond.instanceMethod yX5_thin, Cond.selects RX5 yX5_thin yX5_thin, Cond.code yX5_thin cX5_thin 8 none]
def wsX7_pare : List Cond := .code yX7_pare cX7_pare 9 (some .int) :: ((wsX7_pare_r1 ++ wsX7_pare_r2) ++ wsX70 ++ wsX50 ++ (vx_atS RX7 261 "java/lang/IndexOutOfBoundsException" ["java/lang/RuntimeException", "java/lang/Exception"]).filter goodWord ++ (vx_atS RX7 268 "java/lang/IllegalArgumentException" ["java/lang/RuntimeException", "java/lang/Exception"]).filter goodWord ++ (vx_atS RX7 273 "java/lang/IllegalStateException" ["java/lang/RuntimeException", "java/lang/Exception"]).filter goodWord)
def wsX7_thickAt : List Cond := .code yX7_thickAt cX7_thickAt 5 (some .int) :: ([.methodLink RX7 194 yX7_skinOf, .instanceMethod yX7_skinOf, .selects RX7 yX7_skinOf yX7_skinOf, .initialized RX7, .code yX7_skinOf cX7_skinOf 3 (some (.object "MarbleBench$Skin")), .classLink RX7 257 "java/lang/IndexOutOfBoundsException", .initialized "java/lang/IndexOutOfBoundsException", .fieldLink RX7 30 "MarbleBench" "skins" "[LMarbleBench$Skin;", .methodLink RX7 42 yX7_isWithin, .static yX7_isWithin, .code yX7_isWithin cX7_isWithin 3 (some .boolean), .methodLink RX7 34 yX7_isOnGrid, .static yX7_isOnGrid, .code yX7_isOnGrid cX7_isOnGrid 2 (some .boolean), .methodLink RX7 53 yX7_isOnSide, .static yX7_isOnSide, .code yX7_isOnSide cX7_isOnSide 1 (some .boolean), .methodLink RX7 38 yX7_demandPlace, .static yX7_demandPlace, .code yX7_demandPlace cX7_demandPlace 1 none, .methodLink RX7 79 yX7_cellOf, .static yX7_cellOf, .code yX7_cellOf cX7_cellOf 2 (some .int)] ++ wsX50 ++ wsX70 ++ (vx_atS RX7 261 "java/lang/IndexOutOfBoundsException" ["java/lang/RuntimeException", "java/lang/Exception"]).filter goodWord)
def wsX7_tooThick : List Cond := .code yX7_tooThick cX7_tooThick 2 (some .int) :: ([.methodLink RX7 194 yX7_skinOf, .instanceMethod yX7_skinOf, .selects RX7 yX7_skinOf yX7_skinOf, .initialized RX7, .code yX7_skinOf cX7_skinOf 3 (some (.object "MarbleBench$Skin")), .classLink RX7 257 "java/lang/IndexOutOfBoundsException", .initialized "java/lang/IndexOutOfBoundsException", .fieldLink RX7 30 "MarbleBench" "skins" "[LMarbleBench$Skin;", .methodLink RX7 42 yX7_isWithin, .static yX7_isWithin, .code yX7_isWithin cX7_isWithin 3 (some .boolean), .methodLink RX7 208 yX5_placesTooThick, .instanceMethod yX5_placesTooThick, .selects RX5 yX5_placesTooThick yX5_placesTooThick, .initialized RX5, .code yX5_placesTooThick cX5_placesTooThick 4 (some .int), .fieldLink RX5 9 "MarbleBench$Skin" "thicknesses" "[I", .static yX7_cellOf, .code yX7_cellOf cX7_cellOf 2 (some .int), .methodLink RX5 24 yX5_mostAt, .static yX5_mostAt, .code yX5_mostAt cX5_mostAt 3 (some .int)] ++ wsX70 ++ wsX50 ++ (vx_atS RX7 261 "java/lang/IndexOutOfBoundsException" ["java/lang/RuntimeException", "java/lang/Exception"]).filter goodWord)
def wsX7_canBeUndone : List Cond := .code yX7_canBeUndone cX7_canBeUndone 1 (some .boolean) :: ([])
def wsX7_repair_r1 : List Cond := [Cond.methodLink RX7 118 yX7_bookOf, Cond.instanceMethod yX7_bookOf, Cond.selects RX7 yX7_bookOf yX7_bookOf, Cond.initialized RX7, Cond.code yX7_bookOf cX7_bookOf 3 (some (.object "MarbleBench$Book")), Cond.classLink RX7 257 "java/lang/IndexOutOfBoundsException", Cond.initialized "java/lang/IndexOutOfBoundsException", Cond.fieldLink RX7 24 "MarbleBench" "books" "[LMarbleBench$Book;", Cond.methodLink RX7 42 yX7_isWithin, Cond.static yX7_isWithin, Cond.code yX7_isWithin cX7_isWithin 3 (some .boolean), Cond.methodLink RX7 46 yX7_demandArgument, Cond.static yX7_demandArgument, Cond.code yX7_demandArgument cX7_demandArgument 1 none, Cond.classLink RX7 264 "java/lang/IllegalArgumentException", Cond.initialized "java/lang/IllegalArgumentException", Cond.methodLink RX7 214 yX7_canBeUndone, Cond.static yX7_canBeUndone, Cond.code yX7_canBeUndone cX7_canBeUndone 1 (some .boolean), Cond.methodLink RX7 65 yX7_demandState, Cond.static yX7_demandState, Cond.code yX7_demandState cX7_demandState 1 none, Cond.classLink RX7 269 "java/lang/IllegalStateException", Cond.initialized "java/lang/IllegalStateException"]
def wsX7_repair_r2 : List Cond := [Cond.methodLink RX7 226 yX3_add, Cond.instanceMethod yX3_add, Cond.selects RX3 yX3_add yX3_add, Cond.initialized RX3, Cond.code yX3_add cX3_add 2 none, Cond.fieldLink RX3 15 "MarbleBench$Repairs" "number" "I", Cond.fieldLink RX3 9 "MarbleBench$Repairs" "stuffs" "[I"]
def wsX7_repair : List Cond := .code yX7_repair cX7_repair 4 (some .int) :: ((wsX7_repair_r1 ++ wsX7_repair_r2) ++ wsX10 ++ wsX30 ++ wsX70 ++ (vx_atS RX7 261 "java/lang/IndexOutOfBoundsException" ["java/lang/RuntimeException", "java/lang/Exception"]).filter goodWord ++ (vx_atS RX7 268 "java/lang/IllegalArgumentException" ["java/lang/RuntimeException", "java/lang/Exception"]).filter goodWord ++ (vx_atS RX7 273 "java/lang/IllegalStateException" ["java/lang/RuntimeException", "java/lang/Exception"]).filter goodWord)
def wsX7_undo_r1 : List Cond := [Cond.methodLink RX7 118 yX7_bookOf, Cond.instanceMethod yX7_bookOf, Cond.selects RX7 yX7_bookOf yX7_bookOf, Cond.initialized RX7, Cond.code yX7_bookOf cX7_bookOf 3 (some (.object "MarbleBench$Book")), Cond.classLink RX7 257 "java/lang/IndexOutOfBoundsException", Cond.initialized "java/lang/IndexOutOfBoundsException", Cond.fieldLink RX7 24 "MarbleBench" "books" "[LMarbleBench$Book;", Cond.methodLink RX7 42 yX7_isWithin, Cond.static yX7_isWithin, Cond.code yX7_isWithin cX7_isWithin 3 (some .boolean), Cond.methodLink RX7 229 yX3_latest, Cond.instanceMethod yX3_latest, Cond.selects RX3 yX3_latest yX3_latest, Cond.initialized RX3, Cond.code yX3_latest cX3_latest 1 (some .int), Cond.fieldLink RX3 15 "MarbleBench$Repairs" "number" "I", Cond.fieldLink RX3 9 "MarbleBench$Repairs" "stuffs" "[I", Cond.methodLink RX7 214 yX7_canBeUndone, Cond.static yX7_canBeUndone, Cond.code yX7_canBeUndone cX7_canBeUndone 1 (some .boolean), Cond.methodLink RX7 65 yX7_demandState, Cond.static yX7_demandState, Cond.code yX7_demandState cX7_demandState 1 none]
def wsX7_undo_r2 : List Cond := [Cond.classLink RX7 269 "java/lang/IllegalStateException", Cond.initialized "java/lang/IllegalStateException", Cond.methodLink RX7 232 yX3_dropLatest, Cond.instanceMethod yX3_dropLatest, Cond.selects RX3 yX3_dropLatest yX3_dropLatest, Cond.code yX3_dropLatest cX3_dropLatest 1 none]
def wsX7_undo : List Cond := .code yX7_undo cX7_undo 4 (some .int) :: ((wsX7_undo_r1 ++ wsX7_undo_r2) ++ wsX10 ++ wsX70 ++ wsX30 ++ (vx_atS RX7 261 "java/lang/IndexOutOfBoundsException" ["java/lang/RuntimeException", "java/lang/Exception"]).filter goodWord ++ (vx_atS RX7 273 "java/lang/IllegalStateException" ["java/lang/RuntimeException", "java/lang/Exception"]).filter goodWord)
def wsX7_speak_r1 : List Cond := [Cond.methodLink RX7 118 yX7_bookOf, Cond.instanceMethod yX7_bookOf, Cond.selects RX7 yX7_bookOf yX7_bookOf, Cond.initialized RX7, Cond.code yX7_bookOf cX7_bookOf 3 (some (.object "MarbleBench$Book")), Cond.classLink RX7 257 "java/lang/IndexOutOfBoundsException", Cond.initialized "java/lang/IndexOutOfBoundsException", Cond.fieldLink RX7 24 "MarbleBench" "books" "[LMarbleBench$Book;", Cond.methodLink RX7 42 yX7_isWithin, Cond.static yX7_isWithin, Cond.code yX7_isWithin cX7_isWithin 3 (some .boolean), Cond.methodLink RX7 46 yX7_demandArgument, Cond.static yX7_demandArgument, Cond.code yX7_demandArgument cX7_demandArgument 1 none, Cond.classLink RX7 264 "java/lang/IllegalArgumentException", Cond.initialized "java/lang/IllegalArgumentException", Cond.methodLink RX7 65 yX7_demandState, Cond.static yX7_demandState, Cond.code yX7_demandState cX7_demandState 1 none, Cond.classLink RX7 269 "java/lang/IllegalStateException", Cond.initialized "java/lang/IllegalStateException", Cond.methodLink RX7 242 yX6_add, Cond.instanceMethod yX6_add, Cond.selects RX6 yX6_add yX6_add]
def wsX7_speak_r2 : List Cond := [Cond.initialized RX6, Cond.code yX6_add cX6_add 4 none, Cond.fieldLink RX6 21 "MarbleBench$Speakers" "number" "I", Cond.fieldLink RX6 9 "MarbleBench$Speakers" "froms" "[I", Cond.fieldLink RX6 15 "MarbleBench$Speakers" "tos" "[I", Cond.fieldLink RX6 18 "MarbleBench$Speakers" "weights" "[I"]
def wsX7_speak : List Cond := .code yX7_speak cX7_speak 6 (some .int) :: ((wsX7_speak_r1 ++ wsX7_speak_r2) ++ wsX10 ++ wsX60 ++ wsX70 ++ (vx_atS RX7 261 "java/lang/IndexOutOfBoundsException" ["java/lang/RuntimeException", "java/lang/Exception"]).filter goodWord ++ (vx_atS RX7 268 "java/lang/IllegalArgumentException" ["java/lang/RuntimeException", "java/lang/Exception"]).filter goodWord ++ (vx_atS RX7 273 "java/lang/IllegalStateException" ["java/lang/RuntimeException", "java/lang/Exception"]).filter goodWord)
def wsX7_year_r1 : List Cond := [Cond.methodLink RX7 118 yX7_bookOf, Cond.instanceMethod yX7_bookOf, Cond.selects RX7 yX7_bookOf yX7_bookOf, Cond.initialized RX7, Cond.code yX7_bookOf cX7_bookOf 3 (some (.object "MarbleBench$Book")), Cond.classLink RX7 257 "java/lang/IndexOutOfBoundsException", Cond.initialized "java/lang/IndexOutOfBoundsException", Cond.fieldLink RX7 24 "MarbleBench" "books" "[LMarbleBench$Book;", Cond.methodLink RX7 42 yX7_isWithin, Cond.static yX7_isWithin, Cond.code yX7_isWithin cX7_isWithin 3 (some .boolean), Cond.methodLink RX7 245 yX6_firstByEnds, Cond.instanceMethod yX6_firstByEnds, Cond.selects RX6 yX6_firstByEnds yX6_firstByEnds, Cond.initialized RX6, Cond.code yX6_firstByEnds cX6_firstByEnds 5 (some .int), Cond.fieldLink RX6 21 "MarbleBench$Speakers" "number" "I", Cond.fieldLink RX6 9 "MarbleBench$Speakers" "froms" "[I", Cond.methodLink RX6 29 yX6_weightIn, Cond.instanceMethod yX6_weightIn, Cond.selects RX6 yX6_weightIn yX6_weightIn, Cond.code yX6_weightIn cX6_weightIn 4 (some .int), Cond.fieldLink RX6 15 "MarbleBench$Speakers" "tos" "[I", Cond.fieldLink RX6 18 "MarbleBench$Speakers" "weights" "[I"]
def wsX7_year_r2 : List Cond := [Cond.methodLink RX7 248 yX6_lastByEnds, Cond.instanceMethod yX6_lastByEnds, Cond.selects RX6 yX6_lastByEnds yX6_lastByEnds, Cond.code yX6_lastByEnds cX6_lastByEnds 5 (some .int)]
def wsX7_year : List Cond := .code yX7_year cX7_year 5 (some .int) :: ((wsX7_year_r1 ++ wsX7_year_r2) ++ wsX10 ++ wsX70 ++ wsX60 ++ (vx_atS RX7 261 "java/lang/IndexOutOfBoundsException" ["java/lang/RuntimeException", "java/lang/Exception"]).filter goodWord)
def wsX7_yearAnew_r1 : List Cond := [Cond.methodLink RX7 118 yX7_bookOf, Cond.instanceMethod yX7_bookOf, Cond.selects RX7 yX7_bookOf yX7_bookOf, Cond.initialized RX7, Cond.code yX7_bookOf cX7_bookOf 3 (some (.object "MarbleBench$Book")), Cond.classLink RX7 257 "java/lang/IndexOutOfBoundsException", Cond.initialized "java/lang/IndexOutOfBoundsException", Cond.fieldLink RX7 24 "MarbleBench" "books" "[LMarbleBench$Book;", Cond.methodLink RX7 42 yX7_isWithin, Cond.static yX7_isWithin, Cond.code yX7_isWithin cX7_isWithin 3 (some .boolean), Cond.methodLink RX7 251 yX6_firstByYears, Cond.instanceMethod yX6_firstByYears, Cond.selects RX6 yX6_firstByYears yX6_firstByYears, Cond.initialized RX6, Cond.code yX6_firstByYears cX6_firstByYears 5 (some .int), Cond.methodLink RX6 29 yX6_weightIn, Cond.instanceMethod yX6_weightIn, Cond.selects RX6 yX6_weightIn yX6_weightIn, Cond.code yX6_weightIn cX6_weightIn 4 (some .int), Cond.fieldLink RX6 21 "MarbleBench$Speakers" "number" "I", Cond.fieldLink RX6 9 "MarbleBench$Speakers" "froms" "[I", Cond.fieldLink RX6 15 "MarbleBench$Speakers" "tos" "[I", Cond.fieldLink RX6 18 "MarbleBench$Speakers" "weights" "[I"]
def wsX7_yearAnew_r2 : List Cond := [Cond.methodLink RX7 254 yX6_lastByYears, Cond.instanceMethod yX6_lastByYears, Cond.selects RX6 yX6_lastByYears yX6_lastByYears, Cond.code yX6_lastByYears cX6_lastByYears 4 (some .int)]
def wsX7_yearAnew : List Cond := .code yX7_yearAnew cX7_yearAnew 5 (some .int) :: ((wsX7_yearAnew_r1 ++ wsX7_yearAnew_r2) ++ wsX10 ++ wsX70 ++ wsX60 ++ (vx_atS RX7 261 "java/lang/IndexOutOfBoundsException" ["java/lang/RuntimeException", "java/lang/Exception"]).filter goodWord)
def wsX8_init_r1 : List Cond := [Cond.methodLink RX8 1 objectInit, Cond.instanceMethod objectInit, Cond.code objectInit ⟨#[0xb1]⟩ 1 none, Cond.arrayClass .int, Cond.fieldLink RX8 7 "MarbleBenchModel" "bath" "[I", Cond.fieldLink RX8 13 "MarbleBenchModel" "strength" "[I", Cond.fieldLink RX8 16 "MarbleBenchModel" "printed" "[I", Cond.fieldLink RX8 19 "MarbleBenchModel" "gatherings" "[I", Cond.fieldLink RX8 22 "MarbleBenchModel" "leaves" "[I", Cond.fieldLink RX8 25 "MarbleBenchModel" "stations" "[I", Cond.fieldLink RX8 28 "MarbleBenchModel" "thickness" "[I", Cond.arrayClass .boolean, Cond.fieldLink RX8 31 "MarbleBenchModel" "isOld" "[Z", Cond.fieldLink RX8 35 "MarbleBenchModel" "back" "[I", Cond.fieldLink RX8 38 "MarbleBenchModel" "moves" "[I", Cond.fieldLink RX8 41 "MarbleBenchModel" "moved" "[I", Cond.fieldLink RX8 44 "MarbleBenchModel" "stitch" "[I", Cond.fieldLink RX8 47 "MarbleBenchModel" "isLinked" "[Z", Cond.fieldLink RX8 50 "MarbleBenchModel" "thick" "[I", Cond.fieldLink RX8 53 "MarbleBenchModel" "repairs" "[I", Cond.fieldLink RX8 56 "MarbleBenchModel" "stuff" "[I", Cond.fieldLink RX8 59 "MarbleBenchModel" "voices" "[I", Cond.fieldLink RX8 62 "MarbleBenchModel" "from" "[I", Cond.fieldLink RX8 65 "MarbleBenchModel" "to" "[I"]
def wsX8_init_r2 : List Cond := [Cond.fieldLink RX8 68 "MarbleBenchModel" "weight" "[I"]
def wsX8_init : List Cond := .code yX8_init cX8_init 1 none :: ((wsX8_init_r1 ++ wsX8_init_r2) ++ wsX80)
def wsX8_thrown : List Cond := .code yX8_thrown cX8_thrown 1 (some .int) :: ([.fieldLink RX8 71 "MarbleBenchModel" "thrown" "I"] ++ wsX80)
def wsX8_in : List Cond := .code yX8_in cX8_in 3 (some .boolean) :: ([])
def wsX8_goes : List Cond := .code yX8_goes cX8_goes 4 (some .boolean) :: ([.fieldLink RX8 71 "MarbleBenchModel" "thrown" "I"] ++ wsX80)
def wsX8_isEdge : List Cond := .code yX8_isEdge cX8_isEdge 1 (some .boolean) :: ([.methodLink RX8 75 yX8_in, .static yX8_in, .initialized RX8, .code yX8_in cX8_in 3 (some .boolean)])
def wsX8_order : List Cond := .code yX8_order cX8_order 5 (some .int) :: ([])
def wsX8_drop : List Cond := .code yX8_drop cX8_drop 9 (some .int) :: ([.fieldLink RX8 7 "MarbleBenchModel" "bath" "[I", .fieldLink RX8 13 "MarbleBenchModel" "strength" "[I", .methodLink RX8 79 yX8_isEdge, .static yX8_isEdge, .initialized RX8, .code yX8_isEdge cX8_isEdge 1 (some .boolean), .methodLink RX8 75 yX8_in, .static yX8_in, .code yX8_in cX8_in 3 (some .boolean), .methodLink RX8 83 yX8_goes, .instanceMethod yX8_goes, .selects RX8 yX8_goes yX8_goes, .code yX8_goes cX8_goes 4 (some .boolean), .fieldLink RX8 71 "MarbleBenchModel" "thrown" "I", .methodLink RX8 87 yX8_order, .static yX8_order, .code yX8_order cX8_order 5 (some .int)] ++ wsX80)
def wsX8_cellIn : List Cond := .code yX8_cellIn cX8_cellIn 3 (some .int) :: ([])
def wsX8_turns : List Cond := .code yX8_turns cX8_turns 6 none :: ([.fieldLink RX8 7 "MarbleBenchModel" "bath" "[I", .fieldLink RX8 13 "MarbleBenchModel" "strength" "[I", .methodLink RX8 91 yX8_cellIn, .static yX8_cellIn, .initialized RX8, .code yX8_cellIn cX8_cellIn 3 (some .int)] ++ wsX80)
def wsX8_comb : List Cond := .code yX8_comb cX8_comb 6 (some .int) :: ([.fieldLink RX8 7 "MarbleBenchModel" "bath" "[I", .methodLink RX8 79 yX8_isEdge, .static yX8_isEdge, .initialized RX8, .code yX8_isEdge cX8_isEdge 1 (some .boolean), .methodLink RX8 75 yX8_in, .static yX8_in, .code yX8_in cX8_in 3 (some .boolean), .methodLink RX8 83 yX8_goes, .instanceMethod yX8_goes, .selects RX8 yX8_goes yX8_goes, .code yX8_goes cX8_goes 4 (some .boolean), .fieldLink RX8 71 "MarbleBenchModel" "thrown" "I", .methodLink RX8 95 yX8_turns, .instanceMethod yX8_turns, .selects RX8 yX8_turns yX8_turns, .code yX8_turns cX8_turns 6 none, .fieldLink RX8 13 "MarbleBenchModel" "strength" "[I", .methodLink RX8 91 yX8_cellIn, .static yX8_cellIn, .code yX8_cellIn cX8_cellIn 3 (some .int)] ++ wsX80)
def wsX8_lift : List Cond := .code yX8_lift cX8_lift 2 (some .int) :: ([.fieldLink RX8 99 "MarbleBenchModel" "prints" "I", .fieldLink RX8 16 "MarbleBenchModel" "printed" "[I", .fieldLink RX8 7 "MarbleBenchModel" "bath" "[I", .fieldLink RX8 13 "MarbleBenchModel" "strength" "[I", .methodLink RX8 83 yX8_goes, .instanceMethod yX8_goes, .selects RX8 yX8_goes yX8_goes, .initialized RX8, .code yX8_goes cX8_goes 4 (some .boolean), .fieldLink RX8 71 "MarbleBenchModel" "thrown" "I"] ++ wsX80)
def wsX8_clean : List Cond := .code yX8_clean cX8_clean 3 (some .int) :: ([.fieldLink RX8 71 "MarbleBenchModel" "thrown" "I", .fieldLink RX8 7 "MarbleBenchModel" "bath" "[I", .fieldLink RX8 13 "MarbleBenchModel" "strength" "[I"] ++ wsX80)
def wsX8_cellAt : List Cond := .code yX8_cellAt cX8_cellAt 4 (some .int) :: ([.fieldLink RX8 7 "MarbleBenchModel" "bath" "[I", .fieldLink RX8 13 "MarbleBenchModel" "strength" "[I", .methodLink RX8 79 yX8_isEdge, .static yX8_isEdge, .initialized RX8, .code yX8_isEdge cX8_isEdge 1 (some .boolean), .methodLink RX8 75 yX8_in, .static yX8_in, .code yX8_in cX8_in 3 (some .boolean), .methodLink RX8 83 yX8_goes, .instanceMethod yX8_goes, .selects RX8 yX8_goes yX8_goes, .code yX8_goes cX8_goes 4 (some .boolean), .fieldLink RX8 71 "MarbleBenchModel" "thrown" "I"] ++ wsX80)
def wsX8_isPrint : List Cond := .code yX8_isPrint cX8_isPrint 2 (some .boolean) :: ([.fieldLink RX8 99 "MarbleBenchModel" "prints" "I", .methodLink RX8 75 yX8_in, .static yX8_in, .initialized RX8, .code yX8_in cX8_in 3 (some .boolean)] ++ wsX80)
def wsX8_printAt : List Cond := .code yX8_printAt cX8_printAt 4 (some .int) :: ([.fieldLink RX8 16 "MarbleBenchModel" "printed" "[I", .methodLink RX8 102 yX8_isPrint, .instanceMethod yX8_isPrint, .selects RX8 yX8_isPrint yX8_isPrint, .initialized RX8, .code yX8_isPrint cX8_isPrint 2 (some .boolean), .fieldLink RX8 99 "MarbleBenchModel" "prints" "I", .methodLink RX8 75 yX8_in, .static yX8_in, .code yX8_in cX8_in 3 (some .boolean), .methodLink RX8 79 yX8_isEdge, .static yX8_isEdge, .code yX8_isEdge cX8_isEdge 1 (some .boolean), .methodLink RX8 83 yX8_goes, .instanceMethod yX8_goes, .selects RX8 yX8_goes yX8_goes, .code yX8_goes cX8_goes 4 (some .boolean), .fieldLink RX8 71 "MarbleBenchModel" "thrown" "I"] ++ wsX80)
def wsX8_count : List Cond := .code yX8_count cX8_count 5 (some .int) :: ([.fieldLink RX8 16 "MarbleBenchModel" "printed" "[I", .methodLink RX8 102 yX8_isPrint, .instanceMethod yX8_isPrint, .selects RX8 yX8_isPrint yX8_isPrint, .initialized RX8, .code yX8_isPrint cX8_isPrint 2 (some .boolean), .fieldLink RX8 99 "MarbleBenchModel" "prints" "I", .methodLink RX8 75 yX8_in, .static yX8_in, .code yX8_in cX8_in 3 (some .boolean), .methodLink RX8 83 yX8_goes, .instanceMethod yX8_goes, .selects RX8 yX8_goes yX8_goes, .code yX8_goes cX8_goes 4 (some .boolean), .fieldLink RX8 71 "MarbleBenchModel" "thrown" "I"] ++ wsX80)
def wsX8_columnsOf : List Cond := .code yX8_columnsOf cX8_columnsOf 1 (some .int) :: ([])
def wsX8_rowsOf : List Cond := .code yX8_rowsOf cX8_rowsOf 1 (some .int) :: ([])
def wsX8_layerOf : List Cond := .code yX8_layerOf cX8_layerOf 12 (some .int) :: ([.methodLink RX8 105 yX8_columnsOf, .static yX8_columnsOf, .initialized RX8, .code yX8_columnsOf cX8_columnsOf 1 (some .int), .methodLink RX8 109 yX8_rowsOf, .static yX8_rowsOf, .code yX8_rowsOf cX8_rowsOf 1 (some .int)])
def wsX8_pageOf : List Cond := .code yX8_pageOf cX8_pageOf 6 (some .int) :: ([.methodLink RX8 112 yX8_layerOf, .static yX8_layerOf, .initialized RX8, .code yX8_layerOf cX8_layerOf 12 (some .int), .methodLink RX8 105 yX8_columnsOf, .static yX8_columnsOf, .code yX8_columnsOf cX8_columnsOf 1 (some .int), .methodLink RX8 109 yX8_rowsOf, .static yX8_rowsOf, .code yX8_rowsOf cX8_rowsOf 1 (some .int)])
def wsX8_pageAt : List Cond := .code yX8_pageAt cX8_pageAt 6 (some .int) :: ([.methodLink RX8 75 yX8_in, .static yX8_in, .initialized RX8, .code yX8_in cX8_in 3 (some .boolean), .methodLink RX8 105 yX8_columnsOf, .static yX8_columnsOf, .code yX8_columnsOf cX8_columnsOf 1 (some .int), .methodLink RX8 109 yX8_rowsOf, .static yX8_rowsOf, .code yX8_rowsOf cX8_rowsOf 1 (some .int), .methodLink RX8 83 yX8_goes, .instanceMethod yX8_goes, .selects RX8 yX8_goes yX8_goes, .code yX8_goes cX8_goes 4 (some .boolean), .fieldLink RX8 71 "MarbleBenchModel" "thrown" "I", .methodLink RX8 115 yX8_pageOf, .static yX8_pageOf, .code yX8_pageOf cX8_pageOf 6 (some .int), .methodLink RX8 112 yX8_layerOf, .static yX8_layerOf, .code yX8_layerOf cX8_layerOf 12 (some .int)] ++ wsX80)
def wsX8_placeOf : List Cond := .code yX8_placeOf cX8_placeOf 7 (some .int) :: ([.methodLink RX8 75 yX8_in, .static yX8_in, .initialized RX8, .code yX8_in cX8_in 3 (some .boolean), .methodLink RX8 105 yX8_columnsOf, .static yX8_columnsOf, .code yX8_columnsOf cX8_columnsOf 1 (some .int), .methodLink RX8 109 yX8_rowsOf, .static yX8_rowsOf, .code yX8_rowsOf cX8_rowsOf 1 (some .int), .methodLink RX8 83 yX8_goes, .instanceMethod yX8_goes, .selects RX8 yX8_goes yX8_goes, .code yX8_goes cX8_goes 4 (some .boolean), .fieldLink RX8 71 "MarbleBenchModel" "thrown" "I", .methodLink RX8 115 yX8_pageOf, .static yX8_pageOf, .code yX8_pageOf cX8_pageOf 6 (some .int), .methodLink RX8 112 yX8_layerOf, .static yX8_layerOf, .code yX8_layerOf cX8_layerOf 12 (some .int)] ++ wsX80)
def wsX8_isBook : List Cond := .code yX8_isBook cX8_isBook 2 (some .boolean) :: ([.fieldLink RX8 119 "MarbleBenchModel" "books" "I", .methodLink RX8 75 yX8_in, .static yX8_in, .initialized RX8, .code yX8_in cX8_in 3 (some .boolean)] ++ wsX80)
def wsX8_book : List Cond := .code yX8_book cX8_book 7 (some .int) :: ([.fieldLink RX8 119 "MarbleBenchModel" "books" "I", .fieldLink RX8 19 "MarbleBenchModel" "gatherings" "[I", .fieldLink RX8 22 "MarbleBenchModel" "leaves" "[I", .fieldLink RX8 25 "MarbleBenchModel" "stations" "[I", .fieldLink RX8 28 "MarbleBenchModel" "thickness" "[I", .fieldLink RX8 31 "MarbleBenchModel" "isOld" "[Z", .methodLink RX8 75 yX8_in, .static yX8_in, .initialized RX8, .code yX8_in cX8_in 3 (some .boolean), .methodLink RX8 83 yX8_goes, .instanceMethod yX8_goes, .selects RX8 yX8_goes yX8_goes, .code yX8_goes cX8_goes 4 (some .boolean), .fieldLink RX8 71 "MarbleBenchModel" "thrown" "I"] ++ wsX80)
def wsX8_lays : List Cond := .code yX8_lays cX8_lays 3 none :: ([.fieldLink RX8 122 "MarbleBenchModel" "station" "I", .fieldLink RX8 125 "MarbleBenchModel" "length" "I", .fieldLink RX8 44 "MarbleBenchModel" "stitch" "[I", .fieldLink RX8 128 "MarbleBenchModel" "gathering" "I", .fieldLink RX8 131 "MarbleBenchModel" "isInside" "Z"] ++ wsX80)
def wsX8_links : List Cond := .code yX8_links cX8_links 2 none :: ([.fieldLink RX8 47 "MarbleBenchModel" "isLinked" "[Z", .fieldLink RX8 128 "MarbleBenchModel" "gathering" "I", .fieldLink RX8 125 "MarbleBenchModel" "length" "I"] ++ wsX80)
def wsX8_moves : List Cond := .code yX8_moves cX8_moves 2 none :: ([.fieldLink RX8 131 "MarbleBenchModel" "isInside" "Z", .fieldLink RX8 122 "MarbleBenchModel" "station" "I", .methodLink RX8 135 yX8_lays, .instanceMethod yX8_lays, .selects RX8 yX8_lays yX8_lays, .initialized RX8, .code yX8_lays cX8_lays 3 none, .fieldLink RX8 125 "MarbleBenchModel" "length" "I", .fieldLink RX8 44 "MarbleBenchModel" "stitch" "[I", .fieldLink RX8 128 "MarbleBenchModel" "gathering" "I", .methodLink RX8 139 yX8_links, .instanceMethod yX8_links, .selects RX8 yX8_links yX8_links, .code yX8_links cX8_links 2 none, .fieldLink RX8 47 "MarbleBenchModel" "isLinked" "[Z"] ++ wsX80)
def wsX8_follows : List Cond := .code yX8_follows cX8_follows 3 none :: ([.fieldLink RX8 44 "MarbleBenchModel" "stitch" "[I", .fieldLink RX8 47 "MarbleBenchModel" "isLinked" "[Z", .fieldLink RX8 125 "MarbleBenchModel" "length" "I", .fieldLink RX8 128 "MarbleBenchModel" "gathering" "I", .fieldLink RX8 122 "MarbleBenchModel" "station" "I", .fieldLink RX8 131 "MarbleBenchModel" "isInside" "Z", .fieldLink RX8 38 "MarbleBenchModel" "moves" "[I", .fieldLink RX8 41 "MarbleBenchModel" "moved" "[I", .methodLink RX8 143 yX8_moves, .instanceMethod yX8_moves, .selects RX8 yX8_moves yX8_moves, .initialized RX8, .code yX8_moves cX8_moves 2 none, .methodLink RX8 135 yX8_lays, .instanceMethod yX8_lays, .selects RX8 yX8_lays yX8_lays, .code yX8_lays cX8_lays 3 none, .methodLink RX8 139 yX8_links, .instanceMethod yX8_links, .selects RX8 yX8_links yX8_links, .code yX8_links cX8_links 2 none] ++ wsX80)
def wsX8_can : List Cond := .code yX8_can cX8_can 3 (some .boolean) :: ([.fieldLink RX8 122 "MarbleBenchModel" "station" "I", .fieldLink RX8 25 "MarbleBenchModel" "stations" "[I", .fieldLink RX8 131 "MarbleBenchModel" "isInside" "Z", .fieldLink RX8 128 "MarbleBenchModel" "gathering" "I", .fieldLink RX8 19 "MarbleBenchModel" "gatherings" "[I"] ++ wsX80)
def wsX8_canMove_r1 : List Cond := [Cond.fieldLink RX8 38 "MarbleBenchModel" "moves" "[I", Cond.methodLink RX8 145 yX8_follows, Cond.instanceMethod yX8_follows, Cond.selects RX8 yX8_follows yX8_follows, Cond.initialized RX8, Cond.code yX8_follows cX8_follows 3 none, Cond.fieldLink RX8 44 "MarbleBenchModel" "stitch" "[I", Cond.fieldLink RX8 47 "MarbleBenchModel" "isLinked" "[Z", Cond.fieldLink RX8 125 "MarbleBenchModel" "length" "I", Cond.fieldLink RX8 128 "MarbleBenchModel" "gathering" "I", Cond.fieldLink RX8 122 "MarbleBenchModel" "station" "I", Cond.fieldLink RX8 131 "MarbleBenchModel" "isInside" "Z", Cond.fieldLink RX8 41 "MarbleBenchModel" "moved" "[I", Cond.methodLink RX8 143 yX8_moves, Cond.instanceMethod yX8_moves, Cond.selects RX8 yX8_moves yX8_moves, Cond.code yX8_moves cX8_moves 2 none, Cond.methodLink RX8 135 yX8_lays, Cond.instanceMethod yX8_lays, Cond.selects RX8 yX8_lays yX8_lays, Cond.code yX8_lays cX8_lays 3 none, Cond.methodLink RX8 139 yX8_links, Cond.instanceMethod yX8_links, Cond.selects RX8 yX8_links yX8_links]
def wsX8_canMove_r2 : List Cond := [Cond.code yX8_links cX8_links 2 none, Cond.methodLink RX8 148 yX8_can, Cond.instanceMethod yX8_can, Cond.selects RX8 yX8_can yX8_can, Cond.code yX8_can cX8_can 3 (some .boolean), Cond.fieldLink RX8 25 "MarbleBenchModel" "stations" "[I", Cond.fieldLink RX8 19 "MarbleBenchModel" "gatherings" "[I"]
def wsX8_canMove : List Cond := .code yX8_canMove cX8_canMove 3 (some .boolean) :: ((wsX8_canMove_r1 ++ wsX8_canMove_r2) ++ wsX80)
def wsX8_sew_r1 : List Cond := [Cond.fieldLink RX8 41 "MarbleBenchModel" "moved" "[I", Cond.fieldLink RX8 38 "MarbleBenchModel" "moves" "[I", Cond.fieldLink RX8 125 "MarbleBenchModel" "length" "I", Cond.methodLink RX8 152 yX8_isBook, Cond.instanceMethod yX8_isBook, Cond.selects RX8 yX8_isBook yX8_isBook, Cond.initialized RX8, Cond.code yX8_isBook cX8_isBook 2 (some .boolean), Cond.fieldLink RX8 119 "MarbleBenchModel" "books" "I", Cond.methodLink RX8 75 yX8_in, Cond.static yX8_in, Cond.code yX8_in cX8_in 3 (some .boolean), Cond.methodLink RX8 155 yX8_canMove, Cond.instanceMethod yX8_canMove, Cond.selects RX8 yX8_canMove yX8_canMove, Cond.code yX8_canMove cX8_canMove 3 (some .boolean), Cond.methodLink RX8 145 yX8_follows, Cond.instanceMethod yX8_follows, Cond.selects RX8 yX8_follows yX8_follows, Cond.code yX8_follows cX8_follows 3 none, Cond.fieldLink RX8 44 "MarbleBenchModel" "stitch" "[I", Cond.fieldLink RX8 47 "MarbleBenchModel" "isLinked" "[Z", Cond.fieldLink RX8 128 "MarbleBenchModel" "gathering" "I", Cond.fieldLink RX8 122 "MarbleBenchModel" "station" "I"]
def wsX8_sew_r2 : List Cond := [Cond.fieldLink RX8 131 "MarbleBenchModel" "isInside" "Z", Cond.methodLink RX8 143 yX8_moves, Cond.instanceMethod yX8_moves, Cond.selects RX8 yX8_moves yX8_moves, Cond.code yX8_moves cX8_moves 2 none, Cond.methodLink RX8 135 yX8_lays, Cond.instanceMethod yX8_lays, Cond.selects RX8 yX8_lays yX8_lays, Cond.code yX8_lays cX8_lays 3 none, Cond.methodLink RX8 139 yX8_links, Cond.instanceMethod yX8_links, Cond.selects RX8 yX8_links yX8_links, Cond.code yX8_links cX8_links 2 none, Cond.methodLink RX8 148 yX8_can, Cond.instanceMethod yX8_can, Cond.selects RX8 yX8_can yX8_can, Cond.code yX8_can cX8_can 3 (some .boolean), Cond.fieldLink RX8 25 "MarbleBenchModel" "stations" "[I", Cond.fieldLink RX8 19 "MarbleBenchModel" "gatherings" "[I", Cond.methodLink RX8 83 yX8_goes, Cond.instanceMethod yX8_goes, Cond.selects RX8 yX8_goes yX8_goes, Cond.code yX8_goes cX8_goes 4 (some .boolean), Cond.fieldLink RX8 71 "MarbleBenchModel" "thrown" "I"]
def wsX8_sew : List Cond := .code yX8_sew cX8_sew 5 (some .int) :: ((wsX8_sew_r1 ++ wsX8_sew_r2) ++ wsX80)
def wsX8_unsew_r1 : List Cond := [Cond.fieldLink RX8 38 "MarbleBenchModel" "moves" "[I", Cond.fieldLink RX8 125 "MarbleBenchModel" "length" "I", Cond.methodLink RX8 152 yX8_isBook, Cond.instanceMethod yX8_isBook, Cond.selects RX8 yX8_isBook yX8_isBook, Cond.initialized RX8, Cond.code yX8_isBook cX8_isBook 2 (some .boolean), Cond.fieldLink RX8 119 "MarbleBenchModel" "books" "I", Cond.methodLink RX8 75 yX8_in, Cond.static yX8_in, Cond.code yX8_in cX8_in 3 (some .boolean), Cond.methodLink RX8 83 yX8_goes, Cond.instanceMethod yX8_goes, Cond.selects RX8 yX8_goes yX8_goes, Cond.code yX8_goes cX8_goes 4 (some .boolean), Cond.fieldLink RX8 71 "MarbleBenchModel" "thrown" "I", Cond.methodLink RX8 145 yX8_follows, Cond.instanceMethod yX8_follows, Cond.selects RX8 yX8_follows yX8_follows, Cond.code yX8_follows cX8_follows 3 none, Cond.fieldLink RX8 44 "MarbleBenchModel" "stitch" "[I", Cond.fieldLink RX8 47 "MarbleBenchModel" "isLinked" "[Z", Cond.fieldLink RX8 128 "MarbleBenchModel" "gathering" "I", Cond.fieldLink RX8 122 "MarbleBenchModel" "station" "I"]
def wsX8_unsew_r2 : List Cond := [Cond.fieldLink RX8 131 "MarbleBenchModel" "isInside" "Z", Cond.fieldLink RX8 41 "MarbleBenchModel" "moved" "[I", Cond.methodLink RX8 143 yX8_moves, Cond.instanceMethod yX8_moves, Cond.selects RX8 yX8_moves yX8_moves, Cond.code yX8_moves cX8_moves 2 none, Cond.methodLink RX8 135 yX8_lays, Cond.instanceMethod yX8_lays, Cond.selects RX8 yX8_lays yX8_lays, Cond.code yX8_lays cX8_lays 3 none, Cond.methodLink RX8 139 yX8_links, Cond.instanceMethod yX8_links, Cond.selects RX8 yX8_links yX8_links, Cond.code yX8_links cX8_links 2 none]
def wsX8_unsew : List Cond := .code yX8_unsew cX8_unsew 4 (some .int) :: ((wsX8_unsew_r1 ++ wsX8_unsew_r2) ++ wsX80)
def wsX8_holds : List Cond := .code yX8_holds cX8_holds 5 (some .boolean) :: ([.fieldLink RX8 25 "MarbleBenchModel" "stations" "[I", .fieldLink RX8 44 "MarbleBenchModel" "stitch" "[I"] ++ wsX80)
def wsX8_isSewn : List Cond := .code yX8_isSewn cX8_isSewn 4 (some .boolean) :: ([.fieldLink RX8 131 "MarbleBenchModel" "isInside" "Z", .fieldLink RX8 19 "MarbleBenchModel" "gatherings" "[I", .fieldLink RX8 47 "MarbleBenchModel" "isLinked" "[Z", .methodLink RX8 158 yX8_holds, .instanceMethod yX8_holds, .selects RX8 yX8_holds yX8_holds, .initialized RX8, .code yX8_holds cX8_holds 5 (some .boolean), .fieldLink RX8 25 "MarbleBenchModel" "stations" "[I", .fieldLink RX8 44 "MarbleBenchModel" "stitch" "[I"] ++ wsX80)
def wsX8_ofThread_r1 : List Cond := [Cond.fieldLink RX8 125 "MarbleBenchModel" "length" "I", Cond.fieldLink RX8 128 "MarbleBenchModel" "gathering" "I", Cond.fieldLink RX8 122 "MarbleBenchModel" "station" "I", Cond.fieldLink RX8 131 "MarbleBenchModel" "isInside" "Z", Cond.fieldLink RX8 38 "MarbleBenchModel" "moves" "[I", Cond.methodLink RX8 152 yX8_isBook, Cond.instanceMethod yX8_isBook, Cond.selects RX8 yX8_isBook yX8_isBook, Cond.initialized RX8, Cond.code yX8_isBook cX8_isBook 2 (some .boolean), Cond.fieldLink RX8 119 "MarbleBenchModel" "books" "I", Cond.methodLink RX8 75 yX8_in, Cond.static yX8_in, Cond.code yX8_in cX8_in 3 (some .boolean), Cond.methodLink RX8 83 yX8_goes, Cond.instanceMethod yX8_goes, Cond.selects RX8 yX8_goes yX8_goes, Cond.code yX8_goes cX8_goes 4 (some .boolean), Cond.fieldLink RX8 71 "MarbleBenchModel" "thrown" "I", Cond.methodLink RX8 145 yX8_follows, Cond.instanceMethod yX8_follows, Cond.selects RX8 yX8_follows yX8_follows, Cond.code yX8_follows cX8_follows 3 none, Cond.fieldLink RX8 44 "MarbleBenchModel" "stitch" "[I"]
def wsX8_ofThread_r2 : List Cond := [Cond.fieldLink RX8 47 "MarbleBenchModel" "isLinked" "[Z", Cond.fieldLink RX8 41 "MarbleBenchModel" "moved" "[I", Cond.methodLink RX8 143 yX8_moves, Cond.instanceMethod yX8_moves, Cond.selects RX8 yX8_moves yX8_moves, Cond.code yX8_moves cX8_moves 2 none, Cond.methodLink RX8 135 yX8_lays, Cond.instanceMethod yX8_lays, Cond.selects RX8 yX8_lays yX8_lays, Cond.code yX8_lays cX8_lays 3 none, Cond.methodLink RX8 139 yX8_links, Cond.instanceMethod yX8_links, Cond.selects RX8 yX8_links yX8_links, Cond.code yX8_links cX8_links 2 none, Cond.methodLink RX8 161 yX8_isSewn, Cond.instanceMethod yX8_isSewn, Cond.selects RX8 yX8_isSewn yX8_isSewn, Cond.code yX8_isSewn cX8_isSewn 4 (some .boolean), Cond.fieldLink RX8 19 "MarbleBenchModel" "gatherings" "[I", Cond.methodLink RX8 158 yX8_holds, Cond.instanceMethod yX8_holds, Cond.selects RX8 yX8_holds yX8_holds, Cond.code yX8_holds cX8_holds 5 (some .boolean), Cond.fieldLink RX8 25 "MarbleBenchModel" "stations" "[I"]
def wsX8_ofThread : List Cond := .code yX8_ofThread cX8_ofThread 3 (some .int) :: ((wsX8_ofThread_r1 ++ wsX8_ofThread_r2) ++ wsX80)
def wsX8_isGathering : List Cond := .code yX8_isGathering cX8_isGathering 3 (some .boolean) :: ([.fieldLink RX8 19 "MarbleBenchModel" "gatherings" "[I", .methodLink RX8 152 yX8_isBook, .instanceMethod yX8_isBook, .selects RX8 yX8_isBook yX8_isBook, .initialized RX8, .code yX8_isBook cX8_isBook 2 (some .boolean), .fieldLink RX8 119 "MarbleBenchModel" "books" "I", .methodLink RX8 75 yX8_in, .static yX8_in, .code yX8_in cX8_in 3 (some .boolean)] ++ wsX80)
def wsX8_stitches_r1 : List Cond := [Cond.fieldLink RX8 25 "MarbleBenchModel" "stations" "[I", Cond.fieldLink RX8 44 "MarbleBenchModel" "stitch" "[I", Cond.methodLink RX8 164 yX8_isGathering, Cond.instanceMethod yX8_isGathering, Cond.selects RX8 yX8_isGathering yX8_isGathering, Cond.initialized RX8, Cond.code yX8_isGathering cX8_isGathering 3 (some .boolean), Cond.fieldLink RX8 19 "MarbleBenchModel" "gatherings" "[I", Cond.methodLink RX8 152 yX8_isBook, Cond.instanceMethod yX8_isBook, Cond.selects RX8 yX8_isBook yX8_isBook, Cond.code yX8_isBook cX8_isBook 2 (some .boolean), Cond.fieldLink RX8 119 "MarbleBenchModel" "books" "I", Cond.methodLink RX8 75 yX8_in, Cond.static yX8_in, Cond.code yX8_in cX8_in 3 (some .boolean), Cond.methodLink RX8 83 yX8_goes, Cond.instanceMethod yX8_goes, Cond.selects RX8 yX8_goes yX8_goes, Cond.code yX8_goes cX8_goes 4 (some .boolean), Cond.fieldLink RX8 71 "MarbleBenchModel" "thrown" "I", Cond.methodLink RX8 145 yX8_follows, Cond.instanceMethod yX8_follows, Cond.selects RX8 yX8_follows yX8_follows]
def wsX8_stitches_r2 : List Cond := [Cond.code yX8_follows cX8_follows 3 none, Cond.fieldLink RX8 47 "MarbleBenchModel" "isLinked" "[Z", Cond.fieldLink RX8 125 "MarbleBenchModel" "length" "I", Cond.fieldLink RX8 128 "MarbleBenchModel" "gathering" "I", Cond.fieldLink RX8 122 "MarbleBenchModel" "station" "I", Cond.fieldLink RX8 131 "MarbleBenchModel" "isInside" "Z", Cond.fieldLink RX8 38 "MarbleBenchModel" "moves" "[I", Cond.fieldLink RX8 41 "MarbleBenchModel" "moved" "[I", Cond.methodLink RX8 143 yX8_moves, Cond.instanceMethod yX8_moves, Cond.selects RX8 yX8_moves yX8_moves, Cond.code yX8_moves cX8_moves 2 none, Cond.methodLink RX8 135 yX8_lays, Cond.instanceMethod yX8_lays, Cond.selects RX8 yX8_lays yX8_lays, Cond.code yX8_lays cX8_lays 3 none, Cond.methodLink RX8 139 yX8_links, Cond.instanceMethod yX8_links, Cond.selects RX8 yX8_links yX8_links, Cond.code yX8_links cX8_links 2 none]
def wsX8_stitches : List Cond := .code yX8_stitches cX8_stitches 4 (some .int) :: ((wsX8_stitches_r1 ++ wsX8_stitches_r2) ++ wsX80)
def wsX8_isHeld_r1 : List Cond := [Cond.methodLink RX8 164 yX8_isGathering, Cond.instanceMethod yX8_isGathering, Cond.selects RX8 yX8_isGathering yX8_isGathering, Cond.initialized RX8, Cond.code yX8_isGathering cX8_isGathering 3 (some .boolean), Cond.fieldLink RX8 19 "MarbleBenchModel" "gatherings" "[I", Cond.methodLink RX8 152 yX8_isBook, Cond.instanceMethod yX8_isBook, Cond.selects RX8 yX8_isBook yX8_isBook, Cond.code yX8_isBook cX8_isBook 2 (some .boolean), Cond.fieldLink RX8 119 "MarbleBenchModel" "books" "I", Cond.methodLink RX8 75 yX8_in, Cond.static yX8_in, Cond.code yX8_in cX8_in 3 (some .boolean), Cond.methodLink RX8 83 yX8_goes, Cond.instanceMethod yX8_goes, Cond.selects RX8 yX8_goes yX8_goes, Cond.code yX8_goes cX8_goes 4 (some .boolean), Cond.fieldLink RX8 71 "MarbleBenchModel" "thrown" "I", Cond.methodLink RX8 145 yX8_follows, Cond.instanceMethod yX8_follows, Cond.selects RX8 yX8_follows yX8_follows, Cond.code yX8_follows cX8_follows 3 none, Cond.fieldLink RX8 44 "MarbleBenchModel" "stitch" "[I"]
def wsX8_isHeld_r2 : List Cond := [Cond.fieldLink RX8 47 "MarbleBenchModel" "isLinked" "[Z", Cond.fieldLink RX8 125 "MarbleBenchModel" "length" "I", Cond.fieldLink RX8 128 "MarbleBenchModel" "gathering" "I", Cond.fieldLink RX8 122 "MarbleBenchModel" "station" "I", Cond.fieldLink RX8 131 "MarbleBenchModel" "isInside" "Z", Cond.fieldLink RX8 38 "MarbleBenchModel" "moves" "[I", Cond.fieldLink RX8 41 "MarbleBenchModel" "moved" "[I", Cond.methodLink RX8 143 yX8_moves, Cond.instanceMethod yX8_moves, Cond.selects RX8 yX8_moves yX8_moves, Cond.code yX8_moves cX8_moves 2 none, Cond.methodLink RX8 135 yX8_lays, Cond.instanceMethod yX8_lays, Cond.selects RX8 yX8_lays yX8_lays, Cond.code yX8_lays cX8_lays 3 none, Cond.methodLink RX8 139 yX8_links, Cond.instanceMethod yX8_links, Cond.selects RX8 yX8_links yX8_links, Cond.code yX8_links cX8_links 2 none, Cond.methodLink RX8 158 yX8_holds, Cond.instanceMethod yX8_holds, Cond.selects RX8 yX8_holds yX8_holds, Cond.code yX8_holds cX8_holds 5 (some .boolean), Cond.fieldLink RX8 25 "MarbleBenchModel" "stations" "[I"]
def wsX8_isHeld : List Cond := .code yX8_isHeld cX8_isHeld 3 (some .boolean) :: ((wsX8_isHeld_r1 ++ wsX8_isHeld_r2) ++ wsX80)
def wsX8_back : List Cond := .code yX8_back cX8_back 4 (some .int) :: ([.fieldLink RX8 35 "MarbleBenchModel" "back" "[I", .methodLink RX8 152 yX8_isBook, .instanceMethod yX8_isBook, .selects RX8 yX8_isBook yX8_isBook, .initialized RX8, .code yX8_isBook cX8_isBook 2 (some .boolean), .fieldLink RX8 119 "MarbleBenchModel" "books" "I", .methodLink RX8 75 yX8_in, .static yX8_in, .code yX8_in cX8_in 3 (some .boolean), .methodLink RX8 83 yX8_goes, .instanceMethod yX8_goes, .selects RX8 yX8_goes yX8_goes, .code yX8_goes cX8_goes 4 (some .boolean), .fieldLink RX8 71 "MarbleBenchModel" "thrown" "I"] ++ wsX80)
def wsX8_swells_r1 : List Cond := [Cond.fieldLink RX8 19 "MarbleBenchModel" "gatherings" "[I", Cond.fieldLink RX8 44 "MarbleBenchModel" "stitch" "[I", Cond.methodLink RX8 145 yX8_follows, Cond.instanceMethod yX8_follows, Cond.selects RX8 yX8_follows yX8_follows, Cond.initialized RX8, Cond.code yX8_follows cX8_follows 3 none, Cond.fieldLink RX8 47 "MarbleBenchModel" "isLinked" "[Z", Cond.fieldLink RX8 125 "MarbleBenchModel" "length" "I", Cond.fieldLink RX8 128 "MarbleBenchModel" "gathering" "I", Cond.fieldLink RX8 122 "MarbleBenchModel" "station" "I", Cond.fieldLink RX8 131 "MarbleBenchModel" "isInside" "Z", Cond.fieldLink RX8 38 "MarbleBenchModel" "moves" "[I", Cond.fieldLink RX8 41 "MarbleBenchModel" "moved" "[I", Cond.methodLink RX8 143 yX8_moves, Cond.instanceMethod yX8_moves, Cond.selects RX8 yX8_moves yX8_moves, Cond.code yX8_moves cX8_moves 2 none, Cond.methodLink RX8 135 yX8_lays, Cond.instanceMethod yX8_lays, Cond.selects RX8 yX8_lays yX8_lays, Cond.code yX8_lays cX8_lays 3 none, Cond.methodLink RX8 139 yX8_links, Cond.instanceMethod yX8_links]
def wsX8_swells_r2 : List Cond := [Cond.selects RX8 yX8_links yX8_links, Cond.code yX8_links cX8_links 2 none]
def wsX8_swells : List Cond := .code yX8_swells cX8_swells 6 (some .int) :: ((wsX8_swells_r1 ++ wsX8_swells_r2) ++ wsX80)
def wsX8_swelling_r1 : List Cond := [Cond.methodLink RX8 152 yX8_isBook, Cond.instanceMethod yX8_isBook, Cond.selects RX8 yX8_isBook yX8_isBook, Cond.initialized RX8, Cond.code yX8_isBook cX8_isBook 2 (some .boolean), Cond.fieldLink RX8 119 "MarbleBenchModel" "books" "I", Cond.methodLink RX8 75 yX8_in, Cond.static yX8_in, Cond.code yX8_in cX8_in 3 (some .boolean), Cond.methodLink RX8 83 yX8_goes, Cond.instanceMethod yX8_goes, Cond.selects RX8 yX8_goes yX8_goes, Cond.code yX8_goes cX8_goes 4 (some .boolean), Cond.fieldLink RX8 71 "MarbleBenchModel" "thrown" "I", Cond.methodLink RX8 167 yX8_swells, Cond.instanceMethod yX8_swells, Cond.selects RX8 yX8_swells yX8_swells, Cond.code yX8_swells cX8_swells 6 (some .int), Cond.fieldLink RX8 19 "MarbleBenchModel" "gatherings" "[I", Cond.fieldLink RX8 44 "MarbleBenchModel" "stitch" "[I", Cond.methodLink RX8 145 yX8_follows, Cond.instanceMethod yX8_follows, Cond.selects RX8 yX8_follows yX8_follows, Cond.code yX8_follows cX8_follows 3 none]
def wsX8_swelling_r2 : List Cond := [Cond.fieldLink RX8 47 "MarbleBenchModel" "isLinked" "[Z", Cond.fieldLink RX8 125 "MarbleBenchModel" "length" "I", Cond.fieldLink RX8 128 "MarbleBenchModel" "gathering" "I", Cond.fieldLink RX8 122 "MarbleBenchModel" "station" "I", Cond.fieldLink RX8 131 "MarbleBenchModel" "isInside" "Z", Cond.fieldLink RX8 38 "MarbleBenchModel" "moves" "[I", Cond.fieldLink RX8 41 "MarbleBenchModel" "moved" "[I", Cond.methodLink RX8 143 yX8_moves, Cond.instanceMethod yX8_moves, Cond.selects RX8 yX8_moves yX8_moves, Cond.code yX8_moves cX8_moves 2 none, Cond.methodLink RX8 135 yX8_lays, Cond.instanceMethod yX8_lays, Cond.selects RX8 yX8_lays yX8_lays, Cond.code yX8_lays cX8_lays 3 none, Cond.methodLink RX8 139 yX8_links, Cond.instanceMethod yX8_links, Cond.selects RX8 yX8_links yX8_links, Cond.code yX8_links cX8_links 2 none]
def wsX8_swelling : List Cond := .code yX8_swelling cX8_swelling 2 (some .int) :: ((wsX8_swelling_r1 ++ wsX8_swelling_r2) ++ wsX80)
def wsX8_all : List Cond := .code yX8_all cX8_all 2 (some .int) :: ([.fieldLink RX8 19 "MarbleBenchModel" "gatherings" "[I", .fieldLink RX8 22 "MarbleBenchModel" "leaves" "[I"] ++ wsX80)
def wsX8_bends : List Cond := .code yX8_bends cX8_bends 4 (some .int) :: ([.fieldLink RX8 28 "MarbleBenchModel" "thickness" "[I", .fieldLink RX8 35 "MarbleBenchModel" "back" "[I", .methodLink RX8 170 yX8_all, .instanceMethod yX8_all, .selects RX8 yX8_all yX8_all, .initialized RX8, .code yX8_all cX8_all 2 (some .int), .fieldLink RX8 19 "MarbleBenchModel" "gatherings" "[I", .fieldLink RX8 22 "MarbleBenchModel" "leaves" "[I"] ++ wsX80)
def wsX8_strain_r1 : List Cond := [Cond.methodLink RX8 152 yX8_isBook, Cond.instanceMethod yX8_isBook, Cond.selects RX8 yX8_isBook yX8_isBook, Cond.initialized RX8, Cond.code yX8_isBook cX8_isBook 2 (some .boolean), Cond.fieldLink RX8 119 "MarbleBenchModel" "books" "I", Cond.methodLink RX8 75 yX8_in, Cond.static yX8_in, Cond.code yX8_in cX8_in 3 (some .boolean), Cond.methodLink RX8 170 yX8_all, Cond.instanceMethod yX8_all, Cond.selects RX8 yX8_all yX8_all, Cond.code yX8_all cX8_all 2 (some .int), Cond.fieldLink RX8 19 "MarbleBenchModel" "gatherings" "[I", Cond.fieldLink RX8 22 "MarbleBenchModel" "leaves" "[I", Cond.methodLink RX8 83 yX8_goes, Cond.instanceMethod yX8_goes, Cond.selects RX8 yX8_goes yX8_goes, Cond.code yX8_goes cX8_goes 4 (some .boolean), Cond.fieldLink RX8 71 "MarbleBenchModel" "thrown" "I", Cond.methodLink RX8 173 yX8_bends, Cond.instanceMethod yX8_bends, Cond.selects RX8 yX8_bends yX8_bends, Cond.code yX8_bends cX8_bends 4 (some .int)]
def wsX8_strain_r2 : List Cond := [Cond.fieldLink RX8 28 "MarbleBenchModel" "thickness" "[I", Cond.fieldLink RX8 35 "MarbleBenchModel" "back" "[I", Cond.methodLink RX8 167 yX8_swells, Cond.instanceMethod yX8_swells, Cond.selects RX8 yX8_swells yX8_swells, Cond.code yX8_swells cX8_swells 6 (some .int), Cond.fieldLink RX8 44 "MarbleBenchModel" "stitch" "[I", Cond.methodLink RX8 145 yX8_follows, Cond.instanceMethod yX8_follows, Cond.selects RX8 yX8_follows yX8_follows, Cond.code yX8_follows cX8_follows 3 none, Cond.fieldLink RX8 47 "MarbleBenchModel" "isLinked" "[Z", Cond.fieldLink RX8 125 "MarbleBenchModel" "length" "I", Cond.fieldLink RX8 128 "MarbleBenchModel" "gathering" "I", Cond.fieldLink RX8 122 "MarbleBenchModel" "station" "I", Cond.fieldLink RX8 131 "MarbleBenchModel" "isInside" "Z", Cond.fieldLink RX8 38 "MarbleBenchModel" "moves" "[I", Cond.fieldLink RX8 41 "MarbleBenchModel" "moved" "[I", Cond.methodLink RX8 143 yX8_moves, Cond.instanceMethod yX8_moves, Cond.selects RX8 yX8_moves yX8_moves, Cond.code yX8_moves cX8_moves 2 none, Cond.methodLink RX8 135 yX8_lays, Cond.instanceMethod yX8_lays]
def wsX8_strain_r3 : List Cond := [Cond.selects RX8 yX8_lays yX8_lays, Cond.code yX8_lays cX8_lays 3 none, Cond.methodLink RX8 139 yX8_links, Cond.instanceMethod yX8_links, Cond.selects RX8 yX8_links yX8_links, Cond.code yX8_links cX8_links 2 none]
def wsX8_strain : List Cond := .code yX8_strain cX8_strain 4 (some .int) :: ((wsX8_strain_r1 ++ (wsX8_strain_r2 ++ wsX8_strain_r3)) ++ wsX80)
def wsX8_worst_r1 : List Cond := [Cond.methodLink RX8 152 yX8_isBook, Cond.instanceMethod yX8_isBook, Cond.selects RX8 yX8_isBook yX8_isBook, Cond.initialized RX8, Cond.code yX8_isBook cX8_isBook 2 (some .boolean), Cond.fieldLink RX8 119 "MarbleBenchModel" "books" "I", Cond.methodLink RX8 75 yX8_in, Cond.static yX8_in, Cond.code yX8_in cX8_in 3 (some .boolean), Cond.methodLink RX8 83 yX8_goes, Cond.instanceMethod yX8_goes, Cond.selects RX8 yX8_goes yX8_goes, Cond.code yX8_goes cX8_goes 4 (some .boolean), Cond.fieldLink RX8 71 "MarbleBenchModel" "thrown" "I", Cond.methodLink RX8 170 yX8_all, Cond.instanceMethod yX8_all, Cond.selects RX8 yX8_all yX8_all, Cond.code yX8_all cX8_all 2 (some .int), Cond.fieldLink RX8 19 "MarbleBenchModel" "gatherings" "[I", Cond.fieldLink RX8 22 "MarbleBenchModel" "leaves" "[I", Cond.methodLink RX8 173 yX8_bends, Cond.instanceMethod yX8_bends, Cond.selects RX8 yX8_bends yX8_bends, Cond.code yX8_bends cX8_bends 4 (some .int)]
def wsX8_worst_r2 : List Cond := [Cond.fieldLink RX8 28 "MarbleBenchModel" "thickness" "[I", Cond.fieldLink RX8 35 "MarbleBenchModel" "back" "[I"]
def wsX8_worst : List Cond := .code yX8_worst cX8_worst 4 (some .int) :: ((wsX8_worst_r1 ++ wsX8_worst_r2) ++ wsX80)
def wsX8_opens_r1 : List Cond := [Cond.constant RX8 177 (100000), Cond.methodLink RX8 152 yX8_isBook, Cond.instanceMethod yX8_isBook, Cond.selects RX8 yX8_isBook yX8_isBook, Cond.initialized RX8, Cond.code yX8_isBook cX8_isBook 2 (some .boolean), Cond.fieldLink RX8 119 "MarbleBenchModel" "books" "I", Cond.methodLink RX8 75 yX8_in, Cond.static yX8_in, Cond.code yX8_in cX8_in 3 (some .boolean), Cond.methodLink RX8 83 yX8_goes, Cond.instanceMethod yX8_goes, Cond.selects RX8 yX8_goes yX8_goes, Cond.code yX8_goes cX8_goes 4 (some .boolean), Cond.fieldLink RX8 71 "MarbleBenchModel" "thrown" "I", Cond.methodLink RX8 167 yX8_swells, Cond.instanceMethod yX8_swells, Cond.selects RX8 yX8_swells yX8_swells, Cond.code yX8_swells cX8_swells 6 (some .int), Cond.fieldLink RX8 19 "MarbleBenchModel" "gatherings" "[I", Cond.fieldLink RX8 44 "MarbleBenchModel" "stitch" "[I", Cond.methodLink RX8 145 yX8_follows, Cond.instanceMethod yX8_follows, Cond.selects RX8 yX8_follows yX8_follows]
def wsX8_opens_r2 : List Cond := [Cond.code yX8_follows cX8_follows 3 none, Cond.fieldLink RX8 47 "MarbleBenchModel" "isLinked" "[Z", Cond.fieldLink RX8 125 "MarbleBenchModel" "length" "I", Cond.fieldLink RX8 128 "MarbleBenchModel" "gathering" "I", Cond.fieldLink RX8 122 "MarbleBenchModel" "station" "I", Cond.fieldLink RX8 131 "MarbleBenchModel" "isInside" "Z", Cond.fieldLink RX8 38 "MarbleBenchModel" "moves" "[I", Cond.fieldLink RX8 41 "MarbleBenchModel" "moved" "[I", Cond.methodLink RX8 143 yX8_moves, Cond.instanceMethod yX8_moves, Cond.selects RX8 yX8_moves yX8_moves, Cond.code yX8_moves cX8_moves 2 none, Cond.methodLink RX8 135 yX8_lays, Cond.instanceMethod yX8_lays, Cond.selects RX8 yX8_lays yX8_lays, Cond.code yX8_lays cX8_lays 3 none, Cond.methodLink RX8 139 yX8_links, Cond.instanceMethod yX8_links, Cond.selects RX8 yX8_links yX8_links, Cond.code yX8_links cX8_links 2 none, Cond.methodLink RX8 170 yX8_all, Cond.instanceMethod yX8_all, Cond.selects RX8 yX8_all yX8_all, Cond.code yX8_all cX8_all 2 (some .int)]
def wsX8_opens_r3 : List Cond := [Cond.fieldLink RX8 22 "MarbleBenchModel" "leaves" "[I", Cond.methodLink RX8 173 yX8_bends, Cond.instanceMethod yX8_bends, Cond.selects RX8 yX8_bends yX8_bends, Cond.code yX8_bends cX8_bends 4 (some .int), Cond.fieldLink RX8 28 "MarbleBenchModel" "thickness" "[I", Cond.fieldLink RX8 35 "MarbleBenchModel" "back" "[I"]
def wsX8_opens : List Cond := .code yX8_opens cX8_opens 6 (some .int) :: ((wsX8_opens_r1 ++ (wsX8_opens_r2 ++ wsX8_opens_r3)) ++ wsX80)
def wsX8_isSkin : List Cond := .code yX8_isSkin cX8_isSkin 2 (some .boolean) :: ([.fieldLink RX8 178 "MarbleBenchModel" "skins" "I", .methodLink RX8 75 yX8_in, .static yX8_in, .initialized RX8, .code yX8_in cX8_in 3 (some .boolean)] ++ wsX80)
def wsX8_skin : List Cond := .code yX8_skin cX8_skin 3 (some .int) :: ([.fieldLink RX8 178 "MarbleBenchModel" "skins" "I", .fieldLink RX8 50 "MarbleBenchModel" "thick" "[I", .methodLink RX8 75 yX8_in, .static yX8_in, .initialized RX8, .code yX8_in cX8_in 3 (some .boolean), .methodLink RX8 83 yX8_goes, .instanceMethod yX8_goes, .selects RX8 yX8_goes yX8_goes, .code yX8_goes cX8_goes 4 (some .boolean), .fieldLink RX8 71 "MarbleBenchModel" "thrown" "I"] ++ wsX80)
def wsX8_least : List Cond := .code yX8_least cX8_least 9 (some .int) :: ([.fieldLink RX8 50 "MarbleBenchModel" "thick" "[I", .methodLink RX8 75 yX8_in, .static yX8_in, .initialized RX8, .code yX8_in cX8_in 3 (some .boolean)] ++ wsX80)
def wsX8_pare : List Cond := .code yX8_pare cX8_pare 10 (some .int) :: ([.fieldLink RX8 50 "MarbleBenchModel" "thick" "[I", .methodLink RX8 181 yX8_isSkin, .instanceMethod yX8_isSkin, .selects RX8 yX8_isSkin yX8_isSkin, .initialized RX8, .code yX8_isSkin cX8_isSkin 2 (some .boolean), .fieldLink RX8 178 "MarbleBenchModel" "skins" "I", .methodLink RX8 75 yX8_in, .static yX8_in, .code yX8_in cX8_in 3 (some .boolean), .methodLink RX8 79 yX8_isEdge, .static yX8_isEdge, .code yX8_isEdge cX8_isEdge 1 (some .boolean), .methodLink RX8 184 yX8_least, .instanceMethod yX8_least, .selects RX8 yX8_least yX8_least, .code yX8_least cX8_least 9 (some .int), .methodLink RX8 83 yX8_goes, .instanceMethod yX8_goes, .selects RX8 yX8_goes yX8_goes, .code yX8_goes cX8_goes 4 (some .boolean), .fieldLink RX8 71 "MarbleBenchModel" "thrown" "I"] ++ wsX80)
def wsX8_thickAt : List Cond := .code yX8_thickAt cX8_thickAt 4 (some .int) :: ([.fieldLink RX8 50 "MarbleBenchModel" "thick" "[I", .methodLink RX8 181 yX8_isSkin, .instanceMethod yX8_isSkin, .selects RX8 yX8_isSkin yX8_isSkin, .initialized RX8, .code yX8_isSkin cX8_isSkin 2 (some .boolean), .fieldLink RX8 178 "MarbleBenchModel" "skins" "I", .methodLink RX8 75 yX8_in, .static yX8_in, .code yX8_in cX8_in 3 (some .boolean), .methodLink RX8 79 yX8_isEdge, .static yX8_isEdge, .code yX8_isEdge cX8_isEdge 1 (some .boolean), .methodLink RX8 83 yX8_goes, .instanceMethod yX8_goes, .selects RX8 yX8_goes yX8_goes, .code yX8_goes cX8_goes 4 (some .boolean), .fieldLink RX8 71 "MarbleBenchModel" "thrown" "I"] ++ wsX80)
def wsX8_tooThick : List Cond := .code yX8_tooThick cX8_tooThick 5 (some .int) :: ([.fieldLink RX8 50 "MarbleBenchModel" "thick" "[I", .methodLink RX8 181 yX8_isSkin, .instanceMethod yX8_isSkin, .selects RX8 yX8_isSkin yX8_isSkin, .initialized RX8, .code yX8_isSkin cX8_isSkin 2 (some .boolean), .fieldLink RX8 178 "MarbleBenchModel" "skins" "I", .methodLink RX8 75 yX8_in, .static yX8_in, .code yX8_in cX8_in 3 (some .boolean), .methodLink RX8 83 yX8_goes, .instanceMethod yX8_goes, .selects RX8 yX8_goes yX8_goes, .code yX8_goes cX8_goes 4 (some .boolean), .fieldLink RX8 71 "MarbleBenchModel" "thrown" "I"] ++ wsX80)
def wsX8_repair : List Cond := .code yX8_repair cX8_repair 5 (some .int) :: ([.fieldLink RX8 31 "MarbleBenchModel" "isOld" "[Z", .fieldLink RX8 53 "MarbleBenchModel" "repairs" "[I", .fieldLink RX8 56 "MarbleBenchModel" "stuff" "[I", .methodLink RX8 152 yX8_isBook, .instanceMethod yX8_isBook, .selects RX8 yX8_isBook yX8_isBook, .initialized RX8, .code yX8_isBook cX8_isBook 2 (some .boolean), .fieldLink RX8 119 "MarbleBenchModel" "books" "I", .methodLink RX8 75 yX8_in, .static yX8_in, .code yX8_in cX8_in 3 (some .boolean), .methodLink RX8 83 yX8_goes, .instanceMethod yX8_goes, .selects RX8 yX8_goes yX8_goes, .code yX8_goes cX8_goes 4 (some .boolean), .fieldLink RX8 71 "MarbleBenchModel" "thrown" "I"] ++ wsX80)
def wsX8_undo : List Cond := .code yX8_undo cX8_undo 4 (some .int) :: ([.fieldLink RX8 53 "MarbleBenchModel" "repairs" "[I", .fieldLink RX8 56 "MarbleBenchModel" "stuff" "[I", .methodLink RX8 152 yX8_isBook, .instanceMethod yX8_isBook, .selects RX8 yX8_isBook yX8_isBook, .initialized RX8, .code yX8_isBook cX8_isBook 2 (some .boolean), .fieldLink RX8 119 "MarbleBenchModel" "books" "I", .methodLink RX8 75 yX8_in, .static yX8_in, .code yX8_in cX8_in 3 (some .boolean), .methodLink RX8 83 yX8_goes, .instanceMethod yX8_goes, .selects RX8 yX8_goes yX8_goes, .code yX8_goes cX8_goes 4 (some .boolean), .fieldLink RX8 71 "MarbleBenchModel" "thrown" "I"] ++ wsX80)
def wsX8_speak : List Cond := .code yX8_speak cX8_speak 8 (some .int) :: ([.fieldLink RX8 59 "MarbleBenchModel" "voices" "[I", .fieldLink RX8 62 "MarbleBenchModel" "from" "[I", .fieldLink RX8 65 "MarbleBenchModel" "to" "[I", .fieldLink RX8 68 "MarbleBenchModel" "weight" "[I", .methodLink RX8 152 yX8_isBook, .instanceMethod yX8_isBook, .selects RX8 yX8_isBook yX8_isBook, .initialized RX8, .code yX8_isBook cX8_isBook 2 (some .boolean), .fieldLink RX8 119 "MarbleBenchModel" "books" "I", .methodLink RX8 75 yX8_in, .static yX8_in, .code yX8_in cX8_in 3 (some .boolean), .methodLink RX8 83 yX8_goes, .instanceMethod yX8_goes, .selects RX8 yX8_goes yX8_goes, .code yX8_goes cX8_goes 4 (some .boolean), .fieldLink RX8 71 "MarbleBenchModel" "thrown" "I"] ++ wsX80)
def wsX8_sumOf : List Cond := .code yX8_sumOf cX8_sumOf 5 (some .int) :: ([.fieldLink RX8 59 "MarbleBenchModel" "voices" "[I", .fieldLink RX8 62 "MarbleBenchModel" "from" "[I", .fieldLink RX8 65 "MarbleBenchModel" "to" "[I", .fieldLink RX8 68 "MarbleBenchModel" "weight" "[I", .methodLink RX8 75 yX8_in, .static yX8_in, .initialized RX8, .code yX8_in cX8_in 3 (some .boolean)] ++ wsX80)
def wsX8_best : List Cond := .code yX8_best cX8_best 6 (some .int) :: ([.methodLink RX8 188 yX8_sumOf, .instanceMethod yX8_sumOf, .selects RX8 yX8_sumOf yX8_sumOf, .initialized RX8, .code yX8_sumOf cX8_sumOf 5 (some .int), .fieldLink RX8 59 "MarbleBenchModel" "voices" "[I", .fieldLink RX8 62 "MarbleBenchModel" "from" "[I", .fieldLink RX8 65 "MarbleBenchModel" "to" "[I", .fieldLink RX8 68 "MarbleBenchModel" "weight" "[I", .methodLink RX8 75 yX8_in, .static yX8_in, .code yX8_in cX8_in 3 (some .boolean)] ++ wsX80)
def wsX8_year_r1 : List Cond := [Cond.methodLink RX8 152 yX8_isBook, Cond.instanceMethod yX8_isBook, Cond.selects RX8 yX8_isBook yX8_isBook, Cond.initialized RX8, Cond.code yX8_isBook cX8_isBook 2 (some .boolean), Cond.fieldLink RX8 119 "MarbleBenchModel" "books" "I", Cond.methodLink RX8 75 yX8_in, Cond.static yX8_in, Cond.code yX8_in cX8_in 3 (some .boolean), Cond.methodLink RX8 83 yX8_goes, Cond.instanceMethod yX8_goes, Cond.selects RX8 yX8_goes yX8_goes, Cond.code yX8_goes cX8_goes 4 (some .boolean), Cond.fieldLink RX8 71 "MarbleBenchModel" "thrown" "I", Cond.methodLink RX8 191 yX8_best, Cond.instanceMethod yX8_best, Cond.selects RX8 yX8_best yX8_best, Cond.code yX8_best cX8_best 6 (some .int), Cond.methodLink RX8 188 yX8_sumOf, Cond.instanceMethod yX8_sumOf, Cond.selects RX8 yX8_sumOf yX8_sumOf, Cond.code yX8_sumOf cX8_sumOf 5 (some .int), Cond.fieldLink RX8 59 "MarbleBenchModel" "voices" "[I", Cond.fieldLink RX8 62 "MarbleBenchModel" "from" "[I"]
def wsX8_year_r2 : List Cond := [Cond.fieldLink RX8 65 "MarbleBenchModel" "to" "[I", Cond.fieldLink RX8 68 "MarbleBenchModel" "weight" "[I"]
def wsX8_year : List Cond := .code yX8_year cX8_year 5 (some .int) :: ((wsX8_year_r1 ++ wsX8_year_r2) ++ wsX80)
def wsX8_yearAnew_r1 : List Cond := [Cond.methodLink RX8 194 yX8_year, Cond.instanceMethod yX8_year, Cond.selects RX8 yX8_year yX8_year, Cond.initialized RX8, Cond.code yX8_year cX8_year 5 (some .int), Cond.methodLink RX8 152 yX8_isBook, Cond.instanceMethod yX8_isBook, Cond.selects RX8 yX8_isBook yX8_isBook, Cond.code yX8_isBook cX8_isBook 2 (some .boolean), Cond.fieldLink RX8 119 "MarbleBenchModel" "books" "I", Cond.methodLink RX8 75 yX8_in, Cond.static yX8_in, Cond.code yX8_in cX8_in 3 (some .boolean), Cond.methodLink RX8 83 yX8_goes, Cond.instanceMethod yX8_goes, Cond.selects RX8 yX8_goes yX8_goes, Cond.code yX8_goes cX8_goes 4 (some .boolean), Cond.fieldLink RX8 71 "MarbleBenchModel" "thrown" "I", Cond.methodLink RX8 191 yX8_best, Cond.instanceMethod yX8_best, Cond.selects RX8 yX8_best yX8_best, Cond.code yX8_best cX8_best 6 (some .int), Cond.methodLink RX8 188 yX8_sumOf, Cond.instanceMethod yX8_sumOf]
def wsX8_yearAnew_r2 : List Cond := [Cond.selects RX8 yX8_sumOf yX8_sumOf, Cond.code yX8_sumOf cX8_sumOf 5 (some .int), Cond.fieldLink RX8 59 "MarbleBenchModel" "voices" "[I", Cond.fieldLink RX8 62 "MarbleBenchModel" "from" "[I", Cond.fieldLink RX8 65 "MarbleBenchModel" "to" "[I", Cond.fieldLink RX8 68 "MarbleBenchModel" "weight" "[I"]
def wsX8_yearAnew : List Cond := .code yX8_yearAnew cX8_yearAnew 3 (some .int) :: ((wsX8_yearAnew_r1 ++ wsX8_yearAnew_r2) ++ wsX80)
def wsJ9_max_7cf53 : List Cond := .code yJ9_max_7cf53 cJ9_max_7cf53 2 (some .int) :: ([])
def wsJ9_min_7cf53 : List Cond := .code yJ9_min_7cf53 cJ9_min_7cf53 2 (some .int) :: ([])
abbrev vwCl : List vw_C := [(RX0, TX0, 5), (RX1, TX1, 7), (RX2, TX2, 1), (RX3, TX3, 2), (RX4, TX4, 10), (RX5, TX5, 1), (RX6, TX6, 4), (RX7, TX7, 7), (RX8, TX8, 28)]
end
section
/-! THE BASE: words of nest mates that travel with a contract, a state as rows of numbers, contracts, calls. -/
def mb_nw : List Cond := [.fieldLinkNest RX7 83 "MarbleBench$Bath" "colours" "[I" RX7, .fieldLinkNest RX7 87 "MarbleBench$Bath" "strengths" "[I" RX7, .fieldLinkNest RX7 94 "MarbleBench$Print" "colours" "[I" RX7, .fieldLinkNest RX7 122 "MarbleBench$Book" "sewing" "LMarbleBench$Sewing;" RX7, .fieldLinkNest RX7 135 "MarbleBench$Sewing" "length" "I" RX7, .fieldLinkNest RX7 138 "MarbleBench$Sewing" "moveCount" "I" RX7, .fieldLinkNest RX7 144 "MarbleBench$Sewing" "gathering" "I" RX7, .fieldLinkNest RX7 147 "MarbleBench$Sewing" "station" "I" RX7, .fieldLinkNest RX7 150 "MarbleBench$Sewing" "isInside" "Z" RX7, .fieldLinkNest RX7 158 "MarbleBench$Sewing" "gatherings" "I" RX7, .fieldLinkNest RX7 161 "MarbleBench$Sewing" "stations" "I" RX7, .fieldLinkNest RX7 170 "MarbleBench$Book" "spine" "I" RX7, .fieldLinkNest RX7 176 "MarbleBench$Book" "leavesInAll" "I" RX7, .fieldLinkNest RX7 205 "MarbleBench$Skin" "thicknesses" "[I" RX7, .fieldLinkNest RX7 211 "MarbleBench$Book" "isOld" "Z" RX7, .fieldLinkNest RX7 217 "MarbleBench$Book" "repairs" "LMarbleBench$Repairs;" RX7, .fieldLinkNest RX7 221 "MarbleBench$Repairs" "number" "I" RX7, .fieldLinkNest RX7 235 "MarbleBench$Book" "speakers" "LMarbleBench$Speakers;" RX7, .fieldLinkNest RX7 239 "MarbleBench$Speakers" "number" "I" RX7, .fieldLinkNest RX0 47 "MarbleBench$Print" "colours" "[I" RX7, .methodLinkNest RX0 35 yX7_cellOf RX7, .methodLinkNest RX0 46 yX2_init RX7, .methodLinkNest RX1 11 yX3_init RX7, .methodLinkNest RX1 20 yX6_init RX7, .methodLinkNest RX5 15 yX7_cellOf RX7, .methodLinkNest RX5 27 yX7_isWithin RX7, .methodLinkNest RX6 25 yX7_isWithin RX7]
def mb_isN : Cond → Bool
  | .fieldLinkNest _ _ _ _ _ _ => true
  | .methodLinkNest _ _ _ _ => true
  | _ => false
theorem mb_nw_ok : mb_nw.all mb_isN = true := by decide +kernel
theorem mb_nw1 {w : Cond} (h : mb_isN w = true) {s U : State} (hW : s.WarmedH U.vm) (hZ : va_Nw w s) : va_Nw w U := by
  cases w <;> first | exact absurd h Bool.false_ne_true | exact va_Nw.warmF hW hZ | exact va_Nw.warmM hW hZ
theorem mb_nw2 {w : Cond} (h : mb_isN w = true) : w.onTables = true := by
  cases w <;> first | exact absurd h Bool.false_ne_true | rfl
/-- the written texts of the exceptions, by their places in the class file of the bench -/
def mb_tx : List (Nat × String) := [(259, "there is no such place"), (266, "an argument is out of its range"), (271, "this cannot be done now"), (274, "there is no such print"), (276, "there is no such book"), (278, "there is no such skin")]
def mb_E (U : State) : Prop := (∀ w ∈ mb_nw, va_Nw w U) ∧ ∀ q ∈ mb_tx, ∃ a, vk_R RX7 q.1 q.2 a U
theorem mb_E.warm {s U : State} (hW : s.WarmedH U.vm) (h : mb_E s) : mb_E U :=
  ⟨fun w hw => mb_nw1 (List.all_eq_true.mp mb_nw_ok w hw) hW (h.1 w hw), fun q hq => by obtain ⟨a, ha⟩ := h.2 q hq; exact ⟨a, vk_R.warm hW ha⟩⟩
theorem mb_E.same {u U : State} (hv : U.vm = u.vm) (h : mb_E u) : mb_E U :=
  ⟨fun w hw => va_Nw.same (mb_nw2 (List.all_eq_true.mp mb_nw_ok w hw)) hv.symm (h.1 w hw), fun q hq => by obtain ⟨a, ha⟩ := h.2 q hq; exact ⟨a, vk_R.same hv ha⟩⟩
/-- a state: rows of numbers, a field or an array each -/
abbrev mb_m : Type := Nat → Nat → Int32
def mb_u (M : mb_m) (k : Nat) (f : Nat → Int32) : mb_m := fun j => if j = k then f else M j
def mb_c (x : Int32) : Nat → Int32 := fun _ => x
abbrev mb_ty (Y : Nat → ClassId) : List (ClassId × FieldType) := [(Y 0, .int), (Y 1, .boolean), (Y 2, .long), (Y 3, .object "MarbleBench$Print"), (Y 4, .object "MarbleBench$Book"), (Y 5, .object "MarbleBench$Skin")]
def mb_G (D : va_G) (Y : Nat → ClassId) (U : State) : Prop := va_K D vwCl (mb_ty Y) U ∧ mb_E U
theorem mb_G.warm {D : va_G} {Y : Nat → ClassId} {s U : State} (hW : s.WarmedH U.vm) (h : mb_G D Y s) : mb_G D Y U := ⟨va_K.moved hW.alike h.1, h.2.warm hW⟩
theorem mb_G.same {D : va_G} {Y : Nat → ClassId} {u U : State} (hv : U.vm = u.vm) (h : mb_G D Y u) : mb_G D Y U := ⟨va_K.moved (by rw [hv]; exact Vm.Alike.refl u.vm) h.1, h.2.same hv⟩
/-- where a method begins: the world w -/
def mb_B (D : va_G) (Y : Nat → ClassId) (w : va_W) (sz : Nat) (U : State) : Prop := U.heap.size = sz ∧ va_P D vwCl w U.heap ∧ mb_G D Y U ∧ va_D (fun _ => True) w
/-- what is there behind it -/
def mb_T (D : va_G) (A : Nat → Prop) (w : va_W) (t : State) : Prop := va_P D vwCl w t.heap ∧ va_D A w
theorem mb_blind {av : List Value} {D : va_G} {Y : Nat → ClassId} {w : va_W} {sz : Nat} : FrameBlind (va_Pc av (mb_B D Y w sz)) := fun a U g mk q => by
  obtain ⟨q0, q1, q2, q3, q4⟩ := q
  exact ⟨q0, q1, q2, q3.same (u := U) (U := U.calling g mk a) rfl, q4⟩
/-- what stays true in a method -/
def mb_Cx (p : Program) (s : State) (m : MethodId) (meth : Method) (c : Code) (args : Array Value) (cc : ByteArray) (nL : Nat) (ret : Option FieldType) (Ts : List Cond) (own : String) (D : va_G) (Y : Nat → ClassId) (A : Nat → Prop) : Prop :=
  p.tables.exec = Jvm.exec ∧ c.code = cc ∧ meth.sig.returnType = ret ∧ c.maxLocals = nL ∧ (∀ w ∈ Ts, w.before args s = true) ∧ s.vm.findClass own = some m.cls ∧ meth.locks = false ∧ (∀ q : Nat, s.heap.size ≤ q → A q) ∧ mb_G D Y s
theorem mb_begin {l : Launch} {y : MethodName} {ws ws' : List Cond} {rm : Room} {cc : ByteArray} {maxL : Nat} {ret : Option FieldType} {av : List Value} {D : va_G} {Y : Nat → ClassId} {w : va_W} {sz : Nat} {Qc : Array Value → State → Outcome → State → Prop} {mc ms : Nat} (hy : plainName y.cls = true) (hw : ws = Cond.code y cc maxL ret :: ws') (hlen : (lg_sl av).length ≤ maxL)
    (body : ∀ (p : Program) (e : Env) (s : State) (m : MethodId) (below : List Frame) (meth : Method) (c : Code) (ls : Array Slot), mb_Cx p s m meth c av.toArray cc maxL ret ws y.cls D Y (va_A w sz) → s.heap.size = sz → meth.name = y.name → va_P D vwCl w s.heap → va_D (va_A w sz) w → lv_has ls maxL (lv_args 0 av) → W p l e rm s m av.toArray below meth c s.heap [] 0 0 (MQ below Qc av.toArray s mc ms (va_A w sz)) (F0 m 0 ls [])) :
    Met l y ws rm (va_Pc av (mb_B D Y w sz)) Qc mc ms (va_A w sz) := by
  refine Met.ofW (cc := cc) (maxL := maxL) (ret := ret) hy hw ?_
  intro p e s m args below meth c s₁ B hml hv
  obtain ⟨rfl, hsz, hP, hG, hD0⟩ := hv
  have hts := atoms_spec (ws := ws) B.pre
  have hown : s.vm.findClass y.cls = some m.cls := findClass_of_methodNamed B.named
  have hnm : meth.name = y.name := (name_of_methodNamed B.named B.method).1
  have hl := lv_entry av (n := maxL) hlen
  rw [lg_entry_eq]
  generalize (lg_sl av ++ List.replicate (maxL - (lg_sl av).length) Slot.unset).toArray = ls at hl ⊢
  exact body p e s m below meth c ls ⟨B.exec, B.bytes, B.returns, hml, hts, hown, B.notSynchronized, fun q h => Or.inr (by omega), hG⟩ hsz hnm hP (hD0.self (sz := sz)) hl
theorem mb_ofWF {l : Launch} {y : MethodName} {ws ws' : List Cond} {rm : Room} {Pc : Array Value → State → Prop} {Qc : Array Value → State → Outcome → State → Prop} {mc ms : Nat} {free : Addr → Prop} {cc : ByteArray} {maxL : Nat} {ret : Option FieldType}
    (hy : plainFor y = true) (hw : ws = Cond.code y cc maxL ret :: ws')
    (body : ∀ p e s m args below meth c s₁, BodyLoose p l y (headSpec ws rm) cc maxL ret e s m args below meth c s₁ → c.maxLocals = maxL → Pc args s →
      W p l e (headSpec ws rm).room s m args below meth c s.heap [] 0 0 (MQ below Qc args s mc ms free) (entryFrame m args maxL)) : Met l y ws rm Pc Qc mc ms free := by
  refine MetFree.of_bodySF (code := cc) (maxLocals := maxL) (ret := ret) hy ?_ ?_
  · intro args s m h hn
    obtain ⟨meth, c, h1, h2, h3, h4, h5, h6, -, -⟩ := Cond.code_spec hn (atoms_spec (ws := ws) h _ (by rw [hw]; exact List.mem_cons_self))
    exact ⟨meth, c, h1, h2, h3, h4, h5, h6⟩
  · intro p e s m args below meth c s₁ B hml hP _
    have hh0 : s₁.heap = s.heap := by rw [B.state]; rfl
    obtain ⟨t, a1, o, b1, b2, b3⟩ := body p e s m args below meth c s₁ B hml hP s₁ hh0 (Stand.of_body B)
    exact ⟨t, o, a1, b1, b2, ⟨b3.1, b3.2⟩⟩
theorem mb_beginF {l : Launch} {y : MethodName} {ws ws' : List Cond} {rm : Room} {cc : ByteArray} {maxL : Nat} {ret : Option FieldType} {av : List Value} {D : va_G} {Y : Nat → ClassId} {w : va_W} {sz : Nat} {Qc : Array Value → State → Outcome → State → Prop} {mc ms : Nat} (hy : plainFor y = true) (hw : ws = Cond.code y cc maxL ret :: ws') (hlen : (lg_sl av).length ≤ maxL)
    (body : ∀ (p : Program) (e : Env) (s : State) (m : MethodId) (below : List Frame) (meth : Method) (c : Code) (ls : Array Slot), mb_Cx p s m meth c av.toArray cc maxL ret ws y.cls D Y (va_A w sz) → s.heap.size = sz → meth.name = y.name → va_P D vwCl w s.heap → va_D (va_A w sz) w → lv_has ls maxL (lv_args 0 av) → W p l e rm s m av.toArray below meth c s.heap [] 0 0 (MQ below Qc av.toArray s mc ms (va_A w sz)) (F0 m 0 ls [])) :
    Met l y ws rm (va_Pc av (mb_B D Y w sz)) Qc mc ms (va_A w sz) := by
  refine mb_ofWF (cc := cc) (maxL := maxL) (ret := ret) hy hw ?_
  intro p e s m args below meth c s₁ B hml hv
  obtain ⟨rfl, hsz, hP, hG, hD0⟩ := hv
  have hts := atoms_spec (ws := ws) B.pre
  have hown : s.vm.findClass y.cls = some m.cls := findClass_of_methodNamed B.named
  have hnm : meth.name = y.name := (name_of_methodNamed B.named B.method).1
  have hl := lv_entry av (n := maxL) hlen
  rw [lg_entry_eq]
  generalize (lg_sl av ++ List.replicate (maxL - (lg_sl av).length) Slot.unset).toArray = ls at hl ⊢
  exact body p e s m below meth c ls ⟨B.exec, B.bytes, B.returns, hml, hts, hown, B.notSynchronized, fun q h => Or.inr (by omega), hG⟩ hsz hnm hP (hD0.self (sz := sz)) hl
section MB
variable {p : Program} {l : Launch} {e : Env} {R : Room} {s : State} {m : MethodId} {args : Array Value} {below : List Frame} {meth : Method} {c : Code} {H : Heap} {locs : List Loc} {cells slots : Nat} {Q : State → Prop} {cc : ByteArray} {nL : Nat} {ret : Option FieldType} {Ts : List Cond} {own : String} {D : va_G} {Y : Nat → ClassId} {A : Nat → Prop} {pc : Nat} {ls : Array Slot} {rest st0 : List Value} {mc ms : Nat} {ws wc wr : va_W} {a : Array Value}
/-- the ends -/
theorem mb_ri {S : Type} {K : Int32 → S → Prop} {wf : S → va_W} {ty : FieldType} (C : mb_Cx p s m meth c args cc nL (some ty) Ts own D Y A) {r : Int32} {u : S} (hn : narrow ty (.int r) = .int r) (hF : K r u) (hP : va_P D vwCl (wf u) H) (hD : va_D A (wf u)) (hS : va_S A s.heap H locs) (hd : decode cc pc = .ok (.ireturn, 1)) (hc : cells ≤ mc) (hs : slots ≤ ms) :
    W p l e R s m args below meth c H locs cells slots (MQ below (va_Qi K (fun u t => mb_T D A (wf u) t) A) args s mc ms A) (F0 m pc ls [.int r]) := by
  obtain ⟨hx, hb, hr, hml, hts, hown, hlocks, hA, hG⟩ := C
  refine W.widen hc hs ?_
  exact W.zret hx hb hr hn (fun t ht hW => ⟨⟨r, u, rfl, hF, by rw [ht]; exact hP, hD⟩, hS.F ht⟩) hS.2.2 hd
theorem mb_rv {S : Type} {K : S → Prop} {wf : S → va_W} (C : mb_Cx p s m meth c args cc nL none Ts own D Y A) {u : S} (hF : K u) (hP : va_P D vwCl (wf u) H) (hD : va_D A (wf u)) (hS : va_S A s.heap H locs) (hd : decode cc pc = .ok (.return_, 1)) (hc : cells ≤ mc) (hs : slots ≤ ms) :
    W p l e R s m args below meth c H locs cells slots (MQ below (va_Qv K (fun u t => mb_T D A (wf u) t) A) args s mc ms A) (F0 m pc ls []) := by
  obtain ⟨hx, hb, hr, hml, hts, hown, hlocks, hA, hG⟩ := C
  refine W.widen hc hs ?_
  exact W.vret hx hb hr (fun t ht hW => ⟨⟨u, rfl, hF, by rw [ht]; exact hP, hD⟩, hS.F ht⟩) hS.2.2 hd
/-- a callee's start -/
theorem mb_preS {As : List Value} (hG : mb_G D Y s) (hP : va_P D vwCl wc H) (hD : va_D A wc) : PreS s H (va_Pc As (mb_B D Y wc H.size)) As :=
  ⟨mb_blind, fun U hU hW => ⟨rfl, by rw [hU], by rw [hU]; exact hP, hG.warm hW, hD.weaken (fun _ _ _ _ => trivial)⟩⟩
theorem mb_preV {As : List Value} {b : Nat} (hG : mb_G D Y s) (hP : va_P D vwCl wc H) (hD : va_D A wc) (q0 : Nat) {ci : Nat} {q : vw_C} {fs : List Value} (he : wc[q0]? = some (b, .inr (ci, fs))) (hc : vwCl[ci]? = some q) : PreV s H q.1 b (va_Pc (.ref b :: As) (mb_B D Y wc H.size)) As :=
  ⟨mb_blind, va_recv hG.1 hP hc he, fun U hU hW => ⟨rfl, by rw [hU], by rw [hU]; exact hP, hG.warm hW, hD.weaken (fun _ _ _ _ => trivial)⟩⟩
theorem mb_P0 : va_P D vwCl [] H := fun k q h => by simp at h
theorem mb_D0 : va_D A [] := ⟨fun i j p q h => by simp at h, fun k q h => by simp at h⟩
/-- behind a call of a method without a world -/
theorem mb_keepE {H1 : Heap} (hP : va_P D vwCl ws H) (hk : ∀ q : Nat, q < H.size → ¬ va_A [] H.size q → H1[q]? = H[q]?) : va_P D vwCl ws H1 :=
  hP.kept fun k q hq => hk q.1 (hP k q hq).lt (fun h => by
    rcases h with ⟨k2, e2, h2⟩ | h2
    · simp at h2
    · exact absurd (hP k q hq).lt (by omega))
theorem mb_freeE (hS : va_S A s.heap H locs) (hA : ∀ q : Nat, s.heap.size ≤ q → A q) : ∀ q, va_A [] H.size q → A q := fun q h => by
  rcases h with ⟨k2, e2, h2⟩ | h2
  · simp at h2
  · exact hA q (Nat.le_trans hS.1 h2)
theorem mb_cE {K : Int32 → Unit → Prop} (hP : va_P D vwCl ws H) (hS : va_S A s.heap H locs) (hA : ∀ q : Nat, s.heap.size ≤ q → A q) (hr : va_Run p l e R s m args below meth c H locs cells slots mc ms (F0 m pc ls st0) rest (va_Qi K (fun _ t => mb_T D (va_A [] H.size) [] t) (va_A [] H.size) a) (va_A [] H.size))
    (kk : ∀ (r : Int32) (H1 : Heap) (locs1 : List Loc), K r () → va_P D vwCl ws H1 → va_S A s.heap H1 locs1 → W p l e R s m args below meth c H1 locs1 (cells + mc) (slots + ms) Q (F0 m (pc + 3) ls (.int r :: rest))) : W p l e R s m args below meth c H locs cells slots Q (F0 m pc ls st0) :=
  va_calli hr hS (fun q _ h => mb_freeE hS hA q h) (mb_freeE hS hA) (fun r _ t H1 locs1 ht hvm hw hB hz hk hS1 => kk r H1 locs1 hw (mb_keepE hP hk) hS1)
/-- .. that had the caller's whole world -/
theorem mb_freeW (hD : va_D A ws) (hS : va_S A s.heap H locs) (hA : ∀ q : Nat, s.heap.size ≤ q → A q) : ∀ q, va_A ws H.size q → A q := fun q h => by
  rcases h with ⟨k2, e2, h2⟩ | h2
  · exact hD.2 k2 _ h2
  · exact hA q (Nat.le_trans hS.1 h2)
theorem mb_cW {S : Type} {K : Int32 → S → Prop} {wf : S → va_W} (hD : va_D A ws) (hS : va_S A s.heap H locs) (hA : ∀ q : Nat, s.heap.size ≤ q → A q) (hr : va_Run p l e R s m args below meth c H locs cells slots mc ms (F0 m pc ls st0) rest (va_Qi K (fun u t => mb_T D (va_A ws H.size) (wf u) t) (va_A ws H.size) a) (va_A ws H.size))
    (kk : ∀ (r : Int32) (u : S) (H1 : Heap) (locs1 : List Loc), K r u → va_P D vwCl (wf u) H1 → va_D A (wf u) → va_S A s.heap H1 locs1 → W p l e R s m args below meth c H1 locs1 (cells + mc) (slots + ms) Q (F0 m (pc + 3) ls (.int r :: rest))) : W p l e R s m args below meth c H locs cells slots Q (F0 m pc ls st0) :=
  va_calli hr hS (fun q _ h => mb_freeW hD hS hA q h) (mb_freeW hD hS hA) (fun r u t H1 locs1 ht hvm hw hB hz hk hS1 => kk r u H1 locs1 hw (by rw [← ht]; exact hB.1) (hB.2.weaken fun k q _ h => mb_freeW hD hS hA q.1 h) hS1)
theorem mb_cWv {S : Type} {K : S → Prop} {wf : S → va_W} (hD : va_D A ws) (hS : va_S A s.heap H locs) (hA : ∀ q : Nat, s.heap.size ≤ q → A q) (hr : va_Run p l e R s m args below meth c H locs cells slots mc ms (F0 m pc ls st0) rest (va_Qv K (fun u t => mb_T D (va_A ws H.size) (wf u) t) (va_A ws H.size) a) (va_A ws H.size))
    (kk : ∀ (u : S) (H1 : Heap) (locs1 : List Loc), K u → va_P D vwCl (wf u) H1 → va_D A (wf u) → va_S A s.heap H1 locs1 → W p l e R s m args below meth c H1 locs1 (cells + mc) (slots + ms) Q (F0 m (pc + 3) ls rest)) : W p l e R s m args below meth c H locs cells slots Q (F0 m pc ls st0) :=
  va_callv hr hS (fun q _ h => mb_freeW hD hS hA q h) (mb_freeW hD hS hA) (fun u t H1 locs1 ht hvm hw hB hz hk hS1 => kk u H1 locs1 hw (by rw [← ht]; exact hB.1) (hB.2.weaken fun k q _ h => mb_freeW hD hS hA q.1 h) hS1)
/-- .. that had a part of it -/
theorem mb_cP {S : Type} {K : Int32 → S → Prop} {wf : S → va_W} (hP : va_P D vwCl ws H) (hD : va_D A ws) (hS : va_S A s.heap H locs) (hA : ∀ q : Nat, s.heap.size ≤ q → A q) (isC isR : List Nat) (hC : isC.map (fun i => ws[i]?) = wc.map some) (hR : isR.map (fun i => ws[i]?) = wr.map some) (hn : va_nd isR = true) (hdis : ∀ i ∈ isR, i ∉ isC)
    (hr : va_Run p l e R s m args below meth c H locs cells slots mc ms (F0 m pc ls st0) rest (va_Qi K (fun u t => mb_T D (va_A wc H.size) (wf u) t) (va_A wc H.size) a) (va_A wc H.size))
    (kk : ∀ (r : Int32) (u : S) (H1 : Heap) (locs1 : List Loc), K r u → va_P D vwCl (wr ++ wf u) H1 → va_D A (wr ++ wf u) → va_S A s.heap H1 locs1 → W p l e R s m args below meth c H1 locs1 (cells + mc) (slots + ms) Q (F0 m (pc + 3) ls (.int r :: rest))) : W p l e R s m args below meth c H locs cells slots Q (F0 m pc ls st0) := by
  have hFc := va_free (wc := wc) hD hS hA isC hC
  refine va_calli hr hS (fun q _ h => hFc q h) hFc (fun r u t H1 locs1 ht hvm hw hB hz hk hS1 => ?_)
  obtain ⟨hP1, hD1⟩ := hB
  rw [ht] at hP1
  obtain ⟨hP2, hD2⟩ := va_join hP hD isC isR hC hR hn hdis hk hFc hP1 hD1
  exact kk r u H1 locs1 hw hP2 hD2 hS1
theorem mb_cPv {S : Type} {K : S → Prop} {wf : S → va_W} (hP : va_P D vwCl ws H) (hD : va_D A ws) (hS : va_S A s.heap H locs) (hA : ∀ q : Nat, s.heap.size ≤ q → A q) (isC isR : List Nat) (hC : isC.map (fun i => ws[i]?) = wc.map some) (hR : isR.map (fun i => ws[i]?) = wr.map some) (hn : va_nd isR = true) (hdis : ∀ i ∈ isR, i ∉ isC)
    (hr : va_Run p l e R s m args below meth c H locs cells slots mc ms (F0 m pc ls st0) rest (va_Qv K (fun u t => mb_T D (va_A wc H.size) (wf u) t) (va_A wc H.size) a) (va_A wc H.size))
    (kk : ∀ (u : S) (H1 : Heap) (locs1 : List Loc), K u → va_P D vwCl (wr ++ wf u) H1 → va_D A (wr ++ wf u) → va_S A s.heap H1 locs1 → W p l e R s m args below meth c H1 locs1 (cells + mc) (slots + ms) Q (F0 m (pc + 3) ls rest)) : W p l e R s m args below meth c H locs cells slots Q (F0 m pc ls st0) := by
  have hFc := va_free (wc := wc) hD hS hA isC hC
  refine va_callv hr hS (fun q _ h => hFc q h) hFc (fun u t H1 locs1 ht hvm hw hB hz hk hS1 => ?_)
  obtain ⟨hP1, hD1⟩ := hB
  rw [ht] at hP1
  obtain ⟨hP2, hD2⟩ := va_join hP hD isC isR hC hR hn hdis hk hFc hP1 hD1
  exact kk u H1 locs1 hw hP2 hD2 hS1
end MB

def gw0 (Y : Nat → ClassId) (o : Nat) (a : Nat → Nat) (M : mb_m) : va_W := [(o, .inr (0, [.ref (a 0), .ref (a 1), .ref (a 2), .ref (a 3), .ref (a 4)])), (a 0, .inl (Y 0, 64, .inl (M 0))), (a 1, .inl (Y 0, 64, .inl (M 1))), (a 2, .inl (Y 0, 99, .inl (M 2))), (a 3, .inl (Y 0, 8, .inl (M 3))), (a 4, .inl (Y 0, 8, .inl (M 4)))]
def gw1 (Y : Nat → ClassId) (o : Nat) (a : Nat → Nat) (M : mb_m) : va_W := [(o, .inr (1, [.ref (a 0), .ref (a 1), .ref (a 2), .int (M 3 0), .int (M 4 0), .int (M 5 0), .int (M 6 0)]))]
def gw2 (Y : Nat → ClassId) (o : Nat) (a : Nat → Nat) (M : mb_m) : va_W := [(o, .inr (2, [.ref (a 0)])), (a 0, .inl (Y 0, 64, .inl (M 0)))]
def gw3 (Y : Nat → ClassId) (o : Nat) (a : Nat → Nat) (M : mb_m) : va_W := [(o, .inr (3, [.ref (a 0), .int (M 1 0)])), (a 0, .inl (Y 0, 20, .inl (M 0)))]
def gw4 (Y : Nat → ClassId) (o : Nat) (a : Nat → Nat) (M : mb_m) : va_W := [(o, .inr (4, [.int (M 0 0), .int (M 1 0), .ref (a 2), .ref (a 3), .ref (a 4), .int (M 5 0), .int (M 6 0), .int (M 7 0), .int (M 8 0), .int (M 9 0)])), (a 2, .inl (Y 0, 40, .inl (M 2))), (a 3, .inl (Y 0, 8, .inl (M 3))), (a 4, .inl (Y 0, 200, .inl (M 4)))]
def gw5 (Y : Nat → ClassId) (o : Nat) (a : Nat → Nat) (M : mb_m) : va_W := [(o, .inr (5, [.ref (a 0)])), (a 0, .inl (Y 0, 64, .inl (M 0)))]
def gw6 (Y : Nat → ClassId) (o : Nat) (a : Nat → Nat) (M : mb_m) : va_W := [(o, .inr (6, [.ref (a 0), .ref (a 1), .ref (a 2), .int (M 3 0)])), (a 0, .inl (Y 0, 20, .inl (M 0))), (a 1, .inl (Y 0, 20, .inl (M 1))), (a 2, .inl (Y 0, 20, .inl (M 2)))]
def gw8 (Y : Nat → ClassId) (o : Nat) (a : Nat → Nat) (M : mb_m) : va_W := [(o, .inr (8, [.ref (a 0), .ref (a 1), .int (M 2 0), .ref (a 3), .int (M 4 0), .ref (a 5), .ref (a 6), .ref (a 7), .ref (a 8), .ref (a 9), .ref (a 10), .ref (a 11), .ref (a 12), .ref (a 13), .ref (a 14), .int (M 15 0), .int (M 16 0), .int (M 17 0), .int (M 18 0), .int (M 19 0), .ref (a 20), .ref (a 21), .ref (a 22), .ref (a 23), .ref (a 24), .ref (a 25), .ref (a 26), .int (M 27 0)])), (a 0, .inl (Y 0, 64, .inl (M 0))), (a 1, .inl (Y 0, 64, .inl (M 1))), (a 3, .inl (Y 0, 640, .inl (M 3))), (a 5, .inl (Y 0, 4, .inl (M 5))), (a 6, .inl (Y 0, 4, .inl (M 6))), (a 7, .inl (Y 0, 4, .inl (M 7))), (a 8, .inl (Y 0, 4, .inl (M 8))), (a 9, .inl (Y 1, 4, .inl (M 9))), (a 10, .inl (Y 0, 4, .inl (M 10))), (a 11, .inl (Y 0, 4, .inl (M 11))), (a 12, .inl (Y 0, 800, .inl (M 12))), (a 13, .inl (Y 0, 40, .inl (M 13))), (a 14, .inl (Y 1, 8, .inl (M 14))), (a 20, .inl (Y 0, 192, .inl (M 20))), (a 21, .inl (Y 0, 4, .inl (M 21))), (a 22, .inl (Y 0, 80, .inl (M 22))), (a 23, .inl (Y 0, 4, .inl (M 23))), (a 24, .inl (Y 0, 80, .inl (M 24))), (a 25, .inl (Y 0, 80, .inl (M 25))), (a 26, .inl (Y 0, 80, .inl (M 26)))]
end
section
theorem dX0_init_0 : decode cX0_init 0 = .ok (.aload_n 0, 1) := by decide +kernel
theorem dX0_init_1 : decode cX0_init 1 = .ok (.invokespecial 3, 3) := by decide +kernel
theorem dX0_init_4 : decode cX0_init 4 = .ok (.aload_n 0, 1) := by decide +kernel
theorem dX0_init_5 : decode cX0_init 5 = .ok (.bipush 64, 2) := by decide +kernel
theorem dX0_init_7 : decode cX0_init 7 = .ok (.newarray .int, 2) := by decide +kernel
theorem dX0_init_9 : decode cX0_init 9 = .ok (.putfield 9, 3) := by decide +kernel
theorem dX0_init_12 : decode cX0_init 12 = .ok (.aload_n 0, 1) := by decide +kernel
theorem dX0_init_13 : decode cX0_init 13 = .ok (.bipush 64, 2) := by decide +kernel
theorem dX0_init_15 : decode cX0_init 15 = .ok (.newarray .int, 2) := by decide +kernel
theorem dX0_init_17 : decode cX0_init 17 = .ok (.putfield 15, 3) := by decide +kernel
theorem dX0_init_20 : decode cX0_init 20 = .ok (.aload_n 0, 1) := by decide +kernel
theorem dX0_init_21 : decode cX0_init 21 = .ok (.bipush 99, 2) := by decide +kernel
theorem dX0_init_23 : decode cX0_init 23 = .ok (.newarray .int, 2) := by decide +kernel
theorem dX0_init_25 : decode cX0_init 25 = .ok (.putfield 18, 3) := by decide +kernel
theorem dX0_init_28 : decode cX0_init 28 = .ok (.aload_n 0, 1) := by decide +kernel
theorem dX0_init_29 : decode cX0_init 29 = .ok (.bipush 8, 2) := by decide +kernel
theorem dX0_init_31 : decode cX0_init 31 = .ok (.newarray .int, 2) := by decide +kernel
theorem dX0_init_33 : decode cX0_init 33 = .ok (.putfield 21, 3) := by decide +kernel
theorem dX0_init_36 : decode cX0_init 36 = .ok (.aload_n 0, 1) := by decide +kernel
theorem dX0_init_37 : decode cX0_init 37 = .ok (.bipush 8, 2) := by decide +kernel
theorem dX0_init_39 : decode cX0_init 39 = .ok (.newarray .int, 2) := by decide +kernel
theorem dX0_init_41 : decode cX0_init 41 = .ok (.putfield 24, 3) := by decide +kernel
theorem dX0_init_44 : decode cX0_init 44 = .ok (.iconst 0, 1) := by decide +kernel
theorem dX0_init_45 : decode cX0_init 45 = .ok (.istore_n 1, 1) := by decide +kernel
theorem dX0_init_46 : decode cX0_init 46 = .ok (.iload_n 1, 1) := by decide +kernel
theorem dX0_init_47 : decode cX0_init 47 = .ok (.bipush 64, 2) := by decide +kernel
theorem dX0_init_49 : decode cX0_init 49 = .ok (.if_icmp .ge 16, 3) := by decide +kernel
theorem dX0_init_52 : decode cX0_init 52 = .ok (.aload_n 0, 1) := by decide +kernel
theorem dX0_init_53 : decode cX0_init 53 = .ok (.getfield 9, 3) := by decide +kernel
theorem dX0_init_56 : decode cX0_init 56 = .ok (.iload_n 1, 1) := by decide +kernel
theorem dX0_init_57 : decode cX0_init 57 = .ok (.iconst (-1), 1) := by decide +kernel
theorem dX0_init_58 : decode cX0_init 58 = .ok (.iastore, 1) := by decide +kernel
theorem dX0_init_59 : decode cX0_init 59 = .ok (.iinc 1 1, 3) := by decide +kernel
theorem dX0_init_62 : decode cX0_init 62 = .ok (.goto (-16), 3) := by decide +kernel
theorem dX0_init_65 : decode cX0_init 65 = .ok (.return_, 1) := by decide +kernel
set_option maxRecDepth 20000 in
theorem ggX0_spread_X0_countCellsAway : GoodIn wsX0_spread wsX0_countCellsAway := goodIn_r _ [8, 1, 9, 10, 7, 11, 12, 13, 14, 15, 16] (by decide +kernel) (by decide +kernel)
set_option maxRecDepth 20000 in
theorem gX0_spread_X0_countCellsAway : GoodIn wsX0_spread (wsV RX0 27 RX0 yX0_countCellsAway wsX0_countCellsAway) := goodIn_app (goodIn_of _ (by decide +kernel)) ggX0_spread_X0_countCellsAway
set_option maxRecDepth 20000 in
theorem ggX0_spread_X0_distance : GoodIn wsX0_spread wsX0_distance := goodIn_r _ [11] (by decide +kernel) (by decide +kernel)
set_option maxRecDepth 20000 in
theorem gX0_spread_X0_distance : GoodIn wsX0_spread (va_wsS RX0 31 yX0_distance wsX0_distance) := goodIn_app (goodIn_of _ (by decide +kernel)) ggX0_spread_X0_distance
theorem dX0_spread_0 : decode cX0_spread 0 = .ok (.aload_n 0, 1) := by decide +kernel
theorem dX0_spread_1 : decode cX0_spread 1 = .ok (.iload_n 1, 1) := by decide +kernel
theorem dX0_spread_2 : decode cX0_spread 2 = .ok (.iload_n 2, 1) := by decide +kernel
theorem dX0_spread_3 : decode cX0_spread 3 = .ok (.invokevirtual 27, 3) := by decide +kernel
theorem dX0_spread_6 : decode cX0_spread 6 = .ok (.iconst 0, 1) := by decide +kernel
theorem dX0_spread_7 : decode cX0_spread 7 = .ok (.istore 5, 2) := by decide +kernel
theorem dX0_spread_9 : decode cX0_spread 9 = .ok (.iload 4, 2) := by decide +kernel
theorem dX0_spread_11 : decode cX0_spread 11 = .ok (.istore 6, 2) := by decide +kernel
theorem dX0_spread_13 : decode cX0_spread 13 = .ok (.iload 5, 2) := by decide +kernel
theorem dX0_spread_15 : decode cX0_spread 15 = .ok (.bipush 98, 2) := by decide +kernel
theorem dX0_spread_17 : decode cX0_spread 17 = .ok (.if_icmp .ge 33, 3) := by decide +kernel
theorem dX0_spread_20 : decode cX0_spread 20 = .ok (.iload 6, 2) := by decide +kernel
theorem dX0_spread_22 : decode cX0_spread 22 = .ok (.aload_n 0, 1) := by decide +kernel
theorem dX0_spread_23 : decode cX0_spread 23 = .ok (.getfield 18, 3) := by decide +kernel
theorem dX0_spread_26 : decode cX0_spread 26 = .ok (.iload 5, 2) := by decide +kernel
theorem dX0_spread_28 : decode cX0_spread 28 = .ok (.iaload, 1) := by decide +kernel
theorem dX0_spread_29 : decode cX0_spread 29 = .ok (.if_icmp .le 21, 3) := by decide +kernel
theorem dX0_spread_32 : decode cX0_spread 32 = .ok (.iload 6, 2) := by decide +kernel
theorem dX0_spread_34 : decode cX0_spread 34 = .ok (.aload_n 0, 1) := by decide +kernel
theorem dX0_spread_35 : decode cX0_spread 35 = .ok (.getfield 18, 3) := by decide +kernel
theorem dX0_spread_38 : decode cX0_spread 38 = .ok (.iload 5, 2) := by decide +kernel
theorem dX0_spread_40 : decode cX0_spread 40 = .ok (.iaload, 1) := by decide +kernel
theorem dX0_spread_41 : decode cX0_spread 41 = .ok (.isub, 1) := by decide +kernel
theorem dX0_spread_42 : decode cX0_spread 42 = .ok (.istore 6, 2) := by decide +kernel
theorem dX0_spread_44 : decode cX0_spread 44 = .ok (.iinc 5 1, 3) := by decide +kernel
theorem dX0_spread_47 : decode cX0_spread 47 = .ok (.goto (-34), 3) := by decide +kernel
theorem dX0_spread_50 : decode cX0_spread 50 = .ok (.iconst 0, 1) := by decide +kernel
theorem dX0_spread_51 : decode cX0_spread 51 = .ok (.istore 7, 2) := by decide +kernel
theorem dX0_spread_53 : decode cX0_spread 53 = .ok (.iconst 0, 1) := by decide +kernel
theorem dX0_spread_54 : decode cX0_spread 54 = .ok (.istore 8, 2) := by decide +kernel
theorem dX0_spread_56 : decode cX0_spread 56 = .ok (.iload 8, 2) := by decide +kernel
theorem dX0_spread_58 : decode cX0_spread 58 = .ok (.bipush 64, 2) := by decide +kernel
theorem dX0_spread_60 : decode cX0_spread 60 = .ok (.if_icmp .ge 89, 3) := by decide +kernel
theorem dX0_spread_63 : decode cX0_spread 63 = .ok (.iload 8, 2) := by decide +kernel
theorem dX0_spread_65 : decode cX0_spread 65 = .ok (.iload_n 1, 1) := by decide +kernel
theorem dX0_spread_66 : decode cX0_spread 66 = .ok (.iload_n 2, 1) := by decide +kernel
theorem dX0_spread_67 : decode cX0_spread 67 = .ok (.invokestatic 31, 3) := by decide +kernel
theorem dX0_spread_70 : decode cX0_spread 70 = .ok (.istore 9, 2) := by decide +kernel
theorem dX0_spread_72 : decode cX0_spread 72 = .ok (.iload 9, 2) := by decide +kernel
theorem dX0_spread_74 : decode cX0_spread 74 = .ok (.iload 5, 2) := by decide +kernel
theorem dX0_spread_76 : decode cX0_spread 76 = .ok (.if_icmp .lt 15, 3) := by decide +kernel
theorem dX0_spread_79 : decode cX0_spread 79 = .ok (.iload 9, 2) := by decide +kernel
theorem dX0_spread_81 : decode cX0_spread 81 = .ok (.iload 5, 2) := by decide +kernel
theorem dX0_spread_83 : decode cX0_spread 83 = .ok (.if_icmp .ne 12, 3) := by decide +kernel
theorem dX0_spread_86 : decode cX0_spread 86 = .ok (.iload 6, 2) := by decide +kernel
theorem dX0_spread_88 : decode cX0_spread 88 = .ok (.ifCond .le 7, 3) := by decide +kernel
theorem dX0_spread_91 : decode cX0_spread 91 = .ok (.iconst 1, 1) := by decide +kernel
theorem dX0_spread_92 : decode cX0_spread 92 = .ok (.goto 4, 3) := by decide +kernel
theorem dX0_spread_95 : decode cX0_spread 95 = .ok (.iconst 0, 1) := by decide +kernel
theorem dX0_spread_96 : decode cX0_spread 96 = .ok (.istore 10, 2) := by decide +kernel
theorem dX0_spread_98 : decode cX0_spread 98 = .ok (.iload 9, 2) := by decide +kernel
theorem dX0_spread_100 : decode cX0_spread 100 = .ok (.iload 5, 2) := by decide +kernel
theorem dX0_spread_102 : decode cX0_spread 102 = .ok (.if_icmp .ne 6, 3) := by decide +kernel
theorem dX0_spread_105 : decode cX0_spread 105 = .ok (.iinc 6 (-1), 3) := by decide +kernel
theorem dX0_spread_108 : decode cX0_spread 108 = .ok (.iload 10, 2) := by decide +kernel
theorem dX0_spread_110 : decode cX0_spread 110 = .ok (.ifCond .eq 33, 3) := by decide +kernel
theorem dX0_spread_113 : decode cX0_spread 113 = .ok (.aload_n 0, 1) := by decide +kernel
theorem dX0_spread_114 : decode cX0_spread 114 = .ok (.getfield 9, 3) := by decide +kernel
theorem dX0_spread_117 : decode cX0_spread 117 = .ok (.iload 8, 2) := by decide +kernel
theorem dX0_spread_119 : decode cX0_spread 119 = .ok (.iaload, 1) := by decide +kernel
theorem dX0_spread_120 : decode cX0_spread 120 = .ok (.iload_n 3, 1) := by decide +kernel
theorem dX0_spread_121 : decode cX0_spread 121 = .ok (.if_icmp .gt 22, 3) := by decide +kernel
theorem dX0_spread_124 : decode cX0_spread 124 = .ok (.aload_n 0, 1) := by decide +kernel
theorem dX0_spread_125 : decode cX0_spread 125 = .ok (.getfield 9, 3) := by decide +kernel
theorem dX0_spread_128 : decode cX0_spread 128 = .ok (.iload 8, 2) := by decide +kernel
theorem dX0_spread_130 : decode cX0_spread 130 = .ok (.iload_n 3, 1) := by decide +kernel
theorem dX0_spread_131 : decode cX0_spread 131 = .ok (.iastore, 1) := by decide +kernel
theorem dX0_spread_132 : decode cX0_spread 132 = .ok (.aload_n 0, 1) := by decide +kernel
theorem dX0_spread_133 : decode cX0_spread 133 = .ok (.getfield 15, 3) := by decide +kernel
theorem dX0_spread_136 : decode cX0_spread 136 = .ok (.iload 8, 2) := by decide +kernel
theorem dX0_spread_138 : decode cX0_spread 138 = .ok (.iconst 2, 1) := by decide +kernel
theorem dX0_spread_139 : decode cX0_spread 139 = .ok (.iastore, 1) := by decide +kernel
theorem dX0_spread_140 : decode cX0_spread 140 = .ok (.iinc 7 1, 3) := by decide +kernel
theorem dX0_spread_143 : decode cX0_spread 143 = .ok (.iinc 8 1, 3) := by decide +kernel
theorem dX0_spread_146 : decode cX0_spread 146 = .ok (.goto (-90), 3) := by decide +kernel
theorem dX0_spread_149 : decode cX0_spread 149 = .ok (.iload 7, 2) := by decide +kernel
theorem dX0_spread_151 : decode cX0_spread 151 = .ok (.ireturn, 1) := by decide +kernel
set_option maxRecDepth 20000 in
theorem ggX0_countCellsAway_X0_distance : GoodIn wsX0_countCellsAway wsX0_distance := goodIn_r _ [5] (by decide +kernel) (by decide +kernel)
set_option maxRecDepth 20000 in
theorem gX0_countCellsAway_X0_distance : GoodIn wsX0_countCellsAway (va_wsS RX0 31 yX0_distance wsX0_distance) := goodIn_app (goodIn_of _ (by decide +kernel)) ggX0_countCellsAway_X0_distance
theorem dX0_countCellsAway_0 : decode cX0_countCellsAway 0 = .ok (.iconst 0, 1) := by decide +kernel
theorem dX0_countCellsAway_1 : decode cX0_countCellsAway 1 = .ok (.istore_n 3, 1) := by decide +kernel
theorem dX0_countCellsAway_2 : decode cX0_countCellsAway 2 = .ok (.iload_n 3, 1) := by decide +kernel
theorem dX0_countCellsAway_3 : decode cX0_countCellsAway 3 = .ok (.bipush 98, 2) := by decide +kernel
theorem dX0_countCellsAway_5 : decode cX0_countCellsAway 5 = .ok (.if_icmp .gt 16, 3) := by decide +kernel
theorem dX0_countCellsAway_8 : decode cX0_countCellsAway 8 = .ok (.aload_n 0, 1) := by decide +kernel
theorem dX0_countCellsAway_9 : decode cX0_countCellsAway 9 = .ok (.getfield 18, 3) := by decide +kernel
theorem dX0_countCellsAway_12 : decode cX0_countCellsAway 12 = .ok (.iload_n 3, 1) := by decide +kernel
theorem dX0_countCellsAway_13 : decode cX0_countCellsAway 13 = .ok (.iconst 0, 1) := by decide +kernel
theorem dX0_countCellsAway_14 : decode cX0_countCellsAway 14 = .ok (.iastore, 1) := by decide +kernel
theorem dX0_countCellsAway_15 : decode cX0_countCellsAway 15 = .ok (.iinc 3 1, 3) := by decide +kernel
theorem dX0_countCellsAway_18 : decode cX0_countCellsAway 18 = .ok (.goto (-16), 3) := by decide +kernel
theorem dX0_countCellsAway_21 : decode cX0_countCellsAway 21 = .ok (.iconst 0, 1) := by decide +kernel
theorem dX0_countCellsAway_22 : decode cX0_countCellsAway 22 = .ok (.istore_n 3, 1) := by decide +kernel
theorem dX0_countCellsAway_23 : decode cX0_countCellsAway 23 = .ok (.iload_n 3, 1) := by decide +kernel
theorem dX0_countCellsAway_24 : decode cX0_countCellsAway 24 = .ok (.bipush 64, 2) := by decide +kernel
theorem dX0_countCellsAway_26 : decode cX0_countCellsAway 26 = .ok (.if_icmp .ge 24, 3) := by decide +kernel
theorem dX0_countCellsAway_29 : decode cX0_countCellsAway 29 = .ok (.aload_n 0, 1) := by decide +kernel
theorem dX0_countCellsAway_30 : decode cX0_countCellsAway 30 = .ok (.getfield 18, 3) := by decide +kernel
theorem dX0_countCellsAway_33 : decode cX0_countCellsAway 33 = .ok (.iload_n 3, 1) := by decide +kernel
theorem dX0_countCellsAway_34 : decode cX0_countCellsAway 34 = .ok (.iload_n 1, 1) := by decide +kernel
theorem dX0_countCellsAway_35 : decode cX0_countCellsAway 35 = .ok (.iload_n 2, 1) := by decide +kernel
theorem dX0_countCellsAway_36 : decode cX0_countCellsAway 36 = .ok (.invokestatic 31, 3) := by decide +kernel
theorem dX0_countCellsAway_39 : decode cX0_countCellsAway 39 = .ok (.dup2, 1) := by decide +kernel
theorem dX0_countCellsAway_40 : decode cX0_countCellsAway 40 = .ok (.iaload, 1) := by decide +kernel
theorem dX0_countCellsAway_41 : decode cX0_countCellsAway 41 = .ok (.iconst 1, 1) := by decide +kernel
theorem dX0_countCellsAway_42 : decode cX0_countCellsAway 42 = .ok (.iadd, 1) := by decide +kernel
theorem dX0_countCellsAway_43 : decode cX0_countCellsAway 43 = .ok (.iastore, 1) := by decide +kernel
theorem dX0_countCellsAway_44 : decode cX0_countCellsAway 44 = .ok (.iinc 3 1, 3) := by decide +kernel
theorem dX0_countCellsAway_47 : decode cX0_countCellsAway 47 = .ok (.goto (-24), 3) := by decide +kernel
theorem dX0_countCellsAway_50 : decode cX0_countCellsAway 50 = .ok (.return_, 1) := by decide +kernel
theorem dX0_distance_0 : decode cX0_distance 0 = .ok (.iload_n 0, 1) := by decide +kernel
theorem dX0_distance_1 : decode cX0_distance 1 = .ok (.bipush 8, 2) := by decide +kernel
theorem dX0_distance_3 : decode cX0_distance 3 = .ok (.irem, 1) := by decide +kernel
theorem dX0_distance_4 : decode cX0_distance 4 = .ok (.iload_n 1, 1) := by decide +kernel
theorem dX0_distance_5 : decode cX0_distance 5 = .ok (.isub, 1) := by decide +kernel
theorem dX0_distance_6 : decode cX0_distance 6 = .ok (.istore_n 3, 1) := by decide +kernel
theorem dX0_distance_7 : decode cX0_distance 7 = .ok (.iload_n 0, 1) := by decide +kernel
theorem dX0_distance_8 : decode cX0_distance 8 = .ok (.bipush 8, 2) := by decide +kernel
theorem dX0_distance_10 : decode cX0_distance 10 = .ok (.idiv, 1) := by decide +kernel
theorem dX0_distance_11 : decode cX0_distance 11 = .ok (.iload_n 2, 1) := by decide +kernel
theorem dX0_distance_12 : decode cX0_distance 12 = .ok (.isub, 1) := by decide +kernel
theorem dX0_distance_13 : decode cX0_distance 13 = .ok (.istore 4, 2) := by decide +kernel
theorem dX0_distance_15 : decode cX0_distance 15 = .ok (.iload_n 3, 1) := by decide +kernel
theorem dX0_distance_16 : decode cX0_distance 16 = .ok (.iload_n 3, 1) := by decide +kernel
theorem dX0_distance_17 : decode cX0_distance 17 = .ok (.imul, 1) := by decide +kernel
theorem dX0_distance_18 : decode cX0_distance 18 = .ok (.iload 4, 2) := by decide +kernel
theorem dX0_distance_20 : decode cX0_distance 20 = .ok (.iload 4, 2) := by decide +kernel
theorem dX0_distance_22 : decode cX0_distance 22 = .ok (.imul, 1) := by decide +kernel
theorem dX0_distance_23 : decode cX0_distance 23 = .ok (.iadd, 1) := by decide +kernel
theorem dX0_distance_24 : decode cX0_distance 24 = .ok (.ireturn, 1) := by decide +kernel
set_option maxRecDepth 20000 in
theorem ggX0_shift_X7_cellOf : GoodIn wsX0_shift wsX7_cellOf := goodIn_r _ [7] (by decide +kernel) (by decide +kernel)
set_option maxRecDepth 20000 in
theorem gX0_shift_X7_cellOf_n35 : GoodIn wsX0_shift (wsX7_cellOf) := ggX0_shift_X7_cellOf
set_option maxRecDepth 20000 in
theorem ggX0_shift_J9_floorMod_7cf53 : GoodIn wsX0_shift wsJ9_floorMod_7cf53 := goodIn_r _ [11] (by decide +kernel) (by decide +kernel)
set_option maxRecDepth 20000 in
theorem gX0_shift_J9_floorMod_7cf53 : GoodIn wsX0_shift (va_wsS RX0 39 yJ9_floorMod_7cf53 wsJ9_floorMod_7cf53) := goodIn_app (goodIn_of _ (by decide +kernel)) ggX0_shift_J9_floorMod_7cf53
theorem dX0_shift_0 : decode cX0_shift 0 = .ok (.iload_n 1, 1) := by decide +kernel
theorem dX0_shift_1 : decode cX0_shift 1 = .ok (.ifCond .eq 11, 3) := by decide +kernel
theorem dX0_shift_4 : decode cX0_shift 4 = .ok (.iconst 0, 1) := by decide +kernel
theorem dX0_shift_5 : decode cX0_shift 5 = .ok (.iload_n 2, 1) := by decide +kernel
theorem dX0_shift_6 : decode cX0_shift 6 = .ok (.invokestatic 35, 3) := by decide +kernel
theorem dX0_shift_9 : decode cX0_shift 9 = .ok (.goto 8, 3) := by decide +kernel
theorem dX0_shift_12 : decode cX0_shift 12 = .ok (.iload_n 2, 1) := by decide +kernel
theorem dX0_shift_13 : decode cX0_shift 13 = .ok (.iconst 0, 1) := by decide +kernel
theorem dX0_shift_14 : decode cX0_shift 14 = .ok (.invokestatic 35, 3) := by decide +kernel
theorem dX0_shift_17 : decode cX0_shift 17 = .ok (.istore 4, 2) := by decide +kernel
theorem dX0_shift_19 : decode cX0_shift 19 = .ok (.iload_n 1, 1) := by decide +kernel
theorem dX0_shift_20 : decode cX0_shift 20 = .ok (.ifCond .eq 7, 3) := by decide +kernel
theorem dX0_shift_23 : decode cX0_shift 23 = .ok (.iconst 1, 1) := by decide +kernel
theorem dX0_shift_24 : decode cX0_shift 24 = .ok (.goto 5, 3) := by decide +kernel
theorem dX0_shift_27 : decode cX0_shift 27 = .ok (.bipush 8, 2) := by decide +kernel
theorem dX0_shift_29 : decode cX0_shift 29 = .ok (.istore 5, 2) := by decide +kernel
theorem dX0_shift_31 : decode cX0_shift 31 = .ok (.iconst 0, 1) := by decide +kernel
theorem dX0_shift_32 : decode cX0_shift 32 = .ok (.istore 6, 2) := by decide +kernel
theorem dX0_shift_34 : decode cX0_shift 34 = .ok (.iload 6, 2) := by decide +kernel
theorem dX0_shift_36 : decode cX0_shift 36 = .ok (.bipush 8, 2) := by decide +kernel
theorem dX0_shift_38 : decode cX0_shift 38 = .ok (.if_icmp .ge 60, 3) := by decide +kernel
theorem dX0_shift_41 : decode cX0_shift 41 = .ok (.iload 6, 2) := by decide +kernel
theorem dX0_shift_43 : decode cX0_shift 43 = .ok (.iload_n 3, 1) := by decide +kernel
theorem dX0_shift_44 : decode cX0_shift 44 = .ok (.iadd, 1) := by decide +kernel
theorem dX0_shift_45 : decode cX0_shift 45 = .ok (.bipush 8, 2) := by decide +kernel
theorem dX0_shift_47 : decode cX0_shift 47 = .ok (.invokestatic 39, 3) := by decide +kernel
theorem dX0_shift_50 : decode cX0_shift 50 = .ok (.istore 7, 2) := by decide +kernel
theorem dX0_shift_52 : decode cX0_shift 52 = .ok (.aload_n 0, 1) := by decide +kernel
theorem dX0_shift_53 : decode cX0_shift 53 = .ok (.getfield 21, 3) := by decide +kernel
theorem dX0_shift_56 : decode cX0_shift 56 = .ok (.iload 7, 2) := by decide +kernel
theorem dX0_shift_58 : decode cX0_shift 58 = .ok (.aload_n 0, 1) := by decide +kernel
theorem dX0_shift_59 : decode cX0_shift 59 = .ok (.getfield 9, 3) := by decide +kernel
theorem dX0_shift_62 : decode cX0_shift 62 = .ok (.iload 4, 2) := by decide +kernel
theorem dX0_shift_64 : decode cX0_shift 64 = .ok (.iload 6, 2) := by decide +kernel
theorem dX0_shift_66 : decode cX0_shift 66 = .ok (.iload 5, 2) := by decide +kernel
theorem dX0_shift_68 : decode cX0_shift 68 = .ok (.imul, 1) := by decide +kernel
theorem dX0_shift_69 : decode cX0_shift 69 = .ok (.iadd, 1) := by decide +kernel
theorem dX0_shift_70 : decode cX0_shift 70 = .ok (.iaload, 1) := by decide +kernel
theorem dX0_shift_71 : decode cX0_shift 71 = .ok (.iastore, 1) := by decide +kernel
theorem dX0_shift_72 : decode cX0_shift 72 = .ok (.aload_n 0, 1) := by decide +kernel
theorem dX0_shift_73 : decode cX0_shift 73 = .ok (.getfield 24, 3) := by decide +kernel
theorem dX0_shift_76 : decode cX0_shift 76 = .ok (.iload 7, 2) := by decide +kernel
theorem dX0_shift_78 : decode cX0_shift 78 = .ok (.aload_n 0, 1) := by decide +kernel
theorem dX0_shift_79 : decode cX0_shift 79 = .ok (.getfield 15, 3) := by decide +kernel
theorem dX0_shift_82 : decode cX0_shift 82 = .ok (.iload 4, 2) := by decide +kernel
theorem dX0_shift_84 : decode cX0_shift 84 = .ok (.iload 6, 2) := by decide +kernel
theorem dX0_shift_86 : decode cX0_shift 86 = .ok (.iload 5, 2) := by decide +kernel
theorem dX0_shift_88 : decode cX0_shift 88 = .ok (.imul, 1) := by decide +kernel
theorem dX0_shift_89 : decode cX0_shift 89 = .ok (.iadd, 1) := by decide +kernel
theorem dX0_shift_90 : decode cX0_shift 90 = .ok (.iaload, 1) := by decide +kernel
theorem dX0_shift_91 : decode cX0_shift 91 = .ok (.iastore, 1) := by decide +kernel
theorem dX0_shift_92 : decode cX0_shift 92 = .ok (.iinc 6 1, 3) := by decide +kernel
theorem dX0_shift_95 : decode cX0_shift 95 = .ok (.goto (-61), 3) := by decide +kernel
theorem dX0_shift_98 : decode cX0_shift 98 = .ok (.iconst 0, 1) := by decide +kernel
theorem dX0_shift_99 : decode cX0_shift 99 = .ok (.istore 6, 2) := by decide +kernel
theorem dX0_shift_101 : decode cX0_shift 101 = .ok (.iconst 0, 1) := by decide +kernel
theorem dX0_shift_102 : decode cX0_shift 102 = .ok (.istore 7, 2) := by decide +kernel
theorem dX0_shift_104 : decode cX0_shift 104 = .ok (.iload 7, 2) := by decide +kernel
theorem dX0_shift_106 : decode cX0_shift 106 = .ok (.bipush 8, 2) := by decide +kernel
theorem dX0_shift_108 : decode cX0_shift 108 = .ok (.if_icmp .ge 70, 3) := by decide +kernel
theorem dX0_shift_111 : decode cX0_shift 111 = .ok (.aload_n 0, 1) := by decide +kernel
theorem dX0_shift_112 : decode cX0_shift 112 = .ok (.getfield 9, 3) := by decide +kernel
theorem dX0_shift_115 : decode cX0_shift 115 = .ok (.iload 4, 2) := by decide +kernel
theorem dX0_shift_117 : decode cX0_shift 117 = .ok (.iload 7, 2) := by decide +kernel
theorem dX0_shift_119 : decode cX0_shift 119 = .ok (.iload 5, 2) := by decide +kernel
theorem dX0_shift_121 : decode cX0_shift 121 = .ok (.imul, 1) := by decide +kernel
theorem dX0_shift_122 : decode cX0_shift 122 = .ok (.iadd, 1) := by decide +kernel
theorem dX0_shift_123 : decode cX0_shift 123 = .ok (.aload_n 0, 1) := by decide +kernel
theorem dX0_shift_124 : decode cX0_shift 124 = .ok (.getfield 21, 3) := by decide +kernel
theorem dX0_shift_127 : decode cX0_shift 127 = .ok (.iload 7, 2) := by decide +kernel
theorem dX0_shift_129 : decode cX0_shift 129 = .ok (.iaload, 1) := by decide +kernel
theorem dX0_shift_130 : decode cX0_shift 130 = .ok (.iastore, 1) := by decide +kernel
theorem dX0_shift_131 : decode cX0_shift 131 = .ok (.aload_n 0, 1) := by decide +kernel
theorem dX0_shift_132 : decode cX0_shift 132 = .ok (.getfield 15, 3) := by decide +kernel
theorem dX0_shift_135 : decode cX0_shift 135 = .ok (.iload 4, 2) := by decide +kernel
theorem dX0_shift_137 : decode cX0_shift 137 = .ok (.iload 7, 2) := by decide +kernel
theorem dX0_shift_139 : decode cX0_shift 139 = .ok (.iload 5, 2) := by decide +kernel
theorem dX0_shift_141 : decode cX0_shift 141 = .ok (.imul, 1) := by decide +kernel
theorem dX0_shift_142 : decode cX0_shift 142 = .ok (.iadd, 1) := by decide +kernel
theorem dX0_shift_143 : decode cX0_shift 143 = .ok (.aload_n 0, 1) := by decide +kernel
theorem dX0_shift_144 : decode cX0_shift 144 = .ok (.getfield 24, 3) := by decide +kernel
theorem dX0_shift_147 : decode cX0_shift 147 = .ok (.iload 7, 2) := by decide +kernel
theorem dX0_shift_149 : decode cX0_shift 149 = .ok (.iaload, 1) := by decide +kernel
theorem dX0_shift_150 : decode cX0_shift 150 = .ok (.iastore, 1) := by decide +kernel
theorem dX0_shift_151 : decode cX0_shift 151 = .ok (.iload 6, 2) := by decide +kernel
theorem dX0_shift_153 : decode cX0_shift 153 = .ok (.aload_n 0, 1) := by decide +kernel
theorem dX0_shift_154 : decode cX0_shift 154 = .ok (.getfield 21, 3) := by decide +kernel
theorem dX0_shift_157 : decode cX0_shift 157 = .ok (.iload 7, 2) := by decide +kernel
theorem dX0_shift_159 : decode cX0_shift 159 = .ok (.iaload, 1) := by decide +kernel
theorem dX0_shift_160 : decode cX0_shift 160 = .ok (.iconst (-1), 1) := by decide +kernel
theorem dX0_shift_161 : decode cX0_shift 161 = .ok (.if_icmp .ne 7, 3) := by decide +kernel
theorem dX0_shift_164 : decode cX0_shift 164 = .ok (.iconst 0, 1) := by decide +kernel
theorem dX0_shift_165 : decode cX0_shift 165 = .ok (.goto 4, 3) := by decide +kernel
theorem dX0_shift_168 : decode cX0_shift 168 = .ok (.iconst 1, 1) := by decide +kernel
theorem dX0_shift_169 : decode cX0_shift 169 = .ok (.iadd, 1) := by decide +kernel
theorem dX0_shift_170 : decode cX0_shift 170 = .ok (.istore 6, 2) := by decide +kernel
theorem dX0_shift_172 : decode cX0_shift 172 = .ok (.iinc 7 1, 3) := by decide +kernel
theorem dX0_shift_175 : decode cX0_shift 175 = .ok (.goto (-71), 3) := by decide +kernel
theorem dX0_shift_178 : decode cX0_shift 178 = .ok (.iload 6, 2) := by decide +kernel
theorem dX0_shift_180 : decode cX0_shift 180 = .ok (.ireturn, 1) := by decide +kernel
set_option maxRecDepth 20000 in
theorem ggX0_press_X2_init : GoodIn wsX0_press wsX2_init := goodIn_r _ [6, 7, 8, 9, 10, 11, 12] (by decide +kernel) (by decide +kernel)
set_option maxRecDepth 20000 in
theorem gX0_press_X2_init_n46 : GoodIn wsX0_press (wsX2_init) := ggX0_press_X2_init
theorem dX0_press_0 : decode cX0_press 0 = .ok (.new 44, 3) := by decide +kernel
theorem dX0_press_3 : decode cX0_press 3 = .ok (.dup, 1) := by decide +kernel
theorem dX0_press_4 : decode cX0_press 4 = .ok (.invokespecial 46, 3) := by decide +kernel
theorem dX0_press_7 : decode cX0_press 7 = .ok (.astore_n 1, 1) := by decide +kernel
theorem dX0_press_8 : decode cX0_press 8 = .ok (.iconst 0, 1) := by decide +kernel
theorem dX0_press_9 : decode cX0_press 9 = .ok (.istore_n 2, 1) := by decide +kernel
theorem dX0_press_10 : decode cX0_press 10 = .ok (.iload_n 2, 1) := by decide +kernel
theorem dX0_press_11 : decode cX0_press 11 = .ok (.bipush 64, 2) := by decide +kernel
theorem dX0_press_13 : decode cX0_press 13 = .ok (.if_icmp .ge 21, 3) := by decide +kernel
theorem dX0_press_16 : decode cX0_press 16 = .ok (.aload_n 1, 1) := by decide +kernel
theorem dX0_press_17 : decode cX0_press 17 = .ok (.getfield 47, 3) := by decide +kernel
theorem dX0_press_20 : decode cX0_press 20 = .ok (.iload_n 2, 1) := by decide +kernel
theorem dX0_press_21 : decode cX0_press 21 = .ok (.aload_n 0, 1) := by decide +kernel
theorem dX0_press_22 : decode cX0_press 22 = .ok (.getfield 9, 3) := by decide +kernel
theorem dX0_press_25 : decode cX0_press 25 = .ok (.iload_n 2, 1) := by decide +kernel
theorem dX0_press_26 : decode cX0_press 26 = .ok (.iaload, 1) := by decide +kernel
theorem dX0_press_27 : decode cX0_press 27 = .ok (.iastore, 1) := by decide +kernel
theorem dX0_press_28 : decode cX0_press 28 = .ok (.iinc 2 1, 3) := by decide +kernel
theorem dX0_press_31 : decode cX0_press 31 = .ok (.goto (-21), 3) := by decide +kernel
theorem dX0_press_34 : decode cX0_press 34 = .ok (.aload_n 1, 1) := by decide +kernel
theorem dX0_press_35 : decode cX0_press 35 = .ok (.areturn, 1) := by decide +kernel
theorem dX0_fade_0 : decode cX0_fade 0 = .ok (.iconst 0, 1) := by decide +kernel
theorem dX0_fade_1 : decode cX0_fade 1 = .ok (.istore_n 1, 1) := by decide +kernel
theorem dX0_fade_2 : decode cX0_fade 2 = .ok (.iload_n 1, 1) := by decide +kernel
theorem dX0_fade_3 : decode cX0_fade 3 = .ok (.bipush 64, 2) := by decide +kernel
theorem dX0_fade_5 : decode cX0_fade 5 = .ok (.if_icmp .ge 54, 3) := by decide +kernel
theorem dX0_fade_8 : decode cX0_fade 8 = .ok (.aload_n 0, 1) := by decide +kernel
theorem dX0_fade_9 : decode cX0_fade 9 = .ok (.getfield 9, 3) := by decide +kernel
theorem dX0_fade_12 : decode cX0_fade 12 = .ok (.iload_n 1, 1) := by decide +kernel
theorem dX0_fade_13 : decode cX0_fade 13 = .ok (.iaload, 1) := by decide +kernel
theorem dX0_fade_14 : decode cX0_fade 14 = .ok (.iconst (-1), 1) := by decide +kernel
theorem dX0_fade_15 : decode cX0_fade 15 = .ok (.if_icmp .eq 38, 3) := by decide +kernel
theorem dX0_fade_18 : decode cX0_fade 18 = .ok (.aload_n 0, 1) := by decide +kernel
theorem dX0_fade_19 : decode cX0_fade 19 = .ok (.getfield 15, 3) := by decide +kernel
theorem dX0_fade_22 : decode cX0_fade 22 = .ok (.iload_n 1, 1) := by decide +kernel
theorem dX0_fade_23 : decode cX0_fade 23 = .ok (.dup2, 1) := by decide +kernel
theorem dX0_fade_24 : decode cX0_fade 24 = .ok (.iaload, 1) := by decide +kernel
theorem dX0_fade_25 : decode cX0_fade 25 = .ok (.iconst 1, 1) := by decide +kernel
theorem dX0_fade_26 : decode cX0_fade 26 = .ok (.isub, 1) := by decide +kernel
theorem dX0_fade_27 : decode cX0_fade 27 = .ok (.iastore, 1) := by decide +kernel
theorem dX0_fade_28 : decode cX0_fade 28 = .ok (.aload_n 0, 1) := by decide +kernel
theorem dX0_fade_29 : decode cX0_fade 29 = .ok (.getfield 9, 3) := by decide +kernel
theorem dX0_fade_32 : decode cX0_fade 32 = .ok (.iload_n 1, 1) := by decide +kernel
theorem dX0_fade_33 : decode cX0_fade 33 = .ok (.aload_n 0, 1) := by decide +kernel
theorem dX0_fade_34 : decode cX0_fade 34 = .ok (.getfield 15, 3) := by decide +kernel
theorem dX0_fade_37 : decode cX0_fade 37 = .ok (.iload_n 1, 1) := by decide +kernel
theorem dX0_fade_38 : decode cX0_fade 38 = .ok (.iaload, 1) := by decide +kernel
theorem dX0_fade_39 : decode cX0_fade 39 = .ok (.ifCond .le 12, 3) := by decide +kernel
theorem dX0_fade_42 : decode cX0_fade 42 = .ok (.aload_n 0, 1) := by decide +kernel
theorem dX0_fade_43 : decode cX0_fade 43 = .ok (.getfield 9, 3) := by decide +kernel
theorem dX0_fade_46 : decode cX0_fade 46 = .ok (.iload_n 1, 1) := by decide +kernel
theorem dX0_fade_47 : decode cX0_fade 47 = .ok (.iaload, 1) := by decide +kernel
theorem dX0_fade_48 : decode cX0_fade 48 = .ok (.goto 4, 3) := by decide +kernel
theorem dX0_fade_51 : decode cX0_fade 51 = .ok (.iconst (-1), 1) := by decide +kernel
theorem dX0_fade_52 : decode cX0_fade 52 = .ok (.iastore, 1) := by decide +kernel
theorem dX0_fade_53 : decode cX0_fade 53 = .ok (.iinc 1 1, 3) := by decide +kernel
theorem dX0_fade_56 : decode cX0_fade 56 = .ok (.goto (-54), 3) := by decide +kernel
theorem dX0_fade_59 : decode cX0_fade 59 = .ok (.return_, 1) := by decide +kernel
theorem dX0_empty_0 : decode cX0_empty 0 = .ok (.iconst 0, 1) := by decide +kernel
theorem dX0_empty_1 : decode cX0_empty 1 = .ok (.istore_n 1, 1) := by decide +kernel
theorem dX0_empty_2 : decode cX0_empty 2 = .ok (.iconst 0, 1) := by decide +kernel
theorem dX0_empty_3 : decode cX0_empty 3 = .ok (.istore_n 2, 1) := by decide +kernel
theorem dX0_empty_4 : decode cX0_empty 4 = .ok (.iload_n 2, 1) := by decide +kernel
theorem dX0_empty_5 : decode cX0_empty 5 = .ok (.bipush 64, 2) := by decide +kernel
theorem dX0_empty_7 : decode cX0_empty 7 = .ok (.if_icmp .ge 41, 3) := by decide +kernel
theorem dX0_empty_10 : decode cX0_empty 10 = .ok (.iload_n 1, 1) := by decide +kernel
theorem dX0_empty_11 : decode cX0_empty 11 = .ok (.aload_n 0, 1) := by decide +kernel
theorem dX0_empty_12 : decode cX0_empty 12 = .ok (.getfield 9, 3) := by decide +kernel
theorem dX0_empty_15 : decode cX0_empty 15 = .ok (.iload_n 2, 1) := by decide +kernel
theorem dX0_empty_16 : decode cX0_empty 16 = .ok (.iaload, 1) := by decide +kernel
theorem dX0_empty_17 : decode cX0_empty 17 = .ok (.iconst (-1), 1) := by decide +kernel
theorem dX0_empty_18 : decode cX0_empty 18 = .ok (.if_icmp .ne 7, 3) := by decide +kernel
theorem dX0_empty_21 : decode cX0_empty 21 = .ok (.iconst 0, 1) := by decide +kernel
theorem dX0_empty_22 : decode cX0_empty 22 = .ok (.goto 4, 3) := by decide +kernel
theorem dX0_empty_25 : decode cX0_empty 25 = .ok (.iconst 1, 1) := by decide +kernel
theorem dX0_empty_26 : decode cX0_empty 26 = .ok (.iadd, 1) := by decide +kernel
theorem dX0_empty_27 : decode cX0_empty 27 = .ok (.istore_n 1, 1) := by decide +kernel
theorem dX0_empty_28 : decode cX0_empty 28 = .ok (.aload_n 0, 1) := by decide +kernel
theorem dX0_empty_29 : decode cX0_empty 29 = .ok (.getfield 9, 3) := by decide +kernel
theorem dX0_empty_32 : decode cX0_empty 32 = .ok (.iload_n 2, 1) := by decide +kernel
theorem dX0_empty_33 : decode cX0_empty 33 = .ok (.iconst (-1), 1) := by decide +kernel
theorem dX0_empty_34 : decode cX0_empty 34 = .ok (.iastore, 1) := by decide +kernel
theorem dX0_empty_35 : decode cX0_empty 35 = .ok (.aload_n 0, 1) := by decide +kernel
theorem dX0_empty_36 : decode cX0_empty 36 = .ok (.getfield 15, 3) := by decide +kernel
theorem dX0_empty_39 : decode cX0_empty 39 = .ok (.iload_n 2, 1) := by decide +kernel
theorem dX0_empty_40 : decode cX0_empty 40 = .ok (.iconst 0, 1) := by decide +kernel
theorem dX0_empty_41 : decode cX0_empty 41 = .ok (.iastore, 1) := by decide +kernel
theorem dX0_empty_42 : decode cX0_empty 42 = .ok (.iinc 2 1, 3) := by decide +kernel
theorem dX0_empty_45 : decode cX0_empty 45 = .ok (.goto (-41), 3) := by decide +kernel
theorem dX0_empty_48 : decode cX0_empty 48 = .ok (.iload_n 1, 1) := by decide +kernel
theorem dX0_empty_49 : decode cX0_empty 49 = .ok (.ireturn, 1) := by decide +kernel
set_option maxRecDepth 20000 in
theorem ggX1_init_X3_init : GoodIn wsX1_init wsX3_init := goodIn_r _ [21, 22, 2, 3, 23, 24, 40, 41] (by decide +kernel) (by decide +kernel)
set_option maxRecDepth 20000 in
theorem gX1_init_X3_init_n11 : GoodIn wsX1_init (wsX3_init) := ggX1_init_X3_init
set_option maxRecDepth 20000 in
theorem ggX1_init_X6_init : GoodIn wsX1_init wsX6_init := goodIn_r _ [26, 27, 2, 3, 23, 28, 29, 30, 49, 50, 51, 52] (by decide +kernel) (by decide +kernel)
set_option maxRecDepth 20000 in
theorem gX1_init_X6_init_n20 : GoodIn wsX1_init (wsX6_init) := ggX1_init_X6_init
set_option maxRecDepth 20000 in
theorem ggX1_init_X4_init : GoodIn wsX1_init wsX4_init := goodIn_r _ [33, 34, 2, 3, 23, 35, 36, 37, 38, 39, 53, 54, 55, 56, 57, 58, 59, 60, 61, 62] (by decide +kernel) (by decide +kernel)
set_option maxRecDepth 20000 in
theorem gX1_init_X4_init : GoodIn wsX1_init (wsX4_init) := ggX1_init_X4_init
theorem dX1_init_0 : decode cX1_init 0 = .ok (.aload_n 0, 1) := by decide +kernel
theorem dX1_init_1 : decode cX1_init 1 = .ok (.invokespecial 3, 3) := by decide +kernel
theorem dX1_init_4 : decode cX1_init 4 = .ok (.aload_n 0, 1) := by decide +kernel
theorem dX1_init_5 : decode cX1_init 5 = .ok (.new 9, 3) := by decide +kernel
theorem dX1_init_8 : decode cX1_init 8 = .ok (.dup, 1) := by decide +kernel
theorem dX1_init_9 : decode cX1_init 9 = .ok (.invokespecial 11, 3) := by decide +kernel
theorem dX1_init_12 : decode cX1_init 12 = .ok (.putfield 12, 3) := by decide +kernel
theorem dX1_init_15 : decode cX1_init 15 = .ok (.aload_n 0, 1) := by decide +kernel
theorem dX1_init_16 : decode cX1_init 16 = .ok (.new 18, 3) := by decide +kernel
theorem dX1_init_19 : decode cX1_init 19 = .ok (.dup, 1) := by decide +kernel
theorem dX1_init_20 : decode cX1_init 20 = .ok (.invokespecial 20, 3) := by decide +kernel
theorem dX1_init_23 : decode cX1_init 23 = .ok (.putfield 21, 3) := by decide +kernel
theorem dX1_init_26 : decode cX1_init 26 = .ok (.aload_n 0, 1) := by decide +kernel
theorem dX1_init_27 : decode cX1_init 27 = .ok (.iconst 0, 1) := by decide +kernel
theorem dX1_init_28 : decode cX1_init 28 = .ok (.putfield 25, 3) := by decide +kernel
theorem dX1_init_31 : decode cX1_init 31 = .ok (.aload_n 0, 1) := by decide +kernel
theorem dX1_init_32 : decode cX1_init 32 = .ok (.new 29, 3) := by decide +kernel
theorem dX1_init_35 : decode cX1_init 35 = .ok (.dup, 1) := by decide +kernel
theorem dX1_init_36 : decode cX1_init 36 = .ok (.iload_n 1, 1) := by decide +kernel
theorem dX1_init_37 : decode cX1_init 37 = .ok (.iload_n 3, 1) := by decide +kernel
theorem dX1_init_38 : decode cX1_init 38 = .ok (.invokespecial 31, 3) := by decide +kernel
theorem dX1_init_41 : decode cX1_init 41 = .ok (.putfield 34, 3) := by decide +kernel
theorem dX1_init_44 : decode cX1_init 44 = .ok (.aload_n 0, 1) := by decide +kernel
theorem dX1_init_45 : decode cX1_init 45 = .ok (.iload_n 1, 1) := by decide +kernel
theorem dX1_init_46 : decode cX1_init 46 = .ok (.iload_n 2, 1) := by decide +kernel
theorem dX1_init_47 : decode cX1_init 47 = .ok (.imul, 1) := by decide +kernel
theorem dX1_init_48 : decode cX1_init 48 = .ok (.putfield 38, 3) := by decide +kernel
theorem dX1_init_51 : decode cX1_init 51 = .ok (.aload_n 0, 1) := by decide +kernel
theorem dX1_init_52 : decode cX1_init 52 = .ok (.iload 4, 2) := by decide +kernel
theorem dX1_init_54 : decode cX1_init 54 = .ok (.putfield 41, 3) := by decide +kernel
theorem dX1_init_57 : decode cX1_init 57 = .ok (.aload_n 0, 1) := by decide +kernel
theorem dX1_init_58 : decode cX1_init 58 = .ok (.iload 5, 2) := by decide +kernel
theorem dX1_init_60 : decode cX1_init 60 = .ok (.putfield 44, 3) := by decide +kernel
theorem dX1_init_63 : decode cX1_init 63 = .ok (.return_, 1) := by decide +kernel
set_option maxRecDepth 20000 in
theorem ggX1_bendAt_X1_stiffness : GoodIn wsX1_bendAt wsX1_stiffness := goodIn_r _ [11, 12, 13, 14, 15, 16, 17, 18, 19] (by decide +kernel) (by decide +kernel)
set_option maxRecDepth 20000 in
theorem gX1_bendAt_X1_stiffness : GoodIn wsX1_bendAt (wsV RX1 54 RX1 yX1_stiffness wsX1_stiffness) := goodIn_app (goodIn_of _ (by decide +kernel)) ggX1_bendAt_X1_stiffness
theorem dX1_bendAt_0 : decode cX1_bendAt 0 = .ok (.iload_n 1, 1) := by decide +kernel
theorem dX1_bendAt_1 : decode cX1_bendAt 1 = .ok (.aload_n 0, 1) := by decide +kernel
theorem dX1_bendAt_2 : decode cX1_bendAt 2 = .ok (.getfield 38, 3) := by decide +kernel
theorem dX1_bendAt_5 : decode cX1_bendAt 5 = .ok (.iload_n 1, 1) := by decide +kernel
theorem dX1_bendAt_6 : decode cX1_bendAt 6 = .ok (.isub, 1) := by decide +kernel
theorem dX1_bendAt_7 : decode cX1_bendAt 7 = .ok (.invokestatic 48, 3) := by decide +kernel
theorem dX1_bendAt_10 : decode cX1_bendAt 10 = .ok (.aload_n 0, 1) := by decide +kernel
theorem dX1_bendAt_11 : decode cX1_bendAt 11 = .ok (.getfield 41, 3) := by decide +kernel
theorem dX1_bendAt_14 : decode cX1_bendAt 14 = .ok (.imul, 1) := by decide +kernel
theorem dX1_bendAt_15 : decode cX1_bendAt 15 = .ok (.aload_n 0, 1) := by decide +kernel
theorem dX1_bendAt_16 : decode cX1_bendAt 16 = .ok (.invokevirtual 54, 3) := by decide +kernel
theorem dX1_bendAt_19 : decode cX1_bendAt 19 = .ok (.imul, 1) := by decide +kernel
theorem dX1_bendAt_20 : decode cX1_bendAt 20 = .ok (.ireturn, 1) := by decide +kernel
theorem dX1_stiffness_0 : decode cX1_stiffness 0 = .ok (.aload_n 0, 1) := by decide +kernel
theorem dX1_stiffness_1 : decode cX1_stiffness 1 = .ok (.getfield 25, 3) := by decide +kernel
theorem dX1_stiffness_4 : decode cX1_stiffness 4 = .ok (.lookupswitch 32 #[(1, 28), (2, 30)], 28) := by decide +kernel
theorem dX1_stiffness_32 : decode cX1_stiffness 32 = .ok (.iconst 1, 1) := by decide +kernel
theorem dX1_stiffness_33 : decode cX1_stiffness 33 = .ok (.ireturn, 1) := by decide +kernel
theorem dX1_stiffness_34 : decode cX1_stiffness 34 = .ok (.iconst 2, 1) := by decide +kernel
theorem dX1_stiffness_35 : decode cX1_stiffness 35 = .ok (.ireturn, 1) := by decide +kernel
theorem dX1_stiffness_36 : decode cX1_stiffness 36 = .ok (.iconst 4, 1) := by decide +kernel
theorem dX1_stiffness_37 : decode cX1_stiffness 37 = .ok (.ireturn, 1) := by decide +kernel
set_option maxRecDepth 20000 in
theorem ggX1_stiffestOpening_X1_bendAt : GoodIn wsX1_stiffestOpening wsX1_bendAt := goodIn_r _ [6, 1, 7, 8, 9, 10, 11, 12, 13, 14, 5, 15, 16, 17, 18, 19, 20, 21, 22, 23] (by decide +kernel) (by decide +kernel)
set_option maxRecDepth 20000 in
theorem gX1_stiffestOpening_X1_bendAt : GoodIn wsX1_stiffestOpening (wsV RX1 58 RX1 yX1_bendAt wsX1_bendAt) := goodIn_app (goodIn_of _ (by decide +kernel)) ggX1_stiffestOpening_X1_bendAt
theorem dX1_stiffestOpening_0 : decode cX1_stiffestOpening 0 = .ok (.iconst 0, 1) := by decide +kernel
theorem dX1_stiffestOpening_1 : decode cX1_stiffestOpening 1 = .ok (.istore_n 1, 1) := by decide +kernel
theorem dX1_stiffestOpening_2 : decode cX1_stiffestOpening 2 = .ok (.iconst 1, 1) := by decide +kernel
theorem dX1_stiffestOpening_3 : decode cX1_stiffestOpening 3 = .ok (.istore_n 2, 1) := by decide +kernel
theorem dX1_stiffestOpening_4 : decode cX1_stiffestOpening 4 = .ok (.iload_n 2, 1) := by decide +kernel
theorem dX1_stiffestOpening_5 : decode cX1_stiffestOpening 5 = .ok (.aload_n 0, 1) := by decide +kernel
theorem dX1_stiffestOpening_6 : decode cX1_stiffestOpening 6 = .ok (.getfield 38, 3) := by decide +kernel
theorem dX1_stiffestOpening_9 : decode cX1_stiffestOpening 9 = .ok (.if_icmp .gt 24, 3) := by decide +kernel
theorem dX1_stiffestOpening_12 : decode cX1_stiffestOpening 12 = .ok (.aload_n 0, 1) := by decide +kernel
theorem dX1_stiffestOpening_13 : decode cX1_stiffestOpening 13 = .ok (.iload_n 2, 1) := by decide +kernel
theorem dX1_stiffestOpening_14 : decode cX1_stiffestOpening 14 = .ok (.invokevirtual 58, 3) := by decide +kernel
theorem dX1_stiffestOpening_17 : decode cX1_stiffestOpening 17 = .ok (.aload_n 0, 1) := by decide +kernel
theorem dX1_stiffestOpening_18 : decode cX1_stiffestOpening 18 = .ok (.iload_n 1, 1) := by decide +kernel
theorem dX1_stiffestOpening_19 : decode cX1_stiffestOpening 19 = .ok (.invokevirtual 58, 3) := by decide +kernel
theorem dX1_stiffestOpening_22 : decode cX1_stiffestOpening 22 = .ok (.if_icmp .le 5, 3) := by decide +kernel
theorem dX1_stiffestOpening_25 : decode cX1_stiffestOpening 25 = .ok (.iload_n 2, 1) := by decide +kernel
theorem dX1_stiffestOpening_26 : decode cX1_stiffestOpening 26 = .ok (.istore_n 1, 1) := by decide +kernel
theorem dX1_stiffestOpening_27 : decode cX1_stiffestOpening 27 = .ok (.iinc 2 1, 3) := by decide +kernel
theorem dX1_stiffestOpening_30 : decode cX1_stiffestOpening 30 = .ok (.goto (-26), 3) := by decide +kernel
theorem dX1_stiffestOpening_33 : decode cX1_stiffestOpening 33 = .ok (.iload_n 1, 1) := by decide +kernel
theorem dX1_stiffestOpening_34 : decode cX1_stiffestOpening 34 = .ok (.ireturn, 1) := by decide +kernel
set_option maxRecDepth 20000 in
theorem ggX1_openingsWithin_X4_swell : GoodIn wsX1_openingsWithin wsX4_swell := goodIn_r _ [7, 8, 9, 10, 11, 6, 12, 13, 14, 15, 16, 17, 18, 19, 20, 21, 22, 44, 45, 46, 47, 48, 49, 50, 51, 52, 53] (by decide +kernel) (by decide +kernel)
set_option maxRecDepth 20000 in
theorem gX1_openingsWithin_X4_swell : GoodIn wsX1_openingsWithin (wsV RX1 62 RX4 yX4_swell wsX4_swell) := goodIn_app (goodIn_of _ (by decide +kernel)) ggX1_openingsWithin_X4_swell
set_option maxRecDepth 20000 in
theorem ggX1_openingsWithin_X1_bendAt : GoodIn wsX1_openingsWithin wsX1_bendAt := goodIn_r _ [27, 2, 28, 29, 16, 30, 31, 32, 33, 34, 26, 35, 36, 37, 38, 39, 40, 41, 42, 43] (by decide +kernel) (by decide +kernel)
set_option maxRecDepth 20000 in
theorem gX1_openingsWithin_X1_bendAt : GoodIn wsX1_openingsWithin (wsV RX1 58 RX1 yX1_bendAt wsX1_bendAt) := goodIn_app (goodIn_of _ (by decide +kernel)) ggX1_openingsWithin_X1_bendAt
theorem dX1_openingsWithin_0 : decode cX1_openingsWithin 0 = .ok (.aload_n 0, 1) := by decide +kernel
theorem dX1_openingsWithin_1 : decode cX1_openingsWithin 1 = .ok (.getfield 34, 3) := by decide +kernel
theorem dX1_openingsWithin_4 : decode cX1_openingsWithin 4 = .ok (.invokevirtual 62, 3) := by decide +kernel
theorem dX1_openingsWithin_7 : decode cX1_openingsWithin 7 = .ok (.istore_n 2, 1) := by decide +kernel
theorem dX1_openingsWithin_8 : decode cX1_openingsWithin 8 = .ok (.iconst 0, 1) := by decide +kernel
theorem dX1_openingsWithin_9 : decode cX1_openingsWithin 9 = .ok (.istore_n 3, 1) := by decide +kernel
theorem dX1_openingsWithin_10 : decode cX1_openingsWithin 10 = .ok (.iconst 0, 1) := by decide +kernel
theorem dX1_openingsWithin_11 : decode cX1_openingsWithin 11 = .ok (.istore 4, 2) := by decide +kernel
theorem dX1_openingsWithin_13 : decode cX1_openingsWithin 13 = .ok (.iload 4, 2) := by decide +kernel
theorem dX1_openingsWithin_15 : decode cX1_openingsWithin 15 = .ok (.aload_n 0, 1) := by decide +kernel
theorem dX1_openingsWithin_16 : decode cX1_openingsWithin 16 = .ok (.getfield 38, 3) := by decide +kernel
theorem dX1_openingsWithin_19 : decode cX1_openingsWithin 19 = .ok (.if_icmp .gt 29, 3) := by decide +kernel
theorem dX1_openingsWithin_22 : decode cX1_openingsWithin 22 = .ok (.iload_n 3, 1) := by decide +kernel
theorem dX1_openingsWithin_23 : decode cX1_openingsWithin 23 = .ok (.aload_n 0, 1) := by decide +kernel
theorem dX1_openingsWithin_24 : decode cX1_openingsWithin 24 = .ok (.iload 4, 2) := by decide +kernel
theorem dX1_openingsWithin_26 : decode cX1_openingsWithin 26 = .ok (.invokevirtual 58, 3) := by decide +kernel
theorem dX1_openingsWithin_29 : decode cX1_openingsWithin 29 = .ok (.iload_n 2, 1) := by decide +kernel
theorem dX1_openingsWithin_30 : decode cX1_openingsWithin 30 = .ok (.iadd, 1) := by decide +kernel
theorem dX1_openingsWithin_31 : decode cX1_openingsWithin 31 = .ok (.iload_n 1, 1) := by decide +kernel
theorem dX1_openingsWithin_32 : decode cX1_openingsWithin 32 = .ok (.if_icmp .gt 7, 3) := by decide +kernel
theorem dX1_openingsWithin_35 : decode cX1_openingsWithin 35 = .ok (.iconst 1, 1) := by decide +kernel
theorem dX1_openingsWithin_36 : decode cX1_openingsWithin 36 = .ok (.goto 4, 3) := by decide +kernel
theorem dX1_openingsWithin_39 : decode cX1_openingsWithin 39 = .ok (.iconst 0, 1) := by decide +kernel
theorem dX1_openingsWithin_40 : decode cX1_openingsWithin 40 = .ok (.iadd, 1) := by decide +kernel
theorem dX1_openingsWithin_41 : decode cX1_openingsWithin 41 = .ok (.istore_n 3, 1) := by decide +kernel
theorem dX1_openingsWithin_42 : decode cX1_openingsWithin 42 = .ok (.iinc 4 1, 3) := by decide +kernel
theorem dX1_openingsWithin_45 : decode cX1_openingsWithin 45 = .ok (.goto (-32), 3) := by decide +kernel
theorem dX1_openingsWithin_48 : decode cX1_openingsWithin 48 = .ok (.iload_n 3, 1) := by decide +kernel
theorem dX1_openingsWithin_49 : decode cX1_openingsWithin 49 = .ok (.ireturn, 1) := by decide +kernel
theorem dX2_init_0 : decode cX2_init 0 = .ok (.aload_n 0, 1) := by decide +kernel
theorem dX2_init_1 : decode cX2_init 1 = .ok (.invokespecial 3, 3) := by decide +kernel
theorem dX2_init_4 : decode cX2_init 4 = .ok (.aload_n 0, 1) := by decide +kernel
theorem dX2_init_5 : decode cX2_init 5 = .ok (.bipush 64, 2) := by decide +kernel
theorem dX2_init_7 : decode cX2_init 7 = .ok (.newarray .int, 2) := by decide +kernel
theorem dX2_init_9 : decode cX2_init 9 = .ok (.putfield 9, 3) := by decide +kernel
theorem dX2_init_12 : decode cX2_init 12 = .ok (.return_, 1) := by decide +kernel
theorem dX2_cellsWith_0 : decode cX2_cellsWith 0 = .ok (.iconst 0, 1) := by decide +kernel
theorem dX2_cellsWith_1 : decode cX2_cellsWith 1 = .ok (.istore_n 2, 1) := by decide +kernel
theorem dX2_cellsWith_2 : decode cX2_cellsWith 2 = .ok (.iconst 0, 1) := by decide +kernel
theorem dX2_cellsWith_3 : decode cX2_cellsWith 3 = .ok (.istore_n 3, 1) := by decide +kernel
theorem dX2_cellsWith_4 : decode cX2_cellsWith 4 = .ok (.iload_n 3, 1) := by decide +kernel
theorem dX2_cellsWith_5 : decode cX2_cellsWith 5 = .ok (.bipush 64, 2) := by decide +kernel
theorem dX2_cellsWith_7 : decode cX2_cellsWith 7 = .ok (.if_icmp .ge 27, 3) := by decide +kernel
theorem dX2_cellsWith_10 : decode cX2_cellsWith 10 = .ok (.iload_n 2, 1) := by decide +kernel
theorem dX2_cellsWith_11 : decode cX2_cellsWith 11 = .ok (.aload_n 0, 1) := by decide +kernel
theorem dX2_cellsWith_12 : decode cX2_cellsWith 12 = .ok (.getfield 9, 3) := by decide +kernel
theorem dX2_cellsWith_15 : decode cX2_cellsWith 15 = .ok (.iload_n 3, 1) := by decide +kernel
theorem dX2_cellsWith_16 : decode cX2_cellsWith 16 = .ok (.iaload, 1) := by decide +kernel
theorem dX2_cellsWith_17 : decode cX2_cellsWith 17 = .ok (.iload_n 1, 1) := by decide +kernel
theorem dX2_cellsWith_18 : decode cX2_cellsWith 18 = .ok (.if_icmp .ne 7, 3) := by decide +kernel
theorem dX2_cellsWith_21 : decode cX2_cellsWith 21 = .ok (.iconst 1, 1) := by decide +kernel
theorem dX2_cellsWith_22 : decode cX2_cellsWith 22 = .ok (.goto 4, 3) := by decide +kernel
theorem dX2_cellsWith_25 : decode cX2_cellsWith 25 = .ok (.iconst 0, 1) := by decide +kernel
theorem dX2_cellsWith_26 : decode cX2_cellsWith 26 = .ok (.iadd, 1) := by decide +kernel
theorem dX2_cellsWith_27 : decode cX2_cellsWith 27 = .ok (.istore_n 2, 1) := by decide +kernel
theorem dX2_cellsWith_28 : decode cX2_cellsWith 28 = .ok (.iinc 3 1, 3) := by decide +kernel
theorem dX2_cellsWith_31 : decode cX2_cellsWith 31 = .ok (.goto (-27), 3) := by decide +kernel
theorem dX2_cellsWith_34 : decode cX2_cellsWith 34 = .ok (.iload_n 2, 1) := by decide +kernel
theorem dX2_cellsWith_35 : decode cX2_cellsWith 35 = .ok (.ireturn, 1) := by decide +kernel
theorem dX3_init_0 : decode cX3_init 0 = .ok (.aload_n 0, 1) := by decide +kernel
theorem dX3_init_1 : decode cX3_init 1 = .ok (.invokespecial 3, 3) := by decide +kernel
theorem dX3_init_4 : decode cX3_init 4 = .ok (.aload_n 0, 1) := by decide +kernel
theorem dX3_init_5 : decode cX3_init 5 = .ok (.bipush 20, 2) := by decide +kernel
theorem dX3_init_7 : decode cX3_init 7 = .ok (.newarray .int, 2) := by decide +kernel
theorem dX3_init_9 : decode cX3_init 9 = .ok (.putfield 9, 3) := by decide +kernel
theorem dX3_init_12 : decode cX3_init 12 = .ok (.return_, 1) := by decide +kernel
theorem dX3_add_0 : decode cX3_add 0 = .ok (.aload_n 0, 1) := by decide +kernel
theorem dX3_add_1 : decode cX3_add 1 = .ok (.getfield 15, 3) := by decide +kernel
theorem dX3_add_4 : decode cX3_add 4 = .ok (.bipush 20, 2) := by decide +kernel
theorem dX3_add_6 : decode cX3_add 6 = .ok (.if_icmp .ge 23, 3) := by decide +kernel
theorem dX3_add_9 : decode cX3_add 9 = .ok (.aload_n 0, 1) := by decide +kernel
theorem dX3_add_10 : decode cX3_add 10 = .ok (.getfield 9, 3) := by decide +kernel
theorem dX3_add_13 : decode cX3_add 13 = .ok (.aload_n 0, 1) := by decide +kernel
theorem dX3_add_14 : decode cX3_add 14 = .ok (.getfield 15, 3) := by decide +kernel
theorem dX3_add_17 : decode cX3_add 17 = .ok (.iload_n 1, 1) := by decide +kernel
theorem dX3_add_18 : decode cX3_add 18 = .ok (.iastore, 1) := by decide +kernel
theorem dX3_add_19 : decode cX3_add 19 = .ok (.aload_n 0, 1) := by decide +kernel
theorem dX3_add_20 : decode cX3_add 20 = .ok (.dup, 1) := by decide +kernel
theorem dX3_add_21 : decode cX3_add 21 = .ok (.getfield 15, 3) := by decide +kernel
theorem dX3_add_24 : decode cX3_add 24 = .ok (.iconst 1, 1) := by decide +kernel
theorem dX3_add_25 : decode cX3_add 25 = .ok (.iadd, 1) := by decide +kernel
theorem dX3_add_26 : decode cX3_add 26 = .ok (.putfield 15, 3) := by decide +kernel
theorem dX3_add_29 : decode cX3_add 29 = .ok (.return_, 1) := by decide +kernel
theorem dX3_latest_0 : decode cX3_latest 0 = .ok (.aload_n 0, 1) := by decide +kernel
theorem dX3_latest_1 : decode cX3_latest 1 = .ok (.getfield 15, 3) := by decide +kernel
theorem dX3_latest_4 : decode cX3_latest 4 = .ok (.ifCond .le 17, 3) := by decide +kernel
theorem dX3_latest_7 : decode cX3_latest 7 = .ok (.aload_n 0, 1) := by decide +kernel
theorem dX3_latest_8 : decode cX3_latest 8 = .ok (.getfield 9, 3) := by decide +kernel
theorem dX3_latest_11 : decode cX3_latest 11 = .ok (.aload_n 0, 1) := by decide +kernel
theorem dX3_latest_12 : decode cX3_latest 12 = .ok (.getfield 15, 3) := by decide +kernel
theorem dX3_latest_15 : decode cX3_latest 15 = .ok (.iconst 1, 1) := by decide +kernel
theorem dX3_latest_16 : decode cX3_latest 16 = .ok (.isub, 1) := by decide +kernel
theorem dX3_latest_17 : decode cX3_latest 17 = .ok (.iaload, 1) := by decide +kernel
theorem dX3_latest_18 : decode cX3_latest 18 = .ok (.goto 4, 3) := by decide +kernel
theorem dX3_latest_21 : decode cX3_latest 21 = .ok (.iconst (-1), 1) := by decide +kernel
theorem dX3_latest_22 : decode cX3_latest 22 = .ok (.ireturn, 1) := by decide +kernel
theorem dX3_dropLatest_0 : decode cX3_dropLatest 0 = .ok (.aload_n 0, 1) := by decide +kernel
theorem dX3_dropLatest_1 : decode cX3_dropLatest 1 = .ok (.getfield 15, 3) := by decide +kernel
theorem dX3_dropLatest_4 : decode cX3_dropLatest 4 = .ok (.ifCond .le 13, 3) := by decide +kernel
theorem dX3_dropLatest_7 : decode cX3_dropLatest 7 = .ok (.aload_n 0, 1) := by decide +kernel
theorem dX3_dropLatest_8 : decode cX3_dropLatest 8 = .ok (.dup, 1) := by decide +kernel
theorem dX3_dropLatest_9 : decode cX3_dropLatest 9 = .ok (.getfield 15, 3) := by decide +kernel
theorem dX3_dropLatest_12 : decode cX3_dropLatest 12 = .ok (.iconst 1, 1) := by decide +kernel
theorem dX3_dropLatest_13 : decode cX3_dropLatest 13 = .ok (.isub, 1) := by decide +kernel
theorem dX3_dropLatest_14 : decode cX3_dropLatest 14 = .ok (.putfield 15, 3) := by decide +kernel
theorem dX3_dropLatest_17 : decode cX3_dropLatest 17 = .ok (.return_, 1) := by decide +kernel
theorem dX4_init_0 : decode cX4_init 0 = .ok (.aload_n 0, 1) := by decide +kernel
theorem dX4_init_1 : decode cX4_init 1 = .ok (.invokespecial 3, 3) := by decide +kernel
theorem dX4_init_4 : decode cX4_init 4 = .ok (.aload_n 0, 1) := by decide +kernel
theorem dX4_init_5 : decode cX4_init 5 = .ok (.bipush 40, 2) := by decide +kernel
theorem dX4_init_7 : decode cX4_init 7 = .ok (.newarray .int, 2) := by decide +kernel
theorem dX4_init_9 : decode cX4_init 9 = .ok (.putfield 9, 3) := by decide +kernel
theorem dX4_init_12 : decode cX4_init 12 = .ok (.aload_n 0, 1) := by decide +kernel
theorem dX4_init_13 : decode cX4_init 13 = .ok (.bipush 8, 2) := by decide +kernel
theorem dX4_init_15 : decode cX4_init 15 = .ok (.newarray .int, 2) := by decide +kernel
theorem dX4_init_17 : decode cX4_init 17 = .ok (.putfield 15, 3) := by decide +kernel
theorem dX4_init_20 : decode cX4_init 20 = .ok (.aload_n 0, 1) := by decide +kernel
theorem dX4_init_21 : decode cX4_init 21 = .ok (.sipush 200, 3) := by decide +kernel
theorem dX4_init_24 : decode cX4_init 24 = .ok (.newarray .int, 2) := by decide +kernel
theorem dX4_init_26 : decode cX4_init 26 = .ok (.putfield 18, 3) := by decide +kernel
theorem dX4_init_29 : decode cX4_init 29 = .ok (.aload_n 0, 1) := by decide +kernel
theorem dX4_init_30 : decode cX4_init 30 = .ok (.iload_n 1, 1) := by decide +kernel
theorem dX4_init_31 : decode cX4_init 31 = .ok (.putfield 21, 3) := by decide +kernel
theorem dX4_init_34 : decode cX4_init 34 = .ok (.aload_n 0, 1) := by decide +kernel
theorem dX4_init_35 : decode cX4_init 35 = .ok (.iload_n 2, 1) := by decide +kernel
theorem dX4_init_36 : decode cX4_init 36 = .ok (.putfield 25, 3) := by decide +kernel
theorem dX4_init_39 : decode cX4_init 39 = .ok (.return_, 1) := by decide +kernel
theorem dX4_allows_0 : decode cX4_allows 0 = .ok (.aload_n 0, 1) := by decide +kernel
theorem dX4_allows_1 : decode cX4_allows 1 = .ok (.getfield 28, 3) := by decide +kernel
theorem dX4_allows_4 : decode cX4_allows 4 = .ok (.sipush 200, 3) := by decide +kernel
theorem dX4_allows_7 : decode cX4_allows 7 = .ok (.if_icmp .lt 5, 3) := by decide +kernel
theorem dX4_allows_10 : decode cX4_allows 10 = .ok (.iconst 0, 1) := by decide +kernel
theorem dX4_allows_11 : decode cX4_allows 11 = .ok (.ireturn, 1) := by decide +kernel
theorem dX4_allows_12 : decode cX4_allows 12 = .ok (.iload_n 1, 1) := by decide +kernel
theorem dX4_allows_13 : decode cX4_allows 13 = .ok (.tableswitch 109 1 4 #[31, 50, 63, 89], 31) := by decide +kernel
theorem dX4_allows_44 : decode cX4_allows 44 = .ok (.aload_n 0, 1) := by decide +kernel
theorem dX4_allows_45 : decode cX4_allows 45 = .ok (.getfield 31, 3) := by decide +kernel
theorem dX4_allows_48 : decode cX4_allows 48 = .ok (.iconst 1, 1) := by decide +kernel
theorem dX4_allows_49 : decode cX4_allows 49 = .ok (.iadd, 1) := by decide +kernel
theorem dX4_allows_50 : decode cX4_allows 50 = .ok (.aload_n 0, 1) := by decide +kernel
theorem dX4_allows_51 : decode cX4_allows 51 = .ok (.getfield 25, 3) := by decide +kernel
theorem dX4_allows_54 : decode cX4_allows 54 = .ok (.if_icmp .ge 7, 3) := by decide +kernel
theorem dX4_allows_57 : decode cX4_allows 57 = .ok (.iconst 1, 1) := by decide +kernel
theorem dX4_allows_58 : decode cX4_allows 58 = .ok (.goto 4, 3) := by decide +kernel
theorem dX4_allows_61 : decode cX4_allows 61 = .ok (.iconst 0, 1) := by decide +kernel
theorem dX4_allows_62 : decode cX4_allows 62 = .ok (.ireturn, 1) := by decide +kernel
theorem dX4_allows_63 : decode cX4_allows 63 = .ok (.aload_n 0, 1) := by decide +kernel
theorem dX4_allows_64 : decode cX4_allows 64 = .ok (.getfield 31, 3) := by decide +kernel
theorem dX4_allows_67 : decode cX4_allows 67 = .ok (.ifCond .le 7, 3) := by decide +kernel
theorem dX4_allows_70 : decode cX4_allows 70 = .ok (.iconst 1, 1) := by decide +kernel
theorem dX4_allows_71 : decode cX4_allows 71 = .ok (.goto 4, 3) := by decide +kernel
theorem dX4_allows_74 : decode cX4_allows 74 = .ok (.iconst 0, 1) := by decide +kernel
theorem dX4_allows_75 : decode cX4_allows 75 = .ok (.ireturn, 1) := by decide +kernel
theorem dX4_allows_76 : decode cX4_allows 76 = .ok (.aload_n 0, 1) := by decide +kernel
theorem dX4_allows_77 : decode cX4_allows 77 = .ok (.getfield 34, 3) := by decide +kernel
theorem dX4_allows_80 : decode cX4_allows 80 = .ok (.ifCond .ne 20, 3) := by decide +kernel
theorem dX4_allows_83 : decode cX4_allows 83 = .ok (.aload_n 0, 1) := by decide +kernel
theorem dX4_allows_84 : decode cX4_allows 84 = .ok (.getfield 38, 3) := by decide +kernel
theorem dX4_allows_87 : decode cX4_allows 87 = .ok (.iconst 1, 1) := by decide +kernel
theorem dX4_allows_88 : decode cX4_allows 88 = .ok (.iadd, 1) := by decide +kernel
theorem dX4_allows_89 : decode cX4_allows 89 = .ok (.aload_n 0, 1) := by decide +kernel
theorem dX4_allows_90 : decode cX4_allows 90 = .ok (.getfield 21, 3) := by decide +kernel
theorem dX4_allows_93 : decode cX4_allows 93 = .ok (.if_icmp .ge 7, 3) := by decide +kernel
theorem dX4_allows_96 : decode cX4_allows 96 = .ok (.iconst 1, 1) := by decide +kernel
theorem dX4_allows_97 : decode cX4_allows 97 = .ok (.goto 4, 3) := by decide +kernel
theorem dX4_allows_100 : decode cX4_allows 100 = .ok (.iconst 0, 1) := by decide +kernel
theorem dX4_allows_101 : decode cX4_allows 101 = .ok (.ireturn, 1) := by decide +kernel
theorem dX4_allows_102 : decode cX4_allows 102 = .ok (.aload_n 0, 1) := by decide +kernel
theorem dX4_allows_103 : decode cX4_allows 103 = .ok (.getfield 34, 3) := by decide +kernel
theorem dX4_allows_106 : decode cX4_allows 106 = .ok (.ifCond .ne 14, 3) := by decide +kernel
theorem dX4_allows_109 : decode cX4_allows 109 = .ok (.aload_n 0, 1) := by decide +kernel
theorem dX4_allows_110 : decode cX4_allows 110 = .ok (.getfield 38, 3) := by decide +kernel
theorem dX4_allows_113 : decode cX4_allows 113 = .ok (.ifCond .le 7, 3) := by decide +kernel
theorem dX4_allows_116 : decode cX4_allows 116 = .ok (.iconst 1, 1) := by decide +kernel
theorem dX4_allows_117 : decode cX4_allows 117 = .ok (.goto 4, 3) := by decide +kernel
theorem dX4_allows_120 : decode cX4_allows 120 = .ok (.iconst 0, 1) := by decide +kernel
theorem dX4_allows_121 : decode cX4_allows 121 = .ok (.ireturn, 1) := by decide +kernel
theorem dX4_allows_122 : decode cX4_allows 122 = .ok (.iconst 1, 1) := by decide +kernel
theorem dX4_allows_123 : decode cX4_allows 123 = .ok (.ireturn, 1) := by decide +kernel
set_option maxRecDepth 20000 in
theorem ggX4_make_X4_go : GoodIn wsX4_make wsX4_go := goodIn_r _ [7, 8, 9, 10, 11, 12, 13, 6, 14, 15, 16, 17, 18, 19, 20, 21, 22, 23, 24, 25, 26, 27, 28, 29, 30, 31] (by decide +kernel) (by decide +kernel)
set_option maxRecDepth 20000 in
theorem gX4_make_X4_go : GoodIn wsX4_make (wsV RX4 41 RX4 yX4_go wsX4_go) := goodIn_app (goodIn_of _ (by decide +kernel)) ggX4_make_X4_go
theorem dX4_make_0 : decode cX4_make 0 = .ok (.aload_n 0, 1) := by decide +kernel
theorem dX4_make_1 : decode cX4_make 1 = .ok (.getfield 28, 3) := by decide +kernel
theorem dX4_make_4 : decode cX4_make 4 = .ok (.sipush 200, 3) := by decide +kernel
theorem dX4_make_7 : decode cX4_make 7 = .ok (.if_icmp .ge 29, 3) := by decide +kernel
theorem dX4_make_10 : decode cX4_make 10 = .ok (.aload_n 0, 1) := by decide +kernel
theorem dX4_make_11 : decode cX4_make 11 = .ok (.getfield 18, 3) := by decide +kernel
theorem dX4_make_14 : decode cX4_make 14 = .ok (.aload_n 0, 1) := by decide +kernel
theorem dX4_make_15 : decode cX4_make 15 = .ok (.getfield 28, 3) := by decide +kernel
theorem dX4_make_18 : decode cX4_make 18 = .ok (.iload_n 1, 1) := by decide +kernel
theorem dX4_make_19 : decode cX4_make 19 = .ok (.iastore, 1) := by decide +kernel
theorem dX4_make_20 : decode cX4_make 20 = .ok (.aload_n 0, 1) := by decide +kernel
theorem dX4_make_21 : decode cX4_make 21 = .ok (.dup, 1) := by decide +kernel
theorem dX4_make_22 : decode cX4_make 22 = .ok (.getfield 28, 3) := by decide +kernel
theorem dX4_make_25 : decode cX4_make 25 = .ok (.iconst 1, 1) := by decide +kernel
theorem dX4_make_26 : decode cX4_make 26 = .ok (.iadd, 1) := by decide +kernel
theorem dX4_make_27 : decode cX4_make 27 = .ok (.putfield 28, 3) := by decide +kernel
theorem dX4_make_30 : decode cX4_make 30 = .ok (.aload_n 0, 1) := by decide +kernel
theorem dX4_make_31 : decode cX4_make 31 = .ok (.iload_n 1, 1) := by decide +kernel
theorem dX4_make_32 : decode cX4_make 32 = .ok (.iconst 1, 1) := by decide +kernel
theorem dX4_make_33 : decode cX4_make 33 = .ok (.invokevirtual 41, 3) := by decide +kernel
theorem dX4_make_36 : decode cX4_make 36 = .ok (.return_, 1) := by decide +kernel
set_option maxRecDepth 20000 in
theorem ggX4_takeBack_X4_opposite : GoodIn wsX4_takeBack wsX4_opposite := goodIn_r _ [6] (by decide +kernel) (by decide +kernel)
set_option maxRecDepth 20000 in
theorem gX4_takeBack_X4_opposite : GoodIn wsX4_takeBack (va_wsS RX4 45 yX4_opposite wsX4_opposite) := goodIn_app (goodIn_of _ (by decide +kernel)) ggX4_takeBack_X4_opposite
set_option maxRecDepth 20000 in
theorem ggX4_takeBack_X4_go : GoodIn wsX4_takeBack wsX4_go := goodIn_r _ [10, 11, 12, 13, 14, 15, 16, 5, 17, 18, 19, 20, 21, 22, 23, 24, 25, 26, 27, 28, 29, 30, 31, 32, 33, 34] (by decide +kernel) (by decide +kernel)
set_option maxRecDepth 20000 in
theorem gX4_takeBack_X4_go : GoodIn wsX4_takeBack (wsV RX4 41 RX4 yX4_go wsX4_go) := goodIn_app (goodIn_of _ (by decide +kernel)) ggX4_takeBack_X4_go
theorem dX4_takeBack_0 : decode cX4_takeBack 0 = .ok (.aload_n 0, 1) := by decide +kernel
theorem dX4_takeBack_1 : decode cX4_takeBack 1 = .ok (.getfield 28, 3) := by decide +kernel
theorem dX4_takeBack_4 : decode cX4_takeBack 4 = .ok (.ifCond .le 30, 3) := by decide +kernel
theorem dX4_takeBack_7 : decode cX4_takeBack 7 = .ok (.aload_n 0, 1) := by decide +kernel
theorem dX4_takeBack_8 : decode cX4_takeBack 8 = .ok (.dup, 1) := by decide +kernel
theorem dX4_takeBack_9 : decode cX4_takeBack 9 = .ok (.getfield 28, 3) := by decide +kernel
theorem dX4_takeBack_12 : decode cX4_takeBack 12 = .ok (.iconst 1, 1) := by decide +kernel
theorem dX4_takeBack_13 : decode cX4_takeBack 13 = .ok (.isub, 1) := by decide +kernel
theorem dX4_takeBack_14 : decode cX4_takeBack 14 = .ok (.putfield 28, 3) := by decide +kernel
theorem dX4_takeBack_17 : decode cX4_takeBack 17 = .ok (.aload_n 0, 1) := by decide +kernel
theorem dX4_takeBack_18 : decode cX4_takeBack 18 = .ok (.aload_n 0, 1) := by decide +kernel
theorem dX4_takeBack_19 : decode cX4_takeBack 19 = .ok (.getfield 18, 3) := by decide +kernel
theorem dX4_takeBack_22 : decode cX4_takeBack 22 = .ok (.aload_n 0, 1) := by decide +kernel
theorem dX4_takeBack_23 : decode cX4_takeBack 23 = .ok (.getfield 28, 3) := by decide +kernel
theorem dX4_takeBack_26 : decode cX4_takeBack 26 = .ok (.iaload, 1) := by decide +kernel
theorem dX4_takeBack_27 : decode cX4_takeBack 27 = .ok (.invokestatic 45, 3) := by decide +kernel
theorem dX4_takeBack_30 : decode cX4_takeBack 30 = .ok (.iconst (-1), 1) := by decide +kernel
theorem dX4_takeBack_31 : decode cX4_takeBack 31 = .ok (.invokevirtual 41, 3) := by decide +kernel
theorem dX4_takeBack_34 : decode cX4_takeBack 34 = .ok (.return_, 1) := by decide +kernel
theorem dX4_opposite_0 : decode cX4_opposite 0 = .ok (.iload_n 0, 1) := by decide +kernel
theorem dX4_opposite_1 : decode cX4_opposite 1 = .ok (.tableswitch 39 1 4 #[31, 33, 35, 37], 31) := by decide +kernel
theorem dX4_opposite_32 : decode cX4_opposite 32 = .ok (.iconst 2, 1) := by decide +kernel
theorem dX4_opposite_33 : decode cX4_opposite 33 = .ok (.ireturn, 1) := by decide +kernel
theorem dX4_opposite_34 : decode cX4_opposite 34 = .ok (.iconst 1, 1) := by decide +kernel
theorem dX4_opposite_35 : decode cX4_opposite 35 = .ok (.ireturn, 1) := by decide +kernel
theorem dX4_opposite_36 : decode cX4_opposite 36 = .ok (.iconst 4, 1) := by decide +kernel
theorem dX4_opposite_37 : decode cX4_opposite 37 = .ok (.ireturn, 1) := by decide +kernel
theorem dX4_opposite_38 : decode cX4_opposite 38 = .ok (.iconst 3, 1) := by decide +kernel
theorem dX4_opposite_39 : decode cX4_opposite 39 = .ok (.ireturn, 1) := by decide +kernel
theorem dX4_opposite_40 : decode cX4_opposite 40 = .ok (.iconst 0, 1) := by decide +kernel
theorem dX4_opposite_41 : decode cX4_opposite 41 = .ok (.ireturn, 1) := by decide +kernel
set_option maxRecDepth 20000 in
theorem ggX4_go_X4_pass : GoodIn wsX4_go wsX4_pass := goodIn_r _ [8, 9, 2, 3, 10, 16, 17, 18, 19, 20, 21, 22, 23, 24, 25] (by decide +kernel) (by decide +kernel)
set_option maxRecDepth 20000 in
theorem gX4_go_X4_pass : GoodIn wsX4_go (wsV RX4 49 RX4 yX4_pass wsX4_pass) := goodIn_app (goodIn_of _ (by decide +kernel)) ggX4_go_X4_pass
set_option maxRecDepth 20000 in
theorem ggX4_go_X4_link : GoodIn wsX4_go wsX4_link := goodIn_r _ [14, 9, 15, 16, 17, 18, 19, 20, 21, 22, 23, 24, 25] (by decide +kernel) (by decide +kernel)
set_option maxRecDepth 20000 in
theorem gX4_go_X4_link : GoodIn wsX4_go (wsV RX4 52 RX4 yX4_link wsX4_link) := goodIn_app (goodIn_of _ (by decide +kernel)) ggX4_go_X4_link
theorem dX4_go_0 : decode cX4_go 0 = .ok (.iload_n 1, 1) := by decide +kernel
theorem dX4_go_1 : decode cX4_go 1 = .ok (.tableswitch 119 1 4 #[31, 53, 75, 97], 31) := by decide +kernel
theorem dX4_go_32 : decode cX4_go 32 = .ok (.aload_n 0, 1) := by decide +kernel
theorem dX4_go_33 : decode cX4_go 33 = .ok (.aload_n 0, 1) := by decide +kernel
theorem dX4_go_34 : decode cX4_go 34 = .ok (.getfield 31, 3) := by decide +kernel
theorem dX4_go_37 : decode cX4_go 37 = .ok (.iload_n 2, 1) := by decide +kernel
theorem dX4_go_38 : decode cX4_go 38 = .ok (.invokevirtual 49, 3) := by decide +kernel
theorem dX4_go_41 : decode cX4_go 41 = .ok (.aload_n 0, 1) := by decide +kernel
theorem dX4_go_42 : decode cX4_go 42 = .ok (.dup, 1) := by decide +kernel
theorem dX4_go_43 : decode cX4_go 43 = .ok (.getfield 31, 3) := by decide +kernel
theorem dX4_go_46 : decode cX4_go 46 = .ok (.iconst 1, 1) := by decide +kernel
theorem dX4_go_47 : decode cX4_go 47 = .ok (.iadd, 1) := by decide +kernel
theorem dX4_go_48 : decode cX4_go 48 = .ok (.putfield 31, 3) := by decide +kernel
theorem dX4_go_51 : decode cX4_go 51 = .ok (.goto 85, 3) := by decide +kernel
theorem dX4_go_54 : decode cX4_go 54 = .ok (.aload_n 0, 1) := by decide +kernel
theorem dX4_go_55 : decode cX4_go 55 = .ok (.dup, 1) := by decide +kernel
theorem dX4_go_56 : decode cX4_go 56 = .ok (.getfield 31, 3) := by decide +kernel
theorem dX4_go_59 : decode cX4_go 59 = .ok (.iconst 1, 1) := by decide +kernel
theorem dX4_go_60 : decode cX4_go 60 = .ok (.isub, 1) := by decide +kernel
theorem dX4_go_61 : decode cX4_go 61 = .ok (.putfield 31, 3) := by decide +kernel
theorem dX4_go_64 : decode cX4_go 64 = .ok (.aload_n 0, 1) := by decide +kernel
theorem dX4_go_65 : decode cX4_go 65 = .ok (.aload_n 0, 1) := by decide +kernel
theorem dX4_go_66 : decode cX4_go 66 = .ok (.getfield 31, 3) := by decide +kernel
theorem dX4_go_69 : decode cX4_go 69 = .ok (.iload_n 2, 1) := by decide +kernel
theorem dX4_go_70 : decode cX4_go 70 = .ok (.invokevirtual 49, 3) := by decide +kernel
theorem dX4_go_73 : decode cX4_go 73 = .ok (.goto 63, 3) := by decide +kernel
theorem dX4_go_76 : decode cX4_go 76 = .ok (.aload_n 0, 1) := by decide +kernel
theorem dX4_go_77 : decode cX4_go 77 = .ok (.aload_n 0, 1) := by decide +kernel
theorem dX4_go_78 : decode cX4_go 78 = .ok (.getfield 38, 3) := by decide +kernel
theorem dX4_go_81 : decode cX4_go 81 = .ok (.iload_n 2, 1) := by decide +kernel
theorem dX4_go_82 : decode cX4_go 82 = .ok (.invokevirtual 52, 3) := by decide +kernel
theorem dX4_go_85 : decode cX4_go 85 = .ok (.aload_n 0, 1) := by decide +kernel
theorem dX4_go_86 : decode cX4_go 86 = .ok (.dup, 1) := by decide +kernel
theorem dX4_go_87 : decode cX4_go 87 = .ok (.getfield 38, 3) := by decide +kernel
theorem dX4_go_90 : decode cX4_go 90 = .ok (.iconst 1, 1) := by decide +kernel
theorem dX4_go_91 : decode cX4_go 91 = .ok (.iadd, 1) := by decide +kernel
theorem dX4_go_92 : decode cX4_go 92 = .ok (.putfield 38, 3) := by decide +kernel
theorem dX4_go_95 : decode cX4_go 95 = .ok (.goto 41, 3) := by decide +kernel
theorem dX4_go_98 : decode cX4_go 98 = .ok (.aload_n 0, 1) := by decide +kernel
theorem dX4_go_99 : decode cX4_go 99 = .ok (.dup, 1) := by decide +kernel
theorem dX4_go_100 : decode cX4_go 100 = .ok (.getfield 38, 3) := by decide +kernel
theorem dX4_go_103 : decode cX4_go 103 = .ok (.iconst 1, 1) := by decide +kernel
theorem dX4_go_104 : decode cX4_go 104 = .ok (.isub, 1) := by decide +kernel
theorem dX4_go_105 : decode cX4_go 105 = .ok (.putfield 38, 3) := by decide +kernel
theorem dX4_go_108 : decode cX4_go 108 = .ok (.aload_n 0, 1) := by decide +kernel
theorem dX4_go_109 : decode cX4_go 109 = .ok (.aload_n 0, 1) := by decide +kernel
theorem dX4_go_110 : decode cX4_go 110 = .ok (.getfield 38, 3) := by decide +kernel
theorem dX4_go_113 : decode cX4_go 113 = .ok (.iload_n 2, 1) := by decide +kernel
theorem dX4_go_114 : decode cX4_go 114 = .ok (.invokevirtual 52, 3) := by decide +kernel
theorem dX4_go_117 : decode cX4_go 117 = .ok (.goto 19, 3) := by decide +kernel
theorem dX4_go_120 : decode cX4_go 120 = .ok (.aload_n 0, 1) := by decide +kernel
theorem dX4_go_121 : decode cX4_go 121 = .ok (.aload_n 0, 1) := by decide +kernel
theorem dX4_go_122 : decode cX4_go 122 = .ok (.getfield 34, 3) := by decide +kernel
theorem dX4_go_125 : decode cX4_go 125 = .ok (.ifCond .ne 7, 3) := by decide +kernel
theorem dX4_go_128 : decode cX4_go 128 = .ok (.iconst 1, 1) := by decide +kernel
theorem dX4_go_129 : decode cX4_go 129 = .ok (.goto 4, 3) := by decide +kernel
theorem dX4_go_132 : decode cX4_go 132 = .ok (.iconst 0, 1) := by decide +kernel
theorem dX4_go_133 : decode cX4_go 133 = .ok (.putfield 34, 3) := by decide +kernel
theorem dX4_go_136 : decode cX4_go 136 = .ok (.return_, 1) := by decide +kernel
theorem dX4_pass_0 : decode cX4_pass 0 = .ok (.aload_n 0, 1) := by decide +kernel
theorem dX4_pass_1 : decode cX4_pass 1 = .ok (.dup, 1) := by decide +kernel
theorem dX4_pass_2 : decode cX4_pass 2 = .ok (.getfield 55, 3) := by decide +kernel
theorem dX4_pass_5 : decode cX4_pass 5 = .ok (.iload_n 2, 1) := by decide +kernel
theorem dX4_pass_6 : decode cX4_pass 6 = .ok (.bipush 10, 2) := by decide +kernel
theorem dX4_pass_8 : decode cX4_pass 8 = .ok (.imul, 1) := by decide +kernel
theorem dX4_pass_9 : decode cX4_pass 9 = .ok (.iadd, 1) := by decide +kernel
theorem dX4_pass_10 : decode cX4_pass 10 = .ok (.putfield 55, 3) := by decide +kernel
theorem dX4_pass_13 : decode cX4_pass 13 = .ok (.aload_n 0, 1) := by decide +kernel
theorem dX4_pass_14 : decode cX4_pass 14 = .ok (.getfield 38, 3) := by decide +kernel
theorem dX4_pass_17 : decode cX4_pass 17 = .ok (.iconst 5, 1) := by decide +kernel
theorem dX4_pass_18 : decode cX4_pass 18 = .ok (.imul, 1) := by decide +kernel
theorem dX4_pass_19 : decode cX4_pass 19 = .ok (.iload_n 1, 1) := by decide +kernel
theorem dX4_pass_20 : decode cX4_pass 20 = .ok (.iadd, 1) := by decide +kernel
theorem dX4_pass_21 : decode cX4_pass 21 = .ok (.istore_n 3, 1) := by decide +kernel
theorem dX4_pass_22 : decode cX4_pass 22 = .ok (.aload_n 0, 1) := by decide +kernel
theorem dX4_pass_23 : decode cX4_pass 23 = .ok (.getfield 34, 3) := by decide +kernel
theorem dX4_pass_26 : decode cX4_pass 26 = .ok (.ifCond .eq 26, 3) := by decide +kernel
theorem dX4_pass_29 : decode cX4_pass 29 = .ok (.iload_n 3, 1) := by decide +kernel
theorem dX4_pass_30 : decode cX4_pass 30 = .ok (.ifCond .lt 22, 3) := by decide +kernel
theorem dX4_pass_33 : decode cX4_pass 33 = .ok (.iload_n 3, 1) := by decide +kernel
theorem dX4_pass_34 : decode cX4_pass 34 = .ok (.aload_n 0, 1) := by decide +kernel
theorem dX4_pass_35 : decode cX4_pass 35 = .ok (.getfield 9, 3) := by decide +kernel
theorem dX4_pass_38 : decode cX4_pass 38 = .ok (.arraylength, 1) := by decide +kernel
theorem dX4_pass_39 : decode cX4_pass 39 = .ok (.if_icmp .ge 13, 3) := by decide +kernel
theorem dX4_pass_42 : decode cX4_pass 42 = .ok (.aload_n 0, 1) := by decide +kernel
theorem dX4_pass_43 : decode cX4_pass 43 = .ok (.getfield 9, 3) := by decide +kernel
theorem dX4_pass_46 : decode cX4_pass 46 = .ok (.iload_n 3, 1) := by decide +kernel
theorem dX4_pass_47 : decode cX4_pass 47 = .ok (.dup2, 1) := by decide +kernel
theorem dX4_pass_48 : decode cX4_pass 48 = .ok (.iaload, 1) := by decide +kernel
theorem dX4_pass_49 : decode cX4_pass 49 = .ok (.iload_n 2, 1) := by decide +kernel
theorem dX4_pass_50 : decode cX4_pass 50 = .ok (.iadd, 1) := by decide +kernel
theorem dX4_pass_51 : decode cX4_pass 51 = .ok (.iastore, 1) := by decide +kernel
theorem dX4_pass_52 : decode cX4_pass 52 = .ok (.return_, 1) := by decide +kernel
theorem dX4_link_0 : decode cX4_link 0 = .ok (.aload_n 0, 1) := by decide +kernel
theorem dX4_link_1 : decode cX4_link 1 = .ok (.dup, 1) := by decide +kernel
theorem dX4_link_2 : decode cX4_link 2 = .ok (.getfield 55, 3) := by decide +kernel
theorem dX4_link_5 : decode cX4_link 5 = .ok (.iload_n 2, 1) := by decide +kernel
theorem dX4_link_6 : decode cX4_link 6 = .ok (.iconst 4, 1) := by decide +kernel
theorem dX4_link_7 : decode cX4_link 7 = .ok (.imul, 1) := by decide +kernel
theorem dX4_link_8 : decode cX4_link 8 = .ok (.iadd, 1) := by decide +kernel
theorem dX4_link_9 : decode cX4_link 9 = .ok (.putfield 55, 3) := by decide +kernel
theorem dX4_link_12 : decode cX4_link 12 = .ok (.iload_n 1, 1) := by decide +kernel
theorem dX4_link_13 : decode cX4_link 13 = .ok (.ifCond .lt 22, 3) := by decide +kernel
theorem dX4_link_16 : decode cX4_link 16 = .ok (.iload_n 1, 1) := by decide +kernel
theorem dX4_link_17 : decode cX4_link 17 = .ok (.aload_n 0, 1) := by decide +kernel
theorem dX4_link_18 : decode cX4_link 18 = .ok (.getfield 15, 3) := by decide +kernel
theorem dX4_link_21 : decode cX4_link 21 = .ok (.arraylength, 1) := by decide +kernel
theorem dX4_link_22 : decode cX4_link 22 = .ok (.if_icmp .ge 13, 3) := by decide +kernel
theorem dX4_link_25 : decode cX4_link 25 = .ok (.aload_n 0, 1) := by decide +kernel
theorem dX4_link_26 : decode cX4_link 26 = .ok (.getfield 15, 3) := by decide +kernel
theorem dX4_link_29 : decode cX4_link 29 = .ok (.iload_n 1, 1) := by decide +kernel
theorem dX4_link_30 : decode cX4_link 30 = .ok (.dup2, 1) := by decide +kernel
theorem dX4_link_31 : decode cX4_link 31 = .ok (.iaload, 1) := by decide +kernel
theorem dX4_link_32 : decode cX4_link 32 = .ok (.iload_n 2, 1) := by decide +kernel
theorem dX4_link_33 : decode cX4_link 33 = .ok (.iadd, 1) := by decide +kernel
theorem dX4_link_34 : decode cX4_link 34 = .ok (.iastore, 1) := by decide +kernel
theorem dX4_link_35 : decode cX4_link 35 = .ok (.return_, 1) := by decide +kernel
theorem dX4_stitchesAt_0 : decode cX4_stitchesAt 0 = .ok (.iload_n 1, 1) := by decide +kernel
theorem dX4_stitchesAt_1 : decode cX4_stitchesAt 1 = .ok (.iconst 5, 1) := by decide +kernel
theorem dX4_stitchesAt_2 : decode cX4_stitchesAt 2 = .ok (.imul, 1) := by decide +kernel
theorem dX4_stitchesAt_3 : decode cX4_stitchesAt 3 = .ok (.iload_n 2, 1) := by decide +kernel
theorem dX4_stitchesAt_4 : decode cX4_stitchesAt 4 = .ok (.iadd, 1) := by decide +kernel
theorem dX4_stitchesAt_5 : decode cX4_stitchesAt 5 = .ok (.istore_n 3, 1) := by decide +kernel
theorem dX4_stitchesAt_6 : decode cX4_stitchesAt 6 = .ok (.iload_n 3, 1) := by decide +kernel
theorem dX4_stitchesAt_7 : decode cX4_stitchesAt 7 = .ok (.ifCond .lt 21, 3) := by decide +kernel
theorem dX4_stitchesAt_10 : decode cX4_stitchesAt 10 = .ok (.iload_n 3, 1) := by decide +kernel
theorem dX4_stitchesAt_11 : decode cX4_stitchesAt 11 = .ok (.aload_n 0, 1) := by decide +kernel
theorem dX4_stitchesAt_12 : decode cX4_stitchesAt 12 = .ok (.getfield 9, 3) := by decide +kernel
theorem dX4_stitchesAt_15 : decode cX4_stitchesAt 15 = .ok (.arraylength, 1) := by decide +kernel
theorem dX4_stitchesAt_16 : decode cX4_stitchesAt 16 = .ok (.if_icmp .ge 12, 3) := by decide +kernel
theorem dX4_stitchesAt_19 : decode cX4_stitchesAt 19 = .ok (.aload_n 0, 1) := by decide +kernel
theorem dX4_stitchesAt_20 : decode cX4_stitchesAt 20 = .ok (.getfield 9, 3) := by decide +kernel
theorem dX4_stitchesAt_23 : decode cX4_stitchesAt 23 = .ok (.iload_n 3, 1) := by decide +kernel
theorem dX4_stitchesAt_24 : decode cX4_stitchesAt 24 = .ok (.iaload, 1) := by decide +kernel
theorem dX4_stitchesAt_25 : decode cX4_stitchesAt 25 = .ok (.goto 4, 3) := by decide +kernel
theorem dX4_stitchesAt_28 : decode cX4_stitchesAt 28 = .ok (.iconst 0, 1) := by decide +kernel
theorem dX4_stitchesAt_29 : decode cX4_stitchesAt 29 = .ok (.ireturn, 1) := by decide +kernel
set_option maxRecDepth 20000 in
theorem ggX4_holds_X4_stitchesAt : GoodIn wsX4_holds wsX4_stitchesAt := goodIn_r _ [6, 7, 8, 9, 10, 11, 12, 13, 14, 15, 16, 17] (by decide +kernel) (by decide +kernel)
set_option maxRecDepth 20000 in
theorem gX4_holds_X4_stitchesAt : GoodIn wsX4_holds (wsV RX4 58 RX4 yX4_stitchesAt wsX4_stitchesAt) := goodIn_app (goodIn_of _ (by decide +kernel)) ggX4_holds_X4_stitchesAt
theorem dX4_holds_0 : decode cX4_holds 0 = .ok (.iconst 0, 1) := by decide +kernel
theorem dX4_holds_1 : decode cX4_holds 1 = .ok (.istore_n 2, 1) := by decide +kernel
theorem dX4_holds_2 : decode cX4_holds 2 = .ok (.iconst 0, 1) := by decide +kernel
theorem dX4_holds_3 : decode cX4_holds 3 = .ok (.istore_n 3, 1) := by decide +kernel
theorem dX4_holds_4 : decode cX4_holds 4 = .ok (.iload_n 3, 1) := by decide +kernel
theorem dX4_holds_5 : decode cX4_holds 5 = .ok (.aload_n 0, 1) := by decide +kernel
theorem dX4_holds_6 : decode cX4_holds 6 = .ok (.getfield 25, 3) := by decide +kernel
theorem dX4_holds_9 : decode cX4_holds 9 = .ok (.iconst 1, 1) := by decide +kernel
theorem dX4_holds_10 : decode cX4_holds 10 = .ok (.isub, 1) := by decide +kernel
theorem dX4_holds_11 : decode cX4_holds 11 = .ok (.if_icmp .ge 26, 3) := by decide +kernel
theorem dX4_holds_14 : decode cX4_holds 14 = .ok (.iload_n 2, 1) := by decide +kernel
theorem dX4_holds_15 : decode cX4_holds 15 = .ok (.aload_n 0, 1) := by decide +kernel
theorem dX4_holds_16 : decode cX4_holds 16 = .ok (.iload_n 1, 1) := by decide +kernel
theorem dX4_holds_17 : decode cX4_holds 17 = .ok (.iload_n 3, 1) := by decide +kernel
theorem dX4_holds_18 : decode cX4_holds 18 = .ok (.invokevirtual 58, 3) := by decide +kernel
theorem dX4_holds_21 : decode cX4_holds 21 = .ok (.ifCond .le 7, 3) := by decide +kernel
theorem dX4_holds_24 : decode cX4_holds 24 = .ok (.iconst 1, 1) := by decide +kernel
theorem dX4_holds_25 : decode cX4_holds 25 = .ok (.goto 4, 3) := by decide +kernel
theorem dX4_holds_28 : decode cX4_holds 28 = .ok (.iconst 0, 1) := by decide +kernel
theorem dX4_holds_29 : decode cX4_holds 29 = .ok (.iadd, 1) := by decide +kernel
theorem dX4_holds_30 : decode cX4_holds 30 = .ok (.istore_n 2, 1) := by decide +kernel
theorem dX4_holds_31 : decode cX4_holds 31 = .ok (.iinc 3 1, 3) := by decide +kernel
theorem dX4_holds_34 : decode cX4_holds 34 = .ok (.goto (-30), 3) := by decide +kernel
theorem dX4_holds_37 : decode cX4_holds 37 = .ok (.iload_n 2, 1) := by decide +kernel
theorem dX4_holds_38 : decode cX4_holds 38 = .ok (.aload_n 0, 1) := by decide +kernel
theorem dX4_holds_39 : decode cX4_holds 39 = .ok (.getfield 25, 3) := by decide +kernel
theorem dX4_holds_42 : decode cX4_holds 42 = .ok (.iconst 2, 1) := by decide +kernel
theorem dX4_holds_43 : decode cX4_holds 43 = .ok (.idiv, 1) := by decide +kernel
theorem dX4_holds_44 : decode cX4_holds 44 = .ok (.if_icmp .lt 7, 3) := by decide +kernel
theorem dX4_holds_47 : decode cX4_holds 47 = .ok (.iconst 1, 1) := by decide +kernel
theorem dX4_holds_48 : decode cX4_holds 48 = .ok (.goto 4, 3) := by decide +kernel
theorem dX4_holds_51 : decode cX4_holds 51 = .ok (.iconst 0, 1) := by decide +kernel
theorem dX4_holds_52 : decode cX4_holds 52 = .ok (.ireturn, 1) := by decide +kernel
set_option maxRecDepth 20000 in
theorem ggX4_isSewn_X4_holds : GoodIn wsX4_isSewn wsX4_holds := goodIn_r _ [8, 9, 10, 11, 12, 7, 13, 14, 15, 16, 17, 18, 19, 20, 21, 22, 23, 24] (by decide +kernel) (by decide +kernel)
set_option maxRecDepth 20000 in
theorem gX4_isSewn_X4_holds : GoodIn wsX4_isSewn (wsV RX4 62 RX4 yX4_holds wsX4_holds) := goodIn_app (goodIn_of _ (by decide +kernel)) ggX4_isSewn_X4_holds
theorem dX4_isSewn_0 : decode cX4_isSewn 0 = .ok (.aload_n 0, 1) := by decide +kernel
theorem dX4_isSewn_1 : decode cX4_isSewn 1 = .ok (.getfield 34, 3) := by decide +kernel
theorem dX4_isSewn_4 : decode cX4_isSewn 4 = .ok (.ifCond .ne 7, 3) := by decide +kernel
theorem dX4_isSewn_7 : decode cX4_isSewn 7 = .ok (.iconst 1, 1) := by decide +kernel
theorem dX4_isSewn_8 : decode cX4_isSewn 8 = .ok (.goto 4, 3) := by decide +kernel
theorem dX4_isSewn_11 : decode cX4_isSewn 11 = .ok (.iconst 0, 1) := by decide +kernel
theorem dX4_isSewn_12 : decode cX4_isSewn 12 = .ok (.istore_n 1, 1) := by decide +kernel
theorem dX4_isSewn_13 : decode cX4_isSewn 13 = .ok (.iconst 0, 1) := by decide +kernel
theorem dX4_isSewn_14 : decode cX4_isSewn 14 = .ok (.istore_n 2, 1) := by decide +kernel
theorem dX4_isSewn_15 : decode cX4_isSewn 15 = .ok (.iload_n 2, 1) := by decide +kernel
theorem dX4_isSewn_16 : decode cX4_isSewn 16 = .ok (.aload_n 0, 1) := by decide +kernel
theorem dX4_isSewn_17 : decode cX4_isSewn 17 = .ok (.getfield 21, 3) := by decide +kernel
theorem dX4_isSewn_20 : decode cX4_isSewn 20 = .ok (.if_icmp .ge 27, 3) := by decide +kernel
theorem dX4_isSewn_23 : decode cX4_isSewn 23 = .ok (.iload_n 1, 1) := by decide +kernel
theorem dX4_isSewn_24 : decode cX4_isSewn 24 = .ok (.ifCond .eq 15, 3) := by decide +kernel
theorem dX4_isSewn_27 : decode cX4_isSewn 27 = .ok (.aload_n 0, 1) := by decide +kernel
theorem dX4_isSewn_28 : decode cX4_isSewn 28 = .ok (.iload_n 2, 1) := by decide +kernel
theorem dX4_isSewn_29 : decode cX4_isSewn 29 = .ok (.invokevirtual 62, 3) := by decide +kernel
theorem dX4_isSewn_32 : decode cX4_isSewn 32 = .ok (.ifCond .eq 7, 3) := by decide +kernel
theorem dX4_isSewn_35 : decode cX4_isSewn 35 = .ok (.iconst 1, 1) := by decide +kernel
theorem dX4_isSewn_36 : decode cX4_isSewn 36 = .ok (.goto 4, 3) := by decide +kernel
theorem dX4_isSewn_39 : decode cX4_isSewn 39 = .ok (.iconst 0, 1) := by decide +kernel
theorem dX4_isSewn_40 : decode cX4_isSewn 40 = .ok (.istore_n 1, 1) := by decide +kernel
theorem dX4_isSewn_41 : decode cX4_isSewn 41 = .ok (.iinc 2 1, 3) := by decide +kernel
theorem dX4_isSewn_44 : decode cX4_isSewn 44 = .ok (.goto (-29), 3) := by decide +kernel
theorem dX4_isSewn_47 : decode cX4_isSewn 47 = .ok (.iconst 0, 1) := by decide +kernel
theorem dX4_isSewn_48 : decode cX4_isSewn 48 = .ok (.istore_n 2, 1) := by decide +kernel
theorem dX4_isSewn_49 : decode cX4_isSewn 49 = .ok (.iload_n 2, 1) := by decide +kernel
theorem dX4_isSewn_50 : decode cX4_isSewn 50 = .ok (.aload_n 0, 1) := by decide +kernel
theorem dX4_isSewn_51 : decode cX4_isSewn 51 = .ok (.getfield 21, 3) := by decide +kernel
theorem dX4_isSewn_54 : decode cX4_isSewn 54 = .ok (.iconst 1, 1) := by decide +kernel
theorem dX4_isSewn_55 : decode cX4_isSewn 55 = .ok (.isub, 1) := by decide +kernel
theorem dX4_isSewn_56 : decode cX4_isSewn 56 = .ok (.if_icmp .ge 37, 3) := by decide +kernel
theorem dX4_isSewn_59 : decode cX4_isSewn 59 = .ok (.iload_n 2, 1) := by decide +kernel
theorem dX4_isSewn_60 : decode cX4_isSewn 60 = .ok (.aload_n 0, 1) := by decide +kernel
theorem dX4_isSewn_61 : decode cX4_isSewn 61 = .ok (.getfield 15, 3) := by decide +kernel
theorem dX4_isSewn_64 : decode cX4_isSewn 64 = .ok (.arraylength, 1) := by decide +kernel
theorem dX4_isSewn_65 : decode cX4_isSewn 65 = .ok (.if_icmp .ge 28, 3) := by decide +kernel
theorem dX4_isSewn_68 : decode cX4_isSewn 68 = .ok (.iload_n 1, 1) := by decide +kernel
theorem dX4_isSewn_69 : decode cX4_isSewn 69 = .ok (.ifCond .eq 16, 3) := by decide +kernel
theorem dX4_isSewn_72 : decode cX4_isSewn 72 = .ok (.aload_n 0, 1) := by decide +kernel
theorem dX4_isSewn_73 : decode cX4_isSewn 73 = .ok (.getfield 15, 3) := by decide +kernel
theorem dX4_isSewn_76 : decode cX4_isSewn 76 = .ok (.iload_n 2, 1) := by decide +kernel
theorem dX4_isSewn_77 : decode cX4_isSewn 77 = .ok (.iaload, 1) := by decide +kernel
theorem dX4_isSewn_78 : decode cX4_isSewn 78 = .ok (.ifCond .le 7, 3) := by decide +kernel
theorem dX4_isSewn_81 : decode cX4_isSewn 81 = .ok (.iconst 1, 1) := by decide +kernel
theorem dX4_isSewn_82 : decode cX4_isSewn 82 = .ok (.goto 4, 3) := by decide +kernel
theorem dX4_isSewn_85 : decode cX4_isSewn 85 = .ok (.iconst 0, 1) := by decide +kernel
theorem dX4_isSewn_86 : decode cX4_isSewn 86 = .ok (.istore_n 1, 1) := by decide +kernel
theorem dX4_isSewn_87 : decode cX4_isSewn 87 = .ok (.iinc 2 1, 3) := by decide +kernel
theorem dX4_isSewn_90 : decode cX4_isSewn 90 = .ok (.goto (-41), 3) := by decide +kernel
theorem dX4_isSewn_93 : decode cX4_isSewn 93 = .ok (.iload_n 1, 1) := by decide +kernel
theorem dX4_isSewn_94 : decode cX4_isSewn 94 = .ok (.ireturn, 1) := by decide +kernel
set_option maxRecDepth 20000 in
theorem ggX4_swell_X4_mostStitches : GoodIn wsX4_swell wsX4_mostStitches := goodIn_r _ [6, 7, 8, 9, 10, 11, 12, 13, 14, 5, 15, 16, 17, 18, 19, 20, 21, 22, 23, 24, 25, 26] (by decide +kernel) (by decide +kernel)
set_option maxRecDepth 20000 in
theorem gX4_swell_X4_mostStitches : GoodIn wsX4_swell (wsV RX4 66 RX4 yX4_mostStitches wsX4_mostStitches) := goodIn_app (goodIn_of _ (by decide +kernel)) ggX4_swell_X4_mostStitches
theorem dX4_swell_0 : decode cX4_swell 0 = .ok (.iconst 0, 1) := by decide +kernel
theorem dX4_swell_1 : decode cX4_swell 1 = .ok (.istore_n 1, 1) := by decide +kernel
theorem dX4_swell_2 : decode cX4_swell 2 = .ok (.iconst 0, 1) := by decide +kernel
theorem dX4_swell_3 : decode cX4_swell 3 = .ok (.istore_n 2, 1) := by decide +kernel
theorem dX4_swell_4 : decode cX4_swell 4 = .ok (.iload_n 2, 1) := by decide +kernel
theorem dX4_swell_5 : decode cX4_swell 5 = .ok (.aload_n 0, 1) := by decide +kernel
theorem dX4_swell_6 : decode cX4_swell 6 = .ok (.getfield 21, 3) := by decide +kernel
theorem dX4_swell_9 : decode cX4_swell 9 = .ok (.if_icmp .ge 17, 3) := by decide +kernel
theorem dX4_swell_12 : decode cX4_swell 12 = .ok (.iload_n 1, 1) := by decide +kernel
theorem dX4_swell_13 : decode cX4_swell 13 = .ok (.aload_n 0, 1) := by decide +kernel
theorem dX4_swell_14 : decode cX4_swell 14 = .ok (.iload_n 2, 1) := by decide +kernel
theorem dX4_swell_15 : decode cX4_swell 15 = .ok (.invokevirtual 66, 3) := by decide +kernel
theorem dX4_swell_18 : decode cX4_swell 18 = .ok (.iadd, 1) := by decide +kernel
theorem dX4_swell_19 : decode cX4_swell 19 = .ok (.istore_n 1, 1) := by decide +kernel
theorem dX4_swell_20 : decode cX4_swell 20 = .ok (.iinc 2 1, 3) := by decide +kernel
theorem dX4_swell_23 : decode cX4_swell 23 = .ok (.goto (-19), 3) := by decide +kernel
theorem dX4_swell_26 : decode cX4_swell 26 = .ok (.iconst 3, 1) := by decide +kernel
theorem dX4_swell_27 : decode cX4_swell 27 = .ok (.iload_n 1, 1) := by decide +kernel
theorem dX4_swell_28 : decode cX4_swell 28 = .ok (.imul, 1) := by decide +kernel
theorem dX4_swell_29 : decode cX4_swell 29 = .ok (.ireturn, 1) := by decide +kernel
set_option maxRecDepth 20000 in
theorem ggX4_mostStitches_X4_stitchesAt : GoodIn wsX4_mostStitches wsX4_stitchesAt := goodIn_r _ [10, 11, 12, 13, 14, 15, 16, 17, 18, 19, 20, 21] (by decide +kernel) (by decide +kernel)
set_option maxRecDepth 20000 in
theorem gX4_mostStitches_X4_stitchesAt : GoodIn wsX4_mostStitches (wsV RX4 58 RX4 yX4_stitchesAt wsX4_stitchesAt) := goodIn_app (goodIn_of _ (by decide +kernel)) ggX4_mostStitches_X4_stitchesAt
theorem dX4_mostStitches_0 : decode cX4_mostStitches 0 = .ok (.iconst 0, 1) := by decide +kernel
theorem dX4_mostStitches_1 : decode cX4_mostStitches 1 = .ok (.istore_n 2, 1) := by decide +kernel
theorem dX4_mostStitches_2 : decode cX4_mostStitches 2 = .ok (.iconst 0, 1) := by decide +kernel
theorem dX4_mostStitches_3 : decode cX4_mostStitches 3 = .ok (.istore_n 3, 1) := by decide +kernel
theorem dX4_mostStitches_4 : decode cX4_mostStitches 4 = .ok (.iload_n 3, 1) := by decide +kernel
theorem dX4_mostStitches_5 : decode cX4_mostStitches 5 = .ok (.aload_n 0, 1) := by decide +kernel
theorem dX4_mostStitches_6 : decode cX4_mostStitches 6 = .ok (.getfield 25, 3) := by decide +kernel
theorem dX4_mostStitches_9 : decode cX4_mostStitches 9 = .ok (.iconst 1, 1) := by decide +kernel
theorem dX4_mostStitches_10 : decode cX4_mostStitches 10 = .ok (.isub, 1) := by decide +kernel
theorem dX4_mostStitches_11 : decode cX4_mostStitches 11 = .ok (.if_icmp .ge 20, 3) := by decide +kernel
theorem dX4_mostStitches_14 : decode cX4_mostStitches 14 = .ok (.iload_n 2, 1) := by decide +kernel
theorem dX4_mostStitches_15 : decode cX4_mostStitches 15 = .ok (.aload_n 0, 1) := by decide +kernel
theorem dX4_mostStitches_16 : decode cX4_mostStitches 16 = .ok (.iload_n 1, 1) := by decide +kernel
theorem dX4_mostStitches_17 : decode cX4_mostStitches 17 = .ok (.iload_n 3, 1) := by decide +kernel
theorem dX4_mostStitches_18 : decode cX4_mostStitches 18 = .ok (.invokevirtual 58, 3) := by decide +kernel
theorem dX4_mostStitches_21 : decode cX4_mostStitches 21 = .ok (.invokestatic 69, 3) := by decide +kernel
theorem dX4_mostStitches_24 : decode cX4_mostStitches 24 = .ok (.istore_n 2, 1) := by decide +kernel
theorem dX4_mostStitches_25 : decode cX4_mostStitches 25 = .ok (.iinc 3 1, 3) := by decide +kernel
theorem dX4_mostStitches_28 : decode cX4_mostStitches 28 = .ok (.goto (-24), 3) := by decide +kernel
theorem dX4_mostStitches_31 : decode cX4_mostStitches 31 = .ok (.iload_n 2, 1) := by decide +kernel
theorem dX4_mostStitches_32 : decode cX4_mostStitches 32 = .ok (.ireturn, 1) := by decide +kernel
theorem dX5_init_0 : decode cX5_init 0 = .ok (.aload_n 0, 1) := by decide +kernel
theorem dX5_init_1 : decode cX5_init 1 = .ok (.invokespecial 3, 3) := by decide +kernel
theorem dX5_init_4 : decode cX5_init 4 = .ok (.aload_n 0, 1) := by decide +kernel
theorem dX5_init_5 : decode cX5_init 5 = .ok (.bipush 64, 2) := by decide +kernel
theorem dX5_init_7 : decode cX5_init 7 = .ok (.newarray .int, 2) := by decide +kernel
theorem dX5_init_9 : decode cX5_init 9 = .ok (.putfield 9, 3) := by decide +kernel
theorem dX5_init_12 : decode cX5_init 12 = .ok (.iconst 0, 1) := by decide +kernel
theorem dX5_init_13 : decode cX5_init 13 = .ok (.istore_n 2, 1) := by decide +kernel
theorem dX5_init_14 : decode cX5_init 14 = .ok (.iload_n 2, 1) := by decide +kernel
theorem dX5_init_15 : decode cX5_init 15 = .ok (.bipush 64, 2) := by decide +kernel
theorem dX5_init_17 : decode cX5_init 17 = .ok (.if_icmp .ge 16, 3) := by decide +kernel
theorem dX5_init_20 : decode cX5_init 20 = .ok (.aload_n 0, 1) := by decide +kernel
theorem dX5_init_21 : decode cX5_init 21 = .ok (.getfield 9, 3) := by decide +kernel
theorem dX5_init_24 : decode cX5_init 24 = .ok (.iload_n 2, 1) := by decide +kernel
theorem dX5_init_25 : decode cX5_init 25 = .ok (.iload_n 1, 1) := by decide +kernel
theorem dX5_init_26 : decode cX5_init 26 = .ok (.iastore, 1) := by decide +kernel
theorem dX5_init_27 : decode cX5_init 27 = .ok (.iinc 2 1, 3) := by decide +kernel
theorem dX5_init_30 : decode cX5_init 30 = .ok (.goto (-16), 3) := by decide +kernel
theorem dX5_init_33 : decode cX5_init 33 = .ok (.return_, 1) := by decide +kernel
set_option maxRecDepth 20000 in
theorem ggX5_thinnest_X7_cellOf : GoodIn wsX5_thinnest wsX7_cellOf := goodIn_r _ [8] (by decide +kernel) (by decide +kernel)
set_option maxRecDepth 20000 in
theorem gX5_thinnest_X7_cellOf_n15 : GoodIn wsX5_thinnest (wsX7_cellOf) := ggX5_thinnest_X7_cellOf
theorem dX5_thinnest_0 : decode cX5_thinnest 0 = .ok (.bipush 30, 2) := by decide +kernel
theorem dX5_thinnest_2 : decode cX5_thinnest 2 = .ok (.istore 5, 2) := by decide +kernel
theorem dX5_thinnest_4 : decode cX5_thinnest 4 = .ok (.iload_n 3, 1) := by decide +kernel
theorem dX5_thinnest_5 : decode cX5_thinnest 5 = .ok (.istore 6, 2) := by decide +kernel
theorem dX5_thinnest_7 : decode cX5_thinnest 7 = .ok (.iload 6, 2) := by decide +kernel
theorem dX5_thinnest_9 : decode cX5_thinnest 9 = .ok (.iload 4, 2) := by decide +kernel
theorem dX5_thinnest_11 : decode cX5_thinnest 11 = .ok (.if_icmp .gt 43, 3) := by decide +kernel
theorem dX5_thinnest_14 : decode cX5_thinnest 14 = .ok (.iload_n 1, 1) := by decide +kernel
theorem dX5_thinnest_15 : decode cX5_thinnest 15 = .ok (.istore 7, 2) := by decide +kernel
theorem dX5_thinnest_17 : decode cX5_thinnest 17 = .ok (.iload 7, 2) := by decide +kernel
theorem dX5_thinnest_19 : decode cX5_thinnest 19 = .ok (.iload_n 2, 1) := by decide +kernel
theorem dX5_thinnest_20 : decode cX5_thinnest 20 = .ok (.if_icmp .gt 28, 3) := by decide +kernel
theorem dX5_thinnest_23 : decode cX5_thinnest 23 = .ok (.iload 5, 2) := by decide +kernel
theorem dX5_thinnest_25 : decode cX5_thinnest 25 = .ok (.aload_n 0, 1) := by decide +kernel
theorem dX5_thinnest_26 : decode cX5_thinnest 26 = .ok (.getfield 9, 3) := by decide +kernel
theorem dX5_thinnest_29 : decode cX5_thinnest 29 = .ok (.iload 7, 2) := by decide +kernel
theorem dX5_thinnest_31 : decode cX5_thinnest 31 = .ok (.iload 6, 2) := by decide +kernel
theorem dX5_thinnest_33 : decode cX5_thinnest 33 = .ok (.invokestatic 15, 3) := by decide +kernel
theorem dX5_thinnest_36 : decode cX5_thinnest 36 = .ok (.iaload, 1) := by decide +kernel
theorem dX5_thinnest_37 : decode cX5_thinnest 37 = .ok (.invokestatic 19, 3) := by decide +kernel
theorem dX5_thinnest_40 : decode cX5_thinnest 40 = .ok (.istore 5, 2) := by decide +kernel
theorem dX5_thinnest_42 : decode cX5_thinnest 42 = .ok (.iinc 7 1, 3) := by decide +kernel
theorem dX5_thinnest_45 : decode cX5_thinnest 45 = .ok (.goto (-28), 3) := by decide +kernel
theorem dX5_thinnest_48 : decode cX5_thinnest 48 = .ok (.iinc 6 1, 3) := by decide +kernel
theorem dX5_thinnest_51 : decode cX5_thinnest 51 = .ok (.goto (-44), 3) := by decide +kernel
theorem dX5_thinnest_54 : decode cX5_thinnest 54 = .ok (.iload 5, 2) := by decide +kernel
theorem dX5_thinnest_56 : decode cX5_thinnest 56 = .ok (.ireturn, 1) := by decide +kernel
set_option maxRecDepth 20000 in
theorem ggX5_thin_X7_cellOf : GoodIn wsX5_thin wsX7_cellOf := goodIn_r _ [4] (by decide +kernel) (by decide +kernel)
set_option maxRecDepth 20000 in
theorem gX5_thin_X7_cellOf_n15 : GoodIn wsX5_thin (wsX7_cellOf) := ggX5_thin_X7_cellOf
theorem dX5_thin_0 : decode cX5_thin 0 = .ok (.iload_n 3, 1) := by decide +kernel
theorem dX5_thin_1 : decode cX5_thin 1 = .ok (.istore 6, 2) := by decide +kernel
theorem dX5_thin_3 : decode cX5_thin 3 = .ok (.iload 6, 2) := by decide +kernel
theorem dX5_thin_5 : decode cX5_thin 5 = .ok (.iload 4, 2) := by decide +kernel
theorem dX5_thin_7 : decode cX5_thin 7 = .ok (.if_icmp .gt 41, 3) := by decide +kernel
theorem dX5_thin_10 : decode cX5_thin 10 = .ok (.iload_n 1, 1) := by decide +kernel
theorem dX5_thin_11 : decode cX5_thin 11 = .ok (.istore 7, 2) := by decide +kernel
theorem dX5_thin_13 : decode cX5_thin 13 = .ok (.iload 7, 2) := by decide +kernel
theorem dX5_thin_15 : decode cX5_thin 15 = .ok (.iload_n 2, 1) := by decide +kernel
theorem dX5_thin_16 : decode cX5_thin 16 = .ok (.if_icmp .gt 26, 3) := by decide +kernel
theorem dX5_thin_19 : decode cX5_thin 19 = .ok (.aload_n 0, 1) := by decide +kernel
theorem dX5_thin_20 : decode cX5_thin 20 = .ok (.getfield 9, 3) := by decide +kernel
theorem dX5_thin_23 : decode cX5_thin 23 = .ok (.iload 7, 2) := by decide +kernel
theorem dX5_thin_25 : decode cX5_thin 25 = .ok (.iload 6, 2) := by decide +kernel
theorem dX5_thin_27 : decode cX5_thin 27 = .ok (.invokestatic 15, 3) := by decide +kernel
theorem dX5_thin_30 : decode cX5_thin 30 = .ok (.dup2, 1) := by decide +kernel
theorem dX5_thin_31 : decode cX5_thin 31 = .ok (.iaload, 1) := by decide +kernel
theorem dX5_thin_32 : decode cX5_thin 32 = .ok (.iload 5, 2) := by decide +kernel
theorem dX5_thin_34 : decode cX5_thin 34 = .ok (.isub, 1) := by decide +kernel
theorem dX5_thin_35 : decode cX5_thin 35 = .ok (.iastore, 1) := by decide +kernel
theorem dX5_thin_36 : decode cX5_thin 36 = .ok (.iinc 7 1, 3) := by decide +kernel
theorem dX5_thin_39 : decode cX5_thin 39 = .ok (.goto (-26), 3) := by decide +kernel
theorem dX5_thin_42 : decode cX5_thin 42 = .ok (.iinc 6 1, 3) := by decide +kernel
theorem dX5_thin_45 : decode cX5_thin 45 = .ok (.goto (-42), 3) := by decide +kernel
theorem dX5_thin_48 : decode cX5_thin 48 = .ok (.return_, 1) := by decide +kernel
set_option maxRecDepth 20000 in
theorem ggX5_placesTooThick_X7_cellOf : GoodIn wsX5_placesTooThick wsX7_cellOf := goodIn_r _ [4] (by decide +kernel) (by decide +kernel)
set_option maxRecDepth 20000 in
theorem gX5_placesTooThick_X7_cellOf_n15 : GoodIn wsX5_placesTooThick (wsX7_cellOf) := ggX5_placesTooThick_X7_cellOf
set_option maxRecDepth 20000 in
theorem ggX5_placesTooThick_X5_mostAt : GoodIn wsX5_placesTooThick wsX5_mostAt := goodIn_r _ [8, 9, 3, 10] (by decide +kernel) (by decide +kernel)
set_option maxRecDepth 20000 in
theorem gX5_placesTooThick_X5_mostAt : GoodIn wsX5_placesTooThick (va_wsS RX5 24 yX5_mostAt wsX5_mostAt) := goodIn_app (goodIn_of _ (by decide +kernel)) ggX5_placesTooThick_X5_mostAt
theorem dX5_placesTooThick_0 : decode cX5_placesTooThick 0 = .ok (.iconst 0, 1) := by decide +kernel
theorem dX5_placesTooThick_1 : decode cX5_placesTooThick 1 = .ok (.istore_n 1, 1) := by decide +kernel
theorem dX5_placesTooThick_2 : decode cX5_placesTooThick 2 = .ok (.iconst 0, 1) := by decide +kernel
theorem dX5_placesTooThick_3 : decode cX5_placesTooThick 3 = .ok (.istore_n 2, 1) := by decide +kernel
theorem dX5_placesTooThick_4 : decode cX5_placesTooThick 4 = .ok (.iload_n 2, 1) := by decide +kernel
theorem dX5_placesTooThick_5 : decode cX5_placesTooThick 5 = .ok (.bipush 8, 2) := by decide +kernel
theorem dX5_placesTooThick_7 : decode cX5_placesTooThick 7 = .ok (.if_icmp .ge 49, 3) := by decide +kernel
theorem dX5_placesTooThick_10 : decode cX5_placesTooThick 10 = .ok (.iconst 0, 1) := by decide +kernel
theorem dX5_placesTooThick_11 : decode cX5_placesTooThick 11 = .ok (.istore_n 3, 1) := by decide +kernel
theorem dX5_placesTooThick_12 : decode cX5_placesTooThick 12 = .ok (.iload_n 3, 1) := by decide +kernel
theorem dX5_placesTooThick_13 : decode cX5_placesTooThick 13 = .ok (.bipush 8, 2) := by decide +kernel
theorem dX5_placesTooThick_15 : decode cX5_placesTooThick 15 = .ok (.if_icmp .ge 35, 3) := by decide +kernel
theorem dX5_placesTooThick_18 : decode cX5_placesTooThick 18 = .ok (.iload_n 1, 1) := by decide +kernel
theorem dX5_placesTooThick_19 : decode cX5_placesTooThick 19 = .ok (.aload_n 0, 1) := by decide +kernel
theorem dX5_placesTooThick_20 : decode cX5_placesTooThick 20 = .ok (.getfield 9, 3) := by decide +kernel
theorem dX5_placesTooThick_23 : decode cX5_placesTooThick 23 = .ok (.iload_n 3, 1) := by decide +kernel
theorem dX5_placesTooThick_24 : decode cX5_placesTooThick 24 = .ok (.iload_n 2, 1) := by decide +kernel
theorem dX5_placesTooThick_25 : decode cX5_placesTooThick 25 = .ok (.invokestatic 15, 3) := by decide +kernel
theorem dX5_placesTooThick_28 : decode cX5_placesTooThick 28 = .ok (.iaload, 1) := by decide +kernel
theorem dX5_placesTooThick_29 : decode cX5_placesTooThick 29 = .ok (.iload_n 3, 1) := by decide +kernel
theorem dX5_placesTooThick_30 : decode cX5_placesTooThick 30 = .ok (.iload_n 2, 1) := by decide +kernel
theorem dX5_placesTooThick_31 : decode cX5_placesTooThick 31 = .ok (.invokestatic 24, 3) := by decide +kernel
theorem dX5_placesTooThick_34 : decode cX5_placesTooThick 34 = .ok (.if_icmp .le 7, 3) := by decide +kernel
theorem dX5_placesTooThick_37 : decode cX5_placesTooThick 37 = .ok (.iconst 1, 1) := by decide +kernel
theorem dX5_placesTooThick_38 : decode cX5_placesTooThick 38 = .ok (.goto 4, 3) := by decide +kernel
theorem dX5_placesTooThick_41 : decode cX5_placesTooThick 41 = .ok (.iconst 0, 1) := by decide +kernel
theorem dX5_placesTooThick_42 : decode cX5_placesTooThick 42 = .ok (.iadd, 1) := by decide +kernel
theorem dX5_placesTooThick_43 : decode cX5_placesTooThick 43 = .ok (.istore_n 1, 1) := by decide +kernel
theorem dX5_placesTooThick_44 : decode cX5_placesTooThick 44 = .ok (.iinc 3 1, 3) := by decide +kernel
theorem dX5_placesTooThick_47 : decode cX5_placesTooThick 47 = .ok (.goto (-35), 3) := by decide +kernel
theorem dX5_placesTooThick_50 : decode cX5_placesTooThick 50 = .ok (.iinc 2 1, 3) := by decide +kernel
theorem dX5_placesTooThick_53 : decode cX5_placesTooThick 53 = .ok (.goto (-49), 3) := by decide +kernel
theorem dX5_placesTooThick_56 : decode cX5_placesTooThick 56 = .ok (.iload_n 1, 1) := by decide +kernel
theorem dX5_placesTooThick_57 : decode cX5_placesTooThick 57 = .ok (.ireturn, 1) := by decide +kernel
set_option maxRecDepth 20000 in
theorem ggX5_mostAt_X7_isWithin : GoodIn wsX5_mostAt wsX7_isWithin := goodIn_r _ [3] (by decide +kernel) (by decide +kernel)
set_option maxRecDepth 20000 in
theorem gX5_mostAt_X7_isWithin_n27 : GoodIn wsX5_mostAt (wsX7_isWithin) := ggX5_mostAt_X7_isWithin
theorem dX5_mostAt_0 : decode cX5_mostAt 0 = .ok (.iload_n 0, 1) := by decide +kernel
theorem dX5_mostAt_1 : decode cX5_mostAt 1 = .ok (.iconst 1, 1) := by decide +kernel
theorem dX5_mostAt_2 : decode cX5_mostAt 2 = .ok (.bipush 6, 2) := by decide +kernel
theorem dX5_mostAt_4 : decode cX5_mostAt 4 = .ok (.invokestatic 27, 3) := by decide +kernel
theorem dX5_mostAt_7 : decode cX5_mostAt 7 = .ok (.ifCond .eq 17, 3) := by decide +kernel
theorem dX5_mostAt_10 : decode cX5_mostAt 10 = .ok (.iload_n 1, 1) := by decide +kernel
theorem dX5_mostAt_11 : decode cX5_mostAt 11 = .ok (.iconst 1, 1) := by decide +kernel
theorem dX5_mostAt_12 : decode cX5_mostAt 12 = .ok (.bipush 6, 2) := by decide +kernel
theorem dX5_mostAt_14 : decode cX5_mostAt 14 = .ok (.invokestatic 27, 3) := by decide +kernel
theorem dX5_mostAt_17 : decode cX5_mostAt 17 = .ok (.ifCond .eq 7, 3) := by decide +kernel
theorem dX5_mostAt_20 : decode cX5_mostAt 20 = .ok (.iconst 1, 1) := by decide +kernel
theorem dX5_mostAt_21 : decode cX5_mostAt 21 = .ok (.goto 4, 3) := by decide +kernel
theorem dX5_mostAt_24 : decode cX5_mostAt 24 = .ok (.iconst 0, 1) := by decide +kernel
theorem dX5_mostAt_25 : decode cX5_mostAt 25 = .ok (.istore_n 2, 1) := by decide +kernel
theorem dX5_mostAt_26 : decode cX5_mostAt 26 = .ok (.iload_n 2, 1) := by decide +kernel
theorem dX5_mostAt_27 : decode cX5_mostAt 27 = .ok (.ifCond .eq 8, 3) := by decide +kernel
theorem dX5_mostAt_30 : decode cX5_mostAt 30 = .ok (.bipush 12, 2) := by decide +kernel
theorem dX5_mostAt_32 : decode cX5_mostAt 32 = .ok (.goto 5, 3) := by decide +kernel
theorem dX5_mostAt_35 : decode cX5_mostAt 35 = .ok (.bipush 6, 2) := by decide +kernel
theorem dX5_mostAt_37 : decode cX5_mostAt 37 = .ok (.ireturn, 1) := by decide +kernel
theorem dX6_init_0 : decode cX6_init 0 = .ok (.aload_n 0, 1) := by decide +kernel
theorem dX6_init_1 : decode cX6_init 1 = .ok (.invokespecial 3, 3) := by decide +kernel
theorem dX6_init_4 : decode cX6_init 4 = .ok (.aload_n 0, 1) := by decide +kernel
theorem dX6_init_5 : decode cX6_init 5 = .ok (.bipush 20, 2) := by decide +kernel
theorem dX6_init_7 : decode cX6_init 7 = .ok (.newarray .int, 2) := by decide +kernel
theorem dX6_init_9 : decode cX6_init 9 = .ok (.putfield 9, 3) := by decide +kernel
theorem dX6_init_12 : decode cX6_init 12 = .ok (.aload_n 0, 1) := by decide +kernel
theorem dX6_init_13 : decode cX6_init 13 = .ok (.bipush 20, 2) := by decide +kernel
theorem dX6_init_15 : decode cX6_init 15 = .ok (.newarray .int, 2) := by decide +kernel
theorem dX6_init_17 : decode cX6_init 17 = .ok (.putfield 15, 3) := by decide +kernel
theorem dX6_init_20 : decode cX6_init 20 = .ok (.aload_n 0, 1) := by decide +kernel
theorem dX6_init_21 : decode cX6_init 21 = .ok (.bipush 20, 2) := by decide +kernel
theorem dX6_init_23 : decode cX6_init 23 = .ok (.newarray .int, 2) := by decide +kernel
theorem dX6_init_25 : decode cX6_init 25 = .ok (.putfield 18, 3) := by decide +kernel
theorem dX6_init_28 : decode cX6_init 28 = .ok (.return_, 1) := by decide +kernel
theorem dX6_add_0 : decode cX6_add 0 = .ok (.aload_n 0, 1) := by decide +kernel
theorem dX6_add_1 : decode cX6_add 1 = .ok (.getfield 21, 3) := by decide +kernel
theorem dX6_add_4 : decode cX6_add 4 = .ok (.bipush 20, 2) := by decide +kernel
theorem dX6_add_6 : decode cX6_add 6 = .ok (.if_icmp .ge 43, 3) := by decide +kernel
theorem dX6_add_9 : decode cX6_add 9 = .ok (.aload_n 0, 1) := by decide +kernel
theorem dX6_add_10 : decode cX6_add 10 = .ok (.getfield 9, 3) := by decide +kernel
theorem dX6_add_13 : decode cX6_add 13 = .ok (.aload_n 0, 1) := by decide +kernel
theorem dX6_add_14 : decode cX6_add 14 = .ok (.getfield 21, 3) := by decide +kernel
theorem dX6_add_17 : decode cX6_add 17 = .ok (.iload_n 1, 1) := by decide +kernel
theorem dX6_add_18 : decode cX6_add 18 = .ok (.iastore, 1) := by decide +kernel
theorem dX6_add_19 : decode cX6_add 19 = .ok (.aload_n 0, 1) := by decide +kernel
theorem dX6_add_20 : decode cX6_add 20 = .ok (.getfield 15, 3) := by decide +kernel
theorem dX6_add_23 : decode cX6_add 23 = .ok (.aload_n 0, 1) := by decide +kernel
theorem dX6_add_24 : decode cX6_add 24 = .ok (.getfield 21, 3) := by decide +kernel
theorem dX6_add_27 : decode cX6_add 27 = .ok (.iload_n 2, 1) := by decide +kernel
theorem dX6_add_28 : decode cX6_add 28 = .ok (.iastore, 1) := by decide +kernel
theorem dX6_add_29 : decode cX6_add 29 = .ok (.aload_n 0, 1) := by decide +kernel
theorem dX6_add_30 : decode cX6_add 30 = .ok (.getfield 18, 3) := by decide +kernel
theorem dX6_add_33 : decode cX6_add 33 = .ok (.aload_n 0, 1) := by decide +kernel
theorem dX6_add_34 : decode cX6_add 34 = .ok (.getfield 21, 3) := by decide +kernel
theorem dX6_add_37 : decode cX6_add 37 = .ok (.iload_n 3, 1) := by decide +kernel
theorem dX6_add_38 : decode cX6_add 38 = .ok (.iastore, 1) := by decide +kernel
theorem dX6_add_39 : decode cX6_add 39 = .ok (.aload_n 0, 1) := by decide +kernel
theorem dX6_add_40 : decode cX6_add 40 = .ok (.dup, 1) := by decide +kernel
theorem dX6_add_41 : decode cX6_add 41 = .ok (.getfield 21, 3) := by decide +kernel
theorem dX6_add_44 : decode cX6_add 44 = .ok (.iconst 1, 1) := by decide +kernel
theorem dX6_add_45 : decode cX6_add 45 = .ok (.iadd, 1) := by decide +kernel
theorem dX6_add_46 : decode cX6_add 46 = .ok (.putfield 21, 3) := by decide +kernel
theorem dX6_add_49 : decode cX6_add 49 = .ok (.return_, 1) := by decide +kernel
set_option maxRecDepth 20000 in
theorem ggX6_weightIn_X7_isWithin : GoodIn wsX6_weightIn wsX7_isWithin := goodIn_r _ [7] (by decide +kernel) (by decide +kernel)
set_option maxRecDepth 20000 in
theorem gX6_weightIn_X7_isWithin_n25 : GoodIn wsX6_weightIn (wsX7_isWithin) := ggX6_weightIn_X7_isWithin
theorem dX6_weightIn_0 : decode cX6_weightIn 0 = .ok (.iconst 0, 1) := by decide +kernel
theorem dX6_weightIn_1 : decode cX6_weightIn 1 = .ok (.istore_n 2, 1) := by decide +kernel
theorem dX6_weightIn_2 : decode cX6_weightIn 2 = .ok (.iconst 0, 1) := by decide +kernel
theorem dX6_weightIn_3 : decode cX6_weightIn 3 = .ok (.istore_n 3, 1) := by decide +kernel
theorem dX6_weightIn_4 : decode cX6_weightIn 4 = .ok (.iload_n 3, 1) := by decide +kernel
theorem dX6_weightIn_5 : decode cX6_weightIn 5 = .ok (.aload_n 0, 1) := by decide +kernel
theorem dX6_weightIn_6 : decode cX6_weightIn 6 = .ok (.getfield 21, 3) := by decide +kernel
theorem dX6_weightIn_9 : decode cX6_weightIn 9 = .ok (.if_icmp .ge 47, 3) := by decide +kernel
theorem dX6_weightIn_12 : decode cX6_weightIn 12 = .ok (.iload_n 3, 1) := by decide +kernel
theorem dX6_weightIn_13 : decode cX6_weightIn 13 = .ok (.bipush 20, 2) := by decide +kernel
theorem dX6_weightIn_15 : decode cX6_weightIn 15 = .ok (.if_icmp .ge 41, 3) := by decide +kernel
theorem dX6_weightIn_18 : decode cX6_weightIn 18 = .ok (.iload_n 2, 1) := by decide +kernel
theorem dX6_weightIn_19 : decode cX6_weightIn 19 = .ok (.iload_n 1, 1) := by decide +kernel
theorem dX6_weightIn_20 : decode cX6_weightIn 20 = .ok (.aload_n 0, 1) := by decide +kernel
theorem dX6_weightIn_21 : decode cX6_weightIn 21 = .ok (.getfield 9, 3) := by decide +kernel
theorem dX6_weightIn_24 : decode cX6_weightIn 24 = .ok (.iload_n 3, 1) := by decide +kernel
theorem dX6_weightIn_25 : decode cX6_weightIn 25 = .ok (.iaload, 1) := by decide +kernel
theorem dX6_weightIn_26 : decode cX6_weightIn 26 = .ok (.aload_n 0, 1) := by decide +kernel
theorem dX6_weightIn_27 : decode cX6_weightIn 27 = .ok (.getfield 15, 3) := by decide +kernel
theorem dX6_weightIn_30 : decode cX6_weightIn 30 = .ok (.iload_n 3, 1) := by decide +kernel
theorem dX6_weightIn_31 : decode cX6_weightIn 31 = .ok (.iaload, 1) := by decide +kernel
theorem dX6_weightIn_32 : decode cX6_weightIn 32 = .ok (.invokestatic 25, 3) := by decide +kernel
theorem dX6_weightIn_35 : decode cX6_weightIn 35 = .ok (.ifCond .eq 12, 3) := by decide +kernel
theorem dX6_weightIn_38 : decode cX6_weightIn 38 = .ok (.aload_n 0, 1) := by decide +kernel
theorem dX6_weightIn_39 : decode cX6_weightIn 39 = .ok (.getfield 18, 3) := by decide +kernel
theorem dX6_weightIn_42 : decode cX6_weightIn 42 = .ok (.iload_n 3, 1) := by decide +kernel
theorem dX6_weightIn_43 : decode cX6_weightIn 43 = .ok (.iaload, 1) := by decide +kernel
theorem dX6_weightIn_44 : decode cX6_weightIn 44 = .ok (.goto 4, 3) := by decide +kernel
theorem dX6_weightIn_47 : decode cX6_weightIn 47 = .ok (.iconst 0, 1) := by decide +kernel
theorem dX6_weightIn_48 : decode cX6_weightIn 48 = .ok (.iadd, 1) := by decide +kernel
theorem dX6_weightIn_49 : decode cX6_weightIn 49 = .ok (.istore_n 2, 1) := by decide +kernel
theorem dX6_weightIn_50 : decode cX6_weightIn 50 = .ok (.iinc 3 1, 3) := by decide +kernel
theorem dX6_weightIn_53 : decode cX6_weightIn 53 = .ok (.goto (-49), 3) := by decide +kernel
theorem dX6_weightIn_56 : decode cX6_weightIn 56 = .ok (.iload_n 2, 1) := by decide +kernel
theorem dX6_weightIn_57 : decode cX6_weightIn 57 = .ok (.ireturn, 1) := by decide +kernel
set_option maxRecDepth 20000 in
theorem ggX6_firstByEnds_X6_weightIn : GoodIn wsX6_firstByEnds wsX6_weightIn := goodIn_r _ [7, 1, 2, 8, 9, 10, 11, 12, 13, 14, 15, 16] (by decide +kernel) (by decide +kernel)
set_option maxRecDepth 20000 in
theorem gX6_firstByEnds_X6_weightIn : GoodIn wsX6_firstByEnds (wsV RX6 29 RX6 yX6_weightIn wsX6_weightIn) := goodIn_app (goodIn_of _ (by decide +kernel)) ggX6_firstByEnds_X6_weightIn
theorem dX6_firstByEnds_0 : decode cX6_firstByEnds 0 = .ok (.iconst 0, 1) := by decide +kernel
theorem dX6_firstByEnds_1 : decode cX6_firstByEnds 1 = .ok (.istore_n 1, 1) := by decide +kernel
theorem dX6_firstByEnds_2 : decode cX6_firstByEnds 2 = .ok (.iconst (-1), 1) := by decide +kernel
theorem dX6_firstByEnds_3 : decode cX6_firstByEnds 3 = .ok (.istore_n 2, 1) := by decide +kernel
theorem dX6_firstByEnds_4 : decode cX6_firstByEnds 4 = .ok (.iconst 0, 1) := by decide +kernel
theorem dX6_firstByEnds_5 : decode cX6_firstByEnds 5 = .ok (.istore_n 3, 1) := by decide +kernel
theorem dX6_firstByEnds_6 : decode cX6_firstByEnds 6 = .ok (.iload_n 3, 1) := by decide +kernel
theorem dX6_firstByEnds_7 : decode cX6_firstByEnds 7 = .ok (.aload_n 0, 1) := by decide +kernel
theorem dX6_firstByEnds_8 : decode cX6_firstByEnds 8 = .ok (.getfield 21, 3) := by decide +kernel
theorem dX6_firstByEnds_11 : decode cX6_firstByEnds 11 = .ok (.if_icmp .ge 59, 3) := by decide +kernel
theorem dX6_firstByEnds_14 : decode cX6_firstByEnds 14 = .ok (.iload_n 3, 1) := by decide +kernel
theorem dX6_firstByEnds_15 : decode cX6_firstByEnds 15 = .ok (.bipush 20, 2) := by decide +kernel
theorem dX6_firstByEnds_17 : decode cX6_firstByEnds 17 = .ok (.if_icmp .ge 53, 3) := by decide +kernel
theorem dX6_firstByEnds_20 : decode cX6_firstByEnds 20 = .ok (.aload_n 0, 1) := by decide +kernel
theorem dX6_firstByEnds_21 : decode cX6_firstByEnds 21 = .ok (.aload_n 0, 1) := by decide +kernel
theorem dX6_firstByEnds_22 : decode cX6_firstByEnds 22 = .ok (.getfield 9, 3) := by decide +kernel
theorem dX6_firstByEnds_25 : decode cX6_firstByEnds 25 = .ok (.iload_n 3, 1) := by decide +kernel
theorem dX6_firstByEnds_26 : decode cX6_firstByEnds 26 = .ok (.iaload, 1) := by decide +kernel
theorem dX6_firstByEnds_27 : decode cX6_firstByEnds 27 = .ok (.invokevirtual 29, 3) := by decide +kernel
theorem dX6_firstByEnds_30 : decode cX6_firstByEnds 30 = .ok (.istore 4, 2) := by decide +kernel
theorem dX6_firstByEnds_32 : decode cX6_firstByEnds 32 = .ok (.iload 4, 2) := by decide +kernel
theorem dX6_firstByEnds_34 : decode cX6_firstByEnds 34 = .ok (.iload_n 1, 1) := by decide +kernel
theorem dX6_firstByEnds_35 : decode cX6_firstByEnds 35 = .ok (.if_icmp .gt 19, 3) := by decide +kernel
theorem dX6_firstByEnds_38 : decode cX6_firstByEnds 38 = .ok (.iload 4, 2) := by decide +kernel
theorem dX6_firstByEnds_40 : decode cX6_firstByEnds 40 = .ok (.iload_n 1, 1) := by decide +kernel
theorem dX6_firstByEnds_41 : decode cX6_firstByEnds 41 = .ok (.if_icmp .ne 23, 3) := by decide +kernel
theorem dX6_firstByEnds_44 : decode cX6_firstByEnds 44 = .ok (.aload_n 0, 1) := by decide +kernel
theorem dX6_firstByEnds_45 : decode cX6_firstByEnds 45 = .ok (.getfield 9, 3) := by decide +kernel
theorem dX6_firstByEnds_48 : decode cX6_firstByEnds 48 = .ok (.iload_n 3, 1) := by decide +kernel
theorem dX6_firstByEnds_49 : decode cX6_firstByEnds 49 = .ok (.iaload, 1) := by decide +kernel
theorem dX6_firstByEnds_50 : decode cX6_firstByEnds 50 = .ok (.iload_n 2, 1) := by decide +kernel
theorem dX6_firstByEnds_51 : decode cX6_firstByEnds 51 = .ok (.if_icmp .ge 13, 3) := by decide +kernel
theorem dX6_firstByEnds_54 : decode cX6_firstByEnds 54 = .ok (.iload 4, 2) := by decide +kernel
theorem dX6_firstByEnds_56 : decode cX6_firstByEnds 56 = .ok (.istore_n 1, 1) := by decide +kernel
theorem dX6_firstByEnds_57 : decode cX6_firstByEnds 57 = .ok (.aload_n 0, 1) := by decide +kernel
theorem dX6_firstByEnds_58 : decode cX6_firstByEnds 58 = .ok (.getfield 9, 3) := by decide +kernel
theorem dX6_firstByEnds_61 : decode cX6_firstByEnds 61 = .ok (.iload_n 3, 1) := by decide +kernel
theorem dX6_firstByEnds_62 : decode cX6_firstByEnds 62 = .ok (.iaload, 1) := by decide +kernel
theorem dX6_firstByEnds_63 : decode cX6_firstByEnds 63 = .ok (.istore_n 2, 1) := by decide +kernel
theorem dX6_firstByEnds_64 : decode cX6_firstByEnds 64 = .ok (.iinc 3 1, 3) := by decide +kernel
theorem dX6_firstByEnds_67 : decode cX6_firstByEnds 67 = .ok (.goto (-61), 3) := by decide +kernel
theorem dX6_firstByEnds_70 : decode cX6_firstByEnds 70 = .ok (.iload_n 2, 1) := by decide +kernel
theorem dX6_firstByEnds_71 : decode cX6_firstByEnds 71 = .ok (.ireturn, 1) := by decide +kernel
set_option maxRecDepth 20000 in
theorem ggX6_lastByEnds_X6_weightIn : GoodIn wsX6_lastByEnds wsX6_weightIn := goodIn_r _ [7, 1, 8, 2, 9, 10, 11, 12, 13, 14, 15, 16] (by decide +kernel) (by decide +kernel)
set_option maxRecDepth 20000 in
theorem gX6_lastByEnds_X6_weightIn : GoodIn wsX6_lastByEnds (wsV RX6 29 RX6 yX6_weightIn wsX6_weightIn) := goodIn_app (goodIn_of _ (by decide +kernel)) ggX6_lastByEnds_X6_weightIn
set_option maxRecDepth 20000 in
theorem ggX6_lastByEnds_X7_isWithin : GoodIn wsX6_lastByEnds wsX7_isWithin := goodIn_r _ [12] (by decide +kernel) (by decide +kernel)
set_option maxRecDepth 20000 in
theorem gX6_lastByEnds_X7_isWithin_n25 : GoodIn wsX6_lastByEnds (wsX7_isWithin) := ggX6_lastByEnds_X7_isWithin
theorem dX6_lastByEnds_0 : decode cX6_lastByEnds 0 = .ok (.aload_n 0, 1) := by decide +kernel
theorem dX6_lastByEnds_1 : decode cX6_lastByEnds 1 = .ok (.iload_n 1, 1) := by decide +kernel
theorem dX6_lastByEnds_2 : decode cX6_lastByEnds 2 = .ok (.invokevirtual 29, 3) := by decide +kernel
theorem dX6_lastByEnds_5 : decode cX6_lastByEnds 5 = .ok (.istore_n 2, 1) := by decide +kernel
theorem dX6_lastByEnds_6 : decode cX6_lastByEnds 6 = .ok (.sipush 2000, 3) := by decide +kernel
theorem dX6_lastByEnds_9 : decode cX6_lastByEnds 9 = .ok (.istore_n 3, 1) := by decide +kernel
theorem dX6_lastByEnds_10 : decode cX6_lastByEnds 10 = .ok (.iconst 0, 1) := by decide +kernel
theorem dX6_lastByEnds_11 : decode cX6_lastByEnds 11 = .ok (.istore 4, 2) := by decide +kernel
theorem dX6_lastByEnds_13 : decode cX6_lastByEnds 13 = .ok (.iload 4, 2) := by decide +kernel
theorem dX6_lastByEnds_15 : decode cX6_lastByEnds 15 = .ok (.aload_n 0, 1) := by decide +kernel
theorem dX6_lastByEnds_16 : decode cX6_lastByEnds 16 = .ok (.getfield 21, 3) := by decide +kernel
theorem dX6_lastByEnds_19 : decode cX6_lastByEnds 19 = .ok (.if_icmp .ge 56, 3) := by decide +kernel
theorem dX6_lastByEnds_22 : decode cX6_lastByEnds 22 = .ok (.iload 4, 2) := by decide +kernel
theorem dX6_lastByEnds_24 : decode cX6_lastByEnds 24 = .ok (.bipush 20, 2) := by decide +kernel
theorem dX6_lastByEnds_26 : decode cX6_lastByEnds 26 = .ok (.if_icmp .ge 49, 3) := by decide +kernel
theorem dX6_lastByEnds_29 : decode cX6_lastByEnds 29 = .ok (.aload_n 0, 1) := by decide +kernel
theorem dX6_lastByEnds_30 : decode cX6_lastByEnds 30 = .ok (.getfield 15, 3) := by decide +kernel
theorem dX6_lastByEnds_33 : decode cX6_lastByEnds 33 = .ok (.iload 4, 2) := by decide +kernel
theorem dX6_lastByEnds_35 : decode cX6_lastByEnds 35 = .ok (.iaload, 1) := by decide +kernel
theorem dX6_lastByEnds_36 : decode cX6_lastByEnds 36 = .ok (.iload_n 1, 1) := by decide +kernel
theorem dX6_lastByEnds_37 : decode cX6_lastByEnds 37 = .ok (.iload_n 3, 1) := by decide +kernel
theorem dX6_lastByEnds_38 : decode cX6_lastByEnds 38 = .ok (.invokestatic 25, 3) := by decide +kernel
theorem dX6_lastByEnds_41 : decode cX6_lastByEnds 41 = .ok (.ifCond .eq 28, 3) := by decide +kernel
theorem dX6_lastByEnds_44 : decode cX6_lastByEnds 44 = .ok (.aload_n 0, 1) := by decide +kernel
theorem dX6_lastByEnds_45 : decode cX6_lastByEnds 45 = .ok (.aload_n 0, 1) := by decide +kernel
theorem dX6_lastByEnds_46 : decode cX6_lastByEnds 46 = .ok (.getfield 15, 3) := by decide +kernel
theorem dX6_lastByEnds_49 : decode cX6_lastByEnds 49 = .ok (.iload 4, 2) := by decide +kernel
theorem dX6_lastByEnds_51 : decode cX6_lastByEnds 51 = .ok (.iaload, 1) := by decide +kernel
theorem dX6_lastByEnds_52 : decode cX6_lastByEnds 52 = .ok (.iconst 1, 1) := by decide +kernel
theorem dX6_lastByEnds_53 : decode cX6_lastByEnds 53 = .ok (.iadd, 1) := by decide +kernel
theorem dX6_lastByEnds_54 : decode cX6_lastByEnds 54 = .ok (.invokevirtual 29, 3) := by decide +kernel
theorem dX6_lastByEnds_57 : decode cX6_lastByEnds 57 = .ok (.iload_n 2, 1) := by decide +kernel
theorem dX6_lastByEnds_58 : decode cX6_lastByEnds 58 = .ok (.if_icmp .ge 11, 3) := by decide +kernel
theorem dX6_lastByEnds_61 : decode cX6_lastByEnds 61 = .ok (.aload_n 0, 1) := by decide +kernel
theorem dX6_lastByEnds_62 : decode cX6_lastByEnds 62 = .ok (.getfield 15, 3) := by decide +kernel
theorem dX6_lastByEnds_65 : decode cX6_lastByEnds 65 = .ok (.iload 4, 2) := by decide +kernel
theorem dX6_lastByEnds_67 : decode cX6_lastByEnds 67 = .ok (.iaload, 1) := by decide +kernel
theorem dX6_lastByEnds_68 : decode cX6_lastByEnds 68 = .ok (.istore_n 3, 1) := by decide +kernel
theorem dX6_lastByEnds_69 : decode cX6_lastByEnds 69 = .ok (.iinc 4 1, 3) := by decide +kernel
theorem dX6_lastByEnds_72 : decode cX6_lastByEnds 72 = .ok (.goto (-59), 3) := by decide +kernel
theorem dX6_lastByEnds_75 : decode cX6_lastByEnds 75 = .ok (.iload_n 3, 1) := by decide +kernel
theorem dX6_lastByEnds_76 : decode cX6_lastByEnds 76 = .ok (.ireturn, 1) := by decide +kernel
set_option maxRecDepth 20000 in
theorem ggX6_firstByYears_X6_weightIn : GoodIn wsX6_firstByYears wsX6_weightIn := goodIn_r _ [5, 6, 7, 8, 9, 10, 11, 12, 13, 14, 15, 16] (by decide +kernel) (by decide +kernel)
set_option maxRecDepth 20000 in
theorem gX6_firstByYears_X6_weightIn : GoodIn wsX6_firstByYears (wsV RX6 29 RX6 yX6_weightIn wsX6_weightIn) := goodIn_app (goodIn_of _ (by decide +kernel)) ggX6_firstByYears_X6_weightIn
theorem dX6_firstByYears_0 : decode cX6_firstByYears 0 = .ok (.iconst 0, 1) := by decide +kernel
theorem dX6_firstByYears_1 : decode cX6_firstByYears 1 = .ok (.istore_n 1, 1) := by decide +kernel
theorem dX6_firstByYears_2 : decode cX6_firstByYears 2 = .ok (.iconst (-1), 1) := by decide +kernel
theorem dX6_firstByYears_3 : decode cX6_firstByYears 3 = .ok (.istore_n 2, 1) := by decide +kernel
theorem dX6_firstByYears_4 : decode cX6_firstByYears 4 = .ok (.sipush 1400, 3) := by decide +kernel
theorem dX6_firstByYears_7 : decode cX6_firstByYears 7 = .ok (.istore_n 3, 1) := by decide +kernel
theorem dX6_firstByYears_8 : decode cX6_firstByYears 8 = .ok (.iload_n 3, 1) := by decide +kernel
theorem dX6_firstByYears_9 : decode cX6_firstByYears 9 = .ok (.sipush 2000, 3) := by decide +kernel
theorem dX6_firstByYears_12 : decode cX6_firstByYears 12 = .ok (.if_icmp .gt 27, 3) := by decide +kernel
theorem dX6_firstByYears_15 : decode cX6_firstByYears 15 = .ok (.aload_n 0, 1) := by decide +kernel
theorem dX6_firstByYears_16 : decode cX6_firstByYears 16 = .ok (.iload_n 3, 1) := by decide +kernel
theorem dX6_firstByYears_17 : decode cX6_firstByYears 17 = .ok (.invokevirtual 29, 3) := by decide +kernel
theorem dX6_firstByYears_20 : decode cX6_firstByYears 20 = .ok (.istore 4, 2) := by decide +kernel
theorem dX6_firstByYears_22 : decode cX6_firstByYears 22 = .ok (.iload 4, 2) := by decide +kernel
theorem dX6_firstByYears_24 : decode cX6_firstByYears 24 = .ok (.iload_n 1, 1) := by decide +kernel
theorem dX6_firstByYears_25 : decode cX6_firstByYears 25 = .ok (.if_icmp .le 8, 3) := by decide +kernel
theorem dX6_firstByYears_28 : decode cX6_firstByYears 28 = .ok (.iload 4, 2) := by decide +kernel
theorem dX6_firstByYears_30 : decode cX6_firstByYears 30 = .ok (.istore_n 1, 1) := by decide +kernel
theorem dX6_firstByYears_31 : decode cX6_firstByYears 31 = .ok (.iload_n 3, 1) := by decide +kernel
theorem dX6_firstByYears_32 : decode cX6_firstByYears 32 = .ok (.istore_n 2, 1) := by decide +kernel
theorem dX6_firstByYears_33 : decode cX6_firstByYears 33 = .ok (.iinc 3 1, 3) := by decide +kernel
theorem dX6_firstByYears_36 : decode cX6_firstByYears 36 = .ok (.goto (-28), 3) := by decide +kernel
theorem dX6_firstByYears_39 : decode cX6_firstByYears 39 = .ok (.iload_n 2, 1) := by decide +kernel
theorem dX6_firstByYears_40 : decode cX6_firstByYears 40 = .ok (.ireturn, 1) := by decide +kernel
set_option maxRecDepth 20000 in
theorem ggX6_lastByYears_X6_weightIn : GoodIn wsX6_lastByYears wsX6_weightIn := goodIn_r _ [5, 6, 7, 8, 9, 10, 11, 12, 13, 14, 15, 16] (by decide +kernel) (by decide +kernel)
set_option maxRecDepth 20000 in
theorem gX6_lastByYears_X6_weightIn : GoodIn wsX6_lastByYears (wsV RX6 29 RX6 yX6_weightIn wsX6_weightIn) := goodIn_app (goodIn_of _ (by decide +kernel)) ggX6_lastByYears_X6_weightIn
theorem dX6_lastByYears_0 : decode cX6_lastByYears 0 = .ok (.aload_n 0, 1) := by decide +kernel
theorem dX6_lastByYears_1 : decode cX6_lastByYears 1 = .ok (.iload_n 1, 1) := by decide +kernel
theorem dX6_lastByYears_2 : decode cX6_lastByYears 2 = .ok (.invokevirtual 29, 3) := by decide +kernel
theorem dX6_lastByYears_5 : decode cX6_lastByYears 5 = .ok (.istore_n 2, 1) := by decide +kernel
theorem dX6_lastByYears_6 : decode cX6_lastByYears 6 = .ok (.iload_n 1, 1) := by decide +kernel
theorem dX6_lastByYears_7 : decode cX6_lastByYears 7 = .ok (.istore_n 3, 1) := by decide +kernel
theorem dX6_lastByYears_8 : decode cX6_lastByYears 8 = .ok (.iload_n 3, 1) := by decide +kernel
theorem dX6_lastByYears_9 : decode cX6_lastByYears 9 = .ok (.sipush 2000, 3) := by decide +kernel
theorem dX6_lastByYears_12 : decode cX6_lastByYears 12 = .ok (.if_icmp .ge 20, 3) := by decide +kernel
theorem dX6_lastByYears_15 : decode cX6_lastByYears 15 = .ok (.aload_n 0, 1) := by decide +kernel
theorem dX6_lastByYears_16 : decode cX6_lastByYears 16 = .ok (.iload_n 3, 1) := by decide +kernel
theorem dX6_lastByYears_17 : decode cX6_lastByYears 17 = .ok (.iconst 1, 1) := by decide +kernel
theorem dX6_lastByYears_18 : decode cX6_lastByYears 18 = .ok (.iadd, 1) := by decide +kernel
theorem dX6_lastByYears_19 : decode cX6_lastByYears 19 = .ok (.invokevirtual 29, 3) := by decide +kernel
theorem dX6_lastByYears_22 : decode cX6_lastByYears 22 = .ok (.iload_n 2, 1) := by decide +kernel
theorem dX6_lastByYears_23 : decode cX6_lastByYears 23 = .ok (.if_icmp .ne 9, 3) := by decide +kernel
theorem dX6_lastByYears_26 : decode cX6_lastByYears 26 = .ok (.iinc 3 1, 3) := by decide +kernel
theorem dX6_lastByYears_29 : decode cX6_lastByYears 29 = .ok (.goto (-21), 3) := by decide +kernel
theorem dX6_lastByYears_32 : decode cX6_lastByYears 32 = .ok (.iload_n 3, 1) := by decide +kernel
theorem dX6_lastByYears_33 : decode cX6_lastByYears 33 = .ok (.ireturn, 1) := by decide +kernel
set_option maxRecDepth 20000 in
theorem ggX7_init_X0_init : GoodIn wsX7_init wsX0_init := goodIn_r _ [16, 17, 2, 3, 18, 19, 20, 21, 22, 23, 24, 25, 26, 27, 28] (by decide +kernel) (by decide +kernel)
set_option maxRecDepth 20000 in
theorem gX7_init_X0_init : GoodIn wsX7_init (wsX0_init) := ggX7_init_X0_init
theorem dX7_init_0 : decode cX7_init 0 = .ok (.aload_n 0, 1) := by decide +kernel
theorem dX7_init_1 : decode cX7_init 1 = .ok (.invokespecial 3, 3) := by decide +kernel
theorem dX7_init_4 : decode cX7_init 4 = .ok (.aload_n 0, 1) := by decide +kernel
theorem dX7_init_5 : decode cX7_init 5 = .ok (.new 9, 3) := by decide +kernel
theorem dX7_init_8 : decode cX7_init 8 = .ok (.dup, 1) := by decide +kernel
theorem dX7_init_9 : decode cX7_init 9 = .ok (.invokespecial 11, 3) := by decide +kernel
theorem dX7_init_12 : decode cX7_init 12 = .ok (.putfield 12, 3) := by decide +kernel
theorem dX7_init_15 : decode cX7_init 15 = .ok (.aload_n 0, 1) := by decide +kernel
theorem dX7_init_16 : decode cX7_init 16 = .ok (.bipush 10, 2) := by decide +kernel
theorem dX7_init_18 : decode cX7_init 18 = .ok (.anewarray 16, 3) := by decide +kernel
theorem dX7_init_21 : decode cX7_init 21 = .ok (.putfield 18, 3) := by decide +kernel
theorem dX7_init_24 : decode cX7_init 24 = .ok (.aload_n 0, 1) := by decide +kernel
theorem dX7_init_25 : decode cX7_init 25 = .ok (.iconst 4, 1) := by decide +kernel
theorem dX7_init_26 : decode cX7_init 26 = .ok (.anewarray 22, 3) := by decide +kernel
theorem dX7_init_29 : decode cX7_init 29 = .ok (.putfield 24, 3) := by decide +kernel
theorem dX7_init_32 : decode cX7_init 32 = .ok (.aload_n 0, 1) := by decide +kernel
theorem dX7_init_33 : decode cX7_init 33 = .ok (.iconst 3, 1) := by decide +kernel
theorem dX7_init_34 : decode cX7_init 34 = .ok (.anewarray 28, 3) := by decide +kernel
theorem dX7_init_37 : decode cX7_init 37 = .ok (.putfield 30, 3) := by decide +kernel
theorem dX7_init_40 : decode cX7_init 40 = .ok (.return_, 1) := by decide +kernel
set_option maxRecDepth 20000 in
theorem ggX7_drop_X7_isOnGrid : GoodIn wsX7_drop wsX7_isOnGrid := goodIn_r _ [5, 6, 7, 4, 8, 9, 10, 11] (by decide +kernel) (by decide +kernel)
set_option maxRecDepth 20000 in
theorem gX7_drop_X7_isOnGrid : GoodIn wsX7_drop (va_wsS RX7 34 yX7_isOnGrid wsX7_isOnGrid) := goodIn_app (goodIn_of _ (by decide +kernel)) ggX7_drop_X7_isOnGrid
set_option maxRecDepth 20000 in
theorem ggX7_drop_X7_demandPlace : GoodIn wsX7_drop wsX7_demandPlace := goodIn_ca (goodIn_r _ [14, 15, 16] (by decide +kernel) (by decide +kernel)) (goodIn_sub (fun _ h => List.mem_cons_of_mem _ (List.mem_append_left _ (List.mem_append_right _ h))) (by decide +kernel))
set_option maxRecDepth 20000 in
theorem gX7_drop_X7_demandPlace : GoodIn wsX7_drop (va_wsS RX7 38 yX7_demandPlace wsX7_demandPlace) := goodIn_app (goodIn_of _ (by decide +kernel)) ggX7_drop_X7_demandPlace
set_option maxRecDepth 20000 in
theorem ggX7_drop_X7_isWithin : GoodIn wsX7_drop wsX7_isWithin := goodIn_r _ [11] (by decide +kernel) (by decide +kernel)
set_option maxRecDepth 20000 in
theorem gX7_drop_X7_isWithin : GoodIn wsX7_drop (va_wsS RX7 42 yX7_isWithin wsX7_isWithin) := goodIn_app (goodIn_of _ (by decide +kernel)) ggX7_drop_X7_isWithin
set_option maxRecDepth 20000 in
theorem ggX7_drop_X7_demandArgument : GoodIn wsX7_drop wsX7_demandArgument := goodIn_ca (goodIn_r _ [19, 20, 21] (by decide +kernel) (by decide +kernel)) (goodIn_sub (fun _ h => List.mem_cons_of_mem _ (List.mem_append_right _ h)) (by decide +kernel))
set_option maxRecDepth 20000 in
theorem gX7_drop_X7_demandArgument : GoodIn wsX7_drop (va_wsS RX7 46 yX7_demandArgument wsX7_demandArgument) := goodIn_app (goodIn_of _ (by decide +kernel)) ggX7_drop_X7_demandArgument
set_option maxRecDepth 20000 in
theorem ggX7_drop_X0_spread : GoodIn wsX7_drop wsX0_spread := goodIn_r _ [26, 27, 28, 29, 30, 31, 32, 25, 33, 34, 35, 36, 44, 45, 46, 47, 48] (by decide +kernel) (by decide +kernel)
set_option maxRecDepth 20000 in
theorem gX7_drop_X0_spread : GoodIn wsX7_drop (wsV RX7 49 RX0 yX0_spread wsX0_spread) := goodIn_app (goodIn_of _ (by decide +kernel)) ggX7_drop_X0_spread
theorem dX7_drop_0 : decode cX7_drop 0 = .ok (.iload_n 1, 1) := by decide +kernel
theorem dX7_drop_1 : decode cX7_drop 1 = .ok (.iload_n 2, 1) := by decide +kernel
theorem dX7_drop_2 : decode cX7_drop 2 = .ok (.invokestatic 34, 3) := by decide +kernel
theorem dX7_drop_5 : decode cX7_drop 5 = .ok (.invokestatic 38, 3) := by decide +kernel
theorem dX7_drop_8 : decode cX7_drop 8 = .ok (.iload_n 3, 1) := by decide +kernel
theorem dX7_drop_9 : decode cX7_drop 9 = .ok (.iconst 0, 1) := by decide +kernel
theorem dX7_drop_10 : decode cX7_drop 10 = .ok (.iconst 5, 1) := by decide +kernel
theorem dX7_drop_11 : decode cX7_drop 11 = .ok (.invokestatic 42, 3) := by decide +kernel
theorem dX7_drop_14 : decode cX7_drop 14 = .ok (.ifCond .eq 18, 3) := by decide +kernel
theorem dX7_drop_17 : decode cX7_drop 17 = .ok (.iload 4, 2) := by decide +kernel
theorem dX7_drop_19 : decode cX7_drop 19 = .ok (.iconst 1, 1) := by decide +kernel
theorem dX7_drop_20 : decode cX7_drop 20 = .ok (.bipush 64, 2) := by decide +kernel
theorem dX7_drop_22 : decode cX7_drop 22 = .ok (.invokestatic 42, 3) := by decide +kernel
theorem dX7_drop_25 : decode cX7_drop 25 = .ok (.ifCond .eq 7, 3) := by decide +kernel
theorem dX7_drop_28 : decode cX7_drop 28 = .ok (.iconst 1, 1) := by decide +kernel
theorem dX7_drop_29 : decode cX7_drop 29 = .ok (.goto 4, 3) := by decide +kernel
theorem dX7_drop_32 : decode cX7_drop 32 = .ok (.iconst 0, 1) := by decide +kernel
theorem dX7_drop_33 : decode cX7_drop 33 = .ok (.invokestatic 46, 3) := by decide +kernel
theorem dX7_drop_36 : decode cX7_drop 36 = .ok (.aload_n 0, 1) := by decide +kernel
theorem dX7_drop_37 : decode cX7_drop 37 = .ok (.getfield 12, 3) := by decide +kernel
theorem dX7_drop_40 : decode cX7_drop 40 = .ok (.iload_n 1, 1) := by decide +kernel
theorem dX7_drop_41 : decode cX7_drop 41 = .ok (.iload_n 2, 1) := by decide +kernel
theorem dX7_drop_42 : decode cX7_drop 42 = .ok (.iload_n 3, 1) := by decide +kernel
theorem dX7_drop_43 : decode cX7_drop 43 = .ok (.iload 4, 2) := by decide +kernel
theorem dX7_drop_45 : decode cX7_drop 45 = .ok (.invokevirtual 49, 3) := by decide +kernel
theorem dX7_drop_48 : decode cX7_drop 48 = .ok (.ireturn, 1) := by decide +kernel
set_option maxRecDepth 20000 in
theorem ggX7_comb_X7_isOnSide : GoodIn wsX7_comb wsX7_isOnSide := goodIn_r _ [5, 6, 7, 4, 8] (by decide +kernel) (by decide +kernel)
set_option maxRecDepth 20000 in
theorem gX7_comb_X7_isOnSide : GoodIn wsX7_comb (va_wsS RX7 53 yX7_isOnSide wsX7_isOnSide) := goodIn_app (goodIn_of _ (by decide +kernel)) ggX7_comb_X7_isOnSide
set_option maxRecDepth 20000 in
theorem ggX7_comb_X7_demandPlace : GoodIn wsX7_comb wsX7_demandPlace := goodIn_ca (goodIn_r _ [11, 12, 13] (by decide +kernel) (by decide +kernel)) (goodIn_sub (fun _ h => List.mem_cons_of_mem _ (List.mem_append_left _ (List.mem_append_right _ h))) (by decide +kernel))
set_option maxRecDepth 20000 in
theorem gX7_comb_X7_demandPlace : GoodIn wsX7_comb (va_wsS RX7 38 yX7_demandPlace wsX7_demandPlace) := goodIn_app (goodIn_of _ (by decide +kernel)) ggX7_comb_X7_demandPlace
set_option maxRecDepth 20000 in
theorem ggX7_comb_X7_isWithin : GoodIn wsX7_comb wsX7_isWithin := goodIn_r _ [8] (by decide +kernel) (by decide +kernel)
set_option maxRecDepth 20000 in
theorem gX7_comb_X7_isWithin : GoodIn wsX7_comb (va_wsS RX7 42 yX7_isWithin wsX7_isWithin) := goodIn_app (goodIn_of _ (by decide +kernel)) ggX7_comb_X7_isWithin
set_option maxRecDepth 20000 in
theorem ggX7_comb_X7_demandArgument : GoodIn wsX7_comb wsX7_demandArgument := goodIn_ca (goodIn_r _ [16, 17, 18] (by decide +kernel) (by decide +kernel)) (goodIn_sub (fun _ h => List.mem_cons_of_mem _ (List.mem_append_right _ h)) (by decide +kernel))
set_option maxRecDepth 20000 in
theorem gX7_comb_X7_demandArgument : GoodIn wsX7_comb (va_wsS RX7 46 yX7_demandArgument wsX7_demandArgument) := goodIn_app (goodIn_of _ (by decide +kernel)) ggX7_comb_X7_demandArgument
set_option maxRecDepth 20000 in
theorem ggX7_comb_X0_shift : GoodIn wsX7_comb wsX0_shift := goodIn_r _ [23, 24, 25, 26, 27, 28, 4, 29, 30, 31, 32, 33, 41, 42, 43, 44, 45] (by decide +kernel) (by decide +kernel)
set_option maxRecDepth 20000 in
theorem gX7_comb_X0_shift : GoodIn wsX7_comb (wsV RX7 57 RX0 yX0_shift wsX0_shift) := goodIn_app (goodIn_of _ (by decide +kernel)) ggX7_comb_X0_shift
theorem dX7_comb_0 : decode cX7_comb 0 = .ok (.iload_n 2, 1) := by decide +kernel
theorem dX7_comb_1 : decode cX7_comb 1 = .ok (.invokestatic 53, 3) := by decide +kernel
theorem dX7_comb_4 : decode cX7_comb 4 = .ok (.invokestatic 38, 3) := by decide +kernel
theorem dX7_comb_7 : decode cX7_comb 7 = .ok (.iload_n 3, 1) := by decide +kernel
theorem dX7_comb_8 : decode cX7_comb 8 = .ok (.bipush (-7), 2) := by decide +kernel
theorem dX7_comb_10 : decode cX7_comb 10 = .ok (.bipush 7, 2) := by decide +kernel
theorem dX7_comb_12 : decode cX7_comb 12 = .ok (.invokestatic 42, 3) := by decide +kernel
theorem dX7_comb_15 : decode cX7_comb 15 = .ok (.invokestatic 46, 3) := by decide +kernel
theorem dX7_comb_18 : decode cX7_comb 18 = .ok (.aload_n 0, 1) := by decide +kernel
theorem dX7_comb_19 : decode cX7_comb 19 = .ok (.getfield 12, 3) := by decide +kernel
theorem dX7_comb_22 : decode cX7_comb 22 = .ok (.iload_n 1, 1) := by decide +kernel
theorem dX7_comb_23 : decode cX7_comb 23 = .ok (.iload_n 2, 1) := by decide +kernel
theorem dX7_comb_24 : decode cX7_comb 24 = .ok (.iload_n 3, 1) := by decide +kernel
theorem dX7_comb_25 : decode cX7_comb 25 = .ok (.invokevirtual 57, 3) := by decide +kernel
theorem dX7_comb_28 : decode cX7_comb 28 = .ok (.ireturn, 1) := by decide +kernel
set_option maxRecDepth 20000 in
theorem ggX7_lift_X7_demandState : GoodIn wsX7_lift wsX7_demandState := goodIn_ca (goodIn_r _ [7, 8, 9] (by decide +kernel) (by decide +kernel)) (goodIn_sub (fun _ h => List.mem_cons_of_mem _ (List.mem_append_right _ h)) (by decide +kernel))
set_option maxRecDepth 20000 in
theorem gX7_lift_X7_demandState : GoodIn wsX7_lift (va_wsS RX7 65 yX7_demandState wsX7_demandState) := goodIn_app (goodIn_of _ (by decide +kernel)) ggX7_lift_X7_demandState
set_option maxRecDepth 20000 in
theorem ggX7_lift_X0_press : GoodIn wsX7_lift wsX0_press := goodIn_r _ [14, 15, 16, 17, 18, 19, 20, 21, 22, 23, 24, 25, 38, 39, 40, 41, 42, 43] (by decide +kernel) (by decide +kernel)
set_option maxRecDepth 20000 in
theorem gX7_lift_X0_press : GoodIn wsX7_lift (wsV RX7 68 RX0 yX0_press wsX0_press) := goodIn_app (goodIn_of _ (by decide +kernel)) ggX7_lift_X0_press
set_option maxRecDepth 20000 in
theorem ggX7_lift_X0_fade : GoodIn wsX7_lift wsX0_fade := goodIn_r _ [29, 18, 30, 39, 40, 41, 42, 43] (by decide +kernel) (by decide +kernel)
set_option maxRecDepth 20000 in
theorem gX7_lift_X0_fade : GoodIn wsX7_lift (wsV RX7 72 RX0 yX0_fade wsX0_fade) := goodIn_app (goodIn_of _ (by decide +kernel)) ggX7_lift_X0_fade
theorem dX7_lift_0 : decode cX7_lift 0 = .ok (.aload_n 0, 1) := by decide +kernel
theorem dX7_lift_1 : decode cX7_lift 1 = .ok (.getfield 61, 3) := by decide +kernel
theorem dX7_lift_4 : decode cX7_lift 4 = .ok (.bipush 10, 2) := by decide +kernel
theorem dX7_lift_6 : decode cX7_lift 6 = .ok (.if_icmp .ge 7, 3) := by decide +kernel
theorem dX7_lift_9 : decode cX7_lift 9 = .ok (.iconst 1, 1) := by decide +kernel
theorem dX7_lift_10 : decode cX7_lift 10 = .ok (.goto 4, 3) := by decide +kernel
theorem dX7_lift_13 : decode cX7_lift 13 = .ok (.iconst 0, 1) := by decide +kernel
theorem dX7_lift_14 : decode cX7_lift 14 = .ok (.invokestatic 65, 3) := by decide +kernel
theorem dX7_lift_17 : decode cX7_lift 17 = .ok (.aload_n 0, 1) := by decide +kernel
theorem dX7_lift_18 : decode cX7_lift 18 = .ok (.getfield 61, 3) := by decide +kernel
theorem dX7_lift_21 : decode cX7_lift 21 = .ok (.istore_n 1, 1) := by decide +kernel
theorem dX7_lift_22 : decode cX7_lift 22 = .ok (.aload_n 0, 1) := by decide +kernel
theorem dX7_lift_23 : decode cX7_lift 23 = .ok (.getfield 18, 3) := by decide +kernel
theorem dX7_lift_26 : decode cX7_lift 26 = .ok (.iload_n 1, 1) := by decide +kernel
theorem dX7_lift_27 : decode cX7_lift 27 = .ok (.aload_n 0, 1) := by decide +kernel
theorem dX7_lift_28 : decode cX7_lift 28 = .ok (.getfield 12, 3) := by decide +kernel
theorem dX7_lift_31 : decode cX7_lift 31 = .ok (.invokevirtual 68, 3) := by decide +kernel
theorem dX7_lift_34 : decode cX7_lift 34 = .ok (.aastore, 1) := by decide +kernel
theorem dX7_lift_35 : decode cX7_lift 35 = .ok (.aload_n 0, 1) := by decide +kernel
theorem dX7_lift_36 : decode cX7_lift 36 = .ok (.dup, 1) := by decide +kernel
theorem dX7_lift_37 : decode cX7_lift 37 = .ok (.getfield 61, 3) := by decide +kernel
theorem dX7_lift_40 : decode cX7_lift 40 = .ok (.iconst 1, 1) := by decide +kernel
theorem dX7_lift_41 : decode cX7_lift 41 = .ok (.iadd, 1) := by decide +kernel
theorem dX7_lift_42 : decode cX7_lift 42 = .ok (.putfield 61, 3) := by decide +kernel
theorem dX7_lift_45 : decode cX7_lift 45 = .ok (.aload_n 0, 1) := by decide +kernel
theorem dX7_lift_46 : decode cX7_lift 46 = .ok (.getfield 12, 3) := by decide +kernel
theorem dX7_lift_49 : decode cX7_lift 49 = .ok (.invokevirtual 72, 3) := by decide +kernel
theorem dX7_lift_52 : decode cX7_lift 52 = .ok (.iload_n 1, 1) := by decide +kernel
theorem dX7_lift_53 : decode cX7_lift 53 = .ok (.ireturn, 1) := by decide +kernel
set_option maxRecDepth 20000 in
theorem ggX7_clean_X0_empty : GoodIn wsX7_clean wsX0_empty := goodIn_r _ [6, 7, 8, 16, 17, 18, 19, 20] (by decide +kernel) (by decide +kernel)
set_option maxRecDepth 20000 in
theorem gX7_clean_X0_empty : GoodIn wsX7_clean (wsV RX7 75 RX0 yX0_empty wsX0_empty) := goodIn_app (goodIn_of _ (by decide +kernel)) ggX7_clean_X0_empty
theorem dX7_clean_0 : decode cX7_clean 0 = .ok (.aload_n 0, 1) := by decide +kernel
theorem dX7_clean_1 : decode cX7_clean 1 = .ok (.getfield 12, 3) := by decide +kernel
theorem dX7_clean_4 : decode cX7_clean 4 = .ok (.invokevirtual 75, 3) := by decide +kernel
theorem dX7_clean_7 : decode cX7_clean 7 = .ok (.ireturn, 1) := by decide +kernel
set_option maxRecDepth 20000 in
theorem ggX7_cellAt_X7_isOnGrid : GoodIn wsX7_cellAt wsX7_isOnGrid := goodIn_r _ [5, 6, 7, 4, 8, 9, 10, 11] (by decide +kernel) (by decide +kernel)
set_option maxRecDepth 20000 in
theorem gX7_cellAt_X7_isOnGrid : GoodIn wsX7_cellAt (va_wsS RX7 34 yX7_isOnGrid wsX7_isOnGrid) := goodIn_app (goodIn_of _ (by decide +kernel)) ggX7_cellAt_X7_isOnGrid
set_option maxRecDepth 20000 in
theorem ggX7_cellAt_X7_demandPlace : GoodIn wsX7_cellAt wsX7_demandPlace := goodIn_ca (goodIn_r _ [14, 15, 16] (by decide +kernel) (by decide +kernel)) (goodIn_sub (fun _ h => List.mem_cons_of_mem _ (List.mem_append_left _ (List.mem_append_right _ h))) (by decide +kernel))
set_option maxRecDepth 20000 in
theorem gX7_cellAt_X7_demandPlace : GoodIn wsX7_cellAt (va_wsS RX7 38 yX7_demandPlace wsX7_demandPlace) := goodIn_app (goodIn_of _ (by decide +kernel)) ggX7_cellAt_X7_demandPlace
set_option maxRecDepth 20000 in
theorem ggX7_cellAt_X7_isWithin : GoodIn wsX7_cellAt wsX7_isWithin := goodIn_r _ [11] (by decide +kernel) (by decide +kernel)
set_option maxRecDepth 20000 in
theorem gX7_cellAt_X7_isWithin : GoodIn wsX7_cellAt (va_wsS RX7 42 yX7_isWithin wsX7_isWithin) := goodIn_app (goodIn_of _ (by decide +kernel)) ggX7_cellAt_X7_isWithin
set_option maxRecDepth 20000 in
theorem ggX7_cellAt_X7_demandArgument : GoodIn wsX7_cellAt wsX7_demandArgument := goodIn_ca (goodIn_r _ [19, 20, 21] (by decide +kernel) (by decide +kernel)) (goodIn_sub (fun _ h => List.mem_cons_of_mem _ (List.mem_append_right _ h)) (by decide +kernel))
set_option maxRecDepth 20000 in
theorem gX7_cellAt_X7_demandArgument : GoodIn wsX7_cellAt (va_wsS RX7 46 yX7_demandArgument wsX7_demandArgument) := goodIn_app (goodIn_of _ (by decide +kernel)) ggX7_cellAt_X7_demandArgument
set_option maxRecDepth 20000 in
theorem ggX7_cellAt_X7_cellOf : GoodIn wsX7_cellAt wsX7_cellOf := goodIn_r _ [24] (by decide +kernel) (by decide +kernel)
set_option maxRecDepth 20000 in
theorem gX7_cellAt_X7_cellOf : GoodIn wsX7_cellAt (va_wsS RX7 79 yX7_cellOf wsX7_cellOf) := goodIn_app (goodIn_of _ (by decide +kernel)) ggX7_cellAt_X7_cellOf
theorem dX7_cellAt_0 : decode cX7_cellAt 0 = .ok (.iload_n 1, 1) := by decide +kernel
theorem dX7_cellAt_1 : decode cX7_cellAt 1 = .ok (.iload_n 2, 1) := by decide +kernel
theorem dX7_cellAt_2 : decode cX7_cellAt 2 = .ok (.invokestatic 34, 3) := by decide +kernel
theorem dX7_cellAt_5 : decode cX7_cellAt 5 = .ok (.invokestatic 38, 3) := by decide +kernel
theorem dX7_cellAt_8 : decode cX7_cellAt 8 = .ok (.iload_n 3, 1) := by decide +kernel
theorem dX7_cellAt_9 : decode cX7_cellAt 9 = .ok (.iconst 0, 1) := by decide +kernel
theorem dX7_cellAt_10 : decode cX7_cellAt 10 = .ok (.iconst 1, 1) := by decide +kernel
theorem dX7_cellAt_11 : decode cX7_cellAt 11 = .ok (.invokestatic 42, 3) := by decide +kernel
theorem dX7_cellAt_14 : decode cX7_cellAt 14 = .ok (.invokestatic 46, 3) := by decide +kernel
theorem dX7_cellAt_17 : decode cX7_cellAt 17 = .ok (.iload_n 1, 1) := by decide +kernel
theorem dX7_cellAt_18 : decode cX7_cellAt 18 = .ok (.iload_n 2, 1) := by decide +kernel
theorem dX7_cellAt_19 : decode cX7_cellAt 19 = .ok (.invokestatic 79, 3) := by decide +kernel
theorem dX7_cellAt_22 : decode cX7_cellAt 22 = .ok (.istore 4, 2) := by decide +kernel
theorem dX7_cellAt_24 : decode cX7_cellAt 24 = .ok (.iload_n 3, 1) := by decide +kernel
theorem dX7_cellAt_25 : decode cX7_cellAt 25 = .ok (.ifCond .ne 16, 3) := by decide +kernel
theorem dX7_cellAt_28 : decode cX7_cellAt 28 = .ok (.aload_n 0, 1) := by decide +kernel
theorem dX7_cellAt_29 : decode cX7_cellAt 29 = .ok (.getfield 12, 3) := by decide +kernel
theorem dX7_cellAt_32 : decode cX7_cellAt 32 = .ok (.getfield 83, 3) := by decide +kernel
theorem dX7_cellAt_35 : decode cX7_cellAt 35 = .ok (.iload 4, 2) := by decide +kernel
theorem dX7_cellAt_37 : decode cX7_cellAt 37 = .ok (.iaload, 1) := by decide +kernel
theorem dX7_cellAt_38 : decode cX7_cellAt 38 = .ok (.goto 13, 3) := by decide +kernel
theorem dX7_cellAt_41 : decode cX7_cellAt 41 = .ok (.aload_n 0, 1) := by decide +kernel
theorem dX7_cellAt_42 : decode cX7_cellAt 42 = .ok (.getfield 12, 3) := by decide +kernel
theorem dX7_cellAt_45 : decode cX7_cellAt 45 = .ok (.getfield 87, 3) := by decide +kernel
theorem dX7_cellAt_48 : decode cX7_cellAt 48 = .ok (.iload 4, 2) := by decide +kernel
theorem dX7_cellAt_50 : decode cX7_cellAt 50 = .ok (.iaload, 1) := by decide +kernel
theorem dX7_cellAt_51 : decode cX7_cellAt 51 = .ok (.ireturn, 1) := by decide +kernel
set_option maxRecDepth 20000 in
theorem ggX7_printAt_X7_printOf : GoodIn wsX7_printAt wsX7_printOf := goodIn_ca (goodIn_r _ [5, 6, 7, 8, 9, 10, 4, 11, 25, 26, 27, 28, 29, 30, 31] (by decide +kernel) (by decide +kernel)) (goodIn_sub (fun _ h => List.mem_cons_of_mem _ (List.mem_append_right _ h)) (by decide +kernel))
set_option maxRecDepth 20000 in
theorem gX7_printAt_X7_printOf : GoodIn wsX7_printAt (wsV RX7 90 RX7 yX7_printOf wsX7_printOf) := goodIn_app (goodIn_of _ (by decide +kernel)) ggX7_printAt_X7_printOf
set_option maxRecDepth 20000 in
theorem ggX7_printAt_X7_isOnGrid : GoodIn wsX7_printAt wsX7_isOnGrid := goodIn_r _ [14, 15, 16, 4, 17, 9, 10, 11] (by decide +kernel) (by decide +kernel)
set_option maxRecDepth 20000 in
theorem gX7_printAt_X7_isOnGrid : GoodIn wsX7_printAt (va_wsS RX7 34 yX7_isOnGrid wsX7_isOnGrid) := goodIn_app (goodIn_of _ (by decide +kernel)) ggX7_printAt_X7_isOnGrid
set_option maxRecDepth 20000 in
theorem ggX7_printAt_X7_demandPlace : GoodIn wsX7_printAt wsX7_demandPlace := goodIn_ca (goodIn_r _ [20, 6, 7] (by decide +kernel) (by decide +kernel)) (goodIn_sub (fun _ h => List.mem_cons_of_mem _ (List.mem_append_right _ h)) (by decide +kernel))
set_option maxRecDepth 20000 in
theorem gX7_printAt_X7_demandPlace : GoodIn wsX7_printAt (va_wsS RX7 38 yX7_demandPlace wsX7_demandPlace) := goodIn_app (goodIn_of _ (by decide +kernel)) ggX7_printAt_X7_demandPlace
set_option maxRecDepth 20000 in
theorem ggX7_printAt_X7_cellOf : GoodIn wsX7_printAt wsX7_cellOf := goodIn_r _ [23] (by decide +kernel) (by decide +kernel)
set_option maxRecDepth 20000 in
theorem gX7_printAt_X7_cellOf : GoodIn wsX7_printAt (va_wsS RX7 79 yX7_cellOf wsX7_cellOf) := goodIn_app (goodIn_of _ (by decide +kernel)) ggX7_printAt_X7_cellOf
theorem dX7_printAt_0 : decode cX7_printAt 0 = .ok (.aload_n 0, 1) := by decide +kernel
theorem dX7_printAt_1 : decode cX7_printAt 1 = .ok (.iload_n 1, 1) := by decide +kernel
theorem dX7_printAt_2 : decode cX7_printAt 2 = .ok (.invokevirtual 90, 3) := by decide +kernel
theorem dX7_printAt_5 : decode cX7_printAt 5 = .ok (.astore 4, 2) := by decide +kernel
theorem dX7_printAt_7 : decode cX7_printAt 7 = .ok (.iload_n 2, 1) := by decide +kernel
theorem dX7_printAt_8 : decode cX7_printAt 8 = .ok (.iload_n 3, 1) := by decide +kernel
theorem dX7_printAt_9 : decode cX7_printAt 9 = .ok (.invokestatic 34, 3) := by decide +kernel
theorem dX7_printAt_12 : decode cX7_printAt 12 = .ok (.invokestatic 38, 3) := by decide +kernel
theorem dX7_printAt_15 : decode cX7_printAt 15 = .ok (.aload 4, 2) := by decide +kernel
theorem dX7_printAt_17 : decode cX7_printAt 17 = .ok (.getfield 94, 3) := by decide +kernel
theorem dX7_printAt_20 : decode cX7_printAt 20 = .ok (.iload_n 2, 1) := by decide +kernel
theorem dX7_printAt_21 : decode cX7_printAt 21 = .ok (.iload_n 3, 1) := by decide +kernel
theorem dX7_printAt_22 : decode cX7_printAt 22 = .ok (.invokestatic 79, 3) := by decide +kernel
theorem dX7_printAt_25 : decode cX7_printAt 25 = .ok (.iaload, 1) := by decide +kernel
theorem dX7_printAt_26 : decode cX7_printAt 26 = .ok (.ireturn, 1) := by decide +kernel
set_option maxRecDepth 20000 in
theorem ggX7_count_X7_printOf : GoodIn wsX7_count wsX7_printOf := goodIn_ca (goodIn_r _ [5, 6, 7, 8, 9, 10, 4, 11, 23, 24, 25, 26, 27, 28, 29] (by decide +kernel) (by decide +kernel)) (goodIn_sub (fun _ h => List.mem_cons_of_mem _ (List.mem_append_left _ (List.mem_append_right _ h))) (by decide +kernel))
set_option maxRecDepth 20000 in
theorem gX7_count_X7_printOf : GoodIn wsX7_count (wsV RX7 90 RX7 yX7_printOf wsX7_printOf) := goodIn_app (goodIn_of _ (by decide +kernel)) ggX7_count_X7_printOf
set_option maxRecDepth 20000 in
theorem ggX7_count_X7_isWithin : GoodIn wsX7_count wsX7_isWithin := goodIn_r _ [11] (by decide +kernel) (by decide +kernel)
set_option maxRecDepth 20000 in
theorem gX7_count_X7_isWithin : GoodIn wsX7_count (va_wsS RX7 42 yX7_isWithin wsX7_isWithin) := goodIn_app (goodIn_of _ (by decide +kernel)) ggX7_count_X7_isWithin
set_option maxRecDepth 20000 in
theorem ggX7_count_X7_demandArgument : GoodIn wsX7_count wsX7_demandArgument := goodIn_ca (goodIn_r _ [14, 15, 16] (by decide +kernel) (by decide +kernel)) (goodIn_sub (fun _ h => List.mem_cons_of_mem _ (List.mem_append_right _ h)) (by decide +kernel))
set_option maxRecDepth 20000 in
theorem gX7_count_X7_demandArgument : GoodIn wsX7_count (va_wsS RX7 46 yX7_demandArgument wsX7_demandArgument) := goodIn_app (goodIn_of _ (by decide +kernel)) ggX7_count_X7_demandArgument
set_option maxRecDepth 20000 in
theorem ggX7_count_X2_cellsWith : GoodIn wsX7_count wsX2_cellsWith := goodIn_r _ [21, 22, 30] (by decide +kernel) (by decide +kernel)
set_option maxRecDepth 20000 in
theorem gX7_count_X2_cellsWith : GoodIn wsX7_count (wsV RX7 95 RX2 yX2_cellsWith wsX2_cellsWith) := goodIn_app (goodIn_of _ (by decide +kernel)) ggX7_count_X2_cellsWith
theorem dX7_count_0 : decode cX7_count 0 = .ok (.aload_n 0, 1) := by decide +kernel
theorem dX7_count_1 : decode cX7_count 1 = .ok (.iload_n 1, 1) := by decide +kernel
theorem dX7_count_2 : decode cX7_count 2 = .ok (.invokevirtual 90, 3) := by decide +kernel
theorem dX7_count_5 : decode cX7_count 5 = .ok (.astore_n 3, 1) := by decide +kernel
theorem dX7_count_6 : decode cX7_count 6 = .ok (.iload_n 2, 1) := by decide +kernel
theorem dX7_count_7 : decode cX7_count 7 = .ok (.iconst (-1), 1) := by decide +kernel
theorem dX7_count_8 : decode cX7_count 8 = .ok (.iconst 5, 1) := by decide +kernel
theorem dX7_count_9 : decode cX7_count 9 = .ok (.invokestatic 42, 3) := by decide +kernel
theorem dX7_count_12 : decode cX7_count 12 = .ok (.invokestatic 46, 3) := by decide +kernel
theorem dX7_count_15 : decode cX7_count 15 = .ok (.aload_n 3, 1) := by decide +kernel
theorem dX7_count_16 : decode cX7_count 16 = .ok (.iload_n 2, 1) := by decide +kernel
theorem dX7_count_17 : decode cX7_count 17 = .ok (.invokevirtual 95, 3) := by decide +kernel
theorem dX7_count_20 : decode cX7_count 20 = .ok (.ireturn, 1) := by decide +kernel
set_option maxRecDepth 20000 in
theorem ggX7_pageAt_X7_isWithin : GoodIn wsX7_pageAt wsX7_isWithin := goodIn_r _ [4] (by decide +kernel) (by decide +kernel)
set_option maxRecDepth 20000 in
theorem gX7_pageAt_X7_isWithin : GoodIn wsX7_pageAt (va_wsS RX7 42 yX7_isWithin wsX7_isWithin) := goodIn_app (goodIn_of _ (by decide +kernel)) ggX7_pageAt_X7_isWithin
set_option maxRecDepth 20000 in
theorem ggX7_pageAt_X7_demandArgument : GoodIn wsX7_pageAt wsX7_demandArgument := goodIn_ca (goodIn_r _ [7, 8, 9] (by decide +kernel) (by decide +kernel)) (goodIn_sub (fun _ h => List.mem_cons_of_mem _ (List.mem_append_right _ h)) (by decide +kernel))
set_option maxRecDepth 20000 in
theorem gX7_pageAt_X7_demandArgument : GoodIn wsX7_pageAt (va_wsS RX7 46 yX7_demandArgument wsX7_demandArgument) := goodIn_app (goodIn_of _ (by decide +kernel)) ggX7_pageAt_X7_demandArgument
set_option maxRecDepth 20000 in
theorem ggX7_pageAt_X7_columnsOf : GoodIn wsX7_pageAt wsX7_columnsOf := goodIn_r _ [12] (by decide +kernel) (by decide +kernel)
set_option maxRecDepth 20000 in
theorem gX7_pageAt_X7_columnsOf : GoodIn wsX7_pageAt (va_wsS RX7 99 yX7_columnsOf wsX7_columnsOf) := goodIn_app (goodIn_of _ (by decide +kernel)) ggX7_pageAt_X7_columnsOf
set_option maxRecDepth 20000 in
theorem ggX7_pageAt_X7_rowsOf : GoodIn wsX7_pageAt wsX7_rowsOf := goodIn_r _ [15] (by decide +kernel) (by decide +kernel)
set_option maxRecDepth 20000 in
theorem gX7_pageAt_X7_rowsOf : GoodIn wsX7_pageAt (va_wsS RX7 102 yX7_rowsOf wsX7_rowsOf) := goodIn_app (goodIn_of _ (by decide +kernel)) ggX7_pageAt_X7_rowsOf
set_option maxRecDepth 20000 in
theorem ggX7_pageAt_X7_foldedPage : GoodIn wsX7_pageAt wsX7_foldedPage := goodIn_r _ [18, 10, 11, 3, 12, 13, 14, 15] (by decide +kernel) (by decide +kernel)
set_option maxRecDepth 20000 in
theorem gX7_pageAt_X7_foldedPage : GoodIn wsX7_pageAt (va_wsS RX7 105 yX7_foldedPage wsX7_foldedPage) := goodIn_app (goodIn_of _ (by decide +kernel)) ggX7_pageAt_X7_foldedPage
theorem dX7_pageAt_0 : decode cX7_pageAt 0 = .ok (.iload_n 1, 1) := by decide +kernel
theorem dX7_pageAt_1 : decode cX7_pageAt 1 = .ok (.iconst 1, 1) := by decide +kernel
theorem dX7_pageAt_2 : decode cX7_pageAt 2 = .ok (.iconst 4, 1) := by decide +kernel
theorem dX7_pageAt_3 : decode cX7_pageAt 3 = .ok (.invokestatic 42, 3) := by decide +kernel
theorem dX7_pageAt_6 : decode cX7_pageAt 6 = .ok (.invokestatic 46, 3) := by decide +kernel
theorem dX7_pageAt_9 : decode cX7_pageAt 9 = .ok (.iload_n 3, 1) := by decide +kernel
theorem dX7_pageAt_10 : decode cX7_pageAt 10 = .ok (.iconst 0, 1) := by decide +kernel
theorem dX7_pageAt_11 : decode cX7_pageAt 11 = .ok (.iload_n 1, 1) := by decide +kernel
theorem dX7_pageAt_12 : decode cX7_pageAt 12 = .ok (.invokestatic 99, 3) := by decide +kernel
theorem dX7_pageAt_15 : decode cX7_pageAt 15 = .ok (.iconst 1, 1) := by decide +kernel
theorem dX7_pageAt_16 : decode cX7_pageAt 16 = .ok (.isub, 1) := by decide +kernel
theorem dX7_pageAt_17 : decode cX7_pageAt 17 = .ok (.invokestatic 42, 3) := by decide +kernel
theorem dX7_pageAt_20 : decode cX7_pageAt 20 = .ok (.ifCond .eq 22, 3) := by decide +kernel
theorem dX7_pageAt_23 : decode cX7_pageAt 23 = .ok (.iload 4, 2) := by decide +kernel
theorem dX7_pageAt_25 : decode cX7_pageAt 25 = .ok (.iconst 0, 1) := by decide +kernel
theorem dX7_pageAt_26 : decode cX7_pageAt 26 = .ok (.iload_n 1, 1) := by decide +kernel
theorem dX7_pageAt_27 : decode cX7_pageAt 27 = .ok (.invokestatic 102, 3) := by decide +kernel
theorem dX7_pageAt_30 : decode cX7_pageAt 30 = .ok (.iconst 1, 1) := by decide +kernel
theorem dX7_pageAt_31 : decode cX7_pageAt 31 = .ok (.isub, 1) := by decide +kernel
theorem dX7_pageAt_32 : decode cX7_pageAt 32 = .ok (.invokestatic 42, 3) := by decide +kernel
theorem dX7_pageAt_35 : decode cX7_pageAt 35 = .ok (.ifCond .eq 7, 3) := by decide +kernel
theorem dX7_pageAt_38 : decode cX7_pageAt 38 = .ok (.iconst 1, 1) := by decide +kernel
theorem dX7_pageAt_39 : decode cX7_pageAt 39 = .ok (.goto 4, 3) := by decide +kernel
theorem dX7_pageAt_42 : decode cX7_pageAt 42 = .ok (.iconst 0, 1) := by decide +kernel
theorem dX7_pageAt_43 : decode cX7_pageAt 43 = .ok (.invokestatic 46, 3) := by decide +kernel
theorem dX7_pageAt_46 : decode cX7_pageAt 46 = .ok (.iload_n 1, 1) := by decide +kernel
theorem dX7_pageAt_47 : decode cX7_pageAt 47 = .ok (.iload_n 2, 1) := by decide +kernel
theorem dX7_pageAt_48 : decode cX7_pageAt 48 = .ok (.iload_n 3, 1) := by decide +kernel
theorem dX7_pageAt_49 : decode cX7_pageAt 49 = .ok (.iload 4, 2) := by decide +kernel
theorem dX7_pageAt_51 : decode cX7_pageAt 51 = .ok (.invokestatic 105, 3) := by decide +kernel
theorem dX7_pageAt_54 : decode cX7_pageAt 54 = .ok (.ireturn, 1) := by decide +kernel
set_option maxRecDepth 20000 in
theorem ggX7_placeOf_X7_isWithin : GoodIn wsX7_placeOf wsX7_isWithin := goodIn_r _ [4] (by decide +kernel) (by decide +kernel)
set_option maxRecDepth 20000 in
theorem gX7_placeOf_X7_isWithin : GoodIn wsX7_placeOf (va_wsS RX7 42 yX7_isWithin wsX7_isWithin) := goodIn_app (goodIn_of _ (by decide +kernel)) ggX7_placeOf_X7_isWithin
set_option maxRecDepth 20000 in
theorem ggX7_placeOf_X7_demandArgument : GoodIn wsX7_placeOf wsX7_demandArgument := goodIn_ca (goodIn_r _ [7, 8, 9] (by decide +kernel) (by decide +kernel)) (goodIn_sub (fun _ h => List.mem_cons_of_mem _ (List.mem_append_right _ h)) (by decide +kernel))
set_option maxRecDepth 20000 in
theorem gX7_placeOf_X7_demandArgument : GoodIn wsX7_placeOf (va_wsS RX7 46 yX7_demandArgument wsX7_demandArgument) := goodIn_app (goodIn_of _ (by decide +kernel)) ggX7_placeOf_X7_demandArgument
set_option maxRecDepth 20000 in
theorem ggX7_placeOf_X7_columnsOf : GoodIn wsX7_placeOf wsX7_columnsOf := goodIn_r _ [12] (by decide +kernel) (by decide +kernel)
set_option maxRecDepth 20000 in
theorem gX7_placeOf_X7_columnsOf : GoodIn wsX7_placeOf (va_wsS RX7 99 yX7_columnsOf wsX7_columnsOf) := goodIn_app (goodIn_of _ (by decide +kernel)) ggX7_placeOf_X7_columnsOf
set_option maxRecDepth 20000 in
theorem ggX7_placeOf_X7_rowsOf : GoodIn wsX7_placeOf wsX7_rowsOf := goodIn_r _ [15] (by decide +kernel) (by decide +kernel)
set_option maxRecDepth 20000 in
theorem gX7_placeOf_X7_rowsOf : GoodIn wsX7_placeOf (va_wsS RX7 102 yX7_rowsOf wsX7_rowsOf) := goodIn_app (goodIn_of _ (by decide +kernel)) ggX7_placeOf_X7_rowsOf
set_option maxRecDepth 20000 in
theorem ggX7_placeOf_X7_unfoldedPlace : GoodIn wsX7_placeOf wsX7_unfoldedPlace := goodIn_r _ [18, 13, 14, 3, 15, 10, 11, 12, 19, 20, 21] (by decide +kernel) (by decide +kernel)
set_option maxRecDepth 20000 in
theorem gX7_placeOf_X7_unfoldedPlace : GoodIn wsX7_placeOf (va_wsS RX7 109 yX7_unfoldedPlace wsX7_unfoldedPlace) := goodIn_app (goodIn_of _ (by decide +kernel)) ggX7_placeOf_X7_unfoldedPlace
theorem dX7_placeOf_0 : decode cX7_placeOf 0 = .ok (.iload_n 1, 1) := by decide +kernel
theorem dX7_placeOf_1 : decode cX7_placeOf 1 = .ok (.iconst 1, 1) := by decide +kernel
theorem dX7_placeOf_2 : decode cX7_placeOf 2 = .ok (.iconst 4, 1) := by decide +kernel
theorem dX7_placeOf_3 : decode cX7_placeOf 3 = .ok (.invokestatic 42, 3) := by decide +kernel
theorem dX7_placeOf_6 : decode cX7_placeOf 6 = .ok (.invokestatic 46, 3) := by decide +kernel
theorem dX7_placeOf_9 : decode cX7_placeOf 9 = .ok (.iload_n 2, 1) := by decide +kernel
theorem dX7_placeOf_10 : decode cX7_placeOf 10 = .ok (.iconst 1, 1) := by decide +kernel
theorem dX7_placeOf_11 : decode cX7_placeOf 11 = .ok (.iconst 2, 1) := by decide +kernel
theorem dX7_placeOf_12 : decode cX7_placeOf 12 = .ok (.iload_n 1, 1) := by decide +kernel
theorem dX7_placeOf_13 : decode cX7_placeOf 13 = .ok (.invokestatic 99, 3) := by decide +kernel
theorem dX7_placeOf_16 : decode cX7_placeOf 16 = .ok (.imul, 1) := by decide +kernel
theorem dX7_placeOf_17 : decode cX7_placeOf 17 = .ok (.iload_n 1, 1) := by decide +kernel
theorem dX7_placeOf_18 : decode cX7_placeOf 18 = .ok (.invokestatic 102, 3) := by decide +kernel
theorem dX7_placeOf_21 : decode cX7_placeOf 21 = .ok (.imul, 1) := by decide +kernel
theorem dX7_placeOf_22 : decode cX7_placeOf 22 = .ok (.invokestatic 42, 3) := by decide +kernel
theorem dX7_placeOf_25 : decode cX7_placeOf 25 = .ok (.invokestatic 46, 3) := by decide +kernel
theorem dX7_placeOf_28 : decode cX7_placeOf 28 = .ok (.iload_n 1, 1) := by decide +kernel
theorem dX7_placeOf_29 : decode cX7_placeOf 29 = .ok (.iload_n 2, 1) := by decide +kernel
theorem dX7_placeOf_30 : decode cX7_placeOf 30 = .ok (.invokestatic 109, 3) := by decide +kernel
theorem dX7_placeOf_33 : decode cX7_placeOf 33 = .ok (.ireturn, 1) := by decide +kernel
set_option maxRecDepth 20000 in
theorem ggX7_book_X7_isWithin : GoodIn wsX7_book wsX7_isWithin := goodIn_r _ [9] (by decide +kernel) (by decide +kernel)
set_option maxRecDepth 20000 in
theorem gX7_book_X7_isWithin : GoodIn wsX7_book (va_wsS RX7 42 yX7_isWithin wsX7_isWithin) := goodIn_app (goodIn_of _ (by decide +kernel)) ggX7_book_X7_isWithin
set_option maxRecDepth 20000 in
theorem ggX7_book_X7_demandArgument : GoodIn wsX7_book wsX7_demandArgument := goodIn_ca (goodIn_r _ [12, 13, 14] (by decide +kernel) (by decide +kernel)) (goodIn_sub (fun _ h => List.mem_cons_of_mem _ (List.mem_append_left _ (List.mem_append_right _ h))) (by decide +kernel))
set_option maxRecDepth 20000 in
theorem gX7_book_X7_demandArgument : GoodIn wsX7_book (va_wsS RX7 46 yX7_demandArgument wsX7_demandArgument) := goodIn_app (goodIn_of _ (by decide +kernel)) ggX7_book_X7_demandArgument
set_option maxRecDepth 20000 in
theorem ggX7_book_X7_demandState : GoodIn wsX7_book wsX7_demandState := goodIn_ca (goodIn_r _ [17, 18, 19] (by decide +kernel) (by decide +kernel)) (goodIn_sub (fun _ h => List.mem_cons_of_mem _ (List.mem_append_right _ h)) (by decide +kernel))
set_option maxRecDepth 20000 in
theorem gX7_book_X7_demandState : GoodIn wsX7_book (va_wsS RX7 65 yX7_demandState wsX7_demandState) := goodIn_app (goodIn_of _ (by decide +kernel)) ggX7_book_X7_demandState
set_option maxRecDepth 20000 in
theorem ggX7_book_X1_init : GoodIn wsX7_book wsX1_init := goodIn_r _ [22, 23, 24, 25, 26, 27, 28, 29, 30, 31, 32, 33, 34, 35, 36, 37, 38, 39, 40, 41, 42, 43, 44, 45, 46, 47, 48, 49, 50, 51, 52, 53, 54, 55, 56, 57, 58, 59, 60, 61, 76, 77, 69, 70, 71, 72, 73, 74, 75, 78, 79, 80, 81, 82, 83, 84, 85, 86, 87, 88, 89, 90, 91] (by decide +kernel) (by decide +kernel)
set_option maxRecDepth 20000 in
theorem gX7_book_X1_init : GoodIn wsX7_book (wsX1_init) := ggX7_book_X1_init
theorem dX7_book_0 : decode cX7_book 0 = .ok (.iload_n 1, 1) := by decide +kernel
theorem dX7_book_1 : decode cX7_book 1 = .ok (.iconst 1, 1) := by decide +kernel
theorem dX7_book_2 : decode cX7_book 2 = .ok (.bipush 8, 2) := by decide +kernel
theorem dX7_book_4 : decode cX7_book 4 = .ok (.invokestatic 42, 3) := by decide +kernel
theorem dX7_book_7 : decode cX7_book 7 = .ok (.ifCond .eq 17, 3) := by decide +kernel
theorem dX7_book_10 : decode cX7_book 10 = .ok (.iload_n 2, 1) := by decide +kernel
theorem dX7_book_11 : decode cX7_book 11 = .ok (.iconst 2, 1) := by decide +kernel
theorem dX7_book_12 : decode cX7_book 12 = .ok (.bipush 16, 2) := by decide +kernel
theorem dX7_book_14 : decode cX7_book 14 = .ok (.invokestatic 42, 3) := by decide +kernel
theorem dX7_book_17 : decode cX7_book 17 = .ok (.ifCond .eq 7, 3) := by decide +kernel
theorem dX7_book_20 : decode cX7_book 20 = .ok (.iconst 1, 1) := by decide +kernel
theorem dX7_book_21 : decode cX7_book 21 = .ok (.goto 4, 3) := by decide +kernel
theorem dX7_book_24 : decode cX7_book 24 = .ok (.iconst 0, 1) := by decide +kernel
theorem dX7_book_25 : decode cX7_book 25 = .ok (.invokestatic 46, 3) := by decide +kernel
theorem dX7_book_28 : decode cX7_book 28 = .ok (.iload_n 3, 1) := by decide +kernel
theorem dX7_book_29 : decode cX7_book 29 = .ok (.iconst 3, 1) := by decide +kernel
theorem dX7_book_30 : decode cX7_book 30 = .ok (.bipush 6, 2) := by decide +kernel
theorem dX7_book_32 : decode cX7_book 32 = .ok (.invokestatic 42, 3) := by decide +kernel
theorem dX7_book_35 : decode cX7_book 35 = .ok (.ifCond .eq 18, 3) := by decide +kernel
theorem dX7_book_38 : decode cX7_book 38 = .ok (.iload 4, 2) := by decide +kernel
theorem dX7_book_40 : decode cX7_book 40 = .ok (.iconst 1, 1) := by decide +kernel
theorem dX7_book_41 : decode cX7_book 41 = .ok (.bipush 9, 2) := by decide +kernel
theorem dX7_book_43 : decode cX7_book 43 = .ok (.invokestatic 42, 3) := by decide +kernel
theorem dX7_book_46 : decode cX7_book 46 = .ok (.ifCond .eq 7, 3) := by decide +kernel
theorem dX7_book_49 : decode cX7_book 49 = .ok (.iconst 1, 1) := by decide +kernel
theorem dX7_book_50 : decode cX7_book 50 = .ok (.goto 4, 3) := by decide +kernel
theorem dX7_book_53 : decode cX7_book 53 = .ok (.iconst 0, 1) := by decide +kernel
theorem dX7_book_54 : decode cX7_book 54 = .ok (.invokestatic 46, 3) := by decide +kernel
theorem dX7_book_57 : decode cX7_book 57 = .ok (.aload_n 0, 1) := by decide +kernel
theorem dX7_book_58 : decode cX7_book 58 = .ok (.getfield 112, 3) := by decide +kernel
theorem dX7_book_61 : decode cX7_book 61 = .ok (.iconst 4, 1) := by decide +kernel
theorem dX7_book_62 : decode cX7_book 62 = .ok (.if_icmp .ge 7, 3) := by decide +kernel
theorem dX7_book_65 : decode cX7_book 65 = .ok (.iconst 1, 1) := by decide +kernel
theorem dX7_book_66 : decode cX7_book 66 = .ok (.goto 4, 3) := by decide +kernel
theorem dX7_book_69 : decode cX7_book 69 = .ok (.iconst 0, 1) := by decide +kernel
theorem dX7_book_70 : decode cX7_book 70 = .ok (.invokestatic 65, 3) := by decide +kernel
theorem dX7_book_73 : decode cX7_book 73 = .ok (.aload_n 0, 1) := by decide +kernel
theorem dX7_book_74 : decode cX7_book 74 = .ok (.getfield 112, 3) := by decide +kernel
theorem dX7_book_77 : decode cX7_book 77 = .ok (.istore 6, 2) := by decide +kernel
theorem dX7_book_79 : decode cX7_book 79 = .ok (.aload_n 0, 1) := by decide +kernel
theorem dX7_book_80 : decode cX7_book 80 = .ok (.getfield 24, 3) := by decide +kernel
theorem dX7_book_83 : decode cX7_book 83 = .ok (.iload 6, 2) := by decide +kernel
theorem dX7_book_85 : decode cX7_book 85 = .ok (.new 22, 3) := by decide +kernel
theorem dX7_book_88 : decode cX7_book 88 = .ok (.dup, 1) := by decide +kernel
theorem dX7_book_89 : decode cX7_book 89 = .ok (.iload_n 1, 1) := by decide +kernel
theorem dX7_book_90 : decode cX7_book 90 = .ok (.iload_n 2, 1) := by decide +kernel
theorem dX7_book_91 : decode cX7_book 91 = .ok (.iload_n 3, 1) := by decide +kernel
theorem dX7_book_92 : decode cX7_book 92 = .ok (.iload 4, 2) := by decide +kernel
theorem dX7_book_94 : decode cX7_book 94 = .ok (.iload 5, 2) := by decide +kernel
theorem dX7_book_96 : decode cX7_book 96 = .ok (.invokespecial 115, 3) := by decide +kernel
theorem dX7_book_99 : decode cX7_book 99 = .ok (.aastore, 1) := by decide +kernel
theorem dX7_book_100 : decode cX7_book 100 = .ok (.aload_n 0, 1) := by decide +kernel
theorem dX7_book_101 : decode cX7_book 101 = .ok (.dup, 1) := by decide +kernel
theorem dX7_book_102 : decode cX7_book 102 = .ok (.getfield 112, 3) := by decide +kernel
theorem dX7_book_105 : decode cX7_book 105 = .ok (.iconst 1, 1) := by decide +kernel
theorem dX7_book_106 : decode cX7_book 106 = .ok (.iadd, 1) := by decide +kernel
theorem dX7_book_107 : decode cX7_book 107 = .ok (.putfield 112, 3) := by decide +kernel
theorem dX7_book_110 : decode cX7_book 110 = .ok (.iload 6, 2) := by decide +kernel
theorem dX7_book_112 : decode cX7_book 112 = .ok (.ireturn, 1) := by decide +kernel
set_option maxRecDepth 20000 in
theorem ggX7_sew_X7_bookOf : GoodIn wsX7_sew wsX7_bookOf := goodIn_ca (goodIn_r _ [5, 6, 7, 8, 9, 10, 4, 11, 70, 71, 72, 73, 74, 75, 76] (by decide +kernel) (by decide +kernel)) (goodIn_sub (fun _ h => List.mem_cons_of_mem _ (List.mem_append_left _ (List.mem_append_left _ (List.mem_append_right _ h)))) (by decide +kernel))
set_option maxRecDepth 20000 in
theorem gX7_sew_X7_bookOf : GoodIn wsX7_sew (wsV RX7 118 RX7 yX7_bookOf wsX7_bookOf) := goodIn_app (goodIn_of _ (by decide +kernel)) ggX7_sew_X7_bookOf
set_option maxRecDepth 20000 in
theorem ggX7_sew_X7_isWithin : GoodIn wsX7_sew wsX7_isWithin := goodIn_r _ [11] (by decide +kernel) (by decide +kernel)
set_option maxRecDepth 20000 in
theorem gX7_sew_X7_isWithin : GoodIn wsX7_sew (va_wsS RX7 42 yX7_isWithin wsX7_isWithin) := goodIn_app (goodIn_of _ (by decide +kernel)) ggX7_sew_X7_isWithin
set_option maxRecDepth 20000 in
theorem ggX7_sew_X7_demandArgument : GoodIn wsX7_sew wsX7_demandArgument := goodIn_ca (goodIn_r _ [14, 15, 16] (by decide +kernel) (by decide +kernel)) (goodIn_sub (fun _ h => List.mem_cons_of_mem _ (List.mem_append_left _ (List.mem_append_right _ h))) (by decide +kernel))
set_option maxRecDepth 20000 in
theorem gX7_sew_X7_demandArgument : GoodIn wsX7_sew (va_wsS RX7 46 yX7_demandArgument wsX7_demandArgument) := goodIn_app (goodIn_of _ (by decide +kernel)) ggX7_sew_X7_demandArgument
set_option maxRecDepth 20000 in
theorem ggX7_sew_X4_allows : GoodIn wsX7_sew wsX4_allows := goodIn_r _ [21, 22, 23, 24, 25, 26, 27, 60, 61, 62, 63, 64, 65, 66, 67, 68, 69] (by decide +kernel) (by decide +kernel)
set_option maxRecDepth 20000 in
theorem gX7_sew_X4_allows : GoodIn wsX7_sew (wsV RX7 126 RX4 yX4_allows wsX4_allows) := goodIn_app (goodIn_of _ (by decide +kernel)) ggX7_sew_X4_allows
set_option maxRecDepth 20000 in
theorem ggX7_sew_X7_demandState : GoodIn wsX7_sew wsX7_demandState := goodIn_ca (goodIn_r _ [30, 31, 32] (by decide +kernel) (by decide +kernel)) (goodIn_sub (fun _ h => List.mem_cons_of_mem _ (List.mem_append_right _ h)) (by decide +kernel))
set_option maxRecDepth 20000 in
theorem gX7_sew_X7_demandState : GoodIn wsX7_sew (va_wsS RX7 65 yX7_demandState wsX7_demandState) := goodIn_app (goodIn_of _ (by decide +kernel)) ggX7_sew_X7_demandState
set_option maxRecDepth 20000 in
theorem ggX7_sew_X4_make : GoodIn wsX7_sew wsX4_make := goodIn_r _ [36, 22, 37, 38, 39, 40, 20, 41, 23, 26, 25, 42, 43, 44, 45, 46, 47, 48, 49, 50, 51, 52, 60, 61, 62, 63, 64, 65, 66, 67, 68, 69] (by decide +kernel) (by decide +kernel)
set_option maxRecDepth 20000 in
theorem gX7_sew_X4_make : GoodIn wsX7_sew (wsV RX7 131 RX4 yX4_make wsX4_make) := goodIn_app (goodIn_of _ (by decide +kernel)) ggX7_sew_X4_make
theorem dX7_sew_0 : decode cX7_sew 0 = .ok (.aload_n 0, 1) := by decide +kernel
theorem dX7_sew_1 : decode cX7_sew 1 = .ok (.iload_n 1, 1) := by decide +kernel
theorem dX7_sew_2 : decode cX7_sew 2 = .ok (.invokevirtual 118, 3) := by decide +kernel
theorem dX7_sew_5 : decode cX7_sew 5 = .ok (.getfield 122, 3) := by decide +kernel
theorem dX7_sew_8 : decode cX7_sew 8 = .ok (.astore_n 3, 1) := by decide +kernel
theorem dX7_sew_9 : decode cX7_sew 9 = .ok (.iload_n 2, 1) := by decide +kernel
theorem dX7_sew_10 : decode cX7_sew 10 = .ok (.iconst 0, 1) := by decide +kernel
theorem dX7_sew_11 : decode cX7_sew 11 = .ok (.iconst 4, 1) := by decide +kernel
theorem dX7_sew_12 : decode cX7_sew 12 = .ok (.invokestatic 42, 3) := by decide +kernel
theorem dX7_sew_15 : decode cX7_sew 15 = .ok (.invokestatic 46, 3) := by decide +kernel
theorem dX7_sew_18 : decode cX7_sew 18 = .ok (.aload_n 3, 1) := by decide +kernel
theorem dX7_sew_19 : decode cX7_sew 19 = .ok (.iload_n 2, 1) := by decide +kernel
theorem dX7_sew_20 : decode cX7_sew 20 = .ok (.invokevirtual 126, 3) := by decide +kernel
theorem dX7_sew_23 : decode cX7_sew 23 = .ok (.invokestatic 65, 3) := by decide +kernel
theorem dX7_sew_26 : decode cX7_sew 26 = .ok (.aload_n 3, 1) := by decide +kernel
theorem dX7_sew_27 : decode cX7_sew 27 = .ok (.iload_n 2, 1) := by decide +kernel
theorem dX7_sew_28 : decode cX7_sew 28 = .ok (.invokevirtual 131, 3) := by decide +kernel
theorem dX7_sew_31 : decode cX7_sew 31 = .ok (.aload_n 3, 1) := by decide +kernel
theorem dX7_sew_32 : decode cX7_sew 32 = .ok (.getfield 135, 3) := by decide +kernel
theorem dX7_sew_35 : decode cX7_sew 35 = .ok (.ireturn, 1) := by decide +kernel
set_option maxRecDepth 20000 in
theorem ggX7_unsew_X7_bookOf : GoodIn wsX7_unsew wsX7_bookOf := goodIn_ca (goodIn_r _ [5, 6, 7, 8, 9, 10, 4, 11, 67, 68, 69, 70, 71, 72, 73] (by decide +kernel) (by decide +kernel)) (goodIn_sub (fun _ h => List.mem_cons_of_mem _ (List.mem_append_left _ (List.mem_append_left _ (List.mem_append_right _ h)))) (by decide +kernel))
set_option maxRecDepth 20000 in
theorem gX7_unsew_X7_bookOf : GoodIn wsX7_unsew (wsV RX7 118 RX7 yX7_bookOf wsX7_bookOf) := goodIn_app (goodIn_of _ (by decide +kernel)) ggX7_unsew_X7_bookOf
set_option maxRecDepth 20000 in
theorem ggX7_unsew_X7_isWithin : GoodIn wsX7_unsew wsX7_isWithin := goodIn_r _ [11] (by decide +kernel) (by decide +kernel)
set_option maxRecDepth 20000 in
theorem gX7_unsew_X7_isWithin : GoodIn wsX7_unsew (va_wsS RX7 42 yX7_isWithin wsX7_isWithin) := goodIn_app (goodIn_of _ (by decide +kernel)) ggX7_unsew_X7_isWithin
set_option maxRecDepth 20000 in
theorem ggX7_unsew_X7_demandArgument : GoodIn wsX7_unsew wsX7_demandArgument := goodIn_ca (goodIn_r _ [14, 15, 16] (by decide +kernel) (by decide +kernel)) (goodIn_sub (fun _ h => List.mem_cons_of_mem _ (List.mem_append_left _ (List.mem_append_right _ h))) (by decide +kernel))
set_option maxRecDepth 20000 in
theorem gX7_unsew_X7_demandArgument : GoodIn wsX7_unsew (va_wsS RX7 46 yX7_demandArgument wsX7_demandArgument) := goodIn_app (goodIn_of _ (by decide +kernel)) ggX7_unsew_X7_demandArgument
set_option maxRecDepth 20000 in
theorem ggX7_unsew_X7_demandState : GoodIn wsX7_unsew wsX7_demandState := goodIn_ca (goodIn_r _ [19, 20, 21] (by decide +kernel) (by decide +kernel)) (goodIn_sub (fun _ h => List.mem_cons_of_mem _ (List.mem_append_right _ h)) (by decide +kernel))
set_option maxRecDepth 20000 in
theorem gX7_unsew_X7_demandState : GoodIn wsX7_unsew (va_wsS RX7 65 yX7_demandState wsX7_demandState) := goodIn_app (goodIn_of _ (by decide +kernel)) ggX7_unsew_X7_demandState
set_option maxRecDepth 20000 in
theorem ggX7_unsew_X4_takeBack : GoodIn wsX7_unsew wsX4_takeBack := goodIn_r _ [26, 27, 28, 29, 30, 25, 31, 32, 33, 34, 35, 36, 37, 38, 39, 40, 41, 42, 43, 44, 45, 46, 47, 48, 49, 57, 58, 59, 60, 61, 62, 63, 64, 65, 66] (by decide +kernel) (by decide +kernel)
set_option maxRecDepth 20000 in
theorem gX7_unsew_X4_takeBack : GoodIn wsX7_unsew (wsV RX7 141 RX4 yX4_takeBack wsX4_takeBack) := goodIn_app (goodIn_of _ (by decide +kernel)) ggX7_unsew_X4_takeBack
theorem dX7_unsew_0 : decode cX7_unsew 0 = .ok (.aload_n 0, 1) := by decide +kernel
theorem dX7_unsew_1 : decode cX7_unsew 1 = .ok (.iload_n 1, 1) := by decide +kernel
theorem dX7_unsew_2 : decode cX7_unsew 2 = .ok (.invokevirtual 118, 3) := by decide +kernel
theorem dX7_unsew_5 : decode cX7_unsew 5 = .ok (.getfield 122, 3) := by decide +kernel
theorem dX7_unsew_8 : decode cX7_unsew 8 = .ok (.astore_n 3, 1) := by decide +kernel
theorem dX7_unsew_9 : decode cX7_unsew 9 = .ok (.iload_n 2, 1) := by decide +kernel
theorem dX7_unsew_10 : decode cX7_unsew 10 = .ok (.iconst 1, 1) := by decide +kernel
theorem dX7_unsew_11 : decode cX7_unsew 11 = .ok (.sipush 200, 3) := by decide +kernel
theorem dX7_unsew_14 : decode cX7_unsew 14 = .ok (.invokestatic 42, 3) := by decide +kernel
theorem dX7_unsew_17 : decode cX7_unsew 17 = .ok (.invokestatic 46, 3) := by decide +kernel
theorem dX7_unsew_20 : decode cX7_unsew 20 = .ok (.iload_n 2, 1) := by decide +kernel
theorem dX7_unsew_21 : decode cX7_unsew 21 = .ok (.aload_n 3, 1) := by decide +kernel
theorem dX7_unsew_22 : decode cX7_unsew 22 = .ok (.getfield 138, 3) := by decide +kernel
theorem dX7_unsew_25 : decode cX7_unsew 25 = .ok (.if_icmp .gt 7, 3) := by decide +kernel
theorem dX7_unsew_28 : decode cX7_unsew 28 = .ok (.iconst 1, 1) := by decide +kernel
theorem dX7_unsew_29 : decode cX7_unsew 29 = .ok (.goto 4, 3) := by decide +kernel
theorem dX7_unsew_32 : decode cX7_unsew 32 = .ok (.iconst 0, 1) := by decide +kernel
theorem dX7_unsew_33 : decode cX7_unsew 33 = .ok (.invokestatic 65, 3) := by decide +kernel
theorem dX7_unsew_36 : decode cX7_unsew 36 = .ok (.iconst 0, 1) := by decide +kernel
theorem dX7_unsew_37 : decode cX7_unsew 37 = .ok (.istore 4, 2) := by decide +kernel
theorem dX7_unsew_39 : decode cX7_unsew 39 = .ok (.iload 4, 2) := by decide +kernel
theorem dX7_unsew_41 : decode cX7_unsew 41 = .ok (.iload_n 2, 1) := by decide +kernel
theorem dX7_unsew_42 : decode cX7_unsew 42 = .ok (.if_icmp .ge 13, 3) := by decide +kernel
theorem dX7_unsew_45 : decode cX7_unsew 45 = .ok (.aload_n 3, 1) := by decide +kernel
theorem dX7_unsew_46 : decode cX7_unsew 46 = .ok (.invokevirtual 141, 3) := by decide +kernel
theorem dX7_unsew_49 : decode cX7_unsew 49 = .ok (.iinc 4 1, 3) := by decide +kernel
theorem dX7_unsew_52 : decode cX7_unsew 52 = .ok (.goto (-13), 3) := by decide +kernel
theorem dX7_unsew_55 : decode cX7_unsew 55 = .ok (.aload_n 3, 1) := by decide +kernel
theorem dX7_unsew_56 : decode cX7_unsew 56 = .ok (.getfield 135, 3) := by decide +kernel
theorem dX7_unsew_59 : decode cX7_unsew 59 = .ok (.ireturn, 1) := by decide +kernel
set_option maxRecDepth 20000 in
theorem ggX7_ofThread_X7_bookOf : GoodIn wsX7_ofThread wsX7_bookOf := goodIn_ca (goodIn_r _ [5, 6, 7, 8, 9, 10, 4, 11, 52, 53, 54, 55, 56, 57, 58] (by decide +kernel) (by decide +kernel)) (goodIn_sub (fun _ h => List.mem_cons_of_mem _ (List.mem_append_left _ (List.mem_append_right _ h))) (by decide +kernel))
set_option maxRecDepth 20000 in
theorem gX7_ofThread_X7_bookOf : GoodIn wsX7_ofThread (wsV RX7 118 RX7 yX7_bookOf wsX7_bookOf) := goodIn_app (goodIn_of _ (by decide +kernel)) ggX7_ofThread_X7_bookOf
set_option maxRecDepth 20000 in
theorem ggX7_ofThread_X7_isWithin : GoodIn wsX7_ofThread wsX7_isWithin := goodIn_r _ [11] (by decide +kernel) (by decide +kernel)
set_option maxRecDepth 20000 in
theorem gX7_ofThread_X7_isWithin : GoodIn wsX7_ofThread (va_wsS RX7 42 yX7_isWithin wsX7_isWithin) := goodIn_app (goodIn_of _ (by decide +kernel)) ggX7_ofThread_X7_isWithin
set_option maxRecDepth 20000 in
theorem ggX7_ofThread_X7_demandArgument : GoodIn wsX7_ofThread wsX7_demandArgument := goodIn_ca (goodIn_r _ [14, 15, 16] (by decide +kernel) (by decide +kernel)) (goodIn_sub (fun _ h => List.mem_cons_of_mem _ (List.mem_append_right _ h)) (by decide +kernel))
set_option maxRecDepth 20000 in
theorem gX7_ofThread_X7_demandArgument : GoodIn wsX7_ofThread (va_wsS RX7 46 yX7_demandArgument wsX7_demandArgument) := goodIn_app (goodIn_of _ (by decide +kernel)) ggX7_ofThread_X7_demandArgument
set_option maxRecDepth 20000 in
theorem ggX7_ofThread_X4_isSewn : GoodIn wsX7_ofThread wsX4_isSewn := goodIn_r _ [21, 22, 23, 24, 25, 26, 27, 20, 28, 29, 30, 31, 32, 33, 34, 42, 43, 44, 45, 46, 47, 48, 49, 50, 51] (by decide +kernel) (by decide +kernel)
set_option maxRecDepth 20000 in
theorem gX7_ofThread_X4_isSewn : GoodIn wsX7_ofThread (wsV RX7 154 RX4 yX4_isSewn wsX4_isSewn) := goodIn_app (goodIn_of _ (by decide +kernel)) ggX7_ofThread_X4_isSewn
theorem dX7_ofThread_0 : decode cX7_ofThread 0 = .ok (.aload_n 0, 1) := by decide +kernel
theorem dX7_ofThread_1 : decode cX7_ofThread 1 = .ok (.iload_n 1, 1) := by decide +kernel
theorem dX7_ofThread_2 : decode cX7_ofThread 2 = .ok (.invokevirtual 118, 3) := by decide +kernel
theorem dX7_ofThread_5 : decode cX7_ofThread 5 = .ok (.getfield 122, 3) := by decide +kernel
theorem dX7_ofThread_8 : decode cX7_ofThread 8 = .ok (.astore_n 3, 1) := by decide +kernel
theorem dX7_ofThread_9 : decode cX7_ofThread 9 = .ok (.iload_n 2, 1) := by decide +kernel
theorem dX7_ofThread_10 : decode cX7_ofThread 10 = .ok (.iconst 0, 1) := by decide +kernel
theorem dX7_ofThread_11 : decode cX7_ofThread 11 = .ok (.iconst 5, 1) := by decide +kernel
theorem dX7_ofThread_12 : decode cX7_ofThread 12 = .ok (.invokestatic 42, 3) := by decide +kernel
theorem dX7_ofThread_15 : decode cX7_ofThread 15 = .ok (.invokestatic 46, 3) := by decide +kernel
theorem dX7_ofThread_18 : decode cX7_ofThread 18 = .ok (.iload_n 2, 1) := by decide +kernel
theorem dX7_ofThread_19 : decode cX7_ofThread 19 = .ok (.tableswitch 66 0 4 #[33, 38, 43, 48, 61], 33) := by decide +kernel
theorem dX7_ofThread_52 : decode cX7_ofThread 52 = .ok (.aload_n 3, 1) := by decide +kernel
theorem dX7_ofThread_53 : decode cX7_ofThread 53 = .ok (.getfield 135, 3) := by decide +kernel
theorem dX7_ofThread_56 : decode cX7_ofThread 56 = .ok (.ireturn, 1) := by decide +kernel
theorem dX7_ofThread_57 : decode cX7_ofThread 57 = .ok (.aload_n 3, 1) := by decide +kernel
theorem dX7_ofThread_58 : decode cX7_ofThread 58 = .ok (.getfield 144, 3) := by decide +kernel
theorem dX7_ofThread_61 : decode cX7_ofThread 61 = .ok (.ireturn, 1) := by decide +kernel
theorem dX7_ofThread_62 : decode cX7_ofThread 62 = .ok (.aload_n 3, 1) := by decide +kernel
theorem dX7_ofThread_63 : decode cX7_ofThread 63 = .ok (.getfield 147, 3) := by decide +kernel
theorem dX7_ofThread_66 : decode cX7_ofThread 66 = .ok (.ireturn, 1) := by decide +kernel
theorem dX7_ofThread_67 : decode cX7_ofThread 67 = .ok (.aload_n 3, 1) := by decide +kernel
theorem dX7_ofThread_68 : decode cX7_ofThread 68 = .ok (.getfield 150, 3) := by decide +kernel
theorem dX7_ofThread_71 : decode cX7_ofThread 71 = .ok (.ifCond .eq 7, 3) := by decide +kernel
theorem dX7_ofThread_74 : decode cX7_ofThread 74 = .ok (.iconst 1, 1) := by decide +kernel
theorem dX7_ofThread_75 : decode cX7_ofThread 75 = .ok (.goto 4, 3) := by decide +kernel
theorem dX7_ofThread_78 : decode cX7_ofThread 78 = .ok (.iconst 0, 1) := by decide +kernel
theorem dX7_ofThread_79 : decode cX7_ofThread 79 = .ok (.ireturn, 1) := by decide +kernel
theorem dX7_ofThread_80 : decode cX7_ofThread 80 = .ok (.aload_n 3, 1) := by decide +kernel
theorem dX7_ofThread_81 : decode cX7_ofThread 81 = .ok (.getfield 138, 3) := by decide +kernel
theorem dX7_ofThread_84 : decode cX7_ofThread 84 = .ok (.ireturn, 1) := by decide +kernel
theorem dX7_ofThread_85 : decode cX7_ofThread 85 = .ok (.aload_n 3, 1) := by decide +kernel
theorem dX7_ofThread_86 : decode cX7_ofThread 86 = .ok (.invokevirtual 154, 3) := by decide +kernel
theorem dX7_ofThread_89 : decode cX7_ofThread 89 = .ok (.ifCond .eq 7, 3) := by decide +kernel
theorem dX7_ofThread_92 : decode cX7_ofThread 92 = .ok (.iconst 1, 1) := by decide +kernel
theorem dX7_ofThread_93 : decode cX7_ofThread 93 = .ok (.goto 4, 3) := by decide +kernel
theorem dX7_ofThread_96 : decode cX7_ofThread 96 = .ok (.iconst 0, 1) := by decide +kernel
theorem dX7_ofThread_97 : decode cX7_ofThread 97 = .ok (.ireturn, 1) := by decide +kernel
set_option maxRecDepth 20000 in
theorem ggX7_stitches_X7_bookOf : GoodIn wsX7_stitches wsX7_bookOf := goodIn_ca (goodIn_r _ [5, 6, 7, 8, 9, 10, 4, 11, 38, 39, 40, 41, 42, 43, 44] (by decide +kernel) (by decide +kernel)) (goodIn_sub (fun _ h => List.mem_cons_of_mem _ (List.mem_append_right _ h)) (by decide +kernel))
set_option maxRecDepth 20000 in
theorem gX7_stitches_X7_bookOf : GoodIn wsX7_stitches (wsV RX7 118 RX7 yX7_bookOf wsX7_bookOf) := goodIn_app (goodIn_of _ (by decide +kernel)) ggX7_stitches_X7_bookOf
set_option maxRecDepth 20000 in
theorem ggX7_stitches_X7_isWithin : GoodIn wsX7_stitches wsX7_isWithin := goodIn_r _ [11] (by decide +kernel) (by decide +kernel)
set_option maxRecDepth 20000 in
theorem gX7_stitches_X7_isWithin : GoodIn wsX7_stitches (va_wsS RX7 42 yX7_isWithin wsX7_isWithin) := goodIn_app (goodIn_of _ (by decide +kernel)) ggX7_stitches_X7_isWithin
set_option maxRecDepth 20000 in
theorem ggX7_stitches_X7_demandPlace : GoodIn wsX7_stitches wsX7_demandPlace := goodIn_ca (goodIn_r _ [14, 6, 7] (by decide +kernel) (by decide +kernel)) (goodIn_sub (fun _ h => List.mem_cons_of_mem _ (List.mem_append_right _ h)) (by decide +kernel))
set_option maxRecDepth 20000 in
theorem gX7_stitches_X7_demandPlace : GoodIn wsX7_stitches (va_wsS RX7 38 yX7_demandPlace wsX7_demandPlace) := goodIn_app (goodIn_of _ (by decide +kernel)) ggX7_stitches_X7_demandPlace
set_option maxRecDepth 20000 in
theorem ggX7_stitches_X4_stitchesAt : GoodIn wsX7_stitches wsX4_stitchesAt := goodIn_r _ [19, 20, 28, 29, 30, 31, 32, 33, 34, 35, 36, 37] (by decide +kernel) (by decide +kernel)
set_option maxRecDepth 20000 in
theorem gX7_stitches_X4_stitchesAt : GoodIn wsX7_stitches (wsV RX7 164 RX4 yX4_stitchesAt wsX4_stitchesAt) := goodIn_app (goodIn_of _ (by decide +kernel)) ggX7_stitches_X4_stitchesAt
theorem dX7_stitches_0 : decode cX7_stitches 0 = .ok (.aload_n 0, 1) := by decide +kernel
theorem dX7_stitches_1 : decode cX7_stitches 1 = .ok (.iload_n 1, 1) := by decide +kernel
theorem dX7_stitches_2 : decode cX7_stitches 2 = .ok (.invokevirtual 118, 3) := by decide +kernel
theorem dX7_stitches_5 : decode cX7_stitches 5 = .ok (.getfield 122, 3) := by decide +kernel
theorem dX7_stitches_8 : decode cX7_stitches 8 = .ok (.astore 4, 2) := by decide +kernel
theorem dX7_stitches_10 : decode cX7_stitches 10 = .ok (.iload_n 2, 1) := by decide +kernel
theorem dX7_stitches_11 : decode cX7_stitches 11 = .ok (.iconst 0, 1) := by decide +kernel
theorem dX7_stitches_12 : decode cX7_stitches 12 = .ok (.aload 4, 2) := by decide +kernel
theorem dX7_stitches_14 : decode cX7_stitches 14 = .ok (.getfield 158, 3) := by decide +kernel
theorem dX7_stitches_17 : decode cX7_stitches 17 = .ok (.iconst 1, 1) := by decide +kernel
theorem dX7_stitches_18 : decode cX7_stitches 18 = .ok (.isub, 1) := by decide +kernel
theorem dX7_stitches_19 : decode cX7_stitches 19 = .ok (.invokestatic 42, 3) := by decide +kernel
theorem dX7_stitches_22 : decode cX7_stitches 22 = .ok (.ifCond .eq 22, 3) := by decide +kernel
theorem dX7_stitches_25 : decode cX7_stitches 25 = .ok (.iload_n 3, 1) := by decide +kernel
theorem dX7_stitches_26 : decode cX7_stitches 26 = .ok (.iconst 0, 1) := by decide +kernel
theorem dX7_stitches_27 : decode cX7_stitches 27 = .ok (.aload 4, 2) := by decide +kernel
theorem dX7_stitches_29 : decode cX7_stitches 29 = .ok (.getfield 161, 3) := by decide +kernel
theorem dX7_stitches_32 : decode cX7_stitches 32 = .ok (.iconst 2, 1) := by decide +kernel
theorem dX7_stitches_33 : decode cX7_stitches 33 = .ok (.isub, 1) := by decide +kernel
theorem dX7_stitches_34 : decode cX7_stitches 34 = .ok (.invokestatic 42, 3) := by decide +kernel
theorem dX7_stitches_37 : decode cX7_stitches 37 = .ok (.ifCond .eq 7, 3) := by decide +kernel
theorem dX7_stitches_40 : decode cX7_stitches 40 = .ok (.iconst 1, 1) := by decide +kernel
theorem dX7_stitches_41 : decode cX7_stitches 41 = .ok (.goto 4, 3) := by decide +kernel
theorem dX7_stitches_44 : decode cX7_stitches 44 = .ok (.iconst 0, 1) := by decide +kernel
theorem dX7_stitches_45 : decode cX7_stitches 45 = .ok (.invokestatic 38, 3) := by decide +kernel
theorem dX7_stitches_48 : decode cX7_stitches 48 = .ok (.aload 4, 2) := by decide +kernel
theorem dX7_stitches_50 : decode cX7_stitches 50 = .ok (.iload_n 2, 1) := by decide +kernel
theorem dX7_stitches_51 : decode cX7_stitches 51 = .ok (.iload_n 3, 1) := by decide +kernel
theorem dX7_stitches_52 : decode cX7_stitches 52 = .ok (.invokevirtual 164, 3) := by decide +kernel
theorem dX7_stitches_55 : decode cX7_stitches 55 = .ok (.ireturn, 1) := by decide +kernel
set_option maxRecDepth 20000 in
theorem ggX7_isHeld_X7_bookOf : GoodIn wsX7_isHeld wsX7_bookOf := goodIn_ca (goodIn_r _ [5, 6, 7, 8, 9, 10, 4, 11, 43, 44, 45, 46, 47, 48, 49] (by decide +kernel) (by decide +kernel)) (goodIn_sub (fun _ h => List.mem_cons_of_mem _ (List.mem_append_right _ h)) (by decide +kernel))
set_option maxRecDepth 20000 in
theorem gX7_isHeld_X7_bookOf : GoodIn wsX7_isHeld (wsV RX7 118 RX7 yX7_bookOf wsX7_bookOf) := goodIn_app (goodIn_of _ (by decide +kernel)) ggX7_isHeld_X7_bookOf
set_option maxRecDepth 20000 in
theorem ggX7_isHeld_X7_isWithin : GoodIn wsX7_isHeld wsX7_isWithin := goodIn_r _ [11] (by decide +kernel) (by decide +kernel)
set_option maxRecDepth 20000 in
theorem gX7_isHeld_X7_isWithin : GoodIn wsX7_isHeld (va_wsS RX7 42 yX7_isWithin wsX7_isWithin) := goodIn_app (goodIn_of _ (by decide +kernel)) ggX7_isHeld_X7_isWithin
set_option maxRecDepth 20000 in
theorem ggX7_isHeld_X7_demandPlace : GoodIn wsX7_isHeld wsX7_demandPlace := goodIn_ca (goodIn_r _ [14, 6, 7] (by decide +kernel) (by decide +kernel)) (goodIn_sub (fun _ h => List.mem_cons_of_mem _ (List.mem_append_right _ h)) (by decide +kernel))
set_option maxRecDepth 20000 in
theorem gX7_isHeld_X7_demandPlace : GoodIn wsX7_isHeld (va_wsS RX7 38 yX7_demandPlace wsX7_demandPlace) := goodIn_app (goodIn_of _ (by decide +kernel)) ggX7_isHeld_X7_demandPlace
set_option maxRecDepth 20000 in
theorem ggX7_isHeld_X4_holds : GoodIn wsX7_isHeld wsX4_holds := goodIn_r _ [19, 20, 21, 22, 23, 18, 24, 25, 33, 34, 35, 36, 37, 38, 39, 40, 41, 42] (by decide +kernel) (by decide +kernel)
set_option maxRecDepth 20000 in
theorem gX7_isHeld_X4_holds : GoodIn wsX7_isHeld (wsV RX7 167 RX4 yX4_holds wsX4_holds) := goodIn_app (goodIn_of _ (by decide +kernel)) ggX7_isHeld_X4_holds
theorem dX7_isHeld_0 : decode cX7_isHeld 0 = .ok (.aload_n 0, 1) := by decide +kernel
theorem dX7_isHeld_1 : decode cX7_isHeld 1 = .ok (.iload_n 1, 1) := by decide +kernel
theorem dX7_isHeld_2 : decode cX7_isHeld 2 = .ok (.invokevirtual 118, 3) := by decide +kernel
theorem dX7_isHeld_5 : decode cX7_isHeld 5 = .ok (.getfield 122, 3) := by decide +kernel
theorem dX7_isHeld_8 : decode cX7_isHeld 8 = .ok (.astore_n 3, 1) := by decide +kernel
theorem dX7_isHeld_9 : decode cX7_isHeld 9 = .ok (.iload_n 2, 1) := by decide +kernel
theorem dX7_isHeld_10 : decode cX7_isHeld 10 = .ok (.iconst 0, 1) := by decide +kernel
theorem dX7_isHeld_11 : decode cX7_isHeld 11 = .ok (.aload_n 3, 1) := by decide +kernel
theorem dX7_isHeld_12 : decode cX7_isHeld 12 = .ok (.getfield 158, 3) := by decide +kernel
theorem dX7_isHeld_15 : decode cX7_isHeld 15 = .ok (.iconst 1, 1) := by decide +kernel
theorem dX7_isHeld_16 : decode cX7_isHeld 16 = .ok (.isub, 1) := by decide +kernel
theorem dX7_isHeld_17 : decode cX7_isHeld 17 = .ok (.invokestatic 42, 3) := by decide +kernel
theorem dX7_isHeld_20 : decode cX7_isHeld 20 = .ok (.invokestatic 38, 3) := by decide +kernel
theorem dX7_isHeld_23 : decode cX7_isHeld 23 = .ok (.aload_n 3, 1) := by decide +kernel
theorem dX7_isHeld_24 : decode cX7_isHeld 24 = .ok (.iload_n 2, 1) := by decide +kernel
theorem dX7_isHeld_25 : decode cX7_isHeld 25 = .ok (.invokevirtual 167, 3) := by decide +kernel
theorem dX7_isHeld_28 : decode cX7_isHeld 28 = .ok (.ireturn, 1) := by decide +kernel
set_option maxRecDepth 20000 in
theorem ggX7_back_X7_bookOf : GoodIn wsX7_back wsX7_bookOf := goodIn_ca (goodIn_r _ [5, 6, 7, 8, 9, 10, 4, 11, 24, 25, 26, 27, 28, 29, 30] (by decide +kernel) (by decide +kernel)) (goodIn_sub (fun _ h => List.mem_cons_of_mem _ (List.mem_append_left _ (List.mem_append_right _ h))) (by decide +kernel))
set_option maxRecDepth 20000 in
theorem gX7_back_X7_bookOf : GoodIn wsX7_back (wsV RX7 118 RX7 yX7_bookOf wsX7_bookOf) := goodIn_app (goodIn_of _ (by decide +kernel)) ggX7_back_X7_bookOf
set_option maxRecDepth 20000 in
theorem ggX7_back_X7_isWithin : GoodIn wsX7_back wsX7_isWithin := goodIn_r _ [11] (by decide +kernel) (by decide +kernel)
set_option maxRecDepth 20000 in
theorem gX7_back_X7_isWithin : GoodIn wsX7_back (va_wsS RX7 42 yX7_isWithin wsX7_isWithin) := goodIn_app (goodIn_of _ (by decide +kernel)) ggX7_back_X7_isWithin
set_option maxRecDepth 20000 in
theorem ggX7_back_X7_demandArgument : GoodIn wsX7_back wsX7_demandArgument := goodIn_ca (goodIn_r _ [14, 15, 16] (by decide +kernel) (by decide +kernel)) (goodIn_sub (fun _ h => List.mem_cons_of_mem _ (List.mem_append_right _ h)) (by decide +kernel))
set_option maxRecDepth 20000 in
theorem gX7_back_X7_demandArgument : GoodIn wsX7_back (va_wsS RX7 46 yX7_demandArgument wsX7_demandArgument) := goodIn_app (goodIn_of _ (by decide +kernel)) ggX7_back_X7_demandArgument
theorem dX7_back_0 : decode cX7_back 0 = .ok (.aload_n 0, 1) := by decide +kernel
theorem dX7_back_1 : decode cX7_back 1 = .ok (.iload_n 1, 1) := by decide +kernel
theorem dX7_back_2 : decode cX7_back 2 = .ok (.invokevirtual 118, 3) := by decide +kernel
theorem dX7_back_5 : decode cX7_back 5 = .ok (.astore_n 3, 1) := by decide +kernel
theorem dX7_back_6 : decode cX7_back 6 = .ok (.iload_n 2, 1) := by decide +kernel
theorem dX7_back_7 : decode cX7_back 7 = .ok (.iconst 0, 1) := by decide +kernel
theorem dX7_back_8 : decode cX7_back 8 = .ok (.iconst 2, 1) := by decide +kernel
theorem dX7_back_9 : decode cX7_back 9 = .ok (.invokestatic 42, 3) := by decide +kernel
theorem dX7_back_12 : decode cX7_back 12 = .ok (.invokestatic 46, 3) := by decide +kernel
theorem dX7_back_15 : decode cX7_back 15 = .ok (.aload_n 3, 1) := by decide +kernel
theorem dX7_back_16 : decode cX7_back 16 = .ok (.getfield 170, 3) := by decide +kernel
theorem dX7_back_19 : decode cX7_back 19 = .ok (.istore 4, 2) := by decide +kernel
theorem dX7_back_21 : decode cX7_back 21 = .ok (.aload_n 3, 1) := by decide +kernel
theorem dX7_back_22 : decode cX7_back 22 = .ok (.iload_n 2, 1) := by decide +kernel
theorem dX7_back_23 : decode cX7_back 23 = .ok (.putfield 170, 3) := by decide +kernel
theorem dX7_back_26 : decode cX7_back 26 = .ok (.iload 4, 2) := by decide +kernel
theorem dX7_back_28 : decode cX7_back 28 = .ok (.ireturn, 1) := by decide +kernel
set_option maxRecDepth 20000 in
theorem ggX7_swelling_X7_bookOf : GoodIn wsX7_swelling wsX7_bookOf := goodIn_ca (goodIn_r _ [5, 6, 7, 8, 9, 10, 4, 11, 39, 40, 41, 42, 43, 44, 45] (by decide +kernel) (by decide +kernel)) (goodIn_sub (fun _ h => List.mem_cons_of_mem _ (List.mem_append_right _ h)) (by decide +kernel))
set_option maxRecDepth 20000 in
theorem gX7_swelling_X7_bookOf : GoodIn wsX7_swelling (wsV RX7 118 RX7 yX7_bookOf wsX7_bookOf) := goodIn_app (goodIn_of _ (by decide +kernel)) ggX7_swelling_X7_bookOf
set_option maxRecDepth 20000 in
theorem ggX7_swelling_X4_swell : GoodIn wsX7_swelling wsX4_swell := goodIn_r _ [16, 17, 18, 19, 20, 15, 21, 22, 23, 24, 25, 26, 27, 28, 29, 30, 31, 46, 47, 48, 49, 50, 51, 52, 53, 54, 55] (by decide +kernel) (by decide +kernel)
set_option maxRecDepth 20000 in
theorem gX7_swelling_X4_swell : GoodIn wsX7_swelling (wsV RX7 173 RX4 yX4_swell wsX4_swell) := goodIn_app (goodIn_of _ (by decide +kernel)) ggX7_swelling_X4_swell
theorem dX7_swelling_0 : decode cX7_swelling 0 = .ok (.aload_n 0, 1) := by decide +kernel
theorem dX7_swelling_1 : decode cX7_swelling 1 = .ok (.iload_n 1, 1) := by decide +kernel
theorem dX7_swelling_2 : decode cX7_swelling 2 = .ok (.invokevirtual 118, 3) := by decide +kernel
theorem dX7_swelling_5 : decode cX7_swelling 5 = .ok (.getfield 122, 3) := by decide +kernel
theorem dX7_swelling_8 : decode cX7_swelling 8 = .ok (.invokevirtual 173, 3) := by decide +kernel
theorem dX7_swelling_11 : decode cX7_swelling 11 = .ok (.ireturn, 1) := by decide +kernel
set_option maxRecDepth 20000 in
theorem ggX7_strain_X7_bookOf : GoodIn wsX7_strain wsX7_bookOf := goodIn_ca (goodIn_r _ [5, 6, 7, 8, 9, 10, 4, 11, 59, 60, 61, 62, 63, 64, 65] (by decide +kernel) (by decide +kernel)) (goodIn_sub (fun _ h => List.mem_cons_of_mem _ (List.mem_append_left _ (List.mem_append_right _ h))) (by decide +kernel))
set_option maxRecDepth 20000 in
theorem gX7_strain_X7_bookOf : GoodIn wsX7_strain (wsV RX7 118 RX7 yX7_bookOf wsX7_bookOf) := goodIn_app (goodIn_of _ (by decide +kernel)) ggX7_strain_X7_bookOf
set_option maxRecDepth 20000 in
theorem ggX7_strain_X7_isWithin : GoodIn wsX7_strain wsX7_isWithin := goodIn_r _ [11] (by decide +kernel) (by decide +kernel)
set_option maxRecDepth 20000 in
theorem gX7_strain_X7_isWithin : GoodIn wsX7_strain (va_wsS RX7 42 yX7_isWithin wsX7_isWithin) := goodIn_app (goodIn_of _ (by decide +kernel)) ggX7_strain_X7_isWithin
set_option maxRecDepth 20000 in
theorem ggX7_strain_X7_demandArgument : GoodIn wsX7_strain wsX7_demandArgument := goodIn_ca (goodIn_r _ [14, 15, 16] (by decide +kernel) (by decide +kernel)) (goodIn_sub (fun _ h => List.mem_cons_of_mem _ (List.mem_append_right _ h)) (by decide +kernel))
set_option maxRecDepth 20000 in
theorem gX7_strain_X7_demandArgument : GoodIn wsX7_strain (va_wsS RX7 46 yX7_demandArgument wsX7_demandArgument) := goodIn_app (goodIn_of _ (by decide +kernel)) ggX7_strain_X7_demandArgument
set_option maxRecDepth 20000 in
theorem ggX7_strain_X1_bendAt : GoodIn wsX7_strain wsX1_bendAt := goodIn_r _ [21, 22, 23, 24, 25, 26, 27, 28, 29, 30, 20, 31, 32, 52, 53, 54, 55, 56, 57, 58] (by decide +kernel) (by decide +kernel)
set_option maxRecDepth 20000 in
theorem gX7_strain_X1_bendAt : GoodIn wsX7_strain (wsV RX7 179 RX1 yX1_bendAt wsX1_bendAt) := goodIn_app (goodIn_of _ (by decide +kernel)) ggX7_strain_X1_bendAt
set_option maxRecDepth 20000 in
theorem ggX7_strain_X4_swell : GoodIn wsX7_strain wsX4_swell := goodIn_r _ [37, 38, 39, 40, 41, 36, 42, 43, 44, 45, 25, 46, 47, 48, 49, 50, 51, 66, 67, 68, 69, 70, 71, 72, 73, 74, 75] (by decide +kernel) (by decide +kernel)
set_option maxRecDepth 20000 in
theorem gX7_strain_X4_swell : GoodIn wsX7_strain (wsV RX7 173 RX4 yX4_swell wsX4_swell) := goodIn_app (goodIn_of _ (by decide +kernel)) ggX7_strain_X4_swell
theorem dX7_strain_0 : decode cX7_strain 0 = .ok (.aload_n 0, 1) := by decide +kernel
theorem dX7_strain_1 : decode cX7_strain 1 = .ok (.iload_n 1, 1) := by decide +kernel
theorem dX7_strain_2 : decode cX7_strain 2 = .ok (.invokevirtual 118, 3) := by decide +kernel
theorem dX7_strain_5 : decode cX7_strain 5 = .ok (.astore_n 3, 1) := by decide +kernel
theorem dX7_strain_6 : decode cX7_strain 6 = .ok (.iload_n 2, 1) := by decide +kernel
theorem dX7_strain_7 : decode cX7_strain 7 = .ok (.iconst 0, 1) := by decide +kernel
theorem dX7_strain_8 : decode cX7_strain 8 = .ok (.aload_n 3, 1) := by decide +kernel
theorem dX7_strain_9 : decode cX7_strain 9 = .ok (.getfield 176, 3) := by decide +kernel
theorem dX7_strain_12 : decode cX7_strain 12 = .ok (.invokestatic 42, 3) := by decide +kernel
theorem dX7_strain_15 : decode cX7_strain 15 = .ok (.invokestatic 46, 3) := by decide +kernel
theorem dX7_strain_18 : decode cX7_strain 18 = .ok (.aload_n 3, 1) := by decide +kernel
theorem dX7_strain_19 : decode cX7_strain 19 = .ok (.iload_n 2, 1) := by decide +kernel
theorem dX7_strain_20 : decode cX7_strain 20 = .ok (.invokevirtual 179, 3) := by decide +kernel
theorem dX7_strain_23 : decode cX7_strain 23 = .ok (.aload_n 3, 1) := by decide +kernel
theorem dX7_strain_24 : decode cX7_strain 24 = .ok (.getfield 122, 3) := by decide +kernel
theorem dX7_strain_27 : decode cX7_strain 27 = .ok (.invokevirtual 173, 3) := by decide +kernel
theorem dX7_strain_30 : decode cX7_strain 30 = .ok (.iadd, 1) := by decide +kernel
theorem dX7_strain_31 : decode cX7_strain 31 = .ok (.ireturn, 1) := by decide +kernel
set_option maxRecDepth 20000 in
theorem ggX7_worst_X7_bookOf : GoodIn wsX7_worst wsX7_bookOf := goodIn_ca (goodIn_r _ [5, 6, 7, 8, 9, 10, 4, 11, 32, 33, 34, 35, 36, 37, 38] (by decide +kernel) (by decide +kernel)) (goodIn_sub (fun _ h => List.mem_cons_of_mem _ (List.mem_append_right _ h)) (by decide +kernel))
set_option maxRecDepth 20000 in
theorem gX7_worst_X7_bookOf : GoodIn wsX7_worst (wsV RX7 118 RX7 yX7_bookOf wsX7_bookOf) := goodIn_app (goodIn_of _ (by decide +kernel)) ggX7_worst_X7_bookOf
set_option maxRecDepth 20000 in
theorem ggX7_worst_X1_stiffestOpening : GoodIn wsX7_worst wsX1_stiffestOpening := goodIn_r _ [16, 17, 18, 19, 20, 15, 21, 22, 23, 24, 25, 26, 27, 28, 29, 30, 31, 39, 40, 41, 42, 43, 44, 45] (by decide +kernel) (by decide +kernel)
set_option maxRecDepth 20000 in
theorem gX7_worst_X1_stiffestOpening : GoodIn wsX7_worst (wsV RX7 182 RX1 yX1_stiffestOpening wsX1_stiffestOpening) := goodIn_app (goodIn_of _ (by decide +kernel)) ggX7_worst_X1_stiffestOpening
theorem dX7_worst_0 : decode cX7_worst 0 = .ok (.aload_n 0, 1) := by decide +kernel
theorem dX7_worst_1 : decode cX7_worst 1 = .ok (.iload_n 1, 1) := by decide +kernel
theorem dX7_worst_2 : decode cX7_worst 2 = .ok (.invokevirtual 118, 3) := by decide +kernel
theorem dX7_worst_5 : decode cX7_worst 5 = .ok (.invokevirtual 182, 3) := by decide +kernel
theorem dX7_worst_8 : decode cX7_worst 8 = .ok (.ireturn, 1) := by decide +kernel
set_option maxRecDepth 20000 in
theorem ggX7_opens_X7_bookOf : GoodIn wsX7_opens wsX7_bookOf := goodIn_ca (goodIn_r _ [6, 7, 8, 9, 10, 11, 5, 12, 58, 59, 60, 61, 62, 63, 64] (by decide +kernel) (by decide +kernel)) (goodIn_sub (fun _ h => List.mem_cons_of_mem _ (List.mem_append_left _ (List.mem_append_right _ h))) (by decide +kernel))
set_option maxRecDepth 20000 in
theorem gX7_opens_X7_bookOf : GoodIn wsX7_opens (wsV RX7 118 RX7 yX7_bookOf wsX7_bookOf) := goodIn_app (goodIn_of _ (by decide +kernel)) ggX7_opens_X7_bookOf
set_option maxRecDepth 20000 in
theorem ggX7_opens_X7_isWithin : GoodIn wsX7_opens wsX7_isWithin := goodIn_r _ [12] (by decide +kernel) (by decide +kernel)
set_option maxRecDepth 20000 in
theorem gX7_opens_X7_isWithin : GoodIn wsX7_opens (va_wsS RX7 42 yX7_isWithin wsX7_isWithin) := goodIn_app (goodIn_of _ (by decide +kernel)) ggX7_opens_X7_isWithin
set_option maxRecDepth 20000 in
theorem ggX7_opens_X7_demandArgument : GoodIn wsX7_opens wsX7_demandArgument := goodIn_ca (goodIn_r _ [15, 16, 17] (by decide +kernel) (by decide +kernel)) (goodIn_sub (fun _ h => List.mem_cons_of_mem _ (List.mem_append_right _ h)) (by decide +kernel))
set_option maxRecDepth 20000 in
theorem gX7_opens_X7_demandArgument : GoodIn wsX7_opens (va_wsS RX7 46 yX7_demandArgument wsX7_demandArgument) := goodIn_app (goodIn_of _ (by decide +kernel)) ggX7_opens_X7_demandArgument
set_option maxRecDepth 20000 in
theorem ggX7_opens_X1_openingsWithin : GoodIn wsX7_opens wsX1_openingsWithin := goodIn_r _ [22, 23, 24, 25, 26, 27, 28, 29, 30, 31, 32, 33, 34, 35, 36, 37, 38, 39, 40, 41, 42, 43, 44, 45, 46, 47, 21, 48, 49, 50, 51, 52, 53, 54, 55, 56, 57, 65, 66, 67, 68, 69, 70, 71, 72, 73, 74, 75, 76, 77, 78, 79, 80, 81] (by decide +kernel) (by decide +kernel)
set_option maxRecDepth 20000 in
theorem gX7_opens_X1_openingsWithin : GoodIn wsX7_opens (wsV RX7 186 RX1 yX1_openingsWithin wsX1_openingsWithin) := goodIn_app (goodIn_of _ (by decide +kernel)) ggX7_opens_X1_openingsWithin
theorem dX7_opens_0 : decode cX7_opens 0 = .ok (.aload_n 0, 1) := by decide +kernel
theorem dX7_opens_1 : decode cX7_opens 1 = .ok (.iload_n 1, 1) := by decide +kernel
theorem dX7_opens_2 : decode cX7_opens 2 = .ok (.invokevirtual 118, 3) := by decide +kernel
theorem dX7_opens_5 : decode cX7_opens 5 = .ok (.astore_n 3, 1) := by decide +kernel
theorem dX7_opens_6 : decode cX7_opens 6 = .ok (.iload_n 2, 1) := by decide +kernel
theorem dX7_opens_7 : decode cX7_opens 7 = .ok (.iconst 0, 1) := by decide +kernel
theorem dX7_opens_8 : decode cX7_opens 8 = .ok (.ldc 185, 2) := by decide +kernel
theorem dX7_opens_10 : decode cX7_opens 10 = .ok (.invokestatic 42, 3) := by decide +kernel
theorem dX7_opens_13 : decode cX7_opens 13 = .ok (.invokestatic 46, 3) := by decide +kernel
theorem dX7_opens_16 : decode cX7_opens 16 = .ok (.aload_n 3, 1) := by decide +kernel
theorem dX7_opens_17 : decode cX7_opens 17 = .ok (.iload_n 2, 1) := by decide +kernel
theorem dX7_opens_18 : decode cX7_opens 18 = .ok (.invokevirtual 186, 3) := by decide +kernel
theorem dX7_opens_21 : decode cX7_opens 21 = .ok (.ireturn, 1) := by decide +kernel
set_option maxRecDepth 20000 in
theorem ggX7_skin_X7_isWithin : GoodIn wsX7_skin wsX7_isWithin := goodIn_r _ [9] (by decide +kernel) (by decide +kernel)
set_option maxRecDepth 20000 in
theorem gX7_skin_X7_isWithin : GoodIn wsX7_skin (va_wsS RX7 42 yX7_isWithin wsX7_isWithin) := goodIn_app (goodIn_of _ (by decide +kernel)) ggX7_skin_X7_isWithin
set_option maxRecDepth 20000 in
theorem ggX7_skin_X7_demandArgument : GoodIn wsX7_skin wsX7_demandArgument := goodIn_ca (goodIn_r _ [12, 13, 14] (by decide +kernel) (by decide +kernel)) (goodIn_sub (fun _ h => List.mem_cons_of_mem _ (List.mem_append_left _ (List.mem_append_right _ h))) (by decide +kernel))
set_option maxRecDepth 20000 in
theorem gX7_skin_X7_demandArgument : GoodIn wsX7_skin (va_wsS RX7 46 yX7_demandArgument wsX7_demandArgument) := goodIn_app (goodIn_of _ (by decide +kernel)) ggX7_skin_X7_demandArgument
set_option maxRecDepth 20000 in
theorem ggX7_skin_X7_demandState : GoodIn wsX7_skin wsX7_demandState := goodIn_ca (goodIn_r _ [17, 18, 19] (by decide +kernel) (by decide +kernel)) (goodIn_sub (fun _ h => List.mem_cons_of_mem _ (List.mem_append_right _ h)) (by decide +kernel))
set_option maxRecDepth 20000 in
theorem gX7_skin_X7_demandState : GoodIn wsX7_skin (va_wsS RX7 65 yX7_demandState wsX7_demandState) := goodIn_app (goodIn_of _ (by decide +kernel)) ggX7_skin_X7_demandState
set_option maxRecDepth 20000 in
theorem ggX7_skin_X5_init : GoodIn wsX7_skin wsX5_init := goodIn_r _ [22, 23, 24, 25, 26, 27, 35] (by decide +kernel) (by decide +kernel)
set_option maxRecDepth 20000 in
theorem gX7_skin_X5_init : GoodIn wsX7_skin (wsX5_init) := ggX7_skin_X5_init
theorem dX7_skin_0 : decode cX7_skin 0 = .ok (.iload_n 1, 1) := by decide +kernel
theorem dX7_skin_1 : decode cX7_skin 1 = .ok (.bipush 8, 2) := by decide +kernel
theorem dX7_skin_3 : decode cX7_skin 3 = .ok (.bipush 30, 2) := by decide +kernel
theorem dX7_skin_5 : decode cX7_skin 5 = .ok (.invokestatic 42, 3) := by decide +kernel
theorem dX7_skin_8 : decode cX7_skin 8 = .ok (.invokestatic 46, 3) := by decide +kernel
theorem dX7_skin_11 : decode cX7_skin 11 = .ok (.aload_n 0, 1) := by decide +kernel
theorem dX7_skin_12 : decode cX7_skin 12 = .ok (.getfield 189, 3) := by decide +kernel
theorem dX7_skin_15 : decode cX7_skin 15 = .ok (.iconst 3, 1) := by decide +kernel
theorem dX7_skin_16 : decode cX7_skin 16 = .ok (.if_icmp .ge 7, 3) := by decide +kernel
theorem dX7_skin_19 : decode cX7_skin 19 = .ok (.iconst 1, 1) := by decide +kernel
theorem dX7_skin_20 : decode cX7_skin 20 = .ok (.goto 4, 3) := by decide +kernel
theorem dX7_skin_23 : decode cX7_skin 23 = .ok (.iconst 0, 1) := by decide +kernel
theorem dX7_skin_24 : decode cX7_skin 24 = .ok (.invokestatic 65, 3) := by decide +kernel
theorem dX7_skin_27 : decode cX7_skin 27 = .ok (.aload_n 0, 1) := by decide +kernel
theorem dX7_skin_28 : decode cX7_skin 28 = .ok (.getfield 189, 3) := by decide +kernel
theorem dX7_skin_31 : decode cX7_skin 31 = .ok (.istore_n 2, 1) := by decide +kernel
theorem dX7_skin_32 : decode cX7_skin 32 = .ok (.aload_n 0, 1) := by decide +kernel
theorem dX7_skin_33 : decode cX7_skin 33 = .ok (.getfield 30, 3) := by decide +kernel
theorem dX7_skin_36 : decode cX7_skin 36 = .ok (.iload_n 2, 1) := by decide +kernel
theorem dX7_skin_37 : decode cX7_skin 37 = .ok (.new 28, 3) := by decide +kernel
theorem dX7_skin_40 : decode cX7_skin 40 = .ok (.dup, 1) := by decide +kernel
theorem dX7_skin_41 : decode cX7_skin 41 = .ok (.iload_n 1, 1) := by decide +kernel
theorem dX7_skin_42 : decode cX7_skin 42 = .ok (.invokespecial 192, 3) := by decide +kernel
theorem dX7_skin_45 : decode cX7_skin 45 = .ok (.aastore, 1) := by decide +kernel
theorem dX7_skin_46 : decode cX7_skin 46 = .ok (.aload_n 0, 1) := by decide +kernel
theorem dX7_skin_47 : decode cX7_skin 47 = .ok (.dup, 1) := by decide +kernel
theorem dX7_skin_48 : decode cX7_skin 48 = .ok (.getfield 189, 3) := by decide +kernel
theorem dX7_skin_51 : decode cX7_skin 51 = .ok (.iconst 1, 1) := by decide +kernel
theorem dX7_skin_52 : decode cX7_skin 52 = .ok (.iadd, 1) := by decide +kernel
theorem dX7_skin_53 : decode cX7_skin 53 = .ok (.putfield 189, 3) := by decide +kernel
theorem dX7_skin_56 : decode cX7_skin 56 = .ok (.iload_n 2, 1) := by decide +kernel
theorem dX7_skin_57 : decode cX7_skin 57 = .ok (.ireturn, 1) := by decide +kernel
set_option maxRecDepth 20000 in
theorem ggX7_pare_X7_skinOf : GoodIn wsX7_pare wsX7_skinOf := goodIn_ca (goodIn_r _ [5, 6, 7, 8, 9, 10, 4, 11, 47, 48, 49, 50, 51, 52, 53] (by decide +kernel) (by decide +kernel)) (goodIn_sub (fun _ h => List.mem_cons_of_mem _ (List.mem_append_left _ (List.mem_append_left _ (List.mem_append_right _ h)))) (by decide +kernel))
set_option maxRecDepth 20000 in
theorem gX7_pare_X7_skinOf : GoodIn wsX7_pare (wsV RX7 194 RX7 yX7_skinOf wsX7_skinOf) := goodIn_app (goodIn_of _ (by decide +kernel)) ggX7_pare_X7_skinOf
set_option maxRecDepth 20000 in
theorem ggX7_pare_X7_isOnGrid : GoodIn wsX7_pare wsX7_isOnGrid := goodIn_r _ [14, 15, 16, 4, 17, 9, 10, 11] (by decide +kernel) (by decide +kernel)
set_option maxRecDepth 20000 in
theorem gX7_pare_X7_isOnGrid : GoodIn wsX7_pare (va_wsS RX7 34 yX7_isOnGrid wsX7_isOnGrid) := goodIn_app (goodIn_of _ (by decide +kernel)) ggX7_pare_X7_isOnGrid
set_option maxRecDepth 20000 in
theorem ggX7_pare_X7_demandPlace : GoodIn wsX7_pare wsX7_demandPlace := goodIn_ca (goodIn_r _ [20, 6, 7] (by decide +kernel) (by decide +kernel)) (goodIn_sub (fun _ h => List.mem_cons_of_mem _ (List.mem_append_left _ (List.mem_append_left _ (List.mem_append_right _ h)))) (by decide +kernel))
set_option maxRecDepth 20000 in
theorem gX7_pare_X7_demandPlace : GoodIn wsX7_pare (va_wsS RX7 38 yX7_demandPlace wsX7_demandPlace) := goodIn_app (goodIn_of _ (by decide +kernel)) ggX7_pare_X7_demandPlace
set_option maxRecDepth 20000 in
theorem ggX7_pare_X7_isWithin : GoodIn wsX7_pare wsX7_isWithin := goodIn_r _ [11] (by decide +kernel) (by decide +kernel)
set_option maxRecDepth 20000 in
theorem gX7_pare_X7_isWithin : GoodIn wsX7_pare (va_wsS RX7 42 yX7_isWithin wsX7_isWithin) := goodIn_app (goodIn_of _ (by decide +kernel)) ggX7_pare_X7_isWithin
set_option maxRecDepth 20000 in
theorem ggX7_pare_X7_demandArgument : GoodIn wsX7_pare wsX7_demandArgument := goodIn_ca (goodIn_r _ [23, 24, 25] (by decide +kernel) (by decide +kernel)) (goodIn_sub (fun _ h => List.mem_cons_of_mem _ (List.mem_append_left _ (List.mem_append_right _ h))) (by decide +kernel))
set_option maxRecDepth 20000 in
theorem gX7_pare_X7_demandArgument : GoodIn wsX7_pare (va_wsS RX7 46 yX7_demandArgument wsX7_demandArgument) := goodIn_app (goodIn_of _ (by decide +kernel)) ggX7_pare_X7_demandArgument
set_option maxRecDepth 20000 in
theorem ggX7_pare_X5_thinnest : GoodIn wsX7_pare wsX5_thinnest := goodIn_r _ [30, 31, 32, 33, 34, 35, 36, 4, 37, 54] (by decide +kernel) (by decide +kernel)
set_option maxRecDepth 20000 in
theorem gX7_pare_X5_thinnest : GoodIn wsX7_pare (wsV RX7 198 RX5 yX5_thinnest wsX5_thinnest) := goodIn_app (goodIn_of _ (by decide +kernel)) ggX7_pare_X5_thinnest
set_option maxRecDepth 20000 in
theorem ggX7_pare_X7_demandState : GoodIn wsX7_pare wsX7_demandState := goodIn_ca (goodIn_r _ [40, 41, 42] (by decide +kernel) (by decide +kernel)) (goodIn_sub (fun _ h => List.mem_cons_of_mem _ (List.mem_append_right _ h)) (by decide +kernel))
set_option maxRecDepth 20000 in
theorem gX7_pare_X7_demandState : GoodIn wsX7_pare (va_wsS RX7 65 yX7_demandState wsX7_demandState) := goodIn_app (goodIn_of _ (by decide +kernel)) ggX7_pare_X7_demandState
set_option maxRecDepth 20000 in
theorem ggX7_pare_X5_thin : GoodIn wsX7_pare wsX5_thin := goodIn_r _ [46, 31, 36, 4, 37, 54] (by decide +kernel) (by decide +kernel)
set_option maxRecDepth 20000 in
theorem gX7_pare_X5_thin : GoodIn wsX7_pare (wsV RX7 201 RX5 yX5_thin wsX5_thin) := goodIn_app (goodIn_of _ (by decide +kernel)) ggX7_pare_X5_thin
theorem dX7_pare_0 : decode cX7_pare 0 = .ok (.aload_n 0, 1) := by decide +kernel
theorem dX7_pare_1 : decode cX7_pare 1 = .ok (.iload_n 1, 1) := by decide +kernel
theorem dX7_pare_2 : decode cX7_pare 2 = .ok (.invokevirtual 194, 3) := by decide +kernel
theorem dX7_pare_5 : decode cX7_pare 5 = .ok (.astore 7, 2) := by decide +kernel
theorem dX7_pare_7 : decode cX7_pare 7 = .ok (.iload_n 2, 1) := by decide +kernel
theorem dX7_pare_8 : decode cX7_pare 8 = .ok (.iload 4, 2) := by decide +kernel
theorem dX7_pare_10 : decode cX7_pare 10 = .ok (.invokestatic 34, 3) := by decide +kernel
theorem dX7_pare_13 : decode cX7_pare 13 = .ok (.ifCond .eq 28, 3) := by decide +kernel
theorem dX7_pare_16 : decode cX7_pare 16 = .ok (.iload_n 3, 1) := by decide +kernel
theorem dX7_pare_17 : decode cX7_pare 17 = .ok (.iload 5, 2) := by decide +kernel
theorem dX7_pare_19 : decode cX7_pare 19 = .ok (.invokestatic 34, 3) := by decide +kernel
theorem dX7_pare_22 : decode cX7_pare 22 = .ok (.ifCond .eq 19, 3) := by decide +kernel
theorem dX7_pare_25 : decode cX7_pare 25 = .ok (.iload_n 2, 1) := by decide +kernel
theorem dX7_pare_26 : decode cX7_pare 26 = .ok (.iload_n 3, 1) := by decide +kernel
theorem dX7_pare_27 : decode cX7_pare 27 = .ok (.if_icmp .gt 14, 3) := by decide +kernel
theorem dX7_pare_30 : decode cX7_pare 30 = .ok (.iload 4, 2) := by decide +kernel
theorem dX7_pare_32 : decode cX7_pare 32 = .ok (.iload 5, 2) := by decide +kernel
theorem dX7_pare_34 : decode cX7_pare 34 = .ok (.if_icmp .gt 7, 3) := by decide +kernel
theorem dX7_pare_37 : decode cX7_pare 37 = .ok (.iconst 1, 1) := by decide +kernel
theorem dX7_pare_38 : decode cX7_pare 38 = .ok (.goto 4, 3) := by decide +kernel
theorem dX7_pare_41 : decode cX7_pare 41 = .ok (.iconst 0, 1) := by decide +kernel
theorem dX7_pare_42 : decode cX7_pare 42 = .ok (.invokestatic 38, 3) := by decide +kernel
theorem dX7_pare_45 : decode cX7_pare 45 = .ok (.iload 6, 2) := by decide +kernel
theorem dX7_pare_47 : decode cX7_pare 47 = .ok (.iconst 1, 1) := by decide +kernel
theorem dX7_pare_48 : decode cX7_pare 48 = .ok (.bipush 27, 2) := by decide +kernel
theorem dX7_pare_50 : decode cX7_pare 50 = .ok (.invokestatic 42, 3) := by decide +kernel
theorem dX7_pare_53 : decode cX7_pare 53 = .ok (.invokestatic 46, 3) := by decide +kernel
theorem dX7_pare_56 : decode cX7_pare 56 = .ok (.aload 7, 2) := by decide +kernel
theorem dX7_pare_58 : decode cX7_pare 58 = .ok (.iload_n 2, 1) := by decide +kernel
theorem dX7_pare_59 : decode cX7_pare 59 = .ok (.iload_n 3, 1) := by decide +kernel
theorem dX7_pare_60 : decode cX7_pare 60 = .ok (.iload 4, 2) := by decide +kernel
theorem dX7_pare_62 : decode cX7_pare 62 = .ok (.iload 5, 2) := by decide +kernel
theorem dX7_pare_64 : decode cX7_pare 64 = .ok (.invokevirtual 198, 3) := by decide +kernel
theorem dX7_pare_67 : decode cX7_pare 67 = .ok (.iload 6, 2) := by decide +kernel
theorem dX7_pare_69 : decode cX7_pare 69 = .ok (.isub, 1) := by decide +kernel
theorem dX7_pare_70 : decode cX7_pare 70 = .ok (.istore 8, 2) := by decide +kernel
theorem dX7_pare_72 : decode cX7_pare 72 = .ok (.iload 8, 2) := by decide +kernel
theorem dX7_pare_74 : decode cX7_pare 74 = .ok (.iconst 3, 1) := by decide +kernel
theorem dX7_pare_75 : decode cX7_pare 75 = .ok (.if_icmp .lt 7, 3) := by decide +kernel
theorem dX7_pare_78 : decode cX7_pare 78 = .ok (.iconst 1, 1) := by decide +kernel
theorem dX7_pare_79 : decode cX7_pare 79 = .ok (.goto 4, 3) := by decide +kernel
theorem dX7_pare_82 : decode cX7_pare 82 = .ok (.iconst 0, 1) := by decide +kernel
theorem dX7_pare_83 : decode cX7_pare 83 = .ok (.invokestatic 65, 3) := by decide +kernel
theorem dX7_pare_86 : decode cX7_pare 86 = .ok (.aload 7, 2) := by decide +kernel
theorem dX7_pare_88 : decode cX7_pare 88 = .ok (.iload_n 2, 1) := by decide +kernel
theorem dX7_pare_89 : decode cX7_pare 89 = .ok (.iload_n 3, 1) := by decide +kernel
theorem dX7_pare_90 : decode cX7_pare 90 = .ok (.iload 4, 2) := by decide +kernel
theorem dX7_pare_92 : decode cX7_pare 92 = .ok (.iload 5, 2) := by decide +kernel
theorem dX7_pare_94 : decode cX7_pare 94 = .ok (.iload 6, 2) := by decide +kernel
theorem dX7_pare_96 : decode cX7_pare 96 = .ok (.invokevirtual 201, 3) := by decide +kernel
theorem dX7_pare_99 : decode cX7_pare 99 = .ok (.iload 8, 2) := by decide +kernel
theorem dX7_pare_101 : decode cX7_pare 101 = .ok (.ireturn, 1) := by decide +kernel
set_option maxRecDepth 20000 in
theorem ggX7_thickAt_X7_skinOf : GoodIn wsX7_thickAt wsX7_skinOf := goodIn_ca (goodIn_r _ [5, 6, 7, 8, 9, 10, 4, 11, 25, 26, 27, 28, 29, 30, 31] (by decide +kernel) (by decide +kernel)) (goodIn_sub (fun _ h => List.mem_cons_of_mem _ (List.mem_append_right _ h)) (by decide +kernel))
set_option maxRecDepth 20000 in
theorem gX7_thickAt_X7_skinOf : GoodIn wsX7_thickAt (wsV RX7 194 RX7 yX7_skinOf wsX7_skinOf) := goodIn_app (goodIn_of _ (by decide +kernel)) ggX7_thickAt_X7_skinOf
set_option maxRecDepth 20000 in
theorem ggX7_thickAt_X7_isOnGrid : GoodIn wsX7_thickAt wsX7_isOnGrid := goodIn_r _ [14, 15, 16, 4, 17, 9, 10, 11] (by decide +kernel) (by decide +kernel)
set_option maxRecDepth 20000 in
theorem gX7_thickAt_X7_isOnGrid : GoodIn wsX7_thickAt (va_wsS RX7 34 yX7_isOnGrid wsX7_isOnGrid) := goodIn_app (goodIn_of _ (by decide +kernel)) ggX7_thickAt_X7_isOnGrid
set_option maxRecDepth 20000 in
theorem ggX7_thickAt_X7_demandPlace : GoodIn wsX7_thickAt wsX7_demandPlace := goodIn_ca (goodIn_r _ [20, 6, 7] (by decide +kernel) (by decide +kernel)) (goodIn_sub (fun _ h => List.mem_cons_of_mem _ (List.mem_append_right _ h)) (by decide +kernel))
set_option maxRecDepth 20000 in
theorem gX7_thickAt_X7_demandPlace : GoodIn wsX7_thickAt (va_wsS RX7 38 yX7_demandPlace wsX7_demandPlace) := goodIn_app (goodIn_of _ (by decide +kernel)) ggX7_thickAt_X7_demandPlace
set_option maxRecDepth 20000 in
theorem ggX7_thickAt_X7_cellOf : GoodIn wsX7_thickAt wsX7_cellOf := goodIn_r _ [23] (by decide +kernel) (by decide +kernel)
set_option maxRecDepth 20000 in
theorem gX7_thickAt_X7_cellOf : GoodIn wsX7_thickAt (va_wsS RX7 79 yX7_cellOf wsX7_cellOf) := goodIn_app (goodIn_of _ (by decide +kernel)) ggX7_thickAt_X7_cellOf
theorem dX7_thickAt_0 : decode cX7_thickAt 0 = .ok (.aload_n 0, 1) := by decide +kernel
theorem dX7_thickAt_1 : decode cX7_thickAt 1 = .ok (.iload_n 1, 1) := by decide +kernel
theorem dX7_thickAt_2 : decode cX7_thickAt 2 = .ok (.invokevirtual 194, 3) := by decide +kernel
theorem dX7_thickAt_5 : decode cX7_thickAt 5 = .ok (.astore 4, 2) := by decide +kernel
theorem dX7_thickAt_7 : decode cX7_thickAt 7 = .ok (.iload_n 2, 1) := by decide +kernel
theorem dX7_thickAt_8 : decode cX7_thickAt 8 = .ok (.iload_n 3, 1) := by decide +kernel
theorem dX7_thickAt_9 : decode cX7_thickAt 9 = .ok (.invokestatic 34, 3) := by decide +kernel
theorem dX7_thickAt_12 : decode cX7_thickAt 12 = .ok (.invokestatic 38, 3) := by decide +kernel
theorem dX7_thickAt_15 : decode cX7_thickAt 15 = .ok (.aload 4, 2) := by decide +kernel
theorem dX7_thickAt_17 : decode cX7_thickAt 17 = .ok (.getfield 205, 3) := by decide +kernel
theorem dX7_thickAt_20 : decode cX7_thickAt 20 = .ok (.iload_n 2, 1) := by decide +kernel
theorem dX7_thickAt_21 : decode cX7_thickAt 21 = .ok (.iload_n 3, 1) := by decide +kernel
theorem dX7_thickAt_22 : decode cX7_thickAt 22 = .ok (.invokestatic 79, 3) := by decide +kernel
theorem dX7_thickAt_25 : decode cX7_thickAt 25 = .ok (.iaload, 1) := by decide +kernel
theorem dX7_thickAt_26 : decode cX7_thickAt 26 = .ok (.ireturn, 1) := by decide +kernel
set_option maxRecDepth 20000 in
theorem ggX7_tooThick_X7_skinOf : GoodIn wsX7_tooThick wsX7_skinOf := goodIn_ca (goodIn_r _ [5, 6, 7, 8, 9, 10, 4, 11, 23, 24, 25, 26, 27, 28, 29] (by decide +kernel) (by decide +kernel)) (goodIn_sub (fun _ h => List.mem_cons_of_mem _ (List.mem_append_right _ h)) (by decide +kernel))
set_option maxRecDepth 20000 in
theorem gX7_tooThick_X7_skinOf : GoodIn wsX7_tooThick (wsV RX7 194 RX7 yX7_skinOf wsX7_skinOf) := goodIn_app (goodIn_of _ (by decide +kernel)) ggX7_tooThick_X7_skinOf
set_option maxRecDepth 20000 in
theorem ggX7_tooThick_X5_placesTooThick : GoodIn wsX7_tooThick wsX5_placesTooThick := goodIn_r _ [16, 17, 18, 4, 19, 20, 21, 15, 22, 10, 11, 30] (by decide +kernel) (by decide +kernel)
set_option maxRecDepth 20000 in
theorem gX7_tooThick_X5_placesTooThick : GoodIn wsX7_tooThick (wsV RX7 208 RX5 yX5_placesTooThick wsX5_placesTooThick) := goodIn_app (goodIn_of _ (by decide +kernel)) ggX7_tooThick_X5_placesTooThick
theorem dX7_tooThick_0 : decode cX7_tooThick 0 = .ok (.aload_n 0, 1) := by decide +kernel
theorem dX7_tooThick_1 : decode cX7_tooThick 1 = .ok (.iload_n 1, 1) := by decide +kernel
theorem dX7_tooThick_2 : decode cX7_tooThick 2 = .ok (.invokevirtual 194, 3) := by decide +kernel
theorem dX7_tooThick_5 : decode cX7_tooThick 5 = .ok (.invokevirtual 208, 3) := by decide +kernel
theorem dX7_tooThick_8 : decode cX7_tooThick 8 = .ok (.ireturn, 1) := by decide +kernel
set_option maxRecDepth 20000 in
theorem ggX7_repair_X7_bookOf : GoodIn wsX7_repair wsX7_bookOf := goodIn_ca (goodIn_r _ [5, 6, 7, 8, 9, 10, 4, 11, 41, 42, 43, 44, 45, 46, 47] (by decide +kernel) (by decide +kernel)) (goodIn_sub (fun _ h => List.mem_cons_of_mem _ (List.mem_append_left _ (List.mem_append_left _ (List.mem_append_right _ h)))) (by decide +kernel))
set_option maxRecDepth 20000 in
theorem gX7_repair_X7_bookOf : GoodIn wsX7_repair (wsV RX7 118 RX7 yX7_bookOf wsX7_bookOf) := goodIn_app (goodIn_of _ (by decide +kernel)) ggX7_repair_X7_bookOf
set_option maxRecDepth 20000 in
theorem ggX7_repair_X7_isWithin : GoodIn wsX7_repair wsX7_isWithin := goodIn_r _ [11] (by decide +kernel) (by decide +kernel)
set_option maxRecDepth 20000 in
theorem gX7_repair_X7_isWithin : GoodIn wsX7_repair (va_wsS RX7 42 yX7_isWithin wsX7_isWithin) := goodIn_app (goodIn_of _ (by decide +kernel)) ggX7_repair_X7_isWithin
set_option maxRecDepth 20000 in
theorem ggX7_repair_X7_demandArgument : GoodIn wsX7_repair wsX7_demandArgument := goodIn_ca (goodIn_r _ [14, 15, 16] (by decide +kernel) (by decide +kernel)) (goodIn_sub (fun _ h => List.mem_cons_of_mem _ (List.mem_append_left _ (List.mem_append_right _ h))) (by decide +kernel))
set_option maxRecDepth 20000 in
theorem gX7_repair_X7_demandArgument : GoodIn wsX7_repair (va_wsS RX7 46 yX7_demandArgument wsX7_demandArgument) := goodIn_app (goodIn_of _ (by decide +kernel)) ggX7_repair_X7_demandArgument
set_option maxRecDepth 20000 in
theorem ggX7_repair_X7_canBeUndone : GoodIn wsX7_repair wsX7_canBeUndone := goodIn_r _ [19] (by decide +kernel) (by decide +kernel)
set_option maxRecDepth 20000 in
theorem gX7_repair_X7_canBeUndone : GoodIn wsX7_repair (va_wsS RX7 214 yX7_canBeUndone wsX7_canBeUndone) := goodIn_app (goodIn_of _ (by decide +kernel)) ggX7_repair_X7_canBeUndone
set_option maxRecDepth 20000 in
theorem ggX7_repair_X7_demandState : GoodIn wsX7_repair wsX7_demandState := goodIn_ca (goodIn_r _ [22, 23, 24] (by decide +kernel) (by decide +kernel)) (goodIn_sub (fun _ h => List.mem_cons_of_mem _ (List.mem_append_right _ h)) (by decide +kernel))
set_option maxRecDepth 20000 in
theorem gX7_repair_X7_demandState : GoodIn wsX7_repair (va_wsS RX7 65 yX7_demandState wsX7_demandState) := goodIn_app (goodIn_of _ (by decide +kernel)) ggX7_repair_X7_demandState
set_option maxRecDepth 20000 in
theorem ggX7_repair_X3_add : GoodIn wsX7_repair wsX3_add := goodIn_r _ [29, 30, 31, 39, 40] (by decide +kernel) (by decide +kernel)
set_option maxRecDepth 20000 in
theorem gX7_repair_X3_add : GoodIn wsX7_repair (wsV RX7 226 RX3 yX3_add wsX3_add) := goodIn_app (goodIn_of _ (by decide +kernel)) ggX7_repair_X3_add
theorem dX7_repair_0 : decode cX7_repair 0 = .ok (.aload_n 0, 1) := by decide +kernel
theorem dX7_repair_1 : decode cX7_repair 1 = .ok (.iload_n 1, 1) := by decide +kernel
theorem dX7_repair_2 : decode cX7_repair 2 = .ok (.invokevirtual 118, 3) := by decide +kernel
theorem dX7_repair_5 : decode cX7_repair 5 = .ok (.astore_n 3, 1) := by decide +kernel
theorem dX7_repair_6 : decode cX7_repair 6 = .ok (.iload_n 2, 1) := by decide +kernel
theorem dX7_repair_7 : decode cX7_repair 7 = .ok (.iconst 0, 1) := by decide +kernel
theorem dX7_repair_8 : decode cX7_repair 8 = .ok (.iconst 4, 1) := by decide +kernel
theorem dX7_repair_9 : decode cX7_repair 9 = .ok (.invokestatic 42, 3) := by decide +kernel
theorem dX7_repair_12 : decode cX7_repair 12 = .ok (.invokestatic 46, 3) := by decide +kernel
theorem dX7_repair_15 : decode cX7_repair 15 = .ok (.aload_n 3, 1) := by decide +kernel
theorem dX7_repair_16 : decode cX7_repair 16 = .ok (.getfield 211, 3) := by decide +kernel
theorem dX7_repair_19 : decode cX7_repair 19 = .ok (.ifCond .eq 10, 3) := by decide +kernel
theorem dX7_repair_22 : decode cX7_repair 22 = .ok (.iload_n 2, 1) := by decide +kernel
theorem dX7_repair_23 : decode cX7_repair 23 = .ok (.invokestatic 214, 3) := by decide +kernel
theorem dX7_repair_26 : decode cX7_repair 26 = .ok (.ifCond .eq 7, 3) := by decide +kernel
theorem dX7_repair_29 : decode cX7_repair 29 = .ok (.iconst 1, 1) := by decide +kernel
theorem dX7_repair_30 : decode cX7_repair 30 = .ok (.goto 4, 3) := by decide +kernel
theorem dX7_repair_33 : decode cX7_repair 33 = .ok (.iconst 0, 1) := by decide +kernel
theorem dX7_repair_34 : decode cX7_repair 34 = .ok (.invokestatic 65, 3) := by decide +kernel
theorem dX7_repair_37 : decode cX7_repair 37 = .ok (.aload_n 3, 1) := by decide +kernel
theorem dX7_repair_38 : decode cX7_repair 38 = .ok (.getfield 217, 3) := by decide +kernel
theorem dX7_repair_41 : decode cX7_repair 41 = .ok (.getfield 221, 3) := by decide +kernel
theorem dX7_repair_44 : decode cX7_repair 44 = .ok (.bipush 20, 2) := by decide +kernel
theorem dX7_repair_46 : decode cX7_repair 46 = .ok (.if_icmp .ge 7, 3) := by decide +kernel
theorem dX7_repair_49 : decode cX7_repair 49 = .ok (.iconst 1, 1) := by decide +kernel
theorem dX7_repair_50 : decode cX7_repair 50 = .ok (.goto 4, 3) := by decide +kernel
theorem dX7_repair_53 : decode cX7_repair 53 = .ok (.iconst 0, 1) := by decide +kernel
theorem dX7_repair_54 : decode cX7_repair 54 = .ok (.invokestatic 65, 3) := by decide +kernel
theorem dX7_repair_57 : decode cX7_repair 57 = .ok (.aload_n 3, 1) := by decide +kernel
theorem dX7_repair_58 : decode cX7_repair 58 = .ok (.getfield 217, 3) := by decide +kernel
theorem dX7_repair_61 : decode cX7_repair 61 = .ok (.iload_n 2, 1) := by decide +kernel
theorem dX7_repair_62 : decode cX7_repair 62 = .ok (.invokevirtual 226, 3) := by decide +kernel
theorem dX7_repair_65 : decode cX7_repair 65 = .ok (.aload_n 3, 1) := by decide +kernel
theorem dX7_repair_66 : decode cX7_repair 66 = .ok (.getfield 217, 3) := by decide +kernel
theorem dX7_repair_69 : decode cX7_repair 69 = .ok (.getfield 221, 3) := by decide +kernel
theorem dX7_repair_72 : decode cX7_repair 72 = .ok (.ireturn, 1) := by decide +kernel
set_option maxRecDepth 20000 in
theorem ggX7_undo_X7_bookOf : GoodIn wsX7_undo wsX7_bookOf := goodIn_ca (goodIn_r _ [5, 6, 7, 8, 9, 10, 4, 11, 38, 39, 40, 41, 42, 43, 44] (by decide +kernel) (by decide +kernel)) (goodIn_sub (fun _ h => List.mem_cons_of_mem _ (List.mem_append_left _ (List.mem_append_right _ h))) (by decide +kernel))
set_option maxRecDepth 20000 in
theorem gX7_undo_X7_bookOf : GoodIn wsX7_undo (wsV RX7 118 RX7 yX7_bookOf wsX7_bookOf) := goodIn_app (goodIn_of _ (by decide +kernel)) ggX7_undo_X7_bookOf
set_option maxRecDepth 20000 in
theorem ggX7_undo_X3_latest : GoodIn wsX7_undo wsX3_latest := goodIn_r _ [16, 17, 18, 45, 46] (by decide +kernel) (by decide +kernel)
set_option maxRecDepth 20000 in
theorem gX7_undo_X3_latest : GoodIn wsX7_undo (wsV RX7 229 RX3 yX3_latest wsX3_latest) := goodIn_app (goodIn_of _ (by decide +kernel)) ggX7_undo_X3_latest
set_option maxRecDepth 20000 in
theorem ggX7_undo_X7_canBeUndone : GoodIn wsX7_undo wsX7_canBeUndone := goodIn_r _ [21] (by decide +kernel) (by decide +kernel)
set_option maxRecDepth 20000 in
theorem gX7_undo_X7_canBeUndone : GoodIn wsX7_undo (va_wsS RX7 214 yX7_canBeUndone wsX7_canBeUndone) := goodIn_app (goodIn_of _ (by decide +kernel)) ggX7_undo_X7_canBeUndone
set_option maxRecDepth 20000 in
theorem ggX7_undo_X7_demandState : GoodIn wsX7_undo wsX7_demandState := goodIn_ca (goodIn_r _ [24, 25, 26] (by decide +kernel) (by decide +kernel)) (goodIn_sub (fun _ h => List.mem_cons_of_mem _ (List.mem_append_right _ h)) (by decide +kernel))
set_option maxRecDepth 20000 in
theorem gX7_undo_X7_demandState : GoodIn wsX7_undo (va_wsS RX7 65 yX7_demandState wsX7_demandState) := goodIn_app (goodIn_of _ (by decide +kernel)) ggX7_undo_X7_demandState
set_option maxRecDepth 20000 in
theorem ggX7_undo_X3_dropLatest : GoodIn wsX7_undo wsX3_dropLatest := goodIn_r _ [30, 17, 45, 46] (by decide +kernel) (by decide +kernel)
set_option maxRecDepth 20000 in
theorem gX7_undo_X3_dropLatest : GoodIn wsX7_undo (wsV RX7 232 RX3 yX3_dropLatest wsX3_dropLatest) := goodIn_app (goodIn_of _ (by decide +kernel)) ggX7_undo_X3_dropLatest
theorem dX7_undo_0 : decode cX7_undo 0 = .ok (.aload_n 0, 1) := by decide +kernel
theorem dX7_undo_1 : decode cX7_undo 1 = .ok (.iload_n 1, 1) := by decide +kernel
theorem dX7_undo_2 : decode cX7_undo 2 = .ok (.invokevirtual 118, 3) := by decide +kernel
theorem dX7_undo_5 : decode cX7_undo 5 = .ok (.getfield 217, 3) := by decide +kernel
theorem dX7_undo_8 : decode cX7_undo 8 = .ok (.astore_n 2, 1) := by decide +kernel
theorem dX7_undo_9 : decode cX7_undo 9 = .ok (.aload_n 2, 1) := by decide +kernel
theorem dX7_undo_10 : decode cX7_undo 10 = .ok (.invokevirtual 229, 3) := by decide +kernel
theorem dX7_undo_13 : decode cX7_undo 13 = .ok (.istore_n 3, 1) := by decide +kernel
theorem dX7_undo_14 : decode cX7_undo 14 = .ok (.iload_n 3, 1) := by decide +kernel
theorem dX7_undo_15 : decode cX7_undo 15 = .ok (.iconst (-1), 1) := by decide +kernel
theorem dX7_undo_16 : decode cX7_undo 16 = .ok (.if_icmp .eq 14, 3) := by decide +kernel
theorem dX7_undo_19 : decode cX7_undo 19 = .ok (.iload_n 3, 1) := by decide +kernel
theorem dX7_undo_20 : decode cX7_undo 20 = .ok (.invokestatic 214, 3) := by decide +kernel
theorem dX7_undo_23 : decode cX7_undo 23 = .ok (.ifCond .eq 7, 3) := by decide +kernel
theorem dX7_undo_26 : decode cX7_undo 26 = .ok (.iconst 1, 1) := by decide +kernel
theorem dX7_undo_27 : decode cX7_undo 27 = .ok (.goto 4, 3) := by decide +kernel
theorem dX7_undo_30 : decode cX7_undo 30 = .ok (.iconst 0, 1) := by decide +kernel
theorem dX7_undo_31 : decode cX7_undo 31 = .ok (.invokestatic 65, 3) := by decide +kernel
theorem dX7_undo_34 : decode cX7_undo 34 = .ok (.aload_n 2, 1) := by decide +kernel
theorem dX7_undo_35 : decode cX7_undo 35 = .ok (.invokevirtual 232, 3) := by decide +kernel
theorem dX7_undo_38 : decode cX7_undo 38 = .ok (.iload_n 3, 1) := by decide +kernel
theorem dX7_undo_39 : decode cX7_undo 39 = .ok (.ireturn, 1) := by decide +kernel
set_option maxRecDepth 20000 in
theorem ggX7_speak_X7_bookOf : GoodIn wsX7_speak wsX7_bookOf := goodIn_ca (goodIn_r _ [5, 6, 7, 8, 9, 10, 4, 11, 42, 43, 44, 45, 46, 47, 48] (by decide +kernel) (by decide +kernel)) (goodIn_sub (fun _ h => List.mem_cons_of_mem _ (List.mem_append_left _ (List.mem_append_left _ (List.mem_append_right _ h)))) (by decide +kernel))
set_option maxRecDepth 20000 in
theorem gX7_speak_X7_bookOf : GoodIn wsX7_speak (wsV RX7 118 RX7 yX7_bookOf wsX7_bookOf) := goodIn_app (goodIn_of _ (by decide +kernel)) ggX7_speak_X7_bookOf
set_option maxRecDepth 20000 in
theorem ggX7_speak_X7_isWithin : GoodIn wsX7_speak wsX7_isWithin := goodIn_r _ [11] (by decide +kernel) (by decide +kernel)
set_option maxRecDepth 20000 in
theorem gX7_speak_X7_isWithin : GoodIn wsX7_speak (va_wsS RX7 42 yX7_isWithin wsX7_isWithin) := goodIn_app (goodIn_of _ (by decide +kernel)) ggX7_speak_X7_isWithin
set_option maxRecDepth 20000 in
theorem ggX7_speak_X7_demandArgument : GoodIn wsX7_speak wsX7_demandArgument := goodIn_ca (goodIn_r _ [14, 15, 16] (by decide +kernel) (by decide +kernel)) (goodIn_sub (fun _ h => List.mem_cons_of_mem _ (List.mem_append_left _ (List.mem_append_right _ h))) (by decide +kernel))
set_option maxRecDepth 20000 in
theorem gX7_speak_X7_demandArgument : GoodIn wsX7_speak (va_wsS RX7 46 yX7_demandArgument wsX7_demandArgument) := goodIn_app (goodIn_of _ (by decide +kernel)) ggX7_speak_X7_demandArgument
set_option maxRecDepth 20000 in
theorem ggX7_speak_X7_demandState : GoodIn wsX7_speak wsX7_demandState := goodIn_ca (goodIn_r _ [19, 20, 21] (by decide +kernel) (by decide +kernel)) (goodIn_sub (fun _ h => List.mem_cons_of_mem _ (List.mem_append_right _ h)) (by decide +kernel))
set_option maxRecDepth 20000 in
theorem gX7_speak_X7_demandState : GoodIn wsX7_speak (va_wsS RX7 65 yX7_demandState wsX7_demandState) := goodIn_app (goodIn_of _ (by decide +kernel)) ggX7_speak_X7_demandState
set_option maxRecDepth 20000 in
theorem ggX7_speak_X6_add : GoodIn wsX7_speak wsX6_add := goodIn_r _ [26, 27, 28, 29, 30, 38, 39, 40, 41] (by decide +kernel) (by decide +kernel)
set_option maxRecDepth 20000 in
theorem gX7_speak_X6_add : GoodIn wsX7_speak (wsV RX7 242 RX6 yX6_add wsX6_add) := goodIn_app (goodIn_of _ (by decide +kernel)) ggX7_speak_X6_add
theorem dX7_speak_0 : decode cX7_speak 0 = .ok (.aload_n 0, 1) := by decide +kernel
theorem dX7_speak_1 : decode cX7_speak 1 = .ok (.iload_n 1, 1) := by decide +kernel
theorem dX7_speak_2 : decode cX7_speak 2 = .ok (.invokevirtual 118, 3) := by decide +kernel
theorem dX7_speak_5 : decode cX7_speak 5 = .ok (.getfield 235, 3) := by decide +kernel
theorem dX7_speak_8 : decode cX7_speak 8 = .ok (.astore 5, 2) := by decide +kernel
theorem dX7_speak_10 : decode cX7_speak 10 = .ok (.iload_n 2, 1) := by decide +kernel
theorem dX7_speak_11 : decode cX7_speak 11 = .ok (.sipush 1400, 3) := by decide +kernel
theorem dX7_speak_14 : decode cX7_speak 14 = .ok (.sipush 2000, 3) := by decide +kernel
theorem dX7_speak_17 : decode cX7_speak 17 = .ok (.invokestatic 42, 3) := by decide +kernel
theorem dX7_speak_20 : decode cX7_speak 20 = .ok (.ifCond .eq 18, 3) := by decide +kernel
theorem dX7_speak_23 : decode cX7_speak 23 = .ok (.iload_n 3, 1) := by decide +kernel
theorem dX7_speak_24 : decode cX7_speak 24 = .ok (.iload_n 2, 1) := by decide +kernel
theorem dX7_speak_25 : decode cX7_speak 25 = .ok (.sipush 2000, 3) := by decide +kernel
theorem dX7_speak_28 : decode cX7_speak 28 = .ok (.invokestatic 42, 3) := by decide +kernel
theorem dX7_speak_31 : decode cX7_speak 31 = .ok (.ifCond .eq 7, 3) := by decide +kernel
theorem dX7_speak_34 : decode cX7_speak 34 = .ok (.iconst 1, 1) := by decide +kernel
theorem dX7_speak_35 : decode cX7_speak 35 = .ok (.goto 4, 3) := by decide +kernel
theorem dX7_speak_38 : decode cX7_speak 38 = .ok (.iconst 0, 1) := by decide +kernel
theorem dX7_speak_39 : decode cX7_speak 39 = .ok (.invokestatic 46, 3) := by decide +kernel
theorem dX7_speak_42 : decode cX7_speak 42 = .ok (.iload 4, 2) := by decide +kernel
theorem dX7_speak_44 : decode cX7_speak 44 = .ok (.iconst 1, 1) := by decide +kernel
theorem dX7_speak_45 : decode cX7_speak 45 = .ok (.bipush 9, 2) := by decide +kernel
theorem dX7_speak_47 : decode cX7_speak 47 = .ok (.invokestatic 42, 3) := by decide +kernel
theorem dX7_speak_50 : decode cX7_speak 50 = .ok (.invokestatic 46, 3) := by decide +kernel
theorem dX7_speak_53 : decode cX7_speak 53 = .ok (.aload 5, 2) := by decide +kernel
theorem dX7_speak_55 : decode cX7_speak 55 = .ok (.getfield 239, 3) := by decide +kernel
theorem dX7_speak_58 : decode cX7_speak 58 = .ok (.bipush 20, 2) := by decide +kernel
theorem dX7_speak_60 : decode cX7_speak 60 = .ok (.if_icmp .ge 7, 3) := by decide +kernel
theorem dX7_speak_63 : decode cX7_speak 63 = .ok (.iconst 1, 1) := by decide +kernel
theorem dX7_speak_64 : decode cX7_speak 64 = .ok (.goto 4, 3) := by decide +kernel
theorem dX7_speak_67 : decode cX7_speak 67 = .ok (.iconst 0, 1) := by decide +kernel
theorem dX7_speak_68 : decode cX7_speak 68 = .ok (.invokestatic 65, 3) := by decide +kernel
theorem dX7_speak_71 : decode cX7_speak 71 = .ok (.aload 5, 2) := by decide +kernel
theorem dX7_speak_73 : decode cX7_speak 73 = .ok (.iload_n 2, 1) := by decide +kernel
theorem dX7_speak_74 : decode cX7_speak 74 = .ok (.iload_n 3, 1) := by decide +kernel
theorem dX7_speak_75 : decode cX7_speak 75 = .ok (.iload 4, 2) := by decide +kernel
theorem dX7_speak_77 : decode cX7_speak 77 = .ok (.invokevirtual 242, 3) := by decide +kernel
theorem dX7_speak_80 : decode cX7_speak 80 = .ok (.aload 5, 2) := by decide +kernel
theorem dX7_speak_82 : decode cX7_speak 82 = .ok (.getfield 239, 3) := by decide +kernel
theorem dX7_speak_85 : decode cX7_speak 85 = .ok (.ireturn, 1) := by decide +kernel
set_option maxRecDepth 20000 in
theorem ggX7_year_X7_bookOf : GoodIn wsX7_year wsX7_bookOf := goodIn_ca (goodIn_r _ [5, 6, 7, 8, 9, 10, 4, 11, 36, 37, 38, 39, 40, 41, 42] (by decide +kernel) (by decide +kernel)) (goodIn_sub (fun _ h => List.mem_cons_of_mem _ (List.mem_append_right _ h)) (by decide +kernel))
set_option maxRecDepth 20000 in
theorem gX7_year_X7_bookOf : GoodIn wsX7_year (wsV RX7 118 RX7 yX7_bookOf wsX7_bookOf) := goodIn_app (goodIn_of _ (by decide +kernel)) ggX7_year_X7_bookOf
set_option maxRecDepth 20000 in
theorem ggX7_year_X6_firstByEnds : GoodIn wsX7_year wsX6_firstByEnds := goodIn_r _ [16, 17, 18, 19, 20, 21, 15, 22, 23, 24, 10, 4, 11, 43, 44, 45, 46] (by decide +kernel) (by decide +kernel)
set_option maxRecDepth 20000 in
theorem gX7_year_X6_firstByEnds : GoodIn wsX7_year (wsV RX7 245 RX6 yX6_firstByEnds wsX6_firstByEnds) := goodIn_app (goodIn_of _ (by decide +kernel)) ggX7_year_X6_firstByEnds
set_option maxRecDepth 20000 in
theorem ggX7_year_X6_lastByEnds : GoodIn wsX7_year wsX6_lastByEnds := goodIn_r _ [28, 17, 23, 19, 20, 21, 15, 22, 18, 24, 10, 4, 11, 43, 44, 45, 46] (by decide +kernel) (by decide +kernel)
set_option maxRecDepth 20000 in
theorem gX7_year_X6_lastByEnds : GoodIn wsX7_year (wsV RX7 248 RX6 yX6_lastByEnds wsX6_lastByEnds) := goodIn_app (goodIn_of _ (by decide +kernel)) ggX7_year_X6_lastByEnds
theorem dX7_year_0 : decode cX7_year 0 = .ok (.aload_n 0, 1) := by decide +kernel
theorem dX7_year_1 : decode cX7_year 1 = .ok (.iload_n 1, 1) := by decide +kernel
theorem dX7_year_2 : decode cX7_year 2 = .ok (.invokevirtual 118, 3) := by decide +kernel
theorem dX7_year_5 : decode cX7_year 5 = .ok (.getfield 235, 3) := by decide +kernel
theorem dX7_year_8 : decode cX7_year 8 = .ok (.astore_n 3, 1) := by decide +kernel
theorem dX7_year_9 : decode cX7_year 9 = .ok (.aload_n 3, 1) := by decide +kernel
theorem dX7_year_10 : decode cX7_year 10 = .ok (.invokevirtual 245, 3) := by decide +kernel
theorem dX7_year_13 : decode cX7_year 13 = .ok (.istore 4, 2) := by decide +kernel
theorem dX7_year_15 : decode cX7_year 15 = .ok (.iload_n 2, 1) := by decide +kernel
theorem dX7_year_16 : decode cX7_year 16 = .ok (.ifCond .eq 18, 3) := by decide +kernel
theorem dX7_year_19 : decode cX7_year 19 = .ok (.iload 4, 2) := by decide +kernel
theorem dX7_year_21 : decode cX7_year 21 = .ok (.iconst (-1), 1) := by decide +kernel
theorem dX7_year_22 : decode cX7_year 22 = .ok (.if_icmp .eq 12, 3) := by decide +kernel
theorem dX7_year_25 : decode cX7_year 25 = .ok (.aload_n 3, 1) := by decide +kernel
theorem dX7_year_26 : decode cX7_year 26 = .ok (.iload 4, 2) := by decide +kernel
theorem dX7_year_28 : decode cX7_year 28 = .ok (.invokevirtual 248, 3) := by decide +kernel
theorem dX7_year_31 : decode cX7_year 31 = .ok (.goto 5, 3) := by decide +kernel
theorem dX7_year_34 : decode cX7_year 34 = .ok (.iload 4, 2) := by decide +kernel
theorem dX7_year_36 : decode cX7_year 36 = .ok (.ireturn, 1) := by decide +kernel
set_option maxRecDepth 20000 in
theorem ggX7_yearAnew_X7_bookOf : GoodIn wsX7_yearAnew wsX7_bookOf := goodIn_ca (goodIn_r _ [5, 6, 7, 8, 9, 10, 4, 11, 36, 37, 38, 39, 40, 41, 42] (by decide +kernel) (by decide +kernel)) (goodIn_sub (fun _ h => List.mem_cons_of_mem _ (List.mem_append_right _ h)) (by decide +kernel))
set_option maxRecDepth 20000 in
theorem gX7_yearAnew_X7_bookOf : GoodIn wsX7_yearAnew (wsV RX7 118 RX7 yX7_bookOf wsX7_bookOf) := goodIn_app (goodIn_of _ (by decide +kernel)) ggX7_yearAnew_X7_bookOf
set_option maxRecDepth 20000 in
theorem ggX7_yearAnew_X6_firstByYears : GoodIn wsX7_yearAnew wsX6_firstByYears := goodIn_r _ [16, 17, 18, 19, 15, 20, 21, 22, 23, 24, 10, 4, 11, 43, 44, 45, 46] (by decide +kernel) (by decide +kernel)
set_option maxRecDepth 20000 in
theorem gX7_yearAnew_X6_firstByYears : GoodIn wsX7_yearAnew (wsV RX7 251 RX6 yX6_firstByYears wsX6_firstByYears) := goodIn_app (goodIn_of _ (by decide +kernel)) ggX7_yearAnew_X6_firstByYears
set_option maxRecDepth 20000 in
theorem ggX7_yearAnew_X6_lastByYears : GoodIn wsX7_yearAnew wsX6_lastByYears := goodIn_r _ [28, 17, 18, 19, 15, 20, 21, 22, 23, 24, 10, 4, 11, 43, 44, 45, 46] (by decide +kernel) (by decide +kernel)
set_option maxRecDepth 20000 in
theorem gX7_yearAnew_X6_lastByYears : GoodIn wsX7_yearAnew (wsV RX7 254 RX6 yX6_lastByYears wsX6_lastByYears) := goodIn_app (goodIn_of _ (by decide +kernel)) ggX7_yearAnew_X6_lastByYears
theorem dX7_yearAnew_0 : decode cX7_yearAnew 0 = .ok (.aload_n 0, 1) := by decide +kernel
theorem dX7_yearAnew_1 : decode cX7_yearAnew 1 = .ok (.iload_n 1, 1) := by decide +kernel
theorem dX7_yearAnew_2 : decode cX7_yearAnew 2 = .ok (.invokevirtual 118, 3) := by decide +kernel
theorem dX7_yearAnew_5 : decode cX7_yearAnew 5 = .ok (.getfield 235, 3) := by decide +kernel
theorem dX7_yearAnew_8 : decode cX7_yearAnew 8 = .ok (.astore_n 3, 1) := by decide +kernel
theorem dX7_yearAnew_9 : decode cX7_yearAnew 9 = .ok (.aload_n 3, 1) := by decide +kernel
theorem dX7_yearAnew_10 : decode cX7_yearAnew 10 = .ok (.invokevirtual 251, 3) := by decide +kernel
theorem dX7_yearAnew_13 : decode cX7_yearAnew 13 = .ok (.istore 4, 2) := by decide +kernel
theorem dX7_yearAnew_15 : decode cX7_yearAnew 15 = .ok (.iload_n 2, 1) := by decide +kernel
theorem dX7_yearAnew_16 : decode cX7_yearAnew 16 = .ok (.ifCond .eq 18, 3) := by decide +kernel
theorem dX7_yearAnew_19 : decode cX7_yearAnew 19 = .ok (.iload 4, 2) := by decide +kernel
theorem dX7_yearAnew_21 : decode cX7_yearAnew 21 = .ok (.iconst (-1), 1) := by decide +kernel
theorem dX7_yearAnew_22 : decode cX7_yearAnew 22 = .ok (.if_icmp .eq 12, 3) := by decide +kernel
theorem dX7_yearAnew_25 : decode cX7_yearAnew 25 = .ok (.aload_n 3, 1) := by decide +kernel
theorem dX7_yearAnew_26 : decode cX7_yearAnew 26 = .ok (.iload 4, 2) := by decide +kernel
theorem dX7_yearAnew_28 : decode cX7_yearAnew 28 = .ok (.invokevirtual 254, 3) := by decide +kernel
theorem dX7_yearAnew_31 : decode cX7_yearAnew 31 = .ok (.goto 5, 3) := by decide +kernel
theorem dX7_yearAnew_34 : decode cX7_yearAnew 34 = .ok (.iload 4, 2) := by decide +kernel
theorem dX7_yearAnew_36 : decode cX7_yearAnew 36 = .ok (.ireturn, 1) := by decide +kernel
theorem dX7_isWithin_0 : decode cX7_isWithin 0 = .ok (.iload_n 0, 1) := by decide +kernel
theorem dX7_isWithin_1 : decode cX7_isWithin 1 = .ok (.iload_n 1, 1) := by decide +kernel
theorem dX7_isWithin_2 : decode cX7_isWithin 2 = .ok (.if_icmp .lt 12, 3) := by decide +kernel
theorem dX7_isWithin_5 : decode cX7_isWithin 5 = .ok (.iload_n 0, 1) := by decide +kernel
theorem dX7_isWithin_6 : decode cX7_isWithin 6 = .ok (.iload_n 2, 1) := by decide +kernel
theorem dX7_isWithin_7 : decode cX7_isWithin 7 = .ok (.if_icmp .gt 7, 3) := by decide +kernel
theorem dX7_isWithin_10 : decode cX7_isWithin 10 = .ok (.iconst 1, 1) := by decide +kernel
theorem dX7_isWithin_11 : decode cX7_isWithin 11 = .ok (.goto 4, 3) := by decide +kernel
theorem dX7_isWithin_14 : decode cX7_isWithin 14 = .ok (.iconst 0, 1) := by decide +kernel
theorem dX7_isWithin_15 : decode cX7_isWithin 15 = .ok (.ireturn, 1) := by decide +kernel
set_option maxRecDepth 20000 in
theorem ggX7_isOnSide_X7_isWithin : GoodIn wsX7_isOnSide wsX7_isWithin := goodIn_r _ [4] (by decide +kernel) (by decide +kernel)
set_option maxRecDepth 20000 in
theorem gX7_isOnSide_X7_isWithin : GoodIn wsX7_isOnSide (va_wsS RX7 42 yX7_isWithin wsX7_isWithin) := goodIn_app (goodIn_of _ (by decide +kernel)) ggX7_isOnSide_X7_isWithin
theorem dX7_isOnSide_0 : decode cX7_isOnSide 0 = .ok (.iload_n 0, 1) := by decide +kernel
theorem dX7_isOnSide_1 : decode cX7_isOnSide 1 = .ok (.iconst 0, 1) := by decide +kernel
theorem dX7_isOnSide_2 : decode cX7_isOnSide 2 = .ok (.bipush 7, 2) := by decide +kernel
theorem dX7_isOnSide_4 : decode cX7_isOnSide 4 = .ok (.invokestatic 42, 3) := by decide +kernel
theorem dX7_isOnSide_7 : decode cX7_isOnSide 7 = .ok (.ireturn, 1) := by decide +kernel
set_option maxRecDepth 20000 in
theorem ggX7_isOnGrid_X7_isOnSide : GoodIn wsX7_isOnGrid wsX7_isOnSide := goodIn_r _ [4, 5, 6, 3, 7] (by decide +kernel) (by decide +kernel)
set_option maxRecDepth 20000 in
theorem gX7_isOnGrid_X7_isOnSide : GoodIn wsX7_isOnGrid (va_wsS RX7 53 yX7_isOnSide wsX7_isOnSide) := goodIn_app (goodIn_of _ (by decide +kernel)) ggX7_isOnGrid_X7_isOnSide
theorem dX7_isOnGrid_0 : decode cX7_isOnGrid 0 = .ok (.iload_n 0, 1) := by decide +kernel
theorem dX7_isOnGrid_1 : decode cX7_isOnGrid 1 = .ok (.invokestatic 53, 3) := by decide +kernel
theorem dX7_isOnGrid_4 : decode cX7_isOnGrid 4 = .ok (.ifCond .eq 14, 3) := by decide +kernel
theorem dX7_isOnGrid_7 : decode cX7_isOnGrid 7 = .ok (.iload_n 1, 1) := by decide +kernel
theorem dX7_isOnGrid_8 : decode cX7_isOnGrid 8 = .ok (.invokestatic 53, 3) := by decide +kernel
theorem dX7_isOnGrid_11 : decode cX7_isOnGrid 11 = .ok (.ifCond .eq 7, 3) := by decide +kernel
theorem dX7_isOnGrid_14 : decode cX7_isOnGrid 14 = .ok (.iconst 1, 1) := by decide +kernel
theorem dX7_isOnGrid_15 : decode cX7_isOnGrid 15 = .ok (.goto 4, 3) := by decide +kernel
theorem dX7_isOnGrid_18 : decode cX7_isOnGrid 18 = .ok (.iconst 0, 1) := by decide +kernel
theorem dX7_isOnGrid_19 : decode cX7_isOnGrid 19 = .ok (.ireturn, 1) := by decide +kernel
theorem dX7_cellOf_0 : decode cX7_cellOf 0 = .ok (.iload_n 1, 1) := by decide +kernel
theorem dX7_cellOf_1 : decode cX7_cellOf 1 = .ok (.bipush 8, 2) := by decide +kernel
theorem dX7_cellOf_3 : decode cX7_cellOf 3 = .ok (.imul, 1) := by decide +kernel
theorem dX7_cellOf_4 : decode cX7_cellOf 4 = .ok (.iload_n 0, 1) := by decide +kernel
theorem dX7_cellOf_5 : decode cX7_cellOf 5 = .ok (.iadd, 1) := by decide +kernel
theorem dX7_cellOf_6 : decode cX7_cellOf 6 = .ok (.ireturn, 1) := by decide +kernel
theorem dX7_canBeUndone_0 : decode cX7_canBeUndone 0 = .ok (.iload_n 0, 1) := by decide +kernel
theorem dX7_canBeUndone_1 : decode cX7_canBeUndone 1 = .ok (.iconst 2, 1) := by decide +kernel
theorem dX7_canBeUndone_2 : decode cX7_canBeUndone 2 = .ok (.if_icmp .gt 7, 3) := by decide +kernel
theorem dX7_canBeUndone_5 : decode cX7_canBeUndone 5 = .ok (.iconst 1, 1) := by decide +kernel
theorem dX7_canBeUndone_6 : decode cX7_canBeUndone 6 = .ok (.goto 4, 3) := by decide +kernel
theorem dX7_canBeUndone_9 : decode cX7_canBeUndone 9 = .ok (.iconst 0, 1) := by decide +kernel
theorem dX7_canBeUndone_10 : decode cX7_canBeUndone 10 = .ok (.ireturn, 1) := by decide +kernel
theorem dX7_demandPlace_0 : decode cX7_demandPlace 0 = .ok (.iload_n 0, 1) := by decide +kernel
theorem dX7_demandPlace_1 : decode cX7_demandPlace 1 = .ok (.ifCond .ne 14, 3) := by decide +kernel
theorem dX7_demandPlace_4 : decode cX7_demandPlace 4 = .ok (.new 257, 3) := by decide +kernel
theorem dX7_demandPlace_7 : decode cX7_demandPlace 7 = .ok (.dup, 1) := by decide +kernel
theorem dX7_demandPlace_8 : decode cX7_demandPlace 8 = .ok (.ldc_w 259, 3) := by decide +kernel
theorem dX7_demandPlace_11 : decode cX7_demandPlace 11 = .ok (.invokespecial 261, 3) := by decide +kernel
theorem dX7_demandPlace_14 : decode cX7_demandPlace 14 = .ok (.athrow, 1) := by decide +kernel
theorem dX7_demandPlace_15 : decode cX7_demandPlace 15 = .ok (.return_, 1) := by decide +kernel
theorem dX7_demandArgument_0 : decode cX7_demandArgument 0 = .ok (.iload_n 0, 1) := by decide +kernel
theorem dX7_demandArgument_1 : decode cX7_demandArgument 1 = .ok (.ifCond .ne 14, 3) := by decide +kernel
theorem dX7_demandArgument_4 : decode cX7_demandArgument 4 = .ok (.new 264, 3) := by decide +kernel
theorem dX7_demandArgument_7 : decode cX7_demandArgument 7 = .ok (.dup, 1) := by decide +kernel
theorem dX7_demandArgument_8 : decode cX7_demandArgument 8 = .ok (.ldc_w 266, 3) := by decide +kernel
theorem dX7_demandArgument_11 : decode cX7_demandArgument 11 = .ok (.invokespecial 268, 3) := by decide +kernel
theorem dX7_demandArgument_14 : decode cX7_demandArgument 14 = .ok (.athrow, 1) := by decide +kernel
theorem dX7_demandArgument_15 : decode cX7_demandArgument 15 = .ok (.return_, 1) := by decide +kernel
theorem dX7_demandState_0 : decode cX7_demandState 0 = .ok (.iload_n 0, 1) := by decide +kernel
theorem dX7_demandState_1 : decode cX7_demandState 1 = .ok (.ifCond .ne 14, 3) := by decide +kernel
theorem dX7_demandState_4 : decode cX7_demandState 4 = .ok (.new 269, 3) := by decide +kernel
theorem dX7_demandState_7 : decode cX7_demandState 7 = .ok (.dup, 1) := by decide +kernel
theorem dX7_demandState_8 : decode cX7_demandState 8 = .ok (.ldc_w 271, 3) := by decide +kernel
theorem dX7_demandState_11 : decode cX7_demandState 11 = .ok (.invokespecial 273, 3) := by decide +kernel
theorem dX7_demandState_14 : decode cX7_demandState 14 = .ok (.athrow, 1) := by decide +kernel
theorem dX7_demandState_15 : decode cX7_demandState 15 = .ok (.return_, 1) := by decide +kernel
set_option maxRecDepth 20000 in
theorem ggX7_printOf_X7_isWithin : GoodIn wsX7_printOf wsX7_isWithin := goodIn_r _ [7] (by decide +kernel) (by decide +kernel)
set_option maxRecDepth 20000 in
theorem gX7_printOf_X7_isWithin : GoodIn wsX7_printOf (va_wsS RX7 42 yX7_isWithin wsX7_isWithin) := goodIn_app (goodIn_of _ (by decide +kernel)) ggX7_printOf_X7_isWithin
theorem dX7_printOf_0 : decode cX7_printOf 0 = .ok (.iload_n 1, 1) := by decide +kernel
theorem dX7_printOf_1 : decode cX7_printOf 1 = .ok (.iconst 0, 1) := by decide +kernel
theorem dX7_printOf_2 : decode cX7_printOf 2 = .ok (.bipush 9, 2) := by decide +kernel
theorem dX7_printOf_4 : decode cX7_printOf 4 = .ok (.invokestatic 42, 3) := by decide +kernel
theorem dX7_printOf_7 : decode cX7_printOf 7 = .ok (.ifCond .eq 12, 3) := by decide +kernel
theorem dX7_printOf_10 : decode cX7_printOf 10 = .ok (.aload_n 0, 1) := by decide +kernel
theorem dX7_printOf_11 : decode cX7_printOf 11 = .ok (.getfield 18, 3) := by decide +kernel
theorem dX7_printOf_14 : decode cX7_printOf 14 = .ok (.iload_n 1, 1) := by decide +kernel
theorem dX7_printOf_15 : decode cX7_printOf 15 = .ok (.aaload, 1) := by decide +kernel
theorem dX7_printOf_16 : decode cX7_printOf 16 = .ok (.goto 4, 3) := by decide +kernel
theorem dX7_printOf_19 : decode cX7_printOf 19 = .ok (.aconst_null, 1) := by decide +kernel
theorem dX7_printOf_20 : decode cX7_printOf 20 = .ok (.astore_n 2, 1) := by decide +kernel
theorem dX7_printOf_21 : decode cX7_printOf 21 = .ok (.aload_n 2, 1) := by decide +kernel
theorem dX7_printOf_22 : decode cX7_printOf 22 = .ok (.ifnonnull 14, 3) := by decide +kernel
theorem dX7_printOf_25 : decode cX7_printOf 25 = .ok (.new 257, 3) := by decide +kernel
theorem dX7_printOf_28 : decode cX7_printOf 28 = .ok (.dup, 1) := by decide +kernel
theorem dX7_printOf_29 : decode cX7_printOf 29 = .ok (.ldc_w 274, 3) := by decide +kernel
theorem dX7_printOf_32 : decode cX7_printOf 32 = .ok (.invokespecial 261, 3) := by decide +kernel
theorem dX7_printOf_35 : decode cX7_printOf 35 = .ok (.athrow, 1) := by decide +kernel
theorem dX7_printOf_36 : decode cX7_printOf 36 = .ok (.aload_n 2, 1) := by decide +kernel
theorem dX7_printOf_37 : decode cX7_printOf 37 = .ok (.areturn, 1) := by decide +kernel
set_option maxRecDepth 20000 in
theorem ggX7_bookOf_X7_isWithin : GoodIn wsX7_bookOf wsX7_isWithin := goodIn_r _ [7] (by decide +kernel) (by decide +kernel)
set_option maxRecDepth 20000 in
theorem gX7_bookOf_X7_isWithin : GoodIn wsX7_bookOf (va_wsS RX7 42 yX7_isWithin wsX7_isWithin) := goodIn_app (goodIn_of _ (by decide +kernel)) ggX7_bookOf_X7_isWithin
theorem dX7_bookOf_0 : decode cX7_bookOf 0 = .ok (.iload_n 1, 1) := by decide +kernel
theorem dX7_bookOf_1 : decode cX7_bookOf 1 = .ok (.iconst 0, 1) := by decide +kernel
theorem dX7_bookOf_2 : decode cX7_bookOf 2 = .ok (.iconst 3, 1) := by decide +kernel
theorem dX7_bookOf_3 : decode cX7_bookOf 3 = .ok (.invokestatic 42, 3) := by decide +kernel
theorem dX7_bookOf_6 : decode cX7_bookOf 6 = .ok (.ifCond .eq 12, 3) := by decide +kernel
theorem dX7_bookOf_9 : decode cX7_bookOf 9 = .ok (.aload_n 0, 1) := by decide +kernel
theorem dX7_bookOf_10 : decode cX7_bookOf 10 = .ok (.getfield 24, 3) := by decide +kernel
theorem dX7_bookOf_13 : decode cX7_bookOf 13 = .ok (.iload_n 1, 1) := by decide +kernel
theorem dX7_bookOf_14 : decode cX7_bookOf 14 = .ok (.aaload, 1) := by decide +kernel
theorem dX7_bookOf_15 : decode cX7_bookOf 15 = .ok (.goto 4, 3) := by decide +kernel
theorem dX7_bookOf_18 : decode cX7_bookOf 18 = .ok (.aconst_null, 1) := by decide +kernel
theorem dX7_bookOf_19 : decode cX7_bookOf 19 = .ok (.astore_n 2, 1) := by decide +kernel
theorem dX7_bookOf_20 : decode cX7_bookOf 20 = .ok (.aload_n 2, 1) := by decide +kernel
theorem dX7_bookOf_21 : decode cX7_bookOf 21 = .ok (.ifnonnull 14, 3) := by decide +kernel
theorem dX7_bookOf_24 : decode cX7_bookOf 24 = .ok (.new 257, 3) := by decide +kernel
theorem dX7_bookOf_27 : decode cX7_bookOf 27 = .ok (.dup, 1) := by decide +kernel
theorem dX7_bookOf_28 : decode cX7_bookOf 28 = .ok (.ldc_w 276, 3) := by decide +kernel
theorem dX7_bookOf_31 : decode cX7_bookOf 31 = .ok (.invokespecial 261, 3) := by decide +kernel
theorem dX7_bookOf_34 : decode cX7_bookOf 34 = .ok (.athrow, 1) := by decide +kernel
theorem dX7_bookOf_35 : decode cX7_bookOf 35 = .ok (.aload_n 2, 1) := by decide +kernel
theorem dX7_bookOf_36 : decode cX7_bookOf 36 = .ok (.areturn, 1) := by decide +kernel
set_option maxRecDepth 20000 in
theorem ggX7_skinOf_X7_isWithin : GoodIn wsX7_skinOf wsX7_isWithin := goodIn_r _ [7] (by decide +kernel) (by decide +kernel)
set_option maxRecDepth 20000 in
theorem gX7_skinOf_X7_isWithin : GoodIn wsX7_skinOf (va_wsS RX7 42 yX7_isWithin wsX7_isWithin) := goodIn_app (goodIn_of _ (by decide +kernel)) ggX7_skinOf_X7_isWithin
theorem dX7_skinOf_0 : decode cX7_skinOf 0 = .ok (.iload_n 1, 1) := by decide +kernel
theorem dX7_skinOf_1 : decode cX7_skinOf 1 = .ok (.iconst 0, 1) := by decide +kernel
theorem dX7_skinOf_2 : decode cX7_skinOf 2 = .ok (.iconst 2, 1) := by decide +kernel
theorem dX7_skinOf_3 : decode cX7_skinOf 3 = .ok (.invokestatic 42, 3) := by decide +kernel
theorem dX7_skinOf_6 : decode cX7_skinOf 6 = .ok (.ifCond .eq 12, 3) := by decide +kernel
theorem dX7_skinOf_9 : decode cX7_skinOf 9 = .ok (.aload_n 0, 1) := by decide +kernel
theorem dX7_skinOf_10 : decode cX7_skinOf 10 = .ok (.getfield 30, 3) := by decide +kernel
theorem dX7_skinOf_13 : decode cX7_skinOf 13 = .ok (.iload_n 1, 1) := by decide +kernel
theorem dX7_skinOf_14 : decode cX7_skinOf 14 = .ok (.aaload, 1) := by decide +kernel
theorem dX7_skinOf_15 : decode cX7_skinOf 15 = .ok (.goto 4, 3) := by decide +kernel
theorem dX7_skinOf_18 : decode cX7_skinOf 18 = .ok (.aconst_null, 1) := by decide +kernel
theorem dX7_skinOf_19 : decode cX7_skinOf 19 = .ok (.astore_n 2, 1) := by decide +kernel
theorem dX7_skinOf_20 : decode cX7_skinOf 20 = .ok (.aload_n 2, 1) := by decide +kernel
theorem dX7_skinOf_21 : decode cX7_skinOf 21 = .ok (.ifnonnull 14, 3) := by decide +kernel
theorem dX7_skinOf_24 : decode cX7_skinOf 24 = .ok (.new 257, 3) := by decide +kernel
theorem dX7_skinOf_27 : decode cX7_skinOf 27 = .ok (.dup, 1) := by decide +kernel
theorem dX7_skinOf_28 : decode cX7_skinOf 28 = .ok (.ldc_w 278, 3) := by decide +kernel
theorem dX7_skinOf_31 : decode cX7_skinOf 31 = .ok (.invokespecial 261, 3) := by decide +kernel
theorem dX7_skinOf_34 : decode cX7_skinOf 34 = .ok (.athrow, 1) := by decide +kernel
theorem dX7_skinOf_35 : decode cX7_skinOf 35 = .ok (.aload_n 2, 1) := by decide +kernel
theorem dX7_skinOf_36 : decode cX7_skinOf 36 = .ok (.areturn, 1) := by decide +kernel
theorem dX7_columnsOf_0 : decode cX7_columnsOf 0 = .ok (.iconst 1, 1) := by decide +kernel
theorem dX7_columnsOf_1 : decode cX7_columnsOf 1 = .ok (.iload_n 0, 1) := by decide +kernel
theorem dX7_columnsOf_2 : decode cX7_columnsOf 2 = .ok (.iconst 1, 1) := by decide +kernel
theorem dX7_columnsOf_3 : decode cX7_columnsOf 3 = .ok (.iadd, 1) := by decide +kernel
theorem dX7_columnsOf_4 : decode cX7_columnsOf 4 = .ok (.iconst 2, 1) := by decide +kernel
theorem dX7_columnsOf_5 : decode cX7_columnsOf 5 = .ok (.idiv, 1) := by decide +kernel
theorem dX7_columnsOf_6 : decode cX7_columnsOf 6 = .ok (.ishl, 1) := by decide +kernel
theorem dX7_columnsOf_7 : decode cX7_columnsOf 7 = .ok (.ireturn, 1) := by decide +kernel
theorem dX7_rowsOf_0 : decode cX7_rowsOf 0 = .ok (.iconst 1, 1) := by decide +kernel
theorem dX7_rowsOf_1 : decode cX7_rowsOf 1 = .ok (.iload_n 0, 1) := by decide +kernel
theorem dX7_rowsOf_2 : decode cX7_rowsOf 2 = .ok (.iconst 2, 1) := by decide +kernel
theorem dX7_rowsOf_3 : decode cX7_rowsOf 3 = .ok (.idiv, 1) := by decide +kernel
theorem dX7_rowsOf_4 : decode cX7_rowsOf 4 = .ok (.ishl, 1) := by decide +kernel
theorem dX7_rowsOf_5 : decode cX7_rowsOf 5 = .ok (.ireturn, 1) := by decide +kernel
set_option maxRecDepth 20000 in
theorem ggX7_foldedPage_X7_columnsOf : GoodIn wsX7_foldedPage wsX7_columnsOf := goodIn_r _ [4] (by decide +kernel) (by decide +kernel)
set_option maxRecDepth 20000 in
theorem gX7_foldedPage_X7_columnsOf : GoodIn wsX7_foldedPage (va_wsS RX7 99 yX7_columnsOf wsX7_columnsOf) := goodIn_app (goodIn_of _ (by decide +kernel)) ggX7_foldedPage_X7_columnsOf
set_option maxRecDepth 20000 in
theorem ggX7_foldedPage_X7_rowsOf : GoodIn wsX7_foldedPage wsX7_rowsOf := goodIn_r _ [7] (by decide +kernel) (by decide +kernel)
set_option maxRecDepth 20000 in
theorem gX7_foldedPage_X7_rowsOf : GoodIn wsX7_foldedPage (va_wsS RX7 102 yX7_rowsOf wsX7_rowsOf) := goodIn_app (goodIn_of _ (by decide +kernel)) ggX7_foldedPage_X7_rowsOf
theorem dX7_foldedPage_0 : decode cX7_foldedPage 0 = .ok (.iload_n 0, 1) := by decide +kernel
theorem dX7_foldedPage_1 : decode cX7_foldedPage 1 = .ok (.invokestatic 99, 3) := by decide +kernel
theorem dX7_foldedPage_4 : decode cX7_foldedPage 4 = .ok (.istore 4, 2) := by decide +kernel
theorem dX7_foldedPage_6 : decode cX7_foldedPage 6 = .ok (.iload_n 0, 1) := by decide +kernel
theorem dX7_foldedPage_7 : decode cX7_foldedPage 7 = .ok (.invokestatic 102, 3) := by decide +kernel
theorem dX7_foldedPage_10 : decode cX7_foldedPage 10 = .ok (.istore 5, 2) := by decide +kernel
theorem dX7_foldedPage_12 : decode cX7_foldedPage 12 = .ok (.iconst 2, 1) := by decide +kernel
theorem dX7_foldedPage_13 : decode cX7_foldedPage 13 = .ok (.istore 6, 2) := by decide +kernel
theorem dX7_foldedPage_15 : decode cX7_foldedPage 15 = .ok (.iload_n 1, 1) := by decide +kernel
theorem dX7_foldedPage_16 : decode cX7_foldedPage 16 = .ok (.ifCond .eq 7, 3) := by decide +kernel
theorem dX7_foldedPage_19 : decode cX7_foldedPage 19 = .ok (.iconst 2, 1) := by decide +kernel
theorem dX7_foldedPage_20 : decode cX7_foldedPage 20 = .ok (.goto 4, 3) := by decide +kernel
theorem dX7_foldedPage_23 : decode cX7_foldedPage 23 = .ok (.iconst 1, 1) := by decide +kernel
theorem dX7_foldedPage_24 : decode cX7_foldedPage 24 = .ok (.istore 7, 2) := by decide +kernel
theorem dX7_foldedPage_26 : decode cX7_foldedPage 26 = .ok (.iconst 0, 1) := by decide +kernel
theorem dX7_foldedPage_27 : decode cX7_foldedPage 27 = .ok (.istore 8, 2) := by decide +kernel
theorem dX7_foldedPage_29 : decode cX7_foldedPage 29 = .ok (.iload 8, 2) := by decide +kernel
theorem dX7_foldedPage_31 : decode cX7_foldedPage 31 = .ok (.iload_n 0, 1) := by decide +kernel
theorem dX7_foldedPage_32 : decode cX7_foldedPage 32 = .ok (.if_icmp .ge 121, 3) := by decide +kernel
theorem dX7_foldedPage_35 : decode cX7_foldedPage 35 = .ok (.iload 8, 2) := by decide +kernel
theorem dX7_foldedPage_37 : decode cX7_foldedPage 37 = .ok (.iconst 2, 1) := by decide +kernel
theorem dX7_foldedPage_38 : decode cX7_foldedPage 38 = .ok (.irem, 1) := by decide +kernel
theorem dX7_foldedPage_39 : decode cX7_foldedPage 39 = .ok (.ifCond .ne 43, 3) := by decide +kernel
theorem dX7_foldedPage_42 : decode cX7_foldedPage 42 = .ok (.iload 4, 2) := by decide +kernel
theorem dX7_foldedPage_44 : decode cX7_foldedPage 44 = .ok (.iconst 2, 1) := by decide +kernel
theorem dX7_foldedPage_45 : decode cX7_foldedPage 45 = .ok (.idiv, 1) := by decide +kernel
theorem dX7_foldedPage_46 : decode cX7_foldedPage 46 = .ok (.istore 4, 2) := by decide +kernel
theorem dX7_foldedPage_48 : decode cX7_foldedPage 48 = .ok (.iload_n 2, 1) := by decide +kernel
theorem dX7_foldedPage_49 : decode cX7_foldedPage 49 = .ok (.iload 4, 2) := by decide +kernel
theorem dX7_foldedPage_51 : decode cX7_foldedPage 51 = .ok (.if_icmp .lt 7, 3) := by decide +kernel
theorem dX7_foldedPage_54 : decode cX7_foldedPage 54 = .ok (.iconst 1, 1) := by decide +kernel
theorem dX7_foldedPage_55 : decode cX7_foldedPage 55 = .ok (.goto 4, 3) := by decide +kernel
theorem dX7_foldedPage_58 : decode cX7_foldedPage 58 = .ok (.iconst 0, 1) := by decide +kernel
theorem dX7_foldedPage_59 : decode cX7_foldedPage 59 = .ok (.istore 9, 2) := by decide +kernel
theorem dX7_foldedPage_61 : decode cX7_foldedPage 61 = .ok (.iload 9, 2) := by decide +kernel
theorem dX7_foldedPage_63 : decode cX7_foldedPage 63 = .ok (.ifCond .eq 14, 3) := by decide +kernel
theorem dX7_foldedPage_66 : decode cX7_foldedPage 66 = .ok (.iconst 2, 1) := by decide +kernel
theorem dX7_foldedPage_67 : decode cX7_foldedPage 67 = .ok (.iload 4, 2) := by decide +kernel
theorem dX7_foldedPage_69 : decode cX7_foldedPage 69 = .ok (.imul, 1) := by decide +kernel
theorem dX7_foldedPage_70 : decode cX7_foldedPage 70 = .ok (.iconst 1, 1) := by decide +kernel
theorem dX7_foldedPage_71 : decode cX7_foldedPage 71 = .ok (.isub, 1) := by decide +kernel
theorem dX7_foldedPage_72 : decode cX7_foldedPage 72 = .ok (.iload_n 2, 1) := by decide +kernel
theorem dX7_foldedPage_73 : decode cX7_foldedPage 73 = .ok (.isub, 1) := by decide +kernel
theorem dX7_foldedPage_74 : decode cX7_foldedPage 74 = .ok (.goto 4, 3) := by decide +kernel
theorem dX7_foldedPage_77 : decode cX7_foldedPage 77 = .ok (.iload_n 2, 1) := by decide +kernel
theorem dX7_foldedPage_78 : decode cX7_foldedPage 78 = .ok (.istore_n 2, 1) := by decide +kernel
theorem dX7_foldedPage_79 : decode cX7_foldedPage 79 = .ok (.goto 40, 3) := by decide +kernel
theorem dX7_foldedPage_82 : decode cX7_foldedPage 82 = .ok (.iload 5, 2) := by decide +kernel
theorem dX7_foldedPage_84 : decode cX7_foldedPage 84 = .ok (.iconst 2, 1) := by decide +kernel
theorem dX7_foldedPage_85 : decode cX7_foldedPage 85 = .ok (.idiv, 1) := by decide +kernel
theorem dX7_foldedPage_86 : decode cX7_foldedPage 86 = .ok (.istore 5, 2) := by decide +kernel
theorem dX7_foldedPage_88 : decode cX7_foldedPage 88 = .ok (.iload_n 3, 1) := by decide +kernel
theorem dX7_foldedPage_89 : decode cX7_foldedPage 89 = .ok (.iload 5, 2) := by decide +kernel
theorem dX7_foldedPage_91 : decode cX7_foldedPage 91 = .ok (.if_icmp .lt 7, 3) := by decide +kernel
theorem dX7_foldedPage_94 : decode cX7_foldedPage 94 = .ok (.iconst 1, 1) := by decide +kernel
theorem dX7_foldedPage_95 : decode cX7_foldedPage 95 = .ok (.goto 4, 3) := by decide +kernel
theorem dX7_foldedPage_98 : decode cX7_foldedPage 98 = .ok (.iconst 0, 1) := by decide +kernel
theorem dX7_foldedPage_99 : decode cX7_foldedPage 99 = .ok (.istore 9, 2) := by decide +kernel
theorem dX7_foldedPage_101 : decode cX7_foldedPage 101 = .ok (.iload 9, 2) := by decide +kernel
theorem dX7_foldedPage_103 : decode cX7_foldedPage 103 = .ok (.ifCond .eq 14, 3) := by decide +kernel
theorem dX7_foldedPage_106 : decode cX7_foldedPage 106 = .ok (.iconst 2, 1) := by decide +kernel
theorem dX7_foldedPage_107 : decode cX7_foldedPage 107 = .ok (.iload 5, 2) := by decide +kernel
theorem dX7_foldedPage_109 : decode cX7_foldedPage 109 = .ok (.imul, 1) := by decide +kernel
theorem dX7_foldedPage_110 : decode cX7_foldedPage 110 = .ok (.iconst 1, 1) := by decide +kernel
theorem dX7_foldedPage_111 : decode cX7_foldedPage 111 = .ok (.isub, 1) := by decide +kernel
theorem dX7_foldedPage_112 : decode cX7_foldedPage 112 = .ok (.iload_n 3, 1) := by decide +kernel
theorem dX7_foldedPage_113 : decode cX7_foldedPage 113 = .ok (.isub, 1) := by decide +kernel
theorem dX7_foldedPage_114 : decode cX7_foldedPage 114 = .ok (.goto 4, 3) := by decide +kernel
theorem dX7_foldedPage_117 : decode cX7_foldedPage 117 = .ok (.iload_n 3, 1) := by decide +kernel
theorem dX7_foldedPage_118 : decode cX7_foldedPage 118 = .ok (.istore_n 3, 1) := by decide +kernel
theorem dX7_foldedPage_119 : decode cX7_foldedPage 119 = .ok (.iload 9, 2) := by decide +kernel
theorem dX7_foldedPage_121 : decode cX7_foldedPage 121 = .ok (.ifCond .eq 13, 3) := by decide +kernel
theorem dX7_foldedPage_124 : decode cX7_foldedPage 124 = .ok (.iload 6, 2) := by decide +kernel
theorem dX7_foldedPage_126 : decode cX7_foldedPage 126 = .ok (.iconst 1, 1) := by decide +kernel
theorem dX7_foldedPage_127 : decode cX7_foldedPage 127 = .ok (.iadd, 1) := by decide +kernel
theorem dX7_foldedPage_128 : decode cX7_foldedPage 128 = .ok (.iload 7, 2) := by decide +kernel
theorem dX7_foldedPage_130 : decode cX7_foldedPage 130 = .ok (.isub, 1) := by decide +kernel
theorem dX7_foldedPage_131 : decode cX7_foldedPage 131 = .ok (.goto 8, 3) := by decide +kernel
theorem dX7_foldedPage_134 : decode cX7_foldedPage 134 = .ok (.iload 6, 2) := by decide +kernel
theorem dX7_foldedPage_136 : decode cX7_foldedPage 136 = .ok (.iload 7, 2) := by decide +kernel
theorem dX7_foldedPage_138 : decode cX7_foldedPage 138 = .ok (.iadd, 1) := by decide +kernel
theorem dX7_foldedPage_139 : decode cX7_foldedPage 139 = .ok (.istore 7, 2) := by decide +kernel
theorem dX7_foldedPage_141 : decode cX7_foldedPage 141 = .ok (.iload 6, 2) := by decide +kernel
theorem dX7_foldedPage_143 : decode cX7_foldedPage 143 = .ok (.iconst 2, 1) := by decide +kernel
theorem dX7_foldedPage_144 : decode cX7_foldedPage 144 = .ok (.imul, 1) := by decide +kernel
theorem dX7_foldedPage_145 : decode cX7_foldedPage 145 = .ok (.istore 6, 2) := by decide +kernel
theorem dX7_foldedPage_147 : decode cX7_foldedPage 147 = .ok (.iinc 8 1, 3) := by decide +kernel
theorem dX7_foldedPage_150 : decode cX7_foldedPage 150 = .ok (.goto (-121), 3) := by decide +kernel
theorem dX7_foldedPage_153 : decode cX7_foldedPage 153 = .ok (.iload 7, 2) := by decide +kernel
theorem dX7_foldedPage_155 : decode cX7_foldedPage 155 = .ok (.ireturn, 1) := by decide +kernel
set_option maxRecDepth 20000 in
theorem ggX7_unfoldedPlace_X7_rowsOf : GoodIn wsX7_unfoldedPlace wsX7_rowsOf := goodIn_r _ [4] (by decide +kernel) (by decide +kernel)
set_option maxRecDepth 20000 in
theorem gX7_unfoldedPlace_X7_rowsOf : GoodIn wsX7_unfoldedPlace (va_wsS RX7 102 yX7_rowsOf wsX7_rowsOf) := goodIn_app (goodIn_of _ (by decide +kernel)) ggX7_unfoldedPlace_X7_rowsOf
set_option maxRecDepth 20000 in
theorem ggX7_unfoldedPlace_X7_columnsOf : GoodIn wsX7_unfoldedPlace wsX7_columnsOf := goodIn_r _ [7] (by decide +kernel) (by decide +kernel)
set_option maxRecDepth 20000 in
theorem gX7_unfoldedPlace_X7_columnsOf : GoodIn wsX7_unfoldedPlace (va_wsS RX7 99 yX7_columnsOf wsX7_columnsOf) := goodIn_app (goodIn_of _ (by decide +kernel)) ggX7_unfoldedPlace_X7_columnsOf
set_option maxRecDepth 20000 in
theorem ggX7_unfoldedPlace_X7_foldedPage : GoodIn wsX7_unfoldedPlace wsX7_foldedPage := goodIn_r _ [10, 5, 6, 3, 7, 1, 2, 4] (by decide +kernel) (by decide +kernel)
set_option maxRecDepth 20000 in
theorem gX7_unfoldedPlace_X7_foldedPage : GoodIn wsX7_unfoldedPlace (va_wsS RX7 105 yX7_foldedPage wsX7_foldedPage) := goodIn_app (goodIn_of _ (by decide +kernel)) ggX7_unfoldedPlace_X7_foldedPage
theorem dX7_unfoldedPlace_0 : decode cX7_unfoldedPlace 0 = .ok (.iconst 0, 1) := by decide +kernel
theorem dX7_unfoldedPlace_1 : decode cX7_unfoldedPlace 1 = .ok (.istore_n 2, 1) := by decide +kernel
theorem dX7_unfoldedPlace_2 : decode cX7_unfoldedPlace 2 = .ok (.iload_n 2, 1) := by decide +kernel
theorem dX7_unfoldedPlace_3 : decode cX7_unfoldedPlace 3 = .ok (.iload_n 0, 1) := by decide +kernel
theorem dX7_unfoldedPlace_4 : decode cX7_unfoldedPlace 4 = .ok (.invokestatic 102, 3) := by decide +kernel
theorem dX7_unfoldedPlace_7 : decode cX7_unfoldedPlace 7 = .ok (.if_icmp .ge 64, 3) := by decide +kernel
theorem dX7_unfoldedPlace_10 : decode cX7_unfoldedPlace 10 = .ok (.iconst 0, 1) := by decide +kernel
theorem dX7_unfoldedPlace_11 : decode cX7_unfoldedPlace 11 = .ok (.istore_n 3, 1) := by decide +kernel
theorem dX7_unfoldedPlace_12 : decode cX7_unfoldedPlace 12 = .ok (.iload_n 3, 1) := by decide +kernel
theorem dX7_unfoldedPlace_13 : decode cX7_unfoldedPlace 13 = .ok (.iload_n 0, 1) := by decide +kernel
theorem dX7_unfoldedPlace_14 : decode cX7_unfoldedPlace 14 = .ok (.invokestatic 99, 3) := by decide +kernel
theorem dX7_unfoldedPlace_17 : decode cX7_unfoldedPlace 17 = .ok (.if_icmp .ge 48, 3) := by decide +kernel
theorem dX7_unfoldedPlace_20 : decode cX7_unfoldedPlace 20 = .ok (.iload_n 0, 1) := by decide +kernel
theorem dX7_unfoldedPlace_21 : decode cX7_unfoldedPlace 21 = .ok (.iconst 0, 1) := by decide +kernel
theorem dX7_unfoldedPlace_22 : decode cX7_unfoldedPlace 22 = .ok (.iload_n 3, 1) := by decide +kernel
theorem dX7_unfoldedPlace_23 : decode cX7_unfoldedPlace 23 = .ok (.iload_n 2, 1) := by decide +kernel
theorem dX7_unfoldedPlace_24 : decode cX7_unfoldedPlace 24 = .ok (.invokestatic 105, 3) := by decide +kernel
theorem dX7_unfoldedPlace_27 : decode cX7_unfoldedPlace 27 = .ok (.iload_n 1, 1) := by decide +kernel
theorem dX7_unfoldedPlace_28 : decode cX7_unfoldedPlace 28 = .ok (.if_icmp .ne 10, 3) := by decide +kernel
theorem dX7_unfoldedPlace_31 : decode cX7_unfoldedPlace 31 = .ok (.bipush 10, 2) := by decide +kernel
theorem dX7_unfoldedPlace_33 : decode cX7_unfoldedPlace 33 = .ok (.iload_n 2, 1) := by decide +kernel
theorem dX7_unfoldedPlace_34 : decode cX7_unfoldedPlace 34 = .ok (.imul, 1) := by decide +kernel
theorem dX7_unfoldedPlace_35 : decode cX7_unfoldedPlace 35 = .ok (.iload_n 3, 1) := by decide +kernel
theorem dX7_unfoldedPlace_36 : decode cX7_unfoldedPlace 36 = .ok (.iadd, 1) := by decide +kernel
theorem dX7_unfoldedPlace_37 : decode cX7_unfoldedPlace 37 = .ok (.ireturn, 1) := by decide +kernel
theorem dX7_unfoldedPlace_38 : decode cX7_unfoldedPlace 38 = .ok (.iload_n 0, 1) := by decide +kernel
theorem dX7_unfoldedPlace_39 : decode cX7_unfoldedPlace 39 = .ok (.iconst 1, 1) := by decide +kernel
theorem dX7_unfoldedPlace_40 : decode cX7_unfoldedPlace 40 = .ok (.iload_n 3, 1) := by decide +kernel
theorem dX7_unfoldedPlace_41 : decode cX7_unfoldedPlace 41 = .ok (.iload_n 2, 1) := by decide +kernel
theorem dX7_unfoldedPlace_42 : decode cX7_unfoldedPlace 42 = .ok (.invokestatic 105, 3) := by decide +kernel
theorem dX7_unfoldedPlace_45 : decode cX7_unfoldedPlace 45 = .ok (.iload_n 1, 1) := by decide +kernel
theorem dX7_unfoldedPlace_46 : decode cX7_unfoldedPlace 46 = .ok (.if_icmp .ne 13, 3) := by decide +kernel
theorem dX7_unfoldedPlace_49 : decode cX7_unfoldedPlace 49 = .ok (.bipush 100, 2) := by decide +kernel
theorem dX7_unfoldedPlace_51 : decode cX7_unfoldedPlace 51 = .ok (.bipush 10, 2) := by decide +kernel
theorem dX7_unfoldedPlace_53 : decode cX7_unfoldedPlace 53 = .ok (.iload_n 2, 1) := by decide +kernel
theorem dX7_unfoldedPlace_54 : decode cX7_unfoldedPlace 54 = .ok (.imul, 1) := by decide +kernel
theorem dX7_unfoldedPlace_55 : decode cX7_unfoldedPlace 55 = .ok (.iadd, 1) := by decide +kernel
theorem dX7_unfoldedPlace_56 : decode cX7_unfoldedPlace 56 = .ok (.iload_n 3, 1) := by decide +kernel
theorem dX7_unfoldedPlace_57 : decode cX7_unfoldedPlace 57 = .ok (.iadd, 1) := by decide +kernel
theorem dX7_unfoldedPlace_58 : decode cX7_unfoldedPlace 58 = .ok (.ireturn, 1) := by decide +kernel
theorem dX7_unfoldedPlace_59 : decode cX7_unfoldedPlace 59 = .ok (.iinc 3 1, 3) := by decide +kernel
theorem dX7_unfoldedPlace_62 : decode cX7_unfoldedPlace 62 = .ok (.goto (-50), 3) := by decide +kernel
theorem dX7_unfoldedPlace_65 : decode cX7_unfoldedPlace 65 = .ok (.iinc 2 1, 3) := by decide +kernel
theorem dX7_unfoldedPlace_68 : decode cX7_unfoldedPlace 68 = .ok (.goto (-66), 3) := by decide +kernel
theorem dX7_unfoldedPlace_71 : decode cX7_unfoldedPlace 71 = .ok (.iconst (-1), 1) := by decide +kernel
theorem dX7_unfoldedPlace_72 : decode cX7_unfoldedPlace 72 = .ok (.ireturn, 1) := by decide +kernel
end
section
theorem dX8_init_0 : decode cX8_init 0 = .ok (.aload_n 0, 1) := by decide +kernel
theorem dX8_init_1 : decode cX8_init 1 = .ok (.invokespecial 1, 3) := by decide +kernel
theorem dX8_init_4 : decode cX8_init 4 = .ok (.aload_n 0, 1) := by decide +kernel
theorem dX8_init_5 : decode cX8_init 5 = .ok (.bipush 64, 2) := by decide +kernel
theorem dX8_init_7 : decode cX8_init 7 = .ok (.newarray .int, 2) := by decide +kernel
theorem dX8_init_9 : decode cX8_init 9 = .ok (.putfield 7, 3) := by decide +kernel
theorem dX8_init_12 : decode cX8_init 12 = .ok (.aload_n 0, 1) := by decide +kernel
theorem dX8_init_13 : decode cX8_init 13 = .ok (.bipush 64, 2) := by decide +kernel
theorem dX8_init_15 : decode cX8_init 15 = .ok (.newarray .int, 2) := by decide +kernel
theorem dX8_init_17 : decode cX8_init 17 = .ok (.putfield 13, 3) := by decide +kernel
theorem dX8_init_20 : decode cX8_init 20 = .ok (.aload_n 0, 1) := by decide +kernel
theorem dX8_init_21 : decode cX8_init 21 = .ok (.sipush 640, 3) := by decide +kernel
theorem dX8_init_24 : decode cX8_init 24 = .ok (.newarray .int, 2) := by decide +kernel
theorem dX8_init_26 : decode cX8_init 26 = .ok (.putfield 16, 3) := by decide +kernel
theorem dX8_init_29 : decode cX8_init 29 = .ok (.aload_n 0, 1) := by decide +kernel
theorem dX8_init_30 : decode cX8_init 30 = .ok (.iconst 4, 1) := by decide +kernel
theorem dX8_init_31 : decode cX8_init 31 = .ok (.newarray .int, 2) := by decide +kernel
theorem dX8_init_33 : decode cX8_init 33 = .ok (.putfield 19, 3) := by decide +kernel
theorem dX8_init_36 : decode cX8_init 36 = .ok (.aload_n 0, 1) := by decide +kernel
theorem dX8_init_37 : decode cX8_init 37 = .ok (.iconst 4, 1) := by decide +kernel
theorem dX8_init_38 : decode cX8_init 38 = .ok (.newarray .int, 2) := by decide +kernel
theorem dX8_init_40 : decode cX8_init 40 = .ok (.putfield 22, 3) := by decide +kernel
theorem dX8_init_43 : decode cX8_init 43 = .ok (.aload_n 0, 1) := by decide +kernel
theorem dX8_init_44 : decode cX8_init 44 = .ok (.iconst 4, 1) := by decide +kernel
theorem dX8_init_45 : decode cX8_init 45 = .ok (.newarray .int, 2) := by decide +kernel
theorem dX8_init_47 : decode cX8_init 47 = .ok (.putfield 25, 3) := by decide +kernel
theorem dX8_init_50 : decode cX8_init 50 = .ok (.aload_n 0, 1) := by decide +kernel
theorem dX8_init_51 : decode cX8_init 51 = .ok (.iconst 4, 1) := by decide +kernel
theorem dX8_init_52 : decode cX8_init 52 = .ok (.newarray .int, 2) := by decide +kernel
theorem dX8_init_54 : decode cX8_init 54 = .ok (.putfield 28, 3) := by decide +kernel
theorem dX8_init_57 : decode cX8_init 57 = .ok (.aload_n 0, 1) := by decide +kernel
theorem dX8_init_58 : decode cX8_init 58 = .ok (.iconst 4, 1) := by decide +kernel
theorem dX8_init_59 : decode cX8_init 59 = .ok (.newarray .boolean, 2) := by decide +kernel
theorem dX8_init_61 : decode cX8_init 61 = .ok (.putfield 31, 3) := by decide +kernel
theorem dX8_init_64 : decode cX8_init 64 = .ok (.aload_n 0, 1) := by decide +kernel
theorem dX8_init_65 : decode cX8_init 65 = .ok (.iconst 4, 1) := by decide +kernel
theorem dX8_init_66 : decode cX8_init 66 = .ok (.newarray .int, 2) := by decide +kernel
theorem dX8_init_68 : decode cX8_init 68 = .ok (.putfield 35, 3) := by decide +kernel
theorem dX8_init_71 : decode cX8_init 71 = .ok (.aload_n 0, 1) := by decide +kernel
theorem dX8_init_72 : decode cX8_init 72 = .ok (.iconst 4, 1) := by decide +kernel
theorem dX8_init_73 : decode cX8_init 73 = .ok (.newarray .int, 2) := by decide +kernel
theorem dX8_init_75 : decode cX8_init 75 = .ok (.putfield 38, 3) := by decide +kernel
theorem dX8_init_78 : decode cX8_init 78 = .ok (.aload_n 0, 1) := by decide +kernel
theorem dX8_init_79 : decode cX8_init 79 = .ok (.sipush 800, 3) := by decide +kernel
theorem dX8_init_82 : decode cX8_init 82 = .ok (.newarray .int, 2) := by decide +kernel
theorem dX8_init_84 : decode cX8_init 84 = .ok (.putfield 41, 3) := by decide +kernel
theorem dX8_init_87 : decode cX8_init 87 = .ok (.aload_n 0, 1) := by decide +kernel
theorem dX8_init_88 : decode cX8_init 88 = .ok (.bipush 40, 2) := by decide +kernel
theorem dX8_init_90 : decode cX8_init 90 = .ok (.newarray .int, 2) := by decide +kernel
theorem dX8_init_92 : decode cX8_init 92 = .ok (.putfield 44, 3) := by decide +kernel
theorem dX8_init_95 : decode cX8_init 95 = .ok (.aload_n 0, 1) := by decide +kernel
theorem dX8_init_96 : decode cX8_init 96 = .ok (.bipush 8, 2) := by decide +kernel
theorem dX8_init_98 : decode cX8_init 98 = .ok (.newarray .boolean, 2) := by decide +kernel
theorem dX8_init_100 : decode cX8_init 100 = .ok (.putfield 47, 3) := by decide +kernel
theorem dX8_init_103 : decode cX8_init 103 = .ok (.aload_n 0, 1) := by decide +kernel
theorem dX8_init_104 : decode cX8_init 104 = .ok (.sipush 192, 3) := by decide +kernel
theorem dX8_init_107 : decode cX8_init 107 = .ok (.newarray .int, 2) := by decide +kernel
theorem dX8_init_109 : decode cX8_init 109 = .ok (.putfield 50, 3) := by decide +kernel
theorem dX8_init_112 : decode cX8_init 112 = .ok (.aload_n 0, 1) := by decide +kernel
theorem dX8_init_113 : decode cX8_init 113 = .ok (.iconst 4, 1) := by decide +kernel
theorem dX8_init_114 : decode cX8_init 114 = .ok (.newarray .int, 2) := by decide +kernel
theorem dX8_init_116 : decode cX8_init 116 = .ok (.putfield 53, 3) := by decide +kernel
theorem dX8_init_119 : decode cX8_init 119 = .ok (.aload_n 0, 1) := by decide +kernel
theorem dX8_init_120 : decode cX8_init 120 = .ok (.bipush 80, 2) := by decide +kernel
theorem dX8_init_122 : decode cX8_init 122 = .ok (.newarray .int, 2) := by decide +kernel
theorem dX8_init_124 : decode cX8_init 124 = .ok (.putfield 56, 3) := by decide +kernel
theorem dX8_init_127 : decode cX8_init 127 = .ok (.aload_n 0, 1) := by decide +kernel
theorem dX8_init_128 : decode cX8_init 128 = .ok (.iconst 4, 1) := by decide +kernel
theorem dX8_init_129 : decode cX8_init 129 = .ok (.newarray .int, 2) := by decide +kernel
theorem dX8_init_131 : decode cX8_init 131 = .ok (.putfield 59, 3) := by decide +kernel
theorem dX8_init_134 : decode cX8_init 134 = .ok (.aload_n 0, 1) := by decide +kernel
theorem dX8_init_135 : decode cX8_init 135 = .ok (.bipush 80, 2) := by decide +kernel
theorem dX8_init_137 : decode cX8_init 137 = .ok (.newarray .int, 2) := by decide +kernel
theorem dX8_init_139 : decode cX8_init 139 = .ok (.putfield 62, 3) := by decide +kernel
theorem dX8_init_142 : decode cX8_init 142 = .ok (.aload_n 0, 1) := by decide +kernel
theorem dX8_init_143 : decode cX8_init 143 = .ok (.bipush 80, 2) := by decide +kernel
theorem dX8_init_145 : decode cX8_init 145 = .ok (.newarray .int, 2) := by decide +kernel
theorem dX8_init_147 : decode cX8_init 147 = .ok (.putfield 65, 3) := by decide +kernel
theorem dX8_init_150 : decode cX8_init 150 = .ok (.aload_n 0, 1) := by decide +kernel
theorem dX8_init_151 : decode cX8_init 151 = .ok (.bipush 80, 2) := by decide +kernel
theorem dX8_init_153 : decode cX8_init 153 = .ok (.newarray .int, 2) := by decide +kernel
theorem dX8_init_155 : decode cX8_init 155 = .ok (.putfield 68, 3) := by decide +kernel
theorem dX8_init_158 : decode cX8_init 158 = .ok (.return_, 1) := by decide +kernel
theorem dX8_thrown_0 : decode cX8_thrown 0 = .ok (.aload_n 0, 1) := by decide +kernel
theorem dX8_thrown_1 : decode cX8_thrown 1 = .ok (.getfield 71, 3) := by decide +kernel
theorem dX8_thrown_4 : decode cX8_thrown 4 = .ok (.ireturn, 1) := by decide +kernel
theorem dX8_in_0 : decode cX8_in 0 = .ok (.iload_n 0, 1) := by decide +kernel
theorem dX8_in_1 : decode cX8_in 1 = .ok (.iload_n 1, 1) := by decide +kernel
theorem dX8_in_2 : decode cX8_in 2 = .ok (.if_icmp .lt 12, 3) := by decide +kernel
theorem dX8_in_5 : decode cX8_in 5 = .ok (.iload_n 0, 1) := by decide +kernel
theorem dX8_in_6 : decode cX8_in 6 = .ok (.iload_n 2, 1) := by decide +kernel
theorem dX8_in_7 : decode cX8_in 7 = .ok (.if_icmp .gt 7, 3) := by decide +kernel
theorem dX8_in_10 : decode cX8_in 10 = .ok (.iconst 1, 1) := by decide +kernel
theorem dX8_in_11 : decode cX8_in 11 = .ok (.goto 4, 3) := by decide +kernel
theorem dX8_in_14 : decode cX8_in 14 = .ok (.iconst 0, 1) := by decide +kernel
theorem dX8_in_15 : decode cX8_in 15 = .ok (.ireturn, 1) := by decide +kernel
theorem dX8_goes_0 : decode cX8_goes 0 = .ok (.aload_n 0, 1) := by decide +kernel
theorem dX8_goes_1 : decode cX8_goes 1 = .ok (.iload_n 1, 1) := by decide +kernel
theorem dX8_goes_2 : decode cX8_goes 2 = .ok (.ifCond .ne 7, 3) := by decide +kernel
theorem dX8_goes_5 : decode cX8_goes 5 = .ok (.iconst 1, 1) := by decide +kernel
theorem dX8_goes_6 : decode cX8_goes 6 = .ok (.goto 20, 3) := by decide +kernel
theorem dX8_goes_9 : decode cX8_goes 9 = .ok (.iload_n 2, 1) := by decide +kernel
theorem dX8_goes_10 : decode cX8_goes 10 = .ok (.ifCond .ne 7, 3) := by decide +kernel
theorem dX8_goes_13 : decode cX8_goes 13 = .ok (.iconst 2, 1) := by decide +kernel
theorem dX8_goes_14 : decode cX8_goes 14 = .ok (.goto 12, 3) := by decide +kernel
theorem dX8_goes_17 : decode cX8_goes 17 = .ok (.iload_n 3, 1) := by decide +kernel
theorem dX8_goes_18 : decode cX8_goes 18 = .ok (.ifCond .ne 7, 3) := by decide +kernel
theorem dX8_goes_21 : decode cX8_goes 21 = .ok (.iconst 3, 1) := by decide +kernel
theorem dX8_goes_22 : decode cX8_goes 22 = .ok (.goto 4, 3) := by decide +kernel
theorem dX8_goes_25 : decode cX8_goes 25 = .ok (.iconst 0, 1) := by decide +kernel
theorem dX8_goes_26 : decode cX8_goes 26 = .ok (.putfield 71, 3) := by decide +kernel
theorem dX8_goes_29 : decode cX8_goes 29 = .ok (.aload_n 0, 1) := by decide +kernel
theorem dX8_goes_30 : decode cX8_goes 30 = .ok (.getfield 71, 3) := by decide +kernel
theorem dX8_goes_33 : decode cX8_goes 33 = .ok (.ifCond .ne 7, 3) := by decide +kernel
theorem dX8_goes_36 : decode cX8_goes 36 = .ok (.iconst 1, 1) := by decide +kernel
theorem dX8_goes_37 : decode cX8_goes 37 = .ok (.goto 4, 3) := by decide +kernel
theorem dX8_goes_40 : decode cX8_goes 40 = .ok (.iconst 0, 1) := by decide +kernel
theorem dX8_goes_41 : decode cX8_goes 41 = .ok (.ireturn, 1) := by decide +kernel
set_option maxRecDepth 20000 in
theorem ggX8_isEdge_X8_in : GoodIn wsX8_isEdge wsX8_in := goodIn_r _ [4] (by decide +kernel) (by decide +kernel)
set_option maxRecDepth 20000 in
theorem gX8_isEdge_X8_in : GoodIn wsX8_isEdge (va_wsS RX8 75 yX8_in wsX8_in) := goodIn_app (goodIn_of _ (by decide +kernel)) ggX8_isEdge_X8_in
theorem dX8_isEdge_0 : decode cX8_isEdge 0 = .ok (.iload_n 0, 1) := by decide +kernel
theorem dX8_isEdge_1 : decode cX8_isEdge 1 = .ok (.iconst 0, 1) := by decide +kernel
theorem dX8_isEdge_2 : decode cX8_isEdge 2 = .ok (.bipush 7, 2) := by decide +kernel
theorem dX8_isEdge_4 : decode cX8_isEdge 4 = .ok (.invokestatic 75, 3) := by decide +kernel
theorem dX8_isEdge_7 : decode cX8_isEdge 7 = .ok (.ireturn, 1) := by decide +kernel
theorem dX8_order_0 : decode cX8_order 0 = .ok (.iload_n 0, 1) := by decide +kernel
theorem dX8_order_1 : decode cX8_order 1 = .ok (.bipush 8, 2) := by decide +kernel
theorem dX8_order_3 : decode cX8_order 3 = .ok (.irem, 1) := by decide +kernel
theorem dX8_order_4 : decode cX8_order 4 = .ok (.iload_n 1, 1) := by decide +kernel
theorem dX8_order_5 : decode cX8_order 5 = .ok (.isub, 1) := by decide +kernel
theorem dX8_order_6 : decode cX8_order 6 = .ok (.istore_n 3, 1) := by decide +kernel
theorem dX8_order_7 : decode cX8_order 7 = .ok (.iload_n 0, 1) := by decide +kernel
theorem dX8_order_8 : decode cX8_order 8 = .ok (.bipush 8, 2) := by decide +kernel
theorem dX8_order_10 : decode cX8_order 10 = .ok (.idiv, 1) := by decide +kernel
theorem dX8_order_11 : decode cX8_order 11 = .ok (.iload_n 2, 1) := by decide +kernel
theorem dX8_order_12 : decode cX8_order 12 = .ok (.isub, 1) := by decide +kernel
theorem dX8_order_13 : decode cX8_order 13 = .ok (.istore 4, 2) := by decide +kernel
theorem dX8_order_15 : decode cX8_order 15 = .ok (.bipush 64, 2) := by decide +kernel
theorem dX8_order_17 : decode cX8_order 17 = .ok (.iload_n 3, 1) := by decide +kernel
theorem dX8_order_18 : decode cX8_order 18 = .ok (.iload_n 3, 1) := by decide +kernel
theorem dX8_order_19 : decode cX8_order 19 = .ok (.imul, 1) := by decide +kernel
theorem dX8_order_20 : decode cX8_order 20 = .ok (.iload 4, 2) := by decide +kernel
theorem dX8_order_22 : decode cX8_order 22 = .ok (.iload 4, 2) := by decide +kernel
theorem dX8_order_24 : decode cX8_order 24 = .ok (.imul, 1) := by decide +kernel
theorem dX8_order_25 : decode cX8_order 25 = .ok (.iadd, 1) := by decide +kernel
theorem dX8_order_26 : decode cX8_order 26 = .ok (.imul, 1) := by decide +kernel
theorem dX8_order_27 : decode cX8_order 27 = .ok (.iload_n 0, 1) := by decide +kernel
theorem dX8_order_28 : decode cX8_order 28 = .ok (.iadd, 1) := by decide +kernel
theorem dX8_order_29 : decode cX8_order 29 = .ok (.ireturn, 1) := by decide +kernel
set_option maxRecDepth 20000 in
theorem ggX8_drop_X8_isEdge : GoodIn wsX8_drop wsX8_isEdge := goodIn_r _ [6, 7, 8, 5, 9] (by decide +kernel) (by decide +kernel)
set_option maxRecDepth 20000 in
theorem gX8_drop_X8_isEdge : GoodIn wsX8_drop (va_wsS RX8 79 yX8_isEdge wsX8_isEdge) := goodIn_app (goodIn_of _ (by decide +kernel)) ggX8_drop_X8_isEdge
set_option maxRecDepth 20000 in
theorem ggX8_drop_X8_in : GoodIn wsX8_drop wsX8_in := goodIn_r _ [9] (by decide +kernel) (by decide +kernel)
set_option maxRecDepth 20000 in
theorem gX8_drop_X8_in : GoodIn wsX8_drop (va_wsS RX8 75 yX8_in wsX8_in) := goodIn_app (goodIn_of _ (by decide +kernel)) ggX8_drop_X8_in
set_option maxRecDepth 20000 in
theorem ggX8_drop_X8_goes : GoodIn wsX8_drop wsX8_goes := goodIn_r _ [13, 14, 18, 19, 20, 21, 22, 23, 24, 25, 26, 27, 28, 29, 30, 31, 32, 33, 34, 35, 36, 37, 38, 39, 40, 41, 42, 43, 44, 45] (by decide +kernel) (by decide +kernel)
set_option maxRecDepth 20000 in
theorem gX8_drop_X8_goes : GoodIn wsX8_drop (wsV RX8 83 RX8 yX8_goes wsX8_goes) := goodIn_app (goodIn_of _ (by decide +kernel)) ggX8_drop_X8_goes
set_option maxRecDepth 20000 in
theorem ggX8_drop_X8_order : GoodIn wsX8_drop wsX8_order := goodIn_r _ [17] (by decide +kernel) (by decide +kernel)
set_option maxRecDepth 20000 in
theorem gX8_drop_X8_order : GoodIn wsX8_drop (va_wsS RX8 87 yX8_order wsX8_order) := goodIn_app (goodIn_of _ (by decide +kernel)) ggX8_drop_X8_order
theorem dX8_drop_0 : decode cX8_drop 0 = .ok (.aload_n 0, 1) := by decide +kernel
theorem dX8_drop_1 : decode cX8_drop 1 = .ok (.iload_n 1, 1) := by decide +kernel
theorem dX8_drop_2 : decode cX8_drop 2 = .ok (.invokestatic 79, 3) := by decide +kernel
theorem dX8_drop_5 : decode cX8_drop 5 = .ok (.ifCond .eq 14, 3) := by decide +kernel
theorem dX8_drop_8 : decode cX8_drop 8 = .ok (.iload_n 2, 1) := by decide +kernel
theorem dX8_drop_9 : decode cX8_drop 9 = .ok (.invokestatic 79, 3) := by decide +kernel
theorem dX8_drop_12 : decode cX8_drop 12 = .ok (.ifCond .eq 7, 3) := by decide +kernel
theorem dX8_drop_15 : decode cX8_drop 15 = .ok (.iconst 1, 1) := by decide +kernel
theorem dX8_drop_16 : decode cX8_drop 16 = .ok (.goto 4, 3) := by decide +kernel
theorem dX8_drop_19 : decode cX8_drop 19 = .ok (.iconst 0, 1) := by decide +kernel
theorem dX8_drop_20 : decode cX8_drop 20 = .ok (.iload_n 3, 1) := by decide +kernel
theorem dX8_drop_21 : decode cX8_drop 21 = .ok (.iconst 0, 1) := by decide +kernel
theorem dX8_drop_22 : decode cX8_drop 22 = .ok (.iconst 5, 1) := by decide +kernel
theorem dX8_drop_23 : decode cX8_drop 23 = .ok (.invokestatic 75, 3) := by decide +kernel
theorem dX8_drop_26 : decode cX8_drop 26 = .ok (.ifCond .eq 18, 3) := by decide +kernel
theorem dX8_drop_29 : decode cX8_drop 29 = .ok (.iload 4, 2) := by decide +kernel
theorem dX8_drop_31 : decode cX8_drop 31 = .ok (.iconst 1, 1) := by decide +kernel
theorem dX8_drop_32 : decode cX8_drop 32 = .ok (.bipush 64, 2) := by decide +kernel
theorem dX8_drop_34 : decode cX8_drop 34 = .ok (.invokestatic 75, 3) := by decide +kernel
theorem dX8_drop_37 : decode cX8_drop 37 = .ok (.ifCond .eq 7, 3) := by decide +kernel
theorem dX8_drop_40 : decode cX8_drop 40 = .ok (.iconst 1, 1) := by decide +kernel
theorem dX8_drop_41 : decode cX8_drop 41 = .ok (.goto 4, 3) := by decide +kernel
theorem dX8_drop_44 : decode cX8_drop 44 = .ok (.iconst 0, 1) := by decide +kernel
theorem dX8_drop_45 : decode cX8_drop 45 = .ok (.iconst 1, 1) := by decide +kernel
theorem dX8_drop_46 : decode cX8_drop 46 = .ok (.invokevirtual 83, 3) := by decide +kernel
theorem dX8_drop_49 : decode cX8_drop 49 = .ok (.ifCond .ne 5, 3) := by decide +kernel
theorem dX8_drop_52 : decode cX8_drop 52 = .ok (.iconst 0, 1) := by decide +kernel
theorem dX8_drop_53 : decode cX8_drop 53 = .ok (.ireturn, 1) := by decide +kernel
theorem dX8_drop_54 : decode cX8_drop 54 = .ok (.iconst 0, 1) := by decide +kernel
theorem dX8_drop_55 : decode cX8_drop 55 = .ok (.istore 5, 2) := by decide +kernel
theorem dX8_drop_57 : decode cX8_drop 57 = .ok (.iconst 0, 1) := by decide +kernel
theorem dX8_drop_58 : decode cX8_drop 58 = .ok (.istore 6, 2) := by decide +kernel
theorem dX8_drop_60 : decode cX8_drop 60 = .ok (.iload 6, 2) := by decide +kernel
theorem dX8_drop_62 : decode cX8_drop 62 = .ok (.bipush 64, 2) := by decide +kernel
theorem dX8_drop_64 : decode cX8_drop 64 = .ok (.if_icmp .ge 96, 3) := by decide +kernel
theorem dX8_drop_67 : decode cX8_drop 67 = .ok (.iconst 0, 1) := by decide +kernel
theorem dX8_drop_68 : decode cX8_drop 68 = .ok (.istore 7, 2) := by decide +kernel
theorem dX8_drop_70 : decode cX8_drop 70 = .ok (.iconst 0, 1) := by decide +kernel
theorem dX8_drop_71 : decode cX8_drop 71 = .ok (.istore 8, 2) := by decide +kernel
theorem dX8_drop_73 : decode cX8_drop 73 = .ok (.iload 8, 2) := by decide +kernel
theorem dX8_drop_75 : decode cX8_drop 75 = .ok (.bipush 64, 2) := by decide +kernel
theorem dX8_drop_77 : decode cX8_drop 77 = .ok (.if_icmp .ge 36, 3) := by decide +kernel
theorem dX8_drop_80 : decode cX8_drop 80 = .ok (.iload 7, 2) := by decide +kernel
theorem dX8_drop_82 : decode cX8_drop 82 = .ok (.iload 8, 2) := by decide +kernel
theorem dX8_drop_84 : decode cX8_drop 84 = .ok (.iload_n 1, 1) := by decide +kernel
theorem dX8_drop_85 : decode cX8_drop 85 = .ok (.iload_n 2, 1) := by decide +kernel
theorem dX8_drop_86 : decode cX8_drop 86 = .ok (.invokestatic 87, 3) := by decide +kernel
theorem dX8_drop_89 : decode cX8_drop 89 = .ok (.iload 6, 2) := by decide +kernel
theorem dX8_drop_91 : decode cX8_drop 91 = .ok (.iload_n 1, 1) := by decide +kernel
theorem dX8_drop_92 : decode cX8_drop 92 = .ok (.iload_n 2, 1) := by decide +kernel
theorem dX8_drop_93 : decode cX8_drop 93 = .ok (.invokestatic 87, 3) := by decide +kernel
theorem dX8_drop_96 : decode cX8_drop 96 = .ok (.if_icmp .ge 7, 3) := by decide +kernel
theorem dX8_drop_99 : decode cX8_drop 99 = .ok (.iconst 1, 1) := by decide +kernel
theorem dX8_drop_100 : decode cX8_drop 100 = .ok (.goto 4, 3) := by decide +kernel
theorem dX8_drop_103 : decode cX8_drop 103 = .ok (.iconst 0, 1) := by decide +kernel
theorem dX8_drop_104 : decode cX8_drop 104 = .ok (.iadd, 1) := by decide +kernel
theorem dX8_drop_105 : decode cX8_drop 105 = .ok (.istore 7, 2) := by decide +kernel
theorem dX8_drop_107 : decode cX8_drop 107 = .ok (.iinc 8 1, 3) := by decide +kernel
theorem dX8_drop_110 : decode cX8_drop 110 = .ok (.goto (-37), 3) := by decide +kernel
theorem dX8_drop_113 : decode cX8_drop 113 = .ok (.iload 7, 2) := by decide +kernel
theorem dX8_drop_115 : decode cX8_drop 115 = .ok (.iload 4, 2) := by decide +kernel
theorem dX8_drop_117 : decode cX8_drop 117 = .ok (.if_icmp .ge 37, 3) := by decide +kernel
theorem dX8_drop_120 : decode cX8_drop 120 = .ok (.aload_n 0, 1) := by decide +kernel
theorem dX8_drop_121 : decode cX8_drop 121 = .ok (.getfield 7, 3) := by decide +kernel
theorem dX8_drop_124 : decode cX8_drop 124 = .ok (.iload 6, 2) := by decide +kernel
theorem dX8_drop_126 : decode cX8_drop 126 = .ok (.iaload, 1) := by decide +kernel
theorem dX8_drop_127 : decode cX8_drop 127 = .ok (.iload_n 3, 1) := by decide +kernel
theorem dX8_drop_128 : decode cX8_drop 128 = .ok (.iconst 1, 1) := by decide +kernel
theorem dX8_drop_129 : decode cX8_drop 129 = .ok (.iadd, 1) := by decide +kernel
theorem dX8_drop_130 : decode cX8_drop 130 = .ok (.if_icmp .gt 24, 3) := by decide +kernel
theorem dX8_drop_133 : decode cX8_drop 133 = .ok (.aload_n 0, 1) := by decide +kernel
theorem dX8_drop_134 : decode cX8_drop 134 = .ok (.getfield 7, 3) := by decide +kernel
theorem dX8_drop_137 : decode cX8_drop 137 = .ok (.iload 6, 2) := by decide +kernel
theorem dX8_drop_139 : decode cX8_drop 139 = .ok (.iload_n 3, 1) := by decide +kernel
theorem dX8_drop_140 : decode cX8_drop 140 = .ok (.iconst 1, 1) := by decide +kernel
theorem dX8_drop_141 : decode cX8_drop 141 = .ok (.iadd, 1) := by decide +kernel
theorem dX8_drop_142 : decode cX8_drop 142 = .ok (.iastore, 1) := by decide +kernel
theorem dX8_drop_143 : decode cX8_drop 143 = .ok (.aload_n 0, 1) := by decide +kernel
theorem dX8_drop_144 : decode cX8_drop 144 = .ok (.getfield 13, 3) := by decide +kernel
theorem dX8_drop_147 : decode cX8_drop 147 = .ok (.iload 6, 2) := by decide +kernel
theorem dX8_drop_149 : decode cX8_drop 149 = .ok (.iconst 2, 1) := by decide +kernel
theorem dX8_drop_150 : decode cX8_drop 150 = .ok (.iastore, 1) := by decide +kernel
theorem dX8_drop_151 : decode cX8_drop 151 = .ok (.iinc 5 1, 3) := by decide +kernel
theorem dX8_drop_154 : decode cX8_drop 154 = .ok (.iinc 6 1, 3) := by decide +kernel
theorem dX8_drop_157 : decode cX8_drop 157 = .ok (.goto (-97), 3) := by decide +kernel
theorem dX8_drop_160 : decode cX8_drop 160 = .ok (.iload 5, 2) := by decide +kernel
theorem dX8_drop_162 : decode cX8_drop 162 = .ok (.ireturn, 1) := by decide +kernel
theorem dX8_cellIn_0 : decode cX8_cellIn 0 = .ok (.iload_n 0, 1) := by decide +kernel
theorem dX8_cellIn_1 : decode cX8_cellIn 1 = .ok (.ifCond .eq 12, 3) := by decide +kernel
theorem dX8_cellIn_4 : decode cX8_cellIn 4 = .ok (.bipush 8, 2) := by decide +kernel
theorem dX8_cellIn_6 : decode cX8_cellIn 6 = .ok (.iload_n 1, 1) := by decide +kernel
theorem dX8_cellIn_7 : decode cX8_cellIn 7 = .ok (.imul, 1) := by decide +kernel
theorem dX8_cellIn_8 : decode cX8_cellIn 8 = .ok (.iload_n 2, 1) := by decide +kernel
theorem dX8_cellIn_9 : decode cX8_cellIn 9 = .ok (.iadd, 1) := by decide +kernel
theorem dX8_cellIn_10 : decode cX8_cellIn 10 = .ok (.goto 9, 3) := by decide +kernel
theorem dX8_cellIn_13 : decode cX8_cellIn 13 = .ok (.bipush 8, 2) := by decide +kernel
theorem dX8_cellIn_15 : decode cX8_cellIn 15 = .ok (.iload_n 2, 1) := by decide +kernel
theorem dX8_cellIn_16 : decode cX8_cellIn 16 = .ok (.imul, 1) := by decide +kernel
theorem dX8_cellIn_17 : decode cX8_cellIn 17 = .ok (.iload_n 1, 1) := by decide +kernel
theorem dX8_cellIn_18 : decode cX8_cellIn 18 = .ok (.iadd, 1) := by decide +kernel
theorem dX8_cellIn_19 : decode cX8_cellIn 19 = .ok (.ireturn, 1) := by decide +kernel
set_option maxRecDepth 20000 in
theorem ggX8_turns_X8_cellIn : GoodIn wsX8_turns wsX8_cellIn := goodIn_r _ [6] (by decide +kernel) (by decide +kernel)
set_option maxRecDepth 20000 in
theorem gX8_turns_X8_cellIn : GoodIn wsX8_turns (va_wsS RX8 91 yX8_cellIn wsX8_cellIn) := goodIn_app (goodIn_of _ (by decide +kernel)) ggX8_turns_X8_cellIn
theorem dX8_turns_0 : decode cX8_turns 0 = .ok (.aload_n 0, 1) := by decide +kernel
theorem dX8_turns_1 : decode cX8_turns 1 = .ok (.getfield 7, 3) := by decide +kernel
theorem dX8_turns_4 : decode cX8_turns 4 = .ok (.iload_n 1, 1) := by decide +kernel
theorem dX8_turns_5 : decode cX8_turns 5 = .ok (.iload_n 2, 1) := by decide +kernel
theorem dX8_turns_6 : decode cX8_turns 6 = .ok (.bipush 7, 2) := by decide +kernel
theorem dX8_turns_8 : decode cX8_turns 8 = .ok (.invokestatic 91, 3) := by decide +kernel
theorem dX8_turns_11 : decode cX8_turns 11 = .ok (.iaload, 1) := by decide +kernel
theorem dX8_turns_12 : decode cX8_turns 12 = .ok (.istore_n 3, 1) := by decide +kernel
theorem dX8_turns_13 : decode cX8_turns 13 = .ok (.aload_n 0, 1) := by decide +kernel
theorem dX8_turns_14 : decode cX8_turns 14 = .ok (.getfield 13, 3) := by decide +kernel
theorem dX8_turns_17 : decode cX8_turns 17 = .ok (.iload_n 1, 1) := by decide +kernel
theorem dX8_turns_18 : decode cX8_turns 18 = .ok (.iload_n 2, 1) := by decide +kernel
theorem dX8_turns_19 : decode cX8_turns 19 = .ok (.bipush 7, 2) := by decide +kernel
theorem dX8_turns_21 : decode cX8_turns 21 = .ok (.invokestatic 91, 3) := by decide +kernel
theorem dX8_turns_24 : decode cX8_turns 24 = .ok (.iaload, 1) := by decide +kernel
theorem dX8_turns_25 : decode cX8_turns 25 = .ok (.istore 4, 2) := by decide +kernel
theorem dX8_turns_27 : decode cX8_turns 27 = .ok (.bipush 7, 2) := by decide +kernel
theorem dX8_turns_29 : decode cX8_turns 29 = .ok (.istore 5, 2) := by decide +kernel
theorem dX8_turns_31 : decode cX8_turns 31 = .ok (.iload 5, 2) := by decide +kernel
theorem dX8_turns_33 : decode cX8_turns 33 = .ok (.ifCond .le 61, 3) := by decide +kernel
theorem dX8_turns_36 : decode cX8_turns 36 = .ok (.aload_n 0, 1) := by decide +kernel
theorem dX8_turns_37 : decode cX8_turns 37 = .ok (.getfield 7, 3) := by decide +kernel
theorem dX8_turns_40 : decode cX8_turns 40 = .ok (.iload_n 1, 1) := by decide +kernel
theorem dX8_turns_41 : decode cX8_turns 41 = .ok (.iload_n 2, 1) := by decide +kernel
theorem dX8_turns_42 : decode cX8_turns 42 = .ok (.iload 5, 2) := by decide +kernel
theorem dX8_turns_44 : decode cX8_turns 44 = .ok (.invokestatic 91, 3) := by decide +kernel
theorem dX8_turns_47 : decode cX8_turns 47 = .ok (.aload_n 0, 1) := by decide +kernel
theorem dX8_turns_48 : decode cX8_turns 48 = .ok (.getfield 7, 3) := by decide +kernel
theorem dX8_turns_51 : decode cX8_turns 51 = .ok (.iload_n 1, 1) := by decide +kernel
theorem dX8_turns_52 : decode cX8_turns 52 = .ok (.iload_n 2, 1) := by decide +kernel
theorem dX8_turns_53 : decode cX8_turns 53 = .ok (.iload 5, 2) := by decide +kernel
theorem dX8_turns_55 : decode cX8_turns 55 = .ok (.iconst 1, 1) := by decide +kernel
theorem dX8_turns_56 : decode cX8_turns 56 = .ok (.isub, 1) := by decide +kernel
theorem dX8_turns_57 : decode cX8_turns 57 = .ok (.invokestatic 91, 3) := by decide +kernel
theorem dX8_turns_60 : decode cX8_turns 60 = .ok (.iaload, 1) := by decide +kernel
theorem dX8_turns_61 : decode cX8_turns 61 = .ok (.iastore, 1) := by decide +kernel
theorem dX8_turns_62 : decode cX8_turns 62 = .ok (.aload_n 0, 1) := by decide +kernel
theorem dX8_turns_63 : decode cX8_turns 63 = .ok (.getfield 13, 3) := by decide +kernel
theorem dX8_turns_66 : decode cX8_turns 66 = .ok (.iload_n 1, 1) := by decide +kernel
theorem dX8_turns_67 : decode cX8_turns 67 = .ok (.iload_n 2, 1) := by decide +kernel
theorem dX8_turns_68 : decode cX8_turns 68 = .ok (.iload 5, 2) := by decide +kernel
theorem dX8_turns_70 : decode cX8_turns 70 = .ok (.invokestatic 91, 3) := by decide +kernel
theorem dX8_turns_73 : decode cX8_turns 73 = .ok (.aload_n 0, 1) := by decide +kernel
theorem dX8_turns_74 : decode cX8_turns 74 = .ok (.getfield 13, 3) := by decide +kernel
theorem dX8_turns_77 : decode cX8_turns 77 = .ok (.iload_n 1, 1) := by decide +kernel
theorem dX8_turns_78 : decode cX8_turns 78 = .ok (.iload_n 2, 1) := by decide +kernel
theorem dX8_turns_79 : decode cX8_turns 79 = .ok (.iload 5, 2) := by decide +kernel
theorem dX8_turns_81 : decode cX8_turns 81 = .ok (.iconst 1, 1) := by decide +kernel
theorem dX8_turns_82 : decode cX8_turns 82 = .ok (.isub, 1) := by decide +kernel
theorem dX8_turns_83 : decode cX8_turns 83 = .ok (.invokestatic 91, 3) := by decide +kernel
theorem dX8_turns_86 : decode cX8_turns 86 = .ok (.iaload, 1) := by decide +kernel
theorem dX8_turns_87 : decode cX8_turns 87 = .ok (.iastore, 1) := by decide +kernel
theorem dX8_turns_88 : decode cX8_turns 88 = .ok (.iinc 5 (-1), 3) := by decide +kernel
theorem dX8_turns_91 : decode cX8_turns 91 = .ok (.goto (-60), 3) := by decide +kernel
theorem dX8_turns_94 : decode cX8_turns 94 = .ok (.aload_n 0, 1) := by decide +kernel
theorem dX8_turns_95 : decode cX8_turns 95 = .ok (.getfield 7, 3) := by decide +kernel
theorem dX8_turns_98 : decode cX8_turns 98 = .ok (.iload_n 1, 1) := by decide +kernel
theorem dX8_turns_99 : decode cX8_turns 99 = .ok (.iload_n 2, 1) := by decide +kernel
theorem dX8_turns_100 : decode cX8_turns 100 = .ok (.iconst 0, 1) := by decide +kernel
theorem dX8_turns_101 : decode cX8_turns 101 = .ok (.invokestatic 91, 3) := by decide +kernel
theorem dX8_turns_104 : decode cX8_turns 104 = .ok (.iload_n 3, 1) := by decide +kernel
theorem dX8_turns_105 : decode cX8_turns 105 = .ok (.iastore, 1) := by decide +kernel
theorem dX8_turns_106 : decode cX8_turns 106 = .ok (.aload_n 0, 1) := by decide +kernel
theorem dX8_turns_107 : decode cX8_turns 107 = .ok (.getfield 13, 3) := by decide +kernel
theorem dX8_turns_110 : decode cX8_turns 110 = .ok (.iload_n 1, 1) := by decide +kernel
theorem dX8_turns_111 : decode cX8_turns 111 = .ok (.iload_n 2, 1) := by decide +kernel
theorem dX8_turns_112 : decode cX8_turns 112 = .ok (.iconst 0, 1) := by decide +kernel
theorem dX8_turns_113 : decode cX8_turns 113 = .ok (.invokestatic 91, 3) := by decide +kernel
theorem dX8_turns_116 : decode cX8_turns 116 = .ok (.iload 4, 2) := by decide +kernel
theorem dX8_turns_118 : decode cX8_turns 118 = .ok (.iastore, 1) := by decide +kernel
theorem dX8_turns_119 : decode cX8_turns 119 = .ok (.return_, 1) := by decide +kernel
set_option maxRecDepth 20000 in
theorem ggX8_comb_X8_isEdge : GoodIn wsX8_comb wsX8_isEdge := goodIn_r _ [5, 6, 7, 4, 8] (by decide +kernel) (by decide +kernel)
set_option maxRecDepth 20000 in
theorem gX8_comb_X8_isEdge : GoodIn wsX8_comb (va_wsS RX8 79 yX8_isEdge wsX8_isEdge) := goodIn_app (goodIn_of _ (by decide +kernel)) ggX8_comb_X8_isEdge
set_option maxRecDepth 20000 in
theorem ggX8_comb_X8_in : GoodIn wsX8_comb wsX8_in := goodIn_r _ [8] (by decide +kernel) (by decide +kernel)
set_option maxRecDepth 20000 in
theorem gX8_comb_X8_in : GoodIn wsX8_comb (va_wsS RX8 75 yX8_in wsX8_in) := goodIn_app (goodIn_of _ (by decide +kernel)) ggX8_comb_X8_in
set_option maxRecDepth 20000 in
theorem ggX8_comb_X8_goes : GoodIn wsX8_comb wsX8_goes := goodIn_r _ [12, 13, 22, 23, 24, 25, 26, 27, 28, 29, 30, 31, 32, 33, 34, 35, 36, 37, 38, 39, 40, 41, 42, 43, 44, 45, 46, 47, 48, 49] (by decide +kernel) (by decide +kernel)
set_option maxRecDepth 20000 in
theorem gX8_comb_X8_goes : GoodIn wsX8_comb (wsV RX8 83 RX8 yX8_goes wsX8_goes) := goodIn_app (goodIn_of _ (by decide +kernel)) ggX8_comb_X8_goes
set_option maxRecDepth 20000 in
theorem ggX8_comb_X8_turns : GoodIn wsX8_comb wsX8_turns := goodIn_r _ [17, 1, 18, 19, 20, 4, 21, 22, 23, 24, 25, 26, 27, 28, 29, 30, 31, 32, 33, 34, 35, 36, 37, 38, 39, 40, 41, 42, 43, 44, 45, 46, 47, 48, 49] (by decide +kernel) (by decide +kernel)
set_option maxRecDepth 20000 in
theorem gX8_comb_X8_turns : GoodIn wsX8_comb (wsV RX8 95 RX8 yX8_turns wsX8_turns) := goodIn_app (goodIn_of _ (by decide +kernel)) ggX8_comb_X8_turns
set_option maxRecDepth 20000 in
theorem ggX8_comb_X8_cellIn : GoodIn wsX8_comb wsX8_cellIn := goodIn_r _ [21] (by decide +kernel) (by decide +kernel)
set_option maxRecDepth 20000 in
theorem gX8_comb_X8_cellIn : GoodIn wsX8_comb (va_wsS RX8 91 yX8_cellIn wsX8_cellIn) := goodIn_app (goodIn_of _ (by decide +kernel)) ggX8_comb_X8_cellIn
theorem dX8_comb_0 : decode cX8_comb 0 = .ok (.aload_n 0, 1) := by decide +kernel
theorem dX8_comb_1 : decode cX8_comb 1 = .ok (.iload_n 2, 1) := by decide +kernel
theorem dX8_comb_2 : decode cX8_comb 2 = .ok (.invokestatic 79, 3) := by decide +kernel
theorem dX8_comb_5 : decode cX8_comb 5 = .ok (.iload_n 3, 1) := by decide +kernel
theorem dX8_comb_6 : decode cX8_comb 6 = .ok (.bipush (-7), 2) := by decide +kernel
theorem dX8_comb_8 : decode cX8_comb 8 = .ok (.bipush 7, 2) := by decide +kernel
theorem dX8_comb_10 : decode cX8_comb 10 = .ok (.invokestatic 75, 3) := by decide +kernel
theorem dX8_comb_13 : decode cX8_comb 13 = .ok (.iconst 1, 1) := by decide +kernel
theorem dX8_comb_14 : decode cX8_comb 14 = .ok (.invokevirtual 83, 3) := by decide +kernel
theorem dX8_comb_17 : decode cX8_comb 17 = .ok (.ifCond .ne 5, 3) := by decide +kernel
theorem dX8_comb_20 : decode cX8_comb 20 = .ok (.iconst 0, 1) := by decide +kernel
theorem dX8_comb_21 : decode cX8_comb 21 = .ok (.ireturn, 1) := by decide +kernel
theorem dX8_comb_22 : decode cX8_comb 22 = .ok (.iconst 0, 1) := by decide +kernel
theorem dX8_comb_23 : decode cX8_comb 23 = .ok (.istore 4, 2) := by decide +kernel
theorem dX8_comb_25 : decode cX8_comb 25 = .ok (.iload 4, 2) := by decide +kernel
theorem dX8_comb_27 : decode cX8_comb 27 = .ok (.iload_n 3, 1) := by decide +kernel
theorem dX8_comb_28 : decode cX8_comb 28 = .ok (.bipush 8, 2) := by decide +kernel
theorem dX8_comb_30 : decode cX8_comb 30 = .ok (.iadd, 1) := by decide +kernel
theorem dX8_comb_31 : decode cX8_comb 31 = .ok (.bipush 8, 2) := by decide +kernel
theorem dX8_comb_33 : decode cX8_comb 33 = .ok (.irem, 1) := by decide +kernel
theorem dX8_comb_34 : decode cX8_comb 34 = .ok (.if_icmp .ge 15, 3) := by decide +kernel
theorem dX8_comb_37 : decode cX8_comb 37 = .ok (.aload_n 0, 1) := by decide +kernel
theorem dX8_comb_38 : decode cX8_comb 38 = .ok (.iload_n 1, 1) := by decide +kernel
theorem dX8_comb_39 : decode cX8_comb 39 = .ok (.iload_n 2, 1) := by decide +kernel
theorem dX8_comb_40 : decode cX8_comb 40 = .ok (.invokevirtual 95, 3) := by decide +kernel
theorem dX8_comb_43 : decode cX8_comb 43 = .ok (.iinc 4 1, 3) := by decide +kernel
theorem dX8_comb_46 : decode cX8_comb 46 = .ok (.goto (-21), 3) := by decide +kernel
theorem dX8_comb_49 : decode cX8_comb 49 = .ok (.iconst 0, 1) := by decide +kernel
theorem dX8_comb_50 : decode cX8_comb 50 = .ok (.istore 4, 2) := by decide +kernel
theorem dX8_comb_52 : decode cX8_comb 52 = .ok (.iconst 0, 1) := by decide +kernel
theorem dX8_comb_53 : decode cX8_comb 53 = .ok (.istore 5, 2) := by decide +kernel
theorem dX8_comb_55 : decode cX8_comb 55 = .ok (.iload 5, 2) := by decide +kernel
theorem dX8_comb_57 : decode cX8_comb 57 = .ok (.bipush 8, 2) := by decide +kernel
theorem dX8_comb_59 : decode cX8_comb 59 = .ok (.if_icmp .ge 34, 3) := by decide +kernel
theorem dX8_comb_62 : decode cX8_comb 62 = .ok (.iload 4, 2) := by decide +kernel
theorem dX8_comb_64 : decode cX8_comb 64 = .ok (.aload_n 0, 1) := by decide +kernel
theorem dX8_comb_65 : decode cX8_comb 65 = .ok (.getfield 7, 3) := by decide +kernel
theorem dX8_comb_68 : decode cX8_comb 68 = .ok (.iload_n 1, 1) := by decide +kernel
theorem dX8_comb_69 : decode cX8_comb 69 = .ok (.iload_n 2, 1) := by decide +kernel
theorem dX8_comb_70 : decode cX8_comb 70 = .ok (.iload 5, 2) := by decide +kernel
theorem dX8_comb_72 : decode cX8_comb 72 = .ok (.invokestatic 91, 3) := by decide +kernel
theorem dX8_comb_75 : decode cX8_comb 75 = .ok (.iaload, 1) := by decide +kernel
theorem dX8_comb_76 : decode cX8_comb 76 = .ok (.ifCond .le 7, 3) := by decide +kernel
theorem dX8_comb_79 : decode cX8_comb 79 = .ok (.iconst 1, 1) := by decide +kernel
theorem dX8_comb_80 : decode cX8_comb 80 = .ok (.goto 4, 3) := by decide +kernel
theorem dX8_comb_83 : decode cX8_comb 83 = .ok (.iconst 0, 1) := by decide +kernel
theorem dX8_comb_84 : decode cX8_comb 84 = .ok (.iadd, 1) := by decide +kernel
theorem dX8_comb_85 : decode cX8_comb 85 = .ok (.istore 4, 2) := by decide +kernel
theorem dX8_comb_87 : decode cX8_comb 87 = .ok (.iinc 5 1, 3) := by decide +kernel
theorem dX8_comb_90 : decode cX8_comb 90 = .ok (.goto (-35), 3) := by decide +kernel
theorem dX8_comb_93 : decode cX8_comb 93 = .ok (.iload 4, 2) := by decide +kernel
theorem dX8_comb_95 : decode cX8_comb 95 = .ok (.ireturn, 1) := by decide +kernel
set_option maxRecDepth 20000 in
theorem ggX8_lift_X8_goes : GoodIn wsX8_lift wsX8_goes := goodIn_r _ [9, 10, 11, 12, 13, 14, 15, 16, 17, 18, 19, 20, 21, 22, 23, 24, 25, 26, 27, 28, 29, 30, 31, 32, 33, 34, 35, 36, 37, 38] (by decide +kernel) (by decide +kernel)
set_option maxRecDepth 20000 in
theorem gX8_lift_X8_goes : GoodIn wsX8_lift (wsV RX8 83 RX8 yX8_goes wsX8_goes) := goodIn_app (goodIn_of _ (by decide +kernel)) ggX8_lift_X8_goes
theorem dX8_lift_0 : decode cX8_lift 0 = .ok (.aload_n 0, 1) := by decide +kernel
theorem dX8_lift_1 : decode cX8_lift 1 = .ok (.aload_n 0, 1) := by decide +kernel
theorem dX8_lift_2 : decode cX8_lift 2 = .ok (.getfield 99, 3) := by decide +kernel
theorem dX8_lift_5 : decode cX8_lift 5 = .ok (.bipush 10, 2) := by decide +kernel
theorem dX8_lift_7 : decode cX8_lift 7 = .ok (.if_icmp .ge 7, 3) := by decide +kernel
theorem dX8_lift_10 : decode cX8_lift 10 = .ok (.iconst 1, 1) := by decide +kernel
theorem dX8_lift_11 : decode cX8_lift 11 = .ok (.goto 4, 3) := by decide +kernel
theorem dX8_lift_14 : decode cX8_lift 14 = .ok (.iconst 0, 1) := by decide +kernel
theorem dX8_lift_15 : decode cX8_lift 15 = .ok (.iconst 1, 1) := by decide +kernel
theorem dX8_lift_16 : decode cX8_lift 16 = .ok (.iconst 1, 1) := by decide +kernel
theorem dX8_lift_17 : decode cX8_lift 17 = .ok (.invokevirtual 83, 3) := by decide +kernel
theorem dX8_lift_20 : decode cX8_lift 20 = .ok (.ifCond .ne 5, 3) := by decide +kernel
theorem dX8_lift_23 : decode cX8_lift 23 = .ok (.iconst 0, 1) := by decide +kernel
theorem dX8_lift_24 : decode cX8_lift 24 = .ok (.ireturn, 1) := by decide +kernel
theorem dX8_lift_25 : decode cX8_lift 25 = .ok (.iconst 0, 1) := by decide +kernel
theorem dX8_lift_26 : decode cX8_lift 26 = .ok (.istore_n 1, 1) := by decide +kernel
theorem dX8_lift_27 : decode cX8_lift 27 = .ok (.iload_n 1, 1) := by decide +kernel
theorem dX8_lift_28 : decode cX8_lift 28 = .ok (.bipush 64, 2) := by decide +kernel
theorem dX8_lift_30 : decode cX8_lift 30 = .ok (.if_icmp .ge 77, 3) := by decide +kernel
theorem dX8_lift_33 : decode cX8_lift 33 = .ok (.aload_n 0, 1) := by decide +kernel
theorem dX8_lift_34 : decode cX8_lift 34 = .ok (.getfield 16, 3) := by decide +kernel
theorem dX8_lift_37 : decode cX8_lift 37 = .ok (.bipush 64, 2) := by decide +kernel
theorem dX8_lift_39 : decode cX8_lift 39 = .ok (.aload_n 0, 1) := by decide +kernel
theorem dX8_lift_40 : decode cX8_lift 40 = .ok (.getfield 99, 3) := by decide +kernel
theorem dX8_lift_43 : decode cX8_lift 43 = .ok (.imul, 1) := by decide +kernel
theorem dX8_lift_44 : decode cX8_lift 44 = .ok (.iload_n 1, 1) := by decide +kernel
theorem dX8_lift_45 : decode cX8_lift 45 = .ok (.iadd, 1) := by decide +kernel
theorem dX8_lift_46 : decode cX8_lift 46 = .ok (.aload_n 0, 1) := by decide +kernel
theorem dX8_lift_47 : decode cX8_lift 47 = .ok (.getfield 7, 3) := by decide +kernel
theorem dX8_lift_50 : decode cX8_lift 50 = .ok (.iload_n 1, 1) := by decide +kernel
theorem dX8_lift_51 : decode cX8_lift 51 = .ok (.iaload, 1) := by decide +kernel
theorem dX8_lift_52 : decode cX8_lift 52 = .ok (.iastore, 1) := by decide +kernel
theorem dX8_lift_53 : decode cX8_lift 53 = .ok (.aload_n 0, 1) := by decide +kernel
theorem dX8_lift_54 : decode cX8_lift 54 = .ok (.getfield 13, 3) := by decide +kernel
theorem dX8_lift_57 : decode cX8_lift 57 = .ok (.iload_n 1, 1) := by decide +kernel
theorem dX8_lift_58 : decode cX8_lift 58 = .ok (.dup2, 1) := by decide +kernel
theorem dX8_lift_59 : decode cX8_lift 59 = .ok (.iaload, 1) := by decide +kernel
theorem dX8_lift_60 : decode cX8_lift 60 = .ok (.aload_n 0, 1) := by decide +kernel
theorem dX8_lift_61 : decode cX8_lift 61 = .ok (.getfield 7, 3) := by decide +kernel
theorem dX8_lift_64 : decode cX8_lift 64 = .ok (.iload_n 1, 1) := by decide +kernel
theorem dX8_lift_65 : decode cX8_lift 65 = .ok (.iaload, 1) := by decide +kernel
theorem dX8_lift_66 : decode cX8_lift 66 = .ok (.ifCond .le 7, 3) := by decide +kernel
theorem dX8_lift_69 : decode cX8_lift 69 = .ok (.iconst 1, 1) := by decide +kernel
theorem dX8_lift_70 : decode cX8_lift 70 = .ok (.goto 4, 3) := by decide +kernel
theorem dX8_lift_73 : decode cX8_lift 73 = .ok (.iconst 0, 1) := by decide +kernel
theorem dX8_lift_74 : decode cX8_lift 74 = .ok (.isub, 1) := by decide +kernel
theorem dX8_lift_75 : decode cX8_lift 75 = .ok (.iastore, 1) := by decide +kernel
theorem dX8_lift_76 : decode cX8_lift 76 = .ok (.aload_n 0, 1) := by decide +kernel
theorem dX8_lift_77 : decode cX8_lift 77 = .ok (.getfield 7, 3) := by decide +kernel
theorem dX8_lift_80 : decode cX8_lift 80 = .ok (.iload_n 1, 1) := by decide +kernel
theorem dX8_lift_81 : decode cX8_lift 81 = .ok (.aload_n 0, 1) := by decide +kernel
theorem dX8_lift_82 : decode cX8_lift 82 = .ok (.getfield 13, 3) := by decide +kernel
theorem dX8_lift_85 : decode cX8_lift 85 = .ok (.iload_n 1, 1) := by decide +kernel
theorem dX8_lift_86 : decode cX8_lift 86 = .ok (.iaload, 1) := by decide +kernel
theorem dX8_lift_87 : decode cX8_lift 87 = .ok (.ifCond .le 12, 3) := by decide +kernel
theorem dX8_lift_90 : decode cX8_lift 90 = .ok (.aload_n 0, 1) := by decide +kernel
theorem dX8_lift_91 : decode cX8_lift 91 = .ok (.getfield 7, 3) := by decide +kernel
theorem dX8_lift_94 : decode cX8_lift 94 = .ok (.iload_n 1, 1) := by decide +kernel
theorem dX8_lift_95 : decode cX8_lift 95 = .ok (.iaload, 1) := by decide +kernel
theorem dX8_lift_96 : decode cX8_lift 96 = .ok (.goto 4, 3) := by decide +kernel
theorem dX8_lift_99 : decode cX8_lift 99 = .ok (.iconst 0, 1) := by decide +kernel
theorem dX8_lift_100 : decode cX8_lift 100 = .ok (.iastore, 1) := by decide +kernel
theorem dX8_lift_101 : decode cX8_lift 101 = .ok (.iinc 1 1, 3) := by decide +kernel
theorem dX8_lift_104 : decode cX8_lift 104 = .ok (.goto (-77), 3) := by decide +kernel
theorem dX8_lift_107 : decode cX8_lift 107 = .ok (.aload_n 0, 1) := by decide +kernel
theorem dX8_lift_108 : decode cX8_lift 108 = .ok (.dup, 1) := by decide +kernel
theorem dX8_lift_109 : decode cX8_lift 109 = .ok (.getfield 99, 3) := by decide +kernel
theorem dX8_lift_112 : decode cX8_lift 112 = .ok (.iconst 1, 1) := by decide +kernel
theorem dX8_lift_113 : decode cX8_lift 113 = .ok (.iadd, 1) := by decide +kernel
theorem dX8_lift_114 : decode cX8_lift 114 = .ok (.putfield 99, 3) := by decide +kernel
theorem dX8_lift_117 : decode cX8_lift 117 = .ok (.aload_n 0, 1) := by decide +kernel
theorem dX8_lift_118 : decode cX8_lift 118 = .ok (.getfield 99, 3) := by decide +kernel
theorem dX8_lift_121 : decode cX8_lift 121 = .ok (.iconst 1, 1) := by decide +kernel
theorem dX8_lift_122 : decode cX8_lift 122 = .ok (.isub, 1) := by decide +kernel
theorem dX8_lift_123 : decode cX8_lift 123 = .ok (.ireturn, 1) := by decide +kernel
theorem dX8_clean_0 : decode cX8_clean 0 = .ok (.aload_n 0, 1) := by decide +kernel
theorem dX8_clean_1 : decode cX8_clean 1 = .ok (.iconst 0, 1) := by decide +kernel
theorem dX8_clean_2 : decode cX8_clean 2 = .ok (.putfield 71, 3) := by decide +kernel
theorem dX8_clean_5 : decode cX8_clean 5 = .ok (.iconst 0, 1) := by decide +kernel
theorem dX8_clean_6 : decode cX8_clean 6 = .ok (.istore_n 1, 1) := by decide +kernel
theorem dX8_clean_7 : decode cX8_clean 7 = .ok (.iconst 0, 1) := by decide +kernel
theorem dX8_clean_8 : decode cX8_clean 8 = .ok (.istore_n 2, 1) := by decide +kernel
theorem dX8_clean_9 : decode cX8_clean 9 = .ok (.iload_n 2, 1) := by decide +kernel
theorem dX8_clean_10 : decode cX8_clean 10 = .ok (.bipush 64, 2) := by decide +kernel
theorem dX8_clean_12 : decode cX8_clean 12 = .ok (.if_icmp .ge 40, 3) := by decide +kernel
theorem dX8_clean_15 : decode cX8_clean 15 = .ok (.iload_n 1, 1) := by decide +kernel
theorem dX8_clean_16 : decode cX8_clean 16 = .ok (.aload_n 0, 1) := by decide +kernel
theorem dX8_clean_17 : decode cX8_clean 17 = .ok (.getfield 7, 3) := by decide +kernel
theorem dX8_clean_20 : decode cX8_clean 20 = .ok (.iload_n 2, 1) := by decide +kernel
theorem dX8_clean_21 : decode cX8_clean 21 = .ok (.iaload, 1) := by decide +kernel
theorem dX8_clean_22 : decode cX8_clean 22 = .ok (.ifCond .le 7, 3) := by decide +kernel
theorem dX8_clean_25 : decode cX8_clean 25 = .ok (.iconst 1, 1) := by decide +kernel
theorem dX8_clean_26 : decode cX8_clean 26 = .ok (.goto 4, 3) := by decide +kernel
theorem dX8_clean_29 : decode cX8_clean 29 = .ok (.iconst 0, 1) := by decide +kernel
theorem dX8_clean_30 : decode cX8_clean 30 = .ok (.iadd, 1) := by decide +kernel
theorem dX8_clean_31 : decode cX8_clean 31 = .ok (.istore_n 1, 1) := by decide +kernel
theorem dX8_clean_32 : decode cX8_clean 32 = .ok (.aload_n 0, 1) := by decide +kernel
theorem dX8_clean_33 : decode cX8_clean 33 = .ok (.getfield 7, 3) := by decide +kernel
theorem dX8_clean_36 : decode cX8_clean 36 = .ok (.iload_n 2, 1) := by decide +kernel
theorem dX8_clean_37 : decode cX8_clean 37 = .ok (.iconst 0, 1) := by decide +kernel
theorem dX8_clean_38 : decode cX8_clean 38 = .ok (.iastore, 1) := by decide +kernel
theorem dX8_clean_39 : decode cX8_clean 39 = .ok (.aload_n 0, 1) := by decide +kernel
theorem dX8_clean_40 : decode cX8_clean 40 = .ok (.getfield 13, 3) := by decide +kernel
theorem dX8_clean_43 : decode cX8_clean 43 = .ok (.iload_n 2, 1) := by decide +kernel
theorem dX8_clean_44 : decode cX8_clean 44 = .ok (.iconst 0, 1) := by decide +kernel
theorem dX8_clean_45 : decode cX8_clean 45 = .ok (.iastore, 1) := by decide +kernel
theorem dX8_clean_46 : decode cX8_clean 46 = .ok (.iinc 2 1, 3) := by decide +kernel
theorem dX8_clean_49 : decode cX8_clean 49 = .ok (.goto (-40), 3) := by decide +kernel
theorem dX8_clean_52 : decode cX8_clean 52 = .ok (.iload_n 1, 1) := by decide +kernel
theorem dX8_clean_53 : decode cX8_clean 53 = .ok (.ireturn, 1) := by decide +kernel
set_option maxRecDepth 20000 in
theorem ggX8_cellAt_X8_isEdge : GoodIn wsX8_cellAt wsX8_isEdge := goodIn_r _ [6, 7, 8, 5, 9] (by decide +kernel) (by decide +kernel)
set_option maxRecDepth 20000 in
theorem gX8_cellAt_X8_isEdge : GoodIn wsX8_cellAt (va_wsS RX8 79 yX8_isEdge wsX8_isEdge) := goodIn_app (goodIn_of _ (by decide +kernel)) ggX8_cellAt_X8_isEdge
set_option maxRecDepth 20000 in
theorem ggX8_cellAt_X8_in : GoodIn wsX8_cellAt wsX8_in := goodIn_r _ [9] (by decide +kernel) (by decide +kernel)
set_option maxRecDepth 20000 in
theorem gX8_cellAt_X8_in : GoodIn wsX8_cellAt (va_wsS RX8 75 yX8_in wsX8_in) := goodIn_app (goodIn_of _ (by decide +kernel)) ggX8_cellAt_X8_in
set_option maxRecDepth 20000 in
theorem ggX8_cellAt_X8_goes : GoodIn wsX8_cellAt wsX8_goes := goodIn_r _ [13, 14, 15, 16, 17, 18, 19, 20, 21, 22, 23, 24, 25, 26, 27, 28, 29, 30, 31, 32, 33, 34, 35, 36, 37, 38, 39, 40, 41, 42] (by decide +kernel) (by decide +kernel)
set_option maxRecDepth 20000 in
theorem gX8_cellAt_X8_goes : GoodIn wsX8_cellAt (wsV RX8 83 RX8 yX8_goes wsX8_goes) := goodIn_app (goodIn_of _ (by decide +kernel)) ggX8_cellAt_X8_goes
theorem dX8_cellAt_0 : decode cX8_cellAt 0 = .ok (.aload_n 0, 1) := by decide +kernel
theorem dX8_cellAt_1 : decode cX8_cellAt 1 = .ok (.iload_n 1, 1) := by decide +kernel
theorem dX8_cellAt_2 : decode cX8_cellAt 2 = .ok (.invokestatic 79, 3) := by decide +kernel
theorem dX8_cellAt_5 : decode cX8_cellAt 5 = .ok (.ifCond .eq 14, 3) := by decide +kernel
theorem dX8_cellAt_8 : decode cX8_cellAt 8 = .ok (.iload_n 2, 1) := by decide +kernel
theorem dX8_cellAt_9 : decode cX8_cellAt 9 = .ok (.invokestatic 79, 3) := by decide +kernel
theorem dX8_cellAt_12 : decode cX8_cellAt 12 = .ok (.ifCond .eq 7, 3) := by decide +kernel
theorem dX8_cellAt_15 : decode cX8_cellAt 15 = .ok (.iconst 1, 1) := by decide +kernel
theorem dX8_cellAt_16 : decode cX8_cellAt 16 = .ok (.goto 4, 3) := by decide +kernel
theorem dX8_cellAt_19 : decode cX8_cellAt 19 = .ok (.iconst 0, 1) := by decide +kernel
theorem dX8_cellAt_20 : decode cX8_cellAt 20 = .ok (.iload_n 3, 1) := by decide +kernel
theorem dX8_cellAt_21 : decode cX8_cellAt 21 = .ok (.iconst 0, 1) := by decide +kernel
theorem dX8_cellAt_22 : decode cX8_cellAt 22 = .ok (.iconst 1, 1) := by decide +kernel
theorem dX8_cellAt_23 : decode cX8_cellAt 23 = .ok (.invokestatic 75, 3) := by decide +kernel
theorem dX8_cellAt_26 : decode cX8_cellAt 26 = .ok (.iconst 1, 1) := by decide +kernel
theorem dX8_cellAt_27 : decode cX8_cellAt 27 = .ok (.invokevirtual 83, 3) := by decide +kernel
theorem dX8_cellAt_30 : decode cX8_cellAt 30 = .ok (.ifCond .ne 5, 3) := by decide +kernel
theorem dX8_cellAt_33 : decode cX8_cellAt 33 = .ok (.iconst 0, 1) := by decide +kernel
theorem dX8_cellAt_34 : decode cX8_cellAt 34 = .ok (.ireturn, 1) := by decide +kernel
theorem dX8_cellAt_35 : decode cX8_cellAt 35 = .ok (.iload_n 3, 1) := by decide +kernel
theorem dX8_cellAt_36 : decode cX8_cellAt 36 = .ok (.ifCond .ne 19, 3) := by decide +kernel
theorem dX8_cellAt_39 : decode cX8_cellAt 39 = .ok (.aload_n 0, 1) := by decide +kernel
theorem dX8_cellAt_40 : decode cX8_cellAt 40 = .ok (.getfield 7, 3) := by decide +kernel
theorem dX8_cellAt_43 : decode cX8_cellAt 43 = .ok (.bipush 8, 2) := by decide +kernel
theorem dX8_cellAt_45 : decode cX8_cellAt 45 = .ok (.iload_n 2, 1) := by decide +kernel
theorem dX8_cellAt_46 : decode cX8_cellAt 46 = .ok (.imul, 1) := by decide +kernel
theorem dX8_cellAt_47 : decode cX8_cellAt 47 = .ok (.iload_n 1, 1) := by decide +kernel
theorem dX8_cellAt_48 : decode cX8_cellAt 48 = .ok (.iadd, 1) := by decide +kernel
theorem dX8_cellAt_49 : decode cX8_cellAt 49 = .ok (.iaload, 1) := by decide +kernel
theorem dX8_cellAt_50 : decode cX8_cellAt 50 = .ok (.iconst 1, 1) := by decide +kernel
theorem dX8_cellAt_51 : decode cX8_cellAt 51 = .ok (.isub, 1) := by decide +kernel
theorem dX8_cellAt_52 : decode cX8_cellAt 52 = .ok (.goto 14, 3) := by decide +kernel
theorem dX8_cellAt_55 : decode cX8_cellAt 55 = .ok (.aload_n 0, 1) := by decide +kernel
theorem dX8_cellAt_56 : decode cX8_cellAt 56 = .ok (.getfield 13, 3) := by decide +kernel
theorem dX8_cellAt_59 : decode cX8_cellAt 59 = .ok (.bipush 8, 2) := by decide +kernel
theorem dX8_cellAt_61 : decode cX8_cellAt 61 = .ok (.iload_n 2, 1) := by decide +kernel
theorem dX8_cellAt_62 : decode cX8_cellAt 62 = .ok (.imul, 1) := by decide +kernel
theorem dX8_cellAt_63 : decode cX8_cellAt 63 = .ok (.iload_n 1, 1) := by decide +kernel
theorem dX8_cellAt_64 : decode cX8_cellAt 64 = .ok (.iadd, 1) := by decide +kernel
theorem dX8_cellAt_65 : decode cX8_cellAt 65 = .ok (.iaload, 1) := by decide +kernel
theorem dX8_cellAt_66 : decode cX8_cellAt 66 = .ok (.ireturn, 1) := by decide +kernel
set_option maxRecDepth 20000 in
theorem ggX8_isPrint_X8_in : GoodIn wsX8_isPrint wsX8_in := goodIn_r _ [5] (by decide +kernel) (by decide +kernel)
set_option maxRecDepth 20000 in
theorem gX8_isPrint_X8_in : GoodIn wsX8_isPrint (va_wsS RX8 75 yX8_in wsX8_in) := goodIn_app (goodIn_of _ (by decide +kernel)) ggX8_isPrint_X8_in
theorem dX8_isPrint_0 : decode cX8_isPrint 0 = .ok (.iload_n 1, 1) := by decide +kernel
theorem dX8_isPrint_1 : decode cX8_isPrint 1 = .ok (.iconst 0, 1) := by decide +kernel
theorem dX8_isPrint_2 : decode cX8_isPrint 2 = .ok (.aload_n 0, 1) := by decide +kernel
theorem dX8_isPrint_3 : decode cX8_isPrint 3 = .ok (.getfield 99, 3) := by decide +kernel
theorem dX8_isPrint_6 : decode cX8_isPrint 6 = .ok (.iconst 1, 1) := by decide +kernel
theorem dX8_isPrint_7 : decode cX8_isPrint 7 = .ok (.isub, 1) := by decide +kernel
theorem dX8_isPrint_8 : decode cX8_isPrint 8 = .ok (.invokestatic 75, 3) := by decide +kernel
theorem dX8_isPrint_11 : decode cX8_isPrint 11 = .ok (.ireturn, 1) := by decide +kernel
set_option maxRecDepth 20000 in
theorem ggX8_printAt_X8_isPrint : GoodIn wsX8_printAt wsX8_isPrint := goodIn_r _ [6, 7, 8, 9, 5, 10, 19, 20, 21, 22, 23, 24, 25, 26, 27, 28, 29, 30, 31, 32, 33, 34, 35, 36, 37, 38, 39, 40, 41, 42, 43, 44, 45, 46] (by decide +kernel) (by decide +kernel)
set_option maxRecDepth 20000 in
theorem gX8_printAt_X8_isPrint : GoodIn wsX8_printAt (wsV RX8 102 RX8 yX8_isPrint wsX8_isPrint) := goodIn_app (goodIn_of _ (by decide +kernel)) ggX8_printAt_X8_isPrint
set_option maxRecDepth 20000 in
theorem ggX8_printAt_X8_isEdge : GoodIn wsX8_printAt wsX8_isEdge := goodIn_r _ [13, 8, 9, 5, 10] (by decide +kernel) (by decide +kernel)
set_option maxRecDepth 20000 in
theorem gX8_printAt_X8_isEdge : GoodIn wsX8_printAt (va_wsS RX8 79 yX8_isEdge wsX8_isEdge) := goodIn_app (goodIn_of _ (by decide +kernel)) ggX8_printAt_X8_isEdge
set_option maxRecDepth 20000 in
theorem ggX8_printAt_X8_goes : GoodIn wsX8_printAt wsX8_goes := goodIn_r _ [17, 18, 19, 20, 21, 22, 23, 24, 25, 26, 27, 28, 29, 30, 31, 32, 33, 34, 35, 36, 37, 38, 39, 40, 41, 42, 43, 44, 45, 46] (by decide +kernel) (by decide +kernel)
set_option maxRecDepth 20000 in
theorem gX8_printAt_X8_goes : GoodIn wsX8_printAt (wsV RX8 83 RX8 yX8_goes wsX8_goes) := goodIn_app (goodIn_of _ (by decide +kernel)) ggX8_printAt_X8_goes
theorem dX8_printAt_0 : decode cX8_printAt 0 = .ok (.aload_n 0, 1) := by decide +kernel
theorem dX8_printAt_1 : decode cX8_printAt 1 = .ok (.aload_n 0, 1) := by decide +kernel
theorem dX8_printAt_2 : decode cX8_printAt 2 = .ok (.iload_n 1, 1) := by decide +kernel
theorem dX8_printAt_3 : decode cX8_printAt 3 = .ok (.invokevirtual 102, 3) := by decide +kernel
theorem dX8_printAt_6 : decode cX8_printAt 6 = .ok (.ifCond .eq 21, 3) := by decide +kernel
theorem dX8_printAt_9 : decode cX8_printAt 9 = .ok (.iload_n 2, 1) := by decide +kernel
theorem dX8_printAt_10 : decode cX8_printAt 10 = .ok (.invokestatic 79, 3) := by decide +kernel
theorem dX8_printAt_13 : decode cX8_printAt 13 = .ok (.ifCond .eq 14, 3) := by decide +kernel
theorem dX8_printAt_16 : decode cX8_printAt 16 = .ok (.iload_n 3, 1) := by decide +kernel
theorem dX8_printAt_17 : decode cX8_printAt 17 = .ok (.invokestatic 79, 3) := by decide +kernel
theorem dX8_printAt_20 : decode cX8_printAt 20 = .ok (.ifCond .eq 7, 3) := by decide +kernel
theorem dX8_printAt_23 : decode cX8_printAt 23 = .ok (.iconst 1, 1) := by decide +kernel
theorem dX8_printAt_24 : decode cX8_printAt 24 = .ok (.goto 4, 3) := by decide +kernel
theorem dX8_printAt_27 : decode cX8_printAt 27 = .ok (.iconst 0, 1) := by decide +kernel
theorem dX8_printAt_28 : decode cX8_printAt 28 = .ok (.iconst 1, 1) := by decide +kernel
theorem dX8_printAt_29 : decode cX8_printAt 29 = .ok (.iconst 1, 1) := by decide +kernel
theorem dX8_printAt_30 : decode cX8_printAt 30 = .ok (.invokevirtual 83, 3) := by decide +kernel
theorem dX8_printAt_33 : decode cX8_printAt 33 = .ok (.ifCond .eq 24, 3) := by decide +kernel
theorem dX8_printAt_36 : decode cX8_printAt 36 = .ok (.aload_n 0, 1) := by decide +kernel
theorem dX8_printAt_37 : decode cX8_printAt 37 = .ok (.getfield 16, 3) := by decide +kernel
theorem dX8_printAt_40 : decode cX8_printAt 40 = .ok (.bipush 64, 2) := by decide +kernel
theorem dX8_printAt_42 : decode cX8_printAt 42 = .ok (.iload_n 1, 1) := by decide +kernel
theorem dX8_printAt_43 : decode cX8_printAt 43 = .ok (.imul, 1) := by decide +kernel
theorem dX8_printAt_44 : decode cX8_printAt 44 = .ok (.bipush 8, 2) := by decide +kernel
theorem dX8_printAt_46 : decode cX8_printAt 46 = .ok (.iload_n 3, 1) := by decide +kernel
theorem dX8_printAt_47 : decode cX8_printAt 47 = .ok (.imul, 1) := by decide +kernel
theorem dX8_printAt_48 : decode cX8_printAt 48 = .ok (.iadd, 1) := by decide +kernel
theorem dX8_printAt_49 : decode cX8_printAt 49 = .ok (.iload_n 2, 1) := by decide +kernel
theorem dX8_printAt_50 : decode cX8_printAt 50 = .ok (.iadd, 1) := by decide +kernel
theorem dX8_printAt_51 : decode cX8_printAt 51 = .ok (.iaload, 1) := by decide +kernel
theorem dX8_printAt_52 : decode cX8_printAt 52 = .ok (.iconst 1, 1) := by decide +kernel
theorem dX8_printAt_53 : decode cX8_printAt 53 = .ok (.isub, 1) := by decide +kernel
theorem dX8_printAt_54 : decode cX8_printAt 54 = .ok (.goto 4, 3) := by decide +kernel
theorem dX8_printAt_57 : decode cX8_printAt 57 = .ok (.iconst 0, 1) := by decide +kernel
theorem dX8_printAt_58 : decode cX8_printAt 58 = .ok (.ireturn, 1) := by decide +kernel
set_option maxRecDepth 20000 in
theorem ggX8_count_X8_isPrint : GoodIn wsX8_count wsX8_isPrint := goodIn_r _ [6, 7, 8, 9, 5, 10, 16, 17, 18, 19, 20, 21, 22, 23, 24, 25, 26, 27, 28, 29, 30, 31, 32, 33, 34, 35, 36, 37, 38, 39, 40, 41, 42, 43] (by decide +kernel) (by decide +kernel)
set_option maxRecDepth 20000 in
theorem gX8_count_X8_isPrint : GoodIn wsX8_count (wsV RX8 102 RX8 yX8_isPrint wsX8_isPrint) := goodIn_app (goodIn_of _ (by decide +kernel)) ggX8_count_X8_isPrint
set_option maxRecDepth 20000 in
theorem ggX8_count_X8_in : GoodIn wsX8_count wsX8_in := goodIn_r _ [10] (by decide +kernel) (by decide +kernel)
set_option maxRecDepth 20000 in
theorem gX8_count_X8_in : GoodIn wsX8_count (va_wsS RX8 75 yX8_in wsX8_in) := goodIn_app (goodIn_of _ (by decide +kernel)) ggX8_count_X8_in
set_option maxRecDepth 20000 in
theorem ggX8_count_X8_goes : GoodIn wsX8_count wsX8_goes := goodIn_r _ [14, 15, 16, 17, 18, 19, 20, 21, 22, 23, 24, 25, 26, 27, 28, 29, 30, 31, 32, 33, 34, 35, 36, 37, 38, 39, 40, 41, 42, 43] (by decide +kernel) (by decide +kernel)
set_option maxRecDepth 20000 in
theorem gX8_count_X8_goes : GoodIn wsX8_count (wsV RX8 83 RX8 yX8_goes wsX8_goes) := goodIn_app (goodIn_of _ (by decide +kernel)) ggX8_count_X8_goes
theorem dX8_count_0 : decode cX8_count 0 = .ok (.aload_n 0, 1) := by decide +kernel
theorem dX8_count_1 : decode cX8_count 1 = .ok (.aload_n 0, 1) := by decide +kernel
theorem dX8_count_2 : decode cX8_count 2 = .ok (.iload_n 1, 1) := by decide +kernel
theorem dX8_count_3 : decode cX8_count 3 = .ok (.invokevirtual 102, 3) := by decide +kernel
theorem dX8_count_6 : decode cX8_count 6 = .ok (.iload_n 2, 1) := by decide +kernel
theorem dX8_count_7 : decode cX8_count 7 = .ok (.iconst (-1), 1) := by decide +kernel
theorem dX8_count_8 : decode cX8_count 8 = .ok (.iconst 5, 1) := by decide +kernel
theorem dX8_count_9 : decode cX8_count 9 = .ok (.invokestatic 75, 3) := by decide +kernel
theorem dX8_count_12 : decode cX8_count 12 = .ok (.iconst 1, 1) := by decide +kernel
theorem dX8_count_13 : decode cX8_count 13 = .ok (.invokevirtual 83, 3) := by decide +kernel
theorem dX8_count_16 : decode cX8_count 16 = .ok (.ifCond .ne 5, 3) := by decide +kernel
theorem dX8_count_19 : decode cX8_count 19 = .ok (.iconst 0, 1) := by decide +kernel
theorem dX8_count_20 : decode cX8_count 20 = .ok (.ireturn, 1) := by decide +kernel
theorem dX8_count_21 : decode cX8_count 21 = .ok (.iconst 0, 1) := by decide +kernel
theorem dX8_count_22 : decode cX8_count 22 = .ok (.istore_n 3, 1) := by decide +kernel
theorem dX8_count_23 : decode cX8_count 23 = .ok (.bipush 64, 2) := by decide +kernel
theorem dX8_count_25 : decode cX8_count 25 = .ok (.iload_n 1, 1) := by decide +kernel
theorem dX8_count_26 : decode cX8_count 26 = .ok (.imul, 1) := by decide +kernel
theorem dX8_count_27 : decode cX8_count 27 = .ok (.istore 4, 2) := by decide +kernel
theorem dX8_count_29 : decode cX8_count 29 = .ok (.iload 4, 2) := by decide +kernel
theorem dX8_count_31 : decode cX8_count 31 = .ok (.bipush 64, 2) := by decide +kernel
theorem dX8_count_33 : decode cX8_count 33 = .ok (.iload_n 1, 1) := by decide +kernel
theorem dX8_count_34 : decode cX8_count 34 = .ok (.imul, 1) := by decide +kernel
theorem dX8_count_35 : decode cX8_count 35 = .ok (.bipush 64, 2) := by decide +kernel
theorem dX8_count_37 : decode cX8_count 37 = .ok (.iadd, 1) := by decide +kernel
theorem dX8_count_38 : decode cX8_count 38 = .ok (.if_icmp .ge 30, 3) := by decide +kernel
theorem dX8_count_41 : decode cX8_count 41 = .ok (.iload_n 3, 1) := by decide +kernel
theorem dX8_count_42 : decode cX8_count 42 = .ok (.aload_n 0, 1) := by decide +kernel
theorem dX8_count_43 : decode cX8_count 43 = .ok (.getfield 16, 3) := by decide +kernel
theorem dX8_count_46 : decode cX8_count 46 = .ok (.iload 4, 2) := by decide +kernel
theorem dX8_count_48 : decode cX8_count 48 = .ok (.iaload, 1) := by decide +kernel
theorem dX8_count_49 : decode cX8_count 49 = .ok (.iload_n 2, 1) := by decide +kernel
theorem dX8_count_50 : decode cX8_count 50 = .ok (.iconst 1, 1) := by decide +kernel
theorem dX8_count_51 : decode cX8_count 51 = .ok (.iadd, 1) := by decide +kernel
theorem dX8_count_52 : decode cX8_count 52 = .ok (.if_icmp .ne 7, 3) := by decide +kernel
theorem dX8_count_55 : decode cX8_count 55 = .ok (.iconst 1, 1) := by decide +kernel
theorem dX8_count_56 : decode cX8_count 56 = .ok (.goto 4, 3) := by decide +kernel
theorem dX8_count_59 : decode cX8_count 59 = .ok (.iconst 0, 1) := by decide +kernel
theorem dX8_count_60 : decode cX8_count 60 = .ok (.iadd, 1) := by decide +kernel
theorem dX8_count_61 : decode cX8_count 61 = .ok (.istore_n 3, 1) := by decide +kernel
theorem dX8_count_62 : decode cX8_count 62 = .ok (.iinc 4 1, 3) := by decide +kernel
theorem dX8_count_65 : decode cX8_count 65 = .ok (.goto (-36), 3) := by decide +kernel
theorem dX8_count_68 : decode cX8_count 68 = .ok (.iload_n 3, 1) := by decide +kernel
theorem dX8_count_69 : decode cX8_count 69 = .ok (.ireturn, 1) := by decide +kernel
theorem dX8_columnsOf_0 : decode cX8_columnsOf 0 = .ok (.iload_n 0, 1) := by decide +kernel
theorem dX8_columnsOf_1 : decode cX8_columnsOf 1 = .ok (.iconst 3, 1) := by decide +kernel
theorem dX8_columnsOf_2 : decode cX8_columnsOf 2 = .ok (.if_icmp .ge 7, 3) := by decide +kernel
theorem dX8_columnsOf_5 : decode cX8_columnsOf 5 = .ok (.iconst 2, 1) := by decide +kernel
theorem dX8_columnsOf_6 : decode cX8_columnsOf 6 = .ok (.goto 4, 3) := by decide +kernel
theorem dX8_columnsOf_9 : decode cX8_columnsOf 9 = .ok (.iconst 4, 1) := by decide +kernel
theorem dX8_columnsOf_10 : decode cX8_columnsOf 10 = .ok (.ireturn, 1) := by decide +kernel
theorem dX8_rowsOf_0 : decode cX8_rowsOf 0 = .ok (.iload_n 0, 1) := by decide +kernel
theorem dX8_rowsOf_1 : decode cX8_rowsOf 1 = .ok (.iconst 1, 1) := by decide +kernel
theorem dX8_rowsOf_2 : decode cX8_rowsOf 2 = .ok (.if_icmp .ne 7, 3) := by decide +kernel
theorem dX8_rowsOf_5 : decode cX8_rowsOf 5 = .ok (.iconst 1, 1) := by decide +kernel
theorem dX8_rowsOf_6 : decode cX8_rowsOf 6 = .ok (.goto 13, 3) := by decide +kernel
theorem dX8_rowsOf_9 : decode cX8_rowsOf 9 = .ok (.iload_n 0, 1) := by decide +kernel
theorem dX8_rowsOf_10 : decode cX8_rowsOf 10 = .ok (.iconst 4, 1) := by decide +kernel
theorem dX8_rowsOf_11 : decode cX8_rowsOf 11 = .ok (.if_icmp .ge 7, 3) := by decide +kernel
theorem dX8_rowsOf_14 : decode cX8_rowsOf 14 = .ok (.iconst 2, 1) := by decide +kernel
theorem dX8_rowsOf_15 : decode cX8_rowsOf 15 = .ok (.goto 4, 3) := by decide +kernel
theorem dX8_rowsOf_18 : decode cX8_rowsOf 18 = .ok (.iconst 4, 1) := by decide +kernel
theorem dX8_rowsOf_19 : decode cX8_rowsOf 19 = .ok (.ireturn, 1) := by decide +kernel
set_option maxRecDepth 20000 in
theorem ggX8_layerOf_X8_columnsOf : GoodIn wsX8_layerOf wsX8_columnsOf := goodIn_r _ [4] (by decide +kernel) (by decide +kernel)
set_option maxRecDepth 20000 in
theorem gX8_layerOf_X8_columnsOf : GoodIn wsX8_layerOf (va_wsS RX8 105 yX8_columnsOf wsX8_columnsOf) := goodIn_app (goodIn_of _ (by decide +kernel)) ggX8_layerOf_X8_columnsOf
set_option maxRecDepth 20000 in
theorem ggX8_layerOf_X8_rowsOf : GoodIn wsX8_layerOf wsX8_rowsOf := goodIn_r _ [7] (by decide +kernel) (by decide +kernel)
set_option maxRecDepth 20000 in
theorem gX8_layerOf_X8_rowsOf : GoodIn wsX8_layerOf (va_wsS RX8 109 yX8_rowsOf wsX8_rowsOf) := goodIn_app (goodIn_of _ (by decide +kernel)) ggX8_layerOf_X8_rowsOf
theorem dX8_layerOf_0 : decode cX8_layerOf 0 = .ok (.iload_n 1, 1) := by decide +kernel
theorem dX8_layerOf_1 : decode cX8_layerOf 1 = .ok (.istore_n 3, 1) := by decide +kernel
theorem dX8_layerOf_2 : decode cX8_layerOf 2 = .ok (.iload_n 2, 1) := by decide +kernel
theorem dX8_layerOf_3 : decode cX8_layerOf 3 = .ok (.istore 4, 2) := by decide +kernel
theorem dX8_layerOf_5 : decode cX8_layerOf 5 = .ok (.iload_n 0, 1) := by decide +kernel
theorem dX8_layerOf_6 : decode cX8_layerOf 6 = .ok (.invokestatic 105, 3) := by decide +kernel
theorem dX8_layerOf_9 : decode cX8_layerOf 9 = .ok (.istore 5, 2) := by decide +kernel
theorem dX8_layerOf_11 : decode cX8_layerOf 11 = .ok (.iload_n 0, 1) := by decide +kernel
theorem dX8_layerOf_12 : decode cX8_layerOf 12 = .ok (.invokestatic 109, 3) := by decide +kernel
theorem dX8_layerOf_15 : decode cX8_layerOf 15 = .ok (.istore 6, 2) := by decide +kernel
theorem dX8_layerOf_17 : decode cX8_layerOf 17 = .ok (.iconst 0, 1) := by decide +kernel
theorem dX8_layerOf_18 : decode cX8_layerOf 18 = .ok (.istore 7, 2) := by decide +kernel
theorem dX8_layerOf_20 : decode cX8_layerOf 20 = .ok (.iconst 1, 1) := by decide +kernel
theorem dX8_layerOf_21 : decode cX8_layerOf 21 = .ok (.istore 8, 2) := by decide +kernel
theorem dX8_layerOf_23 : decode cX8_layerOf 23 = .ok (.iconst 0, 1) := by decide +kernel
theorem dX8_layerOf_24 : decode cX8_layerOf 24 = .ok (.istore 9, 2) := by decide +kernel
theorem dX8_layerOf_26 : decode cX8_layerOf 26 = .ok (.iconst 0, 1) := by decide +kernel
theorem dX8_layerOf_27 : decode cX8_layerOf 27 = .ok (.istore 10, 2) := by decide +kernel
theorem dX8_layerOf_29 : decode cX8_layerOf 29 = .ok (.iload 10, 2) := by decide +kernel
theorem dX8_layerOf_31 : decode cX8_layerOf 31 = .ok (.iload_n 0, 1) := by decide +kernel
theorem dX8_layerOf_32 : decode cX8_layerOf 32 = .ok (.if_icmp .ge 177, 3) := by decide +kernel
theorem dX8_layerOf_35 : decode cX8_layerOf 35 = .ok (.iload 10, 2) := by decide +kernel
theorem dX8_layerOf_37 : decode cX8_layerOf 37 = .ok (.iconst 2, 1) := by decide +kernel
theorem dX8_layerOf_38 : decode cX8_layerOf 38 = .ok (.irem, 1) := by decide +kernel
theorem dX8_layerOf_39 : decode cX8_layerOf 39 = .ok (.ifCond .ne 19, 3) := by decide +kernel
theorem dX8_layerOf_42 : decode cX8_layerOf 42 = .ok (.iload_n 3, 1) := by decide +kernel
theorem dX8_layerOf_43 : decode cX8_layerOf 43 = .ok (.iload 5, 2) := by decide +kernel
theorem dX8_layerOf_45 : decode cX8_layerOf 45 = .ok (.iconst 2, 1) := by decide +kernel
theorem dX8_layerOf_46 : decode cX8_layerOf 46 = .ok (.idiv, 1) := by decide +kernel
theorem dX8_layerOf_47 : decode cX8_layerOf 47 = .ok (.if_icmp .lt 7, 3) := by decide +kernel
theorem dX8_layerOf_50 : decode cX8_layerOf 50 = .ok (.iconst 1, 1) := by decide +kernel
theorem dX8_layerOf_51 : decode cX8_layerOf 51 = .ok (.goto 21, 3) := by decide +kernel
theorem dX8_layerOf_54 : decode cX8_layerOf 54 = .ok (.iconst 0, 1) := by decide +kernel
theorem dX8_layerOf_55 : decode cX8_layerOf 55 = .ok (.goto 17, 3) := by decide +kernel
theorem dX8_layerOf_58 : decode cX8_layerOf 58 = .ok (.iload 4, 2) := by decide +kernel
theorem dX8_layerOf_60 : decode cX8_layerOf 60 = .ok (.iload 6, 2) := by decide +kernel
theorem dX8_layerOf_62 : decode cX8_layerOf 62 = .ok (.iconst 2, 1) := by decide +kernel
theorem dX8_layerOf_63 : decode cX8_layerOf 63 = .ok (.idiv, 1) := by decide +kernel
theorem dX8_layerOf_64 : decode cX8_layerOf 64 = .ok (.if_icmp .lt 7, 3) := by decide +kernel
theorem dX8_layerOf_67 : decode cX8_layerOf 67 = .ok (.iconst 1, 1) := by decide +kernel
theorem dX8_layerOf_68 : decode cX8_layerOf 68 = .ok (.goto 4, 3) := by decide +kernel
theorem dX8_layerOf_71 : decode cX8_layerOf 71 = .ok (.iconst 0, 1) := by decide +kernel
theorem dX8_layerOf_72 : decode cX8_layerOf 72 = .ok (.istore 11, 2) := by decide +kernel
theorem dX8_layerOf_74 : decode cX8_layerOf 74 = .ok (.iload 11, 2) := by decide +kernel
theorem dX8_layerOf_76 : decode cX8_layerOf 76 = .ok (.ifCond .eq 19, 3) := by decide +kernel
theorem dX8_layerOf_79 : decode cX8_layerOf 79 = .ok (.iload 10, 2) := by decide +kernel
theorem dX8_layerOf_81 : decode cX8_layerOf 81 = .ok (.iconst 2, 1) := by decide +kernel
theorem dX8_layerOf_82 : decode cX8_layerOf 82 = .ok (.irem, 1) := by decide +kernel
theorem dX8_layerOf_83 : decode cX8_layerOf 83 = .ok (.ifCond .ne 12, 3) := by decide +kernel
theorem dX8_layerOf_86 : decode cX8_layerOf 86 = .ok (.iload 5, 2) := by decide +kernel
theorem dX8_layerOf_88 : decode cX8_layerOf 88 = .ok (.iconst 1, 1) := by decide +kernel
theorem dX8_layerOf_89 : decode cX8_layerOf 89 = .ok (.isub, 1) := by decide +kernel
theorem dX8_layerOf_90 : decode cX8_layerOf 90 = .ok (.iload_n 3, 1) := by decide +kernel
theorem dX8_layerOf_91 : decode cX8_layerOf 91 = .ok (.isub, 1) := by decide +kernel
theorem dX8_layerOf_92 : decode cX8_layerOf 92 = .ok (.goto 4, 3) := by decide +kernel
theorem dX8_layerOf_95 : decode cX8_layerOf 95 = .ok (.iload_n 3, 1) := by decide +kernel
theorem dX8_layerOf_96 : decode cX8_layerOf 96 = .ok (.istore_n 3, 1) := by decide +kernel
theorem dX8_layerOf_97 : decode cX8_layerOf 97 = .ok (.iload 11, 2) := by decide +kernel
theorem dX8_layerOf_99 : decode cX8_layerOf 99 = .ok (.ifCond .eq 21, 3) := by decide +kernel
theorem dX8_layerOf_102 : decode cX8_layerOf 102 = .ok (.iload 10, 2) := by decide +kernel
theorem dX8_layerOf_104 : decode cX8_layerOf 104 = .ok (.iconst 2, 1) := by decide +kernel
theorem dX8_layerOf_105 : decode cX8_layerOf 105 = .ok (.irem, 1) := by decide +kernel
theorem dX8_layerOf_106 : decode cX8_layerOf 106 = .ok (.iconst 1, 1) := by decide +kernel
theorem dX8_layerOf_107 : decode cX8_layerOf 107 = .ok (.if_icmp .ne 13, 3) := by decide +kernel
theorem dX8_layerOf_110 : decode cX8_layerOf 110 = .ok (.iload 6, 2) := by decide +kernel
theorem dX8_layerOf_112 : decode cX8_layerOf 112 = .ok (.iconst 1, 1) := by decide +kernel
theorem dX8_layerOf_113 : decode cX8_layerOf 113 = .ok (.isub, 1) := by decide +kernel
theorem dX8_layerOf_114 : decode cX8_layerOf 114 = .ok (.iload 4, 2) := by decide +kernel
theorem dX8_layerOf_116 : decode cX8_layerOf 116 = .ok (.isub, 1) := by decide +kernel
theorem dX8_layerOf_117 : decode cX8_layerOf 117 = .ok (.goto 5, 3) := by decide +kernel
theorem dX8_layerOf_120 : decode cX8_layerOf 120 = .ok (.iload 4, 2) := by decide +kernel
theorem dX8_layerOf_122 : decode cX8_layerOf 122 = .ok (.istore 4, 2) := by decide +kernel
theorem dX8_layerOf_124 : decode cX8_layerOf 124 = .ok (.iload 11, 2) := by decide +kernel
theorem dX8_layerOf_126 : decode cX8_layerOf 126 = .ok (.ifCond .eq 13, 3) := by decide +kernel
theorem dX8_layerOf_129 : decode cX8_layerOf 129 = .ok (.iload 8, 2) := by decide +kernel
theorem dX8_layerOf_131 : decode cX8_layerOf 131 = .ok (.iconst 1, 1) := by decide +kernel
theorem dX8_layerOf_132 : decode cX8_layerOf 132 = .ok (.isub, 1) := by decide +kernel
theorem dX8_layerOf_133 : decode cX8_layerOf 133 = .ok (.iload 7, 2) := by decide +kernel
theorem dX8_layerOf_135 : decode cX8_layerOf 135 = .ok (.isub, 1) := by decide +kernel
theorem dX8_layerOf_136 : decode cX8_layerOf 136 = .ok (.goto 8, 3) := by decide +kernel
theorem dX8_layerOf_139 : decode cX8_layerOf 139 = .ok (.iload 8, 2) := by decide +kernel
theorem dX8_layerOf_141 : decode cX8_layerOf 141 = .ok (.iload 7, 2) := by decide +kernel
theorem dX8_layerOf_143 : decode cX8_layerOf 143 = .ok (.iadd, 1) := by decide +kernel
theorem dX8_layerOf_144 : decode cX8_layerOf 144 = .ok (.istore 7, 2) := by decide +kernel
theorem dX8_layerOf_146 : decode cX8_layerOf 146 = .ok (.iload 11, 2) := by decide +kernel
theorem dX8_layerOf_148 : decode cX8_layerOf 148 = .ok (.iload 9, 2) := by decide +kernel
theorem dX8_layerOf_150 : decode cX8_layerOf 150 = .ok (.if_icmp .eq 7, 3) := by decide +kernel
theorem dX8_layerOf_153 : decode cX8_layerOf 153 = .ok (.iconst 1, 1) := by decide +kernel
theorem dX8_layerOf_154 : decode cX8_layerOf 154 = .ok (.goto 4, 3) := by decide +kernel
theorem dX8_layerOf_157 : decode cX8_layerOf 157 = .ok (.iconst 0, 1) := by decide +kernel
theorem dX8_layerOf_158 : decode cX8_layerOf 158 = .ok (.istore 9, 2) := by decide +kernel
theorem dX8_layerOf_160 : decode cX8_layerOf 160 = .ok (.iload 10, 2) := by decide +kernel
theorem dX8_layerOf_162 : decode cX8_layerOf 162 = .ok (.iconst 2, 1) := by decide +kernel
theorem dX8_layerOf_163 : decode cX8_layerOf 163 = .ok (.irem, 1) := by decide +kernel
theorem dX8_layerOf_164 : decode cX8_layerOf 164 = .ok (.ifCond .ne 10, 3) := by decide +kernel
theorem dX8_layerOf_167 : decode cX8_layerOf 167 = .ok (.iload 5, 2) := by decide +kernel
theorem dX8_layerOf_169 : decode cX8_layerOf 169 = .ok (.iconst 2, 1) := by decide +kernel
theorem dX8_layerOf_170 : decode cX8_layerOf 170 = .ok (.idiv, 1) := by decide +kernel
theorem dX8_layerOf_171 : decode cX8_layerOf 171 = .ok (.goto 5, 3) := by decide +kernel
theorem dX8_layerOf_174 : decode cX8_layerOf 174 = .ok (.iload 5, 2) := by decide +kernel
theorem dX8_layerOf_176 : decode cX8_layerOf 176 = .ok (.istore 5, 2) := by decide +kernel
theorem dX8_layerOf_178 : decode cX8_layerOf 178 = .ok (.iload 10, 2) := by decide +kernel
theorem dX8_layerOf_180 : decode cX8_layerOf 180 = .ok (.iconst 2, 1) := by decide +kernel
theorem dX8_layerOf_181 : decode cX8_layerOf 181 = .ok (.irem, 1) := by decide +kernel
theorem dX8_layerOf_182 : decode cX8_layerOf 182 = .ok (.iconst 1, 1) := by decide +kernel
theorem dX8_layerOf_183 : decode cX8_layerOf 183 = .ok (.if_icmp .ne 10, 3) := by decide +kernel
theorem dX8_layerOf_186 : decode cX8_layerOf 186 = .ok (.iload 6, 2) := by decide +kernel
theorem dX8_layerOf_188 : decode cX8_layerOf 188 = .ok (.iconst 2, 1) := by decide +kernel
theorem dX8_layerOf_189 : decode cX8_layerOf 189 = .ok (.idiv, 1) := by decide +kernel
theorem dX8_layerOf_190 : decode cX8_layerOf 190 = .ok (.goto 5, 3) := by decide +kernel
theorem dX8_layerOf_193 : decode cX8_layerOf 193 = .ok (.iload 6, 2) := by decide +kernel
theorem dX8_layerOf_195 : decode cX8_layerOf 195 = .ok (.istore 6, 2) := by decide +kernel
theorem dX8_layerOf_197 : decode cX8_layerOf 197 = .ok (.iload 8, 2) := by decide +kernel
theorem dX8_layerOf_199 : decode cX8_layerOf 199 = .ok (.iconst 2, 1) := by decide +kernel
theorem dX8_layerOf_200 : decode cX8_layerOf 200 = .ok (.imul, 1) := by decide +kernel
theorem dX8_layerOf_201 : decode cX8_layerOf 201 = .ok (.istore 8, 2) := by decide +kernel
theorem dX8_layerOf_203 : decode cX8_layerOf 203 = .ok (.iinc 10 1, 3) := by decide +kernel
theorem dX8_layerOf_206 : decode cX8_layerOf 206 = .ok (.goto (-177), 3) := by decide +kernel
theorem dX8_layerOf_209 : decode cX8_layerOf 209 = .ok (.iconst 2, 1) := by decide +kernel
theorem dX8_layerOf_210 : decode cX8_layerOf 210 = .ok (.iload 7, 2) := by decide +kernel
theorem dX8_layerOf_212 : decode cX8_layerOf 212 = .ok (.imul, 1) := by decide +kernel
theorem dX8_layerOf_213 : decode cX8_layerOf 213 = .ok (.iload 9, 2) := by decide +kernel
theorem dX8_layerOf_215 : decode cX8_layerOf 215 = .ok (.ifCond .eq 7, 3) := by decide +kernel
theorem dX8_layerOf_218 : decode cX8_layerOf 218 = .ok (.iconst 1, 1) := by decide +kernel
theorem dX8_layerOf_219 : decode cX8_layerOf 219 = .ok (.goto 4, 3) := by decide +kernel
theorem dX8_layerOf_222 : decode cX8_layerOf 222 = .ok (.iconst 0, 1) := by decide +kernel
theorem dX8_layerOf_223 : decode cX8_layerOf 223 = .ok (.iadd, 1) := by decide +kernel
theorem dX8_layerOf_224 : decode cX8_layerOf 224 = .ok (.ireturn, 1) := by decide +kernel
set_option maxRecDepth 20000 in
theorem ggX8_pageOf_X8_layerOf : GoodIn wsX8_pageOf wsX8_layerOf := goodIn_r _ [4, 5, 6, 3, 7, 8, 9, 10] (by decide +kernel) (by decide +kernel)
set_option maxRecDepth 20000 in
theorem gX8_pageOf_X8_layerOf : GoodIn wsX8_pageOf (va_wsS RX8 112 yX8_layerOf wsX8_layerOf) := goodIn_app (goodIn_of _ (by decide +kernel)) ggX8_pageOf_X8_layerOf
theorem dX8_pageOf_0 : decode cX8_pageOf 0 = .ok (.iload_n 0, 1) := by decide +kernel
theorem dX8_pageOf_1 : decode cX8_pageOf 1 = .ok (.iload_n 2, 1) := by decide +kernel
theorem dX8_pageOf_2 : decode cX8_pageOf 2 = .ok (.iload_n 3, 1) := by decide +kernel
theorem dX8_pageOf_3 : decode cX8_pageOf 3 = .ok (.invokestatic 112, 3) := by decide +kernel
theorem dX8_pageOf_6 : decode cX8_pageOf 6 = .ok (.istore 4, 2) := by decide +kernel
theorem dX8_pageOf_8 : decode cX8_pageOf 8 = .ok (.iload_n 1, 1) := by decide +kernel
theorem dX8_pageOf_9 : decode cX8_pageOf 9 = .ok (.iload 4, 2) := by decide +kernel
theorem dX8_pageOf_11 : decode cX8_pageOf 11 = .ok (.iconst 2, 1) := by decide +kernel
theorem dX8_pageOf_12 : decode cX8_pageOf 12 = .ok (.irem, 1) := by decide +kernel
theorem dX8_pageOf_13 : decode cX8_pageOf 13 = .ok (.iconst 1, 1) := by decide +kernel
theorem dX8_pageOf_14 : decode cX8_pageOf 14 = .ok (.if_icmp .ne 7, 3) := by decide +kernel
theorem dX8_pageOf_17 : decode cX8_pageOf 17 = .ok (.iconst 1, 1) := by decide +kernel
theorem dX8_pageOf_18 : decode cX8_pageOf 18 = .ok (.goto 4, 3) := by decide +kernel
theorem dX8_pageOf_21 : decode cX8_pageOf 21 = .ok (.iconst 0, 1) := by decide +kernel
theorem dX8_pageOf_22 : decode cX8_pageOf 22 = .ok (.if_icmp .ne 7, 3) := by decide +kernel
theorem dX8_pageOf_25 : decode cX8_pageOf 25 = .ok (.iconst 1, 1) := by decide +kernel
theorem dX8_pageOf_26 : decode cX8_pageOf 26 = .ok (.goto 4, 3) := by decide +kernel
theorem dX8_pageOf_29 : decode cX8_pageOf 29 = .ok (.iconst 0, 1) := by decide +kernel
theorem dX8_pageOf_30 : decode cX8_pageOf 30 = .ok (.istore 5, 2) := by decide +kernel
theorem dX8_pageOf_32 : decode cX8_pageOf 32 = .ok (.iload 4, 2) := by decide +kernel
theorem dX8_pageOf_34 : decode cX8_pageOf 34 = .ok (.iconst 2, 1) := by decide +kernel
theorem dX8_pageOf_35 : decode cX8_pageOf 35 = .ok (.idiv, 1) := by decide +kernel
theorem dX8_pageOf_36 : decode cX8_pageOf 36 = .ok (.iconst 2, 1) := by decide +kernel
theorem dX8_pageOf_37 : decode cX8_pageOf 37 = .ok (.imul, 1) := by decide +kernel
theorem dX8_pageOf_38 : decode cX8_pageOf 38 = .ok (.iload 5, 2) := by decide +kernel
theorem dX8_pageOf_40 : decode cX8_pageOf 40 = .ok (.ifCond .eq 7, 3) := by decide +kernel
theorem dX8_pageOf_43 : decode cX8_pageOf 43 = .ok (.iconst 1, 1) := by decide +kernel
theorem dX8_pageOf_44 : decode cX8_pageOf 44 = .ok (.goto 4, 3) := by decide +kernel
theorem dX8_pageOf_47 : decode cX8_pageOf 47 = .ok (.iconst 2, 1) := by decide +kernel
theorem dX8_pageOf_48 : decode cX8_pageOf 48 = .ok (.iadd, 1) := by decide +kernel
theorem dX8_pageOf_49 : decode cX8_pageOf 49 = .ok (.ireturn, 1) := by decide +kernel
set_option maxRecDepth 20000 in
theorem ggX8_pageAt_X8_in : GoodIn wsX8_pageAt wsX8_in := goodIn_r _ [4] (by decide +kernel) (by decide +kernel)
set_option maxRecDepth 20000 in
theorem gX8_pageAt_X8_in : GoodIn wsX8_pageAt (va_wsS RX8 75 yX8_in wsX8_in) := goodIn_app (goodIn_of _ (by decide +kernel)) ggX8_pageAt_X8_in
set_option maxRecDepth 20000 in
theorem ggX8_pageAt_X8_columnsOf : GoodIn wsX8_pageAt wsX8_columnsOf := goodIn_r _ [7] (by decide +kernel) (by decide +kernel)
set_option maxRecDepth 20000 in
theorem gX8_pageAt_X8_columnsOf : GoodIn wsX8_pageAt (va_wsS RX8 105 yX8_columnsOf wsX8_columnsOf) := goodIn_app (goodIn_of _ (by decide +kernel)) ggX8_pageAt_X8_columnsOf
set_option maxRecDepth 20000 in
theorem ggX8_pageAt_X8_rowsOf : GoodIn wsX8_pageAt wsX8_rowsOf := goodIn_r _ [10] (by decide +kernel) (by decide +kernel)
set_option maxRecDepth 20000 in
theorem gX8_pageAt_X8_rowsOf : GoodIn wsX8_pageAt (va_wsS RX8 109 yX8_rowsOf wsX8_rowsOf) := goodIn_app (goodIn_of _ (by decide +kernel)) ggX8_pageAt_X8_rowsOf
set_option maxRecDepth 20000 in
theorem ggX8_pageAt_X8_goes : GoodIn wsX8_pageAt wsX8_goes := goodIn_r _ [14, 15, 22, 23, 24, 25, 26, 27, 28, 29, 30, 31, 32, 33, 34, 35, 36, 37, 38, 39, 40, 41, 42, 43, 44, 45, 46, 47, 48, 49] (by decide +kernel) (by decide +kernel)
set_option maxRecDepth 20000 in
theorem gX8_pageAt_X8_goes : GoodIn wsX8_pageAt (wsV RX8 83 RX8 yX8_goes wsX8_goes) := goodIn_app (goodIn_of _ (by decide +kernel)) ggX8_pageAt_X8_goes
set_option maxRecDepth 20000 in
theorem ggX8_pageAt_X8_pageOf : GoodIn wsX8_pageAt wsX8_pageOf := goodIn_r _ [18, 19, 20, 3, 21, 5, 6, 7, 8, 9, 10] (by decide +kernel) (by decide +kernel)
set_option maxRecDepth 20000 in
theorem gX8_pageAt_X8_pageOf : GoodIn wsX8_pageAt (va_wsS RX8 115 yX8_pageOf wsX8_pageOf) := goodIn_app (goodIn_of _ (by decide +kernel)) ggX8_pageAt_X8_pageOf
theorem dX8_pageAt_0 : decode cX8_pageAt 0 = .ok (.iload_n 1, 1) := by decide +kernel
theorem dX8_pageAt_1 : decode cX8_pageAt 1 = .ok (.iconst 1, 1) := by decide +kernel
theorem dX8_pageAt_2 : decode cX8_pageAt 2 = .ok (.iconst 4, 1) := by decide +kernel
theorem dX8_pageAt_3 : decode cX8_pageAt 3 = .ok (.invokestatic 75, 3) := by decide +kernel
theorem dX8_pageAt_6 : decode cX8_pageAt 6 = .ok (.ifCond .eq 36, 3) := by decide +kernel
theorem dX8_pageAt_9 : decode cX8_pageAt 9 = .ok (.iload_n 3, 1) := by decide +kernel
theorem dX8_pageAt_10 : decode cX8_pageAt 10 = .ok (.iconst 0, 1) := by decide +kernel
theorem dX8_pageAt_11 : decode cX8_pageAt 11 = .ok (.iload_n 1, 1) := by decide +kernel
theorem dX8_pageAt_12 : decode cX8_pageAt 12 = .ok (.invokestatic 105, 3) := by decide +kernel
theorem dX8_pageAt_15 : decode cX8_pageAt 15 = .ok (.iconst 1, 1) := by decide +kernel
theorem dX8_pageAt_16 : decode cX8_pageAt 16 = .ok (.isub, 1) := by decide +kernel
theorem dX8_pageAt_17 : decode cX8_pageAt 17 = .ok (.invokestatic 75, 3) := by decide +kernel
theorem dX8_pageAt_20 : decode cX8_pageAt 20 = .ok (.ifCond .eq 22, 3) := by decide +kernel
theorem dX8_pageAt_23 : decode cX8_pageAt 23 = .ok (.iload 4, 2) := by decide +kernel
theorem dX8_pageAt_25 : decode cX8_pageAt 25 = .ok (.iconst 0, 1) := by decide +kernel
theorem dX8_pageAt_26 : decode cX8_pageAt 26 = .ok (.iload_n 1, 1) := by decide +kernel
theorem dX8_pageAt_27 : decode cX8_pageAt 27 = .ok (.invokestatic 109, 3) := by decide +kernel
theorem dX8_pageAt_30 : decode cX8_pageAt 30 = .ok (.iconst 1, 1) := by decide +kernel
theorem dX8_pageAt_31 : decode cX8_pageAt 31 = .ok (.isub, 1) := by decide +kernel
theorem dX8_pageAt_32 : decode cX8_pageAt 32 = .ok (.invokestatic 75, 3) := by decide +kernel
theorem dX8_pageAt_35 : decode cX8_pageAt 35 = .ok (.ifCond .eq 7, 3) := by decide +kernel
theorem dX8_pageAt_38 : decode cX8_pageAt 38 = .ok (.iconst 1, 1) := by decide +kernel
theorem dX8_pageAt_39 : decode cX8_pageAt 39 = .ok (.goto 4, 3) := by decide +kernel
theorem dX8_pageAt_42 : decode cX8_pageAt 42 = .ok (.iconst 0, 1) := by decide +kernel
theorem dX8_pageAt_43 : decode cX8_pageAt 43 = .ok (.istore 5, 2) := by decide +kernel
theorem dX8_pageAt_45 : decode cX8_pageAt 45 = .ok (.aload_n 0, 1) := by decide +kernel
theorem dX8_pageAt_46 : decode cX8_pageAt 46 = .ok (.iload 5, 2) := by decide +kernel
theorem dX8_pageAt_48 : decode cX8_pageAt 48 = .ok (.iconst 1, 1) := by decide +kernel
theorem dX8_pageAt_49 : decode cX8_pageAt 49 = .ok (.iconst 1, 1) := by decide +kernel
theorem dX8_pageAt_50 : decode cX8_pageAt 50 = .ok (.invokevirtual 83, 3) := by decide +kernel
theorem dX8_pageAt_53 : decode cX8_pageAt 53 = .ok (.ifCond .eq 14, 3) := by decide +kernel
theorem dX8_pageAt_56 : decode cX8_pageAt 56 = .ok (.iload_n 1, 1) := by decide +kernel
theorem dX8_pageAt_57 : decode cX8_pageAt 57 = .ok (.iload_n 2, 1) := by decide +kernel
theorem dX8_pageAt_58 : decode cX8_pageAt 58 = .ok (.iload_n 3, 1) := by decide +kernel
theorem dX8_pageAt_59 : decode cX8_pageAt 59 = .ok (.iload 4, 2) := by decide +kernel
theorem dX8_pageAt_61 : decode cX8_pageAt 61 = .ok (.invokestatic 115, 3) := by decide +kernel
theorem dX8_pageAt_64 : decode cX8_pageAt 64 = .ok (.goto 4, 3) := by decide +kernel
theorem dX8_pageAt_67 : decode cX8_pageAt 67 = .ok (.iconst 0, 1) := by decide +kernel
theorem dX8_pageAt_68 : decode cX8_pageAt 68 = .ok (.ireturn, 1) := by decide +kernel
set_option maxRecDepth 20000 in
theorem ggX8_placeOf_X8_in : GoodIn wsX8_placeOf wsX8_in := goodIn_r _ [4] (by decide +kernel) (by decide +kernel)
set_option maxRecDepth 20000 in
theorem gX8_placeOf_X8_in : GoodIn wsX8_placeOf (va_wsS RX8 75 yX8_in wsX8_in) := goodIn_app (goodIn_of _ (by decide +kernel)) ggX8_placeOf_X8_in
set_option maxRecDepth 20000 in
theorem ggX8_placeOf_X8_columnsOf : GoodIn wsX8_placeOf wsX8_columnsOf := goodIn_r _ [7] (by decide +kernel) (by decide +kernel)
set_option maxRecDepth 20000 in
theorem gX8_placeOf_X8_columnsOf : GoodIn wsX8_placeOf (va_wsS RX8 105 yX8_columnsOf wsX8_columnsOf) := goodIn_app (goodIn_of _ (by decide +kernel)) ggX8_placeOf_X8_columnsOf
set_option maxRecDepth 20000 in
theorem ggX8_placeOf_X8_rowsOf : GoodIn wsX8_placeOf wsX8_rowsOf := goodIn_r _ [10] (by decide +kernel) (by decide +kernel)
set_option maxRecDepth 20000 in
theorem gX8_placeOf_X8_rowsOf : GoodIn wsX8_placeOf (va_wsS RX8 109 yX8_rowsOf wsX8_rowsOf) := goodIn_app (goodIn_of _ (by decide +kernel)) ggX8_placeOf_X8_rowsOf
set_option maxRecDepth 20000 in
theorem ggX8_placeOf_X8_goes : GoodIn wsX8_placeOf wsX8_goes := goodIn_r _ [14, 15, 22, 23, 24, 25, 26, 27, 28, 29, 30, 31, 32, 33, 34, 35, 36, 37, 38, 39, 40, 41, 42, 43, 44, 45, 46, 47, 48, 49] (by decide +kernel) (by decide +kernel)
set_option maxRecDepth 20000 in
theorem gX8_placeOf_X8_goes : GoodIn wsX8_placeOf (wsV RX8 83 RX8 yX8_goes wsX8_goes) := goodIn_app (goodIn_of _ (by decide +kernel)) ggX8_placeOf_X8_goes
set_option maxRecDepth 20000 in
theorem ggX8_placeOf_X8_pageOf : GoodIn wsX8_placeOf wsX8_pageOf := goodIn_r _ [18, 19, 20, 3, 21, 5, 6, 7, 8, 9, 10] (by decide +kernel) (by decide +kernel)
set_option maxRecDepth 20000 in
theorem gX8_placeOf_X8_pageOf : GoodIn wsX8_placeOf (va_wsS RX8 115 yX8_pageOf wsX8_pageOf) := goodIn_app (goodIn_of _ (by decide +kernel)) ggX8_placeOf_X8_pageOf
theorem dX8_placeOf_0 : decode cX8_placeOf 0 = .ok (.aload_n 0, 1) := by decide +kernel
theorem dX8_placeOf_1 : decode cX8_placeOf 1 = .ok (.iload_n 1, 1) := by decide +kernel
theorem dX8_placeOf_2 : decode cX8_placeOf 2 = .ok (.iconst 1, 1) := by decide +kernel
theorem dX8_placeOf_3 : decode cX8_placeOf 3 = .ok (.iconst 4, 1) := by decide +kernel
theorem dX8_placeOf_4 : decode cX8_placeOf 4 = .ok (.invokestatic 75, 3) := by decide +kernel
theorem dX8_placeOf_7 : decode cX8_placeOf 7 = .ok (.ifCond .eq 26, 3) := by decide +kernel
theorem dX8_placeOf_10 : decode cX8_placeOf 10 = .ok (.iload_n 2, 1) := by decide +kernel
theorem dX8_placeOf_11 : decode cX8_placeOf 11 = .ok (.iconst 1, 1) := by decide +kernel
theorem dX8_placeOf_12 : decode cX8_placeOf 12 = .ok (.iconst 2, 1) := by decide +kernel
theorem dX8_placeOf_13 : decode cX8_placeOf 13 = .ok (.iload_n 1, 1) := by decide +kernel
theorem dX8_placeOf_14 : decode cX8_placeOf 14 = .ok (.invokestatic 105, 3) := by decide +kernel
theorem dX8_placeOf_17 : decode cX8_placeOf 17 = .ok (.imul, 1) := by decide +kernel
theorem dX8_placeOf_18 : decode cX8_placeOf 18 = .ok (.iload_n 1, 1) := by decide +kernel
theorem dX8_placeOf_19 : decode cX8_placeOf 19 = .ok (.invokestatic 109, 3) := by decide +kernel
theorem dX8_placeOf_22 : decode cX8_placeOf 22 = .ok (.imul, 1) := by decide +kernel
theorem dX8_placeOf_23 : decode cX8_placeOf 23 = .ok (.invokestatic 75, 3) := by decide +kernel
theorem dX8_placeOf_26 : decode cX8_placeOf 26 = .ok (.ifCond .eq 7, 3) := by decide +kernel
theorem dX8_placeOf_29 : decode cX8_placeOf 29 = .ok (.iconst 1, 1) := by decide +kernel
theorem dX8_placeOf_30 : decode cX8_placeOf 30 = .ok (.goto 4, 3) := by decide +kernel
theorem dX8_placeOf_33 : decode cX8_placeOf 33 = .ok (.iconst 0, 1) := by decide +kernel
theorem dX8_placeOf_34 : decode cX8_placeOf 34 = .ok (.iconst 1, 1) := by decide +kernel
theorem dX8_placeOf_35 : decode cX8_placeOf 35 = .ok (.iconst 1, 1) := by decide +kernel
theorem dX8_placeOf_36 : decode cX8_placeOf 36 = .ok (.invokevirtual 83, 3) := by decide +kernel
theorem dX8_placeOf_39 : decode cX8_placeOf 39 = .ok (.ifCond .ne 5, 3) := by decide +kernel
theorem dX8_placeOf_42 : decode cX8_placeOf 42 = .ok (.iconst 0, 1) := by decide +kernel
theorem dX8_placeOf_43 : decode cX8_placeOf 43 = .ok (.ireturn, 1) := by decide +kernel
theorem dX8_placeOf_44 : decode cX8_placeOf 44 = .ok (.iconst 0, 1) := by decide +kernel
theorem dX8_placeOf_45 : decode cX8_placeOf 45 = .ok (.istore_n 3, 1) := by decide +kernel
theorem dX8_placeOf_46 : decode cX8_placeOf 46 = .ok (.iconst 0, 1) := by decide +kernel
theorem dX8_placeOf_47 : decode cX8_placeOf 47 = .ok (.istore 4, 2) := by decide +kernel
theorem dX8_placeOf_49 : decode cX8_placeOf 49 = .ok (.iload 4, 2) := by decide +kernel
theorem dX8_placeOf_51 : decode cX8_placeOf 51 = .ok (.iload_n 1, 1) := by decide +kernel
theorem dX8_placeOf_52 : decode cX8_placeOf 52 = .ok (.invokestatic 105, 3) := by decide +kernel
theorem dX8_placeOf_55 : decode cX8_placeOf 55 = .ok (.iload_n 1, 1) := by decide +kernel
theorem dX8_placeOf_56 : decode cX8_placeOf 56 = .ok (.invokestatic 109, 3) := by decide +kernel
theorem dX8_placeOf_59 : decode cX8_placeOf 59 = .ok (.imul, 1) := by decide +kernel
theorem dX8_placeOf_60 : decode cX8_placeOf 60 = .ok (.if_icmp .ge 80, 3) := by decide +kernel
theorem dX8_placeOf_63 : decode cX8_placeOf 63 = .ok (.iload 4, 2) := by decide +kernel
theorem dX8_placeOf_65 : decode cX8_placeOf 65 = .ok (.iload_n 1, 1) := by decide +kernel
theorem dX8_placeOf_66 : decode cX8_placeOf 66 = .ok (.invokestatic 105, 3) := by decide +kernel
theorem dX8_placeOf_69 : decode cX8_placeOf 69 = .ok (.irem, 1) := by decide +kernel
theorem dX8_placeOf_70 : decode cX8_placeOf 70 = .ok (.istore 5, 2) := by decide +kernel
theorem dX8_placeOf_72 : decode cX8_placeOf 72 = .ok (.iload 4, 2) := by decide +kernel
theorem dX8_placeOf_74 : decode cX8_placeOf 74 = .ok (.iload_n 1, 1) := by decide +kernel
theorem dX8_placeOf_75 : decode cX8_placeOf 75 = .ok (.invokestatic 105, 3) := by decide +kernel
theorem dX8_placeOf_78 : decode cX8_placeOf 78 = .ok (.idiv, 1) := by decide +kernel
theorem dX8_placeOf_79 : decode cX8_placeOf 79 = .ok (.istore 6, 2) := by decide +kernel
theorem dX8_placeOf_81 : decode cX8_placeOf 81 = .ok (.iload_n 1, 1) := by decide +kernel
theorem dX8_placeOf_82 : decode cX8_placeOf 82 = .ok (.iconst 0, 1) := by decide +kernel
theorem dX8_placeOf_83 : decode cX8_placeOf 83 = .ok (.iload 5, 2) := by decide +kernel
theorem dX8_placeOf_85 : decode cX8_placeOf 85 = .ok (.iload 6, 2) := by decide +kernel
theorem dX8_placeOf_87 : decode cX8_placeOf 87 = .ok (.invokestatic 115, 3) := by decide +kernel
theorem dX8_placeOf_90 : decode cX8_placeOf 90 = .ok (.iload_n 2, 1) := by decide +kernel
theorem dX8_placeOf_91 : decode cX8_placeOf 91 = .ok (.if_icmp .ne 14, 3) := by decide +kernel
theorem dX8_placeOf_94 : decode cX8_placeOf 94 = .ok (.bipush 10, 2) := by decide +kernel
theorem dX8_placeOf_96 : decode cX8_placeOf 96 = .ok (.iload 6, 2) := by decide +kernel
theorem dX8_placeOf_98 : decode cX8_placeOf 98 = .ok (.imul, 1) := by decide +kernel
theorem dX8_placeOf_99 : decode cX8_placeOf 99 = .ok (.iload 5, 2) := by decide +kernel
theorem dX8_placeOf_101 : decode cX8_placeOf 101 = .ok (.iadd, 1) := by decide +kernel
theorem dX8_placeOf_102 : decode cX8_placeOf 102 = .ok (.goto 31, 3) := by decide +kernel
theorem dX8_placeOf_105 : decode cX8_placeOf 105 = .ok (.iload_n 1, 1) := by decide +kernel
theorem dX8_placeOf_106 : decode cX8_placeOf 106 = .ok (.iconst 1, 1) := by decide +kernel
theorem dX8_placeOf_107 : decode cX8_placeOf 107 = .ok (.iload 5, 2) := by decide +kernel
theorem dX8_placeOf_109 : decode cX8_placeOf 109 = .ok (.iload 6, 2) := by decide +kernel
theorem dX8_placeOf_111 : decode cX8_placeOf 111 = .ok (.invokestatic 115, 3) := by decide +kernel
theorem dX8_placeOf_114 : decode cX8_placeOf 114 = .ok (.iload_n 2, 1) := by decide +kernel
theorem dX8_placeOf_115 : decode cX8_placeOf 115 = .ok (.if_icmp .ne 17, 3) := by decide +kernel
theorem dX8_placeOf_118 : decode cX8_placeOf 118 = .ok (.bipush 100, 2) := by decide +kernel
theorem dX8_placeOf_120 : decode cX8_placeOf 120 = .ok (.bipush 10, 2) := by decide +kernel
theorem dX8_placeOf_122 : decode cX8_placeOf 122 = .ok (.iload 6, 2) := by decide +kernel
theorem dX8_placeOf_124 : decode cX8_placeOf 124 = .ok (.imul, 1) := by decide +kernel
theorem dX8_placeOf_125 : decode cX8_placeOf 125 = .ok (.iadd, 1) := by decide +kernel
theorem dX8_placeOf_126 : decode cX8_placeOf 126 = .ok (.iload 5, 2) := by decide +kernel
theorem dX8_placeOf_128 : decode cX8_placeOf 128 = .ok (.iadd, 1) := by decide +kernel
theorem dX8_placeOf_129 : decode cX8_placeOf 129 = .ok (.goto 4, 3) := by decide +kernel
theorem dX8_placeOf_132 : decode cX8_placeOf 132 = .ok (.iload_n 3, 1) := by decide +kernel
theorem dX8_placeOf_133 : decode cX8_placeOf 133 = .ok (.istore_n 3, 1) := by decide +kernel
theorem dX8_placeOf_134 : decode cX8_placeOf 134 = .ok (.iinc 4 1, 3) := by decide +kernel
theorem dX8_placeOf_137 : decode cX8_placeOf 137 = .ok (.goto (-88), 3) := by decide +kernel
theorem dX8_placeOf_140 : decode cX8_placeOf 140 = .ok (.iload_n 3, 1) := by decide +kernel
theorem dX8_placeOf_141 : decode cX8_placeOf 141 = .ok (.ireturn, 1) := by decide +kernel
set_option maxRecDepth 20000 in
theorem ggX8_isBook_X8_in : GoodIn wsX8_isBook wsX8_in := goodIn_r _ [5] (by decide +kernel) (by decide +kernel)
set_option maxRecDepth 20000 in
theorem gX8_isBook_X8_in : GoodIn wsX8_isBook (va_wsS RX8 75 yX8_in wsX8_in) := goodIn_app (goodIn_of _ (by decide +kernel)) ggX8_isBook_X8_in
theorem dX8_isBook_0 : decode cX8_isBook 0 = .ok (.iload_n 1, 1) := by decide +kernel
theorem dX8_isBook_1 : decode cX8_isBook 1 = .ok (.iconst 0, 1) := by decide +kernel
theorem dX8_isBook_2 : decode cX8_isBook 2 = .ok (.aload_n 0, 1) := by decide +kernel
theorem dX8_isBook_3 : decode cX8_isBook 3 = .ok (.getfield 119, 3) := by decide +kernel
theorem dX8_isBook_6 : decode cX8_isBook 6 = .ok (.iconst 1, 1) := by decide +kernel
theorem dX8_isBook_7 : decode cX8_isBook 7 = .ok (.isub, 1) := by decide +kernel
theorem dX8_isBook_8 : decode cX8_isBook 8 = .ok (.invokestatic 75, 3) := by decide +kernel
theorem dX8_isBook_11 : decode cX8_isBook 11 = .ok (.ireturn, 1) := by decide +kernel
set_option maxRecDepth 20000 in
theorem ggX8_book_X8_in : GoodIn wsX8_book wsX8_in := goodIn_r _ [10] (by decide +kernel) (by decide +kernel)
set_option maxRecDepth 20000 in
theorem gX8_book_X8_in : GoodIn wsX8_book (va_wsS RX8 75 yX8_in wsX8_in) := goodIn_app (goodIn_of _ (by decide +kernel)) ggX8_book_X8_in
set_option maxRecDepth 20000 in
theorem ggX8_book_X8_goes : GoodIn wsX8_book wsX8_goes := goodIn_r _ [14, 15, 16, 17, 18, 19, 20, 21, 22, 23, 24, 25, 26, 27, 28, 29, 30, 31, 32, 33, 34, 35, 36, 37, 38, 39, 40, 41, 42, 43] (by decide +kernel) (by decide +kernel)
set_option maxRecDepth 20000 in
theorem gX8_book_X8_goes : GoodIn wsX8_book (wsV RX8 83 RX8 yX8_goes wsX8_goes) := goodIn_app (goodIn_of _ (by decide +kernel)) ggX8_book_X8_goes
theorem dX8_book_0 : decode cX8_book 0 = .ok (.iload_n 1, 1) := by decide +kernel
theorem dX8_book_1 : decode cX8_book 1 = .ok (.iconst 1, 1) := by decide +kernel
theorem dX8_book_2 : decode cX8_book 2 = .ok (.bipush 8, 2) := by decide +kernel
theorem dX8_book_4 : decode cX8_book 4 = .ok (.invokestatic 75, 3) := by decide +kernel
theorem dX8_book_7 : decode cX8_book 7 = .ok (.ifCond .eq 38, 3) := by decide +kernel
theorem dX8_book_10 : decode cX8_book 10 = .ok (.iload_n 2, 1) := by decide +kernel
theorem dX8_book_11 : decode cX8_book 11 = .ok (.iconst 2, 1) := by decide +kernel
theorem dX8_book_12 : decode cX8_book 12 = .ok (.bipush 16, 2) := by decide +kernel
theorem dX8_book_14 : decode cX8_book 14 = .ok (.invokestatic 75, 3) := by decide +kernel
theorem dX8_book_17 : decode cX8_book 17 = .ok (.ifCond .eq 28, 3) := by decide +kernel
theorem dX8_book_20 : decode cX8_book 20 = .ok (.iload_n 3, 1) := by decide +kernel
theorem dX8_book_21 : decode cX8_book 21 = .ok (.iconst 3, 1) := by decide +kernel
theorem dX8_book_22 : decode cX8_book 22 = .ok (.bipush 6, 2) := by decide +kernel
theorem dX8_book_24 : decode cX8_book 24 = .ok (.invokestatic 75, 3) := by decide +kernel
theorem dX8_book_27 : decode cX8_book 27 = .ok (.ifCond .eq 18, 3) := by decide +kernel
theorem dX8_book_30 : decode cX8_book 30 = .ok (.iload 4, 2) := by decide +kernel
theorem dX8_book_32 : decode cX8_book 32 = .ok (.iconst 1, 1) := by decide +kernel
theorem dX8_book_33 : decode cX8_book 33 = .ok (.bipush 9, 2) := by decide +kernel
theorem dX8_book_35 : decode cX8_book 35 = .ok (.invokestatic 75, 3) := by decide +kernel
theorem dX8_book_38 : decode cX8_book 38 = .ok (.ifCond .eq 7, 3) := by decide +kernel
theorem dX8_book_41 : decode cX8_book 41 = .ok (.iconst 1, 1) := by decide +kernel
theorem dX8_book_42 : decode cX8_book 42 = .ok (.goto 4, 3) := by decide +kernel
theorem dX8_book_45 : decode cX8_book 45 = .ok (.iconst 0, 1) := by decide +kernel
theorem dX8_book_46 : decode cX8_book 46 = .ok (.istore 6, 2) := by decide +kernel
theorem dX8_book_48 : decode cX8_book 48 = .ok (.aload_n 0, 1) := by decide +kernel
theorem dX8_book_49 : decode cX8_book 49 = .ok (.iload 6, 2) := by decide +kernel
theorem dX8_book_51 : decode cX8_book 51 = .ok (.aload_n 0, 1) := by decide +kernel
theorem dX8_book_52 : decode cX8_book 52 = .ok (.getfield 119, 3) := by decide +kernel
theorem dX8_book_55 : decode cX8_book 55 = .ok (.iconst 4, 1) := by decide +kernel
theorem dX8_book_56 : decode cX8_book 56 = .ok (.if_icmp .ge 7, 3) := by decide +kernel
theorem dX8_book_59 : decode cX8_book 59 = .ok (.iconst 1, 1) := by decide +kernel
theorem dX8_book_60 : decode cX8_book 60 = .ok (.goto 4, 3) := by decide +kernel
theorem dX8_book_63 : decode cX8_book 63 = .ok (.iconst 0, 1) := by decide +kernel
theorem dX8_book_64 : decode cX8_book 64 = .ok (.iconst 1, 1) := by decide +kernel
theorem dX8_book_65 : decode cX8_book 65 = .ok (.invokevirtual 83, 3) := by decide +kernel
theorem dX8_book_68 : decode cX8_book 68 = .ok (.ifCond .ne 5, 3) := by decide +kernel
theorem dX8_book_71 : decode cX8_book 71 = .ok (.iconst 0, 1) := by decide +kernel
theorem dX8_book_72 : decode cX8_book 72 = .ok (.ireturn, 1) := by decide +kernel
theorem dX8_book_73 : decode cX8_book 73 = .ok (.aload_n 0, 1) := by decide +kernel
theorem dX8_book_74 : decode cX8_book 74 = .ok (.getfield 19, 3) := by decide +kernel
theorem dX8_book_77 : decode cX8_book 77 = .ok (.aload_n 0, 1) := by decide +kernel
theorem dX8_book_78 : decode cX8_book 78 = .ok (.getfield 119, 3) := by decide +kernel
theorem dX8_book_81 : decode cX8_book 81 = .ok (.iload_n 1, 1) := by decide +kernel
theorem dX8_book_82 : decode cX8_book 82 = .ok (.iastore, 1) := by decide +kernel
theorem dX8_book_83 : decode cX8_book 83 = .ok (.aload_n 0, 1) := by decide +kernel
theorem dX8_book_84 : decode cX8_book 84 = .ok (.getfield 22, 3) := by decide +kernel
theorem dX8_book_87 : decode cX8_book 87 = .ok (.aload_n 0, 1) := by decide +kernel
theorem dX8_book_88 : decode cX8_book 88 = .ok (.getfield 119, 3) := by decide +kernel
theorem dX8_book_91 : decode cX8_book 91 = .ok (.iload_n 2, 1) := by decide +kernel
theorem dX8_book_92 : decode cX8_book 92 = .ok (.iastore, 1) := by decide +kernel
theorem dX8_book_93 : decode cX8_book 93 = .ok (.aload_n 0, 1) := by decide +kernel
theorem dX8_book_94 : decode cX8_book 94 = .ok (.getfield 25, 3) := by decide +kernel
theorem dX8_book_97 : decode cX8_book 97 = .ok (.aload_n 0, 1) := by decide +kernel
theorem dX8_book_98 : decode cX8_book 98 = .ok (.getfield 119, 3) := by decide +kernel
theorem dX8_book_101 : decode cX8_book 101 = .ok (.iload_n 3, 1) := by decide +kernel
theorem dX8_book_102 : decode cX8_book 102 = .ok (.iastore, 1) := by decide +kernel
theorem dX8_book_103 : decode cX8_book 103 = .ok (.aload_n 0, 1) := by decide +kernel
theorem dX8_book_104 : decode cX8_book 104 = .ok (.getfield 28, 3) := by decide +kernel
theorem dX8_book_107 : decode cX8_book 107 = .ok (.aload_n 0, 1) := by decide +kernel
theorem dX8_book_108 : decode cX8_book 108 = .ok (.getfield 119, 3) := by decide +kernel
theorem dX8_book_111 : decode cX8_book 111 = .ok (.iload 4, 2) := by decide +kernel
theorem dX8_book_113 : decode cX8_book 113 = .ok (.iastore, 1) := by decide +kernel
theorem dX8_book_114 : decode cX8_book 114 = .ok (.aload_n 0, 1) := by decide +kernel
theorem dX8_book_115 : decode cX8_book 115 = .ok (.getfield 31, 3) := by decide +kernel
theorem dX8_book_118 : decode cX8_book 118 = .ok (.aload_n 0, 1) := by decide +kernel
theorem dX8_book_119 : decode cX8_book 119 = .ok (.getfield 119, 3) := by decide +kernel
theorem dX8_book_122 : decode cX8_book 122 = .ok (.iload 5, 2) := by decide +kernel
theorem dX8_book_124 : decode cX8_book 124 = .ok (.bastore, 1) := by decide +kernel
theorem dX8_book_125 : decode cX8_book 125 = .ok (.aload_n 0, 1) := by decide +kernel
theorem dX8_book_126 : decode cX8_book 126 = .ok (.dup, 1) := by decide +kernel
theorem dX8_book_127 : decode cX8_book 127 = .ok (.getfield 119, 3) := by decide +kernel
theorem dX8_book_130 : decode cX8_book 130 = .ok (.iconst 1, 1) := by decide +kernel
theorem dX8_book_131 : decode cX8_book 131 = .ok (.iadd, 1) := by decide +kernel
theorem dX8_book_132 : decode cX8_book 132 = .ok (.putfield 119, 3) := by decide +kernel
theorem dX8_book_135 : decode cX8_book 135 = .ok (.aload_n 0, 1) := by decide +kernel
theorem dX8_book_136 : decode cX8_book 136 = .ok (.getfield 119, 3) := by decide +kernel
theorem dX8_book_139 : decode cX8_book 139 = .ok (.iconst 1, 1) := by decide +kernel
theorem dX8_book_140 : decode cX8_book 140 = .ok (.isub, 1) := by decide +kernel
theorem dX8_book_141 : decode cX8_book 141 = .ok (.ireturn, 1) := by decide +kernel
theorem dX8_lays_0 : decode cX8_lays 0 = .ok (.aload_n 0, 1) := by decide +kernel
theorem dX8_lays_1 : decode cX8_lays 1 = .ok (.dup, 1) := by decide +kernel
theorem dX8_lays_2 : decode cX8_lays 2 = .ok (.getfield 122, 3) := by decide +kernel
theorem dX8_lays_5 : decode cX8_lays 5 = .ok (.iload_n 1, 1) := by decide +kernel
theorem dX8_lays_6 : decode cX8_lays 6 = .ok (.iadd, 1) := by decide +kernel
theorem dX8_lays_7 : decode cX8_lays 7 = .ok (.putfield 122, 3) := by decide +kernel
theorem dX8_lays_10 : decode cX8_lays 10 = .ok (.aload_n 0, 1) := by decide +kernel
theorem dX8_lays_11 : decode cX8_lays 11 = .ok (.dup, 1) := by decide +kernel
theorem dX8_lays_12 : decode cX8_lays 12 = .ok (.getfield 125, 3) := by decide +kernel
theorem dX8_lays_15 : decode cX8_lays 15 = .ok (.bipush 10, 2) := by decide +kernel
theorem dX8_lays_17 : decode cX8_lays 17 = .ok (.iadd, 1) := by decide +kernel
theorem dX8_lays_18 : decode cX8_lays 18 = .ok (.putfield 125, 3) := by decide +kernel
theorem dX8_lays_21 : decode cX8_lays 21 = .ok (.aload_n 0, 1) := by decide +kernel
theorem dX8_lays_22 : decode cX8_lays 22 = .ok (.getfield 44, 3) := by decide +kernel
theorem dX8_lays_25 : decode cX8_lays 25 = .ok (.iconst 5, 1) := by decide +kernel
theorem dX8_lays_26 : decode cX8_lays 26 = .ok (.aload_n 0, 1) := by decide +kernel
theorem dX8_lays_27 : decode cX8_lays 27 = .ok (.getfield 128, 3) := by decide +kernel
theorem dX8_lays_30 : decode cX8_lays 30 = .ok (.imul, 1) := by decide +kernel
theorem dX8_lays_31 : decode cX8_lays 31 = .ok (.iload_n 2, 1) := by decide +kernel
theorem dX8_lays_32 : decode cX8_lays 32 = .ok (.iadd, 1) := by decide +kernel
theorem dX8_lays_33 : decode cX8_lays 33 = .ok (.dup2, 1) := by decide +kernel
theorem dX8_lays_34 : decode cX8_lays 34 = .ok (.iaload, 1) := by decide +kernel
theorem dX8_lays_35 : decode cX8_lays 35 = .ok (.aload_n 0, 1) := by decide +kernel
theorem dX8_lays_36 : decode cX8_lays 36 = .ok (.getfield 131, 3) := by decide +kernel
theorem dX8_lays_39 : decode cX8_lays 39 = .ok (.ifCond .eq 7, 3) := by decide +kernel
theorem dX8_lays_42 : decode cX8_lays 42 = .ok (.iconst 1, 1) := by decide +kernel
theorem dX8_lays_43 : decode cX8_lays 43 = .ok (.goto 4, 3) := by decide +kernel
theorem dX8_lays_46 : decode cX8_lays 46 = .ok (.iconst 0, 1) := by decide +kernel
theorem dX8_lays_47 : decode cX8_lays 47 = .ok (.iadd, 1) := by decide +kernel
theorem dX8_lays_48 : decode cX8_lays 48 = .ok (.iastore, 1) := by decide +kernel
theorem dX8_lays_49 : decode cX8_lays 49 = .ok (.return_, 1) := by decide +kernel
theorem dX8_links_0 : decode cX8_links 0 = .ok (.aload_n 0, 1) := by decide +kernel
theorem dX8_links_1 : decode cX8_links 1 = .ok (.getfield 47, 3) := by decide +kernel
theorem dX8_links_4 : decode cX8_links 4 = .ok (.iload_n 1, 1) := by decide +kernel
theorem dX8_links_5 : decode cX8_links 5 = .ok (.ifCond .le 10, 3) := by decide +kernel
theorem dX8_links_8 : decode cX8_links 8 = .ok (.aload_n 0, 1) := by decide +kernel
theorem dX8_links_9 : decode cX8_links 9 = .ok (.getfield 128, 3) := by decide +kernel
theorem dX8_links_12 : decode cX8_links 12 = .ok (.goto 9, 3) := by decide +kernel
theorem dX8_links_15 : decode cX8_links 15 = .ok (.aload_n 0, 1) := by decide +kernel
theorem dX8_links_16 : decode cX8_links 16 = .ok (.getfield 128, 3) := by decide +kernel
theorem dX8_links_19 : decode cX8_links 19 = .ok (.iconst 1, 1) := by decide +kernel
theorem dX8_links_20 : decode cX8_links 20 = .ok (.isub, 1) := by decide +kernel
theorem dX8_links_21 : decode cX8_links 21 = .ok (.iconst 1, 1) := by decide +kernel
theorem dX8_links_22 : decode cX8_links 22 = .ok (.bastore, 1) := by decide +kernel
theorem dX8_links_23 : decode cX8_links 23 = .ok (.aload_n 0, 1) := by decide +kernel
theorem dX8_links_24 : decode cX8_links 24 = .ok (.dup, 1) := by decide +kernel
theorem dX8_links_25 : decode cX8_links 25 = .ok (.getfield 128, 3) := by decide +kernel
theorem dX8_links_28 : decode cX8_links 28 = .ok (.iload_n 1, 1) := by decide +kernel
theorem dX8_links_29 : decode cX8_links 29 = .ok (.iadd, 1) := by decide +kernel
theorem dX8_links_30 : decode cX8_links 30 = .ok (.putfield 128, 3) := by decide +kernel
theorem dX8_links_33 : decode cX8_links 33 = .ok (.aload_n 0, 1) := by decide +kernel
theorem dX8_links_34 : decode cX8_links 34 = .ok (.dup, 1) := by decide +kernel
theorem dX8_links_35 : decode cX8_links 35 = .ok (.getfield 125, 3) := by decide +kernel
theorem dX8_links_38 : decode cX8_links 38 = .ok (.iconst 4, 1) := by decide +kernel
theorem dX8_links_39 : decode cX8_links 39 = .ok (.iadd, 1) := by decide +kernel
theorem dX8_links_40 : decode cX8_links 40 = .ok (.putfield 125, 3) := by decide +kernel
theorem dX8_links_43 : decode cX8_links 43 = .ok (.return_, 1) := by decide +kernel
set_option maxRecDepth 20000 in
theorem ggX8_moves_X8_lays : GoodIn wsX8_moves wsX8_lays := goodIn_r _ [7, 2, 8, 9, 10, 1, 16, 17, 18, 19, 20, 21, 22, 23, 24, 25, 26, 27, 28, 29, 30, 31, 32, 33, 34, 35, 36, 37, 38, 39, 40, 41, 42, 43] (by decide +kernel) (by decide +kernel)
set_option maxRecDepth 20000 in
theorem gX8_moves_X8_lays : GoodIn wsX8_moves (wsV RX8 135 RX8 yX8_lays wsX8_lays) := goodIn_app (goodIn_of _ (by decide +kernel)) ggX8_moves_X8_lays
set_option maxRecDepth 20000 in
theorem ggX8_moves_X8_links : GoodIn wsX8_moves wsX8_links := goodIn_r _ [14, 15, 10, 8, 16, 17, 18, 19, 20, 21, 22, 23, 24, 25, 26, 27, 28, 29, 30, 31, 32, 33, 34, 35, 36, 37, 38, 39, 40, 41, 42, 43] (by decide +kernel) (by decide +kernel)
set_option maxRecDepth 20000 in
theorem gX8_moves_X8_links : GoodIn wsX8_moves (wsV RX8 139 RX8 yX8_links wsX8_links) := goodIn_app (goodIn_of _ (by decide +kernel)) ggX8_moves_X8_links
theorem dX8_moves_0 : decode cX8_moves 0 = .ok (.iload_n 1, 1) := by decide +kernel
theorem dX8_moves_1 : decode cX8_moves 1 = .ok (.tableswitch 84 0 3 #[31, 50, 62, 76], 31) := by decide +kernel
theorem dX8_moves_32 : decode cX8_moves 32 = .ok (.aload_n 0, 1) := by decide +kernel
theorem dX8_moves_33 : decode cX8_moves 33 = .ok (.aload_n 0, 1) := by decide +kernel
theorem dX8_moves_34 : decode cX8_moves 34 = .ok (.getfield 131, 3) := by decide +kernel
theorem dX8_moves_37 : decode cX8_moves 37 = .ok (.ifCond .ne 7, 3) := by decide +kernel
theorem dX8_moves_40 : decode cX8_moves 40 = .ok (.iconst 1, 1) := by decide +kernel
theorem dX8_moves_41 : decode cX8_moves 41 = .ok (.goto 4, 3) := by decide +kernel
theorem dX8_moves_44 : decode cX8_moves 44 = .ok (.iconst 0, 1) := by decide +kernel
theorem dX8_moves_45 : decode cX8_moves 45 = .ok (.putfield 131, 3) := by decide +kernel
theorem dX8_moves_48 : decode cX8_moves 48 = .ok (.goto 42, 3) := by decide +kernel
theorem dX8_moves_51 : decode cX8_moves 51 = .ok (.aload_n 0, 1) := by decide +kernel
theorem dX8_moves_52 : decode cX8_moves 52 = .ok (.iconst 1, 1) := by decide +kernel
theorem dX8_moves_53 : decode cX8_moves 53 = .ok (.aload_n 0, 1) := by decide +kernel
theorem dX8_moves_54 : decode cX8_moves 54 = .ok (.getfield 122, 3) := by decide +kernel
theorem dX8_moves_57 : decode cX8_moves 57 = .ok (.invokevirtual 135, 3) := by decide +kernel
theorem dX8_moves_60 : decode cX8_moves 60 = .ok (.goto 30, 3) := by decide +kernel
theorem dX8_moves_63 : decode cX8_moves 63 = .ok (.aload_n 0, 1) := by decide +kernel
theorem dX8_moves_64 : decode cX8_moves 64 = .ok (.iconst (-1), 1) := by decide +kernel
theorem dX8_moves_65 : decode cX8_moves 65 = .ok (.aload_n 0, 1) := by decide +kernel
theorem dX8_moves_66 : decode cX8_moves 66 = .ok (.getfield 122, 3) := by decide +kernel
theorem dX8_moves_69 : decode cX8_moves 69 = .ok (.iconst 1, 1) := by decide +kernel
theorem dX8_moves_70 : decode cX8_moves 70 = .ok (.isub, 1) := by decide +kernel
theorem dX8_moves_71 : decode cX8_moves 71 = .ok (.invokevirtual 135, 3) := by decide +kernel
theorem dX8_moves_74 : decode cX8_moves 74 = .ok (.goto 16, 3) := by decide +kernel
theorem dX8_moves_77 : decode cX8_moves 77 = .ok (.aload_n 0, 1) := by decide +kernel
theorem dX8_moves_78 : decode cX8_moves 78 = .ok (.iconst 1, 1) := by decide +kernel
theorem dX8_moves_79 : decode cX8_moves 79 = .ok (.invokevirtual 139, 3) := by decide +kernel
theorem dX8_moves_82 : decode cX8_moves 82 = .ok (.goto 8, 3) := by decide +kernel
theorem dX8_moves_85 : decode cX8_moves 85 = .ok (.aload_n 0, 1) := by decide +kernel
theorem dX8_moves_86 : decode cX8_moves 86 = .ok (.iconst (-1), 1) := by decide +kernel
theorem dX8_moves_87 : decode cX8_moves 87 = .ok (.invokevirtual 139, 3) := by decide +kernel
theorem dX8_moves_90 : decode cX8_moves 90 = .ok (.return_, 1) := by decide +kernel
set_option maxRecDepth 20000 in
theorem ggX8_follows_X8_moves : GoodIn wsX8_follows wsX8_moves := goodIn_r _ [13, 6, 5, 14, 15, 16, 12, 17, 3, 1, 4, 18, 19, 20, 21, 2, 22, 23, 24, 25, 26, 27, 28, 29, 30, 31, 32, 33, 34, 35, 36, 37, 38, 39, 40, 41, 42, 43, 44, 45, 46, 47, 48, 49] (by decide +kernel) (by decide +kernel)
set_option maxRecDepth 20000 in
theorem gX8_follows_X8_moves : GoodIn wsX8_follows (wsV RX8 143 RX8 yX8_moves wsX8_moves) := goodIn_app (goodIn_of _ (by decide +kernel)) ggX8_follows_X8_moves
theorem dX8_follows_0 : decode cX8_follows 0 = .ok (.iconst 0, 1) := by decide +kernel
theorem dX8_follows_1 : decode cX8_follows 1 = .ok (.istore_n 2, 1) := by decide +kernel
theorem dX8_follows_2 : decode cX8_follows 2 = .ok (.iload_n 2, 1) := by decide +kernel
theorem dX8_follows_3 : decode cX8_follows 3 = .ok (.bipush 40, 2) := by decide +kernel
theorem dX8_follows_5 : decode cX8_follows 5 = .ok (.if_icmp .ge 16, 3) := by decide +kernel
theorem dX8_follows_8 : decode cX8_follows 8 = .ok (.aload_n 0, 1) := by decide +kernel
theorem dX8_follows_9 : decode cX8_follows 9 = .ok (.getfield 44, 3) := by decide +kernel
theorem dX8_follows_12 : decode cX8_follows 12 = .ok (.iload_n 2, 1) := by decide +kernel
theorem dX8_follows_13 : decode cX8_follows 13 = .ok (.iconst 0, 1) := by decide +kernel
theorem dX8_follows_14 : decode cX8_follows 14 = .ok (.iastore, 1) := by decide +kernel
theorem dX8_follows_15 : decode cX8_follows 15 = .ok (.iinc 2 1, 3) := by decide +kernel
theorem dX8_follows_18 : decode cX8_follows 18 = .ok (.goto (-16), 3) := by decide +kernel
theorem dX8_follows_21 : decode cX8_follows 21 = .ok (.iconst 0, 1) := by decide +kernel
theorem dX8_follows_22 : decode cX8_follows 22 = .ok (.istore_n 2, 1) := by decide +kernel
theorem dX8_follows_23 : decode cX8_follows 23 = .ok (.iload_n 2, 1) := by decide +kernel
theorem dX8_follows_24 : decode cX8_follows 24 = .ok (.bipush 8, 2) := by decide +kernel
theorem dX8_follows_26 : decode cX8_follows 26 = .ok (.if_icmp .ge 16, 3) := by decide +kernel
theorem dX8_follows_29 : decode cX8_follows 29 = .ok (.aload_n 0, 1) := by decide +kernel
theorem dX8_follows_30 : decode cX8_follows 30 = .ok (.getfield 47, 3) := by decide +kernel
theorem dX8_follows_33 : decode cX8_follows 33 = .ok (.iload_n 2, 1) := by decide +kernel
theorem dX8_follows_34 : decode cX8_follows 34 = .ok (.iconst 0, 1) := by decide +kernel
theorem dX8_follows_35 : decode cX8_follows 35 = .ok (.bastore, 1) := by decide +kernel
theorem dX8_follows_36 : decode cX8_follows 36 = .ok (.iinc 2 1, 3) := by decide +kernel
theorem dX8_follows_39 : decode cX8_follows 39 = .ok (.goto (-16), 3) := by decide +kernel
theorem dX8_follows_42 : decode cX8_follows 42 = .ok (.aload_n 0, 1) := by decide +kernel
theorem dX8_follows_43 : decode cX8_follows 43 = .ok (.iconst 0, 1) := by decide +kernel
theorem dX8_follows_44 : decode cX8_follows 44 = .ok (.putfield 125, 3) := by decide +kernel
theorem dX8_follows_47 : decode cX8_follows 47 = .ok (.aload_n 0, 1) := by decide +kernel
theorem dX8_follows_48 : decode cX8_follows 48 = .ok (.iconst 0, 1) := by decide +kernel
theorem dX8_follows_49 : decode cX8_follows 49 = .ok (.putfield 128, 3) := by decide +kernel
theorem dX8_follows_52 : decode cX8_follows 52 = .ok (.aload_n 0, 1) := by decide +kernel
theorem dX8_follows_53 : decode cX8_follows 53 = .ok (.iconst 0, 1) := by decide +kernel
theorem dX8_follows_54 : decode cX8_follows 54 = .ok (.putfield 122, 3) := by decide +kernel
theorem dX8_follows_57 : decode cX8_follows 57 = .ok (.aload_n 0, 1) := by decide +kernel
theorem dX8_follows_58 : decode cX8_follows 58 = .ok (.iconst 0, 1) := by decide +kernel
theorem dX8_follows_59 : decode cX8_follows 59 = .ok (.putfield 131, 3) := by decide +kernel
theorem dX8_follows_62 : decode cX8_follows 62 = .ok (.sipush 200, 3) := by decide +kernel
theorem dX8_follows_65 : decode cX8_follows 65 = .ok (.iload_n 1, 1) := by decide +kernel
theorem dX8_follows_66 : decode cX8_follows 66 = .ok (.imul, 1) := by decide +kernel
theorem dX8_follows_67 : decode cX8_follows 67 = .ok (.istore_n 2, 1) := by decide +kernel
theorem dX8_follows_68 : decode cX8_follows 68 = .ok (.iload_n 2, 1) := by decide +kernel
theorem dX8_follows_69 : decode cX8_follows 69 = .ok (.sipush 200, 3) := by decide +kernel
theorem dX8_follows_72 : decode cX8_follows 72 = .ok (.iload_n 1, 1) := by decide +kernel
theorem dX8_follows_73 : decode cX8_follows 73 = .ok (.imul, 1) := by decide +kernel
theorem dX8_follows_74 : decode cX8_follows 74 = .ok (.aload_n 0, 1) := by decide +kernel
theorem dX8_follows_75 : decode cX8_follows 75 = .ok (.getfield 38, 3) := by decide +kernel
theorem dX8_follows_78 : decode cX8_follows 78 = .ok (.iload_n 1, 1) := by decide +kernel
theorem dX8_follows_79 : decode cX8_follows 79 = .ok (.iaload, 1) := by decide +kernel
theorem dX8_follows_80 : decode cX8_follows 80 = .ok (.iadd, 1) := by decide +kernel
theorem dX8_follows_81 : decode cX8_follows 81 = .ok (.if_icmp .ge 19, 3) := by decide +kernel
theorem dX8_follows_84 : decode cX8_follows 84 = .ok (.aload_n 0, 1) := by decide +kernel
theorem dX8_follows_85 : decode cX8_follows 85 = .ok (.aload_n 0, 1) := by decide +kernel
theorem dX8_follows_86 : decode cX8_follows 86 = .ok (.getfield 41, 3) := by decide +kernel
theorem dX8_follows_89 : decode cX8_follows 89 = .ok (.iload_n 2, 1) := by decide +kernel
theorem dX8_follows_90 : decode cX8_follows 90 = .ok (.iaload, 1) := by decide +kernel
theorem dX8_follows_91 : decode cX8_follows 91 = .ok (.invokevirtual 143, 3) := by decide +kernel
theorem dX8_follows_94 : decode cX8_follows 94 = .ok (.iinc 2 1, 3) := by decide +kernel
theorem dX8_follows_97 : decode cX8_follows 97 = .ok (.goto (-29), 3) := by decide +kernel
theorem dX8_follows_100 : decode cX8_follows 100 = .ok (.return_, 1) := by decide +kernel
theorem dX8_can_0 : decode cX8_can 0 = .ok (.iload_n 2, 1) := by decide +kernel
theorem dX8_can_1 : decode cX8_can 1 = .ok (.tableswitch 95 0 3 #[31, 33, 54, 67], 31) := by decide +kernel
theorem dX8_can_32 : decode cX8_can 32 = .ok (.iconst 1, 1) := by decide +kernel
theorem dX8_can_33 : decode cX8_can 33 = .ok (.ireturn, 1) := by decide +kernel
theorem dX8_can_34 : decode cX8_can 34 = .ok (.aload_n 0, 1) := by decide +kernel
theorem dX8_can_35 : decode cX8_can 35 = .ok (.getfield 122, 3) := by decide +kernel
theorem dX8_can_38 : decode cX8_can 38 = .ok (.aload_n 0, 1) := by decide +kernel
theorem dX8_can_39 : decode cX8_can 39 = .ok (.getfield 25, 3) := by decide +kernel
theorem dX8_can_42 : decode cX8_can 42 = .ok (.iload_n 1, 1) := by decide +kernel
theorem dX8_can_43 : decode cX8_can 43 = .ok (.iaload, 1) := by decide +kernel
theorem dX8_can_44 : decode cX8_can 44 = .ok (.iconst 1, 1) := by decide +kernel
theorem dX8_can_45 : decode cX8_can 45 = .ok (.isub, 1) := by decide +kernel
theorem dX8_can_46 : decode cX8_can 46 = .ok (.if_icmp .ge 7, 3) := by decide +kernel
theorem dX8_can_49 : decode cX8_can 49 = .ok (.iconst 1, 1) := by decide +kernel
theorem dX8_can_50 : decode cX8_can 50 = .ok (.goto 4, 3) := by decide +kernel
theorem dX8_can_53 : decode cX8_can 53 = .ok (.iconst 0, 1) := by decide +kernel
theorem dX8_can_54 : decode cX8_can 54 = .ok (.ireturn, 1) := by decide +kernel
theorem dX8_can_55 : decode cX8_can 55 = .ok (.aload_n 0, 1) := by decide +kernel
theorem dX8_can_56 : decode cX8_can 56 = .ok (.getfield 122, 3) := by decide +kernel
theorem dX8_can_59 : decode cX8_can 59 = .ok (.ifCond .le 7, 3) := by decide +kernel
theorem dX8_can_62 : decode cX8_can 62 = .ok (.iconst 1, 1) := by decide +kernel
theorem dX8_can_63 : decode cX8_can 63 = .ok (.goto 4, 3) := by decide +kernel
theorem dX8_can_66 : decode cX8_can 66 = .ok (.iconst 0, 1) := by decide +kernel
theorem dX8_can_67 : decode cX8_can 67 = .ok (.ireturn, 1) := by decide +kernel
theorem dX8_can_68 : decode cX8_can 68 = .ok (.aload_n 0, 1) := by decide +kernel
theorem dX8_can_69 : decode cX8_can 69 = .ok (.getfield 131, 3) := by decide +kernel
theorem dX8_can_72 : decode cX8_can 72 = .ok (.ifCond .ne 22, 3) := by decide +kernel
theorem dX8_can_75 : decode cX8_can 75 = .ok (.aload_n 0, 1) := by decide +kernel
theorem dX8_can_76 : decode cX8_can 76 = .ok (.getfield 128, 3) := by decide +kernel
theorem dX8_can_79 : decode cX8_can 79 = .ok (.aload_n 0, 1) := by decide +kernel
theorem dX8_can_80 : decode cX8_can 80 = .ok (.getfield 19, 3) := by decide +kernel
theorem dX8_can_83 : decode cX8_can 83 = .ok (.iload_n 1, 1) := by decide +kernel
theorem dX8_can_84 : decode cX8_can 84 = .ok (.iaload, 1) := by decide +kernel
theorem dX8_can_85 : decode cX8_can 85 = .ok (.iconst 1, 1) := by decide +kernel
theorem dX8_can_86 : decode cX8_can 86 = .ok (.isub, 1) := by decide +kernel
theorem dX8_can_87 : decode cX8_can 87 = .ok (.if_icmp .ge 7, 3) := by decide +kernel
theorem dX8_can_90 : decode cX8_can 90 = .ok (.iconst 1, 1) := by decide +kernel
theorem dX8_can_91 : decode cX8_can 91 = .ok (.goto 4, 3) := by decide +kernel
theorem dX8_can_94 : decode cX8_can 94 = .ok (.iconst 0, 1) := by decide +kernel
theorem dX8_can_95 : decode cX8_can 95 = .ok (.ireturn, 1) := by decide +kernel
theorem dX8_can_96 : decode cX8_can 96 = .ok (.aload_n 0, 1) := by decide +kernel
theorem dX8_can_97 : decode cX8_can 97 = .ok (.getfield 131, 3) := by decide +kernel
theorem dX8_can_100 : decode cX8_can 100 = .ok (.ifCond .ne 14, 3) := by decide +kernel
theorem dX8_can_103 : decode cX8_can 103 = .ok (.aload_n 0, 1) := by decide +kernel
theorem dX8_can_104 : decode cX8_can 104 = .ok (.getfield 128, 3) := by decide +kernel
theorem dX8_can_107 : decode cX8_can 107 = .ok (.ifCond .le 7, 3) := by decide +kernel
theorem dX8_can_110 : decode cX8_can 110 = .ok (.iconst 1, 1) := by decide +kernel
theorem dX8_can_111 : decode cX8_can 111 = .ok (.goto 4, 3) := by decide +kernel
theorem dX8_can_114 : decode cX8_can 114 = .ok (.iconst 0, 1) := by decide +kernel
theorem dX8_can_115 : decode cX8_can 115 = .ok (.ireturn, 1) := by decide +kernel
set_option maxRecDepth 20000 in
theorem ggX8_canMove_X8_follows : GoodIn wsX8_canMove wsX8_follows := goodIn_r _ [6, 7, 8, 9, 10, 11, 12, 1, 13, 14, 15, 16, 5, 17, 18, 19, 20, 21, 22, 23, 24, 25, 32, 33, 34, 35, 36, 37, 38, 39, 40, 41, 42, 43, 44, 45, 46, 47, 48, 49, 50, 51, 52, 53, 54, 55, 56, 57, 58, 59] (by decide +kernel) (by decide +kernel)
set_option maxRecDepth 20000 in
theorem gX8_canMove_X8_follows : GoodIn wsX8_canMove (wsV RX8 145 RX8 yX8_follows wsX8_follows) := goodIn_app (goodIn_of _ (by decide +kernel)) ggX8_canMove_X8_follows
set_option maxRecDepth 20000 in
theorem ggX8_canMove_X8_can : GoodIn wsX8_canMove wsX8_can := goodIn_r _ [29, 11, 30, 12, 10, 31, 32, 33, 34, 35, 36, 37, 38, 39, 40, 41, 42, 43, 44, 45, 46, 47, 48, 49, 50, 51, 52, 53, 54, 55, 56, 57, 58, 59] (by decide +kernel) (by decide +kernel)
set_option maxRecDepth 20000 in
theorem gX8_canMove_X8_can : GoodIn wsX8_canMove (wsV RX8 148 RX8 yX8_can wsX8_can) := goodIn_app (goodIn_of _ (by decide +kernel)) ggX8_canMove_X8_can
theorem dX8_canMove_0 : decode cX8_canMove 0 = .ok (.aload_n 0, 1) := by decide +kernel
theorem dX8_canMove_1 : decode cX8_canMove 1 = .ok (.iload_n 1, 1) := by decide +kernel
theorem dX8_canMove_2 : decode cX8_canMove 2 = .ok (.invokevirtual 145, 3) := by decide +kernel
theorem dX8_canMove_5 : decode cX8_canMove 5 = .ok (.aload_n 0, 1) := by decide +kernel
theorem dX8_canMove_6 : decode cX8_canMove 6 = .ok (.getfield 38, 3) := by decide +kernel
theorem dX8_canMove_9 : decode cX8_canMove 9 = .ok (.iload_n 1, 1) := by decide +kernel
theorem dX8_canMove_10 : decode cX8_canMove 10 = .ok (.iaload, 1) := by decide +kernel
theorem dX8_canMove_11 : decode cX8_canMove 11 = .ok (.sipush 200, 3) := by decide +kernel
theorem dX8_canMove_14 : decode cX8_canMove 14 = .ok (.if_icmp .ge 16, 3) := by decide +kernel
theorem dX8_canMove_17 : decode cX8_canMove 17 = .ok (.aload_n 0, 1) := by decide +kernel
theorem dX8_canMove_18 : decode cX8_canMove 18 = .ok (.iload_n 1, 1) := by decide +kernel
theorem dX8_canMove_19 : decode cX8_canMove 19 = .ok (.iload_n 2, 1) := by decide +kernel
theorem dX8_canMove_20 : decode cX8_canMove 20 = .ok (.invokevirtual 148, 3) := by decide +kernel
theorem dX8_canMove_23 : decode cX8_canMove 23 = .ok (.ifCond .eq 7, 3) := by decide +kernel
theorem dX8_canMove_26 : decode cX8_canMove 26 = .ok (.iconst 1, 1) := by decide +kernel
theorem dX8_canMove_27 : decode cX8_canMove 27 = .ok (.goto 4, 3) := by decide +kernel
theorem dX8_canMove_30 : decode cX8_canMove 30 = .ok (.iconst 0, 1) := by decide +kernel
theorem dX8_canMove_31 : decode cX8_canMove 31 = .ok (.ireturn, 1) := by decide +kernel
set_option maxRecDepth 20000 in
theorem ggX8_sew_X8_isBook : GoodIn wsX8_sew wsX8_isBook := goodIn_r _ [8, 9, 10, 11, 7, 12, 49, 50, 51, 52, 53, 54, 55, 56, 57, 58, 59, 60, 61, 62, 63, 64, 65, 66, 67, 68, 69, 70, 71, 72, 73, 74, 75, 76] (by decide +kernel) (by decide +kernel)
set_option maxRecDepth 20000 in
theorem gX8_sew_X8_isBook : GoodIn wsX8_sew (wsV RX8 152 RX8 yX8_isBook wsX8_isBook) := goodIn_app (goodIn_of _ (by decide +kernel)) ggX8_sew_X8_isBook
set_option maxRecDepth 20000 in
theorem ggX8_sew_X8_in : GoodIn wsX8_sew wsX8_in := goodIn_r _ [12] (by decide +kernel) (by decide +kernel)
set_option maxRecDepth 20000 in
theorem gX8_sew_X8_in : GoodIn wsX8_sew (va_wsS RX8 75 yX8_in wsX8_in) := goodIn_app (goodIn_of _ (by decide +kernel)) ggX8_sew_X8_in
set_option maxRecDepth 20000 in
theorem ggX8_sew_X8_canMove : GoodIn wsX8_sew wsX8_canMove := goodIn_r _ [16, 2, 17, 18, 19, 7, 20, 21, 22, 3, 23, 24, 25, 1, 26, 27, 28, 29, 30, 31, 32, 33, 34, 35, 36, 37, 38, 39, 40, 41, 42, 43, 49, 50, 51, 52, 53, 54, 55, 56, 57, 58, 59, 60, 61, 62, 63, 64, 65, 66, 67, 68, 69, 70, 71, 72, 73, 74, 75, 76] (by decide +kernel) (by decide +kernel)
set_option maxRecDepth 20000 in
theorem gX8_sew_X8_canMove : GoodIn wsX8_sew (wsV RX8 155 RX8 yX8_canMove wsX8_canMove) := goodIn_app (goodIn_of _ (by decide +kernel)) ggX8_sew_X8_canMove
set_option maxRecDepth 20000 in
theorem ggX8_sew_X8_goes : GoodIn wsX8_sew wsX8_goes := goodIn_r _ [47, 48, 49, 50, 51, 52, 53, 54, 55, 56, 57, 58, 59, 60, 61, 62, 63, 64, 65, 66, 67, 68, 69, 70, 71, 72, 73, 74, 75, 76] (by decide +kernel) (by decide +kernel)
set_option maxRecDepth 20000 in
theorem gX8_sew_X8_goes : GoodIn wsX8_sew (wsV RX8 83 RX8 yX8_goes wsX8_goes) := goodIn_app (goodIn_of _ (by decide +kernel)) ggX8_sew_X8_goes
set_option maxRecDepth 20000 in
theorem ggX8_sew_X8_moves : GoodIn wsX8_sew wsX8_moves := goodIn_r _ [29, 25, 24, 30, 31, 32, 7, 33, 3, 21, 23, 34, 35, 36, 37, 22, 49, 50, 51, 52, 53, 54, 55, 56, 57, 58, 59, 60, 61, 62, 63, 64, 65, 66, 67, 68, 69, 70, 71, 72, 73, 74, 75, 76] (by decide +kernel) (by decide +kernel)
set_option maxRecDepth 20000 in
theorem gX8_sew_X8_moves : GoodIn wsX8_sew (wsV RX8 143 RX8 yX8_moves wsX8_moves) := goodIn_app (goodIn_of _ (by decide +kernel)) ggX8_sew_X8_moves
theorem dX8_sew_0 : decode cX8_sew 0 = .ok (.aload_n 0, 1) := by decide +kernel
theorem dX8_sew_1 : decode cX8_sew 1 = .ok (.iload_n 1, 1) := by decide +kernel
theorem dX8_sew_2 : decode cX8_sew 2 = .ok (.invokevirtual 152, 3) := by decide +kernel
theorem dX8_sew_5 : decode cX8_sew 5 = .ok (.istore_n 3, 1) := by decide +kernel
theorem dX8_sew_6 : decode cX8_sew 6 = .ok (.iload_n 2, 1) := by decide +kernel
theorem dX8_sew_7 : decode cX8_sew 7 = .ok (.iconst 0, 1) := by decide +kernel
theorem dX8_sew_8 : decode cX8_sew 8 = .ok (.iconst 4, 1) := by decide +kernel
theorem dX8_sew_9 : decode cX8_sew 9 = .ok (.invokestatic 75, 3) := by decide +kernel
theorem dX8_sew_12 : decode cX8_sew 12 = .ok (.istore 4, 2) := by decide +kernel
theorem dX8_sew_14 : decode cX8_sew 14 = .ok (.aload_n 0, 1) := by decide +kernel
theorem dX8_sew_15 : decode cX8_sew 15 = .ok (.iload_n 3, 1) := by decide +kernel
theorem dX8_sew_16 : decode cX8_sew 16 = .ok (.iload 4, 2) := by decide +kernel
theorem dX8_sew_18 : decode cX8_sew 18 = .ok (.iload_n 3, 1) := by decide +kernel
theorem dX8_sew_19 : decode cX8_sew 19 = .ok (.ifCond .eq 21, 3) := by decide +kernel
theorem dX8_sew_22 : decode cX8_sew 22 = .ok (.iload 4, 2) := by decide +kernel
theorem dX8_sew_24 : decode cX8_sew 24 = .ok (.ifCond .eq 16, 3) := by decide +kernel
theorem dX8_sew_27 : decode cX8_sew 27 = .ok (.aload_n 0, 1) := by decide +kernel
theorem dX8_sew_28 : decode cX8_sew 28 = .ok (.iload_n 1, 1) := by decide +kernel
theorem dX8_sew_29 : decode cX8_sew 29 = .ok (.iload_n 2, 1) := by decide +kernel
theorem dX8_sew_30 : decode cX8_sew 30 = .ok (.invokevirtual 155, 3) := by decide +kernel
theorem dX8_sew_33 : decode cX8_sew 33 = .ok (.ifCond .eq 7, 3) := by decide +kernel
theorem dX8_sew_36 : decode cX8_sew 36 = .ok (.iconst 1, 1) := by decide +kernel
theorem dX8_sew_37 : decode cX8_sew 37 = .ok (.goto 4, 3) := by decide +kernel
theorem dX8_sew_40 : decode cX8_sew 40 = .ok (.iconst 0, 1) := by decide +kernel
theorem dX8_sew_41 : decode cX8_sew 41 = .ok (.invokevirtual 83, 3) := by decide +kernel
theorem dX8_sew_44 : decode cX8_sew 44 = .ok (.ifCond .ne 5, 3) := by decide +kernel
theorem dX8_sew_47 : decode cX8_sew 47 = .ok (.iconst 0, 1) := by decide +kernel
theorem dX8_sew_48 : decode cX8_sew 48 = .ok (.ireturn, 1) := by decide +kernel
theorem dX8_sew_49 : decode cX8_sew 49 = .ok (.aload_n 0, 1) := by decide +kernel
theorem dX8_sew_50 : decode cX8_sew 50 = .ok (.getfield 41, 3) := by decide +kernel
theorem dX8_sew_53 : decode cX8_sew 53 = .ok (.sipush 200, 3) := by decide +kernel
theorem dX8_sew_56 : decode cX8_sew 56 = .ok (.iload_n 1, 1) := by decide +kernel
theorem dX8_sew_57 : decode cX8_sew 57 = .ok (.imul, 1) := by decide +kernel
theorem dX8_sew_58 : decode cX8_sew 58 = .ok (.aload_n 0, 1) := by decide +kernel
theorem dX8_sew_59 : decode cX8_sew 59 = .ok (.getfield 38, 3) := by decide +kernel
theorem dX8_sew_62 : decode cX8_sew 62 = .ok (.iload_n 1, 1) := by decide +kernel
theorem dX8_sew_63 : decode cX8_sew 63 = .ok (.iaload, 1) := by decide +kernel
theorem dX8_sew_64 : decode cX8_sew 64 = .ok (.iadd, 1) := by decide +kernel
theorem dX8_sew_65 : decode cX8_sew 65 = .ok (.iload_n 2, 1) := by decide +kernel
theorem dX8_sew_66 : decode cX8_sew 66 = .ok (.iastore, 1) := by decide +kernel
theorem dX8_sew_67 : decode cX8_sew 67 = .ok (.aload_n 0, 1) := by decide +kernel
theorem dX8_sew_68 : decode cX8_sew 68 = .ok (.getfield 38, 3) := by decide +kernel
theorem dX8_sew_71 : decode cX8_sew 71 = .ok (.iload_n 1, 1) := by decide +kernel
theorem dX8_sew_72 : decode cX8_sew 72 = .ok (.dup2, 1) := by decide +kernel
theorem dX8_sew_73 : decode cX8_sew 73 = .ok (.iaload, 1) := by decide +kernel
theorem dX8_sew_74 : decode cX8_sew 74 = .ok (.iconst 1, 1) := by decide +kernel
theorem dX8_sew_75 : decode cX8_sew 75 = .ok (.iadd, 1) := by decide +kernel
theorem dX8_sew_76 : decode cX8_sew 76 = .ok (.iastore, 1) := by decide +kernel
theorem dX8_sew_77 : decode cX8_sew 77 = .ok (.aload_n 0, 1) := by decide +kernel
theorem dX8_sew_78 : decode cX8_sew 78 = .ok (.iload_n 2, 1) := by decide +kernel
theorem dX8_sew_79 : decode cX8_sew 79 = .ok (.invokevirtual 143, 3) := by decide +kernel
theorem dX8_sew_82 : decode cX8_sew 82 = .ok (.aload_n 0, 1) := by decide +kernel
theorem dX8_sew_83 : decode cX8_sew 83 = .ok (.getfield 125, 3) := by decide +kernel
theorem dX8_sew_86 : decode cX8_sew 86 = .ok (.ireturn, 1) := by decide +kernel
set_option maxRecDepth 20000 in
theorem ggX8_unsew_X8_isBook : GoodIn wsX8_unsew wsX8_isBook := goodIn_r _ [7, 8, 9, 10, 6, 11, 39, 40, 41, 42, 43, 44, 45, 46, 47, 48, 49, 50, 51, 52, 53, 54, 55, 56, 57, 58, 59, 60, 61, 62, 63, 64, 65, 66] (by decide +kernel) (by decide +kernel)
set_option maxRecDepth 20000 in
theorem gX8_unsew_X8_isBook : GoodIn wsX8_unsew (wsV RX8 152 RX8 yX8_isBook wsX8_isBook) := goodIn_app (goodIn_of _ (by decide +kernel)) ggX8_unsew_X8_isBook
set_option maxRecDepth 20000 in
theorem ggX8_unsew_X8_in : GoodIn wsX8_unsew wsX8_in := goodIn_r _ [11] (by decide +kernel) (by decide +kernel)
set_option maxRecDepth 20000 in
theorem gX8_unsew_X8_in : GoodIn wsX8_unsew (va_wsS RX8 75 yX8_in wsX8_in) := goodIn_app (goodIn_of _ (by decide +kernel)) ggX8_unsew_X8_in
set_option maxRecDepth 20000 in
theorem ggX8_unsew_X8_goes : GoodIn wsX8_unsew wsX8_goes := goodIn_r _ [15, 16, 39, 40, 41, 42, 43, 44, 45, 46, 47, 48, 49, 50, 51, 52, 53, 54, 55, 56, 57, 58, 59, 60, 61, 62, 63, 64, 65, 66] (by decide +kernel) (by decide +kernel)
set_option maxRecDepth 20000 in
theorem gX8_unsew_X8_goes : GoodIn wsX8_unsew (wsV RX8 83 RX8 yX8_goes wsX8_goes) := goodIn_app (goodIn_of _ (by decide +kernel)) ggX8_unsew_X8_goes
set_option maxRecDepth 20000 in
theorem ggX8_unsew_X8_follows : GoodIn wsX8_unsew wsX8_follows := goodIn_r _ [20, 21, 22, 2, 23, 24, 25, 1, 26, 27, 28, 29, 6, 30, 31, 32, 33, 34, 35, 36, 37, 38, 39, 40, 41, 42, 43, 44, 45, 46, 47, 48, 49, 50, 51, 52, 53, 54, 55, 56, 57, 58, 59, 60, 61, 62, 63, 64, 65, 66] (by decide +kernel) (by decide +kernel)
set_option maxRecDepth 20000 in
theorem gX8_unsew_X8_follows : GoodIn wsX8_unsew (wsV RX8 145 RX8 yX8_follows wsX8_follows) := goodIn_app (goodIn_of _ (by decide +kernel)) ggX8_unsew_X8_follows
theorem dX8_unsew_0 : decode cX8_unsew 0 = .ok (.aload_n 0, 1) := by decide +kernel
theorem dX8_unsew_1 : decode cX8_unsew 1 = .ok (.iload_n 1, 1) := by decide +kernel
theorem dX8_unsew_2 : decode cX8_unsew 2 = .ok (.invokevirtual 152, 3) := by decide +kernel
theorem dX8_unsew_5 : decode cX8_unsew 5 = .ok (.istore_n 3, 1) := by decide +kernel
theorem dX8_unsew_6 : decode cX8_unsew 6 = .ok (.aload_n 0, 1) := by decide +kernel
theorem dX8_unsew_7 : decode cX8_unsew 7 = .ok (.iload_n 3, 1) := by decide +kernel
theorem dX8_unsew_8 : decode cX8_unsew 8 = .ok (.iload_n 2, 1) := by decide +kernel
theorem dX8_unsew_9 : decode cX8_unsew 9 = .ok (.iconst 1, 1) := by decide +kernel
theorem dX8_unsew_10 : decode cX8_unsew 10 = .ok (.sipush 200, 3) := by decide +kernel
theorem dX8_unsew_13 : decode cX8_unsew 13 = .ok (.invokestatic 75, 3) := by decide +kernel
theorem dX8_unsew_16 : decode cX8_unsew 16 = .ok (.iload_n 3, 1) := by decide +kernel
theorem dX8_unsew_17 : decode cX8_unsew 17 = .ok (.ifCond .eq 25, 3) := by decide +kernel
theorem dX8_unsew_20 : decode cX8_unsew 20 = .ok (.aload_n 0, 1) := by decide +kernel
theorem dX8_unsew_21 : decode cX8_unsew 21 = .ok (.getfield 38, 3) := by decide +kernel
theorem dX8_unsew_24 : decode cX8_unsew 24 = .ok (.iload_n 3, 1) := by decide +kernel
theorem dX8_unsew_25 : decode cX8_unsew 25 = .ok (.ifCond .eq 7, 3) := by decide +kernel
theorem dX8_unsew_28 : decode cX8_unsew 28 = .ok (.iload_n 1, 1) := by decide +kernel
theorem dX8_unsew_29 : decode cX8_unsew 29 = .ok (.goto 4, 3) := by decide +kernel
theorem dX8_unsew_32 : decode cX8_unsew 32 = .ok (.iconst 0, 1) := by decide +kernel
theorem dX8_unsew_33 : decode cX8_unsew 33 = .ok (.iaload, 1) := by decide +kernel
theorem dX8_unsew_34 : decode cX8_unsew 34 = .ok (.iload_n 2, 1) := by decide +kernel
theorem dX8_unsew_35 : decode cX8_unsew 35 = .ok (.if_icmp .lt 7, 3) := by decide +kernel
theorem dX8_unsew_38 : decode cX8_unsew 38 = .ok (.iconst 1, 1) := by decide +kernel
theorem dX8_unsew_39 : decode cX8_unsew 39 = .ok (.goto 4, 3) := by decide +kernel
theorem dX8_unsew_42 : decode cX8_unsew 42 = .ok (.iconst 0, 1) := by decide +kernel
theorem dX8_unsew_43 : decode cX8_unsew 43 = .ok (.invokevirtual 83, 3) := by decide +kernel
theorem dX8_unsew_46 : decode cX8_unsew 46 = .ok (.ifCond .ne 5, 3) := by decide +kernel
theorem dX8_unsew_49 : decode cX8_unsew 49 = .ok (.iconst 0, 1) := by decide +kernel
theorem dX8_unsew_50 : decode cX8_unsew 50 = .ok (.ireturn, 1) := by decide +kernel
theorem dX8_unsew_51 : decode cX8_unsew 51 = .ok (.aload_n 0, 1) := by decide +kernel
theorem dX8_unsew_52 : decode cX8_unsew 52 = .ok (.getfield 38, 3) := by decide +kernel
theorem dX8_unsew_55 : decode cX8_unsew 55 = .ok (.iload_n 1, 1) := by decide +kernel
theorem dX8_unsew_56 : decode cX8_unsew 56 = .ok (.dup2, 1) := by decide +kernel
theorem dX8_unsew_57 : decode cX8_unsew 57 = .ok (.iaload, 1) := by decide +kernel
theorem dX8_unsew_58 : decode cX8_unsew 58 = .ok (.iload_n 2, 1) := by decide +kernel
theorem dX8_unsew_59 : decode cX8_unsew 59 = .ok (.isub, 1) := by decide +kernel
theorem dX8_unsew_60 : decode cX8_unsew 60 = .ok (.iastore, 1) := by decide +kernel
theorem dX8_unsew_61 : decode cX8_unsew 61 = .ok (.aload_n 0, 1) := by decide +kernel
theorem dX8_unsew_62 : decode cX8_unsew 62 = .ok (.iload_n 1, 1) := by decide +kernel
theorem dX8_unsew_63 : decode cX8_unsew 63 = .ok (.invokevirtual 145, 3) := by decide +kernel
theorem dX8_unsew_66 : decode cX8_unsew 66 = .ok (.aload_n 0, 1) := by decide +kernel
theorem dX8_unsew_67 : decode cX8_unsew 67 = .ok (.getfield 125, 3) := by decide +kernel
theorem dX8_unsew_70 : decode cX8_unsew 70 = .ok (.ireturn, 1) := by decide +kernel
theorem dX8_holds_0 : decode cX8_holds 0 = .ok (.iconst 0, 1) := by decide +kernel
theorem dX8_holds_1 : decode cX8_holds 1 = .ok (.istore_n 3, 1) := by decide +kernel
theorem dX8_holds_2 : decode cX8_holds 2 = .ok (.iconst 0, 1) := by decide +kernel
theorem dX8_holds_3 : decode cX8_holds 3 = .ok (.istore 4, 2) := by decide +kernel
theorem dX8_holds_5 : decode cX8_holds 5 = .ok (.iload 4, 2) := by decide +kernel
theorem dX8_holds_7 : decode cX8_holds 7 = .ok (.aload_n 0, 1) := by decide +kernel
theorem dX8_holds_8 : decode cX8_holds 8 = .ok (.getfield 25, 3) := by decide +kernel
theorem dX8_holds_11 : decode cX8_holds 11 = .ok (.iload_n 1, 1) := by decide +kernel
theorem dX8_holds_12 : decode cX8_holds 12 = .ok (.iaload, 1) := by decide +kernel
theorem dX8_holds_13 : decode cX8_holds 13 = .ok (.iconst 1, 1) := by decide +kernel
theorem dX8_holds_14 : decode cX8_holds 14 = .ok (.isub, 1) := by decide +kernel
theorem dX8_holds_15 : decode cX8_holds 15 = .ok (.if_icmp .ge 31, 3) := by decide +kernel
theorem dX8_holds_18 : decode cX8_holds 18 = .ok (.iload_n 3, 1) := by decide +kernel
theorem dX8_holds_19 : decode cX8_holds 19 = .ok (.aload_n 0, 1) := by decide +kernel
theorem dX8_holds_20 : decode cX8_holds 20 = .ok (.getfield 44, 3) := by decide +kernel
theorem dX8_holds_23 : decode cX8_holds 23 = .ok (.iconst 5, 1) := by decide +kernel
theorem dX8_holds_24 : decode cX8_holds 24 = .ok (.iload_n 2, 1) := by decide +kernel
theorem dX8_holds_25 : decode cX8_holds 25 = .ok (.imul, 1) := by decide +kernel
theorem dX8_holds_26 : decode cX8_holds 26 = .ok (.iload 4, 2) := by decide +kernel
theorem dX8_holds_28 : decode cX8_holds 28 = .ok (.iadd, 1) := by decide +kernel
theorem dX8_holds_29 : decode cX8_holds 29 = .ok (.iaload, 1) := by decide +kernel
theorem dX8_holds_30 : decode cX8_holds 30 = .ok (.ifCond .le 7, 3) := by decide +kernel
theorem dX8_holds_33 : decode cX8_holds 33 = .ok (.iconst 1, 1) := by decide +kernel
theorem dX8_holds_34 : decode cX8_holds 34 = .ok (.goto 4, 3) := by decide +kernel
theorem dX8_holds_37 : decode cX8_holds 37 = .ok (.iconst 0, 1) := by decide +kernel
theorem dX8_holds_38 : decode cX8_holds 38 = .ok (.iadd, 1) := by decide +kernel
theorem dX8_holds_39 : decode cX8_holds 39 = .ok (.istore_n 3, 1) := by decide +kernel
theorem dX8_holds_40 : decode cX8_holds 40 = .ok (.iinc 4 1, 3) := by decide +kernel
theorem dX8_holds_43 : decode cX8_holds 43 = .ok (.goto (-38), 3) := by decide +kernel
theorem dX8_holds_46 : decode cX8_holds 46 = .ok (.iload_n 3, 1) := by decide +kernel
theorem dX8_holds_47 : decode cX8_holds 47 = .ok (.aload_n 0, 1) := by decide +kernel
theorem dX8_holds_48 : decode cX8_holds 48 = .ok (.getfield 25, 3) := by decide +kernel
theorem dX8_holds_51 : decode cX8_holds 51 = .ok (.iload_n 1, 1) := by decide +kernel
theorem dX8_holds_52 : decode cX8_holds 52 = .ok (.iaload, 1) := by decide +kernel
theorem dX8_holds_53 : decode cX8_holds 53 = .ok (.iconst 2, 1) := by decide +kernel
theorem dX8_holds_54 : decode cX8_holds 54 = .ok (.idiv, 1) := by decide +kernel
theorem dX8_holds_55 : decode cX8_holds 55 = .ok (.if_icmp .lt 7, 3) := by decide +kernel
theorem dX8_holds_58 : decode cX8_holds 58 = .ok (.iconst 1, 1) := by decide +kernel
theorem dX8_holds_59 : decode cX8_holds 59 = .ok (.goto 4, 3) := by decide +kernel
theorem dX8_holds_62 : decode cX8_holds 62 = .ok (.iconst 0, 1) := by decide +kernel
theorem dX8_holds_63 : decode cX8_holds 63 = .ok (.ireturn, 1) := by decide +kernel
set_option maxRecDepth 20000 in
theorem ggX8_isSewn_X8_holds : GoodIn wsX8_isSewn wsX8_holds := goodIn_r _ [8, 9, 10, 11, 12, 13, 14, 15, 16, 17, 18, 19, 20, 21, 22, 23, 24, 25, 26, 27, 28, 29, 30, 31, 32, 33, 34, 35, 36, 37, 38] (by decide +kernel) (by decide +kernel)
set_option maxRecDepth 20000 in
theorem gX8_isSewn_X8_holds : GoodIn wsX8_isSewn (wsV RX8 158 RX8 yX8_holds wsX8_holds) := goodIn_app (goodIn_of _ (by decide +kernel)) ggX8_isSewn_X8_holds
theorem dX8_isSewn_0 : decode cX8_isSewn 0 = .ok (.aload_n 0, 1) := by decide +kernel
theorem dX8_isSewn_1 : decode cX8_isSewn 1 = .ok (.getfield 131, 3) := by decide +kernel
theorem dX8_isSewn_4 : decode cX8_isSewn 4 = .ok (.ifCond .ne 7, 3) := by decide +kernel
theorem dX8_isSewn_7 : decode cX8_isSewn 7 = .ok (.iconst 1, 1) := by decide +kernel
theorem dX8_isSewn_8 : decode cX8_isSewn 8 = .ok (.goto 4, 3) := by decide +kernel
theorem dX8_isSewn_11 : decode cX8_isSewn 11 = .ok (.iconst 0, 1) := by decide +kernel
theorem dX8_isSewn_12 : decode cX8_isSewn 12 = .ok (.istore_n 2, 1) := by decide +kernel
theorem dX8_isSewn_13 : decode cX8_isSewn 13 = .ok (.iconst 0, 1) := by decide +kernel
theorem dX8_isSewn_14 : decode cX8_isSewn 14 = .ok (.istore_n 3, 1) := by decide +kernel
theorem dX8_isSewn_15 : decode cX8_isSewn 15 = .ok (.iload_n 3, 1) := by decide +kernel
theorem dX8_isSewn_16 : decode cX8_isSewn 16 = .ok (.aload_n 0, 1) := by decide +kernel
theorem dX8_isSewn_17 : decode cX8_isSewn 17 = .ok (.getfield 19, 3) := by decide +kernel
theorem dX8_isSewn_20 : decode cX8_isSewn 20 = .ok (.iload_n 1, 1) := by decide +kernel
theorem dX8_isSewn_21 : decode cX8_isSewn 21 = .ok (.iaload, 1) := by decide +kernel
theorem dX8_isSewn_22 : decode cX8_isSewn 22 = .ok (.if_icmp .ge 49, 3) := by decide +kernel
theorem dX8_isSewn_25 : decode cX8_isSewn 25 = .ok (.iload_n 2, 1) := by decide +kernel
theorem dX8_isSewn_26 : decode cX8_isSewn 26 = .ok (.ifCond .eq 37, 3) := by decide +kernel
theorem dX8_isSewn_29 : decode cX8_isSewn 29 = .ok (.aload_n 0, 1) := by decide +kernel
theorem dX8_isSewn_30 : decode cX8_isSewn 30 = .ok (.iload_n 1, 1) := by decide +kernel
theorem dX8_isSewn_31 : decode cX8_isSewn 31 = .ok (.iload_n 3, 1) := by decide +kernel
theorem dX8_isSewn_32 : decode cX8_isSewn 32 = .ok (.invokevirtual 158, 3) := by decide +kernel
theorem dX8_isSewn_35 : decode cX8_isSewn 35 = .ok (.ifCond .eq 28, 3) := by decide +kernel
theorem dX8_isSewn_38 : decode cX8_isSewn 38 = .ok (.iload_n 3, 1) := by decide +kernel
theorem dX8_isSewn_39 : decode cX8_isSewn 39 = .ok (.aload_n 0, 1) := by decide +kernel
theorem dX8_isSewn_40 : decode cX8_isSewn 40 = .ok (.getfield 19, 3) := by decide +kernel
theorem dX8_isSewn_43 : decode cX8_isSewn 43 = .ok (.iload_n 1, 1) := by decide +kernel
theorem dX8_isSewn_44 : decode cX8_isSewn 44 = .ok (.iaload, 1) := by decide +kernel
theorem dX8_isSewn_45 : decode cX8_isSewn 45 = .ok (.iconst 1, 1) := by decide +kernel
theorem dX8_isSewn_46 : decode cX8_isSewn 46 = .ok (.isub, 1) := by decide +kernel
theorem dX8_isSewn_47 : decode cX8_isSewn 47 = .ok (.if_icmp .eq 12, 3) := by decide +kernel
theorem dX8_isSewn_50 : decode cX8_isSewn 50 = .ok (.aload_n 0, 1) := by decide +kernel
theorem dX8_isSewn_51 : decode cX8_isSewn 51 = .ok (.getfield 47, 3) := by decide +kernel
theorem dX8_isSewn_54 : decode cX8_isSewn 54 = .ok (.iload_n 3, 1) := by decide +kernel
theorem dX8_isSewn_55 : decode cX8_isSewn 55 = .ok (.baload, 1) := by decide +kernel
theorem dX8_isSewn_56 : decode cX8_isSewn 56 = .ok (.ifCond .eq 7, 3) := by decide +kernel
theorem dX8_isSewn_59 : decode cX8_isSewn 59 = .ok (.iconst 1, 1) := by decide +kernel
theorem dX8_isSewn_60 : decode cX8_isSewn 60 = .ok (.goto 4, 3) := by decide +kernel
theorem dX8_isSewn_63 : decode cX8_isSewn 63 = .ok (.iconst 0, 1) := by decide +kernel
theorem dX8_isSewn_64 : decode cX8_isSewn 64 = .ok (.istore_n 2, 1) := by decide +kernel
theorem dX8_isSewn_65 : decode cX8_isSewn 65 = .ok (.iinc 3 1, 3) := by decide +kernel
theorem dX8_isSewn_68 : decode cX8_isSewn 68 = .ok (.goto (-53), 3) := by decide +kernel
theorem dX8_isSewn_71 : decode cX8_isSewn 71 = .ok (.iload_n 2, 1) := by decide +kernel
theorem dX8_isSewn_72 : decode cX8_isSewn 72 = .ok (.ireturn, 1) := by decide +kernel
set_option maxRecDepth 20000 in
theorem ggX8_ofThread_X8_isBook : GoodIn wsX8_ofThread wsX8_isBook := goodIn_r _ [10, 11, 12, 13, 9, 14, 49, 50, 51, 52, 53, 54, 55, 56, 57, 58, 59, 60, 61, 62, 63, 64, 65, 66, 67, 68, 69, 70, 71, 72, 73, 74, 75, 76] (by decide +kernel) (by decide +kernel)
set_option maxRecDepth 20000 in
theorem gX8_ofThread_X8_isBook : GoodIn wsX8_ofThread (wsV RX8 152 RX8 yX8_isBook wsX8_isBook) := goodIn_app (goodIn_of _ (by decide +kernel)) ggX8_ofThread_X8_isBook
set_option maxRecDepth 20000 in
theorem ggX8_ofThread_X8_in : GoodIn wsX8_ofThread wsX8_in := goodIn_r _ [14] (by decide +kernel) (by decide +kernel)
set_option maxRecDepth 20000 in
theorem gX8_ofThread_X8_in : GoodIn wsX8_ofThread (va_wsS RX8 75 yX8_in wsX8_in) := goodIn_app (goodIn_of _ (by decide +kernel)) ggX8_ofThread_X8_in
set_option maxRecDepth 20000 in
theorem ggX8_ofThread_X8_goes : GoodIn wsX8_ofThread wsX8_goes := goodIn_r _ [18, 19, 49, 50, 51, 52, 53, 54, 55, 56, 57, 58, 59, 60, 61, 62, 63, 64, 65, 66, 67, 68, 69, 70, 71, 72, 73, 74, 75, 76] (by decide +kernel) (by decide +kernel)
set_option maxRecDepth 20000 in
theorem gX8_ofThread_X8_goes : GoodIn wsX8_ofThread (wsV RX8 83 RX8 yX8_goes wsX8_goes) := goodIn_app (goodIn_of _ (by decide +kernel)) ggX8_ofThread_X8_goes
set_option maxRecDepth 20000 in
theorem ggX8_ofThread_X8_follows : GoodIn wsX8_ofThread wsX8_follows := goodIn_r _ [23, 24, 25, 1, 2, 3, 4, 5, 26, 27, 28, 29, 9, 30, 31, 32, 33, 34, 35, 36, 37, 38, 49, 50, 51, 52, 53, 54, 55, 56, 57, 58, 59, 60, 61, 62, 63, 64, 65, 66, 67, 68, 69, 70, 71, 72, 73, 74, 75, 76] (by decide +kernel) (by decide +kernel)
set_option maxRecDepth 20000 in
theorem gX8_ofThread_X8_follows : GoodIn wsX8_ofThread (wsV RX8 145 RX8 yX8_follows wsX8_follows) := goodIn_app (goodIn_of _ (by decide +kernel)) ggX8_ofThread_X8_follows
set_option maxRecDepth 20000 in
theorem ggX8_ofThread_X8_isSewn : GoodIn wsX8_ofThread wsX8_isSewn := goodIn_r _ [42, 4, 43, 25, 44, 45, 46, 9, 47, 48, 24, 49, 50, 51, 52, 53, 54, 55, 56, 57, 58, 59, 60, 61, 62, 63, 64, 65, 66, 67, 68, 69, 70, 71, 72, 73, 74, 75, 76] (by decide +kernel) (by decide +kernel)
set_option maxRecDepth 20000 in
theorem gX8_ofThread_X8_isSewn : GoodIn wsX8_ofThread (wsV RX8 161 RX8 yX8_isSewn wsX8_isSewn) := goodIn_app (goodIn_of _ (by decide +kernel)) ggX8_ofThread_X8_isSewn
theorem dX8_ofThread_0 : decode cX8_ofThread 0 = .ok (.aload_n 0, 1) := by decide +kernel
theorem dX8_ofThread_1 : decode cX8_ofThread 1 = .ok (.aload_n 0, 1) := by decide +kernel
theorem dX8_ofThread_2 : decode cX8_ofThread 2 = .ok (.iload_n 1, 1) := by decide +kernel
theorem dX8_ofThread_3 : decode cX8_ofThread 3 = .ok (.invokevirtual 152, 3) := by decide +kernel
theorem dX8_ofThread_6 : decode cX8_ofThread 6 = .ok (.iload_n 2, 1) := by decide +kernel
theorem dX8_ofThread_7 : decode cX8_ofThread 7 = .ok (.iconst 0, 1) := by decide +kernel
theorem dX8_ofThread_8 : decode cX8_ofThread 8 = .ok (.iconst 5, 1) := by decide +kernel
theorem dX8_ofThread_9 : decode cX8_ofThread 9 = .ok (.invokestatic 75, 3) := by decide +kernel
theorem dX8_ofThread_12 : decode cX8_ofThread 12 = .ok (.iconst 1, 1) := by decide +kernel
theorem dX8_ofThread_13 : decode cX8_ofThread 13 = .ok (.invokevirtual 83, 3) := by decide +kernel
theorem dX8_ofThread_16 : decode cX8_ofThread 16 = .ok (.ifCond .ne 5, 3) := by decide +kernel
theorem dX8_ofThread_19 : decode cX8_ofThread 19 = .ok (.iconst 0, 1) := by decide +kernel
theorem dX8_ofThread_20 : decode cX8_ofThread 20 = .ok (.ireturn, 1) := by decide +kernel
theorem dX8_ofThread_21 : decode cX8_ofThread 21 = .ok (.aload_n 0, 1) := by decide +kernel
theorem dX8_ofThread_22 : decode cX8_ofThread 22 = .ok (.iload_n 1, 1) := by decide +kernel
theorem dX8_ofThread_23 : decode cX8_ofThread 23 = .ok (.invokevirtual 145, 3) := by decide +kernel
theorem dX8_ofThread_26 : decode cX8_ofThread 26 = .ok (.iload_n 2, 1) := by decide +kernel
theorem dX8_ofThread_27 : decode cX8_ofThread 27 = .ok (.ifCond .ne 10, 3) := by decide +kernel
theorem dX8_ofThread_30 : decode cX8_ofThread 30 = .ok (.aload_n 0, 1) := by decide +kernel
theorem dX8_ofThread_31 : decode cX8_ofThread 31 = .ok (.getfield 125, 3) := by decide +kernel
theorem dX8_ofThread_34 : decode cX8_ofThread 34 = .ok (.goto 74, 3) := by decide +kernel
theorem dX8_ofThread_37 : decode cX8_ofThread 37 = .ok (.iload_n 2, 1) := by decide +kernel
theorem dX8_ofThread_38 : decode cX8_ofThread 38 = .ok (.iconst 1, 1) := by decide +kernel
theorem dX8_ofThread_39 : decode cX8_ofThread 39 = .ok (.if_icmp .ne 10, 3) := by decide +kernel
theorem dX8_ofThread_42 : decode cX8_ofThread 42 = .ok (.aload_n 0, 1) := by decide +kernel
theorem dX8_ofThread_43 : decode cX8_ofThread 43 = .ok (.getfield 128, 3) := by decide +kernel
theorem dX8_ofThread_46 : decode cX8_ofThread 46 = .ok (.goto 62, 3) := by decide +kernel
theorem dX8_ofThread_49 : decode cX8_ofThread 49 = .ok (.iload_n 2, 1) := by decide +kernel
theorem dX8_ofThread_50 : decode cX8_ofThread 50 = .ok (.iconst 2, 1) := by decide +kernel
theorem dX8_ofThread_51 : decode cX8_ofThread 51 = .ok (.if_icmp .ne 10, 3) := by decide +kernel
theorem dX8_ofThread_54 : decode cX8_ofThread 54 = .ok (.aload_n 0, 1) := by decide +kernel
theorem dX8_ofThread_55 : decode cX8_ofThread 55 = .ok (.getfield 122, 3) := by decide +kernel
theorem dX8_ofThread_58 : decode cX8_ofThread 58 = .ok (.goto 50, 3) := by decide +kernel
theorem dX8_ofThread_61 : decode cX8_ofThread 61 = .ok (.iload_n 2, 1) := by decide +kernel
theorem dX8_ofThread_62 : decode cX8_ofThread 62 = .ok (.iconst 3, 1) := by decide +kernel
theorem dX8_ofThread_63 : decode cX8_ofThread 63 = .ok (.if_icmp .ne 18, 3) := by decide +kernel
theorem dX8_ofThread_66 : decode cX8_ofThread 66 = .ok (.aload_n 0, 1) := by decide +kernel
theorem dX8_ofThread_67 : decode cX8_ofThread 67 = .ok (.getfield 131, 3) := by decide +kernel
theorem dX8_ofThread_70 : decode cX8_ofThread 70 = .ok (.ifCond .eq 7, 3) := by decide +kernel
theorem dX8_ofThread_73 : decode cX8_ofThread 73 = .ok (.iconst 1, 1) := by decide +kernel
theorem dX8_ofThread_74 : decode cX8_ofThread 74 = .ok (.goto 34, 3) := by decide +kernel
theorem dX8_ofThread_77 : decode cX8_ofThread 77 = .ok (.iconst 0, 1) := by decide +kernel
theorem dX8_ofThread_78 : decode cX8_ofThread 78 = .ok (.goto 30, 3) := by decide +kernel
theorem dX8_ofThread_81 : decode cX8_ofThread 81 = .ok (.iload_n 2, 1) := by decide +kernel
theorem dX8_ofThread_82 : decode cX8_ofThread 82 = .ok (.iconst 4, 1) := by decide +kernel
theorem dX8_ofThread_83 : decode cX8_ofThread 83 = .ok (.if_icmp .ne 12, 3) := by decide +kernel
theorem dX8_ofThread_86 : decode cX8_ofThread 86 = .ok (.aload_n 0, 1) := by decide +kernel
theorem dX8_ofThread_87 : decode cX8_ofThread 87 = .ok (.getfield 38, 3) := by decide +kernel
theorem dX8_ofThread_90 : decode cX8_ofThread 90 = .ok (.iload_n 1, 1) := by decide +kernel
theorem dX8_ofThread_91 : decode cX8_ofThread 91 = .ok (.iaload, 1) := by decide +kernel
theorem dX8_ofThread_92 : decode cX8_ofThread 92 = .ok (.goto 16, 3) := by decide +kernel
theorem dX8_ofThread_95 : decode cX8_ofThread 95 = .ok (.aload_n 0, 1) := by decide +kernel
theorem dX8_ofThread_96 : decode cX8_ofThread 96 = .ok (.iload_n 1, 1) := by decide +kernel
theorem dX8_ofThread_97 : decode cX8_ofThread 97 = .ok (.invokevirtual 161, 3) := by decide +kernel
theorem dX8_ofThread_100 : decode cX8_ofThread 100 = .ok (.ifCond .eq 7, 3) := by decide +kernel
theorem dX8_ofThread_103 : decode cX8_ofThread 103 = .ok (.iconst 1, 1) := by decide +kernel
theorem dX8_ofThread_104 : decode cX8_ofThread 104 = .ok (.goto 4, 3) := by decide +kernel
theorem dX8_ofThread_107 : decode cX8_ofThread 107 = .ok (.iconst 0, 1) := by decide +kernel
theorem dX8_ofThread_108 : decode cX8_ofThread 108 = .ok (.ireturn, 1) := by decide +kernel
set_option maxRecDepth 20000 in
theorem ggX8_isGathering_X8_isBook : GoodIn wsX8_isGathering wsX8_isBook := goodIn_r _ [6, 7, 8, 9, 5, 10, 11, 12, 13, 14, 15, 16, 17, 18, 19, 20, 21, 22, 23, 24, 25, 26, 27, 28, 29, 30, 31, 32, 33, 34, 35, 36, 37, 38] (by decide +kernel) (by decide +kernel)
set_option maxRecDepth 20000 in
theorem gX8_isGathering_X8_isBook : GoodIn wsX8_isGathering (wsV RX8 152 RX8 yX8_isBook wsX8_isBook) := goodIn_app (goodIn_of _ (by decide +kernel)) ggX8_isGathering_X8_isBook
set_option maxRecDepth 20000 in
theorem ggX8_isGathering_X8_in : GoodIn wsX8_isGathering wsX8_in := goodIn_r _ [10] (by decide +kernel) (by decide +kernel)
set_option maxRecDepth 20000 in
theorem gX8_isGathering_X8_in : GoodIn wsX8_isGathering (va_wsS RX8 75 yX8_in wsX8_in) := goodIn_app (goodIn_of _ (by decide +kernel)) ggX8_isGathering_X8_in
theorem dX8_isGathering_0 : decode cX8_isGathering 0 = .ok (.aload_n 0, 1) := by decide +kernel
theorem dX8_isGathering_1 : decode cX8_isGathering 1 = .ok (.iload_n 1, 1) := by decide +kernel
theorem dX8_isGathering_2 : decode cX8_isGathering 2 = .ok (.invokevirtual 152, 3) := by decide +kernel
theorem dX8_isGathering_5 : decode cX8_isGathering 5 = .ok (.ifCond .eq 35, 3) := by decide +kernel
theorem dX8_isGathering_8 : decode cX8_isGathering 8 = .ok (.iload_n 2, 1) := by decide +kernel
theorem dX8_isGathering_9 : decode cX8_isGathering 9 = .ok (.iconst 0, 1) := by decide +kernel
theorem dX8_isGathering_10 : decode cX8_isGathering 10 = .ok (.aload_n 0, 1) := by decide +kernel
theorem dX8_isGathering_11 : decode cX8_isGathering 11 = .ok (.getfield 19, 3) := by decide +kernel
theorem dX8_isGathering_14 : decode cX8_isGathering 14 = .ok (.aload_n 0, 1) := by decide +kernel
theorem dX8_isGathering_15 : decode cX8_isGathering 15 = .ok (.iload_n 1, 1) := by decide +kernel
theorem dX8_isGathering_16 : decode cX8_isGathering 16 = .ok (.invokevirtual 152, 3) := by decide +kernel
theorem dX8_isGathering_19 : decode cX8_isGathering 19 = .ok (.ifCond .eq 7, 3) := by decide +kernel
theorem dX8_isGathering_22 : decode cX8_isGathering 22 = .ok (.iload_n 1, 1) := by decide +kernel
theorem dX8_isGathering_23 : decode cX8_isGathering 23 = .ok (.goto 4, 3) := by decide +kernel
theorem dX8_isGathering_26 : decode cX8_isGathering 26 = .ok (.iconst 0, 1) := by decide +kernel
theorem dX8_isGathering_27 : decode cX8_isGathering 27 = .ok (.iaload, 1) := by decide +kernel
theorem dX8_isGathering_28 : decode cX8_isGathering 28 = .ok (.iconst 1, 1) := by decide +kernel
theorem dX8_isGathering_29 : decode cX8_isGathering 29 = .ok (.isub, 1) := by decide +kernel
theorem dX8_isGathering_30 : decode cX8_isGathering 30 = .ok (.invokestatic 75, 3) := by decide +kernel
theorem dX8_isGathering_33 : decode cX8_isGathering 33 = .ok (.ifCond .eq 7, 3) := by decide +kernel
theorem dX8_isGathering_36 : decode cX8_isGathering 36 = .ok (.iconst 1, 1) := by decide +kernel
theorem dX8_isGathering_37 : decode cX8_isGathering 37 = .ok (.goto 4, 3) := by decide +kernel
theorem dX8_isGathering_40 : decode cX8_isGathering 40 = .ok (.iconst 0, 1) := by decide +kernel
theorem dX8_isGathering_41 : decode cX8_isGathering 41 = .ok (.ireturn, 1) := by decide +kernel
set_option maxRecDepth 20000 in
theorem ggX8_stitches_X8_isGathering : GoodIn wsX8_stitches wsX8_isGathering := goodIn_r _ [7, 8, 9, 10, 11, 6, 12, 13, 14, 15, 16, 45, 46, 47, 48, 49, 50, 51, 52, 53, 54, 55, 56, 57, 58, 59, 60, 61, 62, 63, 64, 65, 66, 67, 68, 69, 70, 71, 72] (by decide +kernel) (by decide +kernel)
set_option maxRecDepth 20000 in
theorem gX8_stitches_X8_isGathering : GoodIn wsX8_stitches (wsV RX8 164 RX8 yX8_isGathering wsX8_isGathering) := goodIn_app (goodIn_of _ (by decide +kernel)) ggX8_stitches_X8_isGathering
set_option maxRecDepth 20000 in
theorem ggX8_stitches_X8_isBook : GoodIn wsX8_stitches wsX8_isBook := goodIn_r _ [12, 13, 14, 15, 6, 16, 45, 46, 47, 48, 49, 50, 51, 52, 53, 54, 55, 56, 57, 58, 59, 60, 61, 62, 63, 64, 65, 66, 67, 68, 69, 70, 71, 72] (by decide +kernel) (by decide +kernel)
set_option maxRecDepth 20000 in
theorem gX8_stitches_X8_isBook : GoodIn wsX8_stitches (wsV RX8 152 RX8 yX8_isBook wsX8_isBook) := goodIn_app (goodIn_of _ (by decide +kernel)) ggX8_stitches_X8_isBook
set_option maxRecDepth 20000 in
theorem ggX8_stitches_X8_in : GoodIn wsX8_stitches wsX8_in := goodIn_r _ [16] (by decide +kernel) (by decide +kernel)
set_option maxRecDepth 20000 in
theorem gX8_stitches_X8_in : GoodIn wsX8_stitches (va_wsS RX8 75 yX8_in wsX8_in) := goodIn_app (goodIn_of _ (by decide +kernel)) ggX8_stitches_X8_in
set_option maxRecDepth 20000 in
theorem ggX8_stitches_X8_goes : GoodIn wsX8_stitches wsX8_goes := goodIn_r _ [20, 21, 45, 46, 47, 48, 49, 50, 51, 52, 53, 54, 55, 56, 57, 58, 59, 60, 61, 62, 63, 64, 65, 66, 67, 68, 69, 70, 71, 72] (by decide +kernel) (by decide +kernel)
set_option maxRecDepth 20000 in
theorem gX8_stitches_X8_goes : GoodIn wsX8_stitches (wsV RX8 83 RX8 yX8_goes wsX8_goes) := goodIn_app (goodIn_of _ (by decide +kernel)) ggX8_stitches_X8_goes
set_option maxRecDepth 20000 in
theorem ggX8_stitches_X8_follows : GoodIn wsX8_stitches wsX8_follows := goodIn_r _ [25, 2, 26, 27, 28, 29, 30, 31, 32, 33, 34, 35, 6, 36, 37, 38, 39, 40, 41, 42, 43, 44, 45, 46, 47, 48, 49, 50, 51, 52, 53, 54, 55, 56, 57, 58, 59, 60, 61, 62, 63, 64, 65, 66, 67, 68, 69, 70, 71, 72] (by decide +kernel) (by decide +kernel)
set_option maxRecDepth 20000 in
theorem gX8_stitches_X8_follows : GoodIn wsX8_stitches (wsV RX8 145 RX8 yX8_follows wsX8_follows) := goodIn_app (goodIn_of _ (by decide +kernel)) ggX8_stitches_X8_follows
theorem dX8_stitches_0 : decode cX8_stitches 0 = .ok (.aload_n 0, 1) := by decide +kernel
theorem dX8_stitches_1 : decode cX8_stitches 1 = .ok (.aload_n 0, 1) := by decide +kernel
theorem dX8_stitches_2 : decode cX8_stitches 2 = .ok (.iload_n 1, 1) := by decide +kernel
theorem dX8_stitches_3 : decode cX8_stitches 3 = .ok (.iload_n 2, 1) := by decide +kernel
theorem dX8_stitches_4 : decode cX8_stitches 4 = .ok (.invokevirtual 164, 3) := by decide +kernel
theorem dX8_stitches_7 : decode cX8_stitches 7 = .ok (.ifCond .eq 35, 3) := by decide +kernel
theorem dX8_stitches_10 : decode cX8_stitches 10 = .ok (.iload_n 3, 1) := by decide +kernel
theorem dX8_stitches_11 : decode cX8_stitches 11 = .ok (.iconst 0, 1) := by decide +kernel
theorem dX8_stitches_12 : decode cX8_stitches 12 = .ok (.aload_n 0, 1) := by decide +kernel
theorem dX8_stitches_13 : decode cX8_stitches 13 = .ok (.getfield 25, 3) := by decide +kernel
theorem dX8_stitches_16 : decode cX8_stitches 16 = .ok (.aload_n 0, 1) := by decide +kernel
theorem dX8_stitches_17 : decode cX8_stitches 17 = .ok (.iload_n 1, 1) := by decide +kernel
theorem dX8_stitches_18 : decode cX8_stitches 18 = .ok (.invokevirtual 152, 3) := by decide +kernel
theorem dX8_stitches_21 : decode cX8_stitches 21 = .ok (.ifCond .eq 7, 3) := by decide +kernel
theorem dX8_stitches_24 : decode cX8_stitches 24 = .ok (.iload_n 1, 1) := by decide +kernel
theorem dX8_stitches_25 : decode cX8_stitches 25 = .ok (.goto 4, 3) := by decide +kernel
theorem dX8_stitches_28 : decode cX8_stitches 28 = .ok (.iconst 0, 1) := by decide +kernel
theorem dX8_stitches_29 : decode cX8_stitches 29 = .ok (.iaload, 1) := by decide +kernel
theorem dX8_stitches_30 : decode cX8_stitches 30 = .ok (.iconst 2, 1) := by decide +kernel
theorem dX8_stitches_31 : decode cX8_stitches 31 = .ok (.isub, 1) := by decide +kernel
theorem dX8_stitches_32 : decode cX8_stitches 32 = .ok (.invokestatic 75, 3) := by decide +kernel
theorem dX8_stitches_35 : decode cX8_stitches 35 = .ok (.ifCond .eq 7, 3) := by decide +kernel
theorem dX8_stitches_38 : decode cX8_stitches 38 = .ok (.iconst 1, 1) := by decide +kernel
theorem dX8_stitches_39 : decode cX8_stitches 39 = .ok (.goto 4, 3) := by decide +kernel
theorem dX8_stitches_42 : decode cX8_stitches 42 = .ok (.iconst 0, 1) := by decide +kernel
theorem dX8_stitches_43 : decode cX8_stitches 43 = .ok (.iconst 1, 1) := by decide +kernel
theorem dX8_stitches_44 : decode cX8_stitches 44 = .ok (.iconst 1, 1) := by decide +kernel
theorem dX8_stitches_45 : decode cX8_stitches 45 = .ok (.invokevirtual 83, 3) := by decide +kernel
theorem dX8_stitches_48 : decode cX8_stitches 48 = .ok (.ifCond .ne 5, 3) := by decide +kernel
theorem dX8_stitches_51 : decode cX8_stitches 51 = .ok (.iconst 0, 1) := by decide +kernel
theorem dX8_stitches_52 : decode cX8_stitches 52 = .ok (.ireturn, 1) := by decide +kernel
theorem dX8_stitches_53 : decode cX8_stitches 53 = .ok (.aload_n 0, 1) := by decide +kernel
theorem dX8_stitches_54 : decode cX8_stitches 54 = .ok (.iload_n 1, 1) := by decide +kernel
theorem dX8_stitches_55 : decode cX8_stitches 55 = .ok (.invokevirtual 145, 3) := by decide +kernel
theorem dX8_stitches_58 : decode cX8_stitches 58 = .ok (.aload_n 0, 1) := by decide +kernel
theorem dX8_stitches_59 : decode cX8_stitches 59 = .ok (.getfield 44, 3) := by decide +kernel
theorem dX8_stitches_62 : decode cX8_stitches 62 = .ok (.iconst 5, 1) := by decide +kernel
theorem dX8_stitches_63 : decode cX8_stitches 63 = .ok (.iload_n 2, 1) := by decide +kernel
theorem dX8_stitches_64 : decode cX8_stitches 64 = .ok (.imul, 1) := by decide +kernel
theorem dX8_stitches_65 : decode cX8_stitches 65 = .ok (.iload_n 3, 1) := by decide +kernel
theorem dX8_stitches_66 : decode cX8_stitches 66 = .ok (.iadd, 1) := by decide +kernel
theorem dX8_stitches_67 : decode cX8_stitches 67 = .ok (.iaload, 1) := by decide +kernel
theorem dX8_stitches_68 : decode cX8_stitches 68 = .ok (.ireturn, 1) := by decide +kernel
set_option maxRecDepth 20000 in
theorem ggX8_isHeld_X8_isGathering : GoodIn wsX8_isHeld wsX8_isGathering := goodIn_r _ [5, 6, 7, 8, 9, 4, 10, 11, 12, 13, 14, 49, 50, 51, 52, 53, 54, 55, 56, 57, 58, 59, 60, 61, 62, 63, 64, 65, 66, 67, 68, 69, 70, 71, 72, 73, 74, 75, 76] (by decide +kernel) (by decide +kernel)
set_option maxRecDepth 20000 in
theorem gX8_isHeld_X8_isGathering : GoodIn wsX8_isHeld (wsV RX8 164 RX8 yX8_isGathering wsX8_isGathering) := goodIn_app (goodIn_of _ (by decide +kernel)) ggX8_isHeld_X8_isGathering
set_option maxRecDepth 20000 in
theorem ggX8_isHeld_X8_goes : GoodIn wsX8_isHeld wsX8_goes := goodIn_r _ [18, 19, 49, 50, 51, 52, 53, 54, 55, 56, 57, 58, 59, 60, 61, 62, 63, 64, 65, 66, 67, 68, 69, 70, 71, 72, 73, 74, 75, 76] (by decide +kernel) (by decide +kernel)
set_option maxRecDepth 20000 in
theorem gX8_isHeld_X8_goes : GoodIn wsX8_isHeld (wsV RX8 83 RX8 yX8_goes wsX8_goes) := goodIn_app (goodIn_of _ (by decide +kernel)) ggX8_isHeld_X8_goes
set_option maxRecDepth 20000 in
theorem ggX8_isHeld_X8_follows : GoodIn wsX8_isHeld wsX8_follows := goodIn_r _ [23, 24, 25, 26, 27, 28, 29, 30, 31, 32, 33, 34, 4, 35, 36, 37, 38, 39, 40, 41, 42, 43, 49, 50, 51, 52, 53, 54, 55, 56, 57, 58, 59, 60, 61, 62, 63, 64, 65, 66, 67, 68, 69, 70, 71, 72, 73, 74, 75, 76] (by decide +kernel) (by decide +kernel)
set_option maxRecDepth 20000 in
theorem gX8_isHeld_X8_follows : GoodIn wsX8_isHeld (wsV RX8 145 RX8 yX8_follows wsX8_follows) := goodIn_app (goodIn_of _ (by decide +kernel)) ggX8_isHeld_X8_follows
set_option maxRecDepth 20000 in
theorem ggX8_isHeld_X8_holds : GoodIn wsX8_isHeld wsX8_holds := goodIn_r _ [47, 48, 24, 49, 50, 51, 52, 53, 54, 55, 56, 57, 58, 59, 60, 61, 62, 63, 64, 65, 66, 67, 68, 69, 70, 71, 72, 73, 74, 75, 76] (by decide +kernel) (by decide +kernel)
set_option maxRecDepth 20000 in
theorem gX8_isHeld_X8_holds : GoodIn wsX8_isHeld (wsV RX8 158 RX8 yX8_holds wsX8_holds) := goodIn_app (goodIn_of _ (by decide +kernel)) ggX8_isHeld_X8_holds
theorem dX8_isHeld_0 : decode cX8_isHeld 0 = .ok (.aload_n 0, 1) := by decide +kernel
theorem dX8_isHeld_1 : decode cX8_isHeld 1 = .ok (.aload_n 0, 1) := by decide +kernel
theorem dX8_isHeld_2 : decode cX8_isHeld 2 = .ok (.iload_n 1, 1) := by decide +kernel
theorem dX8_isHeld_3 : decode cX8_isHeld 3 = .ok (.iload_n 2, 1) := by decide +kernel
theorem dX8_isHeld_4 : decode cX8_isHeld 4 = .ok (.invokevirtual 164, 3) := by decide +kernel
theorem dX8_isHeld_7 : decode cX8_isHeld 7 = .ok (.iconst 1, 1) := by decide +kernel
theorem dX8_isHeld_8 : decode cX8_isHeld 8 = .ok (.iconst 1, 1) := by decide +kernel
theorem dX8_isHeld_9 : decode cX8_isHeld 9 = .ok (.invokevirtual 83, 3) := by decide +kernel
theorem dX8_isHeld_12 : decode cX8_isHeld 12 = .ok (.ifCond .ne 5, 3) := by decide +kernel
theorem dX8_isHeld_15 : decode cX8_isHeld 15 = .ok (.iconst 0, 1) := by decide +kernel
theorem dX8_isHeld_16 : decode cX8_isHeld 16 = .ok (.ireturn, 1) := by decide +kernel
theorem dX8_isHeld_17 : decode cX8_isHeld 17 = .ok (.aload_n 0, 1) := by decide +kernel
theorem dX8_isHeld_18 : decode cX8_isHeld 18 = .ok (.iload_n 1, 1) := by decide +kernel
theorem dX8_isHeld_19 : decode cX8_isHeld 19 = .ok (.invokevirtual 145, 3) := by decide +kernel
theorem dX8_isHeld_22 : decode cX8_isHeld 22 = .ok (.aload_n 0, 1) := by decide +kernel
theorem dX8_isHeld_23 : decode cX8_isHeld 23 = .ok (.iload_n 1, 1) := by decide +kernel
theorem dX8_isHeld_24 : decode cX8_isHeld 24 = .ok (.iload_n 2, 1) := by decide +kernel
theorem dX8_isHeld_25 : decode cX8_isHeld 25 = .ok (.invokevirtual 158, 3) := by decide +kernel
theorem dX8_isHeld_28 : decode cX8_isHeld 28 = .ok (.ireturn, 1) := by decide +kernel
set_option maxRecDepth 20000 in
theorem ggX8_back_X8_isBook : GoodIn wsX8_back wsX8_isBook := goodIn_r _ [6, 7, 8, 9, 5, 10, 16, 17, 18, 19, 20, 21, 22, 23, 24, 25, 26, 27, 28, 29, 30, 31, 32, 33, 34, 35, 36, 37, 38, 39, 40, 41, 42, 43] (by decide +kernel) (by decide +kernel)
set_option maxRecDepth 20000 in
theorem gX8_back_X8_isBook : GoodIn wsX8_back (wsV RX8 152 RX8 yX8_isBook wsX8_isBook) := goodIn_app (goodIn_of _ (by decide +kernel)) ggX8_back_X8_isBook
set_option maxRecDepth 20000 in
theorem ggX8_back_X8_in : GoodIn wsX8_back wsX8_in := goodIn_r _ [10] (by decide +kernel) (by decide +kernel)
set_option maxRecDepth 20000 in
theorem gX8_back_X8_in : GoodIn wsX8_back (va_wsS RX8 75 yX8_in wsX8_in) := goodIn_app (goodIn_of _ (by decide +kernel)) ggX8_back_X8_in
set_option maxRecDepth 20000 in
theorem ggX8_back_X8_goes : GoodIn wsX8_back wsX8_goes := goodIn_r _ [14, 15, 16, 17, 18, 19, 20, 21, 22, 23, 24, 25, 26, 27, 28, 29, 30, 31, 32, 33, 34, 35, 36, 37, 38, 39, 40, 41, 42, 43] (by decide +kernel) (by decide +kernel)
set_option maxRecDepth 20000 in
theorem gX8_back_X8_goes : GoodIn wsX8_back (wsV RX8 83 RX8 yX8_goes wsX8_goes) := goodIn_app (goodIn_of _ (by decide +kernel)) ggX8_back_X8_goes
theorem dX8_back_0 : decode cX8_back 0 = .ok (.aload_n 0, 1) := by decide +kernel
theorem dX8_back_1 : decode cX8_back 1 = .ok (.aload_n 0, 1) := by decide +kernel
theorem dX8_back_2 : decode cX8_back 2 = .ok (.iload_n 1, 1) := by decide +kernel
theorem dX8_back_3 : decode cX8_back 3 = .ok (.invokevirtual 152, 3) := by decide +kernel
theorem dX8_back_6 : decode cX8_back 6 = .ok (.iload_n 2, 1) := by decide +kernel
theorem dX8_back_7 : decode cX8_back 7 = .ok (.iconst 0, 1) := by decide +kernel
theorem dX8_back_8 : decode cX8_back 8 = .ok (.iconst 2, 1) := by decide +kernel
theorem dX8_back_9 : decode cX8_back 9 = .ok (.invokestatic 75, 3) := by decide +kernel
theorem dX8_back_12 : decode cX8_back 12 = .ok (.iconst 1, 1) := by decide +kernel
theorem dX8_back_13 : decode cX8_back 13 = .ok (.invokevirtual 83, 3) := by decide +kernel
theorem dX8_back_16 : decode cX8_back 16 = .ok (.ifCond .ne 5, 3) := by decide +kernel
theorem dX8_back_19 : decode cX8_back 19 = .ok (.iconst 0, 1) := by decide +kernel
theorem dX8_back_20 : decode cX8_back 20 = .ok (.ireturn, 1) := by decide +kernel
theorem dX8_back_21 : decode cX8_back 21 = .ok (.aload_n 0, 1) := by decide +kernel
theorem dX8_back_22 : decode cX8_back 22 = .ok (.getfield 35, 3) := by decide +kernel
theorem dX8_back_25 : decode cX8_back 25 = .ok (.iload_n 1, 1) := by decide +kernel
theorem dX8_back_26 : decode cX8_back 26 = .ok (.iaload, 1) := by decide +kernel
theorem dX8_back_27 : decode cX8_back 27 = .ok (.istore_n 3, 1) := by decide +kernel
theorem dX8_back_28 : decode cX8_back 28 = .ok (.aload_n 0, 1) := by decide +kernel
theorem dX8_back_29 : decode cX8_back 29 = .ok (.getfield 35, 3) := by decide +kernel
theorem dX8_back_32 : decode cX8_back 32 = .ok (.iload_n 1, 1) := by decide +kernel
theorem dX8_back_33 : decode cX8_back 33 = .ok (.iload_n 2, 1) := by decide +kernel
theorem dX8_back_34 : decode cX8_back 34 = .ok (.iastore, 1) := by decide +kernel
theorem dX8_back_35 : decode cX8_back 35 = .ok (.iload_n 3, 1) := by decide +kernel
theorem dX8_back_36 : decode cX8_back 36 = .ok (.ireturn, 1) := by decide +kernel
set_option maxRecDepth 20000 in
theorem ggX8_swells_X8_follows : GoodIn wsX8_swells wsX8_follows := goodIn_r _ [7, 2, 8, 9, 10, 11, 12, 13, 14, 15, 16, 17, 6, 18, 19, 20, 21, 22, 23, 24, 25, 26, 27, 28, 29, 30, 31, 32, 33, 34, 35, 36, 37, 38, 39, 40, 41, 42, 43, 44, 45, 46, 47, 48, 49, 50, 51, 52, 53, 54] (by decide +kernel) (by decide +kernel)
set_option maxRecDepth 20000 in
theorem gX8_swells_X8_follows : GoodIn wsX8_swells (wsV RX8 145 RX8 yX8_follows wsX8_follows) := goodIn_app (goodIn_of _ (by decide +kernel)) ggX8_swells_X8_follows
theorem dX8_swells_0 : decode cX8_swells 0 = .ok (.aload_n 0, 1) := by decide +kernel
theorem dX8_swells_1 : decode cX8_swells 1 = .ok (.iload_n 1, 1) := by decide +kernel
theorem dX8_swells_2 : decode cX8_swells 2 = .ok (.invokevirtual 145, 3) := by decide +kernel
theorem dX8_swells_5 : decode cX8_swells 5 = .ok (.iconst 0, 1) := by decide +kernel
theorem dX8_swells_6 : decode cX8_swells 6 = .ok (.istore_n 2, 1) := by decide +kernel
theorem dX8_swells_7 : decode cX8_swells 7 = .ok (.iconst 0, 1) := by decide +kernel
theorem dX8_swells_8 : decode cX8_swells 8 = .ok (.istore_n 3, 1) := by decide +kernel
theorem dX8_swells_9 : decode cX8_swells 9 = .ok (.iload_n 3, 1) := by decide +kernel
theorem dX8_swells_10 : decode cX8_swells 10 = .ok (.aload_n 0, 1) := by decide +kernel
theorem dX8_swells_11 : decode cX8_swells 11 = .ok (.getfield 19, 3) := by decide +kernel
theorem dX8_swells_14 : decode cX8_swells 14 = .ok (.iload_n 1, 1) := by decide +kernel
theorem dX8_swells_15 : decode cX8_swells 15 = .ok (.iaload, 1) := by decide +kernel
theorem dX8_swells_16 : decode cX8_swells 16 = .ok (.if_icmp .ge 66, 3) := by decide +kernel
theorem dX8_swells_19 : decode cX8_swells 19 = .ok (.iconst 0, 1) := by decide +kernel
theorem dX8_swells_20 : decode cX8_swells 20 = .ok (.istore 4, 2) := by decide +kernel
theorem dX8_swells_22 : decode cX8_swells 22 = .ok (.iconst 0, 1) := by decide +kernel
theorem dX8_swells_23 : decode cX8_swells 23 = .ok (.istore 5, 2) := by decide +kernel
theorem dX8_swells_25 : decode cX8_swells 25 = .ok (.iload 5, 2) := by decide +kernel
theorem dX8_swells_27 : decode cX8_swells 27 = .ok (.iconst 5, 1) := by decide +kernel
theorem dX8_swells_28 : decode cX8_swells 28 = .ok (.if_icmp .ge 43, 3) := by decide +kernel
theorem dX8_swells_31 : decode cX8_swells 31 = .ok (.aload_n 0, 1) := by decide +kernel
theorem dX8_swells_32 : decode cX8_swells 32 = .ok (.getfield 44, 3) := by decide +kernel
theorem dX8_swells_35 : decode cX8_swells 35 = .ok (.iconst 5, 1) := by decide +kernel
theorem dX8_swells_36 : decode cX8_swells 36 = .ok (.iload_n 3, 1) := by decide +kernel
theorem dX8_swells_37 : decode cX8_swells 37 = .ok (.imul, 1) := by decide +kernel
theorem dX8_swells_38 : decode cX8_swells 38 = .ok (.iload 5, 2) := by decide +kernel
theorem dX8_swells_40 : decode cX8_swells 40 = .ok (.iadd, 1) := by decide +kernel
theorem dX8_swells_41 : decode cX8_swells 41 = .ok (.iaload, 1) := by decide +kernel
theorem dX8_swells_42 : decode cX8_swells 42 = .ok (.iload 4, 2) := by decide +kernel
theorem dX8_swells_44 : decode cX8_swells 44 = .ok (.if_icmp .le 17, 3) := by decide +kernel
theorem dX8_swells_47 : decode cX8_swells 47 = .ok (.aload_n 0, 1) := by decide +kernel
theorem dX8_swells_48 : decode cX8_swells 48 = .ok (.getfield 44, 3) := by decide +kernel
theorem dX8_swells_51 : decode cX8_swells 51 = .ok (.iconst 5, 1) := by decide +kernel
theorem dX8_swells_52 : decode cX8_swells 52 = .ok (.iload_n 3, 1) := by decide +kernel
theorem dX8_swells_53 : decode cX8_swells 53 = .ok (.imul, 1) := by decide +kernel
theorem dX8_swells_54 : decode cX8_swells 54 = .ok (.iload 5, 2) := by decide +kernel
theorem dX8_swells_56 : decode cX8_swells 56 = .ok (.iadd, 1) := by decide +kernel
theorem dX8_swells_57 : decode cX8_swells 57 = .ok (.iaload, 1) := by decide +kernel
theorem dX8_swells_58 : decode cX8_swells 58 = .ok (.goto 5, 3) := by decide +kernel
theorem dX8_swells_61 : decode cX8_swells 61 = .ok (.iload 4, 2) := by decide +kernel
theorem dX8_swells_63 : decode cX8_swells 63 = .ok (.istore 4, 2) := by decide +kernel
theorem dX8_swells_65 : decode cX8_swells 65 = .ok (.iinc 5 1, 3) := by decide +kernel
theorem dX8_swells_68 : decode cX8_swells 68 = .ok (.goto (-43), 3) := by decide +kernel
theorem dX8_swells_71 : decode cX8_swells 71 = .ok (.iload_n 2, 1) := by decide +kernel
theorem dX8_swells_72 : decode cX8_swells 72 = .ok (.iload 4, 2) := by decide +kernel
theorem dX8_swells_74 : decode cX8_swells 74 = .ok (.iadd, 1) := by decide +kernel
theorem dX8_swells_75 : decode cX8_swells 75 = .ok (.istore_n 2, 1) := by decide +kernel
theorem dX8_swells_76 : decode cX8_swells 76 = .ok (.iinc 3 1, 3) := by decide +kernel
theorem dX8_swells_79 : decode cX8_swells 79 = .ok (.goto (-70), 3) := by decide +kernel
theorem dX8_swells_82 : decode cX8_swells 82 = .ok (.iconst 3, 1) := by decide +kernel
theorem dX8_swells_83 : decode cX8_swells 83 = .ok (.iload_n 2, 1) := by decide +kernel
theorem dX8_swells_84 : decode cX8_swells 84 = .ok (.imul, 1) := by decide +kernel
theorem dX8_swells_85 : decode cX8_swells 85 = .ok (.ireturn, 1) := by decide +kernel
set_option maxRecDepth 20000 in
theorem ggX8_swelling_X8_isBook : GoodIn wsX8_swelling wsX8_isBook := goodIn_r _ [5, 6, 7, 8, 4, 9, 44, 45, 46, 47, 48, 49, 50, 51, 52, 53, 54, 55, 56, 57, 58, 59, 60, 61, 62, 63, 64, 65, 66, 67, 68, 69, 70, 71] (by decide +kernel) (by decide +kernel)
set_option maxRecDepth 20000 in
theorem gX8_swelling_X8_isBook : GoodIn wsX8_swelling (wsV RX8 152 RX8 yX8_isBook wsX8_isBook) := goodIn_app (goodIn_of _ (by decide +kernel)) ggX8_swelling_X8_isBook
set_option maxRecDepth 20000 in
theorem ggX8_swelling_X8_goes : GoodIn wsX8_swelling wsX8_goes := goodIn_r _ [13, 14, 44, 45, 46, 47, 48, 49, 50, 51, 52, 53, 54, 55, 56, 57, 58, 59, 60, 61, 62, 63, 64, 65, 66, 67, 68, 69, 70, 71] (by decide +kernel) (by decide +kernel)
set_option maxRecDepth 20000 in
theorem gX8_swelling_X8_goes : GoodIn wsX8_swelling (wsV RX8 83 RX8 yX8_goes wsX8_goes) := goodIn_app (goodIn_of _ (by decide +kernel)) ggX8_swelling_X8_goes
set_option maxRecDepth 20000 in
theorem ggX8_swelling_X8_swells : GoodIn wsX8_swelling wsX8_swells := goodIn_r _ [18, 19, 20, 21, 22, 23, 4, 24, 25, 26, 27, 28, 29, 30, 31, 32, 33, 34, 35, 36, 37, 38, 39, 40, 41, 42, 43, 44, 45, 46, 47, 48, 49, 50, 51, 52, 53, 54, 55, 56, 57, 58, 59, 60, 61, 62, 63, 64, 65, 66, 67, 68, 69, 70, 71] (by decide +kernel) (by decide +kernel)
set_option maxRecDepth 20000 in
theorem gX8_swelling_X8_swells : GoodIn wsX8_swelling (wsV RX8 167 RX8 yX8_swells wsX8_swells) := goodIn_app (goodIn_of _ (by decide +kernel)) ggX8_swelling_X8_swells
theorem dX8_swelling_0 : decode cX8_swelling 0 = .ok (.aload_n 0, 1) := by decide +kernel
theorem dX8_swelling_1 : decode cX8_swelling 1 = .ok (.aload_n 0, 1) := by decide +kernel
theorem dX8_swelling_2 : decode cX8_swelling 2 = .ok (.iload_n 1, 1) := by decide +kernel
theorem dX8_swelling_3 : decode cX8_swelling 3 = .ok (.invokevirtual 152, 3) := by decide +kernel
theorem dX8_swelling_6 : decode cX8_swelling 6 = .ok (.iconst 1, 1) := by decide +kernel
theorem dX8_swelling_7 : decode cX8_swelling 7 = .ok (.iconst 1, 1) := by decide +kernel
theorem dX8_swelling_8 : decode cX8_swelling 8 = .ok (.invokevirtual 83, 3) := by decide +kernel
theorem dX8_swelling_11 : decode cX8_swelling 11 = .ok (.ifCond .eq 11, 3) := by decide +kernel
theorem dX8_swelling_14 : decode cX8_swelling 14 = .ok (.aload_n 0, 1) := by decide +kernel
theorem dX8_swelling_15 : decode cX8_swelling 15 = .ok (.iload_n 1, 1) := by decide +kernel
theorem dX8_swelling_16 : decode cX8_swelling 16 = .ok (.invokevirtual 167, 3) := by decide +kernel
theorem dX8_swelling_19 : decode cX8_swelling 19 = .ok (.goto 4, 3) := by decide +kernel
theorem dX8_swelling_22 : decode cX8_swelling 22 = .ok (.iconst 0, 1) := by decide +kernel
theorem dX8_swelling_23 : decode cX8_swelling 23 = .ok (.ireturn, 1) := by decide +kernel
theorem dX8_all_0 : decode cX8_all 0 = .ok (.aload_n 0, 1) := by decide +kernel
theorem dX8_all_1 : decode cX8_all 1 = .ok (.getfield 19, 3) := by decide +kernel
theorem dX8_all_4 : decode cX8_all 4 = .ok (.iload_n 1, 1) := by decide +kernel
theorem dX8_all_5 : decode cX8_all 5 = .ok (.iaload, 1) := by decide +kernel
theorem dX8_all_6 : decode cX8_all 6 = .ok (.aload_n 0, 1) := by decide +kernel
theorem dX8_all_7 : decode cX8_all 7 = .ok (.getfield 22, 3) := by decide +kernel
theorem dX8_all_10 : decode cX8_all 10 = .ok (.iload_n 1, 1) := by decide +kernel
theorem dX8_all_11 : decode cX8_all 11 = .ok (.iaload, 1) := by decide +kernel
theorem dX8_all_12 : decode cX8_all 12 = .ok (.imul, 1) := by decide +kernel
theorem dX8_all_13 : decode cX8_all 13 = .ok (.ireturn, 1) := by decide +kernel
set_option maxRecDepth 20000 in
theorem ggX8_bends_X8_all : GoodIn wsX8_bends wsX8_all := goodIn_r _ [7, 8, 9, 10, 11, 12, 13, 14, 15, 16, 17, 18, 19, 20, 21, 22, 23, 24, 25, 26, 27, 28, 29, 30, 31, 32, 33, 34, 35, 36, 37] (by decide +kernel) (by decide +kernel)
set_option maxRecDepth 20000 in
theorem gX8_bends_X8_all : GoodIn wsX8_bends (wsV RX8 170 RX8 yX8_all wsX8_all) := goodIn_app (goodIn_of _ (by decide +kernel)) ggX8_bends_X8_all
theorem dX8_bends_0 : decode cX8_bends 0 = .ok (.iload_n 2, 1) := by decide +kernel
theorem dX8_bends_1 : decode cX8_bends 1 = .ok (.aload_n 0, 1) := by decide +kernel
theorem dX8_bends_2 : decode cX8_bends 2 = .ok (.iload_n 1, 1) := by decide +kernel
theorem dX8_bends_3 : decode cX8_bends 3 = .ok (.invokevirtual 170, 3) := by decide +kernel
theorem dX8_bends_6 : decode cX8_bends 6 = .ok (.iload_n 2, 1) := by decide +kernel
theorem dX8_bends_7 : decode cX8_bends 7 = .ok (.isub, 1) := by decide +kernel
theorem dX8_bends_8 : decode cX8_bends 8 = .ok (.if_icmp .ge 7, 3) := by decide +kernel
theorem dX8_bends_11 : decode cX8_bends 11 = .ok (.iload_n 2, 1) := by decide +kernel
theorem dX8_bends_12 : decode cX8_bends 12 = .ok (.goto 10, 3) := by decide +kernel
theorem dX8_bends_15 : decode cX8_bends 15 = .ok (.aload_n 0, 1) := by decide +kernel
theorem dX8_bends_16 : decode cX8_bends 16 = .ok (.iload_n 1, 1) := by decide +kernel
theorem dX8_bends_17 : decode cX8_bends 17 = .ok (.invokevirtual 170, 3) := by decide +kernel
theorem dX8_bends_20 : decode cX8_bends 20 = .ok (.iload_n 2, 1) := by decide +kernel
theorem dX8_bends_21 : decode cX8_bends 21 = .ok (.isub, 1) := by decide +kernel
theorem dX8_bends_22 : decode cX8_bends 22 = .ok (.istore_n 3, 1) := by decide +kernel
theorem dX8_bends_23 : decode cX8_bends 23 = .ok (.iload_n 3, 1) := by decide +kernel
theorem dX8_bends_24 : decode cX8_bends 24 = .ok (.aload_n 0, 1) := by decide +kernel
theorem dX8_bends_25 : decode cX8_bends 25 = .ok (.getfield 28, 3) := by decide +kernel
theorem dX8_bends_28 : decode cX8_bends 28 = .ok (.iload_n 1, 1) := by decide +kernel
theorem dX8_bends_29 : decode cX8_bends 29 = .ok (.iaload, 1) := by decide +kernel
theorem dX8_bends_30 : decode cX8_bends 30 = .ok (.imul, 1) := by decide +kernel
theorem dX8_bends_31 : decode cX8_bends 31 = .ok (.aload_n 0, 1) := by decide +kernel
theorem dX8_bends_32 : decode cX8_bends 32 = .ok (.getfield 35, 3) := by decide +kernel
theorem dX8_bends_35 : decode cX8_bends 35 = .ok (.iload_n 1, 1) := by decide +kernel
theorem dX8_bends_36 : decode cX8_bends 36 = .ok (.iaload, 1) := by decide +kernel
theorem dX8_bends_37 : decode cX8_bends 37 = .ok (.ifCond .ne 7, 3) := by decide +kernel
theorem dX8_bends_40 : decode cX8_bends 40 = .ok (.iconst 4, 1) := by decide +kernel
theorem dX8_bends_41 : decode cX8_bends 41 = .ok (.goto 18, 3) := by decide +kernel
theorem dX8_bends_44 : decode cX8_bends 44 = .ok (.aload_n 0, 1) := by decide +kernel
theorem dX8_bends_45 : decode cX8_bends 45 = .ok (.getfield 35, 3) := by decide +kernel
theorem dX8_bends_48 : decode cX8_bends 48 = .ok (.iload_n 1, 1) := by decide +kernel
theorem dX8_bends_49 : decode cX8_bends 49 = .ok (.iaload, 1) := by decide +kernel
theorem dX8_bends_50 : decode cX8_bends 50 = .ok (.iconst 1, 1) := by decide +kernel
theorem dX8_bends_51 : decode cX8_bends 51 = .ok (.if_icmp .ne 7, 3) := by decide +kernel
theorem dX8_bends_54 : decode cX8_bends 54 = .ok (.iconst 1, 1) := by decide +kernel
theorem dX8_bends_55 : decode cX8_bends 55 = .ok (.goto 4, 3) := by decide +kernel
theorem dX8_bends_58 : decode cX8_bends 58 = .ok (.iconst 2, 1) := by decide +kernel
theorem dX8_bends_59 : decode cX8_bends 59 = .ok (.imul, 1) := by decide +kernel
theorem dX8_bends_60 : decode cX8_bends 60 = .ok (.ireturn, 1) := by decide +kernel
set_option maxRecDepth 20000 in
theorem ggX8_strain_X8_isBook : GoodIn wsX8_strain wsX8_isBook := goodIn_r _ [5, 6, 7, 8, 4, 9, 55, 56, 57, 58, 59, 60, 61, 62, 63, 64, 65, 66, 67, 68, 69, 70, 71, 72, 73, 74, 75, 76, 77, 78, 79, 80, 81, 82] (by decide +kernel) (by decide +kernel)
set_option maxRecDepth 20000 in
theorem gX8_strain_X8_isBook : GoodIn wsX8_strain (wsV RX8 152 RX8 yX8_isBook wsX8_isBook) := goodIn_app (goodIn_of _ (by decide +kernel)) ggX8_strain_X8_isBook
set_option maxRecDepth 20000 in
theorem ggX8_strain_X8_all : GoodIn wsX8_strain wsX8_all := goodIn_r _ [13, 14, 15, 55, 56, 57, 58, 59, 60, 61, 62, 63, 64, 65, 66, 67, 68, 69, 70, 71, 72, 73, 74, 75, 76, 77, 78, 79, 80, 81, 82] (by decide +kernel) (by decide +kernel)
set_option maxRecDepth 20000 in
theorem gX8_strain_X8_all : GoodIn wsX8_strain (wsV RX8 170 RX8 yX8_all wsX8_all) := goodIn_app (goodIn_of _ (by decide +kernel)) ggX8_strain_X8_all
set_option maxRecDepth 20000 in
theorem ggX8_strain_X8_in : GoodIn wsX8_strain wsX8_in := goodIn_r _ [9] (by decide +kernel) (by decide +kernel)
set_option maxRecDepth 20000 in
theorem gX8_strain_X8_in : GoodIn wsX8_strain (va_wsS RX8 75 yX8_in wsX8_in) := goodIn_app (goodIn_of _ (by decide +kernel)) ggX8_strain_X8_in
set_option maxRecDepth 20000 in
theorem ggX8_strain_X8_goes : GoodIn wsX8_strain wsX8_goes := goodIn_r _ [19, 20, 55, 56, 57, 58, 59, 60, 61, 62, 63, 64, 65, 66, 67, 68, 69, 70, 71, 72, 73, 74, 75, 76, 77, 78, 79, 80, 81, 82] (by decide +kernel) (by decide +kernel)
set_option maxRecDepth 20000 in
theorem gX8_strain_X8_goes : GoodIn wsX8_strain (wsV RX8 83 RX8 yX8_goes wsX8_goes) := goodIn_app (goodIn_of _ (by decide +kernel)) ggX8_strain_X8_goes
set_option maxRecDepth 20000 in
theorem ggX8_strain_X8_bends : GoodIn wsX8_strain wsX8_bends := goodIn_r _ [24, 25, 26, 10, 11, 12, 4, 13, 14, 15, 55, 56, 57, 58, 59, 60, 61, 62, 63, 64, 65, 66, 67, 68, 69, 70, 71, 72, 73, 74, 75, 76, 77, 78, 79, 80, 81, 82] (by decide +kernel) (by decide +kernel)
set_option maxRecDepth 20000 in
theorem gX8_strain_X8_bends : GoodIn wsX8_strain (wsV RX8 173 RX8 yX8_bends wsX8_bends) := goodIn_app (goodIn_of _ (by decide +kernel)) ggX8_strain_X8_bends
set_option maxRecDepth 20000 in
theorem ggX8_strain_X8_swells : GoodIn wsX8_strain wsX8_swells := goodIn_r _ [30, 14, 31, 32, 33, 34, 4, 35, 36, 37, 38, 39, 40, 41, 42, 43, 44, 45, 46, 47, 48, 49, 50, 51, 52, 53, 54, 55, 56, 57, 58, 59, 60, 61, 62, 63, 64, 65, 66, 67, 68, 69, 70, 71, 72, 73, 74, 75, 76, 77, 78, 79, 80, 81, 82] (by decide +kernel) (by decide +kernel)
set_option maxRecDepth 20000 in
theorem gX8_strain_X8_swells : GoodIn wsX8_strain (wsV RX8 167 RX8 yX8_swells wsX8_swells) := goodIn_app (goodIn_of _ (by decide +kernel)) ggX8_strain_X8_swells
theorem dX8_strain_0 : decode cX8_strain 0 = .ok (.aload_n 0, 1) := by decide +kernel
theorem dX8_strain_1 : decode cX8_strain 1 = .ok (.iload_n 1, 1) := by decide +kernel
theorem dX8_strain_2 : decode cX8_strain 2 = .ok (.invokevirtual 152, 3) := by decide +kernel
theorem dX8_strain_5 : decode cX8_strain 5 = .ok (.istore_n 3, 1) := by decide +kernel
theorem dX8_strain_6 : decode cX8_strain 6 = .ok (.aload_n 0, 1) := by decide +kernel
theorem dX8_strain_7 : decode cX8_strain 7 = .ok (.iload_n 3, 1) := by decide +kernel
theorem dX8_strain_8 : decode cX8_strain 8 = .ok (.iload_n 2, 1) := by decide +kernel
theorem dX8_strain_9 : decode cX8_strain 9 = .ok (.iconst 0, 1) := by decide +kernel
theorem dX8_strain_10 : decode cX8_strain 10 = .ok (.aload_n 0, 1) := by decide +kernel
theorem dX8_strain_11 : decode cX8_strain 11 = .ok (.iload_n 3, 1) := by decide +kernel
theorem dX8_strain_12 : decode cX8_strain 12 = .ok (.ifCond .eq 7, 3) := by decide +kernel
theorem dX8_strain_15 : decode cX8_strain 15 = .ok (.iload_n 1, 1) := by decide +kernel
theorem dX8_strain_16 : decode cX8_strain 16 = .ok (.goto 4, 3) := by decide +kernel
theorem dX8_strain_19 : decode cX8_strain 19 = .ok (.iconst 0, 1) := by decide +kernel
theorem dX8_strain_20 : decode cX8_strain 20 = .ok (.invokevirtual 170, 3) := by decide +kernel
theorem dX8_strain_23 : decode cX8_strain 23 = .ok (.invokestatic 75, 3) := by decide +kernel
theorem dX8_strain_26 : decode cX8_strain 26 = .ok (.iconst 1, 1) := by decide +kernel
theorem dX8_strain_27 : decode cX8_strain 27 = .ok (.invokevirtual 83, 3) := by decide +kernel
theorem dX8_strain_30 : decode cX8_strain 30 = .ok (.ifCond .eq 18, 3) := by decide +kernel
theorem dX8_strain_33 : decode cX8_strain 33 = .ok (.aload_n 0, 1) := by decide +kernel
theorem dX8_strain_34 : decode cX8_strain 34 = .ok (.iload_n 1, 1) := by decide +kernel
theorem dX8_strain_35 : decode cX8_strain 35 = .ok (.iload_n 2, 1) := by decide +kernel
theorem dX8_strain_36 : decode cX8_strain 36 = .ok (.invokevirtual 173, 3) := by decide +kernel
theorem dX8_strain_39 : decode cX8_strain 39 = .ok (.aload_n 0, 1) := by decide +kernel
theorem dX8_strain_40 : decode cX8_strain 40 = .ok (.iload_n 1, 1) := by decide +kernel
theorem dX8_strain_41 : decode cX8_strain 41 = .ok (.invokevirtual 167, 3) := by decide +kernel
theorem dX8_strain_44 : decode cX8_strain 44 = .ok (.iadd, 1) := by decide +kernel
theorem dX8_strain_45 : decode cX8_strain 45 = .ok (.goto 4, 3) := by decide +kernel
theorem dX8_strain_48 : decode cX8_strain 48 = .ok (.iconst 0, 1) := by decide +kernel
theorem dX8_strain_49 : decode cX8_strain 49 = .ok (.ireturn, 1) := by decide +kernel
set_option maxRecDepth 20000 in
theorem ggX8_worst_X8_isBook : GoodIn wsX8_worst wsX8_isBook := goodIn_r _ [5, 6, 7, 8, 4, 9, 27, 28, 29, 30, 31, 32, 33, 34, 35, 36, 37, 38, 39, 40, 41, 42, 43, 44, 45, 46, 47, 48, 49, 50, 51, 52, 53, 54] (by decide +kernel) (by decide +kernel)
set_option maxRecDepth 20000 in
theorem gX8_worst_X8_isBook : GoodIn wsX8_worst (wsV RX8 152 RX8 yX8_isBook wsX8_isBook) := goodIn_app (goodIn_of _ (by decide +kernel)) ggX8_worst_X8_isBook
set_option maxRecDepth 20000 in
theorem ggX8_worst_X8_goes : GoodIn wsX8_worst wsX8_goes := goodIn_r _ [13, 14, 27, 28, 29, 30, 31, 32, 33, 34, 35, 36, 37, 38, 39, 40, 41, 42, 43, 44, 45, 46, 47, 48, 49, 50, 51, 52, 53, 54] (by decide +kernel) (by decide +kernel)
set_option maxRecDepth 20000 in
theorem gX8_worst_X8_goes : GoodIn wsX8_worst (wsV RX8 83 RX8 yX8_goes wsX8_goes) := goodIn_app (goodIn_of _ (by decide +kernel)) ggX8_worst_X8_goes
set_option maxRecDepth 20000 in
theorem ggX8_worst_X8_all : GoodIn wsX8_worst wsX8_all := goodIn_r _ [18, 19, 20, 27, 28, 29, 30, 31, 32, 33, 34, 35, 36, 37, 38, 39, 40, 41, 42, 43, 44, 45, 46, 47, 48, 49, 50, 51, 52, 53, 54] (by decide +kernel) (by decide +kernel)
set_option maxRecDepth 20000 in
theorem gX8_worst_X8_all : GoodIn wsX8_worst (wsV RX8 170 RX8 yX8_all wsX8_all) := goodIn_app (goodIn_of _ (by decide +kernel)) ggX8_worst_X8_all
set_option maxRecDepth 20000 in
theorem ggX8_worst_X8_bends : GoodIn wsX8_worst wsX8_bends := goodIn_r _ [24, 25, 26, 15, 16, 17, 4, 18, 19, 20, 27, 28, 29, 30, 31, 32, 33, 34, 35, 36, 37, 38, 39, 40, 41, 42, 43, 44, 45, 46, 47, 48, 49, 50, 51, 52, 53, 54] (by decide +kernel) (by decide +kernel)
set_option maxRecDepth 20000 in
theorem gX8_worst_X8_bends : GoodIn wsX8_worst (wsV RX8 173 RX8 yX8_bends wsX8_bends) := goodIn_app (goodIn_of _ (by decide +kernel)) ggX8_worst_X8_bends
theorem dX8_worst_0 : decode cX8_worst 0 = .ok (.aload_n 0, 1) := by decide +kernel
theorem dX8_worst_1 : decode cX8_worst 1 = .ok (.aload_n 0, 1) := by decide +kernel
theorem dX8_worst_2 : decode cX8_worst 2 = .ok (.iload_n 1, 1) := by decide +kernel
theorem dX8_worst_3 : decode cX8_worst 3 = .ok (.invokevirtual 152, 3) := by decide +kernel
theorem dX8_worst_6 : decode cX8_worst 6 = .ok (.iconst 1, 1) := by decide +kernel
theorem dX8_worst_7 : decode cX8_worst 7 = .ok (.iconst 1, 1) := by decide +kernel
theorem dX8_worst_8 : decode cX8_worst 8 = .ok (.invokevirtual 83, 3) := by decide +kernel
theorem dX8_worst_11 : decode cX8_worst 11 = .ok (.ifCond .ne 5, 3) := by decide +kernel
theorem dX8_worst_14 : decode cX8_worst 14 = .ok (.iconst 0, 1) := by decide +kernel
theorem dX8_worst_15 : decode cX8_worst 15 = .ok (.ireturn, 1) := by decide +kernel
theorem dX8_worst_16 : decode cX8_worst 16 = .ok (.iconst 0, 1) := by decide +kernel
theorem dX8_worst_17 : decode cX8_worst 17 = .ok (.istore_n 2, 1) := by decide +kernel
theorem dX8_worst_18 : decode cX8_worst 18 = .ok (.iconst 1, 1) := by decide +kernel
theorem dX8_worst_19 : decode cX8_worst 19 = .ok (.istore_n 3, 1) := by decide +kernel
theorem dX8_worst_20 : decode cX8_worst 20 = .ok (.iload_n 3, 1) := by decide +kernel
theorem dX8_worst_21 : decode cX8_worst 21 = .ok (.aload_n 0, 1) := by decide +kernel
theorem dX8_worst_22 : decode cX8_worst 22 = .ok (.iload_n 1, 1) := by decide +kernel
theorem dX8_worst_23 : decode cX8_worst 23 = .ok (.invokevirtual 170, 3) := by decide +kernel
theorem dX8_worst_26 : decode cX8_worst 26 = .ok (.if_icmp .gt 30, 3) := by decide +kernel
theorem dX8_worst_29 : decode cX8_worst 29 = .ok (.aload_n 0, 1) := by decide +kernel
theorem dX8_worst_30 : decode cX8_worst 30 = .ok (.iload_n 1, 1) := by decide +kernel
theorem dX8_worst_31 : decode cX8_worst 31 = .ok (.iload_n 3, 1) := by decide +kernel
theorem dX8_worst_32 : decode cX8_worst 32 = .ok (.invokevirtual 173, 3) := by decide +kernel
theorem dX8_worst_35 : decode cX8_worst 35 = .ok (.aload_n 0, 1) := by decide +kernel
theorem dX8_worst_36 : decode cX8_worst 36 = .ok (.iload_n 1, 1) := by decide +kernel
theorem dX8_worst_37 : decode cX8_worst 37 = .ok (.iload_n 2, 1) := by decide +kernel
theorem dX8_worst_38 : decode cX8_worst 38 = .ok (.invokevirtual 173, 3) := by decide +kernel
theorem dX8_worst_41 : decode cX8_worst 41 = .ok (.if_icmp .le 7, 3) := by decide +kernel
theorem dX8_worst_44 : decode cX8_worst 44 = .ok (.iload_n 3, 1) := by decide +kernel
theorem dX8_worst_45 : decode cX8_worst 45 = .ok (.goto 4, 3) := by decide +kernel
theorem dX8_worst_48 : decode cX8_worst 48 = .ok (.iload_n 2, 1) := by decide +kernel
theorem dX8_worst_49 : decode cX8_worst 49 = .ok (.istore_n 2, 1) := by decide +kernel
theorem dX8_worst_50 : decode cX8_worst 50 = .ok (.iinc 3 1, 3) := by decide +kernel
theorem dX8_worst_53 : decode cX8_worst 53 = .ok (.goto (-33), 3) := by decide +kernel
theorem dX8_worst_56 : decode cX8_worst 56 = .ok (.iload_n 2, 1) := by decide +kernel
theorem dX8_worst_57 : decode cX8_worst 57 = .ok (.ireturn, 1) := by decide +kernel
set_option maxRecDepth 20000 in
theorem ggX8_opens_X8_isBook : GoodIn wsX8_opens wsX8_isBook := goodIn_r _ [6, 7, 8, 9, 5, 10, 56, 57, 58, 59, 60, 61, 62, 63, 64, 65, 66, 67, 68, 69, 70, 71, 72, 73, 74, 75, 76, 77, 78, 79, 80, 81, 82, 83] (by decide +kernel) (by decide +kernel)
set_option maxRecDepth 20000 in
theorem gX8_opens_X8_isBook : GoodIn wsX8_opens (wsV RX8 152 RX8 yX8_isBook wsX8_isBook) := goodIn_app (goodIn_of _ (by decide +kernel)) ggX8_opens_X8_isBook
set_option maxRecDepth 20000 in
theorem ggX8_opens_X8_in : GoodIn wsX8_opens wsX8_in := goodIn_r _ [10] (by decide +kernel) (by decide +kernel)
set_option maxRecDepth 20000 in
theorem gX8_opens_X8_in : GoodIn wsX8_opens (va_wsS RX8 75 yX8_in wsX8_in) := goodIn_app (goodIn_of _ (by decide +kernel)) ggX8_opens_X8_in
set_option maxRecDepth 20000 in
theorem ggX8_opens_X8_goes : GoodIn wsX8_opens wsX8_goes := goodIn_r _ [14, 15, 56, 57, 58, 59, 60, 61, 62, 63, 64, 65, 66, 67, 68, 69, 70, 71, 72, 73, 74, 75, 76, 77, 78, 79, 80, 81, 82, 83] (by decide +kernel) (by decide +kernel)
set_option maxRecDepth 20000 in
theorem gX8_opens_X8_goes : GoodIn wsX8_opens (wsV RX8 83 RX8 yX8_goes wsX8_goes) := goodIn_app (goodIn_of _ (by decide +kernel)) ggX8_opens_X8_goes
set_option maxRecDepth 20000 in
theorem ggX8_opens_X8_swells : GoodIn wsX8_opens wsX8_swells := goodIn_r _ [19, 20, 21, 22, 23, 24, 5, 25, 26, 27, 28, 29, 30, 31, 32, 33, 34, 35, 36, 37, 38, 39, 40, 41, 42, 43, 44, 56, 57, 58, 59, 60, 61, 62, 63, 64, 65, 66, 67, 68, 69, 70, 71, 72, 73, 74, 75, 76, 77, 78, 79, 80, 81, 82, 83] (by decide +kernel) (by decide +kernel)
set_option maxRecDepth 20000 in
theorem gX8_opens_X8_swells : GoodIn wsX8_opens (wsV RX8 167 RX8 yX8_swells wsX8_swells) := goodIn_app (goodIn_of _ (by decide +kernel)) ggX8_opens_X8_swells
set_option maxRecDepth 20000 in
theorem ggX8_opens_X8_all : GoodIn wsX8_opens wsX8_all := goodIn_r _ [48, 20, 49, 56, 57, 58, 59, 60, 61, 62, 63, 64, 65, 66, 67, 68, 69, 70, 71, 72, 73, 74, 75, 76, 77, 78, 79, 80, 81, 82, 83] (by decide +kernel) (by decide +kernel)
set_option maxRecDepth 20000 in
theorem gX8_opens_X8_all : GoodIn wsX8_opens (wsV RX8 170 RX8 yX8_all wsX8_all) := goodIn_app (goodIn_of _ (by decide +kernel)) ggX8_opens_X8_all
set_option maxRecDepth 20000 in
theorem ggX8_opens_X8_bends : GoodIn wsX8_opens wsX8_bends := goodIn_r _ [53, 54, 55, 45, 46, 47, 5, 48, 20, 49, 56, 57, 58, 59, 60, 61, 62, 63, 64, 65, 66, 67, 68, 69, 70, 71, 72, 73, 74, 75, 76, 77, 78, 79, 80, 81, 82, 83] (by decide +kernel) (by decide +kernel)
set_option maxRecDepth 20000 in
theorem gX8_opens_X8_bends : GoodIn wsX8_opens (wsV RX8 173 RX8 yX8_bends wsX8_bends) := goodIn_app (goodIn_of _ (by decide +kernel)) ggX8_opens_X8_bends
theorem dX8_opens_0 : decode cX8_opens 0 = .ok (.aload_n 0, 1) := by decide +kernel
theorem dX8_opens_1 : decode cX8_opens 1 = .ok (.aload_n 0, 1) := by decide +kernel
theorem dX8_opens_2 : decode cX8_opens 2 = .ok (.iload_n 1, 1) := by decide +kernel
theorem dX8_opens_3 : decode cX8_opens 3 = .ok (.invokevirtual 152, 3) := by decide +kernel
theorem dX8_opens_6 : decode cX8_opens 6 = .ok (.iload_n 2, 1) := by decide +kernel
theorem dX8_opens_7 : decode cX8_opens 7 = .ok (.iconst 0, 1) := by decide +kernel
theorem dX8_opens_8 : decode cX8_opens 8 = .ok (.ldc 177, 2) := by decide +kernel
theorem dX8_opens_10 : decode cX8_opens 10 = .ok (.invokestatic 75, 3) := by decide +kernel
theorem dX8_opens_13 : decode cX8_opens 13 = .ok (.iconst 1, 1) := by decide +kernel
theorem dX8_opens_14 : decode cX8_opens 14 = .ok (.invokevirtual 83, 3) := by decide +kernel
theorem dX8_opens_17 : decode cX8_opens 17 = .ok (.ifCond .ne 5, 3) := by decide +kernel
theorem dX8_opens_20 : decode cX8_opens 20 = .ok (.iconst 0, 1) := by decide +kernel
theorem dX8_opens_21 : decode cX8_opens 21 = .ok (.ireturn, 1) := by decide +kernel
theorem dX8_opens_22 : decode cX8_opens 22 = .ok (.iconst 0, 1) := by decide +kernel
theorem dX8_opens_23 : decode cX8_opens 23 = .ok (.istore_n 3, 1) := by decide +kernel
theorem dX8_opens_24 : decode cX8_opens 24 = .ok (.aload_n 0, 1) := by decide +kernel
theorem dX8_opens_25 : decode cX8_opens 25 = .ok (.iload_n 1, 1) := by decide +kernel
theorem dX8_opens_26 : decode cX8_opens 26 = .ok (.invokevirtual 167, 3) := by decide +kernel
theorem dX8_opens_29 : decode cX8_opens 29 = .ok (.istore 4, 2) := by decide +kernel
theorem dX8_opens_31 : decode cX8_opens 31 = .ok (.iconst 0, 1) := by decide +kernel
theorem dX8_opens_32 : decode cX8_opens 32 = .ok (.istore 5, 2) := by decide +kernel
theorem dX8_opens_34 : decode cX8_opens 34 = .ok (.iload 5, 2) := by decide +kernel
theorem dX8_opens_36 : decode cX8_opens 36 = .ok (.aload_n 0, 1) := by decide +kernel
theorem dX8_opens_37 : decode cX8_opens 37 = .ok (.iload_n 1, 1) := by decide +kernel
theorem dX8_opens_38 : decode cX8_opens 38 = .ok (.invokevirtual 170, 3) := by decide +kernel
theorem dX8_opens_41 : decode cX8_opens 41 = .ok (.if_icmp .gt 31, 3) := by decide +kernel
theorem dX8_opens_44 : decode cX8_opens 44 = .ok (.iload_n 3, 1) := by decide +kernel
theorem dX8_opens_45 : decode cX8_opens 45 = .ok (.aload_n 0, 1) := by decide +kernel
theorem dX8_opens_46 : decode cX8_opens 46 = .ok (.iload_n 1, 1) := by decide +kernel
theorem dX8_opens_47 : decode cX8_opens 47 = .ok (.iload 5, 2) := by decide +kernel
theorem dX8_opens_49 : decode cX8_opens 49 = .ok (.invokevirtual 173, 3) := by decide +kernel
theorem dX8_opens_52 : decode cX8_opens 52 = .ok (.iload 4, 2) := by decide +kernel
theorem dX8_opens_54 : decode cX8_opens 54 = .ok (.iadd, 1) := by decide +kernel
theorem dX8_opens_55 : decode cX8_opens 55 = .ok (.iload_n 2, 1) := by decide +kernel
theorem dX8_opens_56 : decode cX8_opens 56 = .ok (.if_icmp .gt 7, 3) := by decide +kernel
theorem dX8_opens_59 : decode cX8_opens 59 = .ok (.iconst 1, 1) := by decide +kernel
theorem dX8_opens_60 : decode cX8_opens 60 = .ok (.goto 4, 3) := by decide +kernel
theorem dX8_opens_63 : decode cX8_opens 63 = .ok (.iconst 0, 1) := by decide +kernel
theorem dX8_opens_64 : decode cX8_opens 64 = .ok (.iadd, 1) := by decide +kernel
theorem dX8_opens_65 : decode cX8_opens 65 = .ok (.istore_n 3, 1) := by decide +kernel
theorem dX8_opens_66 : decode cX8_opens 66 = .ok (.iinc 5 1, 3) := by decide +kernel
theorem dX8_opens_69 : decode cX8_opens 69 = .ok (.goto (-35), 3) := by decide +kernel
theorem dX8_opens_72 : decode cX8_opens 72 = .ok (.iload_n 3, 1) := by decide +kernel
theorem dX8_opens_73 : decode cX8_opens 73 = .ok (.ireturn, 1) := by decide +kernel
set_option maxRecDepth 20000 in
theorem ggX8_isSkin_X8_in : GoodIn wsX8_isSkin wsX8_in := goodIn_r _ [5] (by decide +kernel) (by decide +kernel)
set_option maxRecDepth 20000 in
theorem gX8_isSkin_X8_in : GoodIn wsX8_isSkin (va_wsS RX8 75 yX8_in wsX8_in) := goodIn_app (goodIn_of _ (by decide +kernel)) ggX8_isSkin_X8_in
theorem dX8_isSkin_0 : decode cX8_isSkin 0 = .ok (.iload_n 1, 1) := by decide +kernel
theorem dX8_isSkin_1 : decode cX8_isSkin 1 = .ok (.iconst 0, 1) := by decide +kernel
theorem dX8_isSkin_2 : decode cX8_isSkin 2 = .ok (.aload_n 0, 1) := by decide +kernel
theorem dX8_isSkin_3 : decode cX8_isSkin 3 = .ok (.getfield 178, 3) := by decide +kernel
theorem dX8_isSkin_6 : decode cX8_isSkin 6 = .ok (.iconst 1, 1) := by decide +kernel
theorem dX8_isSkin_7 : decode cX8_isSkin 7 = .ok (.isub, 1) := by decide +kernel
theorem dX8_isSkin_8 : decode cX8_isSkin 8 = .ok (.invokestatic 75, 3) := by decide +kernel
theorem dX8_isSkin_11 : decode cX8_isSkin 11 = .ok (.ireturn, 1) := by decide +kernel
set_option maxRecDepth 20000 in
theorem ggX8_skin_X8_in : GoodIn wsX8_skin wsX8_in := goodIn_r _ [6] (by decide +kernel) (by decide +kernel)
set_option maxRecDepth 20000 in
theorem gX8_skin_X8_in : GoodIn wsX8_skin (va_wsS RX8 75 yX8_in wsX8_in) := goodIn_app (goodIn_of _ (by decide +kernel)) ggX8_skin_X8_in
set_option maxRecDepth 20000 in
theorem ggX8_skin_X8_goes : GoodIn wsX8_skin wsX8_goes := goodIn_r _ [10, 11, 12, 13, 14, 15, 16, 17, 18, 19, 20, 21, 22, 23, 24, 25, 26, 27, 28, 29, 30, 31, 32, 33, 34, 35, 36, 37, 38, 39] (by decide +kernel) (by decide +kernel)
set_option maxRecDepth 20000 in
theorem gX8_skin_X8_goes : GoodIn wsX8_skin (wsV RX8 83 RX8 yX8_goes wsX8_goes) := goodIn_app (goodIn_of _ (by decide +kernel)) ggX8_skin_X8_goes
theorem dX8_skin_0 : decode cX8_skin 0 = .ok (.aload_n 0, 1) := by decide +kernel
theorem dX8_skin_1 : decode cX8_skin 1 = .ok (.iload_n 1, 1) := by decide +kernel
theorem dX8_skin_2 : decode cX8_skin 2 = .ok (.bipush 8, 2) := by decide +kernel
theorem dX8_skin_4 : decode cX8_skin 4 = .ok (.bipush 30, 2) := by decide +kernel
theorem dX8_skin_6 : decode cX8_skin 6 = .ok (.invokestatic 75, 3) := by decide +kernel
theorem dX8_skin_9 : decode cX8_skin 9 = .ok (.aload_n 0, 1) := by decide +kernel
theorem dX8_skin_10 : decode cX8_skin 10 = .ok (.getfield 178, 3) := by decide +kernel
theorem dX8_skin_13 : decode cX8_skin 13 = .ok (.iconst 3, 1) := by decide +kernel
theorem dX8_skin_14 : decode cX8_skin 14 = .ok (.if_icmp .ge 7, 3) := by decide +kernel
theorem dX8_skin_17 : decode cX8_skin 17 = .ok (.iconst 1, 1) := by decide +kernel
theorem dX8_skin_18 : decode cX8_skin 18 = .ok (.goto 4, 3) := by decide +kernel
theorem dX8_skin_21 : decode cX8_skin 21 = .ok (.iconst 0, 1) := by decide +kernel
theorem dX8_skin_22 : decode cX8_skin 22 = .ok (.iconst 1, 1) := by decide +kernel
theorem dX8_skin_23 : decode cX8_skin 23 = .ok (.invokevirtual 83, 3) := by decide +kernel
theorem dX8_skin_26 : decode cX8_skin 26 = .ok (.ifCond .ne 5, 3) := by decide +kernel
theorem dX8_skin_29 : decode cX8_skin 29 = .ok (.iconst 0, 1) := by decide +kernel
theorem dX8_skin_30 : decode cX8_skin 30 = .ok (.ireturn, 1) := by decide +kernel
theorem dX8_skin_31 : decode cX8_skin 31 = .ok (.iconst 0, 1) := by decide +kernel
theorem dX8_skin_32 : decode cX8_skin 32 = .ok (.istore_n 2, 1) := by decide +kernel
theorem dX8_skin_33 : decode cX8_skin 33 = .ok (.iload_n 2, 1) := by decide +kernel
theorem dX8_skin_34 : decode cX8_skin 34 = .ok (.bipush 64, 2) := by decide +kernel
theorem dX8_skin_36 : decode cX8_skin 36 = .ok (.if_icmp .ge 24, 3) := by decide +kernel
theorem dX8_skin_39 : decode cX8_skin 39 = .ok (.aload_n 0, 1) := by decide +kernel
theorem dX8_skin_40 : decode cX8_skin 40 = .ok (.getfield 50, 3) := by decide +kernel
theorem dX8_skin_43 : decode cX8_skin 43 = .ok (.bipush 64, 2) := by decide +kernel
theorem dX8_skin_45 : decode cX8_skin 45 = .ok (.aload_n 0, 1) := by decide +kernel
theorem dX8_skin_46 : decode cX8_skin 46 = .ok (.getfield 178, 3) := by decide +kernel
theorem dX8_skin_49 : decode cX8_skin 49 = .ok (.imul, 1) := by decide +kernel
theorem dX8_skin_50 : decode cX8_skin 50 = .ok (.iload_n 2, 1) := by decide +kernel
theorem dX8_skin_51 : decode cX8_skin 51 = .ok (.iadd, 1) := by decide +kernel
theorem dX8_skin_52 : decode cX8_skin 52 = .ok (.iload_n 1, 1) := by decide +kernel
theorem dX8_skin_53 : decode cX8_skin 53 = .ok (.iastore, 1) := by decide +kernel
theorem dX8_skin_54 : decode cX8_skin 54 = .ok (.iinc 2 1, 3) := by decide +kernel
theorem dX8_skin_57 : decode cX8_skin 57 = .ok (.goto (-24), 3) := by decide +kernel
theorem dX8_skin_60 : decode cX8_skin 60 = .ok (.aload_n 0, 1) := by decide +kernel
theorem dX8_skin_61 : decode cX8_skin 61 = .ok (.dup, 1) := by decide +kernel
theorem dX8_skin_62 : decode cX8_skin 62 = .ok (.getfield 178, 3) := by decide +kernel
theorem dX8_skin_65 : decode cX8_skin 65 = .ok (.iconst 1, 1) := by decide +kernel
theorem dX8_skin_66 : decode cX8_skin 66 = .ok (.iadd, 1) := by decide +kernel
theorem dX8_skin_67 : decode cX8_skin 67 = .ok (.putfield 178, 3) := by decide +kernel
theorem dX8_skin_70 : decode cX8_skin 70 = .ok (.aload_n 0, 1) := by decide +kernel
theorem dX8_skin_71 : decode cX8_skin 71 = .ok (.getfield 178, 3) := by decide +kernel
theorem dX8_skin_74 : decode cX8_skin 74 = .ok (.iconst 1, 1) := by decide +kernel
theorem dX8_skin_75 : decode cX8_skin 75 = .ok (.isub, 1) := by decide +kernel
theorem dX8_skin_76 : decode cX8_skin 76 = .ok (.ireturn, 1) := by decide +kernel
set_option maxRecDepth 20000 in
theorem ggX8_least_X8_in : GoodIn wsX8_least wsX8_in := goodIn_r _ [5] (by decide +kernel) (by decide +kernel)
set_option maxRecDepth 20000 in
theorem gX8_least_X8_in : GoodIn wsX8_least (va_wsS RX8 75 yX8_in wsX8_in) := goodIn_app (goodIn_of _ (by decide +kernel)) ggX8_least_X8_in
theorem dX8_least_0 : decode cX8_least 0 = .ok (.bipush 99, 2) := by decide +kernel
theorem dX8_least_2 : decode cX8_least 2 = .ok (.istore 6, 2) := by decide +kernel
theorem dX8_least_4 : decode cX8_least 4 = .ok (.iconst 0, 1) := by decide +kernel
theorem dX8_least_5 : decode cX8_least 5 = .ok (.istore 7, 2) := by decide +kernel
theorem dX8_least_7 : decode cX8_least 7 = .ok (.iload 7, 2) := by decide +kernel
theorem dX8_least_9 : decode cX8_least 9 = .ok (.bipush 64, 2) := by decide +kernel
theorem dX8_least_11 : decode cX8_least 11 = .ok (.if_icmp .ge 85, 3) := by decide +kernel
theorem dX8_least_14 : decode cX8_least 14 = .ok (.iload 7, 2) := by decide +kernel
theorem dX8_least_16 : decode cX8_least 16 = .ok (.bipush 8, 2) := by decide +kernel
theorem dX8_least_18 : decode cX8_least 18 = .ok (.irem, 1) := by decide +kernel
theorem dX8_least_19 : decode cX8_least 19 = .ok (.iload_n 2, 1) := by decide +kernel
theorem dX8_least_20 : decode cX8_least 20 = .ok (.iload_n 3, 1) := by decide +kernel
theorem dX8_least_21 : decode cX8_least 21 = .ok (.invokestatic 75, 3) := by decide +kernel
theorem dX8_least_24 : decode cX8_least 24 = .ok (.ifCond .eq 22, 3) := by decide +kernel
theorem dX8_least_27 : decode cX8_least 27 = .ok (.iload 7, 2) := by decide +kernel
theorem dX8_least_29 : decode cX8_least 29 = .ok (.bipush 8, 2) := by decide +kernel
theorem dX8_least_31 : decode cX8_least 31 = .ok (.idiv, 1) := by decide +kernel
theorem dX8_least_32 : decode cX8_least 32 = .ok (.iload 4, 2) := by decide +kernel
theorem dX8_least_34 : decode cX8_least 34 = .ok (.iload 5, 2) := by decide +kernel
theorem dX8_least_36 : decode cX8_least 36 = .ok (.invokestatic 75, 3) := by decide +kernel
theorem dX8_least_39 : decode cX8_least 39 = .ok (.ifCond .eq 7, 3) := by decide +kernel
theorem dX8_least_42 : decode cX8_least 42 = .ok (.iconst 1, 1) := by decide +kernel
theorem dX8_least_43 : decode cX8_least 43 = .ok (.goto 4, 3) := by decide +kernel
theorem dX8_least_46 : decode cX8_least 46 = .ok (.iconst 0, 1) := by decide +kernel
theorem dX8_least_47 : decode cX8_least 47 = .ok (.istore 8, 2) := by decide +kernel
theorem dX8_least_49 : decode cX8_least 49 = .ok (.iload 8, 2) := by decide +kernel
theorem dX8_least_51 : decode cX8_least 51 = .ok (.ifCond .eq 35, 3) := by decide +kernel
theorem dX8_least_54 : decode cX8_least 54 = .ok (.aload_n 0, 1) := by decide +kernel
theorem dX8_least_55 : decode cX8_least 55 = .ok (.getfield 50, 3) := by decide +kernel
theorem dX8_least_58 : decode cX8_least 58 = .ok (.bipush 64, 2) := by decide +kernel
theorem dX8_least_60 : decode cX8_least 60 = .ok (.iload_n 1, 1) := by decide +kernel
theorem dX8_least_61 : decode cX8_least 61 = .ok (.imul, 1) := by decide +kernel
theorem dX8_least_62 : decode cX8_least 62 = .ok (.iload 7, 2) := by decide +kernel
theorem dX8_least_64 : decode cX8_least 64 = .ok (.iadd, 1) := by decide +kernel
theorem dX8_least_65 : decode cX8_least 65 = .ok (.iaload, 1) := by decide +kernel
theorem dX8_least_66 : decode cX8_least 66 = .ok (.iload 6, 2) := by decide +kernel
theorem dX8_least_68 : decode cX8_least 68 = .ok (.if_icmp .ge 18, 3) := by decide +kernel
theorem dX8_least_71 : decode cX8_least 71 = .ok (.aload_n 0, 1) := by decide +kernel
theorem dX8_least_72 : decode cX8_least 72 = .ok (.getfield 50, 3) := by decide +kernel
theorem dX8_least_75 : decode cX8_least 75 = .ok (.bipush 64, 2) := by decide +kernel
theorem dX8_least_77 : decode cX8_least 77 = .ok (.iload_n 1, 1) := by decide +kernel
theorem dX8_least_78 : decode cX8_least 78 = .ok (.imul, 1) := by decide +kernel
theorem dX8_least_79 : decode cX8_least 79 = .ok (.iload 7, 2) := by decide +kernel
theorem dX8_least_81 : decode cX8_least 81 = .ok (.iadd, 1) := by decide +kernel
theorem dX8_least_82 : decode cX8_least 82 = .ok (.iaload, 1) := by decide +kernel
theorem dX8_least_83 : decode cX8_least 83 = .ok (.goto 5, 3) := by decide +kernel
theorem dX8_least_86 : decode cX8_least 86 = .ok (.iload 6, 2) := by decide +kernel
theorem dX8_least_88 : decode cX8_least 88 = .ok (.istore 6, 2) := by decide +kernel
theorem dX8_least_90 : decode cX8_least 90 = .ok (.iinc 7 1, 3) := by decide +kernel
theorem dX8_least_93 : decode cX8_least 93 = .ok (.goto (-86), 3) := by decide +kernel
theorem dX8_least_96 : decode cX8_least 96 = .ok (.iload 6, 2) := by decide +kernel
theorem dX8_least_98 : decode cX8_least 98 = .ok (.ireturn, 1) := by decide +kernel
set_option maxRecDepth 20000 in
theorem ggX8_pare_X8_isSkin : GoodIn wsX8_pare wsX8_isSkin := goodIn_r _ [6, 7, 8, 9, 5, 10, 23, 24, 25, 26, 27, 28, 29, 30, 31, 32, 33, 34, 35, 36, 37, 38, 39, 40, 41, 42, 43, 44, 45, 46, 47, 48, 49, 50] (by decide +kernel) (by decide +kernel)
set_option maxRecDepth 20000 in
theorem gX8_pare_X8_isSkin : GoodIn wsX8_pare (wsV RX8 181 RX8 yX8_isSkin wsX8_isSkin) := goodIn_app (goodIn_of _ (by decide +kernel)) ggX8_pare_X8_isSkin
set_option maxRecDepth 20000 in
theorem ggX8_pare_X8_isEdge : GoodIn wsX8_pare wsX8_isEdge := goodIn_r _ [13, 8, 9, 5, 10] (by decide +kernel) (by decide +kernel)
set_option maxRecDepth 20000 in
theorem gX8_pare_X8_isEdge : GoodIn wsX8_pare (va_wsS RX8 79 yX8_isEdge wsX8_isEdge) := goodIn_app (goodIn_of _ (by decide +kernel)) ggX8_pare_X8_isEdge
set_option maxRecDepth 20000 in
theorem ggX8_pare_X8_in : GoodIn wsX8_pare wsX8_in := goodIn_r _ [10] (by decide +kernel) (by decide +kernel)
set_option maxRecDepth 20000 in
theorem gX8_pare_X8_in : GoodIn wsX8_pare (va_wsS RX8 75 yX8_in wsX8_in) := goodIn_app (goodIn_of _ (by decide +kernel)) ggX8_pare_X8_in
set_option maxRecDepth 20000 in
theorem ggX8_pare_X8_least : GoodIn wsX8_pare wsX8_least := goodIn_r _ [17, 1, 8, 9, 5, 10, 23, 24, 25, 26, 27, 28, 29, 30, 31, 32, 33, 34, 35, 36, 37, 38, 39, 40, 41, 42, 43, 44, 45, 46, 47, 48, 49, 50] (by decide +kernel) (by decide +kernel)
set_option maxRecDepth 20000 in
theorem gX8_pare_X8_least : GoodIn wsX8_pare (wsV RX8 184 RX8 yX8_least wsX8_least) := goodIn_app (goodIn_of _ (by decide +kernel)) ggX8_pare_X8_least
set_option maxRecDepth 20000 in
theorem ggX8_pare_X8_goes : GoodIn wsX8_pare wsX8_goes := goodIn_r _ [21, 22, 23, 24, 25, 26, 27, 28, 29, 30, 31, 32, 33, 34, 35, 36, 37, 38, 39, 40, 41, 42, 43, 44, 45, 46, 47, 48, 49, 50] (by decide +kernel) (by decide +kernel)
set_option maxRecDepth 20000 in
theorem gX8_pare_X8_goes : GoodIn wsX8_pare (wsV RX8 83 RX8 yX8_goes wsX8_goes) := goodIn_app (goodIn_of _ (by decide +kernel)) ggX8_pare_X8_goes
theorem dX8_pare_0 : decode cX8_pare 0 = .ok (.aload_n 0, 1) := by decide +kernel
theorem dX8_pare_1 : decode cX8_pare 1 = .ok (.iload_n 1, 1) := by decide +kernel
theorem dX8_pare_2 : decode cX8_pare 2 = .ok (.invokevirtual 181, 3) := by decide +kernel
theorem dX8_pare_5 : decode cX8_pare 5 = .ok (.ifCond .eq 44, 3) := by decide +kernel
theorem dX8_pare_8 : decode cX8_pare 8 = .ok (.iload_n 2, 1) := by decide +kernel
theorem dX8_pare_9 : decode cX8_pare 9 = .ok (.invokestatic 79, 3) := by decide +kernel
theorem dX8_pare_12 : decode cX8_pare 12 = .ok (.ifCond .eq 37, 3) := by decide +kernel
theorem dX8_pare_15 : decode cX8_pare 15 = .ok (.iload_n 3, 1) := by decide +kernel
theorem dX8_pare_16 : decode cX8_pare 16 = .ok (.iload_n 2, 1) := by decide +kernel
theorem dX8_pare_17 : decode cX8_pare 17 = .ok (.bipush 7, 2) := by decide +kernel
theorem dX8_pare_19 : decode cX8_pare 19 = .ok (.invokestatic 75, 3) := by decide +kernel
theorem dX8_pare_22 : decode cX8_pare 22 = .ok (.ifCond .eq 27, 3) := by decide +kernel
theorem dX8_pare_25 : decode cX8_pare 25 = .ok (.iload 4, 2) := by decide +kernel
theorem dX8_pare_27 : decode cX8_pare 27 = .ok (.invokestatic 79, 3) := by decide +kernel
theorem dX8_pare_30 : decode cX8_pare 30 = .ok (.ifCond .eq 19, 3) := by decide +kernel
theorem dX8_pare_33 : decode cX8_pare 33 = .ok (.iload 5, 2) := by decide +kernel
theorem dX8_pare_35 : decode cX8_pare 35 = .ok (.iload 4, 2) := by decide +kernel
theorem dX8_pare_37 : decode cX8_pare 37 = .ok (.bipush 7, 2) := by decide +kernel
theorem dX8_pare_39 : decode cX8_pare 39 = .ok (.invokestatic 75, 3) := by decide +kernel
theorem dX8_pare_42 : decode cX8_pare 42 = .ok (.ifCond .eq 7, 3) := by decide +kernel
theorem dX8_pare_45 : decode cX8_pare 45 = .ok (.iconst 1, 1) := by decide +kernel
theorem dX8_pare_46 : decode cX8_pare 46 = .ok (.goto 4, 3) := by decide +kernel
theorem dX8_pare_49 : decode cX8_pare 49 = .ok (.iconst 0, 1) := by decide +kernel
theorem dX8_pare_50 : decode cX8_pare 50 = .ok (.istore 7, 2) := by decide +kernel
theorem dX8_pare_52 : decode cX8_pare 52 = .ok (.iload 6, 2) := by decide +kernel
theorem dX8_pare_54 : decode cX8_pare 54 = .ok (.iconst 1, 1) := by decide +kernel
theorem dX8_pare_55 : decode cX8_pare 55 = .ok (.bipush 27, 2) := by decide +kernel
theorem dX8_pare_57 : decode cX8_pare 57 = .ok (.invokestatic 75, 3) := by decide +kernel
theorem dX8_pare_60 : decode cX8_pare 60 = .ok (.istore 8, 2) := by decide +kernel
theorem dX8_pare_62 : decode cX8_pare 62 = .ok (.aload_n 0, 1) := by decide +kernel
theorem dX8_pare_63 : decode cX8_pare 63 = .ok (.iload 7, 2) := by decide +kernel
theorem dX8_pare_65 : decode cX8_pare 65 = .ok (.iload 8, 2) := by decide +kernel
theorem dX8_pare_67 : decode cX8_pare 67 = .ok (.iload 7, 2) := by decide +kernel
theorem dX8_pare_69 : decode cX8_pare 69 = .ok (.ifCond .eq 30, 3) := by decide +kernel
theorem dX8_pare_72 : decode cX8_pare 72 = .ok (.iload 8, 2) := by decide +kernel
theorem dX8_pare_74 : decode cX8_pare 74 = .ok (.ifCond .eq 25, 3) := by decide +kernel
theorem dX8_pare_77 : decode cX8_pare 77 = .ok (.aload_n 0, 1) := by decide +kernel
theorem dX8_pare_78 : decode cX8_pare 78 = .ok (.iload_n 1, 1) := by decide +kernel
theorem dX8_pare_79 : decode cX8_pare 79 = .ok (.iload_n 2, 1) := by decide +kernel
theorem dX8_pare_80 : decode cX8_pare 80 = .ok (.iload_n 3, 1) := by decide +kernel
theorem dX8_pare_81 : decode cX8_pare 81 = .ok (.iload 4, 2) := by decide +kernel
theorem dX8_pare_83 : decode cX8_pare 83 = .ok (.iload 5, 2) := by decide +kernel
theorem dX8_pare_85 : decode cX8_pare 85 = .ok (.invokevirtual 184, 3) := by decide +kernel
theorem dX8_pare_88 : decode cX8_pare 88 = .ok (.iload 6, 2) := by decide +kernel
theorem dX8_pare_90 : decode cX8_pare 90 = .ok (.isub, 1) := by decide +kernel
theorem dX8_pare_91 : decode cX8_pare 91 = .ok (.iconst 3, 1) := by decide +kernel
theorem dX8_pare_92 : decode cX8_pare 92 = .ok (.if_icmp .lt 7, 3) := by decide +kernel
theorem dX8_pare_95 : decode cX8_pare 95 = .ok (.iconst 1, 1) := by decide +kernel
theorem dX8_pare_96 : decode cX8_pare 96 = .ok (.goto 4, 3) := by decide +kernel
theorem dX8_pare_99 : decode cX8_pare 99 = .ok (.iconst 0, 1) := by decide +kernel
theorem dX8_pare_100 : decode cX8_pare 100 = .ok (.invokevirtual 83, 3) := by decide +kernel
theorem dX8_pare_103 : decode cX8_pare 103 = .ok (.ifCond .ne 5, 3) := by decide +kernel
theorem dX8_pare_106 : decode cX8_pare 106 = .ok (.iconst 0, 1) := by decide +kernel
theorem dX8_pare_107 : decode cX8_pare 107 = .ok (.ireturn, 1) := by decide +kernel
theorem dX8_pare_108 : decode cX8_pare 108 = .ok (.iconst 0, 1) := by decide +kernel
theorem dX8_pare_109 : decode cX8_pare 109 = .ok (.istore 9, 2) := by decide +kernel
theorem dX8_pare_111 : decode cX8_pare 111 = .ok (.iload 9, 2) := by decide +kernel
theorem dX8_pare_113 : decode cX8_pare 113 = .ok (.bipush 64, 2) := by decide +kernel
theorem dX8_pare_115 : decode cX8_pare 115 = .ok (.if_icmp .ge 58, 3) := by decide +kernel
theorem dX8_pare_118 : decode cX8_pare 118 = .ok (.aload_n 0, 1) := by decide +kernel
theorem dX8_pare_119 : decode cX8_pare 119 = .ok (.getfield 50, 3) := by decide +kernel
theorem dX8_pare_122 : decode cX8_pare 122 = .ok (.bipush 64, 2) := by decide +kernel
theorem dX8_pare_124 : decode cX8_pare 124 = .ok (.iload_n 1, 1) := by decide +kernel
theorem dX8_pare_125 : decode cX8_pare 125 = .ok (.imul, 1) := by decide +kernel
theorem dX8_pare_126 : decode cX8_pare 126 = .ok (.iload 9, 2) := by decide +kernel
theorem dX8_pare_128 : decode cX8_pare 128 = .ok (.iadd, 1) := by decide +kernel
theorem dX8_pare_129 : decode cX8_pare 129 = .ok (.dup2, 1) := by decide +kernel
theorem dX8_pare_130 : decode cX8_pare 130 = .ok (.iaload, 1) := by decide +kernel
theorem dX8_pare_131 : decode cX8_pare 131 = .ok (.iload 9, 2) := by decide +kernel
theorem dX8_pare_133 : decode cX8_pare 133 = .ok (.bipush 8, 2) := by decide +kernel
theorem dX8_pare_135 : decode cX8_pare 135 = .ok (.irem, 1) := by decide +kernel
theorem dX8_pare_136 : decode cX8_pare 136 = .ok (.iload_n 2, 1) := by decide +kernel
theorem dX8_pare_137 : decode cX8_pare 137 = .ok (.iload_n 3, 1) := by decide +kernel
theorem dX8_pare_138 : decode cX8_pare 138 = .ok (.invokestatic 75, 3) := by decide +kernel
theorem dX8_pare_141 : decode cX8_pare 141 = .ok (.ifCond .eq 23, 3) := by decide +kernel
theorem dX8_pare_144 : decode cX8_pare 144 = .ok (.iload 9, 2) := by decide +kernel
theorem dX8_pare_146 : decode cX8_pare 146 = .ok (.bipush 8, 2) := by decide +kernel
theorem dX8_pare_148 : decode cX8_pare 148 = .ok (.idiv, 1) := by decide +kernel
theorem dX8_pare_149 : decode cX8_pare 149 = .ok (.iload 4, 2) := by decide +kernel
theorem dX8_pare_151 : decode cX8_pare 151 = .ok (.iload 5, 2) := by decide +kernel
theorem dX8_pare_153 : decode cX8_pare 153 = .ok (.invokestatic 75, 3) := by decide +kernel
theorem dX8_pare_156 : decode cX8_pare 156 = .ok (.ifCond .eq 8, 3) := by decide +kernel
theorem dX8_pare_159 : decode cX8_pare 159 = .ok (.iload 6, 2) := by decide +kernel
theorem dX8_pare_161 : decode cX8_pare 161 = .ok (.goto 4, 3) := by decide +kernel
theorem dX8_pare_164 : decode cX8_pare 164 = .ok (.iconst 0, 1) := by decide +kernel
theorem dX8_pare_165 : decode cX8_pare 165 = .ok (.isub, 1) := by decide +kernel
theorem dX8_pare_166 : decode cX8_pare 166 = .ok (.iastore, 1) := by decide +kernel
theorem dX8_pare_167 : decode cX8_pare 167 = .ok (.iinc 9 1, 3) := by decide +kernel
theorem dX8_pare_170 : decode cX8_pare 170 = .ok (.goto (-59), 3) := by decide +kernel
theorem dX8_pare_173 : decode cX8_pare 173 = .ok (.aload_n 0, 1) := by decide +kernel
theorem dX8_pare_174 : decode cX8_pare 174 = .ok (.iload_n 1, 1) := by decide +kernel
theorem dX8_pare_175 : decode cX8_pare 175 = .ok (.iload_n 2, 1) := by decide +kernel
theorem dX8_pare_176 : decode cX8_pare 176 = .ok (.iload_n 3, 1) := by decide +kernel
theorem dX8_pare_177 : decode cX8_pare 177 = .ok (.iload 4, 2) := by decide +kernel
theorem dX8_pare_179 : decode cX8_pare 179 = .ok (.iload 5, 2) := by decide +kernel
theorem dX8_pare_181 : decode cX8_pare 181 = .ok (.invokevirtual 184, 3) := by decide +kernel
theorem dX8_pare_184 : decode cX8_pare 184 = .ok (.ireturn, 1) := by decide +kernel
set_option maxRecDepth 20000 in
theorem ggX8_thickAt_X8_isSkin : GoodIn wsX8_thickAt wsX8_isSkin := goodIn_r _ [6, 7, 8, 9, 5, 10, 19, 20, 21, 22, 23, 24, 25, 26, 27, 28, 29, 30, 31, 32, 33, 34, 35, 36, 37, 38, 39, 40, 41, 42, 43, 44, 45, 46] (by decide +kernel) (by decide +kernel)
set_option maxRecDepth 20000 in
theorem gX8_thickAt_X8_isSkin : GoodIn wsX8_thickAt (wsV RX8 181 RX8 yX8_isSkin wsX8_isSkin) := goodIn_app (goodIn_of _ (by decide +kernel)) ggX8_thickAt_X8_isSkin
set_option maxRecDepth 20000 in
theorem ggX8_thickAt_X8_isEdge : GoodIn wsX8_thickAt wsX8_isEdge := goodIn_r _ [13, 8, 9, 5, 10] (by decide +kernel) (by decide +kernel)
set_option maxRecDepth 20000 in
theorem gX8_thickAt_X8_isEdge : GoodIn wsX8_thickAt (va_wsS RX8 79 yX8_isEdge wsX8_isEdge) := goodIn_app (goodIn_of _ (by decide +kernel)) ggX8_thickAt_X8_isEdge
set_option maxRecDepth 20000 in
theorem ggX8_thickAt_X8_goes : GoodIn wsX8_thickAt wsX8_goes := goodIn_r _ [17, 18, 19, 20, 21, 22, 23, 24, 25, 26, 27, 28, 29, 30, 31, 32, 33, 34, 35, 36, 37, 38, 39, 40, 41, 42, 43, 44, 45, 46] (by decide +kernel) (by decide +kernel)
set_option maxRecDepth 20000 in
theorem gX8_thickAt_X8_goes : GoodIn wsX8_thickAt (wsV RX8 83 RX8 yX8_goes wsX8_goes) := goodIn_app (goodIn_of _ (by decide +kernel)) ggX8_thickAt_X8_goes
theorem dX8_thickAt_0 : decode cX8_thickAt 0 = .ok (.aload_n 0, 1) := by decide +kernel
theorem dX8_thickAt_1 : decode cX8_thickAt 1 = .ok (.aload_n 0, 1) := by decide +kernel
theorem dX8_thickAt_2 : decode cX8_thickAt 2 = .ok (.iload_n 1, 1) := by decide +kernel
theorem dX8_thickAt_3 : decode cX8_thickAt 3 = .ok (.invokevirtual 181, 3) := by decide +kernel
theorem dX8_thickAt_6 : decode cX8_thickAt 6 = .ok (.ifCond .eq 21, 3) := by decide +kernel
theorem dX8_thickAt_9 : decode cX8_thickAt 9 = .ok (.iload_n 2, 1) := by decide +kernel
theorem dX8_thickAt_10 : decode cX8_thickAt 10 = .ok (.invokestatic 79, 3) := by decide +kernel
theorem dX8_thickAt_13 : decode cX8_thickAt 13 = .ok (.ifCond .eq 14, 3) := by decide +kernel
theorem dX8_thickAt_16 : decode cX8_thickAt 16 = .ok (.iload_n 3, 1) := by decide +kernel
theorem dX8_thickAt_17 : decode cX8_thickAt 17 = .ok (.invokestatic 79, 3) := by decide +kernel
theorem dX8_thickAt_20 : decode cX8_thickAt 20 = .ok (.ifCond .eq 7, 3) := by decide +kernel
theorem dX8_thickAt_23 : decode cX8_thickAt 23 = .ok (.iconst 1, 1) := by decide +kernel
theorem dX8_thickAt_24 : decode cX8_thickAt 24 = .ok (.goto 4, 3) := by decide +kernel
theorem dX8_thickAt_27 : decode cX8_thickAt 27 = .ok (.iconst 0, 1) := by decide +kernel
theorem dX8_thickAt_28 : decode cX8_thickAt 28 = .ok (.iconst 1, 1) := by decide +kernel
theorem dX8_thickAt_29 : decode cX8_thickAt 29 = .ok (.iconst 1, 1) := by decide +kernel
theorem dX8_thickAt_30 : decode cX8_thickAt 30 = .ok (.invokevirtual 83, 3) := by decide +kernel
theorem dX8_thickAt_33 : decode cX8_thickAt 33 = .ok (.ifCond .eq 22, 3) := by decide +kernel
theorem dX8_thickAt_36 : decode cX8_thickAt 36 = .ok (.aload_n 0, 1) := by decide +kernel
theorem dX8_thickAt_37 : decode cX8_thickAt 37 = .ok (.getfield 50, 3) := by decide +kernel
theorem dX8_thickAt_40 : decode cX8_thickAt 40 = .ok (.bipush 64, 2) := by decide +kernel
theorem dX8_thickAt_42 : decode cX8_thickAt 42 = .ok (.iload_n 1, 1) := by decide +kernel
theorem dX8_thickAt_43 : decode cX8_thickAt 43 = .ok (.imul, 1) := by decide +kernel
theorem dX8_thickAt_44 : decode cX8_thickAt 44 = .ok (.bipush 8, 2) := by decide +kernel
theorem dX8_thickAt_46 : decode cX8_thickAt 46 = .ok (.iload_n 3, 1) := by decide +kernel
theorem dX8_thickAt_47 : decode cX8_thickAt 47 = .ok (.imul, 1) := by decide +kernel
theorem dX8_thickAt_48 : decode cX8_thickAt 48 = .ok (.iadd, 1) := by decide +kernel
theorem dX8_thickAt_49 : decode cX8_thickAt 49 = .ok (.iload_n 2, 1) := by decide +kernel
theorem dX8_thickAt_50 : decode cX8_thickAt 50 = .ok (.iadd, 1) := by decide +kernel
theorem dX8_thickAt_51 : decode cX8_thickAt 51 = .ok (.iaload, 1) := by decide +kernel
theorem dX8_thickAt_52 : decode cX8_thickAt 52 = .ok (.goto 4, 3) := by decide +kernel
theorem dX8_thickAt_55 : decode cX8_thickAt 55 = .ok (.iconst 0, 1) := by decide +kernel
theorem dX8_thickAt_56 : decode cX8_thickAt 56 = .ok (.ireturn, 1) := by decide +kernel
set_option maxRecDepth 20000 in
theorem ggX8_tooThick_X8_isSkin : GoodIn wsX8_tooThick wsX8_isSkin := goodIn_r _ [6, 7, 8, 9, 5, 10, 16, 17, 18, 19, 20, 21, 22, 23, 24, 25, 26, 27, 28, 29, 30, 31, 32, 33, 34, 35, 36, 37, 38, 39, 40, 41, 42, 43] (by decide +kernel) (by decide +kernel)
set_option maxRecDepth 20000 in
theorem gX8_tooThick_X8_isSkin : GoodIn wsX8_tooThick (wsV RX8 181 RX8 yX8_isSkin wsX8_isSkin) := goodIn_app (goodIn_of _ (by decide +kernel)) ggX8_tooThick_X8_isSkin
set_option maxRecDepth 20000 in
theorem ggX8_tooThick_X8_goes : GoodIn wsX8_tooThick wsX8_goes := goodIn_r _ [14, 15, 16, 17, 18, 19, 20, 21, 22, 23, 24, 25, 26, 27, 28, 29, 30, 31, 32, 33, 34, 35, 36, 37, 38, 39, 40, 41, 42, 43] (by decide +kernel) (by decide +kernel)
set_option maxRecDepth 20000 in
theorem gX8_tooThick_X8_goes : GoodIn wsX8_tooThick (wsV RX8 83 RX8 yX8_goes wsX8_goes) := goodIn_app (goodIn_of _ (by decide +kernel)) ggX8_tooThick_X8_goes
set_option maxRecDepth 20000 in
theorem ggX8_tooThick_X8_in : GoodIn wsX8_tooThick wsX8_in := goodIn_r _ [10] (by decide +kernel) (by decide +kernel)
set_option maxRecDepth 20000 in
theorem gX8_tooThick_X8_in : GoodIn wsX8_tooThick (va_wsS RX8 75 yX8_in wsX8_in) := goodIn_app (goodIn_of _ (by decide +kernel)) ggX8_tooThick_X8_in
theorem dX8_tooThick_0 : decode cX8_tooThick 0 = .ok (.aload_n 0, 1) := by decide +kernel
theorem dX8_tooThick_1 : decode cX8_tooThick 1 = .ok (.aload_n 0, 1) := by decide +kernel
theorem dX8_tooThick_2 : decode cX8_tooThick 2 = .ok (.iload_n 1, 1) := by decide +kernel
theorem dX8_tooThick_3 : decode cX8_tooThick 3 = .ok (.invokevirtual 181, 3) := by decide +kernel
theorem dX8_tooThick_6 : decode cX8_tooThick 6 = .ok (.iconst 1, 1) := by decide +kernel
theorem dX8_tooThick_7 : decode cX8_tooThick 7 = .ok (.iconst 1, 1) := by decide +kernel
theorem dX8_tooThick_8 : decode cX8_tooThick 8 = .ok (.invokevirtual 83, 3) := by decide +kernel
theorem dX8_tooThick_11 : decode cX8_tooThick 11 = .ok (.ifCond .ne 5, 3) := by decide +kernel
theorem dX8_tooThick_14 : decode cX8_tooThick 14 = .ok (.iconst 0, 1) := by decide +kernel
theorem dX8_tooThick_15 : decode cX8_tooThick 15 = .ok (.ireturn, 1) := by decide +kernel
theorem dX8_tooThick_16 : decode cX8_tooThick 16 = .ok (.iconst 0, 1) := by decide +kernel
theorem dX8_tooThick_17 : decode cX8_tooThick 17 = .ok (.istore_n 2, 1) := by decide +kernel
theorem dX8_tooThick_18 : decode cX8_tooThick 18 = .ok (.iconst 0, 1) := by decide +kernel
theorem dX8_tooThick_19 : decode cX8_tooThick 19 = .ok (.istore_n 3, 1) := by decide +kernel
theorem dX8_tooThick_20 : decode cX8_tooThick 20 = .ok (.iload_n 3, 1) := by decide +kernel
theorem dX8_tooThick_21 : decode cX8_tooThick 21 = .ok (.bipush 64, 2) := by decide +kernel
theorem dX8_tooThick_23 : decode cX8_tooThick 23 = .ok (.if_icmp .ge 76, 3) := by decide +kernel
theorem dX8_tooThick_26 : decode cX8_tooThick 26 = .ok (.iload_n 3, 1) := by decide +kernel
theorem dX8_tooThick_27 : decode cX8_tooThick 27 = .ok (.bipush 8, 2) := by decide +kernel
theorem dX8_tooThick_29 : decode cX8_tooThick 29 = .ok (.irem, 1) := by decide +kernel
theorem dX8_tooThick_30 : decode cX8_tooThick 30 = .ok (.iconst 1, 1) := by decide +kernel
theorem dX8_tooThick_31 : decode cX8_tooThick 31 = .ok (.bipush 6, 2) := by decide +kernel
theorem dX8_tooThick_33 : decode cX8_tooThick 33 = .ok (.invokestatic 75, 3) := by decide +kernel
theorem dX8_tooThick_36 : decode cX8_tooThick 36 = .ok (.ifCond .eq 20, 3) := by decide +kernel
theorem dX8_tooThick_39 : decode cX8_tooThick 39 = .ok (.iload_n 3, 1) := by decide +kernel
theorem dX8_tooThick_40 : decode cX8_tooThick 40 = .ok (.bipush 8, 2) := by decide +kernel
theorem dX8_tooThick_42 : decode cX8_tooThick 42 = .ok (.idiv, 1) := by decide +kernel
theorem dX8_tooThick_43 : decode cX8_tooThick 43 = .ok (.iconst 1, 1) := by decide +kernel
theorem dX8_tooThick_44 : decode cX8_tooThick 44 = .ok (.bipush 6, 2) := by decide +kernel
theorem dX8_tooThick_46 : decode cX8_tooThick 46 = .ok (.invokestatic 75, 3) := by decide +kernel
theorem dX8_tooThick_49 : decode cX8_tooThick 49 = .ok (.ifCond .eq 7, 3) := by decide +kernel
theorem dX8_tooThick_52 : decode cX8_tooThick 52 = .ok (.iconst 1, 1) := by decide +kernel
theorem dX8_tooThick_53 : decode cX8_tooThick 53 = .ok (.goto 4, 3) := by decide +kernel
theorem dX8_tooThick_56 : decode cX8_tooThick 56 = .ok (.iconst 0, 1) := by decide +kernel
theorem dX8_tooThick_57 : decode cX8_tooThick 57 = .ok (.istore 4, 2) := by decide +kernel
theorem dX8_tooThick_59 : decode cX8_tooThick 59 = .ok (.iload_n 2, 1) := by decide +kernel
theorem dX8_tooThick_60 : decode cX8_tooThick 60 = .ok (.aload_n 0, 1) := by decide +kernel
theorem dX8_tooThick_61 : decode cX8_tooThick 61 = .ok (.getfield 50, 3) := by decide +kernel
theorem dX8_tooThick_64 : decode cX8_tooThick 64 = .ok (.bipush 64, 2) := by decide +kernel
theorem dX8_tooThick_66 : decode cX8_tooThick 66 = .ok (.iload_n 1, 1) := by decide +kernel
theorem dX8_tooThick_67 : decode cX8_tooThick 67 = .ok (.imul, 1) := by decide +kernel
theorem dX8_tooThick_68 : decode cX8_tooThick 68 = .ok (.iload_n 3, 1) := by decide +kernel
theorem dX8_tooThick_69 : decode cX8_tooThick 69 = .ok (.iadd, 1) := by decide +kernel
theorem dX8_tooThick_70 : decode cX8_tooThick 70 = .ok (.iaload, 1) := by decide +kernel
theorem dX8_tooThick_71 : decode cX8_tooThick 71 = .ok (.iload 4, 2) := by decide +kernel
theorem dX8_tooThick_73 : decode cX8_tooThick 73 = .ok (.ifCond .eq 8, 3) := by decide +kernel
theorem dX8_tooThick_76 : decode cX8_tooThick 76 = .ok (.bipush 12, 2) := by decide +kernel
theorem dX8_tooThick_78 : decode cX8_tooThick 78 = .ok (.goto 5, 3) := by decide +kernel
theorem dX8_tooThick_81 : decode cX8_tooThick 81 = .ok (.bipush 6, 2) := by decide +kernel
theorem dX8_tooThick_83 : decode cX8_tooThick 83 = .ok (.if_icmp .le 7, 3) := by decide +kernel
theorem dX8_tooThick_86 : decode cX8_tooThick 86 = .ok (.iconst 1, 1) := by decide +kernel
theorem dX8_tooThick_87 : decode cX8_tooThick 87 = .ok (.goto 4, 3) := by decide +kernel
theorem dX8_tooThick_90 : decode cX8_tooThick 90 = .ok (.iconst 0, 1) := by decide +kernel
theorem dX8_tooThick_91 : decode cX8_tooThick 91 = .ok (.iadd, 1) := by decide +kernel
theorem dX8_tooThick_92 : decode cX8_tooThick 92 = .ok (.istore_n 2, 1) := by decide +kernel
theorem dX8_tooThick_93 : decode cX8_tooThick 93 = .ok (.iinc 3 1, 3) := by decide +kernel
theorem dX8_tooThick_96 : decode cX8_tooThick 96 = .ok (.goto (-76), 3) := by decide +kernel
theorem dX8_tooThick_99 : decode cX8_tooThick 99 = .ok (.iload_n 2, 1) := by decide +kernel
theorem dX8_tooThick_100 : decode cX8_tooThick 100 = .ok (.ireturn, 1) := by decide +kernel
set_option maxRecDepth 20000 in
theorem ggX8_repair_X8_isBook : GoodIn wsX8_repair wsX8_isBook := goodIn_r _ [8, 9, 10, 11, 7, 12, 18, 19, 20, 21, 22, 23, 24, 25, 26, 27, 28, 29, 30, 31, 32, 33, 34, 35, 36, 37, 38, 39, 40, 41, 42, 43, 44, 45] (by decide +kernel) (by decide +kernel)
set_option maxRecDepth 20000 in
theorem gX8_repair_X8_isBook : GoodIn wsX8_repair (wsV RX8 152 RX8 yX8_isBook wsX8_isBook) := goodIn_app (goodIn_of _ (by decide +kernel)) ggX8_repair_X8_isBook
set_option maxRecDepth 20000 in
theorem ggX8_repair_X8_in : GoodIn wsX8_repair wsX8_in := goodIn_r _ [12] (by decide +kernel) (by decide +kernel)
set_option maxRecDepth 20000 in
theorem gX8_repair_X8_in : GoodIn wsX8_repair (va_wsS RX8 75 yX8_in wsX8_in) := goodIn_app (goodIn_of _ (by decide +kernel)) ggX8_repair_X8_in
set_option maxRecDepth 20000 in
theorem ggX8_repair_X8_goes : GoodIn wsX8_repair wsX8_goes := goodIn_r _ [16, 17, 18, 19, 20, 21, 22, 23, 24, 25, 26, 27, 28, 29, 30, 31, 32, 33, 34, 35, 36, 37, 38, 39, 40, 41, 42, 43, 44, 45] (by decide +kernel) (by decide +kernel)
set_option maxRecDepth 20000 in
theorem gX8_repair_X8_goes : GoodIn wsX8_repair (wsV RX8 83 RX8 yX8_goes wsX8_goes) := goodIn_app (goodIn_of _ (by decide +kernel)) ggX8_repair_X8_goes
theorem dX8_repair_0 : decode cX8_repair 0 = .ok (.aload_n 0, 1) := by decide +kernel
theorem dX8_repair_1 : decode cX8_repair 1 = .ok (.iload_n 1, 1) := by decide +kernel
theorem dX8_repair_2 : decode cX8_repair 2 = .ok (.invokevirtual 152, 3) := by decide +kernel
theorem dX8_repair_5 : decode cX8_repair 5 = .ok (.istore_n 3, 1) := by decide +kernel
theorem dX8_repair_6 : decode cX8_repair 6 = .ok (.iload_n 3, 1) := by decide +kernel
theorem dX8_repair_7 : decode cX8_repair 7 = .ok (.ifCond .eq 48, 3) := by decide +kernel
theorem dX8_repair_10 : decode cX8_repair 10 = .ok (.aload_n 0, 1) := by decide +kernel
theorem dX8_repair_11 : decode cX8_repair 11 = .ok (.getfield 31, 3) := by decide +kernel
theorem dX8_repair_14 : decode cX8_repair 14 = .ok (.iload_n 3, 1) := by decide +kernel
theorem dX8_repair_15 : decode cX8_repair 15 = .ok (.ifCond .eq 7, 3) := by decide +kernel
theorem dX8_repair_18 : decode cX8_repair 18 = .ok (.iload_n 1, 1) := by decide +kernel
theorem dX8_repair_19 : decode cX8_repair 19 = .ok (.goto 4, 3) := by decide +kernel
theorem dX8_repair_22 : decode cX8_repair 22 = .ok (.iconst 0, 1) := by decide +kernel
theorem dX8_repair_23 : decode cX8_repair 23 = .ok (.baload, 1) := by decide +kernel
theorem dX8_repair_24 : decode cX8_repair 24 = .ok (.ifCond .eq 8, 3) := by decide +kernel
theorem dX8_repair_27 : decode cX8_repair 27 = .ok (.iload_n 2, 1) := by decide +kernel
theorem dX8_repair_28 : decode cX8_repair 28 = .ok (.iconst 3, 1) := by decide +kernel
theorem dX8_repair_29 : decode cX8_repair 29 = .ok (.if_icmp .ge 26, 3) := by decide +kernel
theorem dX8_repair_32 : decode cX8_repair 32 = .ok (.aload_n 0, 1) := by decide +kernel
theorem dX8_repair_33 : decode cX8_repair 33 = .ok (.getfield 53, 3) := by decide +kernel
theorem dX8_repair_36 : decode cX8_repair 36 = .ok (.iload_n 3, 1) := by decide +kernel
theorem dX8_repair_37 : decode cX8_repair 37 = .ok (.ifCond .eq 7, 3) := by decide +kernel
theorem dX8_repair_40 : decode cX8_repair 40 = .ok (.iload_n 1, 1) := by decide +kernel
theorem dX8_repair_41 : decode cX8_repair 41 = .ok (.goto 4, 3) := by decide +kernel
theorem dX8_repair_44 : decode cX8_repair 44 = .ok (.iconst 0, 1) := by decide +kernel
theorem dX8_repair_45 : decode cX8_repair 45 = .ok (.iaload, 1) := by decide +kernel
theorem dX8_repair_46 : decode cX8_repair 46 = .ok (.bipush 20, 2) := by decide +kernel
theorem dX8_repair_48 : decode cX8_repair 48 = .ok (.if_icmp .ge 7, 3) := by decide +kernel
theorem dX8_repair_51 : decode cX8_repair 51 = .ok (.iconst 1, 1) := by decide +kernel
theorem dX8_repair_52 : decode cX8_repair 52 = .ok (.goto 4, 3) := by decide +kernel
theorem dX8_repair_55 : decode cX8_repair 55 = .ok (.iconst 0, 1) := by decide +kernel
theorem dX8_repair_56 : decode cX8_repair 56 = .ok (.istore 4, 2) := by decide +kernel
theorem dX8_repair_58 : decode cX8_repair 58 = .ok (.aload_n 0, 1) := by decide +kernel
theorem dX8_repair_59 : decode cX8_repair 59 = .ok (.iload_n 3, 1) := by decide +kernel
theorem dX8_repair_60 : decode cX8_repair 60 = .ok (.iload_n 2, 1) := by decide +kernel
theorem dX8_repair_61 : decode cX8_repair 61 = .ok (.iconst 0, 1) := by decide +kernel
theorem dX8_repair_62 : decode cX8_repair 62 = .ok (.iconst 4, 1) := by decide +kernel
theorem dX8_repair_63 : decode cX8_repair 63 = .ok (.invokestatic 75, 3) := by decide +kernel
theorem dX8_repair_66 : decode cX8_repair 66 = .ok (.iload 4, 2) := by decide +kernel
theorem dX8_repair_68 : decode cX8_repair 68 = .ok (.invokevirtual 83, 3) := by decide +kernel
theorem dX8_repair_71 : decode cX8_repair 71 = .ok (.ifCond .ne 5, 3) := by decide +kernel
theorem dX8_repair_74 : decode cX8_repair 74 = .ok (.iconst 0, 1) := by decide +kernel
theorem dX8_repair_75 : decode cX8_repair 75 = .ok (.ireturn, 1) := by decide +kernel
theorem dX8_repair_76 : decode cX8_repair 76 = .ok (.aload_n 0, 1) := by decide +kernel
theorem dX8_repair_77 : decode cX8_repair 77 = .ok (.getfield 56, 3) := by decide +kernel
theorem dX8_repair_80 : decode cX8_repair 80 = .ok (.bipush 20, 2) := by decide +kernel
theorem dX8_repair_82 : decode cX8_repair 82 = .ok (.iload_n 1, 1) := by decide +kernel
theorem dX8_repair_83 : decode cX8_repair 83 = .ok (.imul, 1) := by decide +kernel
theorem dX8_repair_84 : decode cX8_repair 84 = .ok (.aload_n 0, 1) := by decide +kernel
theorem dX8_repair_85 : decode cX8_repair 85 = .ok (.getfield 53, 3) := by decide +kernel
theorem dX8_repair_88 : decode cX8_repair 88 = .ok (.iload_n 1, 1) := by decide +kernel
theorem dX8_repair_89 : decode cX8_repair 89 = .ok (.iaload, 1) := by decide +kernel
theorem dX8_repair_90 : decode cX8_repair 90 = .ok (.iadd, 1) := by decide +kernel
theorem dX8_repair_91 : decode cX8_repair 91 = .ok (.iload_n 2, 1) := by decide +kernel
theorem dX8_repair_92 : decode cX8_repair 92 = .ok (.iastore, 1) := by decide +kernel
theorem dX8_repair_93 : decode cX8_repair 93 = .ok (.aload_n 0, 1) := by decide +kernel
theorem dX8_repair_94 : decode cX8_repair 94 = .ok (.getfield 53, 3) := by decide +kernel
theorem dX8_repair_97 : decode cX8_repair 97 = .ok (.iload_n 1, 1) := by decide +kernel
theorem dX8_repair_98 : decode cX8_repair 98 = .ok (.dup2, 1) := by decide +kernel
theorem dX8_repair_99 : decode cX8_repair 99 = .ok (.iaload, 1) := by decide +kernel
theorem dX8_repair_100 : decode cX8_repair 100 = .ok (.iconst 1, 1) := by decide +kernel
theorem dX8_repair_101 : decode cX8_repair 101 = .ok (.iadd, 1) := by decide +kernel
theorem dX8_repair_102 : decode cX8_repair 102 = .ok (.iastore, 1) := by decide +kernel
theorem dX8_repair_103 : decode cX8_repair 103 = .ok (.aload_n 0, 1) := by decide +kernel
theorem dX8_repair_104 : decode cX8_repair 104 = .ok (.getfield 53, 3) := by decide +kernel
theorem dX8_repair_107 : decode cX8_repair 107 = .ok (.iload_n 1, 1) := by decide +kernel
theorem dX8_repair_108 : decode cX8_repair 108 = .ok (.iaload, 1) := by decide +kernel
theorem dX8_repair_109 : decode cX8_repair 109 = .ok (.ireturn, 1) := by decide +kernel
set_option maxRecDepth 20000 in
theorem ggX8_undo_X8_isBook : GoodIn wsX8_undo wsX8_isBook := goodIn_r _ [7, 8, 9, 10, 6, 11, 17, 18, 19, 20, 21, 22, 23, 24, 25, 26, 27, 28, 29, 30, 31, 32, 33, 34, 35, 36, 37, 38, 39, 40, 41, 42, 43, 44] (by decide +kernel) (by decide +kernel)
set_option maxRecDepth 20000 in
theorem gX8_undo_X8_isBook : GoodIn wsX8_undo (wsV RX8 152 RX8 yX8_isBook wsX8_isBook) := goodIn_app (goodIn_of _ (by decide +kernel)) ggX8_undo_X8_isBook
set_option maxRecDepth 20000 in
theorem ggX8_undo_X8_goes : GoodIn wsX8_undo wsX8_goes := goodIn_r _ [15, 16, 17, 18, 19, 20, 21, 22, 23, 24, 25, 26, 27, 28, 29, 30, 31, 32, 33, 34, 35, 36, 37, 38, 39, 40, 41, 42, 43, 44] (by decide +kernel) (by decide +kernel)
set_option maxRecDepth 20000 in
theorem gX8_undo_X8_goes : GoodIn wsX8_undo (wsV RX8 83 RX8 yX8_goes wsX8_goes) := goodIn_app (goodIn_of _ (by decide +kernel)) ggX8_undo_X8_goes
theorem dX8_undo_0 : decode cX8_undo 0 = .ok (.aload_n 0, 1) := by decide +kernel
theorem dX8_undo_1 : decode cX8_undo 1 = .ok (.iload_n 1, 1) := by decide +kernel
theorem dX8_undo_2 : decode cX8_undo 2 = .ok (.invokevirtual 152, 3) := by decide +kernel
theorem dX8_undo_5 : decode cX8_undo 5 = .ok (.istore_n 2, 1) := by decide +kernel
theorem dX8_undo_6 : decode cX8_undo 6 = .ok (.iload_n 2, 1) := by decide +kernel
theorem dX8_undo_7 : decode cX8_undo 7 = .ok (.ifCond .eq 12, 3) := by decide +kernel
theorem dX8_undo_10 : decode cX8_undo 10 = .ok (.aload_n 0, 1) := by decide +kernel
theorem dX8_undo_11 : decode cX8_undo 11 = .ok (.getfield 53, 3) := by decide +kernel
theorem dX8_undo_14 : decode cX8_undo 14 = .ok (.iload_n 1, 1) := by decide +kernel
theorem dX8_undo_15 : decode cX8_undo 15 = .ok (.iaload, 1) := by decide +kernel
theorem dX8_undo_16 : decode cX8_undo 16 = .ok (.goto 4, 3) := by decide +kernel
theorem dX8_undo_19 : decode cX8_undo 19 = .ok (.iconst 0, 1) := by decide +kernel
theorem dX8_undo_20 : decode cX8_undo 20 = .ok (.istore_n 3, 1) := by decide +kernel
theorem dX8_undo_21 : decode cX8_undo 21 = .ok (.aload_n 0, 1) := by decide +kernel
theorem dX8_undo_22 : decode cX8_undo 22 = .ok (.iload_n 2, 1) := by decide +kernel
theorem dX8_undo_23 : decode cX8_undo 23 = .ok (.iload_n 3, 1) := by decide +kernel
theorem dX8_undo_24 : decode cX8_undo 24 = .ok (.ifCond .le 24, 3) := by decide +kernel
theorem dX8_undo_27 : decode cX8_undo 27 = .ok (.aload_n 0, 1) := by decide +kernel
theorem dX8_undo_28 : decode cX8_undo 28 = .ok (.getfield 56, 3) := by decide +kernel
theorem dX8_undo_31 : decode cX8_undo 31 = .ok (.bipush 20, 2) := by decide +kernel
theorem dX8_undo_33 : decode cX8_undo 33 = .ok (.iload_n 1, 1) := by decide +kernel
theorem dX8_undo_34 : decode cX8_undo 34 = .ok (.imul, 1) := by decide +kernel
theorem dX8_undo_35 : decode cX8_undo 35 = .ok (.iload_n 3, 1) := by decide +kernel
theorem dX8_undo_36 : decode cX8_undo 36 = .ok (.iadd, 1) := by decide +kernel
theorem dX8_undo_37 : decode cX8_undo 37 = .ok (.iconst 1, 1) := by decide +kernel
theorem dX8_undo_38 : decode cX8_undo 38 = .ok (.isub, 1) := by decide +kernel
theorem dX8_undo_39 : decode cX8_undo 39 = .ok (.iaload, 1) := by decide +kernel
theorem dX8_undo_40 : decode cX8_undo 40 = .ok (.iconst 3, 1) := by decide +kernel
theorem dX8_undo_41 : decode cX8_undo 41 = .ok (.if_icmp .ge 7, 3) := by decide +kernel
theorem dX8_undo_44 : decode cX8_undo 44 = .ok (.iconst 1, 1) := by decide +kernel
theorem dX8_undo_45 : decode cX8_undo 45 = .ok (.goto 4, 3) := by decide +kernel
theorem dX8_undo_48 : decode cX8_undo 48 = .ok (.iconst 0, 1) := by decide +kernel
theorem dX8_undo_49 : decode cX8_undo 49 = .ok (.iconst 1, 1) := by decide +kernel
theorem dX8_undo_50 : decode cX8_undo 50 = .ok (.invokevirtual 83, 3) := by decide +kernel
theorem dX8_undo_53 : decode cX8_undo 53 = .ok (.ifCond .ne 5, 3) := by decide +kernel
theorem dX8_undo_56 : decode cX8_undo 56 = .ok (.iconst 0, 1) := by decide +kernel
theorem dX8_undo_57 : decode cX8_undo 57 = .ok (.ireturn, 1) := by decide +kernel
theorem dX8_undo_58 : decode cX8_undo 58 = .ok (.aload_n 0, 1) := by decide +kernel
theorem dX8_undo_59 : decode cX8_undo 59 = .ok (.getfield 53, 3) := by decide +kernel
theorem dX8_undo_62 : decode cX8_undo 62 = .ok (.iload_n 1, 1) := by decide +kernel
theorem dX8_undo_63 : decode cX8_undo 63 = .ok (.dup2, 1) := by decide +kernel
theorem dX8_undo_64 : decode cX8_undo 64 = .ok (.iaload, 1) := by decide +kernel
theorem dX8_undo_65 : decode cX8_undo 65 = .ok (.iconst 1, 1) := by decide +kernel
theorem dX8_undo_66 : decode cX8_undo 66 = .ok (.isub, 1) := by decide +kernel
theorem dX8_undo_67 : decode cX8_undo 67 = .ok (.iastore, 1) := by decide +kernel
theorem dX8_undo_68 : decode cX8_undo 68 = .ok (.aload_n 0, 1) := by decide +kernel
theorem dX8_undo_69 : decode cX8_undo 69 = .ok (.getfield 56, 3) := by decide +kernel
theorem dX8_undo_72 : decode cX8_undo 72 = .ok (.bipush 20, 2) := by decide +kernel
theorem dX8_undo_74 : decode cX8_undo 74 = .ok (.iload_n 1, 1) := by decide +kernel
theorem dX8_undo_75 : decode cX8_undo 75 = .ok (.imul, 1) := by decide +kernel
theorem dX8_undo_76 : decode cX8_undo 76 = .ok (.aload_n 0, 1) := by decide +kernel
theorem dX8_undo_77 : decode cX8_undo 77 = .ok (.getfield 53, 3) := by decide +kernel
theorem dX8_undo_80 : decode cX8_undo 80 = .ok (.iload_n 1, 1) := by decide +kernel
theorem dX8_undo_81 : decode cX8_undo 81 = .ok (.iaload, 1) := by decide +kernel
theorem dX8_undo_82 : decode cX8_undo 82 = .ok (.iadd, 1) := by decide +kernel
theorem dX8_undo_83 : decode cX8_undo 83 = .ok (.iaload, 1) := by decide +kernel
theorem dX8_undo_84 : decode cX8_undo 84 = .ok (.ireturn, 1) := by decide +kernel
set_option maxRecDepth 20000 in
theorem ggX8_speak_X8_isBook : GoodIn wsX8_speak wsX8_isBook := goodIn_r _ [9, 10, 11, 12, 8, 13, 19, 20, 21, 22, 23, 24, 25, 26, 27, 28, 29, 30, 31, 32, 33, 34, 35, 36, 37, 38, 39, 40, 41, 42, 43, 44, 45, 46] (by decide +kernel) (by decide +kernel)
set_option maxRecDepth 20000 in
theorem gX8_speak_X8_isBook : GoodIn wsX8_speak (wsV RX8 152 RX8 yX8_isBook wsX8_isBook) := goodIn_app (goodIn_of _ (by decide +kernel)) ggX8_speak_X8_isBook
set_option maxRecDepth 20000 in
theorem ggX8_speak_X8_in : GoodIn wsX8_speak wsX8_in := goodIn_r _ [13] (by decide +kernel) (by decide +kernel)
set_option maxRecDepth 20000 in
theorem gX8_speak_X8_in : GoodIn wsX8_speak (va_wsS RX8 75 yX8_in wsX8_in) := goodIn_app (goodIn_of _ (by decide +kernel)) ggX8_speak_X8_in
set_option maxRecDepth 20000 in
theorem ggX8_speak_X8_goes : GoodIn wsX8_speak wsX8_goes := goodIn_r _ [17, 18, 19, 20, 21, 22, 23, 24, 25, 26, 27, 28, 29, 30, 31, 32, 33, 34, 35, 36, 37, 38, 39, 40, 41, 42, 43, 44, 45, 46] (by decide +kernel) (by decide +kernel)
set_option maxRecDepth 20000 in
theorem gX8_speak_X8_goes : GoodIn wsX8_speak (wsV RX8 83 RX8 yX8_goes wsX8_goes) := goodIn_app (goodIn_of _ (by decide +kernel)) ggX8_speak_X8_goes
theorem dX8_speak_0 : decode cX8_speak 0 = .ok (.aload_n 0, 1) := by decide +kernel
theorem dX8_speak_1 : decode cX8_speak 1 = .ok (.iload_n 1, 1) := by decide +kernel
theorem dX8_speak_2 : decode cX8_speak 2 = .ok (.invokevirtual 152, 3) := by decide +kernel
theorem dX8_speak_5 : decode cX8_speak 5 = .ok (.istore 5, 2) := by decide +kernel
theorem dX8_speak_7 : decode cX8_speak 7 = .ok (.iload_n 2, 1) := by decide +kernel
theorem dX8_speak_8 : decode cX8_speak 8 = .ok (.sipush 1400, 3) := by decide +kernel
theorem dX8_speak_11 : decode cX8_speak 11 = .ok (.sipush 2000, 3) := by decide +kernel
theorem dX8_speak_14 : decode cX8_speak 14 = .ok (.invokestatic 75, 3) := by decide +kernel
theorem dX8_speak_17 : decode cX8_speak 17 = .ok (.ifCond .eq 29, 3) := by decide +kernel
theorem dX8_speak_20 : decode cX8_speak 20 = .ok (.iload_n 3, 1) := by decide +kernel
theorem dX8_speak_21 : decode cX8_speak 21 = .ok (.iload_n 2, 1) := by decide +kernel
theorem dX8_speak_22 : decode cX8_speak 22 = .ok (.sipush 2000, 3) := by decide +kernel
theorem dX8_speak_25 : decode cX8_speak 25 = .ok (.invokestatic 75, 3) := by decide +kernel
theorem dX8_speak_28 : decode cX8_speak 28 = .ok (.ifCond .eq 18, 3) := by decide +kernel
theorem dX8_speak_31 : decode cX8_speak 31 = .ok (.iload 4, 2) := by decide +kernel
theorem dX8_speak_33 : decode cX8_speak 33 = .ok (.iconst 1, 1) := by decide +kernel
theorem dX8_speak_34 : decode cX8_speak 34 = .ok (.bipush 9, 2) := by decide +kernel
theorem dX8_speak_36 : decode cX8_speak 36 = .ok (.invokestatic 75, 3) := by decide +kernel
theorem dX8_speak_39 : decode cX8_speak 39 = .ok (.ifCond .eq 7, 3) := by decide +kernel
theorem dX8_speak_42 : decode cX8_speak 42 = .ok (.iconst 1, 1) := by decide +kernel
theorem dX8_speak_43 : decode cX8_speak 43 = .ok (.goto 4, 3) := by decide +kernel
theorem dX8_speak_46 : decode cX8_speak 46 = .ok (.iconst 0, 1) := by decide +kernel
theorem dX8_speak_47 : decode cX8_speak 47 = .ok (.istore 6, 2) := by decide +kernel
theorem dX8_speak_49 : decode cX8_speak 49 = .ok (.aload_n 0, 1) := by decide +kernel
theorem dX8_speak_50 : decode cX8_speak 50 = .ok (.iload 5, 2) := by decide +kernel
theorem dX8_speak_52 : decode cX8_speak 52 = .ok (.iload 6, 2) := by decide +kernel
theorem dX8_speak_54 : decode cX8_speak 54 = .ok (.iload 5, 2) := by decide +kernel
theorem dX8_speak_56 : decode cX8_speak 56 = .ok (.ifCond .eq 27, 3) := by decide +kernel
theorem dX8_speak_59 : decode cX8_speak 59 = .ok (.aload_n 0, 1) := by decide +kernel
theorem dX8_speak_60 : decode cX8_speak 60 = .ok (.getfield 59, 3) := by decide +kernel
theorem dX8_speak_63 : decode cX8_speak 63 = .ok (.iload 5, 2) := by decide +kernel
theorem dX8_speak_65 : decode cX8_speak 65 = .ok (.ifCond .eq 7, 3) := by decide +kernel
theorem dX8_speak_68 : decode cX8_speak 68 = .ok (.iload_n 1, 1) := by decide +kernel
theorem dX8_speak_69 : decode cX8_speak 69 = .ok (.goto 4, 3) := by decide +kernel
theorem dX8_speak_72 : decode cX8_speak 72 = .ok (.iconst 0, 1) := by decide +kernel
theorem dX8_speak_73 : decode cX8_speak 73 = .ok (.iaload, 1) := by decide +kernel
theorem dX8_speak_74 : decode cX8_speak 74 = .ok (.bipush 20, 2) := by decide +kernel
theorem dX8_speak_76 : decode cX8_speak 76 = .ok (.if_icmp .ge 7, 3) := by decide +kernel
theorem dX8_speak_79 : decode cX8_speak 79 = .ok (.iconst 1, 1) := by decide +kernel
theorem dX8_speak_80 : decode cX8_speak 80 = .ok (.goto 4, 3) := by decide +kernel
theorem dX8_speak_83 : decode cX8_speak 83 = .ok (.iconst 0, 1) := by decide +kernel
theorem dX8_speak_84 : decode cX8_speak 84 = .ok (.invokevirtual 83, 3) := by decide +kernel
theorem dX8_speak_87 : decode cX8_speak 87 = .ok (.ifCond .ne 5, 3) := by decide +kernel
theorem dX8_speak_90 : decode cX8_speak 90 = .ok (.iconst 0, 1) := by decide +kernel
theorem dX8_speak_91 : decode cX8_speak 91 = .ok (.ireturn, 1) := by decide +kernel
theorem dX8_speak_92 : decode cX8_speak 92 = .ok (.bipush 20, 2) := by decide +kernel
theorem dX8_speak_94 : decode cX8_speak 94 = .ok (.iload_n 1, 1) := by decide +kernel
theorem dX8_speak_95 : decode cX8_speak 95 = .ok (.imul, 1) := by decide +kernel
theorem dX8_speak_96 : decode cX8_speak 96 = .ok (.aload_n 0, 1) := by decide +kernel
theorem dX8_speak_97 : decode cX8_speak 97 = .ok (.getfield 59, 3) := by decide +kernel
theorem dX8_speak_100 : decode cX8_speak 100 = .ok (.iload_n 1, 1) := by decide +kernel
theorem dX8_speak_101 : decode cX8_speak 101 = .ok (.iaload, 1) := by decide +kernel
theorem dX8_speak_102 : decode cX8_speak 102 = .ok (.iadd, 1) := by decide +kernel
theorem dX8_speak_103 : decode cX8_speak 103 = .ok (.istore 7, 2) := by decide +kernel
theorem dX8_speak_105 : decode cX8_speak 105 = .ok (.aload_n 0, 1) := by decide +kernel
theorem dX8_speak_106 : decode cX8_speak 106 = .ok (.getfield 62, 3) := by decide +kernel
theorem dX8_speak_109 : decode cX8_speak 109 = .ok (.iload 7, 2) := by decide +kernel
theorem dX8_speak_111 : decode cX8_speak 111 = .ok (.iload_n 2, 1) := by decide +kernel
theorem dX8_speak_112 : decode cX8_speak 112 = .ok (.iastore, 1) := by decide +kernel
theorem dX8_speak_113 : decode cX8_speak 113 = .ok (.aload_n 0, 1) := by decide +kernel
theorem dX8_speak_114 : decode cX8_speak 114 = .ok (.getfield 65, 3) := by decide +kernel
theorem dX8_speak_117 : decode cX8_speak 117 = .ok (.iload 7, 2) := by decide +kernel
theorem dX8_speak_119 : decode cX8_speak 119 = .ok (.iload_n 3, 1) := by decide +kernel
theorem dX8_speak_120 : decode cX8_speak 120 = .ok (.iastore, 1) := by decide +kernel
theorem dX8_speak_121 : decode cX8_speak 121 = .ok (.aload_n 0, 1) := by decide +kernel
theorem dX8_speak_122 : decode cX8_speak 122 = .ok (.getfield 68, 3) := by decide +kernel
theorem dX8_speak_125 : decode cX8_speak 125 = .ok (.iload 7, 2) := by decide +kernel
theorem dX8_speak_127 : decode cX8_speak 127 = .ok (.iload 4, 2) := by decide +kernel
theorem dX8_speak_129 : decode cX8_speak 129 = .ok (.iastore, 1) := by decide +kernel
theorem dX8_speak_130 : decode cX8_speak 130 = .ok (.aload_n 0, 1) := by decide +kernel
theorem dX8_speak_131 : decode cX8_speak 131 = .ok (.getfield 59, 3) := by decide +kernel
theorem dX8_speak_134 : decode cX8_speak 134 = .ok (.iload_n 1, 1) := by decide +kernel
theorem dX8_speak_135 : decode cX8_speak 135 = .ok (.dup2, 1) := by decide +kernel
theorem dX8_speak_136 : decode cX8_speak 136 = .ok (.iaload, 1) := by decide +kernel
theorem dX8_speak_137 : decode cX8_speak 137 = .ok (.iconst 1, 1) := by decide +kernel
theorem dX8_speak_138 : decode cX8_speak 138 = .ok (.iadd, 1) := by decide +kernel
theorem dX8_speak_139 : decode cX8_speak 139 = .ok (.iastore, 1) := by decide +kernel
theorem dX8_speak_140 : decode cX8_speak 140 = .ok (.aload_n 0, 1) := by decide +kernel
theorem dX8_speak_141 : decode cX8_speak 141 = .ok (.getfield 59, 3) := by decide +kernel
theorem dX8_speak_144 : decode cX8_speak 144 = .ok (.iload_n 1, 1) := by decide +kernel
theorem dX8_speak_145 : decode cX8_speak 145 = .ok (.iaload, 1) := by decide +kernel
theorem dX8_speak_146 : decode cX8_speak 146 = .ok (.ireturn, 1) := by decide +kernel
set_option maxRecDepth 20000 in
theorem ggX8_sumOf_X8_in : GoodIn wsX8_sumOf wsX8_in := goodIn_r _ [8] (by decide +kernel) (by decide +kernel)
set_option maxRecDepth 20000 in
theorem gX8_sumOf_X8_in : GoodIn wsX8_sumOf (va_wsS RX8 75 yX8_in wsX8_in) := goodIn_app (goodIn_of _ (by decide +kernel)) ggX8_sumOf_X8_in
theorem dX8_sumOf_0 : decode cX8_sumOf 0 = .ok (.iconst 0, 1) := by decide +kernel
theorem dX8_sumOf_1 : decode cX8_sumOf 1 = .ok (.istore_n 3, 1) := by decide +kernel
theorem dX8_sumOf_2 : decode cX8_sumOf 2 = .ok (.bipush 20, 2) := by decide +kernel
theorem dX8_sumOf_4 : decode cX8_sumOf 4 = .ok (.iload_n 1, 1) := by decide +kernel
theorem dX8_sumOf_5 : decode cX8_sumOf 5 = .ok (.imul, 1) := by decide +kernel
theorem dX8_sumOf_6 : decode cX8_sumOf 6 = .ok (.istore 4, 2) := by decide +kernel
theorem dX8_sumOf_8 : decode cX8_sumOf 8 = .ok (.iload 4, 2) := by decide +kernel
theorem dX8_sumOf_10 : decode cX8_sumOf 10 = .ok (.bipush 20, 2) := by decide +kernel
theorem dX8_sumOf_12 : decode cX8_sumOf 12 = .ok (.iload_n 1, 1) := by decide +kernel
theorem dX8_sumOf_13 : decode cX8_sumOf 13 = .ok (.imul, 1) := by decide +kernel
theorem dX8_sumOf_14 : decode cX8_sumOf 14 = .ok (.aload_n 0, 1) := by decide +kernel
theorem dX8_sumOf_15 : decode cX8_sumOf 15 = .ok (.getfield 59, 3) := by decide +kernel
theorem dX8_sumOf_18 : decode cX8_sumOf 18 = .ok (.iload_n 1, 1) := by decide +kernel
theorem dX8_sumOf_19 : decode cX8_sumOf 19 = .ok (.iaload, 1) := by decide +kernel
theorem dX8_sumOf_20 : decode cX8_sumOf 20 = .ok (.iadd, 1) := by decide +kernel
theorem dX8_sumOf_21 : decode cX8_sumOf 21 = .ok (.if_icmp .ge 44, 3) := by decide +kernel
theorem dX8_sumOf_24 : decode cX8_sumOf 24 = .ok (.iload_n 3, 1) := by decide +kernel
theorem dX8_sumOf_25 : decode cX8_sumOf 25 = .ok (.iload_n 2, 1) := by decide +kernel
theorem dX8_sumOf_26 : decode cX8_sumOf 26 = .ok (.aload_n 0, 1) := by decide +kernel
theorem dX8_sumOf_27 : decode cX8_sumOf 27 = .ok (.getfield 62, 3) := by decide +kernel
theorem dX8_sumOf_30 : decode cX8_sumOf 30 = .ok (.iload 4, 2) := by decide +kernel
theorem dX8_sumOf_32 : decode cX8_sumOf 32 = .ok (.iaload, 1) := by decide +kernel
theorem dX8_sumOf_33 : decode cX8_sumOf 33 = .ok (.aload_n 0, 1) := by decide +kernel
theorem dX8_sumOf_34 : decode cX8_sumOf 34 = .ok (.getfield 65, 3) := by decide +kernel
theorem dX8_sumOf_37 : decode cX8_sumOf 37 = .ok (.iload 4, 2) := by decide +kernel
theorem dX8_sumOf_39 : decode cX8_sumOf 39 = .ok (.iaload, 1) := by decide +kernel
theorem dX8_sumOf_40 : decode cX8_sumOf 40 = .ok (.invokestatic 75, 3) := by decide +kernel
theorem dX8_sumOf_43 : decode cX8_sumOf 43 = .ok (.ifCond .eq 13, 3) := by decide +kernel
theorem dX8_sumOf_46 : decode cX8_sumOf 46 = .ok (.aload_n 0, 1) := by decide +kernel
theorem dX8_sumOf_47 : decode cX8_sumOf 47 = .ok (.getfield 68, 3) := by decide +kernel
theorem dX8_sumOf_50 : decode cX8_sumOf 50 = .ok (.iload 4, 2) := by decide +kernel
theorem dX8_sumOf_52 : decode cX8_sumOf 52 = .ok (.iaload, 1) := by decide +kernel
theorem dX8_sumOf_53 : decode cX8_sumOf 53 = .ok (.goto 4, 3) := by decide +kernel
theorem dX8_sumOf_56 : decode cX8_sumOf 56 = .ok (.iconst 0, 1) := by decide +kernel
theorem dX8_sumOf_57 : decode cX8_sumOf 57 = .ok (.iadd, 1) := by decide +kernel
theorem dX8_sumOf_58 : decode cX8_sumOf 58 = .ok (.istore_n 3, 1) := by decide +kernel
theorem dX8_sumOf_59 : decode cX8_sumOf 59 = .ok (.iinc 4 1, 3) := by decide +kernel
theorem dX8_sumOf_62 : decode cX8_sumOf 62 = .ok (.goto (-54), 3) := by decide +kernel
theorem dX8_sumOf_65 : decode cX8_sumOf 65 = .ok (.iload_n 3, 1) := by decide +kernel
theorem dX8_sumOf_66 : decode cX8_sumOf 66 = .ok (.ireturn, 1) := by decide +kernel
set_option maxRecDepth 20000 in
theorem ggX8_best_X8_sumOf : GoodIn wsX8_best wsX8_sumOf := goodIn_r _ [5, 6, 7, 8, 9, 10, 11, 4, 12, 13, 14, 15, 16, 17, 18, 19, 20, 21, 22, 23, 24, 25, 26, 27, 28, 29, 30, 31, 32, 33, 34, 35, 36, 37, 38, 39, 40] (by decide +kernel) (by decide +kernel)
set_option maxRecDepth 20000 in
theorem gX8_best_X8_sumOf : GoodIn wsX8_best (wsV RX8 188 RX8 yX8_sumOf wsX8_sumOf) := goodIn_app (goodIn_of _ (by decide +kernel)) ggX8_best_X8_sumOf
theorem dX8_best_0 : decode cX8_best 0 = .ok (.iconst (-1), 1) := by decide +kernel
theorem dX8_best_1 : decode cX8_best 1 = .ok (.istore_n 2, 1) := by decide +kernel
theorem dX8_best_2 : decode cX8_best 2 = .ok (.iconst 0, 1) := by decide +kernel
theorem dX8_best_3 : decode cX8_best 3 = .ok (.istore_n 3, 1) := by decide +kernel
theorem dX8_best_4 : decode cX8_best 4 = .ok (.sipush 1400, 3) := by decide +kernel
theorem dX8_best_7 : decode cX8_best 7 = .ok (.istore 4, 2) := by decide +kernel
theorem dX8_best_9 : decode cX8_best 9 = .ok (.iload 4, 2) := by decide +kernel
theorem dX8_best_11 : decode cX8_best 11 = .ok (.sipush 2000, 3) := by decide +kernel
theorem dX8_best_14 : decode cX8_best 14 = .ok (.if_icmp .gt 44, 3) := by decide +kernel
theorem dX8_best_17 : decode cX8_best 17 = .ok (.aload_n 0, 1) := by decide +kernel
theorem dX8_best_18 : decode cX8_best 18 = .ok (.iload_n 1, 1) := by decide +kernel
theorem dX8_best_19 : decode cX8_best 19 = .ok (.iload 4, 2) := by decide +kernel
theorem dX8_best_21 : decode cX8_best 21 = .ok (.invokevirtual 188, 3) := by decide +kernel
theorem dX8_best_24 : decode cX8_best 24 = .ok (.istore 5, 2) := by decide +kernel
theorem dX8_best_26 : decode cX8_best 26 = .ok (.iload 5, 2) := by decide +kernel
theorem dX8_best_28 : decode cX8_best 28 = .ok (.iload_n 3, 1) := by decide +kernel
theorem dX8_best_29 : decode cX8_best 29 = .ok (.if_icmp .le 8, 3) := by decide +kernel
theorem dX8_best_32 : decode cX8_best 32 = .ok (.iload 4, 2) := by decide +kernel
theorem dX8_best_34 : decode cX8_best 34 = .ok (.goto 4, 3) := by decide +kernel
theorem dX8_best_37 : decode cX8_best 37 = .ok (.iload_n 2, 1) := by decide +kernel
theorem dX8_best_38 : decode cX8_best 38 = .ok (.istore_n 2, 1) := by decide +kernel
theorem dX8_best_39 : decode cX8_best 39 = .ok (.iload 5, 2) := by decide +kernel
theorem dX8_best_41 : decode cX8_best 41 = .ok (.iload_n 3, 1) := by decide +kernel
theorem dX8_best_42 : decode cX8_best 42 = .ok (.if_icmp .le 8, 3) := by decide +kernel
theorem dX8_best_45 : decode cX8_best 45 = .ok (.iload 5, 2) := by decide +kernel
theorem dX8_best_47 : decode cX8_best 47 = .ok (.goto 4, 3) := by decide +kernel
theorem dX8_best_50 : decode cX8_best 50 = .ok (.iload_n 3, 1) := by decide +kernel
theorem dX8_best_51 : decode cX8_best 51 = .ok (.istore_n 3, 1) := by decide +kernel
theorem dX8_best_52 : decode cX8_best 52 = .ok (.iinc 4 1, 3) := by decide +kernel
theorem dX8_best_55 : decode cX8_best 55 = .ok (.goto (-46), 3) := by decide +kernel
theorem dX8_best_58 : decode cX8_best 58 = .ok (.iload_n 2, 1) := by decide +kernel
theorem dX8_best_59 : decode cX8_best 59 = .ok (.ireturn, 1) := by decide +kernel
set_option maxRecDepth 20000 in
theorem ggX8_year_X8_isBook : GoodIn wsX8_year wsX8_isBook := goodIn_r _ [5, 6, 7, 8, 4, 9, 27, 28, 29, 30, 31, 32, 33, 34, 35, 36, 37, 38, 39, 40, 41, 42, 43, 44, 45, 46, 47, 48, 49, 50, 51, 52, 53, 54] (by decide +kernel) (by decide +kernel)
set_option maxRecDepth 20000 in
theorem gX8_year_X8_isBook : GoodIn wsX8_year (wsV RX8 152 RX8 yX8_isBook wsX8_isBook) := goodIn_app (goodIn_of _ (by decide +kernel)) ggX8_year_X8_isBook
set_option maxRecDepth 20000 in
theorem ggX8_year_X8_goes : GoodIn wsX8_year wsX8_goes := goodIn_r _ [13, 14, 27, 28, 29, 30, 31, 32, 33, 34, 35, 36, 37, 38, 39, 40, 41, 42, 43, 44, 45, 46, 47, 48, 49, 50, 51, 52, 53, 54] (by decide +kernel) (by decide +kernel)
set_option maxRecDepth 20000 in
theorem gX8_year_X8_goes : GoodIn wsX8_year (wsV RX8 83 RX8 yX8_goes wsX8_goes) := goodIn_app (goodIn_of _ (by decide +kernel)) ggX8_year_X8_goes
set_option maxRecDepth 20000 in
theorem ggX8_year_X8_best : GoodIn wsX8_year wsX8_best := goodIn_r _ [18, 19, 20, 21, 4, 22, 23, 24, 25, 26, 7, 8, 9, 27, 28, 29, 30, 31, 32, 33, 34, 35, 36, 37, 38, 39, 40, 41, 42, 43, 44, 45, 46, 47, 48, 49, 50, 51, 52, 53, 54] (by decide +kernel) (by decide +kernel)
set_option maxRecDepth 20000 in
theorem gX8_year_X8_best : GoodIn wsX8_year (wsV RX8 191 RX8 yX8_best wsX8_best) := goodIn_app (goodIn_of _ (by decide +kernel)) ggX8_year_X8_best
set_option maxRecDepth 20000 in
theorem ggX8_year_X8_sumOf : GoodIn wsX8_year wsX8_sumOf := goodIn_r _ [22, 23, 24, 25, 26, 7, 8, 4, 9, 27, 28, 29, 30, 31, 32, 33, 34, 35, 36, 37, 38, 39, 40, 41, 42, 43, 44, 45, 46, 47, 48, 49, 50, 51, 52, 53, 54] (by decide +kernel) (by decide +kernel)
set_option maxRecDepth 20000 in
theorem gX8_year_X8_sumOf : GoodIn wsX8_year (wsV RX8 188 RX8 yX8_sumOf wsX8_sumOf) := goodIn_app (goodIn_of _ (by decide +kernel)) ggX8_year_X8_sumOf
theorem dX8_year_0 : decode cX8_year 0 = .ok (.aload_n 0, 1) := by decide +kernel
theorem dX8_year_1 : decode cX8_year 1 = .ok (.aload_n 0, 1) := by decide +kernel
theorem dX8_year_2 : decode cX8_year 2 = .ok (.iload_n 1, 1) := by decide +kernel
theorem dX8_year_3 : decode cX8_year 3 = .ok (.invokevirtual 152, 3) := by decide +kernel
theorem dX8_year_6 : decode cX8_year 6 = .ok (.iconst 1, 1) := by decide +kernel
theorem dX8_year_7 : decode cX8_year 7 = .ok (.iconst 1, 1) := by decide +kernel
theorem dX8_year_8 : decode cX8_year 8 = .ok (.invokevirtual 83, 3) := by decide +kernel
theorem dX8_year_11 : decode cX8_year 11 = .ok (.ifCond .ne 5, 3) := by decide +kernel
theorem dX8_year_14 : decode cX8_year 14 = .ok (.iconst 0, 1) := by decide +kernel
theorem dX8_year_15 : decode cX8_year 15 = .ok (.ireturn, 1) := by decide +kernel
theorem dX8_year_16 : decode cX8_year 16 = .ok (.aload_n 0, 1) := by decide +kernel
theorem dX8_year_17 : decode cX8_year 17 = .ok (.iload_n 1, 1) := by decide +kernel
theorem dX8_year_18 : decode cX8_year 18 = .ok (.invokevirtual 191, 3) := by decide +kernel
theorem dX8_year_21 : decode cX8_year 21 = .ok (.istore_n 3, 1) := by decide +kernel
theorem dX8_year_22 : decode cX8_year 22 = .ok (.iload_n 3, 1) := by decide +kernel
theorem dX8_year_23 : decode cX8_year 23 = .ok (.istore 4, 2) := by decide +kernel
theorem dX8_year_25 : decode cX8_year 25 = .ok (.iload_n 3, 1) := by decide +kernel
theorem dX8_year_26 : decode cX8_year 26 = .ok (.iconst (-1), 1) := by decide +kernel
theorem dX8_year_27 : decode cX8_year 27 = .ok (.if_icmp .eq 35, 3) := by decide +kernel
theorem dX8_year_30 : decode cX8_year 30 = .ok (.iload 4, 2) := by decide +kernel
theorem dX8_year_32 : decode cX8_year 32 = .ok (.sipush 2000, 3) := by decide +kernel
theorem dX8_year_35 : decode cX8_year 35 = .ok (.if_icmp .ge 27, 3) := by decide +kernel
theorem dX8_year_38 : decode cX8_year 38 = .ok (.aload_n 0, 1) := by decide +kernel
theorem dX8_year_39 : decode cX8_year 39 = .ok (.iload_n 1, 1) := by decide +kernel
theorem dX8_year_40 : decode cX8_year 40 = .ok (.iload 4, 2) := by decide +kernel
theorem dX8_year_42 : decode cX8_year 42 = .ok (.iconst 1, 1) := by decide +kernel
theorem dX8_year_43 : decode cX8_year 43 = .ok (.iadd, 1) := by decide +kernel
theorem dX8_year_44 : decode cX8_year 44 = .ok (.invokevirtual 188, 3) := by decide +kernel
theorem dX8_year_47 : decode cX8_year 47 = .ok (.aload_n 0, 1) := by decide +kernel
theorem dX8_year_48 : decode cX8_year 48 = .ok (.iload_n 1, 1) := by decide +kernel
theorem dX8_year_49 : decode cX8_year 49 = .ok (.iload_n 3, 1) := by decide +kernel
theorem dX8_year_50 : decode cX8_year 50 = .ok (.invokevirtual 188, 3) := by decide +kernel
theorem dX8_year_53 : decode cX8_year 53 = .ok (.if_icmp .ne 9, 3) := by decide +kernel
theorem dX8_year_56 : decode cX8_year 56 = .ok (.iinc 4 1, 3) := by decide +kernel
theorem dX8_year_59 : decode cX8_year 59 = .ok (.goto (-34), 3) := by decide +kernel
theorem dX8_year_62 : decode cX8_year 62 = .ok (.iload_n 2, 1) := by decide +kernel
theorem dX8_year_63 : decode cX8_year 63 = .ok (.ifCond .eq 8, 3) := by decide +kernel
theorem dX8_year_66 : decode cX8_year 66 = .ok (.iload 4, 2) := by decide +kernel
theorem dX8_year_68 : decode cX8_year 68 = .ok (.goto 4, 3) := by decide +kernel
theorem dX8_year_71 : decode cX8_year 71 = .ok (.iload_n 3, 1) := by decide +kernel
theorem dX8_year_72 : decode cX8_year 72 = .ok (.ireturn, 1) := by decide +kernel
set_option maxRecDepth 20000 in
theorem ggX8_yearAnew_X8_year : GoodIn wsX8_yearAnew wsX8_year := goodIn_r _ [5, 6, 7, 8, 4, 9, 10, 11, 12, 13, 14, 15, 16, 17, 18, 19, 20, 21, 22, 23, 24, 25, 26, 27, 28, 29, 30, 31, 32, 33, 34, 35, 36, 37, 38, 39, 40, 41, 42, 43, 44, 45, 46, 47, 48, 49, 50, 51, 52, 53, 54, 55, 56, 57, 58] (by decide +kernel) (by decide +kernel)
set_option maxRecDepth 20000 in
theorem gX8_yearAnew_X8_year : GoodIn wsX8_yearAnew (wsV RX8 194 RX8 yX8_year wsX8_year) := goodIn_app (goodIn_of _ (by decide +kernel)) ggX8_yearAnew_X8_year
theorem dX8_yearAnew_0 : decode cX8_yearAnew 0 = .ok (.aload_n 0, 1) := by decide +kernel
theorem dX8_yearAnew_1 : decode cX8_yearAnew 1 = .ok (.iload_n 1, 1) := by decide +kernel
theorem dX8_yearAnew_2 : decode cX8_yearAnew 2 = .ok (.iload_n 2, 1) := by decide +kernel
theorem dX8_yearAnew_3 : decode cX8_yearAnew 3 = .ok (.invokevirtual 194, 3) := by decide +kernel
theorem dX8_yearAnew_6 : decode cX8_yearAnew 6 = .ok (.ireturn, 1) := by decide +kernel
theorem dJ9_floorMod_7cf53_0 : decode cJ9_floorMod_7cf53 0 = .ok (.iload_n 0, 1) := by decide +kernel
theorem dJ9_floorMod_7cf53_1 : decode cJ9_floorMod_7cf53 1 = .ok (.iload_n 1, 1) := by decide +kernel
theorem dJ9_floorMod_7cf53_2 : decode cJ9_floorMod_7cf53 2 = .ok (.irem, 1) := by decide +kernel
theorem dJ9_floorMod_7cf53_3 : decode cJ9_floorMod_7cf53 3 = .ok (.istore_n 2, 1) := by decide +kernel
theorem dJ9_floorMod_7cf53_4 : decode cJ9_floorMod_7cf53 4 = .ok (.iload_n 0, 1) := by decide +kernel
theorem dJ9_floorMod_7cf53_5 : decode cJ9_floorMod_7cf53 5 = .ok (.iload_n 1, 1) := by decide +kernel
theorem dJ9_floorMod_7cf53_6 : decode cJ9_floorMod_7cf53 6 = .ok (.ixor, 1) := by decide +kernel
theorem dJ9_floorMod_7cf53_7 : decode cJ9_floorMod_7cf53 7 = .ok (.ifCond .ge 11, 3) := by decide +kernel
theorem dJ9_floorMod_7cf53_10 : decode cJ9_floorMod_7cf53 10 = .ok (.iload_n 2, 1) := by decide +kernel
theorem dJ9_floorMod_7cf53_11 : decode cJ9_floorMod_7cf53 11 = .ok (.ifCond .eq 7, 3) := by decide +kernel
theorem dJ9_floorMod_7cf53_14 : decode cJ9_floorMod_7cf53 14 = .ok (.iload_n 2, 1) := by decide +kernel
theorem dJ9_floorMod_7cf53_15 : decode cJ9_floorMod_7cf53 15 = .ok (.iload_n 1, 1) := by decide +kernel
theorem dJ9_floorMod_7cf53_16 : decode cJ9_floorMod_7cf53 16 = .ok (.iadd, 1) := by decide +kernel
theorem dJ9_floorMod_7cf53_17 : decode cJ9_floorMod_7cf53 17 = .ok (.ireturn, 1) := by decide +kernel
theorem dJ9_floorMod_7cf53_18 : decode cJ9_floorMod_7cf53 18 = .ok (.iload_n 2, 1) := by decide +kernel
theorem dJ9_floorMod_7cf53_19 : decode cJ9_floorMod_7cf53 19 = .ok (.ireturn, 1) := by decide +kernel
theorem dJ9_max_7cf53_0 : decode cJ9_max_7cf53 0 = .ok (.iload_n 0, 1) := by decide +kernel
theorem dJ9_max_7cf53_1 : decode cJ9_max_7cf53 1 = .ok (.iload_n 1, 1) := by decide +kernel
theorem dJ9_max_7cf53_2 : decode cJ9_max_7cf53 2 = .ok (.if_icmp .lt 7, 3) := by decide +kernel
theorem dJ9_max_7cf53_5 : decode cJ9_max_7cf53 5 = .ok (.iload_n 0, 1) := by decide +kernel
theorem dJ9_max_7cf53_6 : decode cJ9_max_7cf53 6 = .ok (.goto 4, 3) := by decide +kernel
theorem dJ9_max_7cf53_9 : decode cJ9_max_7cf53 9 = .ok (.iload_n 1, 1) := by decide +kernel
theorem dJ9_max_7cf53_10 : decode cJ9_max_7cf53 10 = .ok (.ireturn, 1) := by decide +kernel
theorem dJ9_min_7cf53_0 : decode cJ9_min_7cf53 0 = .ok (.iload_n 0, 1) := by decide +kernel
theorem dJ9_min_7cf53_1 : decode cJ9_min_7cf53 1 = .ok (.iload_n 1, 1) := by decide +kernel
theorem dJ9_min_7cf53_2 : decode cJ9_min_7cf53 2 = .ok (.if_icmp .gt 7, 3) := by decide +kernel
theorem dJ9_min_7cf53_5 : decode cJ9_min_7cf53 5 = .ok (.iload_n 0, 1) := by decide +kernel
theorem dJ9_min_7cf53_6 : decode cJ9_min_7cf53 6 = .ok (.goto 4, 3) := by decide +kernel
theorem dJ9_min_7cf53_9 : decode cJ9_min_7cf53 9 = .ok (.iload_n 1, 1) := by decide +kernel
theorem dJ9_min_7cf53_10 : decode cJ9_min_7cf53 10 = .ok (.ireturn, 1) := by decide +kernel
end
section
def mb_isB (x : Int32) : Prop := x = 0 ∨ x = 1
theorem mb_isB_n {x : Int32} (h : mb_isB x) : narrow .boolean (.int x) = .int x := by rcases h with rfl | rfl <;> rfl
theorem mb_isB_f {x : Int32} (h : mb_isB x) : fits .boolean (.int x) = true := by rcases h with rfl | rfl <;> rfl

section
noncomputable def PX0_distance (N : Nat) (x0 x1 x2 : Int32) (K : Int32 → Unit → Prop) : Prop := ∀ v6 : Int32, v6 = ((x0 - x0 / (8 : Int32) * (8 : Int32)) - x1) → (∀ v13 : Int32, v13 = ((x0 / (8 : Int32)) - x2) → (K ((v6 * v6) + (v13 * v13)) ()))
set_option maxHeartbeats 4000000 in
set_option maxRecDepth 100000 in
theorem cnX0_distance (l : Launch) (D : va_G) (Y : Nat → ClassId) (N : Nat) (sz : Nat) (x0 x1 x2 : Int32) (K : Int32 → Unit → Prop) (hF : PX0_distance N x0 x1 x2 K) : Met l yX0_distance wsX0_distance ({ frames := 0, cells := 0, slots := 0, locals := 0 } : Room) (va_Pc [.int x0, .int x1, .int x2] (mb_B D Y (([] : va_W)) sz)) (va_Qi K (fun u t => mb_T D (va_A (([] : va_W)) sz) ([]) t) (va_A (([] : va_W)) sz)) 0 0 (va_A (([] : va_W)) sz) := by
  refine mb_begin (cc := cX0_distance) (maxL := 5) (ret := (some .int)) (by decide +kernel) rfl (Nat.le_of_ble_eq_true rfl) ?_
  intro p e s m below meth c ls C hsz hnm hP hD hl
  generalize hAe : va_A (([] : va_W)) sz = A at C hD ⊢
  have C : mb_Cx p s m meth c ([.int x0, .int x1, .int x2] : List Value).toArray cX0_distance 5 (some .int) wsX0_distance RX0 D Y A := C
  obtain ⟨hx, hb, hr, hml, hts, hown, hlocks, hA, hG⟩ := id C
  have hK := hG.1
  have hS : va_S A s.heap s.heap [] := va_S.rf
  have hl : lv_has ls 5 [(0, .int x0), (1, .int x1), (2, .int x2)] := hl
  refine lv_iload_n hx hb dX0_distance_0 rfl (lv_at hl 0 rfl) ?_
  refine lv_bipush (v := 8) hx hb dX0_distance_1 (by decide) ?_
  refine lv_irem hx hb dX0_distance_3 (by decide) ?_
  refine lv_iload_n hx hb dX0_distance_4 rfl (lv_at hl 1 rfl) ?_
  refine lv_isub hx hb dX0_distance_5 ?_
  refine lv_topi (fun v6 ev6 => ?_)
  have hF := hF v6 ev6
  refine lv_istore_n (lv' := [(3, .int v6), (0, .int x0), (1, .int x1), (2, .int x2)]) hx hb dX0_distance_6 rfl hl (by decide) rfl (fun ls hl => ?_)
  refine lv_iload_n hx hb dX0_distance_7 rfl (lv_at hl 1 rfl) ?_
  refine lv_bipush (v := 8) hx hb dX0_distance_8 (by decide) ?_
  refine lv_idiv hx hb dX0_distance_10 (by decide) ?_
  refine lv_iload_n hx hb dX0_distance_11 rfl (lv_at hl 3 rfl) ?_
  refine lv_isub hx hb dX0_distance_12 ?_
  refine lv_topi (fun v13 ev13 => ?_)
  have hF := hF v13 ev13
  refine lv_istore (lv' := [(4, .int v13), (3, .int v6), (0, .int x0), (1, .int x1), (2, .int x2)]) hx hb dX0_distance_13 hl (by decide) rfl (fun ls hl => ?_)
  refine lv_iload_n hx hb dX0_distance_15 rfl (lv_at hl 1 rfl) ?_
  refine lv_iload_n hx hb dX0_distance_16 rfl (lv_at hl 1 rfl) ?_
  refine lv_imul hx hb dX0_distance_17 ?_
  refine lv_iload hx hb dX0_distance_18 (lv_at hl 0 rfl) ?_
  refine lv_iload hx hb dX0_distance_20 (lv_at hl 0 rfl) ?_
  refine lv_imul hx hb dX0_distance_22 ?_
  refine lv_iadd hx hb dX0_distance_23 ?_
  exact mb_ri (wf := fun u => []) C rfl (u := ()) hF hP hD hS dX0_distance_24 (Nat.le_of_ble_eq_true rfl) (Nat.le_of_ble_eq_true rfl)
end
section
noncomputable def PX4_opposite (N : Nat) (x0 : Int32) (K : Int32 → Unit → Prop) : Prop := ((x0.toInt < 1 ∨ 4 < x0.toInt) → K (0 : Int32) ()) ∧ (x0.toInt = 1 → K (2 : Int32) ()) ∧ (x0.toInt = 2 → K (1 : Int32) ()) ∧ (x0.toInt = 3 → K (4 : Int32) ()) ∧ (x0.toInt = 4 → K (3 : Int32) ())
set_option maxHeartbeats 4000000 in
set_option maxRecDepth 100000 in
theorem cnX4_opposite (l : Launch) (D : va_G) (Y : Nat → ClassId) (N : Nat) (sz : Nat) (x0 : Int32) (K : Int32 → Unit → Prop) (hF : PX4_opposite N x0 K) : Met l yX4_opposite wsX4_opposite ({ frames := 0, cells := 0, slots := 0, locals := 0 } : Room) (va_Pc [.int x0] (mb_B D Y (([] : va_W)) sz)) (va_Qi K (fun u t => mb_T D (va_A (([] : va_W)) sz) ([]) t) (va_A (([] : va_W)) sz)) 0 0 (va_A (([] : va_W)) sz) := by
  refine mb_begin (cc := cX4_opposite) (maxL := 1) (ret := (some .int)) (by decide +kernel) rfl (Nat.le_of_ble_eq_true rfl) ?_
  intro p e s m below meth c ls C hsz hnm hP hD hl
  generalize hAe : va_A (([] : va_W)) sz = A at C hD ⊢
  have C : mb_Cx p s m meth c ([.int x0] : List Value).toArray cX4_opposite 1 (some .int) wsX4_opposite RX4 D Y A := C
  obtain ⟨hx, hb, hr, hml, hts, hown, hlocks, hA, hG⟩ := id C
  have hK := hG.1
  have hS : va_S A s.heap s.heap [] := va_S.rf
  have hl : lv_has ls 1 [(0, .int x0)] := hl
  refine lv_iload_n hx hb dX4_opposite_0 rfl (lv_at hl 0 rfl) ?_
  rcases (show (x0.toInt < 1 ∨ 4 < x0.toInt) ∨ x0.toInt = 1 ∨ x0.toInt = 2 ∨ x0.toInt = 3 ∨ x0.toInt = 4 by omega) with c_1 | c_1 | c_1 | c_1 | c_1
  · have hF := hF.1 c_1
    refine lv_tableOut (tgt := 40) hx hb dX4_opposite_1 c_1 (by decide) ?_
    refine lv_iconst (v := 0) hx hb dX4_opposite_40 (by decide) ?_
    exact mb_ri (wf := fun u => []) C rfl (u := ()) hF hP hD hS dX4_opposite_41 (Nat.le_of_ble_eq_true rfl) (Nat.le_of_ble_eq_true rfl)
  · have hF := hF.2.1 c_1
    refine lv_tableIn (off := 31) (tgt := 32) hx hb dX4_opposite_1 (by omega) (by omega) (by rw [c_1]; rfl) (by decide) ?_
    refine lv_iconst (v := 2) hx hb dX4_opposite_32 (by decide) ?_
    exact mb_ri (wf := fun u => []) C rfl (u := ()) hF hP hD hS dX4_opposite_33 (Nat.le_of_ble_eq_true rfl) (Nat.le_of_ble_eq_true rfl)
  · have hF := hF.2.2.1 c_1
    refine lv_tableIn (off := 33) (tgt := 34) hx hb dX4_opposite_1 (by omega) (by omega) (by rw [c_1]; rfl) (by decide) ?_
    refine lv_iconst (v := 1) hx hb dX4_opposite_34 (by decide) ?_
    exact mb_ri (wf := fun u => []) C rfl (u := ()) hF hP hD hS dX4_opposite_35 (Nat.le_of_ble_eq_true rfl) (Nat.le_of_ble_eq_true rfl)
  · have hF := hF.2.2.2.1 c_1
    refine lv_tableIn (off := 35) (tgt := 36) hx hb dX4_opposite_1 (by omega) (by omega) (by rw [c_1]; rfl) (by decide) ?_
    refine lv_iconst (v := 4) hx hb dX4_opposite_36 (by decide) ?_
    exact mb_ri (wf := fun u => []) C rfl (u := ()) hF hP hD hS dX4_opposite_37 (Nat.le_of_ble_eq_true rfl) (Nat.le_of_ble_eq_true rfl)
  · have hF := hF.2.2.2.2 c_1
    refine lv_tableIn (off := 37) (tgt := 38) hx hb dX4_opposite_1 (by omega) (by omega) (by rw [c_1]; rfl) (by decide) ?_
    refine lv_iconst (v := 3) hx hb dX4_opposite_38 (by decide) ?_
    exact mb_ri (wf := fun u => []) C rfl (u := ()) hF hP hD hS dX4_opposite_39 (Nat.le_of_ble_eq_true rfl) (Nat.le_of_ble_eq_true rfl)
end
section
noncomputable def PX7_isWithin (N : Nat) (x0 x1 x2 : Int32) (K : Int32 → Unit → Prop) : Prop := (x0 < x1 → K (0 : Int32) ()) ∧ (¬ x0 < x1 → (x2 < x0 → K (0 : Int32) ()) ∧ (¬ x2 < x0 → K (1 : Int32) ()))
set_option maxHeartbeats 4000000 in
set_option maxRecDepth 100000 in
theorem cnX7_isWithin (l : Launch) (D : va_G) (Y : Nat → ClassId) (N : Nat) (sz : Nat) (x0 x1 x2 : Int32) (K : Int32 → Unit → Prop) (hF : PX7_isWithin N x0 x1 x2 K) : Met l yX7_isWithin wsX7_isWithin ({ frames := 0, cells := 0, slots := 0, locals := 0 } : Room) (va_Pc [.int x0, .int x1, .int x2] (mb_B D Y (([] : va_W)) sz)) (va_Qi K (fun u t => mb_T D (va_A (([] : va_W)) sz) ([]) t) (va_A (([] : va_W)) sz)) 0 0 (va_A (([] : va_W)) sz) := by
  refine mb_begin (cc := cX7_isWithin) (maxL := 3) (ret := (some .boolean)) (by decide +kernel) rfl (Nat.le_of_ble_eq_true rfl) ?_
  intro p e s m below meth c ls C hsz hnm hP hD hl
  generalize hAe : va_A (([] : va_W)) sz = A at C hD ⊢
  have C : mb_Cx p s m meth c ([.int x0, .int x1, .int x2] : List Value).toArray cX7_isWithin 3 (some .boolean) wsX7_isWithin RX7 D Y A := C
  obtain ⟨hx, hb, hr, hml, hts, hown, hlocks, hA, hG⟩ := id C
  have hK := hG.1
  have hS : va_S A s.heap s.heap [] := va_S.rf
  have hl : lv_has ls 3 [(0, .int x0), (1, .int x1), (2, .int x2)] := hl
  refine lv_iload_n hx hb dX7_isWithin_0 rfl (lv_at hl 0 rfl) ?_
  refine lv_iload_n hx hb dX7_isWithin_1 rfl (lv_at hl 1 rfl) ?_
  refine lv_icmp_lt (tgt := 14) hx hb dX7_isWithin_2 (by decide) (fun c_2 => ?_) (fun c_2 => ?_)
  · have hF := hF.1 c_2
    refine lv_iconst (v := 0) hx hb dX7_isWithin_14 (by decide) ?_
    exact mb_ri (wf := fun u => []) C rfl (u := ()) hF hP hD hS dX7_isWithin_15 (Nat.le_of_ble_eq_true rfl) (Nat.le_of_ble_eq_true rfl)
  · have hF := hF.2 c_2
    refine lv_iload_n hx hb dX7_isWithin_5 rfl (lv_at hl 0 rfl) ?_
    refine lv_iload_n hx hb dX7_isWithin_6 rfl (lv_at hl 2 rfl) ?_
    refine lv_icmp_gt (tgt := 14) hx hb dX7_isWithin_7 (by decide) (fun c_7 => ?_) (fun c_7 => ?_)
    · have hF := hF.1 c_7
      refine lv_iconst (v := 0) hx hb dX7_isWithin_14 (by decide) ?_
      exact mb_ri (wf := fun u => []) C rfl (u := ()) hF hP hD hS dX7_isWithin_15 (Nat.le_of_ble_eq_true rfl) (Nat.le_of_ble_eq_true rfl)
    · have hF := hF.2 c_7
      refine lv_iconst (v := 1) hx hb dX7_isWithin_10 (by decide) ?_
      refine lv_goto (tgt := 15) hx hb dX7_isWithin_11 (by decide) ?_
      exact mb_ri (wf := fun u => []) C rfl (u := ()) hF hP hD hS dX7_isWithin_15 (Nat.le_of_ble_eq_true rfl) (Nat.le_of_ble_eq_true rfl)
end
section
noncomputable def PX5_mostAt_25 (N : Nat) (K : Int32 → Unit → Prop) (y0 : Int32) : Prop := (y0 = 0 → K (6 : Int32) ()) ∧ (¬ y0 = 0 → K (12 : Int32) ())
set_option maxHeartbeats 4000000 in
set_option maxRecDepth 100000 in
theorem wX5_mostAt_25 {p : Program} {l : Launch} {e : Env} {s : State} {m : MethodId} {below : List Frame} {meth : Method} {c : Code} {args : Array Value} {D : va_G} {Y : Nat → ClassId} {A : Nat → Prop} {N : Nat} {K : Int32 → Unit → Prop} (C : mb_Cx p s m meth c args cX5_mostAt 3 (some .int) wsX5_mostAt RX5 D Y A) : ∀ (y0 : Int32) (H : Heap) (locs : List Loc) (ls : Array Slot), PX5_mostAt_25 N K  y0 → va_P D vwCl (([] : va_W)) H → va_D A (([] : va_W)) → va_S A s.heap H locs → lv_has ls 3 [] → W p l e ({ frames := 1, cells := 0, slots := 0, locals := 22 } : Room) s m args below meth c H locs 0 0 (MQ below (va_Qi K (fun u t => mb_T D A ([]) t) A) args s 0 0 A) (F0 m 25 ls [.int y0]) := by
  obtain ⟨hx, hb, hr, hml, hts, hown, hlocks, hA, hG⟩ := id C
  have hK := hG.1
  intro y0 H locs ls hF hP hD hS hl
  refine lv_istore_n (lv' := [(2, .int y0)]) hx hb dX5_mostAt_25 rfl hl (by decide) rfl (fun ls hl => ?_)
  refine lv_iload_n hx hb dX5_mostAt_26 rfl (lv_at hl 0 rfl) ?_
  refine lv_if_eq (tgt := 35) hx hb dX5_mostAt_27 (by decide) (fun c_27 => ?_) (fun c_27 => ?_)
  · have hF := hF.1 c_27
    refine lv_bipush (v := 6) hx hb dX5_mostAt_35 (by decide) ?_
    exact mb_ri (wf := fun u => []) C rfl (u := ()) hF hP hD hS dX5_mostAt_37 (Nat.le_of_ble_eq_true rfl) (Nat.le_of_ble_eq_true rfl)
  · have hF := hF.2 c_27
    refine lv_bipush (v := 12) hx hb dX5_mostAt_30 (by decide) ?_
    refine lv_goto (tgt := 37) hx hb dX5_mostAt_32 (by decide) ?_
    exact mb_ri (wf := fun u => []) C rfl (u := ()) hF hP hD hS dX5_mostAt_37 (Nat.le_of_ble_eq_true rfl) (Nat.le_of_ble_eq_true rfl)
noncomputable def PX5_mostAt_24 (N : Nat) (K : Int32 → Unit → Prop) : Prop := PX5_mostAt_25 N K (0 : Int32)
set_option maxHeartbeats 4000000 in
set_option maxRecDepth 100000 in
theorem wX5_mostAt_24 {p : Program} {l : Launch} {e : Env} {s : State} {m : MethodId} {below : List Frame} {meth : Method} {c : Code} {args : Array Value} {D : va_G} {Y : Nat → ClassId} {A : Nat → Prop} {N : Nat} {K : Int32 → Unit → Prop} (C : mb_Cx p s m meth c args cX5_mostAt 3 (some .int) wsX5_mostAt RX5 D Y A) : ∀ (H : Heap) (locs : List Loc) (ls : Array Slot), PX5_mostAt_24 N K   → va_P D vwCl (([] : va_W)) H → va_D A (([] : va_W)) → va_S A s.heap H locs → lv_has ls 3 [] → W p l e ({ frames := 1, cells := 0, slots := 0, locals := 22 } : Room) s m args below meth c H locs 0 0 (MQ below (va_Qi K (fun u t => mb_T D A ([]) t) A) args s 0 0 A) (F0 m 24 ls []) := by
  obtain ⟨hx, hb, hr, hml, hts, hown, hlocks, hA, hG⟩ := id C
  have hK := hG.1
  intro  H locs ls hF hP hD hS hl
  refine lv_iconst (v := 0) hx hb dX5_mostAt_24 (by decide) ?_
  exact wX5_mostAt_25 C (0 : Int32) _ _ _ hF hP hD hS (lv_sub hl [] rfl)
noncomputable def PX5_mostAt (N : Nat) (x0 x1 : Int32) (K : Int32 → Unit → Prop) : Prop := PX7_isWithin N x0 (1 : Int32) (6 : Int32) (fun r4 _ => (r4 = 0 → PX5_mostAt_24 N K ) ∧ (¬ r4 = 0 → PX7_isWithin N x1 (1 : Int32) (6 : Int32) (fun r14 _ => (r14 = 0 → PX5_mostAt_24 N K ) ∧ (¬ r14 = 0 → PX5_mostAt_25 N K (1 : Int32)))))
set_option maxHeartbeats 4000000 in
set_option maxRecDepth 100000 in
theorem cnX5_mostAt (l : Launch) (D : va_G) (Y : Nat → ClassId) (N : Nat) (sz : Nat) (x0 x1 : Int32) (K : Int32 → Unit → Prop) (hF : PX5_mostAt N x0 x1 K) : Met l yX5_mostAt wsX5_mostAt ({ frames := 1, cells := 0, slots := 0, locals := 22 } : Room) (va_Pc [.int x0, .int x1] (mb_B D Y (([] : va_W)) sz)) (va_Qi K (fun u t => mb_T D (va_A (([] : va_W)) sz) ([]) t) (va_A (([] : va_W)) sz)) 0 0 (va_A (([] : va_W)) sz) := by
  refine mb_begin (cc := cX5_mostAt) (maxL := 3) (ret := (some .int)) (by decide +kernel) rfl (Nat.le_of_ble_eq_true rfl) ?_
  intro p e s m below meth c ls C hsz hnm hP hD hl
  generalize hAe : va_A (([] : va_W)) sz = A at C hD ⊢
  have C : mb_Cx p s m meth c ([.int x0, .int x1] : List Value).toArray cX5_mostAt 3 (some .int) wsX5_mostAt RX5 D Y A := C
  obtain ⟨hx, hb, hr, hml, hts, hown, hlocks, hA, hG⟩ := id C
  have hK := hG.1
  have hS : va_S A s.heap s.heap [] := va_S.rf
  have hl : lv_has ls 3 [(0, .int x0), (1, .int x1)] := hl
  refine lv_iload_n hx hb dX5_mostAt_0 rfl (lv_at hl 0 rfl) ?_
  refine lv_iconst (v := 1) hx hb dX5_mostAt_1 (by decide) ?_
  refine lv_bipush (v := 6) hx hb dX5_mostAt_2 (by decide) ?_
  refine mb_cE hP hS hA (va_runSN (As := [.int x0, .int (1 : Int32), .int (6 : Int32)]) (rest := []) ⟨hx, hb, hml, hown, hts⟩ (cnX7_isWithin l D Y N _ x0 (1 : Int32) (6 : Int32) _ hF) ⟨va_cnB 3 hts gX5_mostAt_X7_isWithin_n27 rfl rfl rfl (hG.2.1 _ (List.mem_of_getElem? (i := 25) rfl)) (hts (.initialized RX7) (List.mem_of_getElem? (i := 2) rfl)) (by decide +kernel) ⟨Nat.le_of_ble_eq_true rfl, Nat.le_of_ble_eq_true rfl⟩, hts (.static yX7_isWithin) (List.mem_of_getElem? (i := 1) rfl), trivial⟩ (mb_preS (A := A) hG mb_P0 mb_D0) rfl rfl hl.1 rfl (lv_room (Nat.le_of_ble_eq_true rfl)) dX5_mostAt_4 ⟨Nat.le_of_ble_eq_true rfl, Nat.le_of_ble_eq_true rfl⟩) (fun r4 H locs hF hP hS => ?_)
  refine lv_if_eq (tgt := 24) hx hb dX5_mostAt_7 (by decide) (fun c_7 => ?_) (fun c_7 => ?_)
  · have hF := hF.1 c_7
    exact wX5_mostAt_24 C  _ _ _ hF hP hD hS (lv_sub hl [] rfl)
  · have hF := hF.2 c_7
    refine lv_iload_n hx hb dX5_mostAt_10 rfl (lv_at hl 1 rfl) ?_
    refine lv_iconst (v := 1) hx hb dX5_mostAt_11 (by decide) ?_
    refine lv_bipush (v := 6) hx hb dX5_mostAt_12 (by decide) ?_
    refine mb_cE hP hS hA (va_runSN (As := [.int x1, .int (1 : Int32), .int (6 : Int32)]) (rest := []) ⟨hx, hb, hml, hown, hts⟩ (cnX7_isWithin l D Y N _ x1 (1 : Int32) (6 : Int32) _ hF) ⟨va_cnB 3 hts gX5_mostAt_X7_isWithin_n27 rfl rfl rfl (hG.2.1 _ (List.mem_of_getElem? (i := 25) rfl)) (hts (.initialized RX7) (List.mem_of_getElem? (i := 2) rfl)) (by decide +kernel) ⟨Nat.le_of_ble_eq_true rfl, Nat.le_of_ble_eq_true rfl⟩, hts (.static yX7_isWithin) (List.mem_of_getElem? (i := 1) rfl), trivial⟩ (mb_preS (A := A) hG mb_P0 mb_D0) rfl rfl hl.1 rfl (lv_room (Nat.le_of_ble_eq_true rfl)) dX5_mostAt_14 ⟨Nat.le_of_ble_eq_true rfl, Nat.le_of_ble_eq_true rfl⟩) (fun r14 H locs hF hP hS => ?_)
    refine lv_if_eq (tgt := 24) hx hb dX5_mostAt_17 (by decide) (fun c_17 => ?_) (fun c_17 => ?_)
    · have hF := hF.1 c_17
      exact wX5_mostAt_24 C  _ _ _ hF hP hD hS (lv_sub hl [] rfl)
    · have hF := hF.2 c_17
      refine lv_iconst (v := 1) hx hb dX5_mostAt_20 (by decide) ?_
      refine lv_goto (tgt := 25) hx hb dX5_mostAt_21 (by decide) ?_
      exact wX5_mostAt_25 C (1 : Int32) _ _ _ hF hP hD hS (lv_sub hl [] rfl)
end
section
noncomputable def PX7_isOnSide (N : Nat) (x0 : Int32) (K : Int32 → Unit → Prop) : Prop := PX7_isWithin N x0 (0 : Int32) (7 : Int32) (fun r4 _ => mb_isB r4 ∧ (K r4 ()))
set_option maxHeartbeats 4000000 in
set_option maxRecDepth 100000 in
theorem cnX7_isOnSide (l : Launch) (D : va_G) (Y : Nat → ClassId) (N : Nat) (sz : Nat) (x0 : Int32) (K : Int32 → Unit → Prop) (hF : PX7_isOnSide N x0 K) : Met l yX7_isOnSide wsX7_isOnSide ({ frames := 1, cells := 0, slots := 0, locals := 22 } : Room) (va_Pc [.int x0] (mb_B D Y (([] : va_W)) sz)) (va_Qi K (fun u t => mb_T D (va_A (([] : va_W)) sz) ([]) t) (va_A (([] : va_W)) sz)) 0 0 (va_A (([] : va_W)) sz) := by
  refine mb_begin (cc := cX7_isOnSide) (maxL := 1) (ret := (some .boolean)) (by decide +kernel) rfl (Nat.le_of_ble_eq_true rfl) ?_
  intro p e s m below meth c ls C hsz hnm hP hD hl
  generalize hAe : va_A (([] : va_W)) sz = A at C hD ⊢
  have C : mb_Cx p s m meth c ([.int x0] : List Value).toArray cX7_isOnSide 1 (some .boolean) wsX7_isOnSide RX7 D Y A := C
  obtain ⟨hx, hb, hr, hml, hts, hown, hlocks, hA, hG⟩ := id C
  have hK := hG.1
  have hS : va_S A s.heap s.heap [] := va_S.rf
  have hl : lv_has ls 1 [(0, .int x0)] := hl
  refine lv_iload_n hx hb dX7_isOnSide_0 rfl (lv_at hl 0 rfl) ?_
  refine lv_iconst (v := 0) hx hb dX7_isOnSide_1 (by decide) ?_
  refine lv_bipush (v := 7) hx hb dX7_isOnSide_2 (by decide) ?_
  refine mb_cE hP hS hA (va_runS (As := [.int x0, .int (0 : Int32), .int (7 : Int32)]) (rest := []) ⟨hx, hb, hml, hown, hts⟩ (cnX7_isWithin l D Y N _ x0 (0 : Int32) (7 : Int32) _ hF) (va_cwS 3 hts gX7_isOnSide_X7_isWithin rfl rfl rfl (by decide +kernel) ⟨Nat.le_of_ble_eq_true rfl, Nat.le_of_ble_eq_true rfl⟩) (mb_preS (A := A) hG mb_P0 mb_D0) rfl rfl hl.1 rfl (lv_room (Nat.le_of_ble_eq_true rfl)) dX7_isOnSide_4 ⟨Nat.le_of_ble_eq_true rfl, Nat.le_of_ble_eq_true rfl⟩) (fun r4 H locs hF hP hS => ?_)
  obtain ⟨hz7, hF⟩ := hF
  exact mb_ri (wf := fun u => []) C (mb_isB_n hz7) (u := ()) hF hP hD hS dX7_isOnSide_7 (Nat.le_of_ble_eq_true rfl) (Nat.le_of_ble_eq_true rfl)
end
section
noncomputable def PX7_isOnGrid (N : Nat) (x0 x1 : Int32) (K : Int32 → Unit → Prop) : Prop := PX7_isOnSide N x0 (fun r1 _ => (r1 = 0 → K (0 : Int32) ()) ∧ (¬ r1 = 0 → PX7_isOnSide N x1 (fun r8 _ => (r8 = 0 → K (0 : Int32) ()) ∧ (¬ r8 = 0 → K (1 : Int32) ()))))
set_option maxHeartbeats 4000000 in
set_option maxRecDepth 100000 in
theorem cnX7_isOnGrid (l : Launch) (D : va_G) (Y : Nat → ClassId) (N : Nat) (sz : Nat) (x0 x1 : Int32) (K : Int32 → Unit → Prop) (hF : PX7_isOnGrid N x0 x1 K) : Met l yX7_isOnGrid wsX7_isOnGrid ({ frames := 2, cells := 0, slots := 0, locals := 42 } : Room) (va_Pc [.int x0, .int x1] (mb_B D Y (([] : va_W)) sz)) (va_Qi K (fun u t => mb_T D (va_A (([] : va_W)) sz) ([]) t) (va_A (([] : va_W)) sz)) 0 0 (va_A (([] : va_W)) sz) := by
  refine mb_begin (cc := cX7_isOnGrid) (maxL := 2) (ret := (some .boolean)) (by decide +kernel) rfl (Nat.le_of_ble_eq_true rfl) ?_
  intro p e s m below meth c ls C hsz hnm hP hD hl
  generalize hAe : va_A (([] : va_W)) sz = A at C hD ⊢
  have C : mb_Cx p s m meth c ([.int x0, .int x1] : List Value).toArray cX7_isOnGrid 2 (some .boolean) wsX7_isOnGrid RX7 D Y A := C
  obtain ⟨hx, hb, hr, hml, hts, hown, hlocks, hA, hG⟩ := id C
  have hK := hG.1
  have hS : va_S A s.heap s.heap [] := va_S.rf
  have hl : lv_has ls 2 [(0, .int x0), (1, .int x1)] := hl
  refine lv_iload_n hx hb dX7_isOnGrid_0 rfl (lv_at hl 0 rfl) ?_
  refine mb_cE hP hS hA (va_runS (As := [.int x0]) (rest := []) ⟨hx, hb, hml, hown, hts⟩ (cnX7_isOnSide l D Y N _ x0 _ hF) (va_cwS 1 hts gX7_isOnGrid_X7_isOnSide rfl rfl rfl (by decide +kernel) ⟨Nat.le_of_ble_eq_true rfl, Nat.le_of_ble_eq_true rfl⟩) (mb_preS (A := A) hG mb_P0 mb_D0) rfl rfl hl.1 rfl (lv_room (Nat.le_of_ble_eq_true rfl)) dX7_isOnGrid_1 ⟨Nat.le_of_ble_eq_true rfl, Nat.le_of_ble_eq_true rfl⟩) (fun r1 H locs hF hP hS => ?_)
  refine lv_if_eq (tgt := 18) hx hb dX7_isOnGrid_4 (by decide) (fun c_4 => ?_) (fun c_4 => ?_)
  · have hF := hF.1 c_4
    refine lv_iconst (v := 0) hx hb dX7_isOnGrid_18 (by decide) ?_
    exact mb_ri (wf := fun u => []) C rfl (u := ()) hF hP hD hS dX7_isOnGrid_19 (Nat.le_of_ble_eq_true rfl) (Nat.le_of_ble_eq_true rfl)
  · have hF := hF.2 c_4
    refine lv_iload_n hx hb dX7_isOnGrid_7 rfl (lv_at hl 1 rfl) ?_
    refine mb_cE hP hS hA (va_runS (As := [.int x1]) (rest := []) ⟨hx, hb, hml, hown, hts⟩ (cnX7_isOnSide l D Y N _ x1 _ hF) (va_cwS 1 hts gX7_isOnGrid_X7_isOnSide rfl rfl rfl (by decide +kernel) ⟨Nat.le_of_ble_eq_true rfl, Nat.le_of_ble_eq_true rfl⟩) (mb_preS (A := A) hG mb_P0 mb_D0) rfl rfl hl.1 rfl (lv_room (Nat.le_of_ble_eq_true rfl)) dX7_isOnGrid_8 ⟨Nat.le_of_ble_eq_true rfl, Nat.le_of_ble_eq_true rfl⟩) (fun r8 H locs hF hP hS => ?_)
    refine lv_if_eq (tgt := 18) hx hb dX7_isOnGrid_11 (by decide) (fun c_11 => ?_) (fun c_11 => ?_)
    · have hF := hF.1 c_11
      refine lv_iconst (v := 0) hx hb dX7_isOnGrid_18 (by decide) ?_
      exact mb_ri (wf := fun u => []) C rfl (u := ()) hF hP hD hS dX7_isOnGrid_19 (Nat.le_of_ble_eq_true rfl) (Nat.le_of_ble_eq_true rfl)
    · have hF := hF.2 c_11
      refine lv_iconst (v := 1) hx hb dX7_isOnGrid_14 (by decide) ?_
      refine lv_goto (tgt := 19) hx hb dX7_isOnGrid_15 (by decide) ?_
      exact mb_ri (wf := fun u => []) C rfl (u := ()) hF hP hD hS dX7_isOnGrid_19 (Nat.le_of_ble_eq_true rfl) (Nat.le_of_ble_eq_true rfl)
end
section
noncomputable def PX7_cellOf (N : Nat) (x0 x1 : Int32) (K : Int32 → Unit → Prop) : Prop := K ((x1 * (8 : Int32)) + x0) ()
set_option maxHeartbeats 4000000 in
set_option maxRecDepth 100000 in
theorem cnX7_cellOf (l : Launch) (D : va_G) (Y : Nat → ClassId) (N : Nat) (sz : Nat) (x0 x1 : Int32) (K : Int32 → Unit → Prop) (hF : PX7_cellOf N x0 x1 K) : Met l yX7_cellOf wsX7_cellOf ({ frames := 0, cells := 0, slots := 0, locals := 0 } : Room) (va_Pc [.int x0, .int x1] (mb_B D Y (([] : va_W)) sz)) (va_Qi K (fun u t => mb_T D (va_A (([] : va_W)) sz) ([]) t) (va_A (([] : va_W)) sz)) 0 0 (va_A (([] : va_W)) sz) := by
  refine mb_begin (cc := cX7_cellOf) (maxL := 2) (ret := (some .int)) (by decide +kernel) rfl (Nat.le_of_ble_eq_true rfl) ?_
  intro p e s m below meth c ls C hsz hnm hP hD hl
  generalize hAe : va_A (([] : va_W)) sz = A at C hD ⊢
  have C : mb_Cx p s m meth c ([.int x0, .int x1] : List Value).toArray cX7_cellOf 2 (some .int) wsX7_cellOf RX7 D Y A := C
  obtain ⟨hx, hb, hr, hml, hts, hown, hlocks, hA, hG⟩ := id C
  have hK := hG.1
  have hS : va_S A s.heap s.heap [] := va_S.rf
  have hl : lv_has ls 2 [(0, .int x0), (1, .int x1)] := hl
  refine lv_iload_n hx hb dX7_cellOf_0 rfl (lv_at hl 1 rfl) ?_
  refine lv_bipush (v := 8) hx hb dX7_cellOf_1 (by decide) ?_
  refine lv_imul hx hb dX7_cellOf_3 ?_
  refine lv_iload_n hx hb dX7_cellOf_4 rfl (lv_at hl 0 rfl) ?_
  refine lv_iadd hx hb dX7_cellOf_5 ?_
  exact mb_ri (wf := fun u => []) C rfl (u := ()) hF hP hD hS dX7_cellOf_6 (Nat.le_of_ble_eq_true rfl) (Nat.le_of_ble_eq_true rfl)
end
section
noncomputable def PX7_canBeUndone (N : Nat) (x0 : Int32) (K : Int32 → Unit → Prop) : Prop := ((2 : Int32) < x0 → K (0 : Int32) ()) ∧ (¬ (2 : Int32) < x0 → K (1 : Int32) ())
set_option maxHeartbeats 4000000 in
set_option maxRecDepth 100000 in
theorem cnX7_canBeUndone (l : Launch) (D : va_G) (Y : Nat → ClassId) (N : Nat) (sz : Nat) (x0 : Int32) (K : Int32 → Unit → Prop) (hF : PX7_canBeUndone N x0 K) : Met l yX7_canBeUndone wsX7_canBeUndone ({ frames := 0, cells := 0, slots := 0, locals := 0 } : Room) (va_Pc [.int x0] (mb_B D Y (([] : va_W)) sz)) (va_Qi K (fun u t => mb_T D (va_A (([] : va_W)) sz) ([]) t) (va_A (([] : va_W)) sz)) 0 0 (va_A (([] : va_W)) sz) := by
  refine mb_begin (cc := cX7_canBeUndone) (maxL := 1) (ret := (some .boolean)) (by decide +kernel) rfl (Nat.le_of_ble_eq_true rfl) ?_
  intro p e s m below meth c ls C hsz hnm hP hD hl
  generalize hAe : va_A (([] : va_W)) sz = A at C hD ⊢
  have C : mb_Cx p s m meth c ([.int x0] : List Value).toArray cX7_canBeUndone 1 (some .boolean) wsX7_canBeUndone RX7 D Y A := C
  obtain ⟨hx, hb, hr, hml, hts, hown, hlocks, hA, hG⟩ := id C
  have hK := hG.1
  have hS : va_S A s.heap s.heap [] := va_S.rf
  have hl : lv_has ls 1 [(0, .int x0)] := hl
  refine lv_iload_n hx hb dX7_canBeUndone_0 rfl (lv_at hl 0 rfl) ?_
  refine lv_iconst (v := 2) hx hb dX7_canBeUndone_1 (by decide) ?_
  refine lv_icmp_gt (tgt := 9) hx hb dX7_canBeUndone_2 (by decide) (fun c_2 => ?_) (fun c_2 => ?_)
  · have hF := hF.1 c_2
    refine lv_iconst (v := 0) hx hb dX7_canBeUndone_9 (by decide) ?_
    exact mb_ri (wf := fun u => []) C rfl (u := ()) hF hP hD hS dX7_canBeUndone_10 (Nat.le_of_ble_eq_true rfl) (Nat.le_of_ble_eq_true rfl)
  · have hF := hF.2 c_2
    refine lv_iconst (v := 1) hx hb dX7_canBeUndone_5 (by decide) ?_
    refine lv_goto (tgt := 10) hx hb dX7_canBeUndone_6 (by decide) ?_
    exact mb_ri (wf := fun u => []) C rfl (u := ()) hF hP hD hS dX7_canBeUndone_10 (Nat.le_of_ble_eq_true rfl) (Nat.le_of_ble_eq_true rfl)
end
section
noncomputable def PX7_columnsOf (N : Nat) (x0 : Int32) (K : Int32 → Unit → Prop) : Prop := K ((1 : Int32) <<< (((x0 + (1 : Int32)) / (2 : Int32)) &&& 31)) ()
set_option maxHeartbeats 4000000 in
set_option maxRecDepth 100000 in
theorem cnX7_columnsOf (l : Launch) (D : va_G) (Y : Nat → ClassId) (N : Nat) (sz : Nat) (x0 : Int32) (K : Int32 → Unit → Prop) (hF : PX7_columnsOf N x0 K) : Met l yX7_columnsOf wsX7_columnsOf ({ frames := 0, cells := 0, slots := 0, locals := 0 } : Room) (va_Pc [.int x0] (mb_B D Y (([] : va_W)) sz)) (va_Qi K (fun u t => mb_T D (va_A (([] : va_W)) sz) ([]) t) (va_A (([] : va_W)) sz)) 0 0 (va_A (([] : va_W)) sz) := by
  refine mb_begin (cc := cX7_columnsOf) (maxL := 1) (ret := (some .int)) (by decide +kernel) rfl (Nat.le_of_ble_eq_true rfl) ?_
  intro p e s m below meth c ls C hsz hnm hP hD hl
  generalize hAe : va_A (([] : va_W)) sz = A at C hD ⊢
  have C : mb_Cx p s m meth c ([.int x0] : List Value).toArray cX7_columnsOf 1 (some .int) wsX7_columnsOf RX7 D Y A := C
  obtain ⟨hx, hb, hr, hml, hts, hown, hlocks, hA, hG⟩ := id C
  have hK := hG.1
  have hS : va_S A s.heap s.heap [] := va_S.rf
  have hl : lv_has ls 1 [(0, .int x0)] := hl
  refine lv_iconst (v := 1) hx hb dX7_columnsOf_0 (by decide) ?_
  refine lv_iload_n hx hb dX7_columnsOf_1 rfl (lv_at hl 0 rfl) ?_
  refine lv_iconst (v := 1) hx hb dX7_columnsOf_2 (by decide) ?_
  refine lv_iadd hx hb dX7_columnsOf_3 ?_
  refine lv_iconst (v := 2) hx hb dX7_columnsOf_4 (by decide) ?_
  refine lv_idiv hx hb dX7_columnsOf_5 (by decide) ?_
  refine lv_ishl hx hb dX7_columnsOf_6 ?_
  exact mb_ri (wf := fun u => []) C rfl (u := ()) hF hP hD hS dX7_columnsOf_7 (Nat.le_of_ble_eq_true rfl) (Nat.le_of_ble_eq_true rfl)
end
section
noncomputable def PX7_rowsOf (N : Nat) (x0 : Int32) (K : Int32 → Unit → Prop) : Prop := K ((1 : Int32) <<< ((x0 / (2 : Int32)) &&& 31)) ()
set_option maxHeartbeats 4000000 in
set_option maxRecDepth 100000 in
theorem cnX7_rowsOf (l : Launch) (D : va_G) (Y : Nat → ClassId) (N : Nat) (sz : Nat) (x0 : Int32) (K : Int32 → Unit → Prop) (hF : PX7_rowsOf N x0 K) : Met l yX7_rowsOf wsX7_rowsOf ({ frames := 0, cells := 0, slots := 0, locals := 0 } : Room) (va_Pc [.int x0] (mb_B D Y (([] : va_W)) sz)) (va_Qi K (fun u t => mb_T D (va_A (([] : va_W)) sz) ([]) t) (va_A (([] : va_W)) sz)) 0 0 (va_A (([] : va_W)) sz) := by
  refine mb_begin (cc := cX7_rowsOf) (maxL := 1) (ret := (some .int)) (by decide +kernel) rfl (Nat.le_of_ble_eq_true rfl) ?_
  intro p e s m below meth c ls C hsz hnm hP hD hl
  generalize hAe : va_A (([] : va_W)) sz = A at C hD ⊢
  have C : mb_Cx p s m meth c ([.int x0] : List Value).toArray cX7_rowsOf 1 (some .int) wsX7_rowsOf RX7 D Y A := C
  obtain ⟨hx, hb, hr, hml, hts, hown, hlocks, hA, hG⟩ := id C
  have hK := hG.1
  have hS : va_S A s.heap s.heap [] := va_S.rf
  have hl : lv_has ls 1 [(0, .int x0)] := hl
  refine lv_iconst (v := 1) hx hb dX7_rowsOf_0 (by decide) ?_
  refine lv_iload_n hx hb dX7_rowsOf_1 rfl (lv_at hl 0 rfl) ?_
  refine lv_iconst (v := 2) hx hb dX7_rowsOf_2 (by decide) ?_
  refine lv_idiv hx hb dX7_rowsOf_3 (by decide) ?_
  refine lv_ishl hx hb dX7_rowsOf_4 ?_
  exact mb_ri (wf := fun u => []) C rfl (u := ()) hF hP hD hS dX7_rowsOf_5 (Nat.le_of_ble_eq_true rfl) (Nat.le_of_ble_eq_true rfl)
end
section
noncomputable def PX7_foldedPage_139 (N : Nat) (K : Int32 → Unit → Prop) (b29 : Int32 → Int32 → Int32 → Int32 → Int32 → Int32 → Int32 → Int32 → Prop) (x0 x2 x3 x4 x5 x6 x8 y0 : Int32) : Prop := ∀ v145 : Int32, v145 = (x6 * (2 : Int32)) → (∀ v147 : Int32, v147 = x8 + (1 : Int32) → (b29 x0 x2 x3 x4 x5 v145 y0 v147))
set_option maxHeartbeats 4000000 in
set_option maxRecDepth 100000 in
theorem wX7_foldedPage_139 {p : Program} {l : Launch} {e : Env} {s : State} {m : MethodId} {below : List Frame} {meth : Method} {c : Code} {args : Array Value} {D : va_G} {Y : Nat → ClassId} {A : Nat → Prop} {N : Nat} {K : Int32 → Unit → Prop} {b29 : Int32 → Int32 → Int32 → Int32 → Int32 → Int32 → Int32 → Int32 → Prop} (C : mb_Cx p s m meth c args cX7_foldedPage 10 (some .int) wsX7_foldedPage RX7 D Y A) (hb29 : ∀ (x0 x2 x3 x4 x5 x6 x7 x8 : Int32) (H : Heap) (locs : List Loc) (ls : Array Slot), b29 x0 x2 x3 x4 x5 x6 x7 x8 → va_P D vwCl (([] : va_W)) H → va_D A (([] : va_W)) → va_S A s.heap H locs → lv_has ls 10 [(0, .int x0), (2, .int x2), (3, .int x3), (4, .int x4), (5, .int x5), (6, .int x6), (7, .int x7), (8, .int x8)] → W p l e ({ frames := 1, cells := 0, slots := 0, locals := 20 } : Room) s m args below meth c H locs 0 0 (MQ below (va_Qi K (fun u t => mb_T D A ([]) t) A) args s 0 0 A) (F0 m 29 ls [])) : ∀ (x0 x2 x3 x4 x5 x6 x8 y0 : Int32) (H : Heap) (locs : List Loc) (ls : Array Slot), PX7_foldedPage_139 N K b29 x0 x2 x3 x4 x5 x6 x8 y0 → va_P D vwCl (([] : va_W)) H → va_D A (([] : va_W)) → va_S A s.heap H locs → lv_has ls 10 [(0, .int x0), (2, .int x2), (3, .int x3), (4, .int x4), (5, .int x5), (6, .int x6), (8, .int x8)] → W p l e ({ frames := 1, cells := 0, slots := 0, locals := 20 } : Room) s m args below meth c H locs 0 0 (MQ below (va_Qi K (fun u t => mb_T D A ([]) t) A) args s 0 0 A) (F0 m 139 ls [.int y0]) := by
  obtain ⟨hx, hb, hr, hml, hts, hown, hlocks, hA, hG⟩ := id C
  have hK := hG.1
  intro x0 x2 x3 x4 x5 x6 x8 y0 H locs ls hF hP hD hS hl
  refine lv_istore (lv' := [(7, .int y0), (0, .int x0), (2, .int x2), (3, .int x3), (4, .int x4), (5, .int x5), (6, .int x6), (8, .int x8)]) hx hb dX7_foldedPage_139 hl (by decide) rfl (fun ls hl => ?_)
  refine lv_iload hx hb dX7_foldedPage_141 (lv_at hl 6 rfl) ?_
  refine lv_iconst (v := 2) hx hb dX7_foldedPage_143 (by decide) ?_
  refine lv_imul hx hb dX7_foldedPage_144 ?_
  refine lv_topi (fun v145 ev145 => ?_)
  have hF := hF v145 ev145
  refine lv_istore (lv' := [(6, .int v145), (7, .int y0), (0, .int x0), (2, .int x2), (3, .int x3), (4, .int x4), (5, .int x5), (8, .int x8)]) hx hb dX7_foldedPage_145 hl (by decide) rfl (fun ls hl => ?_)
  obtain ⟨v147, ev147⟩ : ∃ y : Int32, y = x8 + (1 : Int32) := ⟨_, rfl⟩
  have hF := hF v147 ev147
  refine lv_iinc (v := v147) (lv' := [(8, .int v147), (6, .int v145), (7, .int y0), (0, .int x0), (2, .int x2), (3, .int x3), (4, .int x4), (5, .int x5)]) hx hb dX7_foldedPage_147 hl (k := 7) rfl (by rw [ev147]; rfl) (by decide) rfl (fun ls hl => ?_)
  refine lv_goto (tgt := 29) hx hb dX7_foldedPage_150 (by decide) ?_
  exact hb29 x0 x2 x3 x4 x5 v145 y0 v147 _ _ _ hF hP hD hS (lv_sub hl [3, 4, 5, 6, 7, 1, 2, 0] rfl)
noncomputable def PX7_foldedPage_119 (N : Nat) (K : Int32 → Unit → Prop) (b29 : Int32 → Int32 → Int32 → Int32 → Int32 → Int32 → Int32 → Int32 → Prop) (x0 x2 x3 x4 x5 x6 x7 x8 x9 : Int32) : Prop := (x9 = 0 → PX7_foldedPage_139 N K b29 x0 x2 x3 x4 x5 x6 x8 (x6 + x7)) ∧ (¬ x9 = 0 → PX7_foldedPage_139 N K b29 x0 x2 x3 x4 x5 x6 x8 ((x6 + (1 : Int32)) - x7))
set_option maxHeartbeats 4000000 in
set_option maxRecDepth 100000 in
theorem wX7_foldedPage_119 {p : Program} {l : Launch} {e : Env} {s : State} {m : MethodId} {below : List Frame} {meth : Method} {c : Code} {args : Array Value} {D : va_G} {Y : Nat → ClassId} {A : Nat → Prop} {N : Nat} {K : Int32 → Unit → Prop} {b29 : Int32 → Int32 → Int32 → Int32 → Int32 → Int32 → Int32 → Int32 → Prop} (C : mb_Cx p s m meth c args cX7_foldedPage 10 (some .int) wsX7_foldedPage RX7 D Y A) (hb29 : ∀ (x0 x2 x3 x4 x5 x6 x7 x8 : Int32) (H : Heap) (locs : List Loc) (ls : Array Slot), b29 x0 x2 x3 x4 x5 x6 x7 x8 → va_P D vwCl (([] : va_W)) H → va_D A (([] : va_W)) → va_S A s.heap H locs → lv_has ls 10 [(0, .int x0), (2, .int x2), (3, .int x3), (4, .int x4), (5, .int x5), (6, .int x6), (7, .int x7), (8, .int x8)] → W p l e ({ frames := 1, cells := 0, slots := 0, locals := 20 } : Room) s m args below meth c H locs 0 0 (MQ below (va_Qi K (fun u t => mb_T D A ([]) t) A) args s 0 0 A) (F0 m 29 ls [])) : ∀ (x0 x2 x3 x4 x5 x6 x7 x8 x9 : Int32) (H : Heap) (locs : List Loc) (ls : Array Slot), PX7_foldedPage_119 N K b29 x0 x2 x3 x4 x5 x6 x7 x8 x9 → va_P D vwCl (([] : va_W)) H → va_D A (([] : va_W)) → va_S A s.heap H locs → lv_has ls 10 [(0, .int x0), (2, .int x2), (3, .int x3), (4, .int x4), (5, .int x5), (6, .int x6), (7, .int x7), (8, .int x8), (9, .int x9)] → W p l e ({ frames := 1, cells := 0, slots := 0, locals := 20 } : Room) s m args below meth c H locs 0 0 (MQ below (va_Qi K (fun u t => mb_T D A ([]) t) A) args s 0 0 A) (F0 m 119 ls []) := by
  obtain ⟨hx, hb, hr, hml, hts, hown, hlocks, hA, hG⟩ := id C
  have hK := hG.1
  intro x0 x2 x3 x4 x5 x6 x7 x8 x9 H locs ls hF hP hD hS hl
  refine lv_iload hx hb dX7_foldedPage_119 (lv_at hl 8 rfl) ?_
  refine lv_if_eq (tgt := 134) hx hb dX7_foldedPage_121 (by decide) (fun c_121 => ?_) (fun c_121 => ?_)
  · have hF := hF.1 c_121
    refine lv_iload hx hb dX7_foldedPage_134 (lv_at hl 5 rfl) ?_
    refine lv_iload hx hb dX7_foldedPage_136 (lv_at hl 6 rfl) ?_
    refine lv_iadd hx hb dX7_foldedPage_138 ?_
    exact wX7_foldedPage_139 C hb29 x0 x2 x3 x4 x5 x6 x8 (x6 + x7) _ _ _ hF hP hD hS (lv_sub hl [0, 1, 2, 3, 4, 5, 7] rfl)
  · have hF := hF.2 c_121
    refine lv_iload hx hb dX7_foldedPage_124 (lv_at hl 5 rfl) ?_
    refine lv_iconst (v := 1) hx hb dX7_foldedPage_126 (by decide) ?_
    refine lv_iadd hx hb dX7_foldedPage_127 ?_
    refine lv_iload hx hb dX7_foldedPage_128 (lv_at hl 6 rfl) ?_
    refine lv_isub hx hb dX7_foldedPage_130 ?_
    refine lv_goto (tgt := 139) hx hb dX7_foldedPage_131 (by decide) ?_
    exact wX7_foldedPage_139 C hb29 x0 x2 x3 x4 x5 x6 x8 ((x6 + (1 : Int32)) - x7) _ _ _ hF hP hD hS (lv_sub hl [0, 1, 2, 3, 4, 5, 7] rfl)
noncomputable def PX7_foldedPage_78 (N : Nat) (K : Int32 → Unit → Prop) (b29 : Int32 → Int32 → Int32 → Int32 → Int32 → Int32 → Int32 → Int32 → Prop) (x0 x3 x4 x5 x6 x7 x8 x9 y0 : Int32) : Prop := PX7_foldedPage_119 N K b29 x0 y0 x3 x4 x5 x6 x7 x8 x9
set_option maxHeartbeats 4000000 in
set_option maxRecDepth 100000 in
theorem wX7_foldedPage_78 {p : Program} {l : Launch} {e : Env} {s : State} {m : MethodId} {below : List Frame} {meth : Method} {c : Code} {args : Array Value} {D : va_G} {Y : Nat → ClassId} {A : Nat → Prop} {N : Nat} {K : Int32 → Unit → Prop} {b29 : Int32 → Int32 → Int32 → Int32 → Int32 → Int32 → Int32 → Int32 → Prop} (C : mb_Cx p s m meth c args cX7_foldedPage 10 (some .int) wsX7_foldedPage RX7 D Y A) (hb29 : ∀ (x0 x2 x3 x4 x5 x6 x7 x8 : Int32) (H : Heap) (locs : List Loc) (ls : Array Slot), b29 x0 x2 x3 x4 x5 x6 x7 x8 → va_P D vwCl (([] : va_W)) H → va_D A (([] : va_W)) → va_S A s.heap H locs → lv_has ls 10 [(0, .int x0), (2, .int x2), (3, .int x3), (4, .int x4), (5, .int x5), (6, .int x6), (7, .int x7), (8, .int x8)] → W p l e ({ frames := 1, cells := 0, slots := 0, locals := 20 } : Room) s m args below meth c H locs 0 0 (MQ below (va_Qi K (fun u t => mb_T D A ([]) t) A) args s 0 0 A) (F0 m 29 ls [])) : ∀ (x0 x3 x4 x5 x6 x7 x8 x9 y0 : Int32) (H : Heap) (locs : List Loc) (ls : Array Slot), PX7_foldedPage_78 N K b29 x0 x3 x4 x5 x6 x7 x8 x9 y0 → va_P D vwCl (([] : va_W)) H → va_D A (([] : va_W)) → va_S A s.heap H locs → lv_has ls 10 [(0, .int x0), (3, .int x3), (4, .int x4), (5, .int x5), (6, .int x6), (7, .int x7), (8, .int x8), (9, .int x9)] → W p l e ({ frames := 1, cells := 0, slots := 0, locals := 20 } : Room) s m args below meth c H locs 0 0 (MQ below (va_Qi K (fun u t => mb_T D A ([]) t) A) args s 0 0 A) (F0 m 78 ls [.int y0]) := by
  obtain ⟨hx, hb, hr, hml, hts, hown, hlocks, hA, hG⟩ := id C
  have hK := hG.1
  intro x0 x3 x4 x5 x6 x7 x8 x9 y0 H locs ls hF hP hD hS hl
  refine lv_istore_n (lv' := [(2, .int y0), (0, .int x0), (3, .int x3), (4, .int x4), (5, .int x5), (6, .int x6), (7, .int x7), (8, .int x8), (9, .int x9)]) hx hb dX7_foldedPage_78 rfl hl (by decide) rfl (fun ls hl => ?_)
  refine lv_goto (tgt := 119) hx hb dX7_foldedPage_79 (by decide) ?_
  exact wX7_foldedPage_119 C hb29 x0 y0 x3 x4 x5 x6 x7 x8 x9 _ _ _ hF hP hD hS (lv_sub hl [1, 0, 2, 3, 4, 5, 6, 7, 8] rfl)
noncomputable def PX7_foldedPage_59 (N : Nat) (K : Int32 → Unit → Prop) (b29 : Int32 → Int32 → Int32 → Int32 → Int32 → Int32 → Int32 → Int32 → Prop) (x0 x2 x3 x4 x5 x6 x7 x8 y0 : Int32) : Prop := (y0 = 0 → PX7_foldedPage_78 N K b29 x0 x3 x4 x5 x6 x7 x8 y0 x2) ∧ (¬ y0 = 0 → PX7_foldedPage_78 N K b29 x0 x3 x4 x5 x6 x7 x8 y0 ((((2 : Int32) * x4) - (1 : Int32)) - x2))
set_option maxHeartbeats 4000000 in
set_option maxRecDepth 100000 in
theorem wX7_foldedPage_59 {p : Program} {l : Launch} {e : Env} {s : State} {m : MethodId} {below : List Frame} {meth : Method} {c : Code} {args : Array Value} {D : va_G} {Y : Nat → ClassId} {A : Nat → Prop} {N : Nat} {K : Int32 → Unit → Prop} {b29 : Int32 → Int32 → Int32 → Int32 → Int32 → Int32 → Int32 → Int32 → Prop} (C : mb_Cx p s m meth c args cX7_foldedPage 10 (some .int) wsX7_foldedPage RX7 D Y A) (hb29 : ∀ (x0 x2 x3 x4 x5 x6 x7 x8 : Int32) (H : Heap) (locs : List Loc) (ls : Array Slot), b29 x0 x2 x3 x4 x5 x6 x7 x8 → va_P D vwCl (([] : va_W)) H → va_D A (([] : va_W)) → va_S A s.heap H locs → lv_has ls 10 [(0, .int x0), (2, .int x2), (3, .int x3), (4, .int x4), (5, .int x5), (6, .int x6), (7, .int x7), (8, .int x8)] → W p l e ({ frames := 1, cells := 0, slots := 0, locals := 20 } : Room) s m args below meth c H locs 0 0 (MQ below (va_Qi K (fun u t => mb_T D A ([]) t) A) args s 0 0 A) (F0 m 29 ls [])) : ∀ (x0 x2 x3 x4 x5 x6 x7 x8 y0 : Int32) (H : Heap) (locs : List Loc) (ls : Array Slot), PX7_foldedPage_59 N K b29 x0 x2 x3 x4 x5 x6 x7 x8 y0 → va_P D vwCl (([] : va_W)) H → va_D A (([] : va_W)) → va_S A s.heap H locs → lv_has ls 10 [(0, .int x0), (2, .int x2), (3, .int x3), (4, .int x4), (5, .int x5), (6, .int x6), (7, .int x7), (8, .int x8)] → W p l e ({ frames := 1, cells := 0, slots := 0, locals := 20 } : Room) s m args below meth c H locs 0 0 (MQ below (va_Qi K (fun u t => mb_T D A ([]) t) A) args s 0 0 A) (F0 m 59 ls [.int y0]) := by
  obtain ⟨hx, hb, hr, hml, hts, hown, hlocks, hA, hG⟩ := id C
  have hK := hG.1
  intro x0 x2 x3 x4 x5 x6 x7 x8 y0 H locs ls hF hP hD hS hl
  refine lv_istore (lv' := [(9, .int y0), (0, .int x0), (2, .int x2), (3, .int x3), (4, .int x4), (5, .int x5), (6, .int x6), (7, .int x7), (8, .int x8)]) hx hb dX7_foldedPage_59 hl (by decide) rfl (fun ls hl => ?_)
  refine lv_iload hx hb dX7_foldedPage_61 (lv_at hl 0 rfl) ?_
  refine lv_if_eq (tgt := 77) hx hb dX7_foldedPage_63 (by decide) (fun c_63 => ?_) (fun c_63 => ?_)
  · have hF := hF.1 c_63
    refine lv_iload_n hx hb dX7_foldedPage_77 rfl (lv_at hl 2 rfl) ?_
    exact wX7_foldedPage_78 C hb29 x0 x3 x4 x5 x6 x7 x8 y0 x2 _ _ _ hF hP hD hS (lv_sub hl [1, 3, 4, 5, 6, 7, 8, 0] rfl)
  · have hF := hF.2 c_63
    refine lv_iconst (v := 2) hx hb dX7_foldedPage_66 (by decide) ?_
    refine lv_iload hx hb dX7_foldedPage_67 (lv_at hl 4 rfl) ?_
    refine lv_imul hx hb dX7_foldedPage_69 ?_
    refine lv_iconst (v := 1) hx hb dX7_foldedPage_70 (by decide) ?_
    refine lv_isub hx hb dX7_foldedPage_71 ?_
    refine lv_iload_n hx hb dX7_foldedPage_72 rfl (lv_at hl 2 rfl) ?_
    refine lv_isub hx hb dX7_foldedPage_73 ?_
    refine lv_goto (tgt := 78) hx hb dX7_foldedPage_74 (by decide) ?_
    exact wX7_foldedPage_78 C hb29 x0 x3 x4 x5 x6 x7 x8 y0 ((((2 : Int32) * x4) - (1 : Int32)) - x2) _ _ _ hF hP hD hS (lv_sub hl [1, 3, 4, 5, 6, 7, 8, 0] rfl)
noncomputable def PX7_foldedPage_118 (N : Nat) (K : Int32 → Unit → Prop) (b29 : Int32 → Int32 → Int32 → Int32 → Int32 → Int32 → Int32 → Int32 → Prop) (x0 x2 x4 x5 x6 x7 x8 x9 y0 : Int32) : Prop := PX7_foldedPage_119 N K b29 x0 x2 y0 x4 x5 x6 x7 x8 x9
set_option maxHeartbeats 4000000 in
set_option maxRecDepth 100000 in
theorem wX7_foldedPage_118 {p : Program} {l : Launch} {e : Env} {s : State} {m : MethodId} {below : List Frame} {meth : Method} {c : Code} {args : Array Value} {D : va_G} {Y : Nat → ClassId} {A : Nat → Prop} {N : Nat} {K : Int32 → Unit → Prop} {b29 : Int32 → Int32 → Int32 → Int32 → Int32 → Int32 → Int32 → Int32 → Prop} (C : mb_Cx p s m meth c args cX7_foldedPage 10 (some .int) wsX7_foldedPage RX7 D Y A) (hb29 : ∀ (x0 x2 x3 x4 x5 x6 x7 x8 : Int32) (H : Heap) (locs : List Loc) (ls : Array Slot), b29 x0 x2 x3 x4 x5 x6 x7 x8 → va_P D vwCl (([] : va_W)) H → va_D A (([] : va_W)) → va_S A s.heap H locs → lv_has ls 10 [(0, .int x0), (2, .int x2), (3, .int x3), (4, .int x4), (5, .int x5), (6, .int x6), (7, .int x7), (8, .int x8)] → W p l e ({ frames := 1, cells := 0, slots := 0, locals := 20 } : Room) s m args below meth c H locs 0 0 (MQ below (va_Qi K (fun u t => mb_T D A ([]) t) A) args s 0 0 A) (F0 m 29 ls [])) : ∀ (x0 x2 x4 x5 x6 x7 x8 x9 y0 : Int32) (H : Heap) (locs : List Loc) (ls : Array Slot), PX7_foldedPage_118 N K b29 x0 x2 x4 x5 x6 x7 x8 x9 y0 → va_P D vwCl (([] : va_W)) H → va_D A (([] : va_W)) → va_S A s.heap H locs → lv_has ls 10 [(0, .int x0), (2, .int x2), (4, .int x4), (5, .int x5), (6, .int x6), (7, .int x7), (8, .int x8), (9, .int x9)] → W p l e ({ frames := 1, cells := 0, slots := 0, locals := 20 } : Room) s m args below meth c H locs 0 0 (MQ below (va_Qi K (fun u t => mb_T D A ([]) t) A) args s 0 0 A) (F0 m 118 ls [.int y0]) := by
  obtain ⟨hx, hb, hr, hml, hts, hown, hlocks, hA, hG⟩ := id C
  have hK := hG.1
  intro x0 x2 x4 x5 x6 x7 x8 x9 y0 H locs ls hF hP hD hS hl
  refine lv_istore_n (lv' := [(3, .int y0), (0, .int x0), (2, .int x2), (4, .int x4), (5, .int x5), (6, .int x6), (7, .int x7), (8, .int x8), (9, .int x9)]) hx hb dX7_foldedPage_118 rfl hl (by decide) rfl (fun ls hl => ?_)
  exact wX7_foldedPage_119 C hb29 x0 x2 y0 x4 x5 x6 x7 x8 x9 _ _ _ hF hP hD hS (lv_sub hl [1, 2, 0, 3, 4, 5, 6, 7, 8] rfl)
noncomputable def PX7_foldedPage_99 (N : Nat) (K : Int32 → Unit → Prop) (b29 : Int32 → Int32 → Int32 → Int32 → Int32 → Int32 → Int32 → Int32 → Prop) (x0 x2 x3 x4 x5 x6 x7 x8 y0 : Int32) : Prop := (y0 = 0 → PX7_foldedPage_118 N K b29 x0 x2 x4 x5 x6 x7 x8 y0 x3) ∧ (¬ y0 = 0 → PX7_foldedPage_118 N K b29 x0 x2 x4 x5 x6 x7 x8 y0 ((((2 : Int32) * x5) - (1 : Int32)) - x3))
set_option maxHeartbeats 4000000 in
set_option maxRecDepth 100000 in
theorem wX7_foldedPage_99 {p : Program} {l : Launch} {e : Env} {s : State} {m : MethodId} {below : List Frame} {meth : Method} {c : Code} {args : Array Value} {D : va_G} {Y : Nat → ClassId} {A : Nat → Prop} {N : Nat} {K : Int32 → Unit → Prop} {b29 : Int32 → Int32 → Int32 → Int32 → Int32 → Int32 → Int32 → Int32 → Prop} (C : mb_Cx p s m meth c args cX7_foldedPage 10 (some .int) wsX7_foldedPage RX7 D Y A) (hb29 : ∀ (x0 x2 x3 x4 x5 x6 x7 x8 : Int32) (H : Heap) (locs : List Loc) (ls : Array Slot), b29 x0 x2 x3 x4 x5 x6 x7 x8 → va_P D vwCl (([] : va_W)) H → va_D A (([] : va_W)) → va_S A s.heap H locs → lv_has ls 10 [(0, .int x0), (2, .int x2), (3, .int x3), (4, .int x4), (5, .int x5), (6, .int x6), (7, .int x7), (8, .int x8)] → W p l e ({ frames := 1, cells := 0, slots := 0, locals := 20 } : Room) s m args below meth c H locs 0 0 (MQ below (va_Qi K (fun u t => mb_T D A ([]) t) A) args s 0 0 A) (F0 m 29 ls [])) : ∀ (x0 x2 x3 x4 x5 x6 x7 x8 y0 : Int32) (H : Heap) (locs : List Loc) (ls : Array Slot), PX7_foldedPage_99 N K b29 x0 x2 x3 x4 x5 x6 x7 x8 y0 → va_P D vwCl (([] : va_W)) H → va_D A (([] : va_W)) → va_S A s.heap H locs → lv_has ls 10 [(0, .int x0), (2, .int x2), (3, .int x3), (4, .int x4), (5, .int x5), (6, .int x6), (7, .int x7), (8, .int x8)] → W p l e ({ frames := 1, cells := 0, slots := 0, locals := 20 } : Room) s m args below meth c H locs 0 0 (MQ below (va_Qi K (fun u t => mb_T D A ([]) t) A) args s 0 0 A) (F0 m 99 ls [.int y0]) := by
  obtain ⟨hx, hb, hr, hml, hts, hown, hlocks, hA, hG⟩ := id C
  have hK := hG.1
  intro x0 x2 x3 x4 x5 x6 x7 x8 y0 H locs ls hF hP hD hS hl
  refine lv_istore (lv' := [(9, .int y0), (0, .int x0), (2, .int x2), (3, .int x3), (4, .int x4), (5, .int x5), (6, .int x6), (7, .int x7), (8, .int x8)]) hx hb dX7_foldedPage_99 hl (by decide) rfl (fun ls hl => ?_)
  refine lv_iload hx hb dX7_foldedPage_101 (lv_at hl 0 rfl) ?_
  refine lv_if_eq (tgt := 117) hx hb dX7_foldedPage_103 (by decide) (fun c_103 => ?_) (fun c_103 => ?_)
  · have hF := hF.1 c_103
    refine lv_iload_n hx hb dX7_foldedPage_117 rfl (lv_at hl 3 rfl) ?_
    exact wX7_foldedPage_118 C hb29 x0 x2 x4 x5 x6 x7 x8 y0 x3 _ _ _ hF hP hD hS (lv_sub hl [1, 2, 4, 5, 6, 7, 8, 0] rfl)
  · have hF := hF.2 c_103
    refine lv_iconst (v := 2) hx hb dX7_foldedPage_106 (by decide) ?_
    refine lv_iload hx hb dX7_foldedPage_107 (lv_at hl 5 rfl) ?_
    refine lv_imul hx hb dX7_foldedPage_109 ?_
    refine lv_iconst (v := 1) hx hb dX7_foldedPage_110 (by decide) ?_
    refine lv_isub hx hb dX7_foldedPage_111 ?_
    refine lv_iload_n hx hb dX7_foldedPage_112 rfl (lv_at hl 3 rfl) ?_
    refine lv_isub hx hb dX7_foldedPage_113 ?_
    refine lv_goto (tgt := 118) hx hb dX7_foldedPage_114 (by decide) ?_
    exact wX7_foldedPage_118 C hb29 x0 x2 x4 x5 x6 x7 x8 y0 ((((2 : Int32) * x5) - (1 : Int32)) - x3) _ _ _ hF hP hD hS (lv_sub hl [1, 2, 4, 5, 6, 7, 8, 0] rfl)
noncomputable def PX7_foldedPage_29_b (N : Nat) (K : Int32 → Unit → Prop) (b29 : Int32 → Int32 → Int32 → Int32 → Int32 → Int32 → Int32 → Int32 → Prop) (x0 x2 x3 x4 x5 x6 x7 x8 : Int32) : Prop := (x0 ≤ x8 → K x7 ()) ∧ (¬ x0 ≤ x8 → (¬ (x8 - x8 / (2 : Int32) * (2 : Int32)) = 0 → ∀ v86 : Int32, v86 = (x5 / (2 : Int32)) → ((x3 < v86 → PX7_foldedPage_99 N K b29 x0 x2 x3 x4 v86 x6 x7 x8 (0 : Int32)) ∧ (¬ x3 < v86 → PX7_foldedPage_99 N K b29 x0 x2 x3 x4 v86 x6 x7 x8 (1 : Int32)))) ∧ ((x8 - x8 / (2 : Int32) * (2 : Int32)) = 0 → ∀ v46 : Int32, v46 = (x4 / (2 : Int32)) → ((x2 < v46 → PX7_foldedPage_59 N K b29 x0 x2 x3 v46 x5 x6 x7 x8 (0 : Int32)) ∧ (¬ x2 < v46 → PX7_foldedPage_59 N K b29 x0 x2 x3 v46 x5 x6 x7 x8 (1 : Int32)))))
noncomputable def PX7_foldedPage_29 (N : Nat) (K : Int32 → Unit → Prop) (n : Nat) : Int32 → Int32 → Int32 → Int32 → Int32 → Int32 → Int32 → Int32 → Prop := Nat.rec (motive := fun _ => Int32 → Int32 → Int32 → Int32 → Int32 → Int32 → Int32 → Int32 → Prop) (fun _ _ _ _ _ _ _ _ => False) (fun _ b29 => PX7_foldedPage_29_b N K  b29) n
set_option maxHeartbeats 4000000 in
set_option maxRecDepth 100000 in
theorem wX7_foldedPage_29 {p : Program} {l : Launch} {e : Env} {s : State} {m : MethodId} {below : List Frame} {meth : Method} {c : Code} {args : Array Value} {D : va_G} {Y : Nat → ClassId} {A : Nat → Prop} {N : Nat} {K : Int32 → Unit → Prop} (C : mb_Cx p s m meth c args cX7_foldedPage 10 (some .int) wsX7_foldedPage RX7 D Y A) : ∀ (n : Nat), (∀ (x0 x2 x3 x4 x5 x6 x7 x8 : Int32) (H : Heap) (locs : List Loc) (ls : Array Slot), PX7_foldedPage_29 N K  n x0 x2 x3 x4 x5 x6 x7 x8 → va_P D vwCl (([] : va_W)) H → va_D A (([] : va_W)) → va_S A s.heap H locs → lv_has ls 10 [(0, .int x0), (2, .int x2), (3, .int x3), (4, .int x4), (5, .int x5), (6, .int x6), (7, .int x7), (8, .int x8)] → W p l e ({ frames := 1, cells := 0, slots := 0, locals := 20 } : Room) s m args below meth c H locs 0 0 (MQ below (va_Qi K (fun u t => mb_T D A ([]) t) A) args s 0 0 A) (F0 m 29 ls [])) := by
  obtain ⟨hx, hb, hr, hml, hts, hown, hlocks, hA, hG⟩ := id C
  have hK := hG.1
  intro n
  induction n with
  | zero => intro x0 x2 x3 x4 x5 x6 x7 x8 H locs ls hF; exact (show False from hF).elim
  | succ n ih =>
    intro x0 x2 x3 x4 x5 x6 x7 x8 H locs ls hF hP hD hS hl
    have hF : PX7_foldedPage_29_b N K  (PX7_foldedPage_29 N K  n) x0 x2 x3 x4 x5 x6 x7 x8 := hF
    refine lv_iload hx hb dX7_foldedPage_29 (lv_at hl 7 rfl) ?_
    refine lv_iload_n hx hb dX7_foldedPage_31 rfl (lv_at hl 0 rfl) ?_
    refine lv_icmp_ge (tgt := 153) hx hb dX7_foldedPage_32 (by decide) (fun c_32 => ?_) (fun c_32 => ?_)
    · have hF := hF.1 c_32
      refine lv_iload hx hb dX7_foldedPage_153 (lv_at hl 6 rfl) ?_
      exact mb_ri (wf := fun u => []) C rfl (u := ()) hF hP hD hS dX7_foldedPage_155 (Nat.le_of_ble_eq_true rfl) (Nat.le_of_ble_eq_true rfl)
    · have hF := hF.2 c_32
      refine lv_iload hx hb dX7_foldedPage_35 (lv_at hl 7 rfl) ?_
      refine lv_iconst (v := 2) hx hb dX7_foldedPage_37 (by decide) ?_
      refine lv_irem hx hb dX7_foldedPage_38 (by decide) ?_
      refine lv_if_ne (tgt := 82) hx hb dX7_foldedPage_39 (by decide) (fun c_39 => ?_) (fun c_39 => ?_)
      · have hF := hF.1 c_39
        refine lv_iload hx hb dX7_foldedPage_82 (lv_at hl 4 rfl) ?_
        refine lv_iconst (v := 2) hx hb dX7_foldedPage_84 (by decide) ?_
        refine lv_idiv hx hb dX7_foldedPage_85 (by decide) ?_
        refine lv_topi (fun v86 ev86 => ?_)
        have hF := hF v86 ev86
        refine lv_istore (lv' := [(5, .int v86), (0, .int x0), (2, .int x2), (3, .int x3), (4, .int x4), (6, .int x6), (7, .int x7), (8, .int x8)]) hx hb dX7_foldedPage_86 hl (by decide) rfl (fun ls hl => ?_)
        refine lv_iload_n hx hb dX7_foldedPage_88 rfl (lv_at hl 3 rfl) ?_
        refine lv_iload hx hb dX7_foldedPage_89 (lv_at hl 0 rfl) ?_
        refine lv_icmp_lt (tgt := 98) hx hb dX7_foldedPage_91 (by decide) (fun c_91 => ?_) (fun c_91 => ?_)
        · have hF := hF.1 c_91
          refine lv_iconst (v := 0) hx hb dX7_foldedPage_98 (by decide) ?_
          exact wX7_foldedPage_99 C ih x0 x2 x3 x4 v86 x6 x7 x8 (0 : Int32) _ _ _ hF hP hD hS (lv_sub hl [1, 2, 3, 4, 0, 5, 6, 7] rfl)
        · have hF := hF.2 c_91
          refine lv_iconst (v := 1) hx hb dX7_foldedPage_94 (by decide) ?_
          refine lv_goto (tgt := 99) hx hb dX7_foldedPage_95 (by decide) ?_
          exact wX7_foldedPage_99 C ih x0 x2 x3 x4 v86 x6 x7 x8 (1 : Int32) _ _ _ hF hP hD hS (lv_sub hl [1, 2, 3, 4, 0, 5, 6, 7] rfl)
      · have hF := hF.2 c_39
        refine lv_iload hx hb dX7_foldedPage_42 (lv_at hl 3 rfl) ?_
        refine lv_iconst (v := 2) hx hb dX7_foldedPage_44 (by decide) ?_
        refine lv_idiv hx hb dX7_foldedPage_45 (by decide) ?_
        refine lv_topi (fun v46 ev46 => ?_)
        have hF := hF v46 ev46
        refine lv_istore (lv' := [(4, .int v46), (0, .int x0), (2, .int x2), (3, .int x3), (5, .int x5), (6, .int x6), (7, .int x7), (8, .int x8)]) hx hb dX7_foldedPage_46 hl (by decide) rfl (fun ls hl => ?_)
        refine lv_iload_n hx hb dX7_foldedPage_48 rfl (lv_at hl 2 rfl) ?_
        refine lv_iload hx hb dX7_foldedPage_49 (lv_at hl 0 rfl) ?_
        refine lv_icmp_lt (tgt := 58) hx hb dX7_foldedPage_51 (by decide) (fun c_51 => ?_) (fun c_51 => ?_)
        · have hF := hF.1 c_51
          refine lv_iconst (v := 0) hx hb dX7_foldedPage_58 (by decide) ?_
          exact wX7_foldedPage_59 C ih x0 x2 x3 v46 x5 x6 x7 x8 (0 : Int32) _ _ _ hF hP hD hS (lv_sub hl [1, 2, 3, 0, 4, 5, 6, 7] rfl)
        · have hF := hF.2 c_51
          refine lv_iconst (v := 1) hx hb dX7_foldedPage_54 (by decide) ?_
          refine lv_goto (tgt := 59) hx hb dX7_foldedPage_55 (by decide) ?_
          exact wX7_foldedPage_59 C ih x0 x2 x3 v46 x5 x6 x7 x8 (1 : Int32) _ _ _ hF hP hD hS (lv_sub hl [1, 2, 3, 0, 4, 5, 6, 7] rfl)
noncomputable def PX7_foldedPage_24 (N : Nat) (K : Int32 → Unit → Prop) (x0 x2 x3 x4 x5 x6 y0 : Int32) : Prop := PX7_foldedPage_29 N K N x0 x2 x3 x4 x5 x6 y0 (0 : Int32)
set_option maxHeartbeats 4000000 in
set_option maxRecDepth 100000 in
theorem wX7_foldedPage_24 {p : Program} {l : Launch} {e : Env} {s : State} {m : MethodId} {below : List Frame} {meth : Method} {c : Code} {args : Array Value} {D : va_G} {Y : Nat → ClassId} {A : Nat → Prop} {N : Nat} {K : Int32 → Unit → Prop} (C : mb_Cx p s m meth c args cX7_foldedPage 10 (some .int) wsX7_foldedPage RX7 D Y A) : ∀ (x0 x2 x3 x4 x5 x6 y0 : Int32) (H : Heap) (locs : List Loc) (ls : Array Slot), PX7_foldedPage_24 N K  x0 x2 x3 x4 x5 x6 y0 → va_P D vwCl (([] : va_W)) H → va_D A (([] : va_W)) → va_S A s.heap H locs → lv_has ls 10 [(0, .int x0), (2, .int x2), (3, .int x3), (4, .int x4), (5, .int x5), (6, .int x6)] → W p l e ({ frames := 1, cells := 0, slots := 0, locals := 20 } : Room) s m args below meth c H locs 0 0 (MQ below (va_Qi K (fun u t => mb_T D A ([]) t) A) args s 0 0 A) (F0 m 24 ls [.int y0]) := by
  obtain ⟨hx, hb, hr, hml, hts, hown, hlocks, hA, hG⟩ := id C
  have hK := hG.1
  intro x0 x2 x3 x4 x5 x6 y0 H locs ls hF hP hD hS hl
  refine lv_istore (lv' := [(7, .int y0), (0, .int x0), (2, .int x2), (3, .int x3), (4, .int x4), (5, .int x5), (6, .int x6)]) hx hb dX7_foldedPage_24 hl (by decide) rfl (fun ls hl => ?_)
  refine lv_iconst (v := 0) hx hb dX7_foldedPage_26 (by decide) ?_
  refine lv_istore (lv' := [(8, .int (0 : Int32)), (7, .int y0), (0, .int x0), (2, .int x2), (3, .int x3), (4, .int x4), (5, .int x5), (6, .int x6)]) hx hb dX7_foldedPage_27 hl (by decide) rfl (fun ls hl => ?_)
  exact wX7_foldedPage_29 C N x0 x2 x3 x4 x5 x6 y0 (0 : Int32) _ _ _ hF hP hD hS (lv_sub hl [2, 3, 4, 5, 6, 7, 1, 0] rfl)
noncomputable def PX7_foldedPage (N : Nat) (x0 x1 x2 x3 : Int32) (K : Int32 → Unit → Prop) : Prop := PX7_columnsOf N x0 (fun r1 _ => PX7_rowsOf N x0 (fun r7 _ => (x1 = 0 → PX7_foldedPage_24 N K x0 x2 x3 r1 r7 (2 : Int32) (1 : Int32)) ∧ (¬ x1 = 0 → PX7_foldedPage_24 N K x0 x2 x3 r1 r7 (2 : Int32) (2 : Int32))))
set_option maxHeartbeats 4000000 in
set_option maxRecDepth 100000 in
theorem cnX7_foldedPage (l : Launch) (D : va_G) (Y : Nat → ClassId) (N : Nat) (sz : Nat) (x0 x1 x2 x3 : Int32) (K : Int32 → Unit → Prop) (hF : PX7_foldedPage N x0 x1 x2 x3 K) : Met l yX7_foldedPage wsX7_foldedPage ({ frames := 1, cells := 0, slots := 0, locals := 20 } : Room) (va_Pc [.int x0, .int x1, .int x2, .int x3] (mb_B D Y (([] : va_W)) sz)) (va_Qi K (fun u t => mb_T D (va_A (([] : va_W)) sz) ([]) t) (va_A (([] : va_W)) sz)) 0 0 (va_A (([] : va_W)) sz) := by
  refine mb_begin (cc := cX7_foldedPage) (maxL := 10) (ret := (some .int)) (by decide +kernel) rfl (Nat.le_of_ble_eq_true rfl) ?_
  intro p e s m below meth c ls C hsz hnm hP hD hl
  generalize hAe : va_A (([] : va_W)) sz = A at C hD ⊢
  have C : mb_Cx p s m meth c ([.int x0, .int x1, .int x2, .int x3] : List Value).toArray cX7_foldedPage 10 (some .int) wsX7_foldedPage RX7 D Y A := C
  obtain ⟨hx, hb, hr, hml, hts, hown, hlocks, hA, hG⟩ := id C
  have hK := hG.1
  have hS : va_S A s.heap s.heap [] := va_S.rf
  have hl : lv_has ls 10 [(0, .int x0), (1, .int x1), (2, .int x2), (3, .int x3)] := hl
  refine lv_iload_n hx hb dX7_foldedPage_0 rfl (lv_at hl 0 rfl) ?_
  refine mb_cE hP hS hA (va_runS (As := [.int x0]) (rest := []) ⟨hx, hb, hml, hown, hts⟩ (cnX7_columnsOf l D Y N _ x0 _ hF) (va_cwS 1 hts gX7_foldedPage_X7_columnsOf rfl rfl rfl (by decide +kernel) ⟨Nat.le_of_ble_eq_true rfl, Nat.le_of_ble_eq_true rfl⟩) (mb_preS (A := A) hG mb_P0 mb_D0) rfl rfl hl.1 rfl (lv_room (Nat.le_of_ble_eq_true rfl)) dX7_foldedPage_1 ⟨Nat.le_of_ble_eq_true rfl, Nat.le_of_ble_eq_true rfl⟩) (fun r1 H locs hF hP hS => ?_)
  refine lv_istore (lv' := [(4, .int r1), (0, .int x0), (1, .int x1), (2, .int x2), (3, .int x3)]) hx hb dX7_foldedPage_4 hl (by decide) rfl (fun ls hl => ?_)
  refine lv_iload_n hx hb dX7_foldedPage_6 rfl (lv_at hl 1 rfl) ?_
  refine mb_cE hP hS hA (va_runS (As := [.int x0]) (rest := []) ⟨hx, hb, hml, hown, hts⟩ (cnX7_rowsOf l D Y N _ x0 _ hF) (va_cwS 1 hts gX7_foldedPage_X7_rowsOf rfl rfl rfl (by decide +kernel) ⟨Nat.le_of_ble_eq_true rfl, Nat.le_of_ble_eq_true rfl⟩) (mb_preS (A := A) hG mb_P0 mb_D0) rfl rfl hl.1 rfl (lv_room (Nat.le_of_ble_eq_true rfl)) dX7_foldedPage_7 ⟨Nat.le_of_ble_eq_true rfl, Nat.le_of_ble_eq_true rfl⟩) (fun r7 H locs hF hP hS => ?_)
  refine lv_istore (lv' := [(5, .int r7), (4, .int r1), (0, .int x0), (1, .int x1), (2, .int x2), (3, .int x3)]) hx hb dX7_foldedPage_10 hl (by decide) rfl (fun ls hl => ?_)
  refine lv_iconst (v := 2) hx hb dX7_foldedPage_12 (by decide) ?_
  refine lv_istore (lv' := [(6, .int (2 : Int32)), (5, .int r7), (4, .int r1), (0, .int x0), (1, .int x1), (2, .int x2), (3, .int x3)]) hx hb dX7_foldedPage_13 hl (by decide) rfl (fun ls hl => ?_)
  refine lv_iload_n hx hb dX7_foldedPage_15 rfl (lv_at hl 4 rfl) ?_
  refine lv_if_eq (tgt := 23) hx hb dX7_foldedPage_16 (by decide) (fun c_16 => ?_) (fun c_16 => ?_)
  · have hF := hF.1 c_16
    refine lv_iconst (v := 1) hx hb dX7_foldedPage_23 (by decide) ?_
    exact wX7_foldedPage_24 C x0 x2 x3 r1 r7 (2 : Int32) (1 : Int32) _ _ _ hF hP hD hS (lv_sub hl [3, 5, 6, 2, 1, 0] rfl)
  · have hF := hF.2 c_16
    refine lv_iconst (v := 2) hx hb dX7_foldedPage_19 (by decide) ?_
    refine lv_goto (tgt := 24) hx hb dX7_foldedPage_20 (by decide) ?_
    exact wX7_foldedPage_24 C x0 x2 x3 r1 r7 (2 : Int32) (2 : Int32) _ _ _ hF hP hD hS (lv_sub hl [3, 5, 6, 2, 1, 0] rfl)
end
section
noncomputable def PX7_unfoldedPlace_12_b (N : Nat) (K : Int32 → Unit → Prop) (b2 : Int32 → Int32 → Int32 → Prop) (b12 : Int32 → Int32 → Int32 → Int32 → Prop) (x0 x1 x2 x3 : Int32) : Prop := PX7_columnsOf N x0 (fun r14 _ => (r14 ≤ x3 → ∀ v65 : Int32, v65 = x2 + (1 : Int32) → (b2 x0 x1 v65)) ∧ (¬ r14 ≤ x3 → PX7_foldedPage N x0 (0 : Int32) x3 x2 (fun r24 _ => (¬ r24 = x1 → PX7_foldedPage N x0 (1 : Int32) x3 x2 (fun r42 _ => (¬ r42 = x1 → ∀ v59 : Int32, v59 = x3 + (1 : Int32) → (b12 x0 x1 x2 v59)) ∧ (r42 = x1 → K (((100 : Int32) + ((10 : Int32) * x2)) + x3) ()))) ∧ (r24 = x1 → K (((10 : Int32) * x2) + x3) ()))))
noncomputable def PX7_unfoldedPlace_12 (N : Nat) (K : Int32 → Unit → Prop) (b2 : Int32 → Int32 → Int32 → Prop) (n : Nat) : Int32 → Int32 → Int32 → Int32 → Prop := Nat.rec (motive := fun _ => Int32 → Int32 → Int32 → Int32 → Prop) (fun _ _ _ _ => False) (fun _ b12 => PX7_unfoldedPlace_12_b N K b2 b12) n
set_option maxHeartbeats 4000000 in
set_option maxRecDepth 100000 in
theorem wX7_unfoldedPlace_12 {p : Program} {l : Launch} {e : Env} {s : State} {m : MethodId} {below : List Frame} {meth : Method} {c : Code} {args : Array Value} {D : va_G} {Y : Nat → ClassId} {A : Nat → Prop} {N : Nat} {K : Int32 → Unit → Prop} {b2 : Int32 → Int32 → Int32 → Prop} (C : mb_Cx p s m meth c args cX7_unfoldedPlace 4 (some .int) wsX7_unfoldedPlace RX7 D Y A) (hb2 : ∀ (x0 x1 x2 : Int32) (H : Heap) (locs : List Loc) (ls : Array Slot), b2 x0 x1 x2 → va_P D vwCl (([] : va_W)) H → va_D A (([] : va_W)) → va_S A s.heap H locs → lv_has ls 4 [(0, .int x0), (1, .int x1), (2, .int x2)] → W p l e ({ frames := 2, cells := 0, slots := 0, locals := 49 } : Room) s m args below meth c H locs 0 0 (MQ below (va_Qi K (fun u t => mb_T D A ([]) t) A) args s 0 0 A) (F0 m 2 ls [])) : ∀ (n : Nat), (∀ (x0 x1 x2 x3 : Int32) (H : Heap) (locs : List Loc) (ls : Array Slot), PX7_unfoldedPlace_12 N K b2 n x0 x1 x2 x3 → va_P D vwCl (([] : va_W)) H → va_D A (([] : va_W)) → va_S A s.heap H locs → lv_has ls 4 [(0, .int x0), (1, .int x1), (2, .int x2), (3, .int x3)] → W p l e ({ frames := 2, cells := 0, slots := 0, locals := 49 } : Room) s m args below meth c H locs 0 0 (MQ below (va_Qi K (fun u t => mb_T D A ([]) t) A) args s 0 0 A) (F0 m 12 ls [])) := by
  obtain ⟨hx, hb, hr, hml, hts, hown, hlocks, hA, hG⟩ := id C
  have hK := hG.1
  intro n
  induction n with
  | zero => intro x0 x1 x2 x3 H locs ls hF; exact (show False from hF).elim
  | succ n ih =>
    intro x0 x1 x2 x3 H locs ls hF hP hD hS hl
    have hF : PX7_unfoldedPlace_12_b N K b2 (PX7_unfoldedPlace_12 N K b2 n) x0 x1 x2 x3 := hF
    refine lv_iload_n hx hb dX7_unfoldedPlace_12 rfl (lv_at hl 3 rfl) ?_
    refine lv_iload_n hx hb dX7_unfoldedPlace_13 rfl (lv_at hl 0 rfl) ?_
    refine mb_cE hP hS hA (va_runS (As := [.int x0]) (rest := [.int x3]) ⟨hx, hb, hml, hown, hts⟩ (cnX7_columnsOf l D Y N _ x0 _ hF) (va_cwS 1 hts gX7_unfoldedPlace_X7_columnsOf rfl rfl rfl (by decide +kernel) ⟨Nat.le_of_ble_eq_true rfl, Nat.le_of_ble_eq_true rfl⟩) (mb_preS (A := A) hG mb_P0 mb_D0) rfl rfl hl.1 rfl (lv_room (Nat.le_of_ble_eq_true rfl)) dX7_unfoldedPlace_14 ⟨Nat.le_of_ble_eq_true rfl, Nat.le_of_ble_eq_true rfl⟩) (fun r14 H locs hF hP hS => ?_)
    refine lv_icmp_ge (tgt := 65) hx hb dX7_unfoldedPlace_17 (by decide) (fun c_17 => ?_) (fun c_17 => ?_)
    · have hF := hF.1 c_17
      obtain ⟨v65, ev65⟩ : ∃ y : Int32, y = x2 + (1 : Int32) := ⟨_, rfl⟩
      have hF := hF v65 ev65
      refine lv_iinc (v := v65) (lv' := [(2, .int v65), (0, .int x0), (1, .int x1), (3, .int x3)]) hx hb dX7_unfoldedPlace_65 hl (k := 2) rfl (by rw [ev65]; rfl) (by decide) rfl (fun ls hl => ?_)
      refine lv_goto (tgt := 2) hx hb dX7_unfoldedPlace_68 (by decide) ?_
      exact hb2 x0 x1 v65 _ _ _ hF hP hD hS (lv_sub hl [1, 2, 0] rfl)
    · have hF := hF.2 c_17
      refine lv_iload_n hx hb dX7_unfoldedPlace_20 rfl (lv_at hl 0 rfl) ?_
      refine lv_iconst (v := 0) hx hb dX7_unfoldedPlace_21 (by decide) ?_
      refine lv_iload_n hx hb dX7_unfoldedPlace_22 rfl (lv_at hl 3 rfl) ?_
      refine lv_iload_n hx hb dX7_unfoldedPlace_23 rfl (lv_at hl 2 rfl) ?_
      refine mb_cE hP hS hA (va_runS (As := [.int x0, .int (0 : Int32), .int x3, .int x2]) (rest := []) ⟨hx, hb, hml, hown, hts⟩ (cnX7_foldedPage l D Y N _ x0 (0 : Int32) x3 x2 _ hF) (va_cwS 4 hts gX7_unfoldedPlace_X7_foldedPage rfl rfl rfl (by decide +kernel) ⟨Nat.le_of_ble_eq_true rfl, Nat.le_of_ble_eq_true rfl⟩) (mb_preS (A := A) hG mb_P0 mb_D0) rfl rfl hl.1 rfl (lv_room (Nat.le_of_ble_eq_true rfl)) dX7_unfoldedPlace_24 ⟨Nat.le_of_ble_eq_true rfl, Nat.le_of_ble_eq_true rfl⟩) (fun r24 H locs hF hP hS => ?_)
      refine lv_iload_n hx hb dX7_unfoldedPlace_27 rfl (lv_at hl 1 rfl) ?_
      refine lv_icmp_ne (tgt := 38) hx hb dX7_unfoldedPlace_28 (by decide) (fun c_28 => ?_) (fun c_28 => ?_)
      · have hF := hF.1 c_28
        refine lv_iload_n hx hb dX7_unfoldedPlace_38 rfl (lv_at hl 0 rfl) ?_
        refine lv_iconst (v := 1) hx hb dX7_unfoldedPlace_39 (by decide) ?_
        refine lv_iload_n hx hb dX7_unfoldedPlace_40 rfl (lv_at hl 3 rfl) ?_
        refine lv_iload_n hx hb dX7_unfoldedPlace_41 rfl (lv_at hl 2 rfl) ?_
        refine mb_cE hP hS hA (va_runS (As := [.int x0, .int (1 : Int32), .int x3, .int x2]) (rest := []) ⟨hx, hb, hml, hown, hts⟩ (cnX7_foldedPage l D Y N _ x0 (1 : Int32) x3 x2 _ hF) (va_cwS 4 hts gX7_unfoldedPlace_X7_foldedPage rfl rfl rfl (by decide +kernel) ⟨Nat.le_of_ble_eq_true rfl, Nat.le_of_ble_eq_true rfl⟩) (mb_preS (A := A) hG mb_P0 mb_D0) rfl rfl hl.1 rfl (lv_room (Nat.le_of_ble_eq_true rfl)) dX7_unfoldedPlace_42 ⟨Nat.le_of_ble_eq_true rfl, Nat.le_of_ble_eq_true rfl⟩) (fun r42 H locs hF hP hS => ?_)
        refine lv_iload_n hx hb dX7_unfoldedPlace_45 rfl (lv_at hl 1 rfl) ?_
        refine lv_icmp_ne (tgt := 59) hx hb dX7_unfoldedPlace_46 (by decide) (fun c_46 => ?_) (fun c_46 => ?_)
        · have hF := hF.1 c_46
          obtain ⟨v59, ev59⟩ : ∃ y : Int32, y = x3 + (1 : Int32) := ⟨_, rfl⟩
          have hF := hF v59 ev59
          refine lv_iinc (v := v59) (lv' := [(3, .int v59), (0, .int x0), (1, .int x1), (2, .int x2)]) hx hb dX7_unfoldedPlace_59 hl (k := 3) rfl (by rw [ev59]; rfl) (by decide) rfl (fun ls hl => ?_)
          refine lv_goto (tgt := 12) hx hb dX7_unfoldedPlace_62 (by decide) ?_
          exact ih x0 x1 x2 v59 _ _ _ hF hP hD hS (lv_sub hl [1, 2, 3, 0] rfl)
        · have hF := hF.2 c_46
          refine lv_bipush (v := 100) hx hb dX7_unfoldedPlace_49 (by decide) ?_
          refine lv_bipush (v := 10) hx hb dX7_unfoldedPlace_51 (by decide) ?_
          refine lv_iload_n hx hb dX7_unfoldedPlace_53 rfl (lv_at hl 2 rfl) ?_
          refine lv_imul hx hb dX7_unfoldedPlace_54 ?_
          refine lv_iadd hx hb dX7_unfoldedPlace_55 ?_
          refine lv_iload_n hx hb dX7_unfoldedPlace_56 rfl (lv_at hl 3 rfl) ?_
          refine lv_iadd hx hb dX7_unfoldedPlace_57 ?_
          exact mb_ri (wf := fun u => []) C rfl (u := ()) hF hP hD hS dX7_unfoldedPlace_58 (Nat.le_of_ble_eq_true rfl) (Nat.le_of_ble_eq_true rfl)
      · have hF := hF.2 c_28
        refine lv_bipush (v := 10) hx hb dX7_unfoldedPlace_31 (by decide) ?_
        refine lv_iload_n hx hb dX7_unfoldedPlace_33 rfl (lv_at hl 2 rfl) ?_
        refine lv_imul hx hb dX7_unfoldedPlace_34 ?_
        refine lv_iload_n hx hb dX7_unfoldedPlace_35 rfl (lv_at hl 3 rfl) ?_
        refine lv_iadd hx hb dX7_unfoldedPlace_36 ?_
        exact mb_ri (wf := fun u => []) C rfl (u := ()) hF hP hD hS dX7_unfoldedPlace_37 (Nat.le_of_ble_eq_true rfl) (Nat.le_of_ble_eq_true rfl)
noncomputable def PX7_unfoldedPlace_2_b (N : Nat) (K : Int32 → Unit → Prop) (b2 : Int32 → Int32 → Int32 → Prop) (x0 x1 x2 : Int32) : Prop := PX7_rowsOf N x0 (fun r4 _ => (r4 ≤ x2 → K (-1 : Int32) ()) ∧ (¬ r4 ≤ x2 → PX7_unfoldedPlace_12 N K b2 N x0 x1 x2 (0 : Int32)))
noncomputable def PX7_unfoldedPlace_2 (N : Nat) (K : Int32 → Unit → Prop) (n : Nat) : Int32 → Int32 → Int32 → Prop := Nat.rec (motive := fun _ => Int32 → Int32 → Int32 → Prop) (fun _ _ _ => False) (fun _ b2 => PX7_unfoldedPlace_2_b N K  b2) n
set_option maxHeartbeats 4000000 in
set_option maxRecDepth 100000 in
theorem wX7_unfoldedPlace_2 {p : Program} {l : Launch} {e : Env} {s : State} {m : MethodId} {below : List Frame} {meth : Method} {c : Code} {args : Array Value} {D : va_G} {Y : Nat → ClassId} {A : Nat → Prop} {N : Nat} {K : Int32 → Unit → Prop} (C : mb_Cx p s m meth c args cX7_unfoldedPlace 4 (some .int) wsX7_unfoldedPlace RX7 D Y A) : ∀ (n : Nat), (∀ (x0 x1 x2 : Int32) (H : Heap) (locs : List Loc) (ls : Array Slot), PX7_unfoldedPlace_2 N K  n x0 x1 x2 → va_P D vwCl (([] : va_W)) H → va_D A (([] : va_W)) → va_S A s.heap H locs → lv_has ls 4 [(0, .int x0), (1, .int x1), (2, .int x2)] → W p l e ({ frames := 2, cells := 0, slots := 0, locals := 49 } : Room) s m args below meth c H locs 0 0 (MQ below (va_Qi K (fun u t => mb_T D A ([]) t) A) args s 0 0 A) (F0 m 2 ls [])) := by
  obtain ⟨hx, hb, hr, hml, hts, hown, hlocks, hA, hG⟩ := id C
  have hK := hG.1
  intro n
  induction n with
  | zero => intro x0 x1 x2 H locs ls hF; exact (show False from hF).elim
  | succ n ih =>
    intro x0 x1 x2 H locs ls hF hP hD hS hl
    have hF : PX7_unfoldedPlace_2_b N K  (PX7_unfoldedPlace_2 N K  n) x0 x1 x2 := hF
    refine lv_iload_n hx hb dX7_unfoldedPlace_2 rfl (lv_at hl 2 rfl) ?_
    refine lv_iload_n hx hb dX7_unfoldedPlace_3 rfl (lv_at hl 0 rfl) ?_
    refine mb_cE hP hS hA (va_runS (As := [.int x0]) (rest := [.int x2]) ⟨hx, hb, hml, hown, hts⟩ (cnX7_rowsOf l D Y N _ x0 _ hF) (va_cwS 1 hts gX7_unfoldedPlace_X7_rowsOf rfl rfl rfl (by decide +kernel) ⟨Nat.le_of_ble_eq_true rfl, Nat.le_of_ble_eq_true rfl⟩) (mb_preS (A := A) hG mb_P0 mb_D0) rfl rfl hl.1 rfl (lv_room (Nat.le_of_ble_eq_true rfl)) dX7_unfoldedPlace_4 ⟨Nat.le_of_ble_eq_true rfl, Nat.le_of_ble_eq_true rfl⟩) (fun r4 H locs hF hP hS => ?_)
    refine lv_icmp_ge (tgt := 71) hx hb dX7_unfoldedPlace_7 (by decide) (fun c_7 => ?_) (fun c_7 => ?_)
    · have hF := hF.1 c_7
      refine lv_iconst (v := -1) hx hb dX7_unfoldedPlace_71 (by decide) ?_
      exact mb_ri (wf := fun u => []) C rfl (u := ()) hF hP hD hS dX7_unfoldedPlace_72 (Nat.le_of_ble_eq_true rfl) (Nat.le_of_ble_eq_true rfl)
    · have hF := hF.2 c_7
      refine lv_iconst (v := 0) hx hb dX7_unfoldedPlace_10 (by decide) ?_
      refine lv_istore_n (lv' := [(3, .int (0 : Int32)), (0, .int x0), (1, .int x1), (2, .int x2)]) hx hb dX7_unfoldedPlace_11 rfl hl (by decide) rfl (fun ls hl => ?_)
      exact wX7_unfoldedPlace_12 C ih N x0 x1 x2 (0 : Int32) _ _ _ hF hP hD hS (lv_sub hl [1, 2, 3, 0] rfl)
noncomputable def PX7_unfoldedPlace (N : Nat) (x0 x1 : Int32) (K : Int32 → Unit → Prop) : Prop := PX7_unfoldedPlace_2 N K N x0 x1 (0 : Int32)
set_option maxHeartbeats 4000000 in
set_option maxRecDepth 100000 in
theorem cnX7_unfoldedPlace (l : Launch) (D : va_G) (Y : Nat → ClassId) (N : Nat) (sz : Nat) (x0 x1 : Int32) (K : Int32 → Unit → Prop) (hF : PX7_unfoldedPlace N x0 x1 K) : Met l yX7_unfoldedPlace wsX7_unfoldedPlace ({ frames := 2, cells := 0, slots := 0, locals := 49 } : Room) (va_Pc [.int x0, .int x1] (mb_B D Y (([] : va_W)) sz)) (va_Qi K (fun u t => mb_T D (va_A (([] : va_W)) sz) ([]) t) (va_A (([] : va_W)) sz)) 0 0 (va_A (([] : va_W)) sz) := by
  refine mb_begin (cc := cX7_unfoldedPlace) (maxL := 4) (ret := (some .int)) (by decide +kernel) rfl (Nat.le_of_ble_eq_true rfl) ?_
  intro p e s m below meth c ls C hsz hnm hP hD hl
  generalize hAe : va_A (([] : va_W)) sz = A at C hD ⊢
  have C : mb_Cx p s m meth c ([.int x0, .int x1] : List Value).toArray cX7_unfoldedPlace 4 (some .int) wsX7_unfoldedPlace RX7 D Y A := C
  obtain ⟨hx, hb, hr, hml, hts, hown, hlocks, hA, hG⟩ := id C
  have hK := hG.1
  have hS : va_S A s.heap s.heap [] := va_S.rf
  have hl : lv_has ls 4 [(0, .int x0), (1, .int x1)] := hl
  refine lv_iconst (v := 0) hx hb dX7_unfoldedPlace_0 (by decide) ?_
  refine lv_istore_n (lv' := [(2, .int (0 : Int32)), (0, .int x0), (1, .int x1)]) hx hb dX7_unfoldedPlace_1 rfl hl (by decide) rfl (fun ls hl => ?_)
  exact wX7_unfoldedPlace_2 C N x0 x1 (0 : Int32) _ _ _ hF hP hD hS (lv_sub hl [1, 2, 0] rfl)
end
section
noncomputable def PX8_in (N : Nat) (x0 x1 x2 : Int32) (K : Int32 → Unit → Prop) : Prop := (x0 < x1 → K (0 : Int32) ()) ∧ (¬ x0 < x1 → (x2 < x0 → K (0 : Int32) ()) ∧ (¬ x2 < x0 → K (1 : Int32) ()))
set_option maxHeartbeats 4000000 in
set_option maxRecDepth 100000 in
theorem cnX8_in (l : Launch) (D : va_G) (Y : Nat → ClassId) (N : Nat) (sz : Nat) (x0 x1 x2 : Int32) (K : Int32 → Unit → Prop) (hF : PX8_in N x0 x1 x2 K) : Met l yX8_in wsX8_in ({ frames := 0, cells := 0, slots := 0, locals := 0 } : Room) (va_Pc [.int x0, .int x1, .int x2] (mb_B D Y (([] : va_W)) sz)) (va_Qi K (fun u t => mb_T D (va_A (([] : va_W)) sz) ([]) t) (va_A (([] : va_W)) sz)) 0 0 (va_A (([] : va_W)) sz) := by
  refine mb_begin (cc := cX8_in) (maxL := 3) (ret := (some .boolean)) (by decide +kernel) rfl (Nat.le_of_ble_eq_true rfl) ?_
  intro p e s m below meth c ls C hsz hnm hP hD hl
  generalize hAe : va_A (([] : va_W)) sz = A at C hD ⊢
  have C : mb_Cx p s m meth c ([.int x0, .int x1, .int x2] : List Value).toArray cX8_in 3 (some .boolean) wsX8_in RX8 D Y A := C
  obtain ⟨hx, hb, hr, hml, hts, hown, hlocks, hA, hG⟩ := id C
  have hK := hG.1
  have hS : va_S A s.heap s.heap [] := va_S.rf
  have hl : lv_has ls 3 [(0, .int x0), (1, .int x1), (2, .int x2)] := hl
  refine lv_iload_n hx hb dX8_in_0 rfl (lv_at hl 0 rfl) ?_
  refine lv_iload_n hx hb dX8_in_1 rfl (lv_at hl 1 rfl) ?_
  refine lv_icmp_lt (tgt := 14) hx hb dX8_in_2 (by decide) (fun c_2 => ?_) (fun c_2 => ?_)
  · have hF := hF.1 c_2
    refine lv_iconst (v := 0) hx hb dX8_in_14 (by decide) ?_
    exact mb_ri (wf := fun u => []) C rfl (u := ()) hF hP hD hS dX8_in_15 (Nat.le_of_ble_eq_true rfl) (Nat.le_of_ble_eq_true rfl)
  · have hF := hF.2 c_2
    refine lv_iload_n hx hb dX8_in_5 rfl (lv_at hl 0 rfl) ?_
    refine lv_iload_n hx hb dX8_in_6 rfl (lv_at hl 2 rfl) ?_
    refine lv_icmp_gt (tgt := 14) hx hb dX8_in_7 (by decide) (fun c_7 => ?_) (fun c_7 => ?_)
    · have hF := hF.1 c_7
      refine lv_iconst (v := 0) hx hb dX8_in_14 (by decide) ?_
      exact mb_ri (wf := fun u => []) C rfl (u := ()) hF hP hD hS dX8_in_15 (Nat.le_of_ble_eq_true rfl) (Nat.le_of_ble_eq_true rfl)
    · have hF := hF.2 c_7
      refine lv_iconst (v := 1) hx hb dX8_in_10 (by decide) ?_
      refine lv_goto (tgt := 15) hx hb dX8_in_11 (by decide) ?_
      exact mb_ri (wf := fun u => []) C rfl (u := ()) hF hP hD hS dX8_in_15 (Nat.le_of_ble_eq_true rfl) (Nat.le_of_ble_eq_true rfl)
end
section
noncomputable def PX8_isEdge (N : Nat) (x0 : Int32) (K : Int32 → Unit → Prop) : Prop := PX8_in N x0 (0 : Int32) (7 : Int32) (fun r4 _ => mb_isB r4 ∧ (K r4 ()))
set_option maxHeartbeats 4000000 in
set_option maxRecDepth 100000 in
theorem cnX8_isEdge (l : Launch) (D : va_G) (Y : Nat → ClassId) (N : Nat) (sz : Nat) (x0 : Int32) (K : Int32 → Unit → Prop) (hF : PX8_isEdge N x0 K) : Met l yX8_isEdge wsX8_isEdge ({ frames := 1, cells := 0, slots := 0, locals := 22 } : Room) (va_Pc [.int x0] (mb_B D Y (([] : va_W)) sz)) (va_Qi K (fun u t => mb_T D (va_A (([] : va_W)) sz) ([]) t) (va_A (([] : va_W)) sz)) 0 0 (va_A (([] : va_W)) sz) := by
  refine mb_begin (cc := cX8_isEdge) (maxL := 1) (ret := (some .boolean)) (by decide +kernel) rfl (Nat.le_of_ble_eq_true rfl) ?_
  intro p e s m below meth c ls C hsz hnm hP hD hl
  generalize hAe : va_A (([] : va_W)) sz = A at C hD ⊢
  have C : mb_Cx p s m meth c ([.int x0] : List Value).toArray cX8_isEdge 1 (some .boolean) wsX8_isEdge RX8 D Y A := C
  obtain ⟨hx, hb, hr, hml, hts, hown, hlocks, hA, hG⟩ := id C
  have hK := hG.1
  have hS : va_S A s.heap s.heap [] := va_S.rf
  have hl : lv_has ls 1 [(0, .int x0)] := hl
  refine lv_iload_n hx hb dX8_isEdge_0 rfl (lv_at hl 0 rfl) ?_
  refine lv_iconst (v := 0) hx hb dX8_isEdge_1 (by decide) ?_
  refine lv_bipush (v := 7) hx hb dX8_isEdge_2 (by decide) ?_
  refine mb_cE hP hS hA (va_runS (As := [.int x0, .int (0 : Int32), .int (7 : Int32)]) (rest := []) ⟨hx, hb, hml, hown, hts⟩ (cnX8_in l D Y N _ x0 (0 : Int32) (7 : Int32) _ hF) (va_cwS 3 hts gX8_isEdge_X8_in rfl rfl rfl (by decide +kernel) ⟨Nat.le_of_ble_eq_true rfl, Nat.le_of_ble_eq_true rfl⟩) (mb_preS (A := A) hG mb_P0 mb_D0) rfl rfl hl.1 rfl (lv_room (Nat.le_of_ble_eq_true rfl)) dX8_isEdge_4 ⟨Nat.le_of_ble_eq_true rfl, Nat.le_of_ble_eq_true rfl⟩) (fun r4 H locs hF hP hS => ?_)
  obtain ⟨hz7, hF⟩ := hF
  exact mb_ri (wf := fun u => []) C (mb_isB_n hz7) (u := ()) hF hP hD hS dX8_isEdge_7 (Nat.le_of_ble_eq_true rfl) (Nat.le_of_ble_eq_true rfl)
end
section
noncomputable def PX8_order (N : Nat) (x0 x1 x2 : Int32) (K : Int32 → Unit → Prop) : Prop := ∀ v6 : Int32, v6 = ((x0 - x0 / (8 : Int32) * (8 : Int32)) - x1) → (∀ v13 : Int32, v13 = ((x0 / (8 : Int32)) - x2) → (K (((64 : Int32) * ((v6 * v6) + (v13 * v13))) + x0) ()))
set_option maxHeartbeats 4000000 in
set_option maxRecDepth 100000 in
theorem cnX8_order (l : Launch) (D : va_G) (Y : Nat → ClassId) (N : Nat) (sz : Nat) (x0 x1 x2 : Int32) (K : Int32 → Unit → Prop) (hF : PX8_order N x0 x1 x2 K) : Met l yX8_order wsX8_order ({ frames := 0, cells := 0, slots := 0, locals := 0 } : Room) (va_Pc [.int x0, .int x1, .int x2] (mb_B D Y (([] : va_W)) sz)) (va_Qi K (fun u t => mb_T D (va_A (([] : va_W)) sz) ([]) t) (va_A (([] : va_W)) sz)) 0 0 (va_A (([] : va_W)) sz) := by
  refine mb_begin (cc := cX8_order) (maxL := 5) (ret := (some .int)) (by decide +kernel) rfl (Nat.le_of_ble_eq_true rfl) ?_
  intro p e s m below meth c ls C hsz hnm hP hD hl
  generalize hAe : va_A (([] : va_W)) sz = A at C hD ⊢
  have C : mb_Cx p s m meth c ([.int x0, .int x1, .int x2] : List Value).toArray cX8_order 5 (some .int) wsX8_order RX8 D Y A := C
  obtain ⟨hx, hb, hr, hml, hts, hown, hlocks, hA, hG⟩ := id C
  have hK := hG.1
  have hS : va_S A s.heap s.heap [] := va_S.rf
  have hl : lv_has ls 5 [(0, .int x0), (1, .int x1), (2, .int x2)] := hl
  refine lv_iload_n hx hb dX8_order_0 rfl (lv_at hl 0 rfl) ?_
  refine lv_bipush (v := 8) hx hb dX8_order_1 (by decide) ?_
  refine lv_irem hx hb dX8_order_3 (by decide) ?_
  refine lv_iload_n hx hb dX8_order_4 rfl (lv_at hl 1 rfl) ?_
  refine lv_isub hx hb dX8_order_5 ?_
  refine lv_topi (fun v6 ev6 => ?_)
  have hF := hF v6 ev6
  refine lv_istore_n (lv' := [(3, .int v6), (0, .int x0), (1, .int x1), (2, .int x2)]) hx hb dX8_order_6 rfl hl (by decide) rfl (fun ls hl => ?_)
  refine lv_iload_n hx hb dX8_order_7 rfl (lv_at hl 1 rfl) ?_
  refine lv_bipush (v := 8) hx hb dX8_order_8 (by decide) ?_
  refine lv_idiv hx hb dX8_order_10 (by decide) ?_
  refine lv_iload_n hx hb dX8_order_11 rfl (lv_at hl 3 rfl) ?_
  refine lv_isub hx hb dX8_order_12 ?_
  refine lv_topi (fun v13 ev13 => ?_)
  have hF := hF v13 ev13
  refine lv_istore (lv' := [(4, .int v13), (3, .int v6), (0, .int x0), (1, .int x1), (2, .int x2)]) hx hb dX8_order_13 hl (by decide) rfl (fun ls hl => ?_)
  refine lv_bipush (v := 64) hx hb dX8_order_15 (by decide) ?_
  refine lv_iload_n hx hb dX8_order_17 rfl (lv_at hl 1 rfl) ?_
  refine lv_iload_n hx hb dX8_order_18 rfl (lv_at hl 1 rfl) ?_
  refine lv_imul hx hb dX8_order_19 ?_
  refine lv_iload hx hb dX8_order_20 (lv_at hl 0 rfl) ?_
  refine lv_iload hx hb dX8_order_22 (lv_at hl 0 rfl) ?_
  refine lv_imul hx hb dX8_order_24 ?_
  refine lv_iadd hx hb dX8_order_25 ?_
  refine lv_imul hx hb dX8_order_26 ?_
  refine lv_iload_n hx hb dX8_order_27 rfl (lv_at hl 2 rfl) ?_
  refine lv_iadd hx hb dX8_order_28 ?_
  exact mb_ri (wf := fun u => []) C rfl (u := ()) hF hP hD hS dX8_order_29 (Nat.le_of_ble_eq_true rfl) (Nat.le_of_ble_eq_true rfl)
end
section
noncomputable def PX8_cellIn (N : Nat) (x0 x1 x2 : Int32) (K : Int32 → Unit → Prop) : Prop := (x0 = 0 → K (((8 : Int32) * x2) + x1) ()) ∧ (¬ x0 = 0 → K (((8 : Int32) * x1) + x2) ())
set_option maxHeartbeats 4000000 in
set_option maxRecDepth 100000 in
theorem cnX8_cellIn (l : Launch) (D : va_G) (Y : Nat → ClassId) (N : Nat) (sz : Nat) (x0 x1 x2 : Int32) (K : Int32 → Unit → Prop) (hF : PX8_cellIn N x0 x1 x2 K) : Met l yX8_cellIn wsX8_cellIn ({ frames := 0, cells := 0, slots := 0, locals := 0 } : Room) (va_Pc [.int x0, .int x1, .int x2] (mb_B D Y (([] : va_W)) sz)) (va_Qi K (fun u t => mb_T D (va_A (([] : va_W)) sz) ([]) t) (va_A (([] : va_W)) sz)) 0 0 (va_A (([] : va_W)) sz) := by
  refine mb_begin (cc := cX8_cellIn) (maxL := 3) (ret := (some .int)) (by decide +kernel) rfl (Nat.le_of_ble_eq_true rfl) ?_
  intro p e s m below meth c ls C hsz hnm hP hD hl
  generalize hAe : va_A (([] : va_W)) sz = A at C hD ⊢
  have C : mb_Cx p s m meth c ([.int x0, .int x1, .int x2] : List Value).toArray cX8_cellIn 3 (some .int) wsX8_cellIn RX8 D Y A := C
  obtain ⟨hx, hb, hr, hml, hts, hown, hlocks, hA, hG⟩ := id C
  have hK := hG.1
  have hS : va_S A s.heap s.heap [] := va_S.rf
  have hl : lv_has ls 3 [(0, .int x0), (1, .int x1), (2, .int x2)] := hl
  refine lv_iload_n hx hb dX8_cellIn_0 rfl (lv_at hl 0 rfl) ?_
  refine lv_if_eq (tgt := 13) hx hb dX8_cellIn_1 (by decide) (fun c_1 => ?_) (fun c_1 => ?_)
  · have hF := hF.1 c_1
    refine lv_bipush (v := 8) hx hb dX8_cellIn_13 (by decide) ?_
    refine lv_iload_n hx hb dX8_cellIn_15 rfl (lv_at hl 2 rfl) ?_
    refine lv_imul hx hb dX8_cellIn_16 ?_
    refine lv_iload_n hx hb dX8_cellIn_17 rfl (lv_at hl 1 rfl) ?_
    refine lv_iadd hx hb dX8_cellIn_18 ?_
    exact mb_ri (wf := fun u => []) C rfl (u := ()) hF hP hD hS dX8_cellIn_19 (Nat.le_of_ble_eq_true rfl) (Nat.le_of_ble_eq_true rfl)
  · have hF := hF.2 c_1
    refine lv_bipush (v := 8) hx hb dX8_cellIn_4 (by decide) ?_
    refine lv_iload_n hx hb dX8_cellIn_6 rfl (lv_at hl 1 rfl) ?_
    refine lv_imul hx hb dX8_cellIn_7 ?_
    refine lv_iload_n hx hb dX8_cellIn_8 rfl (lv_at hl 2 rfl) ?_
    refine lv_iadd hx hb dX8_cellIn_9 ?_
    refine lv_goto (tgt := 19) hx hb dX8_cellIn_10 (by decide) ?_
    exact mb_ri (wf := fun u => []) C rfl (u := ()) hF hP hD hS dX8_cellIn_19 (Nat.le_of_ble_eq_true rfl) (Nat.le_of_ble_eq_true rfl)
end
section
noncomputable def PX8_columnsOf (N : Nat) (x0 : Int32) (K : Int32 → Unit → Prop) : Prop := ((3 : Int32) ≤ x0 → K (4 : Int32) ()) ∧ (¬ (3 : Int32) ≤ x0 → K (2 : Int32) ())
set_option maxHeartbeats 4000000 in
set_option maxRecDepth 100000 in
theorem cnX8_columnsOf (l : Launch) (D : va_G) (Y : Nat → ClassId) (N : Nat) (sz : Nat) (x0 : Int32) (K : Int32 → Unit → Prop) (hF : PX8_columnsOf N x0 K) : Met l yX8_columnsOf wsX8_columnsOf ({ frames := 0, cells := 0, slots := 0, locals := 0 } : Room) (va_Pc [.int x0] (mb_B D Y (([] : va_W)) sz)) (va_Qi K (fun u t => mb_T D (va_A (([] : va_W)) sz) ([]) t) (va_A (([] : va_W)) sz)) 0 0 (va_A (([] : va_W)) sz) := by
  refine mb_begin (cc := cX8_columnsOf) (maxL := 1) (ret := (some .int)) (by decide +kernel) rfl (Nat.le_of_ble_eq_true rfl) ?_
  intro p e s m below meth c ls C hsz hnm hP hD hl
  generalize hAe : va_A (([] : va_W)) sz = A at C hD ⊢
  have C : mb_Cx p s m meth c ([.int x0] : List Value).toArray cX8_columnsOf 1 (some .int) wsX8_columnsOf RX8 D Y A := C
  obtain ⟨hx, hb, hr, hml, hts, hown, hlocks, hA, hG⟩ := id C
  have hK := hG.1
  have hS : va_S A s.heap s.heap [] := va_S.rf
  have hl : lv_has ls 1 [(0, .int x0)] := hl
  refine lv_iload_n hx hb dX8_columnsOf_0 rfl (lv_at hl 0 rfl) ?_
  refine lv_iconst (v := 3) hx hb dX8_columnsOf_1 (by decide) ?_
  refine lv_icmp_ge (tgt := 9) hx hb dX8_columnsOf_2 (by decide) (fun c_2 => ?_) (fun c_2 => ?_)
  · have hF := hF.1 c_2
    refine lv_iconst (v := 4) hx hb dX8_columnsOf_9 (by decide) ?_
    exact mb_ri (wf := fun u => []) C rfl (u := ()) hF hP hD hS dX8_columnsOf_10 (Nat.le_of_ble_eq_true rfl) (Nat.le_of_ble_eq_true rfl)
  · have hF := hF.2 c_2
    refine lv_iconst (v := 2) hx hb dX8_columnsOf_5 (by decide) ?_
    refine lv_goto (tgt := 10) hx hb dX8_columnsOf_6 (by decide) ?_
    exact mb_ri (wf := fun u => []) C rfl (u := ()) hF hP hD hS dX8_columnsOf_10 (Nat.le_of_ble_eq_true rfl) (Nat.le_of_ble_eq_true rfl)
end
section
noncomputable def PX8_rowsOf (N : Nat) (x0 : Int32) (K : Int32 → Unit → Prop) : Prop := (¬ x0 = (1 : Int32) → ((4 : Int32) ≤ x0 → K (4 : Int32) ()) ∧ (¬ (4 : Int32) ≤ x0 → K (2 : Int32) ())) ∧ (x0 = (1 : Int32) → K (1 : Int32) ())
set_option maxHeartbeats 4000000 in
set_option maxRecDepth 100000 in
theorem cnX8_rowsOf (l : Launch) (D : va_G) (Y : Nat → ClassId) (N : Nat) (sz : Nat) (x0 : Int32) (K : Int32 → Unit → Prop) (hF : PX8_rowsOf N x0 K) : Met l yX8_rowsOf wsX8_rowsOf ({ frames := 0, cells := 0, slots := 0, locals := 0 } : Room) (va_Pc [.int x0] (mb_B D Y (([] : va_W)) sz)) (va_Qi K (fun u t => mb_T D (va_A (([] : va_W)) sz) ([]) t) (va_A (([] : va_W)) sz)) 0 0 (va_A (([] : va_W)) sz) := by
  refine mb_begin (cc := cX8_rowsOf) (maxL := 1) (ret := (some .int)) (by decide +kernel) rfl (Nat.le_of_ble_eq_true rfl) ?_
  intro p e s m below meth c ls C hsz hnm hP hD hl
  generalize hAe : va_A (([] : va_W)) sz = A at C hD ⊢
  have C : mb_Cx p s m meth c ([.int x0] : List Value).toArray cX8_rowsOf 1 (some .int) wsX8_rowsOf RX8 D Y A := C
  obtain ⟨hx, hb, hr, hml, hts, hown, hlocks, hA, hG⟩ := id C
  have hK := hG.1
  have hS : va_S A s.heap s.heap [] := va_S.rf
  have hl : lv_has ls 1 [(0, .int x0)] := hl
  refine lv_iload_n hx hb dX8_rowsOf_0 rfl (lv_at hl 0 rfl) ?_
  refine lv_iconst (v := 1) hx hb dX8_rowsOf_1 (by decide) ?_
  refine lv_icmp_ne (tgt := 9) hx hb dX8_rowsOf_2 (by decide) (fun c_2 => ?_) (fun c_2 => ?_)
  · have hF := hF.1 c_2
    refine lv_iload_n hx hb dX8_rowsOf_9 rfl (lv_at hl 0 rfl) ?_
    refine lv_iconst (v := 4) hx hb dX8_rowsOf_10 (by decide) ?_
    refine lv_icmp_ge (tgt := 18) hx hb dX8_rowsOf_11 (by decide) (fun c_11 => ?_) (fun c_11 => ?_)
    · have hF := hF.1 c_11
      refine lv_iconst (v := 4) hx hb dX8_rowsOf_18 (by decide) ?_
      exact mb_ri (wf := fun u => []) C rfl (u := ()) hF hP hD hS dX8_rowsOf_19 (Nat.le_of_ble_eq_true rfl) (Nat.le_of_ble_eq_true rfl)
    · have hF := hF.2 c_11
      refine lv_iconst (v := 2) hx hb dX8_rowsOf_14 (by decide) ?_
      refine lv_goto (tgt := 19) hx hb dX8_rowsOf_15 (by decide) ?_
      exact mb_ri (wf := fun u => []) C rfl (u := ()) hF hP hD hS dX8_rowsOf_19 (Nat.le_of_ble_eq_true rfl) (Nat.le_of_ble_eq_true rfl)
  · have hF := hF.2 c_2
    refine lv_iconst (v := 1) hx hb dX8_rowsOf_5 (by decide) ?_
    refine lv_goto (tgt := 19) hx hb dX8_rowsOf_6 (by decide) ?_
    exact mb_ri (wf := fun u => []) C rfl (u := ()) hF hP hD hS dX8_rowsOf_19 (Nat.le_of_ble_eq_true rfl) (Nat.le_of_ble_eq_true rfl)
end
section
noncomputable def PX8_layerOf_195 (N : Nat) (K : Int32 → Unit → Prop) (b29 : Int32 → Int32 → Int32 → Int32 → Int32 → Int32 → Int32 → Int32 → Int32 → Prop) (x0 x3 x4 x5 x7 x8 x9 x10 y0 : Int32) : Prop := ∀ v201 : Int32, v201 = (x8 * (2 : Int32)) → (∀ v203 : Int32, v203 = x10 + (1 : Int32) → (b29 x0 x3 x4 x5 y0 x7 v201 x9 v203))
set_option maxHeartbeats 4000000 in
set_option maxRecDepth 100000 in
theorem wX8_layerOf_195 {p : Program} {l : Launch} {e : Env} {s : State} {m : MethodId} {below : List Frame} {meth : Method} {c : Code} {args : Array Value} {D : va_G} {Y : Nat → ClassId} {A : Nat → Prop} {N : Nat} {K : Int32 → Unit → Prop} {b29 : Int32 → Int32 → Int32 → Int32 → Int32 → Int32 → Int32 → Int32 → Int32 → Prop} (C : mb_Cx p s m meth c args cX8_layerOf 12 (some .int) wsX8_layerOf RX8 D Y A) (hb29 : ∀ (x0 x3 x4 x5 x6 x7 x8 x9 x10 : Int32) (H : Heap) (locs : List Loc) (ls : Array Slot), b29 x0 x3 x4 x5 x6 x7 x8 x9 x10 → va_P D vwCl (([] : va_W)) H → va_D A (([] : va_W)) → va_S A s.heap H locs → lv_has ls 12 [(0, .int x0), (3, .int x3), (4, .int x4), (5, .int x5), (6, .int x6), (7, .int x7), (8, .int x8), (9, .int x9), (10, .int x10)] → W p l e ({ frames := 1, cells := 0, slots := 0, locals := 20 } : Room) s m args below meth c H locs 0 0 (MQ below (va_Qi K (fun u t => mb_T D A ([]) t) A) args s 0 0 A) (F0 m 29 ls [])) : ∀ (x0 x3 x4 x5 x7 x8 x9 x10 y0 : Int32) (H : Heap) (locs : List Loc) (ls : Array Slot), PX8_layerOf_195 N K b29 x0 x3 x4 x5 x7 x8 x9 x10 y0 → va_P D vwCl (([] : va_W)) H → va_D A (([] : va_W)) → va_S A s.heap H locs → lv_has ls 12 [(0, .int x0), (3, .int x3), (4, .int x4), (5, .int x5), (7, .int x7), (8, .int x8), (9, .int x9), (10, .int x10)] → W p l e ({ frames := 1, cells := 0, slots := 0, locals := 20 } : Room) s m args below meth c H locs 0 0 (MQ below (va_Qi K (fun u t => mb_T D A ([]) t) A) args s 0 0 A) (F0 m 195 ls [.int y0]) := by
  obtain ⟨hx, hb, hr, hml, hts, hown, hlocks, hA, hG⟩ := id C
  have hK := hG.1
  intro x0 x3 x4 x5 x7 x8 x9 x10 y0 H locs ls hF hP hD hS hl
  refine lv_istore (lv' := [(6, .int y0), (0, .int x0), (3, .int x3), (4, .int x4), (5, .int x5), (7, .int x7), (8, .int x8), (9, .int x9), (10, .int x10)]) hx hb dX8_layerOf_195 hl (by decide) rfl (fun ls hl => ?_)
  refine lv_iload hx hb dX8_layerOf_197 (lv_at hl 6 rfl) ?_
  refine lv_iconst (v := 2) hx hb dX8_layerOf_199 (by decide) ?_
  refine lv_imul hx hb dX8_layerOf_200 ?_
  refine lv_topi (fun v201 ev201 => ?_)
  have hF := hF v201 ev201
  refine lv_istore (lv' := [(8, .int v201), (6, .int y0), (0, .int x0), (3, .int x3), (4, .int x4), (5, .int x5), (7, .int x7), (9, .int x9), (10, .int x10)]) hx hb dX8_layerOf_201 hl (by decide) rfl (fun ls hl => ?_)
  obtain ⟨v203, ev203⟩ : ∃ y : Int32, y = x10 + (1 : Int32) := ⟨_, rfl⟩
  have hF := hF v203 ev203
  refine lv_iinc (v := v203) (lv' := [(10, .int v203), (8, .int v201), (6, .int y0), (0, .int x0), (3, .int x3), (4, .int x4), (5, .int x5), (7, .int x7), (9, .int x9)]) hx hb dX8_layerOf_203 hl (k := 8) rfl (by rw [ev203]; rfl) (by decide) rfl (fun ls hl => ?_)
  refine lv_goto (tgt := 29) hx hb dX8_layerOf_206 (by decide) ?_
  exact hb29 x0 x3 x4 x5 y0 x7 v201 x9 v203 _ _ _ hF hP hD hS (lv_sub hl [3, 4, 5, 6, 2, 7, 1, 8, 0] rfl)
noncomputable def PX8_layerOf_176 (N : Nat) (K : Int32 → Unit → Prop) (b29 : Int32 → Int32 → Int32 → Int32 → Int32 → Int32 → Int32 → Int32 → Int32 → Prop) (x0 x3 x4 x6 x7 x8 x9 x10 y0 : Int32) : Prop := (¬ (x10 - x10 / (2 : Int32) * (2 : Int32)) = (1 : Int32) → PX8_layerOf_195 N K b29 x0 x3 x4 y0 x7 x8 x9 x10 x6) ∧ ((x10 - x10 / (2 : Int32) * (2 : Int32)) = (1 : Int32) → PX8_layerOf_195 N K b29 x0 x3 x4 y0 x7 x8 x9 x10 (x6 / (2 : Int32)))
set_option maxHeartbeats 4000000 in
set_option maxRecDepth 100000 in
theorem wX8_layerOf_176 {p : Program} {l : Launch} {e : Env} {s : State} {m : MethodId} {below : List Frame} {meth : Method} {c : Code} {args : Array Value} {D : va_G} {Y : Nat → ClassId} {A : Nat → Prop} {N : Nat} {K : Int32 → Unit → Prop} {b29 : Int32 → Int32 → Int32 → Int32 → Int32 → Int32 → Int32 → Int32 → Int32 → Prop} (C : mb_Cx p s m meth c args cX8_layerOf 12 (some .int) wsX8_layerOf RX8 D Y A) (hb29 : ∀ (x0 x3 x4 x5 x6 x7 x8 x9 x10 : Int32) (H : Heap) (locs : List Loc) (ls : Array Slot), b29 x0 x3 x4 x5 x6 x7 x8 x9 x10 → va_P D vwCl (([] : va_W)) H → va_D A (([] : va_W)) → va_S A s.heap H locs → lv_has ls 12 [(0, .int x0), (3, .int x3), (4, .int x4), (5, .int x5), (6, .int x6), (7, .int x7), (8, .int x8), (9, .int x9), (10, .int x10)] → W p l e ({ frames := 1, cells := 0, slots := 0, locals := 20 } : Room) s m args below meth c H locs 0 0 (MQ below (va_Qi K (fun u t => mb_T D A ([]) t) A) args s 0 0 A) (F0 m 29 ls [])) : ∀ (x0 x3 x4 x6 x7 x8 x9 x10 y0 : Int32) (H : Heap) (locs : List Loc) (ls : Array Slot), PX8_layerOf_176 N K b29 x0 x3 x4 x6 x7 x8 x9 x10 y0 → va_P D vwCl (([] : va_W)) H → va_D A (([] : va_W)) → va_S A s.heap H locs → lv_has ls 12 [(0, .int x0), (3, .int x3), (4, .int x4), (6, .int x6), (7, .int x7), (8, .int x8), (9, .int x9), (10, .int x10)] → W p l e ({ frames := 1, cells := 0, slots := 0, locals := 20 } : Room) s m args below meth c H locs 0 0 (MQ below (va_Qi K (fun u t => mb_T D A ([]) t) A) args s 0 0 A) (F0 m 176 ls [.int y0]) := by
  obtain ⟨hx, hb, hr, hml, hts, hown, hlocks, hA, hG⟩ := id C
  have hK := hG.1
  intro x0 x3 x4 x6 x7 x8 x9 x10 y0 H locs ls hF hP hD hS hl
  refine lv_istore (lv' := [(5, .int y0), (0, .int x0), (3, .int x3), (4, .int x4), (6, .int x6), (7, .int x7), (8, .int x8), (9, .int x9), (10, .int x10)]) hx hb dX8_layerOf_176 hl (by decide) rfl (fun ls hl => ?_)
  refine lv_iload hx hb dX8_layerOf_178 (lv_at hl 8 rfl) ?_
  refine lv_iconst (v := 2) hx hb dX8_layerOf_180 (by decide) ?_
  refine lv_irem hx hb dX8_layerOf_181 (by decide) ?_
  refine lv_iconst (v := 1) hx hb dX8_layerOf_182 (by decide) ?_
  refine lv_icmp_ne (tgt := 193) hx hb dX8_layerOf_183 (by decide) (fun c_183 => ?_) (fun c_183 => ?_)
  · have hF := hF.1 c_183
    refine lv_iload hx hb dX8_layerOf_193 (lv_at hl 4 rfl) ?_
    exact wX8_layerOf_195 C hb29 x0 x3 x4 y0 x7 x8 x9 x10 x6 _ _ _ hF hP hD hS (lv_sub hl [1, 2, 3, 0, 5, 6, 7, 8] rfl)
  · have hF := hF.2 c_183
    refine lv_iload hx hb dX8_layerOf_186 (lv_at hl 4 rfl) ?_
    refine lv_iconst (v := 2) hx hb dX8_layerOf_188 (by decide) ?_
    refine lv_idiv hx hb dX8_layerOf_189 (by decide) ?_
    refine lv_goto (tgt := 195) hx hb dX8_layerOf_190 (by decide) ?_
    exact wX8_layerOf_195 C hb29 x0 x3 x4 y0 x7 x8 x9 x10 (x6 / (2 : Int32)) _ _ _ hF hP hD hS (lv_sub hl [1, 2, 3, 0, 5, 6, 7, 8] rfl)
noncomputable def PX8_layerOf_158 (N : Nat) (K : Int32 → Unit → Prop) (b29 : Int32 → Int32 → Int32 → Int32 → Int32 → Int32 → Int32 → Int32 → Int32 → Prop) (x0 x3 x4 x5 x6 x7 x8 x10 y0 : Int32) : Prop := (¬ (x10 - x10 / (2 : Int32) * (2 : Int32)) = 0 → PX8_layerOf_176 N K b29 x0 x3 x4 x6 x7 x8 y0 x10 x5) ∧ ((x10 - x10 / (2 : Int32) * (2 : Int32)) = 0 → PX8_layerOf_176 N K b29 x0 x3 x4 x6 x7 x8 y0 x10 (x5 / (2 : Int32)))
set_option maxHeartbeats 4000000 in
set_option maxRecDepth 100000 in
theorem wX8_layerOf_158 {p : Program} {l : Launch} {e : Env} {s : State} {m : MethodId} {below : List Frame} {meth : Method} {c : Code} {args : Array Value} {D : va_G} {Y : Nat → ClassId} {A : Nat → Prop} {N : Nat} {K : Int32 → Unit → Prop} {b29 : Int32 → Int32 → Int32 → Int32 → Int32 → Int32 → Int32 → Int32 → Int32 → Prop} (C : mb_Cx p s m meth c args cX8_layerOf 12 (some .int) wsX8_layerOf RX8 D Y A) (hb29 : ∀ (x0 x3 x4 x5 x6 x7 x8 x9 x10 : Int32) (H : Heap) (locs : List Loc) (ls : Array Slot), b29 x0 x3 x4 x5 x6 x7 x8 x9 x10 → va_P D vwCl (([] : va_W)) H → va_D A (([] : va_W)) → va_S A s.heap H locs → lv_has ls 12 [(0, .int x0), (3, .int x3), (4, .int x4), (5, .int x5), (6, .int x6), (7, .int x7), (8, .int x8), (9, .int x9), (10, .int x10)] → W p l e ({ frames := 1, cells := 0, slots := 0, locals := 20 } : Room) s m args below meth c H locs 0 0 (MQ below (va_Qi K (fun u t => mb_T D A ([]) t) A) args s 0 0 A) (F0 m 29 ls [])) : ∀ (x0 x3 x4 x5 x6 x7 x8 x10 y0 : Int32) (H : Heap) (locs : List Loc) (ls : Array Slot), PX8_layerOf_158 N K b29 x0 x3 x4 x5 x6 x7 x8 x10 y0 → va_P D vwCl (([] : va_W)) H → va_D A (([] : va_W)) → va_S A s.heap H locs → lv_has ls 12 [(0, .int x0), (3, .int x3), (4, .int x4), (5, .int x5), (6, .int x6), (7, .int x7), (8, .int x8), (10, .int x10)] → W p l e ({ frames := 1, cells := 0, slots := 0, locals := 20 } : Room) s m args below meth c H locs 0 0 (MQ below (va_Qi K (fun u t => mb_T D A ([]) t) A) args s 0 0 A) (F0 m 158 ls [.int y0]) := by
  obtain ⟨hx, hb, hr, hml, hts, hown, hlocks, hA, hG⟩ := id C
  have hK := hG.1
  intro x0 x3 x4 x5 x6 x7 x8 x10 y0 H locs ls hF hP hD hS hl
  refine lv_istore (lv' := [(9, .int y0), (0, .int x0), (3, .int x3), (4, .int x4), (5, .int x5), (6, .int x6), (7, .int x7), (8, .int x8), (10, .int x10)]) hx hb dX8_layerOf_158 hl (by decide) rfl (fun ls hl => ?_)
  refine lv_iload hx hb dX8_layerOf_160 (lv_at hl 8 rfl) ?_
  refine lv_iconst (v := 2) hx hb dX8_layerOf_162 (by decide) ?_
  refine lv_irem hx hb dX8_layerOf_163 (by decide) ?_
  refine lv_if_ne (tgt := 174) hx hb dX8_layerOf_164 (by decide) (fun c_164 => ?_) (fun c_164 => ?_)
  · have hF := hF.1 c_164
    refine lv_iload hx hb dX8_layerOf_174 (lv_at hl 4 rfl) ?_
    exact wX8_layerOf_176 C hb29 x0 x3 x4 x6 x7 x8 y0 x10 x5 _ _ _ hF hP hD hS (lv_sub hl [1, 2, 3, 5, 6, 7, 0, 8] rfl)
  · have hF := hF.2 c_164
    refine lv_iload hx hb dX8_layerOf_167 (lv_at hl 4 rfl) ?_
    refine lv_iconst (v := 2) hx hb dX8_layerOf_169 (by decide) ?_
    refine lv_idiv hx hb dX8_layerOf_170 (by decide) ?_
    refine lv_goto (tgt := 176) hx hb dX8_layerOf_171 (by decide) ?_
    exact wX8_layerOf_176 C hb29 x0 x3 x4 x6 x7 x8 y0 x10 (x5 / (2 : Int32)) _ _ _ hF hP hD hS (lv_sub hl [1, 2, 3, 5, 6, 7, 0, 8] rfl)
noncomputable def PX8_layerOf_144 (N : Nat) (K : Int32 → Unit → Prop) (b29 : Int32 → Int32 → Int32 → Int32 → Int32 → Int32 → Int32 → Int32 → Int32 → Prop) (x0 x3 x4 x5 x6 x8 x9 x10 x11 y0 : Int32) : Prop := (x11 = x9 → PX8_layerOf_158 N K b29 x0 x3 x4 x5 x6 y0 x8 x10 (0 : Int32)) ∧ (¬ x11 = x9 → PX8_layerOf_158 N K b29 x0 x3 x4 x5 x6 y0 x8 x10 (1 : Int32))
set_option maxHeartbeats 4000000 in
set_option maxRecDepth 100000 in
theorem wX8_layerOf_144 {p : Program} {l : Launch} {e : Env} {s : State} {m : MethodId} {below : List Frame} {meth : Method} {c : Code} {args : Array Value} {D : va_G} {Y : Nat → ClassId} {A : Nat → Prop} {N : Nat} {K : Int32 → Unit → Prop} {b29 : Int32 → Int32 → Int32 → Int32 → Int32 → Int32 → Int32 → Int32 → Int32 → Prop} (C : mb_Cx p s m meth c args cX8_layerOf 12 (some .int) wsX8_layerOf RX8 D Y A) (hb29 : ∀ (x0 x3 x4 x5 x6 x7 x8 x9 x10 : Int32) (H : Heap) (locs : List Loc) (ls : Array Slot), b29 x0 x3 x4 x5 x6 x7 x8 x9 x10 → va_P D vwCl (([] : va_W)) H → va_D A (([] : va_W)) → va_S A s.heap H locs → lv_has ls 12 [(0, .int x0), (3, .int x3), (4, .int x4), (5, .int x5), (6, .int x6), (7, .int x7), (8, .int x8), (9, .int x9), (10, .int x10)] → W p l e ({ frames := 1, cells := 0, slots := 0, locals := 20 } : Room) s m args below meth c H locs 0 0 (MQ below (va_Qi K (fun u t => mb_T D A ([]) t) A) args s 0 0 A) (F0 m 29 ls [])) : ∀ (x0 x3 x4 x5 x6 x8 x9 x10 x11 y0 : Int32) (H : Heap) (locs : List Loc) (ls : Array Slot), PX8_layerOf_144 N K b29 x0 x3 x4 x5 x6 x8 x9 x10 x11 y0 → va_P D vwCl (([] : va_W)) H → va_D A (([] : va_W)) → va_S A s.heap H locs → lv_has ls 12 [(0, .int x0), (3, .int x3), (4, .int x4), (5, .int x5), (6, .int x6), (8, .int x8), (9, .int x9), (10, .int x10), (11, .int x11)] → W p l e ({ frames := 1, cells := 0, slots := 0, locals := 20 } : Room) s m args below meth c H locs 0 0 (MQ below (va_Qi K (fun u t => mb_T D A ([]) t) A) args s 0 0 A) (F0 m 144 ls [.int y0]) := by
  obtain ⟨hx, hb, hr, hml, hts, hown, hlocks, hA, hG⟩ := id C
  have hK := hG.1
  intro x0 x3 x4 x5 x6 x8 x9 x10 x11 y0 H locs ls hF hP hD hS hl
  refine lv_istore (lv' := [(7, .int y0), (0, .int x0), (3, .int x3), (4, .int x4), (5, .int x5), (6, .int x6), (8, .int x8), (9, .int x9), (10, .int x10), (11, .int x11)]) hx hb dX8_layerOf_144 hl (by decide) rfl (fun ls hl => ?_)
  refine lv_iload hx hb dX8_layerOf_146 (lv_at hl 9 rfl) ?_
  refine lv_iload hx hb dX8_layerOf_148 (lv_at hl 7 rfl) ?_
  refine lv_icmp_eq (tgt := 157) hx hb dX8_layerOf_150 (by decide) (fun c_150 => ?_) (fun c_150 => ?_)
  · have hF := hF.1 c_150
    refine lv_iconst (v := 0) hx hb dX8_layerOf_157 (by decide) ?_
    exact wX8_layerOf_158 C hb29 x0 x3 x4 x5 x6 y0 x8 x10 (0 : Int32) _ _ _ hF hP hD hS (lv_sub hl [1, 2, 3, 4, 5, 0, 6, 8] rfl)
  · have hF := hF.2 c_150
    refine lv_iconst (v := 1) hx hb dX8_layerOf_153 (by decide) ?_
    refine lv_goto (tgt := 158) hx hb dX8_layerOf_154 (by decide) ?_
    exact wX8_layerOf_158 C hb29 x0 x3 x4 x5 x6 y0 x8 x10 (1 : Int32) _ _ _ hF hP hD hS (lv_sub hl [1, 2, 3, 4, 5, 0, 6, 8] rfl)
noncomputable def PX8_layerOf_122 (N : Nat) (K : Int32 → Unit → Prop) (b29 : Int32 → Int32 → Int32 → Int32 → Int32 → Int32 → Int32 → Int32 → Int32 → Prop) (x0 x3 x5 x6 x7 x8 x9 x10 x11 y0 : Int32) : Prop := (x11 = 0 → PX8_layerOf_144 N K b29 x0 x3 y0 x5 x6 x8 x9 x10 x11 (x8 + x7)) ∧ (¬ x11 = 0 → PX8_layerOf_144 N K b29 x0 x3 y0 x5 x6 x8 x9 x10 x11 ((x8 - (1 : Int32)) - x7))
set_option maxHeartbeats 4000000 in
set_option maxRecDepth 100000 in
theorem wX8_layerOf_122 {p : Program} {l : Launch} {e : Env} {s : State} {m : MethodId} {below : List Frame} {meth : Method} {c : Code} {args : Array Value} {D : va_G} {Y : Nat → ClassId} {A : Nat → Prop} {N : Nat} {K : Int32 → Unit → Prop} {b29 : Int32 → Int32 → Int32 → Int32 → Int32 → Int32 → Int32 → Int32 → Int32 → Prop} (C : mb_Cx p s m meth c args cX8_layerOf 12 (some .int) wsX8_layerOf RX8 D Y A) (hb29 : ∀ (x0 x3 x4 x5 x6 x7 x8 x9 x10 : Int32) (H : Heap) (locs : List Loc) (ls : Array Slot), b29 x0 x3 x4 x5 x6 x7 x8 x9 x10 → va_P D vwCl (([] : va_W)) H → va_D A (([] : va_W)) → va_S A s.heap H locs → lv_has ls 12 [(0, .int x0), (3, .int x3), (4, .int x4), (5, .int x5), (6, .int x6), (7, .int x7), (8, .int x8), (9, .int x9), (10, .int x10)] → W p l e ({ frames := 1, cells := 0, slots := 0, locals := 20 } : Room) s m args below meth c H locs 0 0 (MQ below (va_Qi K (fun u t => mb_T D A ([]) t) A) args s 0 0 A) (F0 m 29 ls [])) : ∀ (x0 x3 x5 x6 x7 x8 x9 x10 x11 y0 : Int32) (H : Heap) (locs : List Loc) (ls : Array Slot), PX8_layerOf_122 N K b29 x0 x3 x5 x6 x7 x8 x9 x10 x11 y0 → va_P D vwCl (([] : va_W)) H → va_D A (([] : va_W)) → va_S A s.heap H locs → lv_has ls 12 [(0, .int x0), (3, .int x3), (5, .int x5), (6, .int x6), (7, .int x7), (8, .int x8), (9, .int x9), (10, .int x10), (11, .int x11)] → W p l e ({ frames := 1, cells := 0, slots := 0, locals := 20 } : Room) s m args below meth c H locs 0 0 (MQ below (va_Qi K (fun u t => mb_T D A ([]) t) A) args s 0 0 A) (F0 m 122 ls [.int y0]) := by
  obtain ⟨hx, hb, hr, hml, hts, hown, hlocks, hA, hG⟩ := id C
  have hK := hG.1
  intro x0 x3 x5 x6 x7 x8 x9 x10 x11 y0 H locs ls hF hP hD hS hl
  refine lv_istore (lv' := [(4, .int y0), (0, .int x0), (3, .int x3), (5, .int x5), (6, .int x6), (7, .int x7), (8, .int x8), (9, .int x9), (10, .int x10), (11, .int x11)]) hx hb dX8_layerOf_122 hl (by decide) rfl (fun ls hl => ?_)
  refine lv_iload hx hb dX8_layerOf_124 (lv_at hl 9 rfl) ?_
  refine lv_if_eq (tgt := 139) hx hb dX8_layerOf_126 (by decide) (fun c_126 => ?_) (fun c_126 => ?_)
  · have hF := hF.1 c_126
    refine lv_iload hx hb dX8_layerOf_139 (lv_at hl 6 rfl) ?_
    refine lv_iload hx hb dX8_layerOf_141 (lv_at hl 5 rfl) ?_
    refine lv_iadd hx hb dX8_layerOf_143 ?_
    exact wX8_layerOf_144 C hb29 x0 x3 y0 x5 x6 x8 x9 x10 x11 (x8 + x7) _ _ _ hF hP hD hS (lv_sub hl [1, 2, 0, 3, 4, 6, 7, 8, 9] rfl)
  · have hF := hF.2 c_126
    refine lv_iload hx hb dX8_layerOf_129 (lv_at hl 6 rfl) ?_
    refine lv_iconst (v := 1) hx hb dX8_layerOf_131 (by decide) ?_
    refine lv_isub hx hb dX8_layerOf_132 ?_
    refine lv_iload hx hb dX8_layerOf_133 (lv_at hl 5 rfl) ?_
    refine lv_isub hx hb dX8_layerOf_135 ?_
    refine lv_goto (tgt := 144) hx hb dX8_layerOf_136 (by decide) ?_
    exact wX8_layerOf_144 C hb29 x0 x3 y0 x5 x6 x8 x9 x10 x11 ((x8 - (1 : Int32)) - x7) _ _ _ hF hP hD hS (lv_sub hl [1, 2, 0, 3, 4, 6, 7, 8, 9] rfl)
noncomputable def PX8_layerOf_120 (N : Nat) (K : Int32 → Unit → Prop) (b29 : Int32 → Int32 → Int32 → Int32 → Int32 → Int32 → Int32 → Int32 → Int32 → Prop) (x0 x3 x4 x5 x6 x7 x8 x9 x10 x11 : Int32) : Prop := PX8_layerOf_122 N K b29 x0 x3 x5 x6 x7 x8 x9 x10 x11 x4
set_option maxHeartbeats 4000000 in
set_option maxRecDepth 100000 in
theorem wX8_layerOf_120 {p : Program} {l : Launch} {e : Env} {s : State} {m : MethodId} {below : List Frame} {meth : Method} {c : Code} {args : Array Value} {D : va_G} {Y : Nat → ClassId} {A : Nat → Prop} {N : Nat} {K : Int32 → Unit → Prop} {b29 : Int32 → Int32 → Int32 → Int32 → Int32 → Int32 → Int32 → Int32 → Int32 → Prop} (C : mb_Cx p s m meth c args cX8_layerOf 12 (some .int) wsX8_layerOf RX8 D Y A) (hb29 : ∀ (x0 x3 x4 x5 x6 x7 x8 x9 x10 : Int32) (H : Heap) (locs : List Loc) (ls : Array Slot), b29 x0 x3 x4 x5 x6 x7 x8 x9 x10 → va_P D vwCl (([] : va_W)) H → va_D A (([] : va_W)) → va_S A s.heap H locs → lv_has ls 12 [(0, .int x0), (3, .int x3), (4, .int x4), (5, .int x5), (6, .int x6), (7, .int x7), (8, .int x8), (9, .int x9), (10, .int x10)] → W p l e ({ frames := 1, cells := 0, slots := 0, locals := 20 } : Room) s m args below meth c H locs 0 0 (MQ below (va_Qi K (fun u t => mb_T D A ([]) t) A) args s 0 0 A) (F0 m 29 ls [])) : ∀ (x0 x3 x4 x5 x6 x7 x8 x9 x10 x11 : Int32) (H : Heap) (locs : List Loc) (ls : Array Slot), PX8_layerOf_120 N K b29 x0 x3 x4 x5 x6 x7 x8 x9 x10 x11 → va_P D vwCl (([] : va_W)) H → va_D A (([] : va_W)) → va_S A s.heap H locs → lv_has ls 12 [(0, .int x0), (3, .int x3), (4, .int x4), (5, .int x5), (6, .int x6), (7, .int x7), (8, .int x8), (9, .int x9), (10, .int x10), (11, .int x11)] → W p l e ({ frames := 1, cells := 0, slots := 0, locals := 20 } : Room) s m args below meth c H locs 0 0 (MQ below (va_Qi K (fun u t => mb_T D A ([]) t) A) args s 0 0 A) (F0 m 120 ls []) := by
  obtain ⟨hx, hb, hr, hml, hts, hown, hlocks, hA, hG⟩ := id C
  have hK := hG.1
  intro x0 x3 x4 x5 x6 x7 x8 x9 x10 x11 H locs ls hF hP hD hS hl
  refine lv_iload hx hb dX8_layerOf_120 (lv_at hl 2 rfl) ?_
  exact wX8_layerOf_122 C hb29 x0 x3 x5 x6 x7 x8 x9 x10 x11 x4 _ _ _ hF hP hD hS (lv_sub hl [0, 1, 3, 4, 5, 6, 7, 8, 9] rfl)
noncomputable def PX8_layerOf_96 (N : Nat) (K : Int32 → Unit → Prop) (b29 : Int32 → Int32 → Int32 → Int32 → Int32 → Int32 → Int32 → Int32 → Int32 → Prop) (x0 x4 x5 x6 x7 x8 x9 x10 x11 y0 : Int32) : Prop := (x11 = 0 → PX8_layerOf_120 N K b29 x0 y0 x4 x5 x6 x7 x8 x9 x10 x11) ∧ (¬ x11 = 0 → (¬ (x10 - x10 / (2 : Int32) * (2 : Int32)) = (1 : Int32) → PX8_layerOf_120 N K b29 x0 y0 x4 x5 x6 x7 x8 x9 x10 x11) ∧ ((x10 - x10 / (2 : Int32) * (2 : Int32)) = (1 : Int32) → PX8_layerOf_122 N K b29 x0 y0 x5 x6 x7 x8 x9 x10 x11 ((x6 - (1 : Int32)) - x4)))
set_option maxHeartbeats 4000000 in
set_option maxRecDepth 100000 in
theorem wX8_layerOf_96 {p : Program} {l : Launch} {e : Env} {s : State} {m : MethodId} {below : List Frame} {meth : Method} {c : Code} {args : Array Value} {D : va_G} {Y : Nat → ClassId} {A : Nat → Prop} {N : Nat} {K : Int32 → Unit → Prop} {b29 : Int32 → Int32 → Int32 → Int32 → Int32 → Int32 → Int32 → Int32 → Int32 → Prop} (C : mb_Cx p s m meth c args cX8_layerOf 12 (some .int) wsX8_layerOf RX8 D Y A) (hb29 : ∀ (x0 x3 x4 x5 x6 x7 x8 x9 x10 : Int32) (H : Heap) (locs : List Loc) (ls : Array Slot), b29 x0 x3 x4 x5 x6 x7 x8 x9 x10 → va_P D vwCl (([] : va_W)) H → va_D A (([] : va_W)) → va_S A s.heap H locs → lv_has ls 12 [(0, .int x0), (3, .int x3), (4, .int x4), (5, .int x5), (6, .int x6), (7, .int x7), (8, .int x8), (9, .int x9), (10, .int x10)] → W p l e ({ frames := 1, cells := 0, slots := 0, locals := 20 } : Room) s m args below meth c H locs 0 0 (MQ below (va_Qi K (fun u t => mb_T D A ([]) t) A) args s 0 0 A) (F0 m 29 ls [])) : ∀ (x0 x4 x5 x6 x7 x8 x9 x10 x11 y0 : Int32) (H : Heap) (locs : List Loc) (ls : Array Slot), PX8_layerOf_96 N K b29 x0 x4 x5 x6 x7 x8 x9 x10 x11 y0 → va_P D vwCl (([] : va_W)) H → va_D A (([] : va_W)) → va_S A s.heap H locs → lv_has ls 12 [(0, .int x0), (4, .int x4), (5, .int x5), (6, .int x6), (7, .int x7), (8, .int x8), (9, .int x9), (10, .int x10), (11, .int x11)] → W p l e ({ frames := 1, cells := 0, slots := 0, locals := 20 } : Room) s m args below meth c H locs 0 0 (MQ below (va_Qi K (fun u t => mb_T D A ([]) t) A) args s 0 0 A) (F0 m 96 ls [.int y0]) := by
  obtain ⟨hx, hb, hr, hml, hts, hown, hlocks, hA, hG⟩ := id C
  have hK := hG.1
  intro x0 x4 x5 x6 x7 x8 x9 x10 x11 y0 H locs ls hF hP hD hS hl
  refine lv_istore_n (lv' := [(3, .int y0), (0, .int x0), (4, .int x4), (5, .int x5), (6, .int x6), (7, .int x7), (8, .int x8), (9, .int x9), (10, .int x10), (11, .int x11)]) hx hb dX8_layerOf_96 rfl hl (by decide) rfl (fun ls hl => ?_)
  refine lv_iload hx hb dX8_layerOf_97 (lv_at hl 9 rfl) ?_
  refine lv_if_eq (tgt := 120) hx hb dX8_layerOf_99 (by decide) (fun c_99 => ?_) (fun c_99 => ?_)
  · have hF := hF.1 c_99
    exact wX8_layerOf_120 C hb29 x0 y0 x4 x5 x6 x7 x8 x9 x10 x11 _ _ _ hF hP hD hS (lv_sub hl [1, 0, 2, 3, 4, 5, 6, 7, 8, 9] rfl)
  · have hF := hF.2 c_99
    refine lv_iload hx hb dX8_layerOf_102 (lv_at hl 8 rfl) ?_
    refine lv_iconst (v := 2) hx hb dX8_layerOf_104 (by decide) ?_
    refine lv_irem hx hb dX8_layerOf_105 (by decide) ?_
    refine lv_iconst (v := 1) hx hb dX8_layerOf_106 (by decide) ?_
    refine lv_icmp_ne (tgt := 120) hx hb dX8_layerOf_107 (by decide) (fun c_107 => ?_) (fun c_107 => ?_)
    · have hF := hF.1 c_107
      exact wX8_layerOf_120 C hb29 x0 y0 x4 x5 x6 x7 x8 x9 x10 x11 _ _ _ hF hP hD hS (lv_sub hl [1, 0, 2, 3, 4, 5, 6, 7, 8, 9] rfl)
    · have hF := hF.2 c_107
      refine lv_iload hx hb dX8_layerOf_110 (lv_at hl 4 rfl) ?_
      refine lv_iconst (v := 1) hx hb dX8_layerOf_112 (by decide) ?_
      refine lv_isub hx hb dX8_layerOf_113 ?_
      refine lv_iload hx hb dX8_layerOf_114 (lv_at hl 2 rfl) ?_
      refine lv_isub hx hb dX8_layerOf_116 ?_
      refine lv_goto (tgt := 122) hx hb dX8_layerOf_117 (by decide) ?_
      exact wX8_layerOf_122 C hb29 x0 y0 x5 x6 x7 x8 x9 x10 x11 ((x6 - (1 : Int32)) - x4) _ _ _ hF hP hD hS (lv_sub hl [1, 0, 3, 4, 5, 6, 7, 8, 9] rfl)
noncomputable def PX8_layerOf_95 (N : Nat) (K : Int32 → Unit → Prop) (b29 : Int32 → Int32 → Int32 → Int32 → Int32 → Int32 → Int32 → Int32 → Int32 → Prop) (x0 x3 x4 x5 x6 x7 x8 x9 x10 x11 : Int32) : Prop := PX8_layerOf_96 N K b29 x0 x4 x5 x6 x7 x8 x9 x10 x11 x3
set_option maxHeartbeats 4000000 in
set_option maxRecDepth 100000 in
theorem wX8_layerOf_95 {p : Program} {l : Launch} {e : Env} {s : State} {m : MethodId} {below : List Frame} {meth : Method} {c : Code} {args : Array Value} {D : va_G} {Y : Nat → ClassId} {A : Nat → Prop} {N : Nat} {K : Int32 → Unit → Prop} {b29 : Int32 → Int32 → Int32 → Int32 → Int32 → Int32 → Int32 → Int32 → Int32 → Prop} (C : mb_Cx p s m meth c args cX8_layerOf 12 (some .int) wsX8_layerOf RX8 D Y A) (hb29 : ∀ (x0 x3 x4 x5 x6 x7 x8 x9 x10 : Int32) (H : Heap) (locs : List Loc) (ls : Array Slot), b29 x0 x3 x4 x5 x6 x7 x8 x9 x10 → va_P D vwCl (([] : va_W)) H → va_D A (([] : va_W)) → va_S A s.heap H locs → lv_has ls 12 [(0, .int x0), (3, .int x3), (4, .int x4), (5, .int x5), (6, .int x6), (7, .int x7), (8, .int x8), (9, .int x9), (10, .int x10)] → W p l e ({ frames := 1, cells := 0, slots := 0, locals := 20 } : Room) s m args below meth c H locs 0 0 (MQ below (va_Qi K (fun u t => mb_T D A ([]) t) A) args s 0 0 A) (F0 m 29 ls [])) : ∀ (x0 x3 x4 x5 x6 x7 x8 x9 x10 x11 : Int32) (H : Heap) (locs : List Loc) (ls : Array Slot), PX8_layerOf_95 N K b29 x0 x3 x4 x5 x6 x7 x8 x9 x10 x11 → va_P D vwCl (([] : va_W)) H → va_D A (([] : va_W)) → va_S A s.heap H locs → lv_has ls 12 [(0, .int x0), (3, .int x3), (4, .int x4), (5, .int x5), (6, .int x6), (7, .int x7), (8, .int x8), (9, .int x9), (10, .int x10), (11, .int x11)] → W p l e ({ frames := 1, cells := 0, slots := 0, locals := 20 } : Room) s m args below meth c H locs 0 0 (MQ below (va_Qi K (fun u t => mb_T D A ([]) t) A) args s 0 0 A) (F0 m 95 ls []) := by
  obtain ⟨hx, hb, hr, hml, hts, hown, hlocks, hA, hG⟩ := id C
  have hK := hG.1
  intro x0 x3 x4 x5 x6 x7 x8 x9 x10 x11 H locs ls hF hP hD hS hl
  refine lv_iload_n hx hb dX8_layerOf_95 rfl (lv_at hl 1 rfl) ?_
  exact wX8_layerOf_96 C hb29 x0 x4 x5 x6 x7 x8 x9 x10 x11 x3 _ _ _ hF hP hD hS (lv_sub hl [0, 2, 3, 4, 5, 6, 7, 8, 9] rfl)
noncomputable def PX8_layerOf_72 (N : Nat) (K : Int32 → Unit → Prop) (b29 : Int32 → Int32 → Int32 → Int32 → Int32 → Int32 → Int32 → Int32 → Int32 → Prop) (x0 x3 x4 x5 x6 x7 x8 x9 x10 y0 : Int32) : Prop := (y0 = 0 → PX8_layerOf_95 N K b29 x0 x3 x4 x5 x6 x7 x8 x9 x10 y0) ∧ (¬ y0 = 0 → (¬ (x10 - x10 / (2 : Int32) * (2 : Int32)) = 0 → PX8_layerOf_95 N K b29 x0 x3 x4 x5 x6 x7 x8 x9 x10 y0) ∧ ((x10 - x10 / (2 : Int32) * (2 : Int32)) = 0 → PX8_layerOf_96 N K b29 x0 x4 x5 x6 x7 x8 x9 x10 y0 ((x5 - (1 : Int32)) - x3)))
set_option maxHeartbeats 4000000 in
set_option maxRecDepth 100000 in
theorem wX8_layerOf_72 {p : Program} {l : Launch} {e : Env} {s : State} {m : MethodId} {below : List Frame} {meth : Method} {c : Code} {args : Array Value} {D : va_G} {Y : Nat → ClassId} {A : Nat → Prop} {N : Nat} {K : Int32 → Unit → Prop} {b29 : Int32 → Int32 → Int32 → Int32 → Int32 → Int32 → Int32 → Int32 → Int32 → Prop} (C : mb_Cx p s m meth c args cX8_layerOf 12 (some .int) wsX8_layerOf RX8 D Y A) (hb29 : ∀ (x0 x3 x4 x5 x6 x7 x8 x9 x10 : Int32) (H : Heap) (locs : List Loc) (ls : Array Slot), b29 x0 x3 x4 x5 x6 x7 x8 x9 x10 → va_P D vwCl (([] : va_W)) H → va_D A (([] : va_W)) → va_S A s.heap H locs → lv_has ls 12 [(0, .int x0), (3, .int x3), (4, .int x4), (5, .int x5), (6, .int x6), (7, .int x7), (8, .int x8), (9, .int x9), (10, .int x10)] → W p l e ({ frames := 1, cells := 0, slots := 0, locals := 20 } : Room) s m args below meth c H locs 0 0 (MQ below (va_Qi K (fun u t => mb_T D A ([]) t) A) args s 0 0 A) (F0 m 29 ls [])) : ∀ (x0 x3 x4 x5 x6 x7 x8 x9 x10 y0 : Int32) (H : Heap) (locs : List Loc) (ls : Array Slot), PX8_layerOf_72 N K b29 x0 x3 x4 x5 x6 x7 x8 x9 x10 y0 → va_P D vwCl (([] : va_W)) H → va_D A (([] : va_W)) → va_S A s.heap H locs → lv_has ls 12 [(0, .int x0), (3, .int x3), (4, .int x4), (5, .int x5), (6, .int x6), (7, .int x7), (8, .int x8), (9, .int x9), (10, .int x10)] → W p l e ({ frames := 1, cells := 0, slots := 0, locals := 20 } : Room) s m args below meth c H locs 0 0 (MQ below (va_Qi K (fun u t => mb_T D A ([]) t) A) args s 0 0 A) (F0 m 72 ls [.int y0]) := by
  obtain ⟨hx, hb, hr, hml, hts, hown, hlocks, hA, hG⟩ := id C
  have hK := hG.1
  intro x0 x3 x4 x5 x6 x7 x8 x9 x10 y0 H locs ls hF hP hD hS hl
  refine lv_istore (lv' := [(11, .int y0), (0, .int x0), (3, .int x3), (4, .int x4), (5, .int x5), (6, .int x6), (7, .int x7), (8, .int x8), (9, .int x9), (10, .int x10)]) hx hb dX8_layerOf_72 hl (by decide) rfl (fun ls hl => ?_)
  refine lv_iload hx hb dX8_layerOf_74 (lv_at hl 0 rfl) ?_
  refine lv_if_eq (tgt := 95) hx hb dX8_layerOf_76 (by decide) (fun c_76 => ?_) (fun c_76 => ?_)
  · have hF := hF.1 c_76
    exact wX8_layerOf_95 C hb29 x0 x3 x4 x5 x6 x7 x8 x9 x10 y0 _ _ _ hF hP hD hS (lv_sub hl [1, 2, 3, 4, 5, 6, 7, 8, 9, 0] rfl)
  · have hF := hF.2 c_76
    refine lv_iload hx hb dX8_layerOf_79 (lv_at hl 9 rfl) ?_
    refine lv_iconst (v := 2) hx hb dX8_layerOf_81 (by decide) ?_
    refine lv_irem hx hb dX8_layerOf_82 (by decide) ?_
    refine lv_if_ne (tgt := 95) hx hb dX8_layerOf_83 (by decide) (fun c_83 => ?_) (fun c_83 => ?_)
    · have hF := hF.1 c_83
      exact wX8_layerOf_95 C hb29 x0 x3 x4 x5 x6 x7 x8 x9 x10 y0 _ _ _ hF hP hD hS (lv_sub hl [1, 2, 3, 4, 5, 6, 7, 8, 9, 0] rfl)
    · have hF := hF.2 c_83
      refine lv_iload hx hb dX8_layerOf_86 (lv_at hl 4 rfl) ?_
      refine lv_iconst (v := 1) hx hb dX8_layerOf_88 (by decide) ?_
      refine lv_isub hx hb dX8_layerOf_89 ?_
      refine lv_iload_n hx hb dX8_layerOf_90 rfl (lv_at hl 2 rfl) ?_
      refine lv_isub hx hb dX8_layerOf_91 ?_
      refine lv_goto (tgt := 96) hx hb dX8_layerOf_92 (by decide) ?_
      exact wX8_layerOf_96 C hb29 x0 x4 x5 x6 x7 x8 x9 x10 y0 ((x5 - (1 : Int32)) - x3) _ _ _ hF hP hD hS (lv_sub hl [1, 3, 4, 5, 6, 7, 8, 9, 0] rfl)
noncomputable def PX8_layerOf_29_b (N : Nat) (K : Int32 → Unit → Prop) (b29 : Int32 → Int32 → Int32 → Int32 → Int32 → Int32 → Int32 → Int32 → Int32 → Prop) (x0 x3 x4 x5 x6 x7 x8 x9 x10 : Int32) : Prop := (x0 ≤ x10 → (x9 = 0 → K (((2 : Int32) * x7) + (0 : Int32)) ()) ∧ (¬ x9 = 0 → K (((2 : Int32) * x7) + (1 : Int32)) ())) ∧ (¬ x0 ≤ x10 → (¬ (x10 - x10 / (2 : Int32) * (2 : Int32)) = 0 → (x4 < (x6 / (2 : Int32)) → PX8_layerOf_72 N K b29 x0 x3 x4 x5 x6 x7 x8 x9 x10 (0 : Int32)) ∧ (¬ x4 < (x6 / (2 : Int32)) → PX8_layerOf_72 N K b29 x0 x3 x4 x5 x6 x7 x8 x9 x10 (1 : Int32))) ∧ ((x10 - x10 / (2 : Int32) * (2 : Int32)) = 0 → (x3 < (x5 / (2 : Int32)) → PX8_layerOf_72 N K b29 x0 x3 x4 x5 x6 x7 x8 x9 x10 (0 : Int32)) ∧ (¬ x3 < (x5 / (2 : Int32)) → PX8_layerOf_72 N K b29 x0 x3 x4 x5 x6 x7 x8 x9 x10 (1 : Int32))))
noncomputable def PX8_layerOf_29 (N : Nat) (K : Int32 → Unit → Prop) (n : Nat) : Int32 → Int32 → Int32 → Int32 → Int32 → Int32 → Int32 → Int32 → Int32 → Prop := Nat.rec (motive := fun _ => Int32 → Int32 → Int32 → Int32 → Int32 → Int32 → Int32 → Int32 → Int32 → Prop) (fun _ _ _ _ _ _ _ _ _ => False) (fun _ b29 => PX8_layerOf_29_b N K  b29) n
set_option maxHeartbeats 4000000 in
set_option maxRecDepth 100000 in
theorem wX8_layerOf_29 {p : Program} {l : Launch} {e : Env} {s : State} {m : MethodId} {below : List Frame} {meth : Method} {c : Code} {args : Array Value} {D : va_G} {Y : Nat → ClassId} {A : Nat → Prop} {N : Nat} {K : Int32 → Unit → Prop} (C : mb_Cx p s m meth c args cX8_layerOf 12 (some .int) wsX8_layerOf RX8 D Y A) : ∀ (n : Nat), (∀ (x0 x3 x4 x5 x6 x7 x8 x9 x10 : Int32) (H : Heap) (locs : List Loc) (ls : Array Slot), PX8_layerOf_29 N K  n x0 x3 x4 x5 x6 x7 x8 x9 x10 → va_P D vwCl (([] : va_W)) H → va_D A (([] : va_W)) → va_S A s.heap H locs → lv_has ls 12 [(0, .int x0), (3, .int x3), (4, .int x4), (5, .int x5), (6, .int x6), (7, .int x7), (8, .int x8), (9, .int x9), (10, .int x10)] → W p l e ({ frames := 1, cells := 0, slots := 0, locals := 20 } : Room) s m args below meth c H locs 0 0 (MQ below (va_Qi K (fun u t => mb_T D A ([]) t) A) args s 0 0 A) (F0 m 29 ls [])) := by
  obtain ⟨hx, hb, hr, hml, hts, hown, hlocks, hA, hG⟩ := id C
  have hK := hG.1
  intro n
  induction n with
  | zero => intro x0 x3 x4 x5 x6 x7 x8 x9 x10 H locs ls hF; exact (show False from hF).elim
  | succ n ih =>
    intro x0 x3 x4 x5 x6 x7 x8 x9 x10 H locs ls hF hP hD hS hl
    have hF : PX8_layerOf_29_b N K  (PX8_layerOf_29 N K  n) x0 x3 x4 x5 x6 x7 x8 x9 x10 := hF
    refine lv_iload hx hb dX8_layerOf_29 (lv_at hl 8 rfl) ?_
    refine lv_iload_n hx hb dX8_layerOf_31 rfl (lv_at hl 0 rfl) ?_
    refine lv_icmp_ge (tgt := 209) hx hb dX8_layerOf_32 (by decide) (fun c_32 => ?_) (fun c_32 => ?_)
    · have hF := hF.1 c_32
      refine lv_iconst (v := 2) hx hb dX8_layerOf_209 (by decide) ?_
      refine lv_iload hx hb dX8_layerOf_210 (lv_at hl 5 rfl) ?_
      refine lv_imul hx hb dX8_layerOf_212 ?_
      refine lv_iload hx hb dX8_layerOf_213 (lv_at hl 7 rfl) ?_
      refine lv_if_eq (tgt := 222) hx hb dX8_layerOf_215 (by decide) (fun c_215 => ?_) (fun c_215 => ?_)
      · have hF := hF.1 c_215
        refine lv_iconst (v := 0) hx hb dX8_layerOf_222 (by decide) ?_
        refine lv_iadd hx hb dX8_layerOf_223 ?_
        exact mb_ri (wf := fun u => []) C rfl (u := ()) hF hP hD hS dX8_layerOf_224 (Nat.le_of_ble_eq_true rfl) (Nat.le_of_ble_eq_true rfl)
      · have hF := hF.2 c_215
        refine lv_iconst (v := 1) hx hb dX8_layerOf_218 (by decide) ?_
        refine lv_goto (tgt := 223) hx hb dX8_layerOf_219 (by decide) ?_
        refine lv_iadd hx hb dX8_layerOf_223 ?_
        exact mb_ri (wf := fun u => []) C rfl (u := ()) hF hP hD hS dX8_layerOf_224 (Nat.le_of_ble_eq_true rfl) (Nat.le_of_ble_eq_true rfl)
    · have hF := hF.2 c_32
      refine lv_iload hx hb dX8_layerOf_35 (lv_at hl 8 rfl) ?_
      refine lv_iconst (v := 2) hx hb dX8_layerOf_37 (by decide) ?_
      refine lv_irem hx hb dX8_layerOf_38 (by decide) ?_
      refine lv_if_ne (tgt := 58) hx hb dX8_layerOf_39 (by decide) (fun c_39 => ?_) (fun c_39 => ?_)
      · have hF := hF.1 c_39
        refine lv_iload hx hb dX8_layerOf_58 (lv_at hl 2 rfl) ?_
        refine lv_iload hx hb dX8_layerOf_60 (lv_at hl 4 rfl) ?_
        refine lv_iconst (v := 2) hx hb dX8_layerOf_62 (by decide) ?_
        refine lv_idiv hx hb dX8_layerOf_63 (by decide) ?_
        refine lv_icmp_lt (tgt := 71) hx hb dX8_layerOf_64 (by decide) (fun c_64 => ?_) (fun c_64 => ?_)
        · have hF := hF.1 c_64
          refine lv_iconst (v := 0) hx hb dX8_layerOf_71 (by decide) ?_
          exact wX8_layerOf_72 C ih x0 x3 x4 x5 x6 x7 x8 x9 x10 (0 : Int32) _ _ _ hF hP hD hS (lv_sub hl [0, 1, 2, 3, 4, 5, 6, 7, 8] rfl)
        · have hF := hF.2 c_64
          refine lv_iconst (v := 1) hx hb dX8_layerOf_67 (by decide) ?_
          refine lv_goto (tgt := 72) hx hb dX8_layerOf_68 (by decide) ?_
          exact wX8_layerOf_72 C ih x0 x3 x4 x5 x6 x7 x8 x9 x10 (1 : Int32) _ _ _ hF hP hD hS (lv_sub hl [0, 1, 2, 3, 4, 5, 6, 7, 8] rfl)
      · have hF := hF.2 c_39
        refine lv_iload_n hx hb dX8_layerOf_42 rfl (lv_at hl 1 rfl) ?_
        refine lv_iload hx hb dX8_layerOf_43 (lv_at hl 3 rfl) ?_
        refine lv_iconst (v := 2) hx hb dX8_layerOf_45 (by decide) ?_
        refine lv_idiv hx hb dX8_layerOf_46 (by decide) ?_
        refine lv_icmp_lt (tgt := 54) hx hb dX8_layerOf_47 (by decide) (fun c_47 => ?_) (fun c_47 => ?_)
        · have hF := hF.1 c_47
          refine lv_iconst (v := 0) hx hb dX8_layerOf_54 (by decide) ?_
          refine lv_goto (tgt := 72) hx hb dX8_layerOf_55 (by decide) ?_
          exact wX8_layerOf_72 C ih x0 x3 x4 x5 x6 x7 x8 x9 x10 (0 : Int32) _ _ _ hF hP hD hS (lv_sub hl [0, 1, 2, 3, 4, 5, 6, 7, 8] rfl)
        · have hF := hF.2 c_47
          refine lv_iconst (v := 1) hx hb dX8_layerOf_50 (by decide) ?_
          refine lv_goto (tgt := 72) hx hb dX8_layerOf_51 (by decide) ?_
          exact wX8_layerOf_72 C ih x0 x3 x4 x5 x6 x7 x8 x9 x10 (1 : Int32) _ _ _ hF hP hD hS (lv_sub hl [0, 1, 2, 3, 4, 5, 6, 7, 8] rfl)
noncomputable def PX8_layerOf (N : Nat) (x0 x1 x2 : Int32) (K : Int32 → Unit → Prop) : Prop := PX8_columnsOf N x0 (fun r6 _ => PX8_rowsOf N x0 (fun r12 _ => PX8_layerOf_29 N K N x0 x1 x2 r6 r12 (0 : Int32) (1 : Int32) (0 : Int32) (0 : Int32)))
set_option maxHeartbeats 4000000 in
set_option maxRecDepth 100000 in
theorem cnX8_layerOf (l : Launch) (D : va_G) (Y : Nat → ClassId) (N : Nat) (sz : Nat) (x0 x1 x2 : Int32) (K : Int32 → Unit → Prop) (hF : PX8_layerOf N x0 x1 x2 K) : Met l yX8_layerOf wsX8_layerOf ({ frames := 1, cells := 0, slots := 0, locals := 20 } : Room) (va_Pc [.int x0, .int x1, .int x2] (mb_B D Y (([] : va_W)) sz)) (va_Qi K (fun u t => mb_T D (va_A (([] : va_W)) sz) ([]) t) (va_A (([] : va_W)) sz)) 0 0 (va_A (([] : va_W)) sz) := by
  refine mb_begin (cc := cX8_layerOf) (maxL := 12) (ret := (some .int)) (by decide +kernel) rfl (Nat.le_of_ble_eq_true rfl) ?_
  intro p e s m below meth c ls C hsz hnm hP hD hl
  generalize hAe : va_A (([] : va_W)) sz = A at C hD ⊢
  have C : mb_Cx p s m meth c ([.int x0, .int x1, .int x2] : List Value).toArray cX8_layerOf 12 (some .int) wsX8_layerOf RX8 D Y A := C
  obtain ⟨hx, hb, hr, hml, hts, hown, hlocks, hA, hG⟩ := id C
  have hK := hG.1
  have hS : va_S A s.heap s.heap [] := va_S.rf
  have hl : lv_has ls 12 [(0, .int x0), (1, .int x1), (2, .int x2)] := hl
  refine lv_iload_n hx hb dX8_layerOf_0 rfl (lv_at hl 1 rfl) ?_
  refine lv_istore_n (lv' := [(3, .int x1), (0, .int x0), (1, .int x1), (2, .int x2)]) hx hb dX8_layerOf_1 rfl hl (by decide) rfl (fun ls hl => ?_)
  refine lv_iload_n hx hb dX8_layerOf_2 rfl (lv_at hl 3 rfl) ?_
  refine lv_istore (lv' := [(4, .int x2), (3, .int x1), (0, .int x0), (1, .int x1), (2, .int x2)]) hx hb dX8_layerOf_3 hl (by decide) rfl (fun ls hl => ?_)
  refine lv_iload_n hx hb dX8_layerOf_5 rfl (lv_at hl 2 rfl) ?_
  refine mb_cE hP hS hA (va_runS (As := [.int x0]) (rest := []) ⟨hx, hb, hml, hown, hts⟩ (cnX8_columnsOf l D Y N _ x0 _ hF) (va_cwS 1 hts gX8_layerOf_X8_columnsOf rfl rfl rfl (by decide +kernel) ⟨Nat.le_of_ble_eq_true rfl, Nat.le_of_ble_eq_true rfl⟩) (mb_preS (A := A) hG mb_P0 mb_D0) rfl rfl hl.1 rfl (lv_room (Nat.le_of_ble_eq_true rfl)) dX8_layerOf_6 ⟨Nat.le_of_ble_eq_true rfl, Nat.le_of_ble_eq_true rfl⟩) (fun r6 H locs hF hP hS => ?_)
  refine lv_istore (lv' := [(5, .int r6), (4, .int x2), (3, .int x1), (0, .int x0), (1, .int x1), (2, .int x2)]) hx hb dX8_layerOf_9 hl (by decide) rfl (fun ls hl => ?_)
  refine lv_iload_n hx hb dX8_layerOf_11 rfl (lv_at hl 3 rfl) ?_
  refine mb_cE hP hS hA (va_runS (As := [.int x0]) (rest := []) ⟨hx, hb, hml, hown, hts⟩ (cnX8_rowsOf l D Y N _ x0 _ hF) (va_cwS 1 hts gX8_layerOf_X8_rowsOf rfl rfl rfl (by decide +kernel) ⟨Nat.le_of_ble_eq_true rfl, Nat.le_of_ble_eq_true rfl⟩) (mb_preS (A := A) hG mb_P0 mb_D0) rfl rfl hl.1 rfl (lv_room (Nat.le_of_ble_eq_true rfl)) dX8_layerOf_12 ⟨Nat.le_of_ble_eq_true rfl, Nat.le_of_ble_eq_true rfl⟩) (fun r12 H locs hF hP hS => ?_)
  refine lv_istore (lv' := [(6, .int r12), (5, .int r6), (4, .int x2), (3, .int x1), (0, .int x0), (1, .int x1), (2, .int x2)]) hx hb dX8_layerOf_15 hl (by decide) rfl (fun ls hl => ?_)
  refine lv_iconst (v := 0) hx hb dX8_layerOf_17 (by decide) ?_
  refine lv_istore (lv' := [(7, .int (0 : Int32)), (6, .int r12), (5, .int r6), (4, .int x2), (3, .int x1), (0, .int x0), (1, .int x1), (2, .int x2)]) hx hb dX8_layerOf_18 hl (by decide) rfl (fun ls hl => ?_)
  refine lv_iconst (v := 1) hx hb dX8_layerOf_20 (by decide) ?_
  refine lv_istore (lv' := [(8, .int (1 : Int32)), (7, .int (0 : Int32)), (6, .int r12), (5, .int r6), (4, .int x2), (3, .int x1), (0, .int x0), (1, .int x1), (2, .int x2)]) hx hb dX8_layerOf_21 hl (by decide) rfl (fun ls hl => ?_)
  refine lv_iconst (v := 0) hx hb dX8_layerOf_23 (by decide) ?_
  refine lv_istore (lv' := [(9, .int (0 : Int32)), (8, .int (1 : Int32)), (7, .int (0 : Int32)), (6, .int r12), (5, .int r6), (4, .int x2), (3, .int x1), (0, .int x0), (1, .int x1), (2, .int x2)]) hx hb dX8_layerOf_24 hl (by decide) rfl (fun ls hl => ?_)
  refine lv_iconst (v := 0) hx hb dX8_layerOf_26 (by decide) ?_
  refine lv_istore (lv' := [(10, .int (0 : Int32)), (9, .int (0 : Int32)), (8, .int (1 : Int32)), (7, .int (0 : Int32)), (6, .int r12), (5, .int r6), (4, .int x2), (3, .int x1), (0, .int x0), (1, .int x1), (2, .int x2)]) hx hb dX8_layerOf_27 hl (by decide) rfl (fun ls hl => ?_)
  exact wX8_layerOf_29 C N x0 x1 x2 r6 r12 (0 : Int32) (1 : Int32) (0 : Int32) (0 : Int32) _ _ _ hF hP hD hS (lv_sub hl [8, 7, 6, 5, 4, 3, 2, 1, 0] rfl)
end
section
noncomputable def PX8_pageOf_30 (N : Nat) (K : Int32 → Unit → Prop) (x4 y0 : Int32) : Prop := (y0 = 0 → K (((x4 / (2 : Int32)) * (2 : Int32)) + (2 : Int32)) ()) ∧ (¬ y0 = 0 → K (((x4 / (2 : Int32)) * (2 : Int32)) + (1 : Int32)) ())
set_option maxHeartbeats 4000000 in
set_option maxRecDepth 100000 in
theorem wX8_pageOf_30 {p : Program} {l : Launch} {e : Env} {s : State} {m : MethodId} {below : List Frame} {meth : Method} {c : Code} {args : Array Value} {D : va_G} {Y : Nat → ClassId} {A : Nat → Prop} {N : Nat} {K : Int32 → Unit → Prop} (C : mb_Cx p s m meth c args cX8_pageOf 6 (some .int) wsX8_pageOf RX8 D Y A) : ∀ (x4 y0 : Int32) (H : Heap) (locs : List Loc) (ls : Array Slot), PX8_pageOf_30 N K  x4 y0 → va_P D vwCl (([] : va_W)) H → va_D A (([] : va_W)) → va_S A s.heap H locs → lv_has ls 6 [(4, .int x4)] → W p l e ({ frames := 2, cells := 0, slots := 0, locals := 51 } : Room) s m args below meth c H locs 0 0 (MQ below (va_Qi K (fun u t => mb_T D A ([]) t) A) args s 0 0 A) (F0 m 30 ls [.int y0]) := by
  obtain ⟨hx, hb, hr, hml, hts, hown, hlocks, hA, hG⟩ := id C
  have hK := hG.1
  intro x4 y0 H locs ls hF hP hD hS hl
  refine lv_istore (lv' := [(5, .int y0), (4, .int x4)]) hx hb dX8_pageOf_30 hl (by decide) rfl (fun ls hl => ?_)
  refine lv_iload hx hb dX8_pageOf_32 (lv_at hl 1 rfl) ?_
  refine lv_iconst (v := 2) hx hb dX8_pageOf_34 (by decide) ?_
  refine lv_idiv hx hb dX8_pageOf_35 (by decide) ?_
  refine lv_iconst (v := 2) hx hb dX8_pageOf_36 (by decide) ?_
  refine lv_imul hx hb dX8_pageOf_37 ?_
  refine lv_iload hx hb dX8_pageOf_38 (lv_at hl 0 rfl) ?_
  refine lv_if_eq (tgt := 47) hx hb dX8_pageOf_40 (by decide) (fun c_40 => ?_) (fun c_40 => ?_)
  · have hF := hF.1 c_40
    refine lv_iconst (v := 2) hx hb dX8_pageOf_47 (by decide) ?_
    refine lv_iadd hx hb dX8_pageOf_48 ?_
    exact mb_ri (wf := fun u => []) C rfl (u := ()) hF hP hD hS dX8_pageOf_49 (Nat.le_of_ble_eq_true rfl) (Nat.le_of_ble_eq_true rfl)
  · have hF := hF.2 c_40
    refine lv_iconst (v := 1) hx hb dX8_pageOf_43 (by decide) ?_
    refine lv_goto (tgt := 48) hx hb dX8_pageOf_44 (by decide) ?_
    refine lv_iadd hx hb dX8_pageOf_48 ?_
    exact mb_ri (wf := fun u => []) C rfl (u := ()) hF hP hD hS dX8_pageOf_49 (Nat.le_of_ble_eq_true rfl) (Nat.le_of_ble_eq_true rfl)
noncomputable def PX8_pageOf_22 (N : Nat) (K : Int32 → Unit → Prop) (x4 y0 y1 : Int32) : Prop := (¬ y1 = y0 → PX8_pageOf_30 N K x4 (0 : Int32)) ∧ (y1 = y0 → PX8_pageOf_30 N K x4 (1 : Int32))
set_option maxHeartbeats 4000000 in
set_option maxRecDepth 100000 in
theorem wX8_pageOf_22 {p : Program} {l : Launch} {e : Env} {s : State} {m : MethodId} {below : List Frame} {meth : Method} {c : Code} {args : Array Value} {D : va_G} {Y : Nat → ClassId} {A : Nat → Prop} {N : Nat} {K : Int32 → Unit → Prop} (C : mb_Cx p s m meth c args cX8_pageOf 6 (some .int) wsX8_pageOf RX8 D Y A) : ∀ (x4 y0 y1 : Int32) (H : Heap) (locs : List Loc) (ls : Array Slot), PX8_pageOf_22 N K  x4 y0 y1 → va_P D vwCl (([] : va_W)) H → va_D A (([] : va_W)) → va_S A s.heap H locs → lv_has ls 6 [(4, .int x4)] → W p l e ({ frames := 2, cells := 0, slots := 0, locals := 51 } : Room) s m args below meth c H locs 0 0 (MQ below (va_Qi K (fun u t => mb_T D A ([]) t) A) args s 0 0 A) (F0 m 22 ls [.int y0, .int y1]) := by
  obtain ⟨hx, hb, hr, hml, hts, hown, hlocks, hA, hG⟩ := id C
  have hK := hG.1
  intro x4 y0 y1 H locs ls hF hP hD hS hl
  refine lv_icmp_ne (tgt := 29) hx hb dX8_pageOf_22 (by decide) (fun c_22 => ?_) (fun c_22 => ?_)
  · have hF := hF.1 c_22
    refine lv_iconst (v := 0) hx hb dX8_pageOf_29 (by decide) ?_
    exact wX8_pageOf_30 C x4 (0 : Int32) _ _ _ hF hP hD hS (lv_sub hl [0] rfl)
  · have hF := hF.2 c_22
    refine lv_iconst (v := 1) hx hb dX8_pageOf_25 (by decide) ?_
    refine lv_goto (tgt := 30) hx hb dX8_pageOf_26 (by decide) ?_
    exact wX8_pageOf_30 C x4 (1 : Int32) _ _ _ hF hP hD hS (lv_sub hl [0] rfl)
noncomputable def PX8_pageOf (N : Nat) (x0 x1 x2 x3 : Int32) (K : Int32 → Unit → Prop) : Prop := PX8_layerOf N x0 x2 x3 (fun r3 _ => (¬ (r3 - r3 / (2 : Int32) * (2 : Int32)) = (1 : Int32) → PX8_pageOf_22 N K r3 (0 : Int32) x1) ∧ ((r3 - r3 / (2 : Int32) * (2 : Int32)) = (1 : Int32) → PX8_pageOf_22 N K r3 (1 : Int32) x1))
set_option maxHeartbeats 4000000 in
set_option maxRecDepth 100000 in
theorem cnX8_pageOf (l : Launch) (D : va_G) (Y : Nat → ClassId) (N : Nat) (sz : Nat) (x0 x1 x2 x3 : Int32) (K : Int32 → Unit → Prop) (hF : PX8_pageOf N x0 x1 x2 x3 K) : Met l yX8_pageOf wsX8_pageOf ({ frames := 2, cells := 0, slots := 0, locals := 51 } : Room) (va_Pc [.int x0, .int x1, .int x2, .int x3] (mb_B D Y (([] : va_W)) sz)) (va_Qi K (fun u t => mb_T D (va_A (([] : va_W)) sz) ([]) t) (va_A (([] : va_W)) sz)) 0 0 (va_A (([] : va_W)) sz) := by
  refine mb_begin (cc := cX8_pageOf) (maxL := 6) (ret := (some .int)) (by decide +kernel) rfl (Nat.le_of_ble_eq_true rfl) ?_
  intro p e s m below meth c ls C hsz hnm hP hD hl
  generalize hAe : va_A (([] : va_W)) sz = A at C hD ⊢
  have C : mb_Cx p s m meth c ([.int x0, .int x1, .int x2, .int x3] : List Value).toArray cX8_pageOf 6 (some .int) wsX8_pageOf RX8 D Y A := C
  obtain ⟨hx, hb, hr, hml, hts, hown, hlocks, hA, hG⟩ := id C
  have hK := hG.1
  have hS : va_S A s.heap s.heap [] := va_S.rf
  have hl : lv_has ls 6 [(0, .int x0), (1, .int x1), (2, .int x2), (3, .int x3)] := hl
  refine lv_iload_n hx hb dX8_pageOf_0 rfl (lv_at hl 0 rfl) ?_
  refine lv_iload_n hx hb dX8_pageOf_1 rfl (lv_at hl 2 rfl) ?_
  refine lv_iload_n hx hb dX8_pageOf_2 rfl (lv_at hl 3 rfl) ?_
  refine mb_cE hP hS hA (va_runS (As := [.int x0, .int x2, .int x3]) (rest := []) ⟨hx, hb, hml, hown, hts⟩ (cnX8_layerOf l D Y N _ x0 x2 x3 _ hF) (va_cwS 3 hts gX8_pageOf_X8_layerOf rfl rfl rfl (by decide +kernel) ⟨Nat.le_of_ble_eq_true rfl, Nat.le_of_ble_eq_true rfl⟩) (mb_preS (A := A) hG mb_P0 mb_D0) rfl rfl hl.1 rfl (lv_room (Nat.le_of_ble_eq_true rfl)) dX8_pageOf_3 ⟨Nat.le_of_ble_eq_true rfl, Nat.le_of_ble_eq_true rfl⟩) (fun r3 H locs hF hP hS => ?_)
  refine lv_istore (lv' := [(4, .int r3), (0, .int x0), (1, .int x1), (2, .int x2), (3, .int x3)]) hx hb dX8_pageOf_6 hl (by decide) rfl (fun ls hl => ?_)
  refine lv_iload_n hx hb dX8_pageOf_8 rfl (lv_at hl 2 rfl) ?_
  refine lv_iload hx hb dX8_pageOf_9 (lv_at hl 0 rfl) ?_
  refine lv_iconst (v := 2) hx hb dX8_pageOf_11 (by decide) ?_
  refine lv_irem hx hb dX8_pageOf_12 (by decide) ?_
  refine lv_iconst (v := 1) hx hb dX8_pageOf_13 (by decide) ?_
  refine lv_icmp_ne (tgt := 21) hx hb dX8_pageOf_14 (by decide) (fun c_14 => ?_) (fun c_14 => ?_)
  · have hF := hF.1 c_14
    refine lv_iconst (v := 0) hx hb dX8_pageOf_21 (by decide) ?_
    exact wX8_pageOf_22 C r3 (0 : Int32) x1 _ _ _ hF hP hD hS (lv_sub hl [0] rfl)
  · have hF := hF.2 c_14
    refine lv_iconst (v := 1) hx hb dX8_pageOf_17 (by decide) ?_
    refine lv_goto (tgt := 22) hx hb dX8_pageOf_18 (by decide) ?_
    exact wX8_pageOf_22 C r3 (1 : Int32) x1 _ _ _ hF hP hD hS (lv_sub hl [0] rfl)
end
section
noncomputable def PJ9_floorMod_7cf53 (N : Nat) (x0 x1 : Int32) (K : Int32 → Unit → Prop) : Prop := ¬ x1 = 0 ∧ (∀ v3 : Int32, v3 = (x0 - x0 / x1 * x1) → ((0 ≤ (x0 ^^^ x1) → K v3 ()) ∧ (¬ 0 ≤ (x0 ^^^ x1) → (v3 = 0 → K v3 ()) ∧ (¬ v3 = 0 → K (v3 + x1) ()))))
set_option maxHeartbeats 4000000 in
set_option maxRecDepth 100000 in
theorem cnJ9_floorMod_7cf53 (l : Launch) (D : va_G) (Y : Nat → ClassId) (N : Nat) (sz : Nat) (x0 x1 : Int32) (K : Int32 → Unit → Prop) (hF : PJ9_floorMod_7cf53 N x0 x1 K) : Met l yJ9_floorMod_7cf53 wsJ9_floorMod_7cf53 ({ frames := 0, cells := 0, slots := 0, locals := 0 } : Room) (va_Pc [.int x0, .int x1] (mb_B D Y (([] : va_W)) sz)) (va_Qi K (fun u t => mb_T D (va_A (([] : va_W)) sz) ([]) t) (va_A (([] : va_W)) sz)) 0 0 (va_A (([] : va_W)) sz) := by
  refine mb_beginF (cc := cJ9_floorMod_7cf53) (maxL := 3) (ret := (some .int)) (by decide +kernel) rfl (Nat.le_of_ble_eq_true rfl) ?_
  intro p e s m below meth c ls C hsz hnm hP hD hl
  generalize hAe : va_A (([] : va_W)) sz = A at C hD ⊢
  have C : mb_Cx p s m meth c ([.int x0, .int x1] : List Value).toArray cJ9_floorMod_7cf53 3 (some .int) wsJ9_floorMod_7cf53 RJ9 D Y A := C
  obtain ⟨hx, hb, hr, hml, hts, hown, hlocks, hA, hG⟩ := id C
  have hK := hG.1
  have hS : va_S A s.heap s.heap [] := va_S.rf
  have hl : lv_has ls 3 [(0, .int x0), (1, .int x1)] := hl
  refine lv_iload_n hx hb dJ9_floorMod_7cf53_0 rfl (lv_at hl 0 rfl) ?_
  refine lv_iload_n hx hb dJ9_floorMod_7cf53_1 rfl (lv_at hl 1 rfl) ?_
  obtain ⟨hz2, hF⟩ := hF
  refine lv_irem hx hb dJ9_floorMod_7cf53_2 hz2 ?_
  refine lv_topi (fun v3 ev3 => ?_)
  have hF := hF v3 ev3
  refine lv_istore_n (lv' := [(2, .int v3), (0, .int x0), (1, .int x1)]) hx hb dJ9_floorMod_7cf53_3 rfl hl (by decide) rfl (fun ls hl => ?_)
  refine lv_iload_n hx hb dJ9_floorMod_7cf53_4 rfl (lv_at hl 1 rfl) ?_
  refine lv_iload_n hx hb dJ9_floorMod_7cf53_5 rfl (lv_at hl 2 rfl) ?_
  refine lv_ixor hx hb dJ9_floorMod_7cf53_6 ?_
  refine lv_if_ge (tgt := 18) hx hb dJ9_floorMod_7cf53_7 (by decide) (fun c_7 => ?_) (fun c_7 => ?_)
  · have hF := hF.1 c_7
    refine lv_iload_n hx hb dJ9_floorMod_7cf53_18 rfl (lv_at hl 0 rfl) ?_
    exact mb_ri (wf := fun u => []) C rfl (u := ()) hF hP hD hS dJ9_floorMod_7cf53_19 (Nat.le_of_ble_eq_true rfl) (Nat.le_of_ble_eq_true rfl)
  · have hF := hF.2 c_7
    refine lv_iload_n hx hb dJ9_floorMod_7cf53_10 rfl (lv_at hl 0 rfl) ?_
    refine lv_if_eq (tgt := 18) hx hb dJ9_floorMod_7cf53_11 (by decide) (fun c_11 => ?_) (fun c_11 => ?_)
    · have hF := hF.1 c_11
      refine lv_iload_n hx hb dJ9_floorMod_7cf53_18 rfl (lv_at hl 0 rfl) ?_
      exact mb_ri (wf := fun u => []) C rfl (u := ()) hF hP hD hS dJ9_floorMod_7cf53_19 (Nat.le_of_ble_eq_true rfl) (Nat.le_of_ble_eq_true rfl)
    · have hF := hF.2 c_11
      refine lv_iload_n hx hb dJ9_floorMod_7cf53_14 rfl (lv_at hl 0 rfl) ?_
      refine lv_iload_n hx hb dJ9_floorMod_7cf53_15 rfl (lv_at hl 2 rfl) ?_
      refine lv_iadd hx hb dJ9_floorMod_7cf53_16 ?_
      exact mb_ri (wf := fun u => []) C rfl (u := ()) hF hP hD hS dJ9_floorMod_7cf53_17 (Nat.le_of_ble_eq_true rfl) (Nat.le_of_ble_eq_true rfl)
end
end
