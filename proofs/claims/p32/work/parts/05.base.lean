/-! THE BASE: words of nest mates that travel with a contract, a state as rows of numbers, contracts, calls. -/
def mb_nw : List Cond := [.fieldLinkNest RX7 83 "MarbleBench$Bath" "colours" "[I" RX7, .fieldLinkNest RX7 87 "MarbleBench$Bath" "strengths" "[I" RX7, .fieldLinkNest RX7 94 "MarbleBench$Print" "colours" "[I" RX7, .fieldLinkNest RX7 122 "MarbleBench$Book" "sewing" "LMarbleBench$Sewing;" RX7, .fieldLinkNest RX7 135 "MarbleBench$Sewing" "length" "I" RX7, .fieldLinkNest RX7 138 "MarbleBench$Sewing" "moveCount" "I" RX7, .fieldLinkNest RX7 144 "MarbleBench$Sewing" "gathering" "I" RX7, .fieldLinkNest RX7 147 "MarbleBench$Sewing" "station" "I" RX7, .fieldLinkNest RX7 150 "MarbleBench$Sewing" "isInside" "Z" RX7, .fieldLinkNest RX7 158 "MarbleBench$Sewing" "gatherings" "I" RX7, .fieldLinkNest RX7 161 "MarbleBench$Sewing" "stations" "I" RX7, .fieldLinkNest RX7 170 "MarbleBench$Book" "spine" "I" RX7, .fieldLinkNest RX7 176 "MarbleBench$Book" "leavesInAll" "I" RX7, .fieldLinkNest RX7 205 "MarbleBench$Skin" "thicknesses" "[I" RX7, .fieldLinkNest RX7 211 "MarbleBench$Book" "isOld" "Z" RX7, .fieldLinkNest RX7 217 "MarbleBench$Book" "repairs" "LMarbleBench$Repairs;" RX7, .fieldLinkNest RX7 221 "MarbleBench$Repairs" "number" "I" RX7, .fieldLinkNest RX7 235 "MarbleBench$Book" "speakers" "LMarbleBench$Speakers;" RX7, .fieldLinkNest RX7 239 "MarbleBench$Speakers" "number" "I" RX7, .fieldLinkNest RX0 47 "MarbleBench$Print" "colours" "[I" RX7, .methodLinkNest RX0 35 yX7_cellOf RX7, .methodLinkNest RX0 46 yX2_init RX7, .methodLinkNest RX1 11 yX3_init RX7, .methodLinkNest RX1 20 yX6_init RX7, .methodLinkNest RX5 15 yX7_cellOf RX7, .methodLinkNest RX5 27 yX7_isWithin RX7, .methodLinkNest RX6 25 yX7_isWithin RX7, .castable "java/lang/IndexOutOfBoundsException" "java/lang/IndexOutOfBoundsException", .castable "java/lang/IllegalArgumentException" "java/lang/IllegalArgumentException", .castable "java/lang/IllegalStateException" "java/lang/IllegalStateException", .declares (Bundle.initS "java/lang/RuntimeException"), .declares (Bundle.initS "java/lang/Exception"), .declares (Bundle.initS "java/lang/Throwable")]
def mb_isN : Cond → Bool
  | .fieldLinkNest _ _ _ _ _ _ => true
  | .methodLinkNest _ _ _ _ => true
  | .castable _ _ => true
  | .declares _ => true
  | _ => false
theorem mb_nw_ok : mb_nw.all mb_isN = true := by decide +kernel
theorem mb_nw1 {w : Cond} (h : mb_isN w = true) {s U : State} (hW : s.WarmedH U.vm) (hZ : va_Nw w s) : va_Nw w U := by
  cases w <;> first | exact absurd h Bool.false_ne_true | exact va_Nw.warmF hW hZ | exact va_Nw.warmM hW hZ | exact va_Nw.warmC hW hZ | exact va_Nw.warmD hW hZ
theorem mb_nw2 {w : Cond} (h : mb_isN w = true) : w.onTables = true := by
  cases w <;> first | exact absurd h Bool.false_ne_true | rfl
/-- the written texts of the exceptions, by their places in the class file of the bench -/
def mb_tx : List (Nat × String) := [(259, "there is no such place"), (266, "an argument is out of its range"), (271, "this cannot be done now"), (274, "there is no such print"), (276, "there is no such book"), (278, "there is no such skin")]
def mb_E (U : State) : Prop := (∀ w ∈ mb_nw, va_Nw w U) ∧ (∀ q ∈ mb_tx, ∃ a, vk_R RX7 q.1 q.2 a U) ∧ ∀ C ∈ ["MarbleBench$Print", "MarbleBench$Book", "MarbleBench$Skin"], va_AO C U
theorem mb_E.warm {s U : State} (hW : s.WarmedH U.vm) (h : mb_E s) : mb_E U :=
  ⟨fun w hw => mb_nw1 (List.all_eq_true.mp mb_nw_ok w hw) hW (h.1 w hw), fun q hq => by obtain ⟨a, ha⟩ := h.2.1 q hq; exact ⟨a, vk_R.warm hW ha⟩, fun C hC => (h.2.2 C hC).moved hW.alike⟩
theorem mb_E.same {u U : State} (hv : U.vm = u.vm) (h : mb_E u) : mb_E U :=
  ⟨fun w hw => va_Nw.same (mb_nw2 (List.all_eq_true.mp mb_nw_ok w hw)) hv.symm (h.1 w hw), fun q hq => by obtain ⟨a, ha⟩ := h.2.1 q hq; exact ⟨a, vk_R.same hv ha⟩, fun C hC => (h.2.2 C hC).moved (by rw [hv]; exact Vm.Alike.refl u.vm)⟩
/-- a state: rows of numbers, a field or an array each -/
abbrev mb_m : Type := Nat → Nat → Int32
def mb_u (M : mb_m) (k : Nat) (f : Nat → Int32) : mb_m := fun j => if j = k then f else M j
def mb_c (x : Int32) : Nat → Int32 := fun _ => x
abbrev mb_ty (Y : Nat → ClassId) : List (ClassId × FieldType) := [(Y 0, .int), (Y 1, .int), (Y 2, .int), (Y 3, .object "MarbleBench$Print"), (Y 4, .object "MarbleBench$Book"), (Y 5, .object "MarbleBench$Skin")]
def mb_G (D : va_G) (Y : Nat → ClassId) (U : State) : Prop := va_K D vwCl (mb_ty Y) U ∧ mb_E U
theorem mb_G.warm {D : va_G} {Y : Nat → ClassId} {s U : State} (hW : s.WarmedH U.vm) (h : mb_G D Y s) : mb_G D Y U := ⟨va_K.moved hW.alike h.1, h.2.warm hW⟩
theorem mb_G.same {D : va_G} {Y : Nat → ClassId} {u U : State} (hv : U.vm = u.vm) (h : mb_G D Y u) : mb_G D Y U := ⟨va_K.moved (by rw [hv]; exact Vm.Alike.refl u.vm) h.1, h.2.same hv⟩
/-- where a method begins: the world w -/
def mb_B (D : va_G) (Y : Nat → ClassId) (w : va_W) (sz : Nat) (U : State) : Prop := U.heap.size = sz ∧ va_P D vwCl w U.heap ∧ mb_G D Y U ∧ va_D (fun _ => True) w
/-- what is there behind it -/
def mb_T (D : va_G) (A : Nat → Prop) (w : va_W) (t : State) : Prop := va_P D vwCl w t.heap ∧ va_D A w
theorem mb_blind {av : List Value} {D : va_G} {Y : Nat → ClassId} {w : va_W} {sz : Nat} : FrameBlind (va_Pc av (mb_B D Y w sz)) := fun a U g mk q => by
  obtain ⟨q0, q1, q2, q3, q4⟩ := q
  exact ⟨q0, q1, q2, q3.same (u := U) (U := U.calling g mk a) rfl, q4⟩
/-- what stays true in a method -/
def mb_Cx (p : Program) (s : State) (m : MethodId) (meth : Method) (c : Code) (args : Array Value) (cc : ByteArray) (nL : Nat) (ret : Option FieldType) (Ts : List Cond) (own : String) (D : va_G) (Y : Nat → ClassId) (A : Nat → Prop) : Prop :=
  p.tables.exec = Jvm.exec ∧ c.code = cc ∧ meth.sig.returnType = ret ∧ c.maxLocals = nL ∧ (∀ w ∈ Ts, w.before args s = true) ∧ s.vm.findClass own = some m.cls ∧ meth.locks = false ∧ (∀ q : Nat, s.heap.size ≤ q → A q) ∧ mb_G D Y s
theorem mb_begin {l : Launch} {y : MethodName} {ws ws' : List Cond} {rm : Room} {cc : ByteArray} {maxL : Nat} {ret : Option FieldType} {av : List Value} {D : va_G} {Y : Nat → ClassId} {w : va_W} {sz : Nat} {Qc : Array Value → State → Outcome → State → Prop} {mc ms : Nat} (hy : plainName y.cls = true) (hw : ws = Cond.code y cc maxL ret :: ws') (hlen : (lg_sl av).length ≤ maxL)
    (body : ∀ (p : Program) (e : Env) (s : State) (m : MethodId) (below : List Frame) (meth : Method) (c : Code) (ls : Array Slot), mb_Cx p s m meth c av.toArray cc maxL ret ws y.cls D Y (va_A w sz) → s.heap.size = sz → meth.name = y.name → va_P D vwCl w s.heap → va_D (va_A w sz) w → lv_has ls maxL (lv_args 0 av) → W p l e rm s m av.toArray below meth c s.heap [] 0 0 (MQ below Qc av.toArray s mc ms (va_A w sz)) (F0 m 0 ls [])) :
    Met l y ws rm (va_Pc av (mb_B D Y w sz)) Qc mc ms (va_A w sz) := by
  refine Met.ofW (cc := cc) (maxL := maxL) (ret := ret) hy hw ?_
  intro p e s m args below meth c s₁ B hml hv
  obtain ⟨rfl, hsz, hP, hG, hD0⟩ := hv
  have hts := atoms_spec (ws := ws) B.pre
  have hown : s.vm.findClass y.cls = some m.cls := findClass_of_methodNamed B.named
  have hnm : meth.name = y.name := (name_of_methodNamed B.named B.method).1
  have hl := lv_entry av (n := maxL) hlen
  rw [lg_entry_eq]
  generalize (lg_sl av ++ List.replicate (maxL - (lg_sl av).length) Slot.unset).toArray = ls at hl ⊢
  exact body p e s m below meth c ls ⟨B.exec, B.bytes, B.returns, hml, hts, hown, B.notSynchronized, fun q h => Or.inr (by omega), hG⟩ hsz hnm hP (hD0.self (sz := sz)) hl
theorem mb_ofWF {l : Launch} {y : MethodName} {ws ws' : List Cond} {rm : Room} {Pc : Array Value → State → Prop} {Qc : Array Value → State → Outcome → State → Prop} {mc ms : Nat} {free : Addr → Prop} {cc : ByteArray} {maxL : Nat} {ret : Option FieldType}
    (hy : plainFor y = true) (hw : ws = Cond.code y cc maxL ret :: ws')
    (body : ∀ p e s m args below meth c s₁, BodyLoose p l y (headSpec ws rm) cc maxL ret e s m args below meth c s₁ → c.maxLocals = maxL → Pc args s →
      W p l e (headSpec ws rm).room s m args below meth c s.heap [] 0 0 (MQ below Qc args s mc ms free) (entryFrame m args maxL)) : Met l y ws rm Pc Qc mc ms free := by
  refine MetFree.of_bodySF (code := cc) (maxLocals := maxL) (ret := ret) hy ?_ ?_
  · intro args s m h hn
    obtain ⟨meth, c, h1, h2, h3, h4, h5, h6, -, -⟩ := Cond.code_spec hn (atoms_spec (ws := ws) h _ (by rw [hw]; exact List.mem_cons_self))
    exact ⟨meth, c, h1, h2, h3, h4, h5, h6⟩
  · intro p e s m args below meth c s₁ B hml hP _
    have hh0 : s₁.heap = s.heap := by rw [B.state]; rfl
    obtain ⟨t, a1, o, b1, b2, b3⟩ := body p e s m args below meth c s₁ B hml hP s₁ hh0 (Stand.of_body B)
    exact ⟨t, o, a1, b1, b2, ⟨b3.1, b3.2⟩⟩
theorem mb_beginF {l : Launch} {y : MethodName} {ws ws' : List Cond} {rm : Room} {cc : ByteArray} {maxL : Nat} {ret : Option FieldType} {av : List Value} {D : va_G} {Y : Nat → ClassId} {w : va_W} {sz : Nat} {Qc : Array Value → State → Outcome → State → Prop} {mc ms : Nat} (hy : plainFor y = true) (hw : ws = Cond.code y cc maxL ret :: ws') (hlen : (lg_sl av).length ≤ maxL)
    (body : ∀ (p : Program) (e : Env) (s : State) (m : MethodId) (below : List Frame) (meth : Method) (c : Code) (ls : Array Slot), mb_Cx p s m meth c av.toArray cc maxL ret ws y.cls D Y (va_A w sz) → s.heap.size = sz → meth.name = y.name → va_P D vwCl w s.heap → va_D (va_A w sz) w → lv_has ls maxL (lv_args 0 av) → W p l e rm s m av.toArray below meth c s.heap [] 0 0 (MQ below Qc av.toArray s mc ms (va_A w sz)) (F0 m 0 ls [])) :
    Met l y ws rm (va_Pc av (mb_B D Y w sz)) Qc mc ms (va_A w sz) := by
  refine mb_ofWF (cc := cc) (maxL := maxL) (ret := ret) hy hw ?_
  intro p e s m args below meth c s₁ B hml hv
  obtain ⟨rfl, hsz, hP, hG, hD0⟩ := hv
  have hts := atoms_spec (ws := ws) B.pre
  have hown : s.vm.findClass y.cls = some m.cls := findClass_of_methodNamed B.named
  have hnm : meth.name = y.name := (name_of_methodNamed B.named B.method).1
  have hl := lv_entry av (n := maxL) hlen
  rw [lg_entry_eq]
  generalize (lg_sl av ++ List.replicate (maxL - (lg_sl av).length) Slot.unset).toArray = ls at hl ⊢
  exact body p e s m below meth c ls ⟨B.exec, B.bytes, B.returns, hml, hts, hown, B.notSynchronized, fun q h => Or.inr (by omega), hG⟩ hsz hnm hP (hD0.self (sz := sz)) hl
section MB
variable {p : Program} {l : Launch} {e : Env} {R : Room} {s : State} {m : MethodId} {args : Array Value} {below : List Frame} {meth : Method} {c : Code} {H : Heap} {locs : List Loc} {cells slots : Nat} {Q : State → Prop} {cc : ByteArray} {nL : Nat} {ret : Option FieldType} {Ts : List Cond} {own : String} {D : va_G} {Y : Nat → ClassId} {A : Nat → Prop} {pc : Nat} {ls : Array Slot} {rest st0 : List Value} {mc ms : Nat} {ws wc wr : va_W} {a : Array Value}
/-- the ends -/
theorem mb_ri {S : Type} {K : Int32 → S → Prop} {wf : S → va_W} {ty : FieldType} (C : mb_Cx p s m meth c args cc nL (some ty) Ts own D Y A) {r : Int32} {u : S} (hn : narrow ty (.int r) = .int r) (hF : K r u) (hP : va_P D vwCl (wf u) H) (hD : va_D A (wf u)) (hS : va_S A s.heap H locs) (hd : decode cc pc = .ok (.ireturn, 1)) (hc : cells ≤ mc) (hs : slots ≤ ms) :
    W p l e R s m args below meth c H locs cells slots (MQ below (va_Qi K (fun u t => mb_T D A (wf u) t) A) args s mc ms A) (F0 m pc ls [.int r]) := by
  obtain ⟨hx, hb, hr, hml, hts, hown, hlocks, hA, hG⟩ := C
  refine W.widen hc hs ?_
  exact W.zret hx hb hr hn (fun t ht hW => ⟨⟨r, u, rfl, hF, by rw [ht]; exact hP, hD⟩, hS.F ht⟩) hS.2.2 hd
theorem mb_rv {S : Type} {K : S → Prop} {wf : S → va_W} (C : mb_Cx p s m meth c args cc nL none Ts own D Y A) {u : S} (hF : K u) (hP : va_P D vwCl (wf u) H) (hD : va_D A (wf u)) (hS : va_S A s.heap H locs) (hd : decode cc pc = .ok (.return_, 1)) (hc : cells ≤ mc) (hs : slots ≤ ms) :
    W p l e R s m args below meth c H locs cells slots (MQ below (va_Qv K (fun u t => mb_T D A (wf u) t) A) args s mc ms A) (F0 m pc ls []) := by
  obtain ⟨hx, hb, hr, hml, hts, hown, hlocks, hA, hG⟩ := C
  refine W.widen hc hs ?_
  exact W.vret hx hb hr (fun t ht hW => ⟨⟨u, rfl, hF, by rw [ht]; exact hP, hD⟩, hS.F ht⟩) hS.2.2 hd
/-- a callee's start -/
theorem mb_preS {As : List Value} (hG : mb_G D Y s) (hP : va_P D vwCl wc H) (hD : va_D A wc) : PreS s H (va_Pc As (mb_B D Y wc H.size)) As :=
  ⟨mb_blind, fun U hU hW => ⟨rfl, by rw [hU], by rw [hU]; exact hP, hG.warm hW, hD.weaken (fun _ _ _ _ => trivial)⟩⟩
theorem mb_preV {As : List Value} {b : Nat} (hG : mb_G D Y s) (hP : va_P D vwCl wc H) (hD : va_D A wc) (q0 : Nat) {ci : Nat} {q : vw_C} {fs : List Value} (he : wc[q0]? = some (b, .inr (ci, fs))) (hc : vwCl[ci]? = some q) : PreV s H q.1 b (va_Pc (.ref b :: As) (mb_B D Y wc H.size)) As :=
  ⟨mb_blind, va_recv hG.1 hP hc he, fun U hU hW => ⟨rfl, by rw [hU], by rw [hU]; exact hP, hG.warm hW, hD.weaken (fun _ _ _ _ => trivial)⟩⟩
theorem mb_P0 : va_P D vwCl [] H := fun k q h => by simp at h
theorem mb_D0 : va_D A [] := ⟨fun i j p q h => by simp at h, fun k q h => by simp at h⟩
/-- behind a call of a method without a world -/
theorem mb_keepE {H1 : Heap} (hP : va_P D vwCl ws H) (hk : ∀ q : Nat, q < H.size → ¬ va_A [] H.size q → H1[q]? = H[q]?) : va_P D vwCl ws H1 :=
  hP.kept fun k q hq => hk q.1 (hP k q hq).lt (fun h => by
    rcases h with ⟨k2, e2, h2⟩ | h2
    · simp at h2
    · exact absurd (hP k q hq).lt (by omega))
theorem mb_freeE (hS : va_S A s.heap H locs) (hA : ∀ q : Nat, s.heap.size ≤ q → A q) : ∀ q, va_A [] H.size q → A q := fun q h => by
  rcases h with ⟨k2, e2, h2⟩ | h2
  · simp at h2
  · exact hA q (Nat.le_trans hS.1 h2)
theorem mb_cE {K : Int32 → Unit → Prop} (hP : va_P D vwCl ws H) (hS : va_S A s.heap H locs) (hA : ∀ q : Nat, s.heap.size ≤ q → A q) (hr : va_Run p l e R s m args below meth c H locs cells slots mc ms (F0 m pc ls st0) rest (va_Qi K (fun _ t => mb_T D (va_A [] H.size) [] t) (va_A [] H.size) a) (va_A [] H.size))
    (kk : ∀ (r : Int32) (H1 : Heap) (locs1 : List Loc), K r () → va_P D vwCl ws H1 → va_S A s.heap H1 locs1 → W p l e R s m args below meth c H1 locs1 (cells + mc) (slots + ms) Q (F0 m (pc + 3) ls (.int r :: rest))) : W p l e R s m args below meth c H locs cells slots Q (F0 m pc ls st0) :=
  va_calli hr hS (fun q _ h => mb_freeE hS hA q h) (mb_freeE hS hA) (fun r _ t H1 locs1 ht hvm hw hB hz hk hS1 => kk r H1 locs1 hw (mb_keepE hP hk) hS1)
/-- .. that had the caller's whole world -/
theorem mb_freeW (hD : va_D A ws) (hS : va_S A s.heap H locs) (hA : ∀ q : Nat, s.heap.size ≤ q → A q) : ∀ q, va_A ws H.size q → A q := fun q h => by
  rcases h with ⟨k2, e2, h2⟩ | h2
  · exact hD.2 k2 _ h2
  · exact hA q (Nat.le_trans hS.1 h2)
theorem mb_cW {S : Type} {K : Int32 → S → Prop} {wf : S → va_W} (hD : va_D A ws) (hS : va_S A s.heap H locs) (hA : ∀ q : Nat, s.heap.size ≤ q → A q) (hr : va_Run p l e R s m args below meth c H locs cells slots mc ms (F0 m pc ls st0) rest (va_Qi K (fun u t => mb_T D (va_A ws H.size) (wf u) t) (va_A ws H.size) a) (va_A ws H.size))
    (kk : ∀ (r : Int32) (u : S) (H1 : Heap) (locs1 : List Loc), K r u → va_P D vwCl (wf u) H1 → va_D A (wf u) → va_S A s.heap H1 locs1 → W p l e R s m args below meth c H1 locs1 (cells + mc) (slots + ms) Q (F0 m (pc + 3) ls (.int r :: rest))) : W p l e R s m args below meth c H locs cells slots Q (F0 m pc ls st0) :=
  va_calli hr hS (fun q _ h => mb_freeW hD hS hA q h) (mb_freeW hD hS hA) (fun r u t H1 locs1 ht hvm hw hB hz hk hS1 => kk r u H1 locs1 hw (by rw [← ht]; exact hB.1) (hB.2.weaken fun k q _ h => mb_freeW hD hS hA q.1 h) hS1)
theorem mb_cWv {S : Type} {K : S → Prop} {wf : S → va_W} (hD : va_D A ws) (hS : va_S A s.heap H locs) (hA : ∀ q : Nat, s.heap.size ≤ q → A q) (hr : va_Run p l e R s m args below meth c H locs cells slots mc ms (F0 m pc ls st0) rest (va_Qv K (fun u t => mb_T D (va_A ws H.size) (wf u) t) (va_A ws H.size) a) (va_A ws H.size))
    (kk : ∀ (u : S) (H1 : Heap) (locs1 : List Loc), K u → va_P D vwCl (wf u) H1 → va_D A (wf u) → va_S A s.heap H1 locs1 → W p l e R s m args below meth c H1 locs1 (cells + mc) (slots + ms) Q (F0 m (pc + 3) ls rest)) : W p l e R s m args below meth c H locs cells slots Q (F0 m pc ls st0) :=
  va_callv hr hS (fun q _ h => mb_freeW hD hS hA q h) (mb_freeW hD hS hA) (fun u t H1 locs1 ht hvm hw hB hz hk hS1 => kk u H1 locs1 hw (by rw [← ht]; exact hB.1) (hB.2.weaken fun k q _ h => mb_freeW hD hS hA q.1 h) hS1)
/-- .. that had a part of it -/
theorem mb_cP {S : Type} {K : Int32 → S → Prop} {wf : S → va_W} (hP : va_P D vwCl ws H) (hD : va_D A ws) (hS : va_S A s.heap H locs) (hA : ∀ q : Nat, s.heap.size ≤ q → A q) (isC isR : List Nat) (hC : isC.map (fun i => ws[i]?) = wc.map some) (hR : isR.map (fun i => ws[i]?) = wr.map some) (hn : va_nd isR = true) (hdis : ∀ i ∈ isR, i ∉ isC)
    (hr : va_Run p l e R s m args below meth c H locs cells slots mc ms (F0 m pc ls st0) rest (va_Qi K (fun u t => mb_T D (va_A wc H.size) (wf u) t) (va_A wc H.size) a) (va_A wc H.size))
    (kk : ∀ (r : Int32) (u : S) (H1 : Heap) (locs1 : List Loc), K r u → va_P D vwCl (wr ++ wf u) H1 → va_D A (wr ++ wf u) → va_S A s.heap H1 locs1 → W p l e R s m args below meth c H1 locs1 (cells + mc) (slots + ms) Q (F0 m (pc + 3) ls (.int r :: rest))) : W p l e R s m args below meth c H locs cells slots Q (F0 m pc ls st0) := by
  have hFc := va_free (wc := wc) hD hS hA isC hC
  refine va_calli hr hS (fun q _ h => hFc q h) hFc (fun r u t H1 locs1 ht hvm hw hB hz hk hS1 => ?_)
  obtain ⟨hP1, hD1⟩ := hB
  rw [ht] at hP1
  obtain ⟨hP2, hD2⟩ := va_join hP hD isC isR hC hR hn hdis hk hFc hP1 hD1
  exact kk r u H1 locs1 hw hP2 hD2 hS1
theorem mb_cPv {S : Type} {K : S → Prop} {wf : S → va_W} (hP : va_P D vwCl ws H) (hD : va_D A ws) (hS : va_S A s.heap H locs) (hA : ∀ q : Nat, s.heap.size ≤ q → A q) (isC isR : List Nat) (hC : isC.map (fun i => ws[i]?) = wc.map some) (hR : isR.map (fun i => ws[i]?) = wr.map some) (hn : va_nd isR = true) (hdis : ∀ i ∈ isR, i ∉ isC)
    (hr : va_Run p l e R s m args below meth c H locs cells slots mc ms (F0 m pc ls st0) rest (va_Qv K (fun u t => mb_T D (va_A wc H.size) (wf u) t) (va_A wc H.size) a) (va_A wc H.size))
    (kk : ∀ (u : S) (H1 : Heap) (locs1 : List Loc), K u → va_P D vwCl (wr ++ wf u) H1 → va_D A (wr ++ wf u) → va_S A s.heap H1 locs1 → W p l e R s m args below meth c H1 locs1 (cells + mc) (slots + ms) Q (F0 m (pc + 3) ls rest)) : W p l e R s m args below meth c H locs cells slots Q (F0 m pc ls st0) := by
  have hFc := va_free (wc := wc) hD hS hA isC hC
  refine va_callv hr hS (fun q _ h => hFc q h) hFc (fun u t H1 locs1 ht hvm hw hB hz hk hS1 => ?_)
  obtain ⟨hP1, hD1⟩ := hB
  rw [ht] at hP1
  obtain ⟨hP2, hD2⟩ := va_join hP hD isC isR hC hR hn hdis hk hFc hP1 hD1
  exact kk u H1 locs1 hw hP2 hD2 hS1
end MB

def gw0 (Y : Nat → ClassId) (o : Nat) (a : Nat → Nat) (M : mb_m) : va_W := [(o, .inr (0, [.ref (a 0), .ref (a 1), .ref (a 2), .ref (a 3), .ref (a 4)])), (a 0, .inl (Y 0, 64, .inl (M 0))), (a 1, .inl (Y 0, 64, .inl (M 1))), (a 2, .inl (Y 0, 99, .inl (M 2))), (a 3, .inl (Y 0, 8, .inl (M 3))), (a 4, .inl (Y 0, 8, .inl (M 4)))]
def gw1 (Y : Nat → ClassId) (o : Nat) (a : Nat → Nat) (M : mb_m) : va_W := [(o, .inr (1, [.ref (a 0), .ref (a 1), .ref (a 2), .int (M 3 0), .int (M 4 0), .int (M 5 0), .int (M 6 0)]))]
def gw2 (Y : Nat → ClassId) (o : Nat) (a : Nat → Nat) (M : mb_m) : va_W := [(o, .inr (2, [.ref (a 0)])), (a 0, .inl (Y 0, 64, .inl (M 0)))]
def gw3 (Y : Nat → ClassId) (o : Nat) (a : Nat → Nat) (M : mb_m) : va_W := [(o, .inr (3, [.ref (a 0), .int (M 1 0)])), (a 0, .inl (Y 0, 20, .inl (M 0)))]
def gw4 (Y : Nat → ClassId) (o : Nat) (a : Nat → Nat) (M : mb_m) : va_W := [(o, .inr (4, [.int (M 0 0), .int (M 1 0), .ref (a 2), .ref (a 3), .ref (a 4), .int (M 5 0), .int (M 6 0), .int (M 7 0), .int (M 8 0), .int (M 9 0)])), (a 2, .inl (Y 0, 40, .inl (M 2))), (a 3, .inl (Y 0, 8, .inl (M 3))), (a 4, .inl (Y 0, 200, .inl (M 4)))]
def gw5 (Y : Nat → ClassId) (o : Nat) (a : Nat → Nat) (M : mb_m) : va_W := [(o, .inr (5, [.ref (a 0)])), (a 0, .inl (Y 0, 64, .inl (M 0)))]
def gw6 (Y : Nat → ClassId) (o : Nat) (a : Nat → Nat) (M : mb_m) : va_W := [(o, .inr (6, [.ref (a 0), .ref (a 1), .ref (a 2), .int (M 3 0)])), (a 0, .inl (Y 0, 20, .inl (M 0))), (a 1, .inl (Y 0, 20, .inl (M 1))), (a 2, .inl (Y 0, 20, .inl (M 2)))]
