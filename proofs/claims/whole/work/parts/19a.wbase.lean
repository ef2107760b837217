/-! THE LAW'S OWN SMALL METHODS: each calls the bench and catches -/
def mb_NC (U : State) : Prop := va_Nc eA eO U ∧ va_Nc eS eO U ∧ va_Nc eS eA U
theorem mb_NC.moved {u U : State} (hvm : u.vm.Alike U.vm) (h : mb_NC u) : mb_NC U := ⟨h.1.moved hvm, h.2.1.moved hvm, h.2.2.moved hvm⟩
def mb_BL (D : va_G) (Y : Nat → ClassId) (w : va_W) (sz : Nat) (U : State) : Prop := mb_BX D Y w sz U ∧ mb_NC U
theorem mb_blindL {av : List Value} {D : va_G} {Y : Nat → ClassId} {w : va_W} {sz : Nat} : FrameBlind (va_Pc av (mb_BL D Y w sz)) := fun a U g mk q => by
  obtain ⟨q0, q1, q2⟩ := q
  exact ⟨q0, (mb_blindX a U g mk ⟨q0, q1⟩).2, q2.moved (U := U.calling g mk a) (Vm.Alike.refl U.vm)⟩
def mb_CL (l : Launch) (p : Program) (s : State) (m : MethodId) (meth : Method) (c : Code) (args : Array Value) (cc : ByteArray) (nL : Nat) (ret : Option FieldType) (Ts : List Cond) (own : String) (D : va_G) (Y : Nat → ClassId) (A : Nat → Prop) (hh : List (Nat × Nat × Nat × Nat)) : Prop :=
  mb_Cx p s m meth c args cc nL ret Ts own D Y A ∧ c.exceptionTable.toList = tableOf hh ∧ mb_X A s s.heap ∧ l.stackTraces = false ∧ mb_NC s
theorem mb_ofWH {l : Launch} {y : MethodName} {ws ws' : List Cond} {rm : Room} {Pc : Array Value → State → Prop} {Qc : Array Value → State → Outcome → State → Prop} {mc ms : Nat} {free : Addr → Prop} {cc : ByteArray} {maxL : Nat} {ret : Option FieldType} {hh : List (Nat × Nat × Nat × Nat)}
    (hy : plainName y.cls = true) (hw : ws = Cond.codeWith y cc maxL ret hh :: ws')
    (body : ∀ p e s m args below meth c s₁, BodyLoose p l y (headSpec ws rm) cc maxL ret e s m args below meth c s₁ → c.maxLocals = maxL → Pc args s →
      W p l e (headSpec ws rm).room s m args below meth c s.heap [] 0 0 (MQ below Qc args s mc ms free) (entryFrame m args maxL)) : Met l y ws rm Pc Qc mc ms free := by
  refine MetFree.of_bodyS (code := cc) (maxLocals := maxL) (ret := ret) hy ?_ ?_
  · intro args s m h hn
    obtain ⟨m9, meth, c, hn9, h1, h2, h3, h4, -, h5, h6, -⟩ := Cond.codeWith_spec (atoms_spec (ws := ws) h _ (by rw [hw]; exact List.mem_cons_self))
    cases hn.symm.trans hn9
    exact ⟨meth, c, h1, h2, h3, h4, h5, h6⟩
  · intro p e s m args below meth c s₁ B hml hP _
    have hh0 : s₁.heap = s.heap := by rw [B.state]; rfl
    obtain ⟨t, a1, o, b1, b2, b3⟩ := body p e s m args below meth c s₁ B hml hP s₁ hh0 (Stand.of_body B)
    exact ⟨t, o, a1, b1, b2, b3⟩
theorem mbl_begin {l : Launch} {y : MethodName} {ws ws' : List Cond} {rm : Room} {cc : ByteArray} {maxL : Nat} {ret : Option FieldType} {av : List Value} {D : va_G} {Y : Nat → ClassId} {w : va_W} {sz : Nat} {Qc : Array Value → State → Outcome → State → Prop} {mc ms : Nat} {hh : List (Nat × Nat × Nat × Nat)} (hl0 : l.stackTraces = false) (hy : plainName y.cls = true) (hw : ws = Cond.codeWith y cc maxL ret hh :: ws') (hlen : (lg_sl av).length ≤ maxL)
    (body : ∀ (p : Program) (e : Env) (s : State) (m : MethodId) (below : List Frame) (meth : Method) (c : Code) (ls : Array Slot), mb_CL l p s m meth c av.toArray cc maxL ret ws y.cls D Y (va_A w sz) hh → s.heap.size = sz → va_P D vwCl w s.heap → va_D (va_A w sz) w → lv_has ls maxL (lv_args 0 av) → W p l e rm s m av.toArray below meth c s.heap [] 0 0 (MQ below Qc av.toArray s mc ms (va_A w sz)) (F0 m 0 ls [])) :
    Met l y ws rm (va_Pc av (mb_BL D Y w sz)) Qc mc ms (va_A w sz) := by
  refine mb_ofWH (cc := cc) (maxL := maxL) (ret := ret) hy hw ?_
  intro p e s m args below meth c s₁ B hml hv
  obtain ⟨rfl, ⟨⟨hsz, hP, hG, hD0⟩, hX⟩, hN⟩ := hv
  have hts := atoms_spec (ws := ws) B.pre
  have hT := vx_table (x := y) B (hts _ (by rw [hw]; exact List.mem_cons_self))
  have hown : s.vm.findClass y.cls = some m.cls := findClass_of_methodNamed B.named
  have hl := lv_entry av (n := maxL) hlen
  rw [lg_entry_eq]
  generalize (lg_sl av ++ List.replicate (maxL - (lg_sl av).length) Slot.unset).toArray = ls at hl ⊢
  exact body p e s m below meth c ls ⟨⟨B.exec, B.bytes, B.returns, hml, hts, hown, B.notSynchronized, fun q h => Or.inr (by omega), hG⟩, hT, hX, hl0, hN⟩ hsz hP (hD0.self (sz := sz)) hl
section MBL
variable {p : Program} {l : Launch} {e : Env} {R : Room} {s : State} {m : MethodId} {args : Array Value} {below : List Frame} {meth : Method} {c : Code} {H : Heap} {locs : List Loc} {cells slots : Nat} {Q : State → Prop} {cc : ByteArray} {nL : Nat} {ret : Option FieldType} {Ts : List Cond} {own : String} {D : va_G} {Y : Nat → ClassId} {A : Nat → Prop} {pc : Nat} {ls : Array Slot} {rest st0 : List Value} {mc ms mc1 ms1 : Nat} {ws wc wr : va_W} {a : Array Value} {S : Type} {hh : List (Nat × Nat × Nat × Nat)}
theorem mbl_preV {As : List Value} {b : Nat} (C : mb_CL l p s m meth c args cc nL ret Ts own D Y A hh) (hP : va_P D vwCl wc H) (hD : va_D A wc) (hS : va_S A s.heap H locs) (q0 : Nat) {ci : Nat} {q : vw_C} {fs : List Value} (he : wc[q0]? = some (b, .inr (ci, fs))) (hc : vwCl[ci]? = some q) : PreV s H q.1 b (va_Pc (.ref b :: As) (mb_BX D Y wc H.size)) As := by
  obtain ⟨⟨hx, hb, hr, hml, hts, hown, hlocks, hA, hG⟩, hT, hX, hl0, hN⟩ := C
  exact ⟨mb_blindX, va_recv hG.1 hP hc he, fun U hU hW => ⟨rfl, ⟨by rw [hU], by rw [hU]; exact hP, hG.warm hW, hD.weaken (fun _ _ _ _ => trivial)⟩, hX.to hS (mb_freeW hD hS hA) hW.alike hU⟩⟩
/-- a call with the whole world, that may throw -/
theorem mbl_cW {K : Int32 → S → Prop} {KX : String → S → Prop} {wf : S → va_W} (C : mb_CL l p s m meth c args cc nL ret Ts own D Y A hh) (hD : va_D A ws) (hS : va_S A s.heap H locs)
    (hr : vx_Run p l e R s m args below meth c H locs cells slots mc1 ms1 (F0 m pc ls st0) rest (va_Qi K (fun u t => mb_T D (va_A ws H.size) (wf u) t) (va_A ws H.size) a) (mb_XC D (va_A ws H.size) KX wf) (va_A ws H.size))
    (kx : ∀ (E : String) (ce : Cell) (q9 : Addr) (u : S) (H1 : Heap) (locs1 : List Loc), KX E u → va_P D vwCl (wf u) H1 → va_D A (wf u) → va_S A s.heap H1 locs1 → H1[q9]? = some ce → ce.vm = .none → s.vm.findClass E = some ce.cls → vx_W p l e R s m args below meth c H1 locs1 (cells + mc1) (slots + ms1) Q (F0 m pc ls rest) q9)
    (kk : ∀ (r : Int32) (u : S) (H1 : Heap) (locs1 : List Loc), K r u → va_P D vwCl (wf u) H1 → va_D A (wf u) → va_S A s.heap H1 locs1 → W p l e R s m args below meth c H1 locs1 (cells + mc1) (slots + ms1) Q (F0 m (pc + 3) ls (.int r :: rest))) : W p l e R s m args below meth c H locs cells slots Q (F0 m pc ls st0) := by
  have hA := C.1.2.2.2.2.2.2.2.1
  have hF := mb_freeW hD hS hA
  refine vx_calli hr hS (fun q _ h => hF q h) hF (fun q _ h => hF q h) (fun E ce q9 u t H1 locs1 ht hvm _ hw hz hk hS1 hce hcv hcl => ?_) (fun r u t H1 locs1 ht hvm hw hB hz hk hS1 => ?_)
  · exact kx E ce q9 u H1 locs1 hw.1 (by rw [← ht]; exact hw.2.1) (hw.2.2.weaken fun k q _ h => hF q.1 h) hS1 hce hcv hcl
  · exact kk r u H1 locs1 hw (by rw [← ht]; exact hB.1) (hB.2.weaken fun k q _ h => hF q.1 h) hS1
end MBL
/-- what the law knows behind such a method: its code c, the bench, the row of the answer -/
def mb_PW (P : Int → Int32 → mb_bs → Prop) (k : Int32) (u : mb_bs × (Nat → Int64)) : Prop := ∃ (c : Int) (r : Int32), (0 ≤ c ∧ c ≤ 3) ∧ k = zI c ∧ P c r u.1 ∧ (c = 0 → u.2 0 = r.toInt64)
def mb_PB (P : Int → Int32 → mb_bs → Prop) (k : Int32) (u : mb_bs × (Nat → Int64)) : Prop := ∃ (c : Int) (r : Int32), (0 ≤ c ∧ c ≤ 3) ∧ k = zI c ∧ (mb_isB r ∧ P c r u.1) ∧ (c = 0 → u.2 0 = r.toInt64)
def wO (Y : Nat → ClassId) (q : Nat) (f : Nat → Int64) : va_W := [(q, .inl (Y 2, 1, .inr (.inl f)))]
abbrev mb_nc : List String := ["java/lang/RuntimeException", "java/lang/Exception"]
theorem mb_in01 : vp_in (0 : Int32) 1 := by unfold vp_in; decide
