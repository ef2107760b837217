/-! THE LAW'S OWN SMALL METHODS: each calls the bench and catches -/
def mb_NC (U : State) : Prop := va_Nc eA eO U ∧ va_Nc eS eO U ∧ va_Nc eS eA U
theorem mb_NC.moved {u U : State} (hvm : u.vm.Alike U.vm) (h : mb_NC u) : mb_NC U := ⟨h.1.moved hvm, h.2.1.moved hvm, h.2.2.moved hvm⟩
def mb_BL (D : va_G) (Y : Nat → ClassId) (w : va_W) (sz : Nat) (U : State) : Prop := mb_BX D Y w sz U ∧ mb_NC U
theorem mb_blindL {av : List Value} {D : va_G} {Y : Nat → ClassId} {w : va_W} {sz : Nat} : FrameBlind (va_Pc av (mb_BL D Y w sz)) := fun a U g mk q => by
  obtain ⟨q0, q1, q2⟩ := q
  exact ⟨q0, (mb_blindX a U g mk ⟨q0, q1⟩).2, q2.moved (U := U.calling g mk a) (Vm.Alike.refl U.vm)⟩
def mb_CL (l : Launch) (p : Program) (s : State) (m : MethodId) (meth : Method) (c : Code) (args : Array Value) (cc : ByteArray) (nL : Nat) (ret : Option FieldType) (Ts : List Cond) (own : String) (D : va_G) (Y : Nat → ClassId) (A : Nat → Prop) (hh : List (Nat × Nat × Nat × Nat)) : Prop :=
  mb_Cx p s m meth c args cc nL ret Ts own D Y A ∧ c.exceptionTable.toList = tableOf hh ∧ mb_X A s s.heap ∧ l.stackTraces = false ∧ mb_NC s
theorem mb_ofWH {l : Launch} {y : MethodName} {ws ws' : List Cond} {rm : Room} {Pc : Array Value → State → Prop} {Qc : Array Value → State → Outcome → State → Prop} {mc ms : Nat} {free : Addr → Prop} {cc : ByteArray} {maxL : Nat} {ret : Option FieldType} {hh : List (Nat × Nat × Nat × Nat)}
    (hy : plainName y.cls = true) (hw : ws = Cond.codeWith y cc maxL ret hh :: ws')
    (body : ∀ p e s m args below meth c s₁, BodyLoose p l y (headSpec ws rm) cc maxL ret e s m args below meth c s₁ → c.maxLocals = maxL → Pc args s →
      W p l e (headSpec ws rm).room s m args below meth c s.heap [] 0 0 (MQ below Qc args s mc ms free) (entryFrame m args maxL)) : Met l y ws rm Pc Qc mc ms free := by
  refine MetFree.of_bodyS (code := cc) (maxLocals := maxL) (ret := ret) hy ?_ ?_
  · intro args s m h hn
    obtain ⟨m9, meth, c, hn9, h1, h2, h3, h4, -, h5, h6, -⟩ := Cond.codeWith_spec (atoms_spec (ws := ws) h _ (by rw [hw]; exact List.mem_cons_self))
    cases hn.symm.trans hn9
    exact ⟨meth, c, h1, h2, h3, h4, h5, h6⟩
  · intro p e s m args below meth c s₁ B hml hP _
    have hh0 : s₁.heap = s.heap := by rw [B.state]; rfl
    obtain ⟨t, a1, o, b1, b2, b3⟩ := body p e s m args below meth c s₁ B hml hP s₁ hh0 (Stand.of_body B)
    exact ⟨t, o, a1, b1, b2, b3⟩
theorem mbl_begin {l : Launch} {y : MethodName} {ws ws' : List Cond} {rm : Room} {cc : ByteArray} {maxL : Nat} {ret : Option FieldType} {av : List Value} {D : va_G} {Y : Nat → ClassId} {w : va_W} {sz : Nat} {Qc : Array Value → State → Outcome → State → Prop} {mc ms : Nat} {hh : List (Nat × Nat × Nat × Nat)} (hl0 : l.stackTraces = false) (hy : plainName y.cls = true) (hw : ws = Cond.codeWith y cc maxL ret hh :: ws') (hlen : (lg_sl av).length ≤ maxL)
    (body : ∀ (p : Program) (e : Env) (s : State) (m : MethodId) (below : List Frame) (meth : Method) (c : Code) (ls : Array Slot), mb_CL l p s m meth c av.toArray cc maxL ret ws y.cls D Y (va_A w sz) hh → s.heap.size = sz → va_P D vwCl w s.heap → va_D (va_A w sz) w → lv_has ls maxL (lv_args 0 av) → W p l e rm s m av.toArray below meth c s.heap [] 0 0 (MQ below Qc av.toArray s mc ms (va_A w sz)) (F0 m 0 ls [])) :
    Met l y ws rm (va_Pc av (mb_BL D Y w sz)) Qc mc ms (va_A w sz) := by
  refine mb_ofWH (cc := cc) (maxL := maxL) (ret := ret) hy hw ?_
  intro p e s m args below meth c s₁ B hml hv
  obtain ⟨rfl, ⟨⟨hsz, hP, hG, hD0⟩, hX⟩, hN⟩ := hv
  have hts := atoms_spec (ws := ws) B.pre
  have hT := vx_table (x := y) B (hts _ (by rw [hw]; exact List.mem_cons_self))
  have hown : s.vm.findClass y.cls = some m.cls := findClass_of_methodNamed B.named
  have hl := lv_entry av (n := maxL) hlen
  rw [lg_entry_eq]
  generalize (lg_sl av ++ List.replicate (maxL - (lg_sl av).length) Slot.unset).toArray = ls at hl ⊢
  exact body p e s m below meth c ls ⟨⟨B.exec, B.bytes, B.returns, hml, hts, hown, B.notSynchronized, fun q h => Or.inr (by omega), hG⟩, hT, hX, hl0, hN⟩ hsz hP (hD0.self (sz := sz)) hl
section MBL
variable {p : Program} {l : Launch} {e : Env} {R : Room} {s : State} {m : MethodId} {args : Array Value} {below : List Frame} {meth : Method} {c : Code} {H : Heap} {locs : List Loc} {cells slots : Nat} {Q : State → Prop} {cc : ByteArray} {nL : Nat} {ret : Option FieldType} {Ts : List Cond} {own : String} {D : va_G} {Y : Nat → ClassId} {A : Nat → Prop} {pc : Nat} {ls : Array Slot} {rest st0 : List Value} {mc ms mc1 ms1 : Nat} {ws wc wr : va_W} {a : Array Value} {S : Type} {hh : List (Nat × Nat × Nat × Nat)}
theorem mbl_preV {As : List Value} {b : Nat} (C : mb_CL l p s m meth c args cc nL ret Ts own D Y A hh) (hP : va_P D vwCl wc H) (hD : va_D A wc) (hS : va_S A s.heap H locs) (q0 : Nat) {ci : Nat} {q : vw_C} {fs : List Value} (he : wc[q0]? = some (b, .inr (ci, fs))) (hc : vwCl[ci]? = some q) : PreV s H q.1 b (va_Pc (.ref b :: As) (mb_BX D Y wc H.size)) As := by
  obtain ⟨⟨hx, hb, hr, hml, hts, hown, hlocks, hA, hG⟩, hT, hX, hl0, hN⟩ := C
  exact ⟨mb_blindX, va_recv hG.1 hP hc he, fun U hU hW => ⟨rfl, ⟨by rw [hU], by rw [hU]; exact hP, hG.warm hW, hD.weaken (fun _ _ _ _ => trivial)⟩, hX.to hS (mb_freeW hD hS hA) hW.alike hU⟩⟩
/-- a call with the whole world, that may throw -/
theorem mbl_cW {K : Int32 → S → Prop} {KX : String → S → Prop} {wf : S → va_W} (C : mb_CL l p s m meth c args cc nL ret Ts own D Y A hh) (hD : va_D A ws) (hS : va_S A s.heap H locs)
    (hr : vx_Run p l e R s m args below meth c H locs cells slots mc1 ms1 (F0 m pc ls st0) rest (va_Qi K (fun u t => mb_T D (va_A ws H.size) (wf u) t) (va_A ws H.size) a) (mb_XC D (va_A ws H.size) KX wf) (va_A ws H.size))
    (kx : ∀ (E : String) (ce : Cell) (q9 : Addr) (u : S) (H1 : Heap) (locs1 : List Loc), KX E u → va_P D vwCl (wf u) H1 → va_D A (wf u) → va_S A s.heap H1 locs1 → H1[q9]? = some ce → ce.vm = .none → s.vm.findClass E = some ce.cls → vx_W p l e R s m args below meth c H1 locs1 (cells + mc1) (slots + ms1) Q (F0 m pc ls rest) q9)
    (kk : ∀ (r : Int32) (u : S) (H1 : Heap) (locs1 : List Loc), K r u → va_P D vwCl (wf u) H1 → va_D A (wf u) → va_S A s.heap H1 locs1 → W p l e R s m args below meth c H1 locs1 (cells + mc1) (slots + ms1) Q (F0 m (pc + 3) ls (.int r :: rest))) : W p l e R s m args below meth c H locs cells slots Q (F0 m pc ls st0) := by
  have hA := C.1.2.2.2.2.2.2.2.1
  have hF := mb_freeW hD hS hA
  refine vx_calli hr hS (fun q _ h => hF q h) hF (fun q _ h => hF q h) (fun E ce q9 u t H1 locs1 ht hvm _ hw hz hk hS1 hce hcv hcl => ?_) (fun r u t H1 locs1 ht hvm hw hB hz hk hS1 => ?_)
  · exact kx E ce q9 u H1 locs1 hw.1 (by rw [← ht]; exact hw.2.1) (hw.2.2.weaken fun k q _ h => hF q.1 h) hS1 hce hcv hcl
  · exact kk r u H1 locs1 hw (by rw [← ht]; exact hB.1) (hB.2.weaken fun k q _ h => hF q.1 h) hS1
end MBL
/-- the law's five rows of numbers, and the bench -/
def wR (Y : Nat → ClassId) (ad : Nat → Nat) (F : mb_m) : va_W := [(ad 0, .inl (Y 0, 3, .inl (F 0))), (ad 1, .inl (Y 0, 24, .inl (F 1))), (ad 2, .inl (Y 0, 4, .inl (F 2))), (ad 3, .inl (Y 0, 3, .inl (F 3))), (ad 4, .inl (Y 0, 4, .inl (F 4)))]
def wW (Y : Nat → ClassId) (o : Nat) (a aa ad : Nat → Nat) (b : mb_bs) (F : mb_m) : va_W := wR Y ad F ++ wB Y o a aa b
abbrev mb_S : Type := mb_bs × mb_m
theorem wW_p {Y : Nat → ClassId} {o : Nat} {a aa ad : Nat → Nat} {b : mb_bs} {F : mb_m} : (wW Y o a aa ad b F).Perm (wB Y o a aa b ++ wR Y ad F) := List.perm_append_comm
/-- what a method of the law's own, that catches nothing, knows all the way -/
def mb_CM (l : Launch) (p : Program) (s : State) (m : MethodId) (meth : Method) (c : Code) (args : Array Value) (cc : ByteArray) (nL : Nat) (ret : Option FieldType) (Ts : List Cond) (own : String) (D : va_G) (Y : Nat → ClassId) (A : Nat → Prop) : Prop :=
  mb_Cx p s m meth c args cc nL ret Ts own D Y A ∧ mb_X A s s.heap ∧ l.stackTraces = false ∧ mb_NC s
theorem mbm_begin {l : Launch} {y : MethodName} {ws ws' : List Cond} {rm : Room} {cc : ByteArray} {maxL : Nat} {ret : Option FieldType} {av : List Value} {D : va_G} {Y : Nat → ClassId} {w : va_W} {sz : Nat} {Qc : Array Value → State → Outcome → State → Prop} {mc ms : Nat} (hl0 : l.stackTraces = false) (hy : plainName y.cls = true) (hw : ws = Cond.code y cc maxL ret :: ws') (hlen : (lg_sl av).length ≤ maxL)
    (body : ∀ (p : Program) (e : Env) (s : State) (m : MethodId) (below : List Frame) (meth : Method) (c : Code) (ls : Array Slot), mb_CM l p s m meth c av.toArray cc maxL ret ws y.cls D Y (va_A w sz) → s.heap.size = sz → va_P D vwCl w s.heap → va_D (va_A w sz) w → lv_has ls maxL (lv_args 0 av) → W p l e rm s m av.toArray below meth c s.heap [] 0 0 (MQ below Qc av.toArray s mc ms (va_A w sz)) (F0 m 0 ls [])) :
    Met l y ws rm (va_Pc av (mb_BL D Y w sz)) Qc mc ms (va_A w sz) := by
  refine Met.ofW (cc := cc) (maxL := maxL) (ret := ret) hy hw ?_
  intro p e s m args below meth c s₁ B hml hv
  obtain ⟨rfl, ⟨⟨hsz, hP, hG, hD0⟩, hX⟩, hN⟩ := hv
  have hts := atoms_spec (ws := ws) B.pre
  have hown : s.vm.findClass y.cls = some m.cls := findClass_of_methodNamed B.named
  have hl := lv_entry av (n := maxL) hlen
  rw [lg_entry_eq]
  generalize (lg_sl av ++ List.replicate (maxL - (lg_sl av).length) Slot.unset).toArray = ls at hl ⊢
  exact body p e s m below meth c ls ⟨⟨B.exec, B.bytes, B.returns, hml, hts, hown, B.notSynchronized, fun q h => Or.inr (by omega), hG⟩, hX, hl0, hN⟩ hsz hP (hD0.self (sz := sz)) hl
section MBM
variable {p : Program} {l : Launch} {e : Env} {R : Room} {s : State} {m : MethodId} {args : Array Value} {below : List Frame} {meth : Method} {c : Code} {H : Heap} {locs : List Loc} {cells slots : Nat} {Q : State → Prop} {cc : ByteArray} {nL : Nat} {ret : Option FieldType} {Ts : List Cond} {own : String} {D : va_G} {Y : Nat → ClassId} {A : Nat → Prop} {ws : va_W}
theorem mbm_pre {As : List Value} (C : mb_CM l p s m meth c args cc nL ret Ts own D Y A) (hP : va_P D vwCl ws H) (hD : va_D A ws) (hS : va_S A s.heap H locs) : PreS s H (va_Pc As (mb_BL D Y ws H.size)) As := by
  obtain ⟨⟨hx, hb, hr, hml, hts, hown, hlocks, hA, hG⟩, hX, hl0, hN⟩ := C
  exact ⟨mb_blindL, fun U hU hW => ⟨rfl, ⟨⟨by rw [hU], by rw [hU]; exact hP, hG.warm hW, hD.weaken (fun _ _ _ _ => trivial)⟩, hX.to hS (mb_freeW hD hS hA) hW.alike hU⟩, hN.moved hW.alike⟩⟩
/-- where the law's 'at' begins: the script -/
def mb_BA (D : va_G) (Y : Nat → ClassId) (bs L : Nat) (xs : Nat → Int32) (sz : Nat) (U : State) : Prop := U.heap.size = sz ∧ va_X bs L xs U U.heap ∧ bs < sz ∧ mb_G D Y U
theorem mb_blindA {av : List Value} {bs L sz : Nat} {xs : Nat → Int32} : FrameBlind (va_Pc av (mb_BA D Y bs L xs sz)) := fun a U g mk q => by
  obtain ⟨q0, q1, q2, q3, q4⟩ := q
  exact ⟨q0, q1, va_X.moved (U := U.calling g mk a) (Vm.Alike.refl U.vm) q2, q3, q4.same (u := U) (U := U.calling g mk a) rfl⟩
theorem mbm_preA {As : List Value} {bs L : Nat} {xs : Nat → Int32} (C : mb_CM l p s m meth c args cc nL ret Ts own D Y A) (hX2 : va_X bs L xs s s.heap) (hbl : bs < s.heap.size) (hbA : ¬ A bs) (hS : va_S A s.heap H locs) : PreS s H (va_Pc As (mb_BA D Y bs L xs H.size)) As := by
  obtain ⟨⟨hx, hb, hr, hml, hts, hown, hlocks, hA, hG⟩, hX, hl0, hN⟩ := C
  exact ⟨mb_blindA, fun U hU hW => ⟨rfl, by rw [hU], by rw [hU]; exact va_X.moved hW.alike (hX2.kept (hS.2.1 bs hbl hbA)), Nat.lt_of_lt_of_le hbl hS.1, hG.warm hW⟩⟩
end MBM
set_option maxHeartbeats 4000000 in
set_option maxRecDepth 100000 in
theorem cnL_at (l : Launch) (D : va_G) (Y : Nat → ClassId) (bs L : Nat) (xs : Nat → Int32) (sz : Nat) (x1 : Int32) (K : Int32 → Prop) (hL : L ≤ 260) (h0 : ¬ x1 < 0) (hF : ∀ r, K r) : Met l yL_at wsL_at ({ frames := 0, cells := 0, slots := 0, locals := 0 } : Room) (va_Pc [.ref bs, .int x1] (mb_BA D Y bs L xs sz)) (va_Qi (fun r (_ : Unit) => K r) (fun _ t => mb_T D (va_A [] sz) [] t) (va_A [] sz)) 0 0 (va_A [] sz) := by
  refine Met.ofW (cc := cL_at) (maxL := 2) (ret := some .int) (by decide +kernel) rfl ?_
  intro p e s m args below meth c s₁ B hml hv
  obtain ⟨rfl, hsz, hX, hbl, hG⟩ := hv
  have hts := atoms_spec (ws := wsL_at) B.pre
  have hown : s.vm.findClass yL_at.cls = some m.cls := findClass_of_methodNamed B.named
  have hl := lv_entry ([.ref bs, .int x1] : List Value) (n := 2) (Nat.le_of_ble_eq_true rfl)
  rw [lg_entry_eq]
  generalize (lg_sl ([.ref bs, .int x1] : List Value) ++ List.replicate (2 - (lg_sl ([.ref bs, .int x1] : List Value)).length) Slot.unset).toArray = ls at hl ⊢
  have hl : lv_has ls 2 [(0, .ref bs), (1, .int x1)] := hl
  generalize hAe : va_A [] sz = A
  have C : mb_Cx p s m meth c ([.ref bs, .int x1] : List Value).toArray cL_at 2 (some .int) wsL_at RL D Y A := ⟨B.exec, B.bytes, B.returns, hml, hts, hown, B.notSynchronized, fun q h => by rw [← hAe]; exact Or.inr (by omega), hG⟩
  obtain ⟨hx, hb, hr, hml, hts, hown, hlocks, hA, hG⟩ := id C
  have hS : va_S A s.heap s.heap [] := va_S.rf
  have hbl : bs < s.heap.size := by rw [hsz]; exact hbl
  have hbA : ¬ A bs := by
    rw [← hAe]
    rintro (⟨k, e, h⟩ | h)
    · simp at h
    · omega
  refine lv_iload_n hx hb dL_at_0 rfl (lv_at hl 1 rfl) ?_
  refine lv_aload_n hx hb dL_at_1 rfl (lv_at hl 0 rfl) ?_
  refine va_slen hx hb hX hbl hbA hS dL_at_2 ?_
  refine lv_icmp_ge (tgt := 12) hx hb dL_at_3 (by decide) (fun c1 => ?_) (fun c1 => ?_)
  · refine lv_ldc (v := 1844040133) hx hb hown (hts (.constant RL 7 (1844040133)) (List.mem_of_getElem? (i := 1) rfl)) dL_at_12 ?_
    refine lv_iload_n hx hb dL_at_14 rfl (lv_at hl 1 rfl) ?_
    refine lv_iconst (v := 1) hx hb dL_at_15 (by decide) ?_
    refine lv_iadd hx hb dL_at_16 ?_
    refine lv_imul hx hb dL_at_17 ?_
    refine lv_ldc (v := 900974569) hx hb hown (hts (.constant RL 8 (900974569)) (List.mem_of_getElem? (i := 2) rfl)) dL_at_18 ?_
    refine lv_iadd hx hb dL_at_20 ?_
    exact mb_ri (S := Unit) (mc := 0) (ms := 0) (wf := fun _ => []) C rfl (u := ()) (hF _) mb_P0 mb_D0 hS dL_at_21 (Nat.le_of_ble_eq_true rfl) (Nat.le_of_ble_eq_true rfl)
  · have hin : vp_in x1 L := by
      rintro (h | h)
      · exact h0 h
      · refine c1 ?_
        have e1 : x1 = Int32.ofNat x1.toNatClampNeg := by
          have := Int32.ofInt_toInt x1
          have h9 : 0 ≤ x1.toInt := by
            have h8 : ¬ x1.toInt < (0 : Int32).toInt := fun h => h0 ((Int32.lt_iff_toInt_lt (x := x1) (y := 0)).mpr h)
            have h7 : (0 : Int32).toInt = 0 := rfl
            omega
          rw [← Int32.ofInt_toInt x1, ← Int32.ofInt_eq_ofNat]
          congr 1
          unfold Int32.toNatClampNeg
          rw [Int32.ofInt_toInt x1]
          omega
        rw [e1]
        have h7 : x1.toNatClampNeg < 2 ^ 31 := by
          unfold Int32.toNatClampNeg
          have := x1.toInt_lt
          omega
        exact (Int32.ofNat_le_ofNat (by omega) h7).mpr h
    refine lv_aload_n hx hb dL_at_6 rfl (lv_at hl 0 rfl) ?_
    refine lv_iload_n hx hb dL_at_7 rfl (lv_at hl 1 rfl) ?_
    refine va_sld hx hb hX hbl hbA hS hin dL_at_8 ?_
    refine lv_goto (tgt := 21) hx hb dL_at_9 (by decide) ?_
    exact mb_ri (S := Unit) (mc := 0) (ms := 0) (wf := fun _ => []) C rfl (u := ()) (hF _) mb_P0 mb_D0 hS dL_at_21 (Nat.le_of_ble_eq_true rfl) (Nat.le_of_ble_eq_true rfl)
