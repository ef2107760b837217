/-! METHODS THAT THROW -/
def mb_X (A : Nat → Prop) (U : State) (H : Heap) : Prop := vx_Zq Bundle.tN "UNASSIGNED_STACK" Bundle.steD A U H ∧ vx_Zq Bundle.tN "SUPPRESSED_SENTINEL" Bundle.listD A U H
theorem mb_X.to {A A1 : Nat → Prop} {s U : State} {H : Heap} {locs : List Loc} (hX : mb_X A s s.heap) (hS : va_S A s.heap H locs) (hF : ∀ q, A1 q → A q) (hvm : s.vm.Alike U.vm) (hU : U.heap = H) : mb_X A1 U U.heap := by
  rw [hU]
  exact ⟨((hX.1.kept hS.2.1).narrow hF).moved hvm, ((hX.2.kept hS.2.1).narrow hF).moved hvm⟩
def mb_BX (D : va_G) (Y : Nat → ClassId) (w : va_W) (sz : Nat) (U : State) : Prop := mb_B D Y w sz U ∧ mb_X (va_A w sz) U U.heap
theorem mb_blindX {av : List Value} {D : va_G} {Y : Nat → ClassId} {w : va_W} {sz : Nat} : FrameBlind (va_Pc av (mb_BX D Y w sz)) := fun a U g mk q => by
  obtain ⟨q0, q1, q2⟩ := q
  exact ⟨q0, (mb_blind a U g mk ⟨q0, q1⟩).2, q2.1.moved (U := U.calling g mk a) (Vm.Alike.refl U.vm), q2.2.moved (U := U.calling g mk a) (Vm.Alike.refl U.vm)⟩
def mb_CX (l : Launch) (p : Program) (s : State) (m : MethodId) (meth : Method) (c : Code) (args : Array Value) (cc : ByteArray) (nL : Nat) (ret : Option FieldType) (Ts : List Cond) (own : String) (D : va_G) (Y : Nat → ClassId) (A : Nat → Prop) : Prop :=
  mb_Cx p s m meth c args cc nL ret Ts own D Y A ∧ (∀ x ∈ c.exceptionTable.toList, False) ∧ mb_X A s s.heap ∧ l.stackTraces = false
/-- how a throw leaves: the state is u -/
abbrev mb_XC {S : Type} (D : va_G) (A : Nat → Prop) (KX : String → S → Prop) (wf : S → va_W) : String → State → State → Prop := vx_X (fun _ : S => True) (fun E u t => KX E u ∧ mb_T D A (wf u) t) A
theorem mbx_begin {l : Launch} {y : MethodName} {ws ws' : List Cond} {rm : Room} {cc : ByteArray} {maxL : Nat} {ret : Option FieldType} {av : List Value} {D : va_G} {Y : Nat → ClassId} {w : va_W} {sz : Nat} {Qc : Array Value → State → Outcome → State → Prop} {XC : String → State → State → Prop} {mc ms : Nat} (hl0 : l.stackTraces = false) (hy : plainName y.cls = true) (hw : ws = Cond.code y cc maxL ret :: ws') (hlen : (lg_sl av).length ≤ maxL)
    (body : ∀ (p : Program) (e : Env) (s : State) (m : MethodId) (below : List Frame) (meth : Method) (c : Code) (ls : Array Slot), mb_CX l p s m meth c av.toArray cc maxL ret ws y.cls D Y (va_A w sz) → s.heap.size = sz → meth.name = y.name → va_P D vwCl w s.heap → va_D (va_A w sz) w → lv_has ls maxL (lv_args 0 av) → W p l e rm s m av.toArray below meth c s.heap [] 0 0 (vx_MQ below Qc XC av.toArray s mc ms (va_A w sz)) (F0 m 0 ls [])) :
    vx_Met l y ws rm (va_Pc av (mb_BX D Y w sz)) Qc XC mc ms (va_A w sz) := by
  refine vx_ofW (cc := cc) (maxL := maxL) (ret := ret) hy hw ?_
  intro p e s m args below meth c s₁ B hml hT hv
  obtain ⟨rfl, ⟨hsz, hP, hG, hD0⟩, hX⟩ := hv
  have hts := atoms_spec (ws := ws) B.pre
  have hown : s.vm.findClass y.cls = some m.cls := findClass_of_methodNamed B.named
  have hnm : meth.name = y.name := (name_of_methodNamed B.named B.method).1
  have hl := lv_entry av (n := maxL) hlen
  rw [lg_entry_eq]
  generalize (lg_sl av ++ List.replicate (maxL - (lg_sl av).length) Slot.unset).toArray = ls at hl ⊢
  exact body p e s m below meth c ls ⟨⟨B.exec, B.bytes, B.returns, hml, hts, hown, B.notSynchronized, fun q h => Or.inr (by omega), hG⟩, hT, hX, hl0⟩ hsz hnm hP (hD0.self (sz := sz)) hl
section MBX
variable {p : Program} {l : Launch} {e : Env} {R : Room} {s : State} {m : MethodId} {args : Array Value} {below : List Frame} {meth : Method} {c : Code} {H : Heap} {locs : List Loc} {cells slots : Nat} {Q : State → Prop} {cc : ByteArray} {nL : Nat} {ret : Option FieldType} {Ts : List Cond} {own : String} {D : va_G} {Y : Nat → ClassId} {A : Nat → Prop} {pc : Nat} {ls : Array Slot} {rest st0 : List Value} {mc ms mc1 ms1 : Nat} {ws wc wr : va_W} {a : Array Value} {S S1 : Type} {Qc : Array Value → State → Outcome → State → Prop}
theorem mbx_preS {As : List Value} (C : mb_CX l p s m meth c args cc nL ret Ts own D Y A) (hP : va_P D vwCl wc H) (hD : va_D A wc) (hS : va_S A s.heap H locs) : PreS s H (va_Pc As (mb_BX D Y wc H.size)) As := by
  obtain ⟨⟨hx, hb, hr, hml, hts, hown, hlocks, hA, hG⟩, hT, hX, hl0⟩ := C
  exact ⟨mb_blindX, fun U hU hW => ⟨rfl, ⟨by rw [hU], by rw [hU]; exact hP, hG.warm hW, hD.weaken (fun _ _ _ _ => trivial)⟩, hX.to hS (mb_freeW hD hS hA) hW.alike hU⟩⟩
theorem mbx_preV {As : List Value} {b : Nat} (C : mb_CX l p s m meth c args cc nL ret Ts own D Y A) (hP : va_P D vwCl wc H) (hD : va_D A wc) (hS : va_S A s.heap H locs) (q0 : Nat) {ci : Nat} {q : vw_C} {fs : List Value} (he : wc[q0]? = some (b, .inr (ci, fs))) (hc : vwCl[ci]? = some q) : PreV s H q.1 b (va_Pc (.ref b :: As) (mb_BX D Y wc H.size)) As := by
  obtain ⟨⟨hx, hb, hr, hml, hts, hown, hlocks, hA, hG⟩, hT, hX, hl0⟩ := C
  exact ⟨mb_blindX, va_recv hG.1 hP hc he, fun U hU hW => ⟨rfl, ⟨by rw [hU], by rw [hU]; exact hP, hG.warm hW, hD.weaken (fun _ _ _ _ => trivial)⟩, hX.to hS (mb_freeW hD hS hA) hW.alike hU⟩⟩
/-- an exception of a callee goes on to the caller -/
theorem mbx_out {KX : String → S → Prop} {wf : S → va_W} {E : String} {ce : Cell} {q : Addr} (C : mb_CX l p s m meth c args cc nL ret Ts own D Y A) {u : S} (hF : KX E u) (hP : va_P D vwCl (wf u) H) (hD : va_D A (wf u)) (hS : va_S A s.heap H locs) (hcell : H[q]? = some ce) (hv : ce.vm = .none) (hcl : s.vm.findClass E = some ce.cls) (hc : cells ≤ mc) (hs : slots ≤ ms) :
    vx_W p l e R s m args below meth c H locs cells slots (vx_MQ below Qc (mb_XC D A KX wf) args s mc ms A) (F0 m pc ls rest) q := by
  obtain ⟨⟨hx, hb, hr, hml, hts, hown, hlocks, hA, hG⟩, hT, hX, hl0⟩ := C
  exact vx_out (fun x h => (hT x h).elim) hlocks hcell hv hcl (fun t ht hvm => ⟨u, trivial, ⟨hF, by rw [ht]; exact hP, hD⟩, hS.F ht⟩) hS.2.2 hc hs
/-- a call without a world, void, that may throw -/
theorem mbx_cEv {K : Unit → Prop} {KX : String → S → Prop} {wf : S → va_W} (C : mb_CX l p s m meth c args cc nL ret Ts own D Y A) (u : S) (hP : va_P D vwCl (wf u) H) (hD : va_D A (wf u)) (hS : va_S A s.heap H locs) (hr : vx_Run p l e R s m args below meth c H locs cells slots mc1 ms1 (F0 m pc ls st0) rest (va_Qv K (fun _ t => mb_T D (va_A [] H.size) [] t) (va_A [] H.size) a) (mb_XC D (va_A [] H.size) (fun E (_ : Unit) => KX E u) (fun _ => [])) (va_A [] H.size)) (hc : cells + mc1 ≤ mc) (hs : slots + ms1 ≤ ms)
    (kk : ∀ (H1 : Heap) (locs1 : List Loc), K () → va_P D vwCl (wf u) H1 → va_S A s.heap H1 locs1 → W p l e R s m args below meth c H1 locs1 (cells + mc1) (slots + ms1) (vx_MQ below Qc (mb_XC D A KX wf) args s mc ms A) (F0 m (pc + 3) ls rest)) : W p l e R s m args below meth c H locs cells slots (vx_MQ below Qc (mb_XC D A KX wf) args s mc ms A) (F0 m pc ls st0) := by
  have hA := C.1.2.2.2.2.2.2.2.1
  exact vx_callv hr hS (fun q _ h => mb_freeE hS hA q h) (mb_freeE hS hA) (fun q _ h => mb_freeE hS hA q h) (fun E ce q9 u1 t H1 locs1 ht hvm _ hw hz hk hS1 hce hcv hcl => mbx_out C hw.1 (mb_keepE hP hk) hD hS1 hce hcv hcl hc hs) (fun _ t H1 locs1 ht hvm hw hB hz hk hS1 => kk H1 locs1 hw (mb_keepE hP hk) hS1)
theorem mbx_callr {SX : Type} {post : S → Prop} {px : SX → Prop} {B : S → Nat → State → Prop} {BX : String → SX → State → Prop} {A0 A1 AX : Nat → Prop} {H0 : Heap} {free : Addr → Prop} (hr : vx_Run p l e R s m args below meth c H locs cells slots mc ms (F0 m pc ls st0) rest (va_Qr post B A1 a) (vx_X px BX AX) free) (hS : va_S A0 H0 H locs) (hA : ∀ q, q < H.size → A1 q → A0 q) (hf : ∀ q, free q → A0 q) (hAX : ∀ q, q < H.size → AX q → A0 q)
    (kx : ∀ (E : String) (ce : Cell) (q9 : Addr) (u : SX) (t : State) (H1 : Heap) (locs1 : List Loc), t.heap = H1 → s.vm.Alike t.vm → px u → BX E u t → H.size ≤ H1.size → (∀ q : Nat, q < H.size → ¬ AX q → H1[q]? = H[q]?) → va_S A0 H0 H1 locs1 → H1[q9]? = some ce → ce.vm = .none → s.vm.findClass E = some ce.cls → vx_W p l e R s m args below meth c H1 locs1 (cells + mc) (slots + ms) Q (F0 m pc ls rest) q9)
    (kk : ∀ (u : S) (r : Nat) (t : State) (H1 : Heap) (locs1 : List Loc), t.heap = H1 → s.vm.Alike t.vm → post u → B u r t → H.size ≤ H1.size → (∀ q : Nat, q < H.size → ¬ A1 q → H1[q]? = H[q]?) → va_S A0 H0 H1 locs1 → W p l e R s m args below meth c H1 locs1 (cells + mc) (slots + ms) Q (F0 m (pc + 3) ls (.ref r :: rest))) : W p l e R s m args below meth c H locs cells slots Q (F0 m pc ls st0) := by
  intro T hT X
  rcases hr T hT X with ⟨v, st₀, t, T', L, h0, X', hL, e1, e2, ⟨⟨u, r, hv, hp, hb⟩, hF⟩, st⟩ | ⟨q, st₀, t, T', L, E, ce, h0, X', hL, e1, e2, ⟨u, hp, hb, hF⟩, hce, hcv, hcl, st⟩
  · cases hv
    obtain ⟨k1, k2, k3⟩ := vx_keep h0 e1 hS hA hf hL hF
    obtain ⟨t2, a1, b1⟩ := kk u r t T'.heap (locs ++ L) e1.symm (by rw [← e2]; exact X'.warmed.alike) hp hb k1 k2 k3 T' rfl X'
    exact ⟨t2, st t2 a1, b1⟩
  · obtain ⟨k1, k2, k3⟩ := vx_keep h0 e1 hS hAX hf hL hF
    obtain ⟨t2, a1, b1⟩ := kx E ce q u t T'.heap (locs ++ L) e1.symm (by rw [← e2]; exact X'.warmed.alike) hp hb k1 k2 k3 (by rw [e1]; exact hce) hcv hcl T' rfl X'
    exact ⟨t2, st.trans a1, b1⟩
/-- .. that has a part of the world, and hands back a reference -/
theorem mbx_cPr {K : Nat → S1 → Prop} {KX : String → S → Prop} {KX1 : String → S1 → Prop} {wf : S → va_W} {wf1 : S1 → va_W} (C : mb_CX l p s m meth c args cc nL ret Ts own D Y A) (hP : va_P D vwCl ws H) (hD : va_D A ws) (hS : va_S A s.heap H locs) (isC isR : List Nat) (hC : isC.map (fun i => ws[i]?) = wc.map some) (hR : isR.map (fun i => ws[i]?) = wr.map some) (hn : va_nd isR = true) (hdis : ∀ i ∈ isR, i ∉ isC)
    (hr : vx_Run p l e R s m args below meth c H locs cells slots mc1 ms1 (F0 m pc ls st0) rest (va_Qr (fun _ : S1 => True) (fun u r t => K r u ∧ mb_T D (va_A wc H.size) (wf1 u) t) (va_A wc H.size) a) (mb_XC D (va_A wc H.size) KX1 wf1) (va_A wc H.size)) (hc : cells + mc1 ≤ mc) (hs : slots + ms1 ≤ ms)
    (kx : ∀ (E : String) (u1 : S1) (H1 : Heap), KX1 E u1 → va_P D vwCl (wr ++ wf1 u1) H1 → va_D A (wr ++ wf1 u1) → ∃ u : S, KX E u ∧ va_P D vwCl (wf u) H1 ∧ va_D A (wf u))
    (kk : ∀ (r : Nat) (u : S1) (H1 : Heap) (locs1 : List Loc), K r u → va_P D vwCl (wr ++ wf1 u) H1 → va_D A (wr ++ wf1 u) → va_S A s.heap H1 locs1 → W p l e R s m args below meth c H1 locs1 (cells + mc1) (slots + ms1) (vx_MQ below Qc (mb_XC D A KX wf) args s mc ms A) (F0 m (pc + 3) ls (.ref r :: rest))) : W p l e R s m args below meth c H locs cells slots (vx_MQ below Qc (mb_XC D A KX wf) args s mc ms A) (F0 m pc ls st0) := by
  have hA := C.1.2.2.2.2.2.2.2.1
  have hFc := va_free (wc := wc) hD hS hA isC hC
  refine mbx_callr hr hS (fun q _ h => hFc q h) hFc (fun q _ h => hFc q h) (fun E ce q9 u1 t H1 locs1 ht hvm _ hw hz hk hS1 hce hcv hcl => ?_) (fun u r t H1 locs1 ht hvm _ hB hz hk hS1 => ?_)
  · obtain ⟨hK1, hP1, hD1⟩ := hw
    rw [ht] at hP1
    obtain ⟨hP2, hD2⟩ := va_join hP hD isC isR hC hR hn hdis hk hFc hP1 hD1
    obtain ⟨u, h1, h2, h3⟩ := kx E u1 H1 hK1 hP2 hD2
    exact mbx_out C h1 h2 h3 hS1 hce hcv hcl hc hs
  · obtain ⟨hK1, hP1, hD1⟩ := hB
    rw [ht] at hP1
    obtain ⟨hP2, hD2⟩ := va_join hP hD isC isR hC hR hn hdis hk hFc hP1 hD1
    exact kk r u H1 locs1 hK1 hP2 hD2 hS1
/-- the end with a reference -/
theorem mb_ra {K : Nat → S → Prop} {wf : S → va_W} {rt : FieldType} (C : mb_Cx p s m meth c args cc nL (some rt) Ts own D Y A) (hrt : (∃ n, rt = .object n) ∨ ∃ t, rt = .array t) {r : Nat} {u : S} (hF : K r u) (hP : va_P D vwCl (wf u) H) (hD : va_D A (wf u)) (hS : va_S A s.heap H locs) (hd : decode cc pc = .ok (.areturn, 1)) (hc : cells ≤ mc) (hs : slots ≤ ms) :
    W p l e R s m args below meth c H locs cells slots (MQ below (va_Qr (fun _ : S => True) (fun u r t => K r u ∧ mb_T D A (wf u) t) A) args s mc ms A) (F0 m pc ls [.ref r]) := by
  obtain ⟨hx, hb, hr, hml, hts, hown, hlocks, hA, hG⟩ := C
  refine W.widen hc hs ?_
  exact W.aret hx hb hr hrt (Or.inr ⟨r, rfl⟩) (fun t ht hW => ⟨⟨u, r, rfl, trivial, hF, by rw [ht]; exact hP, hD⟩, hS.F ht⟩) hS.2.2 hd
abbrev mb_names : List String := ["java/lang/RuntimeException", "java/lang/Exception"]
/-- throw new X("text") -/
theorem mbx_throw {KX : String → S → Prop} {wf : S → va_W} (C : mb_CX l p s m meth c args cc nL ret Ts RX7 D Y A) {cls text : String} {ik is ic : Nat} (hcls : Bundle.fit cls = true) (hk : Cond.classLink RX7 ik cls ∈ Ts) (hini : Cond.initialized cls ∈ Ts) (htx : (is, text) ∈ mb_tx) (hin : ∀ w ∈ (vx_atS RX7 ic cls mb_names).filter goodWord, w ∈ Ts) (h2 : ∀ w ∈ (vx_atS RX7 ic cls mb_names).filter (fun w => !goodWord w), w ∈ mb_nw)
    (hgood : ∀ w ∈ Cond.classLink RX7 ik cls :: Cond.initialized cls :: vx_atS RX7 ic cls mb_names, vx_ot w = true) {u : S} (hF : KX cls u) (hP : va_P D vwCl (wf u) H) (hD : va_D A (wf u)) (hS : va_S A s.heap H locs) (hsize : ls.size = nL)
    (d0 : decode cc pc = .ok (.new ik, 3)) (d3 : decode cc (pc + 3) = .ok (.dup, 1)) (d4 : decode cc (pc + 4) = .ok (.ldc_w is, 3)) (d7 : decode cc (pc + 7) = .ok (.invokespecial ic, 3)) (d10 : decode cc (pc + 10) = .ok (.athrow, 1))
    (hRframes : mb_names.length + 3 < R.frames) (hRlocals : (rest.map fun v => v.category).sum + (13 * (mb_names.length + 1) + 43) ≤ R.locals) (hRcells : cells + 1 ≤ R.cells) (hRslots : slots + 6 ≤ R.slots) (hc : cells + 1 ≤ mc) (hs : slots + 6 ≤ ms) :
    W p l e R s m args below meth c H locs cells slots (vx_MQ below Qc (mb_XC D A KX wf) args s mc ms A) (F0 m pc ls rest) := by
  obtain ⟨⟨hx, hb, hr, hml, hts, hown, hlocks, hA, hG⟩, hT, hX, hl0⟩ := C
  obtain ⟨sa, hstr⟩ := hG.2.2.1 _ htx
  refine vx_throwSW (own := RX7) (cls := cls) (names := mb_names) hx hb hl0 hown hcls (by decide +kernel) (hts _ hk) (hts _ hini) hstr (vx_hat (fun w h => hts w (hin w h)) h2 (fun w hw => va_Nw.use (mb_nw2 (List.all_eq_true.mp mb_nw_ok w hw)) (hG.2.1 w hw))) hgood hX.1 hX.2 hS (hsize.trans hml.symm) d0 d3 d4 d7 d10 (fun x h => (hT x h).elim) hRframes hRlocals hRcells hRslots hlocks (fun t hvm hz hk => ⟨u, trivial, ⟨hF, hP.kept fun k q hq => hk q.1 (hP k q hq).lt, hD⟩, Nat.le_trans hS.1 hz, fun q h1 h2 => (hk q (Nat.lt_of_lt_of_le h1 hS.1)).trans (hS.2.1 q h1 h2)⟩) hS.2.2 hc hs
end MBX
