/-! MAKING: arrays and objects -/
def mb_z : mb_m := fun _ _ => 0
theorem mb_uq {s : State} {cA cB : ClassId} {ty : FieldType} (h1 : va_RA s cA ty) (h2 : va_RA s cB ty) : cA = cB := by
  cases ty with
  | object C =>
    obtain ⟨_, _, _, _, _, h3⟩ := h1
    obtain ⟨_, _, _, _, _, h4⟩ := h2
    exact Option.some.inj (h3.symm.trans h4)
  | _ => exact Option.some.inj (h1.symm.trans h2)
theorem mb_cA {s : State} {D : va_G} {Y : Nat → ClassId} {cA cB : ClassId} {ty : FieldType} (h : va_K D vwCl (mb_ty Y ++ [(cA, ty)]) s) (k : Nat) (hk : (mb_ty Y)[k]? = some (cB, ty)) : cA = cB :=
  mb_uq (h.2 6 (cA, ty) rfl).2 (h.2 k (cB, ty) (by rw [List.getElem?_append_left (List.getElem?_eq_some_iff.mp hk).1]; exact hk)).2
section MK
variable {p : Program} {l : Launch} {e : Env} {R : Room} {s : State} {m : MethodId} {args : Array Value} {below : List Frame} {meth : Method} {c : Code} {H : Heap} {locs : List Loc} {cells slots : Nat} {Q : State → Prop} {cc : ByteArray} {D : va_G} {Y : Nat → ClassId} {A : Nat → Prop} {pc : Nat} {ls : Array Slot} {rest st0 : List Value} {mc ms : Nat} {ws wc wr : va_W} {a : Array Value}
theorem mb_newI (hx : p.tables.exec = Jvm.exec) (hb : c.code = cc) (harr : (Cond.arrayClass .int).before args s = true) (hK : va_K D vwCl (mb_ty Y) s) (hP : va_P D vwCl ws H) (hD : va_D A ws) (hS : va_S A s.heap H locs) (hA : ∀ q : Nat, s.heap.size ≤ q → A q) {n : Int32} {N' : Nat} (hn : ¬ n < 0) (hN : n.toNatClampNeg = N') (hbytes : N' * 4 ≤ 536870912) (hcells : cells + 1 ≤ R.cells) (hslots : slots + N' ≤ R.slots) (hdg : decode cc pc = .ok (.newarray .int, 2))
    (kk : ∀ (q : Nat) (H1 : Heap), va_P D vwCl (ws ++ [(q, .inl (Y 0, N', .inl (fun _ => 0)))]) H1 → va_D A (ws ++ [(q, .inl (Y 0, N', .inl (fun _ => 0)))]) → va_S A s.heap H1 locs → W p l e R s m args below meth c H1 locs (cells + 1) (slots + N') Q (F0 m (pc + 2) ls (.ref q :: rest))) : W p l e R s m args below meth c H locs cells slots Q (F0 m pc ls (.int n :: rest)) := by
  refine va_newa (atype := .int) (ty := .int) (a0 := (N', .inl (fun _ => 0))) hx hb harr rfl hK hP hD hS hA (fun _ => rfl) hn hN hbytes hcells hslots hdg (fun q cA H1 hK2 hP2 hD2 hS2 => ?_)
  have e1 := mb_cA hK2 0 rfl
  subst e1
  exact kk q H1 hP2 hD2 hS2
theorem mb_newq (hx : p.tables.exec = Jvm.exec) (hb : c.code = cc) {own C : String} {index : Nat} (hown : s.vm.findClass own = some m.cls) (hclink : (Cond.classLink own index C).before args s = true) (hover : va_AO C s) (hK : va_K D vwCl (mb_ty Y) s) (t0 k0 : Nat) (hk : (mb_ty Y)[t0]? = some (Y k0, .object C)) (hP : va_P D vwCl ws H) (hD : va_D A ws) (hS : va_S A s.heap H locs) (hA : ∀ q : Nat, s.heap.size ≤ q → A q) {n : Int32} {N' : Nat} (hn : ¬ n < 0) (hN : n.toNatClampNeg = N') (hbytes : N' * 4 ≤ 536870912) (hcells : cells + 1 ≤ R.cells) (hslots : slots + N' ≤ R.slots) (hdg : decode cc pc = .ok (.anewarray index, 3))
    (kk : ∀ (q : Nat) (H1 : Heap), va_P D vwCl (ws ++ [(q, .inl (Y k0, N', .inr (.inr (.inr (.inr (fun _ => none))))))]) H1 → va_D A (ws ++ [(q, .inl (Y k0, N', .inr (.inr (.inr (.inr (fun _ => none))))))]) → va_S A s.heap H1 locs → W p l e R s m args below meth c H1 locs (cells + 1) (slots + N') Q (F0 m (pc + 3) ls (.ref q :: rest))) : W p l e R s m args below meth c H locs cells slots Q (F0 m pc ls (.int n :: rest)) := by
  refine va_newq (C := C) hx hb hown hclink hover hK hP hD hS hA hn hN hbytes hcells hslots hdg (fun q cA H1 hK2 hP2 hD2 hS2 => ?_)
  have e1 := mb_cA hK2 t0 hk
  subst e1
  exact kk q H1 hP2 hD2 hS2
/-- a call that hands back a reference, with a part of the world -/
theorem mb_cPr {S : Type} {K : Nat → S → Prop} {wf : S → va_W} (hP : va_P D vwCl ws H) (hD : va_D A ws) (hS : va_S A s.heap H locs) (hA : ∀ q : Nat, s.heap.size ≤ q → A q) (isC isR : List Nat) (hC : isC.map (fun i => ws[i]?) = wc.map some) (hR : isR.map (fun i => ws[i]?) = wr.map some) (hn : va_nd isR = true) (hdis : ∀ i ∈ isR, i ∉ isC)
    (hr : va_Run p l e R s m args below meth c H locs cells slots mc ms (F0 m pc ls st0) rest (va_Qr (fun _ : S => True) (fun u r t => K r u ∧ mb_T D (va_A wc H.size) (wf u) t) (va_A wc H.size) a) (va_A wc H.size))
    (kk : ∀ (r : Nat) (u : S) (H1 : Heap) (locs1 : List Loc), K r u → va_P D vwCl (wr ++ wf u) H1 → va_D A (wr ++ wf u) → va_S A s.heap H1 locs1 → W p l e R s m args below meth c H1 locs1 (cells + mc) (slots + ms) Q (F0 m (pc + 3) ls (.ref r :: rest))) : W p l e R s m args below meth c H locs cells slots Q (F0 m pc ls st0) := by
  have hFc := va_free (wc := wc) hD hS hA isC hC
  refine va_callr hr hS (fun q _ h => hFc q h) hFc (fun u r t H1 locs1 ht hvm _ hB hz hk hS1 => ?_)
  obtain ⟨hK1, hP1, hD1⟩ := hB
  rw [ht] at hP1
  obtain ⟨hP2, hD2⟩ := va_join hP hD isC isR hC hR hn hdis hk hFc hP1 hD1
  exact kk r u H1 locs1 hK1 hP2 hD2 hS1
end MK
section
noncomputable def PX2_init (N : Nat) (K : mb_m → Prop) : Prop := K (mb_z)
set_option maxHeartbeats 4000000 in
set_option maxRecDepth 100000 in
theorem cnX2_init (l : Launch) (D : va_G) (Y : Nat → ClassId) (N : Nat) (o : Nat) (sz : Nat) (K : mb_m → Prop) (hF : PX2_init N  K) : Met l yX2_init wsX2_init ({ frames := 1, cells := 1, slots := 64, locals := 25 } : Room) (va_Pc [.ref o] (mb_B D Y ([(o, .inr (2, [.null]))]) sz)) (va_Qv (fun u : (Nat → Nat) × mb_m => K u.2) (fun u t => mb_T D (va_A ([(o, .inr (2, [.null]))]) sz) (gw2 Y o u.1 u.2) t) (va_A ([(o, .inr (2, [.null]))]) sz)) 1 64 (va_A ([(o, .inr (2, [.null]))]) sz) := by
  refine mb_begin (cc := cX2_init) (maxL := 1) (ret := none) (by decide +kernel) rfl (Nat.le_of_ble_eq_true rfl) ?_
  intro p e s m below meth c ls C hsz hnm hP hD hl
  generalize hAe : va_A ([(o, .inr (2, [.null]))]) sz = A at C hD ⊢
  have C : mb_Cx p s m meth c ([.ref o] : List Value).toArray cX2_init 1 none wsX2_init RX2 D Y A := C
  obtain ⟨hx, hb, hr, hml, hts, hown, hlocks, hA, hG⟩ := id C
  have hK := hG.1
  have hS : va_S A s.heap s.heap [] := va_S.rf
  have hl : lv_has ls 1 [(0, .ref o)] := hl
  obtain ⟨H, hH0⟩ : ∃ H, H = s.heap := ⟨_, rfl⟩
  rw [← hH0] at hP
  have hS : va_S A s.heap H [] := by rw [hH0]; exact hS
  rw [← hH0]
  have hP : va_P D vwCl ([(o, .inr (2, [.null]))]) H := hP
  have hD : va_D A ([(o, .inr (2, [.null]))]) := hD
  refine lv_aload_n hx hb dX2_init_0 rfl (lv_at hl 0 rfl) ?_
  refine W.objInit hx hb hown (hts (.methodLink RX2 3 objectInit) (List.mem_of_getElem? (i := 1) rfl)) (hts (.instanceMethod objectInit) (List.mem_of_getElem? (i := 2) rfl)) (hts (.code objectInit ⟨#[0xb1]⟩ 1 none) (List.mem_of_getElem? (i := 3) rfl)) rfl (by rw [hml]; exact hl.1) rfl dX2_init_1 (Nat.le_of_ble_eq_true rfl) (Nat.le_of_ble_eq_true rfl) ?_
  refine W.eq (g2 := F0 m 4 ls []) rfl ?_
  refine lv_aload_n hx hb dX2_init_4 rfl (lv_at hl 0 rfl) ?_
  refine lv_bipush (v := 64) hx hb dX2_init_5 (by decide) ?_
  refine mb_newI (N' := 64) hx hb (hts (.arrayClass .int) (List.mem_of_getElem? (i := 4) rfl)) hK hP hD hS hA (by decide) (by decide) (Nat.le_of_ble_eq_true rfl) (Nat.le_of_ble_eq_true rfl) (Nat.le_of_ble_eq_true rfl) dX2_init_7 (fun q7 H hP hD hS => ?_)
  have hP : va_P D vwCl ([(o, .inr (2, [.null])), (q7, .inl (Y 0, 64, .inl (fun _ => 0)))]) H := hP
  have hD : va_D A ([(o, .inr (2, [.null])), (q7, .inl (Y 0, 64, .inl (fun _ => 0)))]) := hD
  refine va_putF (D := D) (ci := 2) (v := .ref q7) (ty := (.array .int)) (C := RX2) (T := TX2) (N := 1) hx hb hts (fun _ h9 => List.mem_cons_of_mem _ (List.mem_append_right _ (h9))) tyX2 tyX2_ok nmX2 hown hK hP hD hS 0 rfl rfl 0 (by decide) (hts (.fieldLink RX2 9 "MarbleBench$Print" "colours" "[I") (List.mem_of_getElem? (i := 5) rfl)) (fun _ h9 => h9) rfl (hnm.trans rfl) rfl (by decide +kernel) rfl rfl (Nat.le_of_ble_eq_true rfl) dX2_init_9 (fun H locs hP hD hS => ?_)
  have hP : va_P D vwCl ([(o, .inr (2, [.ref q7])), (q7, .inl (Y 0, 64, .inl (fun _ => 0)))]) H := hP
  have hD : va_D A ([(o, .inr (2, [.ref q7])), (q7, .inl (Y 0, 64, .inl (fun _ => 0)))]) := hD
  obtain ⟨a, ha0⟩ : ∃ a : Nat → Nat, a 0 = q7 := ⟨fun k => if k = 0 then q7 else 0, rfl⟩
  subst ha0
  have hP : va_P D vwCl (gw2 Y o a mb_z) H := hP
  have hD : va_D A (gw2 Y o a mb_z) := hD
  exact mb_rv (S := (Nat → Nat) × mb_m) (mc := 1) (ms := 64) (wf := fun u => gw2 Y o u.1 u.2) C (u := (a, mb_z)) hF hP hD hS dX2_init_12 (Nat.le_of_ble_eq_true rfl) (Nat.le_of_ble_eq_true rfl)
end
section
noncomputable def PX3_init (N : Nat) (K : mb_m → Prop) : Prop := K (mb_z)
set_option maxHeartbeats 4000000 in
set_option maxRecDepth 100000 in
theorem cnX3_init (l : Launch) (D : va_G) (Y : Nat → ClassId) (N : Nat) (o : Nat) (sz : Nat) (K : mb_m → Prop) (hF : PX3_init N  K) : Met l yX3_init wsX3_init ({ frames := 1, cells := 1, slots := 20, locals := 25 } : Room) (va_Pc [.ref o] (mb_B D Y ([(o, .inr (3, [.null, .int 0]))]) sz)) (va_Qv (fun u : (Nat → Nat) × mb_m => K u.2) (fun u t => mb_T D (va_A ([(o, .inr (3, [.null, .int 0]))]) sz) (gw3 Y o u.1 u.2) t) (va_A ([(o, .inr (3, [.null, .int 0]))]) sz)) 1 20 (va_A ([(o, .inr (3, [.null, .int 0]))]) sz) := by
  refine mb_begin (cc := cX3_init) (maxL := 1) (ret := none) (by decide +kernel) rfl (Nat.le_of_ble_eq_true rfl) ?_
  intro p e s m below meth c ls C hsz hnm hP hD hl
  generalize hAe : va_A ([(o, .inr (3, [.null, .int 0]))]) sz = A at C hD ⊢
  have C : mb_Cx p s m meth c ([.ref o] : List Value).toArray cX3_init 1 none wsX3_init RX3 D Y A := C
  obtain ⟨hx, hb, hr, hml, hts, hown, hlocks, hA, hG⟩ := id C
  have hK := hG.1
  have hS : va_S A s.heap s.heap [] := va_S.rf
  have hl : lv_has ls 1 [(0, .ref o)] := hl
  obtain ⟨H, hH0⟩ : ∃ H, H = s.heap := ⟨_, rfl⟩
  rw [← hH0] at hP
  have hS : va_S A s.heap H [] := by rw [hH0]; exact hS
  rw [← hH0]
  have hP : va_P D vwCl ([(o, .inr (3, [.null, .int 0]))]) H := hP
  have hD : va_D A ([(o, .inr (3, [.null, .int 0]))]) := hD
  refine lv_aload_n hx hb dX3_init_0 rfl (lv_at hl 0 rfl) ?_
  refine W.objInit hx hb hown (hts (.methodLink RX3 3 objectInit) (List.mem_of_getElem? (i := 1) rfl)) (hts (.instanceMethod objectInit) (List.mem_of_getElem? (i := 2) rfl)) (hts (.code objectInit ⟨#[0xb1]⟩ 1 none) (List.mem_of_getElem? (i := 3) rfl)) rfl (by rw [hml]; exact hl.1) rfl dX3_init_1 (Nat.le_of_ble_eq_true rfl) (Nat.le_of_ble_eq_true rfl) ?_
  refine W.eq (g2 := F0 m 4 ls []) rfl ?_
  refine lv_aload_n hx hb dX3_init_4 rfl (lv_at hl 0 rfl) ?_
  refine lv_bipush (v := 20) hx hb dX3_init_5 (by decide) ?_
  refine mb_newI (N' := 20) hx hb (hts (.arrayClass .int) (List.mem_of_getElem? (i := 4) rfl)) hK hP hD hS hA (by decide) (by decide) (Nat.le_of_ble_eq_true rfl) (Nat.le_of_ble_eq_true rfl) (Nat.le_of_ble_eq_true rfl) dX3_init_7 (fun q7 H hP hD hS => ?_)
  have hP : va_P D vwCl ([(o, .inr (3, [.null, .int 0])), (q7, .inl (Y 0, 20, .inl (fun _ => 0)))]) H := hP
  have hD : va_D A ([(o, .inr (3, [.null, .int 0])), (q7, .inl (Y 0, 20, .inl (fun _ => 0)))]) := hD
  refine va_putF (D := D) (ci := 3) (v := .ref q7) (ty := (.array .int)) (C := RX3) (T := TX3) (N := 2) hx hb hts (fun _ h9 => List.mem_cons_of_mem _ (List.mem_append_right _ (h9))) tyX3 tyX3_ok nmX3 hown hK hP hD hS 0 rfl rfl 0 (by decide) (hts (.fieldLink RX3 9 "MarbleBench$Repairs" "stuffs" "[I") (List.mem_of_getElem? (i := 5) rfl)) (fun _ h9 => h9) rfl (hnm.trans rfl) rfl (by decide +kernel) rfl rfl (Nat.le_of_ble_eq_true rfl) dX3_init_9 (fun H locs hP hD hS => ?_)
  have hP : va_P D vwCl ([(o, .inr (3, [.ref q7, .int 0])), (q7, .inl (Y 0, 20, .inl (fun _ => 0)))]) H := hP
  have hD : va_D A ([(o, .inr (3, [.ref q7, .int 0])), (q7, .inl (Y 0, 20, .inl (fun _ => 0)))]) := hD
  obtain ⟨a, ha0⟩ : ∃ a : Nat → Nat, a 0 = q7 := ⟨fun k => if k = 0 then q7 else 0, rfl⟩
  subst ha0
  have hP : va_P D vwCl (gw3 Y o a mb_z) H := hP
  have hD : va_D A (gw3 Y o a mb_z) := hD
  exact mb_rv (S := (Nat → Nat) × mb_m) (mc := 1) (ms := 20) (wf := fun u => gw3 Y o u.1 u.2) C (u := (a, mb_z)) hF hP hD hS dX3_init_12 (Nat.le_of_ble_eq_true rfl) (Nat.le_of_ble_eq_true rfl)
end
section
noncomputable def PX4_init (N : Nat) (x1 x2 : Int32) (K : mb_m → Prop) : Prop := ∀ M31 : mb_m, M31 = mb_u mb_z 0 (mb_c x1) → (∀ M36 : mb_m, M36 = mb_u M31 1 (mb_c x2) → (K (M36)))
set_option maxHeartbeats 4000000 in
set_option maxRecDepth 100000 in
theorem cnX4_init (l : Launch) (D : va_G) (Y : Nat → ClassId) (N : Nat) (o : Nat) (sz : Nat) (x1 x2 : Int32) (K : mb_m → Prop) (hF : PX4_init N x1 x2 K) : Met l yX4_init wsX4_init ({ frames := 1, cells := 3, slots := 248, locals := 25 } : Room) (va_Pc [.ref o, .int x1, .int x2] (mb_B D Y ([(o, .inr (4, [.int 0, .int 0, .null, .null, .null, .int 0, .int 0, .int 0, .int 0, .int 0]))]) sz)) (va_Qv (fun u : (Nat → Nat) × mb_m => K u.2) (fun u t => mb_T D (va_A ([(o, .inr (4, [.int 0, .int 0, .null, .null, .null, .int 0, .int 0, .int 0, .int 0, .int 0]))]) sz) (gw4 Y o u.1 u.2) t) (va_A ([(o, .inr (4, [.int 0, .int 0, .null, .null, .null, .int 0, .int 0, .int 0, .int 0, .int 0]))]) sz)) 3 248 (va_A ([(o, .inr (4, [.int 0, .int 0, .null, .null, .null, .int 0, .int 0, .int 0, .int 0, .int 0]))]) sz) := by
  refine mb_begin (cc := cX4_init) (maxL := 3) (ret := none) (by decide +kernel) rfl (Nat.le_of_ble_eq_true rfl) ?_
  intro p e s m below meth c ls C hsz hnm hP hD hl
  generalize hAe : va_A ([(o, .inr (4, [.int 0, .int 0, .null, .null, .null, .int 0, .int 0, .int 0, .int 0, .int 0]))]) sz = A at C hD ⊢
  have C : mb_Cx p s m meth c ([.ref o, .int x1, .int x2] : List Value).toArray cX4_init 3 none wsX4_init RX4 D Y A := C
  obtain ⟨hx, hb, hr, hml, hts, hown, hlocks, hA, hG⟩ := id C
  have hK := hG.1
  have hS : va_S A s.heap s.heap [] := va_S.rf
  have hl : lv_has ls 3 [(0, .ref o), (1, .int x1), (2, .int x2)] := hl
  obtain ⟨H, hH0⟩ : ∃ H, H = s.heap := ⟨_, rfl⟩
  rw [← hH0] at hP
  have hS : va_S A s.heap H [] := by rw [hH0]; exact hS
  rw [← hH0]
  have hP : va_P D vwCl ([(o, .inr (4, [.int 0, .int 0, .null, .null, .null, .int 0, .int 0, .int 0, .int 0, .int 0]))]) H := hP
  have hD : va_D A ([(o, .inr (4, [.int 0, .int 0, .null, .null, .null, .int 0, .int 0, .int 0, .int 0, .int 0]))]) := hD
  refine lv_aload_n hx hb dX4_init_0 rfl (lv_at hl 0 rfl) ?_
  refine W.objInit hx hb hown (hts (.methodLink RX4 3 objectInit) (List.mem_of_getElem? (i := 1) rfl)) (hts (.instanceMethod objectInit) (List.mem_of_getElem? (i := 2) rfl)) (hts (.code objectInit ⟨#[0xb1]⟩ 1 none) (List.mem_of_getElem? (i := 3) rfl)) rfl (by rw [hml]; exact hl.1) rfl dX4_init_1 (Nat.le_of_ble_eq_true rfl) (Nat.le_of_ble_eq_true rfl) ?_
  refine W.eq (g2 := F0 m 4 ls []) rfl ?_
  refine lv_aload_n hx hb dX4_init_4 rfl (lv_at hl 0 rfl) ?_
  refine lv_bipush (v := 40) hx hb dX4_init_5 (by decide) ?_
  refine mb_newI (N' := 40) hx hb (hts (.arrayClass .int) (List.mem_of_getElem? (i := 4) rfl)) hK hP hD hS hA (by decide) (by decide) (Nat.le_of_ble_eq_true rfl) (Nat.le_of_ble_eq_true rfl) (Nat.le_of_ble_eq_true rfl) dX4_init_7 (fun q7 H hP hD hS => ?_)
  have hP : va_P D vwCl ([(o, .inr (4, [.int 0, .int 0, .null, .null, .null, .int 0, .int 0, .int 0, .int 0, .int 0])), (q7, .inl (Y 0, 40, .inl (fun _ => 0)))]) H := hP
  have hD : va_D A ([(o, .inr (4, [.int 0, .int 0, .null, .null, .null, .int 0, .int 0, .int 0, .int 0, .int 0])), (q7, .inl (Y 0, 40, .inl (fun _ => 0)))]) := hD
  refine va_putF (D := D) (ci := 4) (v := .ref q7) (ty := (.array .int)) (C := RX4) (T := TX4) (N := 10) hx hb hts (fun _ h9 => List.mem_cons_of_mem _ (List.mem_append_right _ (h9))) tyX4 tyX4_ok nmX4 hown hK hP hD hS 0 rfl rfl 2 (by decide) (hts (.fieldLink RX4 9 "MarbleBench$Sewing" "laid" "[I") (List.mem_of_getElem? (i := 5) rfl)) (fun _ h9 => h9) rfl (hnm.trans rfl) rfl (by decide +kernel) rfl rfl (Nat.le_of_ble_eq_true rfl) dX4_init_9 (fun H locs hP hD hS => ?_)
  have hP : va_P D vwCl ([(o, .inr (4, [.int 0, .int 0, .ref q7, .null, .null, .int 0, .int 0, .int 0, .int 0, .int 0])), (q7, .inl (Y 0, 40, .inl (fun _ => 0)))]) H := hP
  have hD : va_D A ([(o, .inr (4, [.int 0, .int 0, .ref q7, .null, .null, .int 0, .int 0, .int 0, .int 0, .int 0])), (q7, .inl (Y 0, 40, .inl (fun _ => 0)))]) := hD
  refine lv_aload_n hx hb dX4_init_12 rfl (lv_at hl 0 rfl) ?_
  refine lv_bipush (v := 8) hx hb dX4_init_13 (by decide) ?_
  refine mb_newI (N' := 8) hx hb (hts (.arrayClass .int) (List.mem_of_getElem? (i := 4) rfl)) hK hP hD hS hA (by decide) (by decide) (Nat.le_of_ble_eq_true rfl) (Nat.le_of_ble_eq_true rfl) (Nat.le_of_ble_eq_true rfl) dX4_init_15 (fun q15 H hP hD hS => ?_)
  have hP : va_P D vwCl ([(o, .inr (4, [.int 0, .int 0, .ref q7, .null, .null, .int 0, .int 0, .int 0, .int 0, .int 0])), (q7, .inl (Y 0, 40, .inl (fun _ => 0))), (q15, .inl (Y 0, 8, .inl (fun _ => 0)))]) H := hP
  have hD : va_D A ([(o, .inr (4, [.int 0, .int 0, .ref q7, .null, .null, .int 0, .int 0, .int 0, .int 0, .int 0])), (q7, .inl (Y 0, 40, .inl (fun _ => 0))), (q15, .inl (Y 0, 8, .inl (fun _ => 0)))]) := hD
  refine va_putF (D := D) (ci := 4) (v := .ref q15) (ty := (.array .int)) (C := RX4) (T := TX4) (N := 10) hx hb hts (fun _ h9 => List.mem_cons_of_mem _ (List.mem_append_right _ (h9))) tyX4 tyX4_ok nmX4 hown hK hP hD hS 0 rfl rfl 3 (by decide) (hts (.fieldLink RX4 15 "MarbleBench$Sewing" "links" "[I") (List.mem_of_getElem? (i := 6) rfl)) (fun _ h9 => h9) rfl (hnm.trans rfl) rfl (by decide +kernel) rfl rfl (Nat.le_of_ble_eq_true rfl) dX4_init_17 (fun H locs hP hD hS => ?_)
  have hP : va_P D vwCl ([(o, .inr (4, [.int 0, .int 0, .ref q7, .ref q15, .null, .int 0, .int 0, .int 0, .int 0, .int 0])), (q7, .inl (Y 0, 40, .inl (fun _ => 0))), (q15, .inl (Y 0, 8, .inl (fun _ => 0)))]) H := hP
  have hD : va_D A ([(o, .inr (4, [.int 0, .int 0, .ref q7, .ref q15, .null, .int 0, .int 0, .int 0, .int 0, .int 0])), (q7, .inl (Y 0, 40, .inl (fun _ => 0))), (q15, .inl (Y 0, 8, .inl (fun _ => 0)))]) := hD
  refine lv_aload_n hx hb dX4_init_20 rfl (lv_at hl 0 rfl) ?_
  refine lv_sipush (v := 200) hx hb dX4_init_21 (by decide) ?_
  refine mb_newI (N' := 200) hx hb (hts (.arrayClass .int) (List.mem_of_getElem? (i := 4) rfl)) hK hP hD hS hA (by decide) (by decide) (Nat.le_of_ble_eq_true rfl) (Nat.le_of_ble_eq_true rfl) (Nat.le_of_ble_eq_true rfl) dX4_init_24 (fun q24 H hP hD hS => ?_)
  have hP : va_P D vwCl ([(o, .inr (4, [.int 0, .int 0, .ref q7, .ref q15, .null, .int 0, .int 0, .int 0, .int 0, .int 0])), (q7, .inl (Y 0, 40, .inl (fun _ => 0))), (q15, .inl (Y 0, 8, .inl (fun _ => 0))), (q24, .inl (Y 0, 200, .inl (fun _ => 0)))]) H := hP
  have hD : va_D A ([(o, .inr (4, [.int 0, .int 0, .ref q7, .ref q15, .null, .int 0, .int 0, .int 0, .int 0, .int 0])), (q7, .inl (Y 0, 40, .inl (fun _ => 0))), (q15, .inl (Y 0, 8, .inl (fun _ => 0))), (q24, .inl (Y 0, 200, .inl (fun _ => 0)))]) := hD
  refine va_putF (D := D) (ci := 4) (v := .ref q24) (ty := (.array .int)) (C := RX4) (T := TX4) (N := 10) hx hb hts (fun _ h9 => List.mem_cons_of_mem _ (List.mem_append_right _ (h9))) tyX4 tyX4_ok nmX4 hown hK hP hD hS 0 rfl rfl 4 (by decide) (hts (.fieldLink RX4 18 "MarbleBench$Sewing" "moves" "[I") (List.mem_of_getElem? (i := 7) rfl)) (fun _ h9 => h9) rfl (hnm.trans rfl) rfl (by decide +kernel) rfl rfl (Nat.le_of_ble_eq_true rfl) dX4_init_26 (fun H locs hP hD hS => ?_)
  have hP : va_P D vwCl ([(o, .inr (4, [.int 0, .int 0, .ref q7, .ref q15, .ref q24, .int 0, .int 0, .int 0, .int 0, .int 0])), (q7, .inl (Y 0, 40, .inl (fun _ => 0))), (q15, .inl (Y 0, 8, .inl (fun _ => 0))), (q24, .inl (Y 0, 200, .inl (fun _ => 0)))]) H := hP
  have hD : va_D A ([(o, .inr (4, [.int 0, .int 0, .ref q7, .ref q15, .ref q24, .int 0, .int 0, .int 0, .int 0, .int 0])), (q7, .inl (Y 0, 40, .inl (fun _ => 0))), (q15, .inl (Y 0, 8, .inl (fun _ => 0))), (q24, .inl (Y 0, 200, .inl (fun _ => 0)))]) := hD
  obtain ⟨a, ha2, ha3, ha4⟩ : ∃ a : Nat → Nat, a 2 = q7 ∧ a 3 = q15 ∧ a 4 = q24 := ⟨fun k => if k = 2 then q7 else if k = 3 then q15 else if k = 4 then q24 else 0, rfl, rfl, rfl⟩
  subst ha2
  subst ha3
  subst ha4
  have hP : va_P D vwCl (gw4 Y o a mb_z) H := hP
  have hD : va_D A (gw4 Y o a mb_z) := hD
  refine lv_aload_n hx hb dX4_init_29 rfl (lv_at hl 0 rfl) ?_
  refine lv_iload_n hx hb dX4_init_30 rfl (lv_at hl 1 rfl) ?_
  refine va_putF (D := D) (ci := 4) (v := .int x1) (ty := .int) (C := RX4) (T := TX4) (N := 10) hx hb hts (fun _ h9 => List.mem_cons_of_mem _ (List.mem_append_right _ (h9))) tyX4 tyX4_ok nmX4 hown hK hP hD hS 0 rfl rfl 0 (by decide) (hts (.fieldLink RX4 21 "MarbleBench$Sewing" "gatherings" "I") (List.mem_of_getElem? (i := 8) rfl)) (fun _ h9 => h9) rfl (hnm.trans rfl) rfl (by decide +kernel) rfl rfl (Nat.le_of_ble_eq_true rfl) dX4_init_31 (fun H locs hP hD hS => ?_)
  have hP : va_P D vwCl (gw4 Y o a (mb_u mb_z 0 (mb_c x1))) H := hP
  have hD : va_D A (gw4 Y o a (mb_u mb_z 0 (mb_c x1))) := hD
  generalize eM31 : mb_u mb_z 0 (mb_c x1) = M31 at hP hD
  have hF := hF M31 eM31.symm
  refine lv_aload_n hx hb dX4_init_34 rfl (lv_at hl 0 rfl) ?_
  refine lv_iload_n hx hb dX4_init_35 rfl (lv_at hl 2 rfl) ?_
  refine va_putF (D := D) (ci := 4) (v := .int x2) (ty := .int) (C := RX4) (T := TX4) (N := 10) hx hb hts (fun _ h9 => List.mem_cons_of_mem _ (List.mem_append_right _ (h9))) tyX4 tyX4_ok nmX4 hown hK hP hD hS 0 rfl rfl 1 (by decide) (hts (.fieldLink RX4 25 "MarbleBench$Sewing" "stations" "I") (List.mem_of_getElem? (i := 9) rfl)) (fun _ h9 => h9) rfl (hnm.trans rfl) rfl (by decide +kernel) rfl rfl (Nat.le_of_ble_eq_true rfl) dX4_init_36 (fun H locs hP hD hS => ?_)
  have hP : va_P D vwCl (gw4 Y o a (mb_u M31 1 (mb_c x2))) H := hP
  have hD : va_D A (gw4 Y o a (mb_u M31 1 (mb_c x2))) := hD
  generalize eM36 : mb_u M31 1 (mb_c x2) = M36 at hP hD
  have hF := hF M36 eM36.symm
  exact mb_rv (S := (Nat → Nat) × mb_m) (mc := 3) (ms := 248) (wf := fun u => gw4 Y o u.1 u.2) C (u := (a, M36)) hF hP hD hS dX4_init_39 (Nat.le_of_ble_eq_true rfl) (Nat.le_of_ble_eq_true rfl)
end
section
noncomputable def PX5_init_14_b (N : Nat) (K : mb_m → Prop) (b14 : mb_m → Int32 → Int32 → Prop) (M : mb_m) (x1 x2 : Int32) : Prop := ((64 : Int32) ≤ x2 → K M) ∧ (¬ (64 : Int32) ≤ x2 → vp_in x2 64 ∧ (∀ M26 : mb_m, M26 = mb_u M 0 (upd (M 0) x2.toNatClampNeg x1) → (∀ v27 : Int32, v27 = x2 + (1 : Int32) → (b14 M26 x1 v27))))
noncomputable def PX5_init_14 (N : Nat) (K : mb_m → Prop) (n : Nat) : mb_m → Int32 → Int32 → Prop := Nat.rec (motive := fun _ => mb_m → Int32 → Int32 → Prop) (fun _ _ _ => False) (fun _ b14 => PX5_init_14_b N K b14) n
set_option maxHeartbeats 4000000 in
set_option maxRecDepth 100000 in
theorem wX5_init_14 {p : Program} {l : Launch} {e : Env} {s : State} {m : MethodId} {below : List Frame} {meth : Method} {c : Code} {args : Array Value} {D : va_G} {Y : Nat → ClassId} {A : Nat → Prop} {o : Nat} {a : Nat → Nat} {N : Nat} {K : mb_m → Prop} (C : mb_Cx p s m meth c args cX5_init 3 none wsX5_init RX5 D Y A) : ∀ (n : Nat), (∀ (M : mb_m) (x1 x2 : Int32) (H : Heap) (locs : List Loc) (ls : Array Slot), PX5_init_14 N K n M x1 x2 → va_P D vwCl (gw5 Y o a M) H → va_D A (gw5 Y o a M) → va_S A s.heap H locs → lv_has ls 3 [(0, .ref o), (1, .int x1), (2, .int x2)] → W p l e ({ frames := 1, cells := 1, slots := 64, locals := 25 } : Room) s m args below meth c H locs 1 64 (MQ below (va_Qv (fun u : (Nat → Nat) × mb_m => K u.2) (fun u t => mb_T D A (gw5 Y o u.1 u.2) t) A) args s 1 64 A) (F0 m 14 ls [])) := by
  obtain ⟨hx, hb, hr, hml, hts, hown, hlocks, hA, hG⟩ := id C
  have hK := hG.1
  intro n
  induction n with
  | zero => intro M x1 x2 H locs ls hF; exact (show False from hF).elim
  | succ n ih =>
    intro M x1 x2 H locs ls hF hP hD hS hl
    have hF : PX5_init_14_b N K (PX5_init_14 N K n) M x1 x2 := hF
    refine lv_iload_n hx hb dX5_init_14 rfl (lv_at hl 2 rfl) ?_
    refine lv_bipush (v := 64) hx hb dX5_init_15 (by decide) ?_
    refine lv_icmp_ge (tgt := 33) hx hb dX5_init_17 (by decide) (fun c_17 => ?_) (fun c_17 => ?_)
    · have hF := hF.1 c_17
      exact mb_rv (S := (Nat → Nat) × mb_m) (mc := 1) (ms := 64) (wf := fun u => gw5 Y o u.1 u.2) C (u := (a, M)) hF hP hD hS dX5_init_33 (Nat.le_of_ble_eq_true rfl) (Nat.le_of_ble_eq_true rfl)
    · have hF := hF.2 c_17
      refine lv_aload_n hx hb dX5_init_20 rfl (lv_at hl 0 rfl) ?_
      refine va_get (D := D) (ci := 5) (v := .ref (a 0)) (C := RX5) (T := TX5) (N := 1) hx hb hts (fun _ h9 => List.mem_cons_of_mem _ (List.mem_append_right _ (h9))) hown hK hP 0 rfl rfl 0 (by decide) (hts (.fieldLink RX5 9 "MarbleBench$Skin" "thicknesses" "[I") (List.mem_of_getElem? (i := 5) rfl)) (fun _ h9 => h9) rfl dX5_init_21 ?_
      refine lv_iload_n hx hb dX5_init_24 rfl (lv_at hl 2 rfl) ?_
      refine lv_iload_n hx hb dX5_init_25 rfl (lv_at hl 1 rfl) ?_
      obtain ⟨hi26, hF⟩ := hF
      refine va_iast hx hb hK hP hD hS 1 0 rfl rfl hi26 dX5_init_26 (fun H locs hP hD hS => ?_)
      obtain ⟨M26, eM26⟩ : ∃ y : mb_m, y = mb_u M 0 (upd (M 0) x2.toNatClampNeg x1) := ⟨_, rfl⟩
      have hF := hF M26 eM26
      have hP : va_P D vwCl (gw5 Y o a (mb_u M 0 (upd (M 0) x2.toNatClampNeg x1))) H := hP
      have hD : va_D A (gw5 Y o a (mb_u M 0 (upd (M 0) x2.toNatClampNeg x1))) := hD
      rw [← eM26] at hP hD
      obtain ⟨v27, ev27⟩ : ∃ y : Int32, y = x2 + (1 : Int32) := ⟨_, rfl⟩
      have hF := hF v27 ev27
      refine lv_iinc (v := v27) (lv' := [(2, .int v27), (0, .ref o), (1, .int x1)]) hx hb dX5_init_27 hl (k := 2) rfl (by rw [ev27]; rfl) (by decide) rfl (fun ls hl => ?_)
      refine lv_goto (tgt := 14) hx hb dX5_init_30 (by decide) ?_
      exact ih M26 x1 v27 _ _ _ hF hP hD hS (lv_sub hl [1, 2, 0] rfl)
noncomputable def PX5_init (N : Nat) (x1 : Int32) (K : mb_m → Prop) : Prop := PX5_init_14 N K N mb_z x1 (0 : Int32)
set_option maxHeartbeats 4000000 in
set_option maxRecDepth 100000 in
theorem cnX5_init (l : Launch) (D : va_G) (Y : Nat → ClassId) (N : Nat) (o : Nat) (sz : Nat) (x1 : Int32) (K : mb_m → Prop) (hF : PX5_init N x1 K) : Met l yX5_init wsX5_init ({ frames := 1, cells := 1, slots := 64, locals := 25 } : Room) (va_Pc [.ref o, .int x1] (mb_B D Y ([(o, .inr (5, [.null]))]) sz)) (va_Qv (fun u : (Nat → Nat) × mb_m => K u.2) (fun u t => mb_T D (va_A ([(o, .inr (5, [.null]))]) sz) (gw5 Y o u.1 u.2) t) (va_A ([(o, .inr (5, [.null]))]) sz)) 1 64 (va_A ([(o, .inr (5, [.null]))]) sz) := by
  refine mb_begin (cc := cX5_init) (maxL := 3) (ret := none) (by decide +kernel) rfl (Nat.le_of_ble_eq_true rfl) ?_
  intro p e s m below meth c ls C hsz hnm hP hD hl
  generalize hAe : va_A ([(o, .inr (5, [.null]))]) sz = A at C hD ⊢
  have C : mb_Cx p s m meth c ([.ref o, .int x1] : List Value).toArray cX5_init 3 none wsX5_init RX5 D Y A := C
  obtain ⟨hx, hb, hr, hml, hts, hown, hlocks, hA, hG⟩ := id C
  have hK := hG.1
  have hS : va_S A s.heap s.heap [] := va_S.rf
  have hl : lv_has ls 3 [(0, .ref o), (1, .int x1)] := hl
  obtain ⟨H, hH0⟩ : ∃ H, H = s.heap := ⟨_, rfl⟩
  rw [← hH0] at hP
  have hS : va_S A s.heap H [] := by rw [hH0]; exact hS
  rw [← hH0]
  have hP : va_P D vwCl ([(o, .inr (5, [.null]))]) H := hP
  have hD : va_D A ([(o, .inr (5, [.null]))]) := hD
  refine lv_aload_n hx hb dX5_init_0 rfl (lv_at hl 0 rfl) ?_
  refine W.objInit hx hb hown (hts (.methodLink RX5 3 objectInit) (List.mem_of_getElem? (i := 1) rfl)) (hts (.instanceMethod objectInit) (List.mem_of_getElem? (i := 2) rfl)) (hts (.code objectInit ⟨#[0xb1]⟩ 1 none) (List.mem_of_getElem? (i := 3) rfl)) rfl (by rw [hml]; exact hl.1) rfl dX5_init_1 (Nat.le_of_ble_eq_true rfl) (Nat.le_of_ble_eq_true rfl) ?_
  refine W.eq (g2 := F0 m 4 ls []) rfl ?_
  refine lv_aload_n hx hb dX5_init_4 rfl (lv_at hl 0 rfl) ?_
  refine lv_bipush (v := 64) hx hb dX5_init_5 (by decide) ?_
  refine mb_newI (N' := 64) hx hb (hts (.arrayClass .int) (List.mem_of_getElem? (i := 4) rfl)) hK hP hD hS hA (by decide) (by decide) (Nat.le_of_ble_eq_true rfl) (Nat.le_of_ble_eq_true rfl) (Nat.le_of_ble_eq_true rfl) dX5_init_7 (fun q7 H hP hD hS => ?_)
  have hP : va_P D vwCl ([(o, .inr (5, [.null])), (q7, .inl (Y 0, 64, .inl (fun _ => 0)))]) H := hP
  have hD : va_D A ([(o, .inr (5, [.null])), (q7, .inl (Y 0, 64, .inl (fun _ => 0)))]) := hD
  refine va_putF (D := D) (ci := 5) (v := .ref q7) (ty := (.array .int)) (C := RX5) (T := TX5) (N := 1) hx hb hts (fun _ h9 => List.mem_cons_of_mem _ (List.mem_append_right _ (h9))) tyX5 tyX5_ok nmX5 hown hK hP hD hS 0 rfl rfl 0 (by decide) (hts (.fieldLink RX5 9 "MarbleBench$Skin" "thicknesses" "[I") (List.mem_of_getElem? (i := 5) rfl)) (fun _ h9 => h9) rfl (hnm.trans rfl) rfl (by decide +kernel) rfl rfl (Nat.le_of_ble_eq_true rfl) dX5_init_9 (fun H locs hP hD hS => ?_)
  have hP : va_P D vwCl ([(o, .inr (5, [.ref q7])), (q7, .inl (Y 0, 64, .inl (fun _ => 0)))]) H := hP
  have hD : va_D A ([(o, .inr (5, [.ref q7])), (q7, .inl (Y 0, 64, .inl (fun _ => 0)))]) := hD
  obtain ⟨a, ha0⟩ : ∃ a : Nat → Nat, a 0 = q7 := ⟨fun k => if k = 0 then q7 else 0, rfl⟩
  subst ha0
  have hP : va_P D vwCl (gw5 Y o a mb_z) H := hP
  have hD : va_D A (gw5 Y o a mb_z) := hD
  refine lv_iconst (v := 0) hx hb dX5_init_12 (by decide) ?_
  refine lv_istore_n (lv' := [(2, .int (0 : Int32)), (0, .ref o), (1, .int x1)]) hx hb dX5_init_13 rfl hl (by decide) rfl (fun ls hl => ?_)
  exact wX5_init_14 C N mb_z x1 (0 : Int32) _ _ _ hF hP hD hS (lv_sub hl [1, 2, 0] rfl)
end
section
noncomputable def PX6_init (N : Nat) (K : mb_m → Prop) : Prop := K (mb_z)
set_option maxHeartbeats 4000000 in
set_option maxRecDepth 100000 in
theorem cnX6_init (l : Launch) (D : va_G) (Y : Nat → ClassId) (N : Nat) (o : Nat) (sz : Nat) (K : mb_m → Prop) (hF : PX6_init N  K) : Met l yX6_init wsX6_init ({ frames := 1, cells := 3, slots := 60, locals := 25 } : Room) (va_Pc [.ref o] (mb_B D Y ([(o, .inr (6, [.null, .null, .null, .int 0]))]) sz)) (va_Qv (fun u : (Nat → Nat) × mb_m => K u.2) (fun u t => mb_T D (va_A ([(o, .inr (6, [.null, .null, .null, .int 0]))]) sz) (gw6 Y o u.1 u.2) t) (va_A ([(o, .inr (6, [.null, .null, .null, .int 0]))]) sz)) 3 60 (va_A ([(o, .inr (6, [.null, .null, .null, .int 0]))]) sz) := by
  refine mb_begin (cc := cX6_init) (maxL := 1) (ret := none) (by decide +kernel) rfl (Nat.le_of_ble_eq_true rfl) ?_
  intro p e s m below meth c ls C hsz hnm hP hD hl
  generalize hAe : va_A ([(o, .inr (6, [.null, .null, .null, .int 0]))]) sz = A at C hD ⊢
  have C : mb_Cx p s m meth c ([.ref o] : List Value).toArray cX6_init 1 none wsX6_init RX6 D Y A := C
  obtain ⟨hx, hb, hr, hml, hts, hown, hlocks, hA, hG⟩ := id C
  have hK := hG.1
  have hS : va_S A s.heap s.heap [] := va_S.rf
  have hl : lv_has ls 1 [(0, .ref o)] := hl
  obtain ⟨H, hH0⟩ : ∃ H, H = s.heap := ⟨_, rfl⟩
  rw [← hH0] at hP
  have hS : va_S A s.heap H [] := by rw [hH0]; exact hS
  rw [← hH0]
  have hP : va_P D vwCl ([(o, .inr (6, [.null, .null, .null, .int 0]))]) H := hP
  have hD : va_D A ([(o, .inr (6, [.null, .null, .null, .int 0]))]) := hD
  refine lv_aload_n hx hb dX6_init_0 rfl (lv_at hl 0 rfl) ?_
  refine W.objInit hx hb hown (hts (.methodLink RX6 3 objectInit) (List.mem_of_getElem? (i := 1) rfl)) (hts (.instanceMethod objectInit) (List.mem_of_getElem? (i := 2) rfl)) (hts (.code objectInit ⟨#[0xb1]⟩ 1 none) (List.mem_of_getElem? (i := 3) rfl)) rfl (by rw [hml]; exact hl.1) rfl dX6_init_1 (Nat.le_of_ble_eq_true rfl) (Nat.le_of_ble_eq_true rfl) ?_
  refine W.eq (g2 := F0 m 4 ls []) rfl ?_
  refine lv_aload_n hx hb dX6_init_4 rfl (lv_at hl 0 rfl) ?_
  refine lv_bipush (v := 20) hx hb dX6_init_5 (by decide) ?_
  refine mb_newI (N' := 20) hx hb (hts (.arrayClass .int) (List.mem_of_getElem? (i := 4) rfl)) hK hP hD hS hA (by decide) (by decide) (Nat.le_of_ble_eq_true rfl) (Nat.le_of_ble_eq_true rfl) (Nat.le_of_ble_eq_true rfl) dX6_init_7 (fun q7 H hP hD hS => ?_)
  have hP : va_P D vwCl ([(o, .inr (6, [.null, .null, .null, .int 0])), (q7, .inl (Y 0, 20, .inl (fun _ => 0)))]) H := hP
  have hD : va_D A ([(o, .inr (6, [.null, .null, .null, .int 0])), (q7, .inl (Y 0, 20, .inl (fun _ => 0)))]) := hD
  refine va_putF (D := D) (ci := 6) (v := .ref q7) (ty := (.array .int)) (C := RX6) (T := TX6) (N := 4) hx hb hts (fun _ h9 => List.mem_cons_of_mem _ (List.mem_append_right _ (h9))) tyX6 tyX6_ok nmX6 hown hK hP hD hS 0 rfl rfl 0 (by decide) (hts (.fieldLink RX6 9 "MarbleBench$Speakers" "froms" "[I") (List.mem_of_getElem? (i := 5) rfl)) (fun _ h9 => h9) rfl (hnm.trans rfl) rfl (by decide +kernel) rfl rfl (Nat.le_of_ble_eq_true rfl) dX6_init_9 (fun H locs hP hD hS => ?_)
  have hP : va_P D vwCl ([(o, .inr (6, [.ref q7, .null, .null, .int 0])), (q7, .inl (Y 0, 20, .inl (fun _ => 0)))]) H := hP
  have hD : va_D A ([(o, .inr (6, [.ref q7, .null, .null, .int 0])), (q7, .inl (Y 0, 20, .inl (fun _ => 0)))]) := hD
  refine lv_aload_n hx hb dX6_init_12 rfl (lv_at hl 0 rfl) ?_
  refine lv_bipush (v := 20) hx hb dX6_init_13 (by decide) ?_
  refine mb_newI (N' := 20) hx hb (hts (.arrayClass .int) (List.mem_of_getElem? (i := 4) rfl)) hK hP hD hS hA (by decide) (by decide) (Nat.le_of_ble_eq_true rfl) (Nat.le_of_ble_eq_true rfl) (Nat.le_of_ble_eq_true rfl) dX6_init_15 (fun q15 H hP hD hS => ?_)
  have hP : va_P D vwCl ([(o, .inr (6, [.ref q7, .null, .null, .int 0])), (q7, .inl (Y 0, 20, .inl (fun _ => 0))), (q15, .inl (Y 0, 20, .inl (fun _ => 0)))]) H := hP
  have hD : va_D A ([(o, .inr (6, [.ref q7, .null, .null, .int 0])), (q7, .inl (Y 0, 20, .inl (fun _ => 0))), (q15, .inl (Y 0, 20, .inl (fun _ => 0)))]) := hD
  refine va_putF (D := D) (ci := 6) (v := .ref q15) (ty := (.array .int)) (C := RX6) (T := TX6) (N := 4) hx hb hts (fun _ h9 => List.mem_cons_of_mem _ (List.mem_append_right _ (h9))) tyX6 tyX6_ok nmX6 hown hK hP hD hS 0 rfl rfl 1 (by decide) (hts (.fieldLink RX6 15 "MarbleBench$Speakers" "tos" "[I") (List.mem_of_getElem? (i := 6) rfl)) (fun _ h9 => h9) rfl (hnm.trans rfl) rfl (by decide +kernel) rfl rfl (Nat.le_of_ble_eq_true rfl) dX6_init_17 (fun H locs hP hD hS => ?_)
  have hP : va_P D vwCl ([(o, .inr (6, [.ref q7, .ref q15, .null, .int 0])), (q7, .inl (Y 0, 20, .inl (fun _ => 0))), (q15, .inl (Y 0, 20, .inl (fun _ => 0)))]) H := hP
  have hD : va_D A ([(o, .inr (6, [.ref q7, .ref q15, .null, .int 0])), (q7, .inl (Y 0, 20, .inl (fun _ => 0))), (q15, .inl (Y 0, 20, .inl (fun _ => 0)))]) := hD
  refine lv_aload_n hx hb dX6_init_20 rfl (lv_at hl 0 rfl) ?_
  refine lv_bipush (v := 20) hx hb dX6_init_21 (by decide) ?_
  refine mb_newI (N' := 20) hx hb (hts (.arrayClass .int) (List.mem_of_getElem? (i := 4) rfl)) hK hP hD hS hA (by decide) (by decide) (Nat.le_of_ble_eq_true rfl) (Nat.le_of_ble_eq_true rfl) (Nat.le_of_ble_eq_true rfl) dX6_init_23 (fun q23 H hP hD hS => ?_)
  have hP : va_P D vwCl ([(o, .inr (6, [.ref q7, .ref q15, .null, .int 0])), (q7, .inl (Y 0, 20, .inl (fun _ => 0))), (q15, .inl (Y 0, 20, .inl (fun _ => 0))), (q23, .inl (Y 0, 20, .inl (fun _ => 0)))]) H := hP
  have hD : va_D A ([(o, .inr (6, [.ref q7, .ref q15, .null, .int 0])), (q7, .inl (Y 0, 20, .inl (fun _ => 0))), (q15, .inl (Y 0, 20, .inl (fun _ => 0))), (q23, .inl (Y 0, 20, .inl (fun _ => 0)))]) := hD
  refine va_putF (D := D) (ci := 6) (v := .ref q23) (ty := (.array .int)) (C := RX6) (T := TX6) (N := 4) hx hb hts (fun _ h9 => List.mem_cons_of_mem _ (List.mem_append_right _ (h9))) tyX6 tyX6_ok nmX6 hown hK hP hD hS 0 rfl rfl 2 (by decide) (hts (.fieldLink RX6 18 "MarbleBench$Speakers" "weights" "[I") (List.mem_of_getElem? (i := 7) rfl)) (fun _ h9 => h9) rfl (hnm.trans rfl) rfl (by decide +kernel) rfl rfl (Nat.le_of_ble_eq_true rfl) dX6_init_25 (fun H locs hP hD hS => ?_)
  have hP : va_P D vwCl ([(o, .inr (6, [.ref q7, .ref q15, .ref q23, .int 0])), (q7, .inl (Y 0, 20, .inl (fun _ => 0))), (q15, .inl (Y 0, 20, .inl (fun _ => 0))), (q23, .inl (Y 0, 20, .inl (fun _ => 0)))]) H := hP
  have hD : va_D A ([(o, .inr (6, [.ref q7, .ref q15, .ref q23, .int 0])), (q7, .inl (Y 0, 20, .inl (fun _ => 0))), (q15, .inl (Y 0, 20, .inl (fun _ => 0))), (q23, .inl (Y 0, 20, .inl (fun _ => 0)))]) := hD
  obtain ⟨a, ha0, ha1, ha2⟩ : ∃ a : Nat → Nat, a 0 = q7 ∧ a 1 = q15 ∧ a 2 = q23 := ⟨fun k => if k = 0 then q7 else if k = 1 then q15 else if k = 2 then q23 else 0, rfl, rfl, rfl⟩
  subst ha0
  subst ha1
  subst ha2
  have hP : va_P D vwCl (gw6 Y o a mb_z) H := hP
  have hD : va_D A (gw6 Y o a mb_z) := hD
  exact mb_rv (S := (Nat → Nat) × mb_m) (mc := 3) (ms := 60) (wf := fun u => gw6 Y o u.1 u.2) C (u := (a, mb_z)) hF hP hD hS dX6_init_28 (Nat.le_of_ble_eq_true rfl) (Nat.le_of_ble_eq_true rfl)
end
section
noncomputable def PX0_init_46_b (N : Nat) (K : mb_m → Prop) (b46 : mb_m → Int32 → Prop) (M : mb_m) (x1 : Int32) : Prop := ((64 : Int32) ≤ x1 → K M) ∧ (¬ (64 : Int32) ≤ x1 → vp_in x1 64 ∧ (∀ M58 : mb_m, M58 = mb_u M 0 (upd (M 0) x1.toNatClampNeg (-1 : Int32)) → (∀ v59 : Int32, v59 = x1 + (1 : Int32) → (b46 M58 v59))))
noncomputable def PX0_init_46 (N : Nat) (K : mb_m → Prop) (n : Nat) : mb_m → Int32 → Prop := Nat.rec (motive := fun _ => mb_m → Int32 → Prop) (fun _ _ => False) (fun _ b46 => PX0_init_46_b N K b46) n
set_option maxHeartbeats 4000000 in
set_option maxRecDepth 100000 in
theorem wX0_init_46 {p : Program} {l : Launch} {e : Env} {s : State} {m : MethodId} {below : List Frame} {meth : Method} {c : Code} {args : Array Value} {D : va_G} {Y : Nat → ClassId} {A : Nat → Prop} {o : Nat} {a : Nat → Nat} {N : Nat} {K : mb_m → Prop} (C : mb_Cx p s m meth c args cX0_init 2 none wsX0_init RX0 D Y A) : ∀ (n : Nat), (∀ (M : mb_m) (x1 : Int32) (H : Heap) (locs : List Loc) (ls : Array Slot), PX0_init_46 N K n M x1 → va_P D vwCl (gw0 Y o a M) H → va_D A (gw0 Y o a M) → va_S A s.heap H locs → lv_has ls 2 [(0, .ref o), (1, .int x1)] → W p l e ({ frames := 1, cells := 5, slots := 243, locals := 25 } : Room) s m args below meth c H locs 5 243 (MQ below (va_Qv (fun u : (Nat → Nat) × mb_m => K u.2) (fun u t => mb_T D A (gw0 Y o u.1 u.2) t) A) args s 5 243 A) (F0 m 46 ls [])) := by
  obtain ⟨hx, hb, hr, hml, hts, hown, hlocks, hA, hG⟩ := id C
  have hK := hG.1
  intro n
  induction n with
  | zero => intro M x1 H locs ls hF; exact (show False from hF).elim
  | succ n ih =>
    intro M x1 H locs ls hF hP hD hS hl
    have hF : PX0_init_46_b N K (PX0_init_46 N K n) M x1 := hF
    refine lv_iload_n hx hb dX0_init_46 rfl (lv_at hl 1 rfl) ?_
    refine lv_bipush (v := 64) hx hb dX0_init_47 (by decide) ?_
    refine lv_icmp_ge (tgt := 65) hx hb dX0_init_49 (by decide) (fun c_49 => ?_) (fun c_49 => ?_)
    · have hF := hF.1 c_49
      exact mb_rv (S := (Nat → Nat) × mb_m) (mc := 5) (ms := 243) (wf := fun u => gw0 Y o u.1 u.2) C (u := (a, M)) hF hP hD hS dX0_init_65 (Nat.le_of_ble_eq_true rfl) (Nat.le_of_ble_eq_true rfl)
    · have hF := hF.2 c_49
      refine lv_aload_n hx hb dX0_init_52 rfl (lv_at hl 0 rfl) ?_
      refine va_get (D := D) (ci := 0) (v := .ref (a 0)) (C := RX0) (T := TX0) (N := 5) hx hb hts (fun _ h9 => List.mem_cons_of_mem _ (List.mem_append_right _ (h9))) hown hK hP 0 rfl rfl 0 (by decide) (hts (.fieldLink RX0 9 "MarbleBench$Bath" "colours" "[I") (List.mem_of_getElem? (i := 5) rfl)) (fun _ h9 => h9) rfl dX0_init_53 ?_
      refine lv_iload_n hx hb dX0_init_56 rfl (lv_at hl 1 rfl) ?_
      refine lv_iconst (v := -1) hx hb dX0_init_57 (by decide) ?_
      obtain ⟨hi58, hF⟩ := hF
      refine va_iast hx hb hK hP hD hS 1 0 rfl rfl hi58 dX0_init_58 (fun H locs hP hD hS => ?_)
      obtain ⟨M58, eM58⟩ : ∃ y : mb_m, y = mb_u M 0 (upd (M 0) x1.toNatClampNeg (-1 : Int32)) := ⟨_, rfl⟩
      have hF := hF M58 eM58
      have hP : va_P D vwCl (gw0 Y o a (mb_u M 0 (upd (M 0) x1.toNatClampNeg (-1 : Int32)))) H := hP
      have hD : va_D A (gw0 Y o a (mb_u M 0 (upd (M 0) x1.toNatClampNeg (-1 : Int32)))) := hD
      rw [← eM58] at hP hD
      obtain ⟨v59, ev59⟩ : ∃ y : Int32, y = x1 + (1 : Int32) := ⟨_, rfl⟩
      have hF := hF v59 ev59
      refine lv_iinc (v := v59) (lv' := [(1, .int v59), (0, .ref o)]) hx hb dX0_init_59 hl (k := 1) rfl (by rw [ev59]; rfl) (by decide) rfl (fun ls hl => ?_)
      refine lv_goto (tgt := 46) hx hb dX0_init_62 (by decide) ?_
      exact ih M58 v59 _ _ _ hF hP hD hS (lv_sub hl [1, 0] rfl)
noncomputable def PX0_init (N : Nat) (K : mb_m → Prop) : Prop := PX0_init_46 N K N mb_z (0 : Int32)
set_option maxHeartbeats 4000000 in
set_option maxRecDepth 100000 in
theorem cnX0_init (l : Launch) (D : va_G) (Y : Nat → ClassId) (N : Nat) (o : Nat) (sz : Nat) (K : mb_m → Prop) (hF : PX0_init N  K) : Met l yX0_init wsX0_init ({ frames := 1, cells := 5, slots := 243, locals := 25 } : Room) (va_Pc [.ref o] (mb_B D Y ([(o, .inr (0, [.null, .null, .null, .null, .null]))]) sz)) (va_Qv (fun u : (Nat → Nat) × mb_m => K u.2) (fun u t => mb_T D (va_A ([(o, .inr (0, [.null, .null, .null, .null, .null]))]) sz) (gw0 Y o u.1 u.2) t) (va_A ([(o, .inr (0, [.null, .null, .null, .null, .null]))]) sz)) 5 243 (va_A ([(o, .inr (0, [.null, .null, .null, .null, .null]))]) sz) := by
  refine mb_begin (cc := cX0_init) (maxL := 2) (ret := none) (by decide +kernel) rfl (Nat.le_of_ble_eq_true rfl) ?_
  intro p e s m below meth c ls C hsz hnm hP hD hl
  generalize hAe : va_A ([(o, .inr (0, [.null, .null, .null, .null, .null]))]) sz = A at C hD ⊢
  have C : mb_Cx p s m meth c ([.ref o] : List Value).toArray cX0_init 2 none wsX0_init RX0 D Y A := C
  obtain ⟨hx, hb, hr, hml, hts, hown, hlocks, hA, hG⟩ := id C
  have hK := hG.1
  have hS : va_S A s.heap s.heap [] := va_S.rf
  have hl : lv_has ls 2 [(0, .ref o)] := hl
  obtain ⟨H, hH0⟩ : ∃ H, H = s.heap := ⟨_, rfl⟩
  rw [← hH0] at hP
  have hS : va_S A s.heap H [] := by rw [hH0]; exact hS
  rw [← hH0]
  have hP : va_P D vwCl ([(o, .inr (0, [.null, .null, .null, .null, .null]))]) H := hP
  have hD : va_D A ([(o, .inr (0, [.null, .null, .null, .null, .null]))]) := hD
  refine lv_aload_n hx hb dX0_init_0 rfl (lv_at hl 0 rfl) ?_
  refine W.objInit hx hb hown (hts (.methodLink RX0 3 objectInit) (List.mem_of_getElem? (i := 1) rfl)) (hts (.instanceMethod objectInit) (List.mem_of_getElem? (i := 2) rfl)) (hts (.code objectInit ⟨#[0xb1]⟩ 1 none) (List.mem_of_getElem? (i := 3) rfl)) rfl (by rw [hml]; exact hl.1) rfl dX0_init_1 (Nat.le_of_ble_eq_true rfl) (Nat.le_of_ble_eq_true rfl) ?_
  refine W.eq (g2 := F0 m 4 ls []) rfl ?_
  refine lv_aload_n hx hb dX0_init_4 rfl (lv_at hl 0 rfl) ?_
  refine lv_bipush (v := 64) hx hb dX0_init_5 (by decide) ?_
  refine mb_newI (N' := 64) hx hb (hts (.arrayClass .int) (List.mem_of_getElem? (i := 4) rfl)) hK hP hD hS hA (by decide) (by decide) (Nat.le_of_ble_eq_true rfl) (Nat.le_of_ble_eq_true rfl) (Nat.le_of_ble_eq_true rfl) dX0_init_7 (fun q7 H hP hD hS => ?_)
  have hP : va_P D vwCl ([(o, .inr (0, [.null, .null, .null, .null, .null])), (q7, .inl (Y 0, 64, .inl (fun _ => 0)))]) H := hP
  have hD : va_D A ([(o, .inr (0, [.null, .null, .null, .null, .null])), (q7, .inl (Y 0, 64, .inl (fun _ => 0)))]) := hD
  refine va_putF (D := D) (ci := 0) (v := .ref q7) (ty := (.array .int)) (C := RX0) (T := TX0) (N := 5) hx hb hts (fun _ h9 => List.mem_cons_of_mem _ (List.mem_append_right _ (h9))) tyX0 tyX0_ok nmX0 hown hK hP hD hS 0 rfl rfl 0 (by decide) (hts (.fieldLink RX0 9 "MarbleBench$Bath" "colours" "[I") (List.mem_of_getElem? (i := 5) rfl)) (fun _ h9 => h9) rfl (hnm.trans rfl) rfl (by decide +kernel) rfl rfl (Nat.le_of_ble_eq_true rfl) dX0_init_9 (fun H locs hP hD hS => ?_)
  have hP : va_P D vwCl ([(o, .inr (0, [.ref q7, .null, .null, .null, .null])), (q7, .inl (Y 0, 64, .inl (fun _ => 0)))]) H := hP
  have hD : va_D A ([(o, .inr (0, [.ref q7, .null, .null, .null, .null])), (q7, .inl (Y 0, 64, .inl (fun _ => 0)))]) := hD
  refine lv_aload_n hx hb dX0_init_12 rfl (lv_at hl 0 rfl) ?_
  refine lv_bipush (v := 64) hx hb dX0_init_13 (by decide) ?_
  refine mb_newI (N' := 64) hx hb (hts (.arrayClass .int) (List.mem_of_getElem? (i := 4) rfl)) hK hP hD hS hA (by decide) (by decide) (Nat.le_of_ble_eq_true rfl) (Nat.le_of_ble_eq_true rfl) (Nat.le_of_ble_eq_true rfl) dX0_init_15 (fun q15 H hP hD hS => ?_)
  have hP : va_P D vwCl ([(o, .inr (0, [.ref q7, .null, .null, .null, .null])), (q7, .inl (Y 0, 64, .inl (fun _ => 0))), (q15, .inl (Y 0, 64, .inl (fun _ => 0)))]) H := hP
  have hD : va_D A ([(o, .inr (0, [.ref q7, .null, .null, .null, .null])), (q7, .inl (Y 0, 64, .inl (fun _ => 0))), (q15, .inl (Y 0, 64, .inl (fun _ => 0)))]) := hD
  refine va_putF (D := D) (ci := 0) (v := .ref q15) (ty := (.array .int)) (C := RX0) (T := TX0) (N := 5) hx hb hts (fun _ h9 => List.mem_cons_of_mem _ (List.mem_append_right _ (h9))) tyX0 tyX0_ok nmX0 hown hK hP hD hS 0 rfl rfl 1 (by decide) (hts (.fieldLink RX0 15 "MarbleBench$Bath" "strengths" "[I") (List.mem_of_getElem? (i := 6) rfl)) (fun _ h9 => h9) rfl (hnm.trans rfl) rfl (by decide +kernel) rfl rfl (Nat.le_of_ble_eq_true rfl) dX0_init_17 (fun H locs hP hD hS => ?_)
  have hP : va_P D vwCl ([(o, .inr (0, [.ref q7, .ref q15, .null, .null, .null])), (q7, .inl (Y 0, 64, .inl (fun _ => 0))), (q15, .inl (Y 0, 64, .inl (fun _ => 0)))]) H := hP
  have hD : va_D A ([(o, .inr (0, [.ref q7, .ref q15, .null, .null, .null])), (q7, .inl (Y 0, 64, .inl (fun _ => 0))), (q15, .inl (Y 0, 64, .inl (fun _ => 0)))]) := hD
  refine lv_aload_n hx hb dX0_init_20 rfl (lv_at hl 0 rfl) ?_
  refine lv_bipush (v := 99) hx hb dX0_init_21 (by decide) ?_
  refine mb_newI (N' := 99) hx hb (hts (.arrayClass .int) (List.mem_of_getElem? (i := 4) rfl)) hK hP hD hS hA (by decide) (by decide) (Nat.le_of_ble_eq_true rfl) (Nat.le_of_ble_eq_true rfl) (Nat.le_of_ble_eq_true rfl) dX0_init_23 (fun q23 H hP hD hS => ?_)
  have hP : va_P D vwCl ([(o, .inr (0, [.ref q7, .ref q15, .null, .null, .null])), (q7, .inl (Y 0, 64, .inl (fun _ => 0))), (q15, .inl (Y 0, 64, .inl (fun _ => 0))), (q23, .inl (Y 0, 99, .inl (fun _ => 0)))]) H := hP
  have hD : va_D A ([(o, .inr (0, [.ref q7, .ref q15, .null, .null, .null])), (q7, .inl (Y 0, 64, .inl (fun _ => 0))), (q15, .inl (Y 0, 64, .inl (fun _ => 0))), (q23, .inl (Y 0, 99, .inl (fun _ => 0)))]) := hD
  refine va_putF (D := D) (ci := 0) (v := .ref q23) (ty := (.array .int)) (C := RX0) (T := TX0) (N := 5) hx hb hts (fun _ h9 => List.mem_cons_of_mem _ (List.mem_append_right _ (h9))) tyX0 tyX0_ok nmX0 hown hK hP hD hS 0 rfl rfl 2 (by decide) (hts (.fieldLink RX0 18 "MarbleBench$Bath" "cellsAway" "[I") (List.mem_of_getElem? (i := 7) rfl)) (fun _ h9 => h9) rfl (hnm.trans rfl) rfl (by decide +kernel) rfl rfl (Nat.le_of_ble_eq_true rfl) dX0_init_25 (fun H locs hP hD hS => ?_)
  have hP : va_P D vwCl ([(o, .inr (0, [.ref q7, .ref q15, .ref q23, .null, .null])), (q7, .inl (Y 0, 64, .inl (fun _ => 0))), (q15, .inl (Y 0, 64, .inl (fun _ => 0))), (q23, .inl (Y 0, 99, .inl (fun _ => 0)))]) H := hP
  have hD : va_D A ([(o, .inr (0, [.ref q7, .ref q15, .ref q23, .null, .null])), (q7, .inl (Y 0, 64, .inl (fun _ => 0))), (q15, .inl (Y 0, 64, .inl (fun _ => 0))), (q23, .inl (Y 0, 99, .inl (fun _ => 0)))]) := hD
  refine lv_aload_n hx hb dX0_init_28 rfl (lv_at hl 0 rfl) ?_
  refine lv_bipush (v := 8) hx hb dX0_init_29 (by decide) ?_
  refine mb_newI (N' := 8) hx hb (hts (.arrayClass .int) (List.mem_of_getElem? (i := 4) rfl)) hK hP hD hS hA (by decide) (by decide) (Nat.le_of_ble_eq_true rfl) (Nat.le_of_ble_eq_true rfl) (Nat.le_of_ble_eq_true rfl) dX0_init_31 (fun q31 H hP hD hS => ?_)
  have hP : va_P D vwCl ([(o, .inr (0, [.ref q7, .ref q15, .ref q23, .null, .null])), (q7, .inl (Y 0, 64, .inl (fun _ => 0))), (q15, .inl (Y 0, 64, .inl (fun _ => 0))), (q23, .inl (Y 0, 99, .inl (fun _ => 0))), (q31, .inl (Y 0, 8, .inl (fun _ => 0)))]) H := hP
  have hD : va_D A ([(o, .inr (0, [.ref q7, .ref q15, .ref q23, .null, .null])), (q7, .inl (Y 0, 64, .inl (fun _ => 0))), (q15, .inl (Y 0, 64, .inl (fun _ => 0))), (q23, .inl (Y 0, 99, .inl (fun _ => 0))), (q31, .inl (Y 0, 8, .inl (fun _ => 0)))]) := hD
  refine va_putF (D := D) (ci := 0) (v := .ref q31) (ty := (.array .int)) (C := RX0) (T := TX0) (N := 5) hx hb hts (fun _ h9 => List.mem_cons_of_mem _ (List.mem_append_right _ (h9))) tyX0 tyX0_ok nmX0 hown hK hP hD hS 0 rfl rfl 3 (by decide) (hts (.fieldLink RX0 21 "MarbleBench$Bath" "lineColours" "[I") (List.mem_of_getElem? (i := 8) rfl)) (fun _ h9 => h9) rfl (hnm.trans rfl) rfl (by decide +kernel) rfl rfl (Nat.le_of_ble_eq_true rfl) dX0_init_33 (fun H locs hP hD hS => ?_)
  have hP : va_P D vwCl ([(o, .inr (0, [.ref q7, .ref q15, .ref q23, .ref q31, .null])), (q7, .inl (Y 0, 64, .inl (fun _ => 0))), (q15, .inl (Y 0, 64, .inl (fun _ => 0))), (q23, .inl (Y 0, 99, .inl (fun _ => 0))), (q31, .inl (Y 0, 8, .inl (fun _ => 0)))]) H := hP
  have hD : va_D A ([(o, .inr (0, [.ref q7, .ref q15, .ref q23, .ref q31, .null])), (q7, .inl (Y 0, 64, .inl (fun _ => 0))), (q15, .inl (Y 0, 64, .inl (fun _ => 0))), (q23, .inl (Y 0, 99, .inl (fun _ => 0))), (q31, .inl (Y 0, 8, .inl (fun _ => 0)))]) := hD
  refine lv_aload_n hx hb dX0_init_36 rfl (lv_at hl 0 rfl) ?_
  refine lv_bipush (v := 8) hx hb dX0_init_37 (by decide) ?_
  refine mb_newI (N' := 8) hx hb (hts (.arrayClass .int) (List.mem_of_getElem? (i := 4) rfl)) hK hP hD hS hA (by decide) (by decide) (Nat.le_of_ble_eq_true rfl) (Nat.le_of_ble_eq_true rfl) (Nat.le_of_ble_eq_true rfl) dX0_init_39 (fun q39 H hP hD hS => ?_)
  have hP : va_P D vwCl ([(o, .inr (0, [.ref q7, .ref q15, .ref q23, .ref q31, .null])), (q7, .inl (Y 0, 64, .inl (fun _ => 0))), (q15, .inl (Y 0, 64, .inl (fun _ => 0))), (q23, .inl (Y 0, 99, .inl (fun _ => 0))), (q31, .inl (Y 0, 8, .inl (fun _ => 0))), (q39, .inl (Y 0, 8, .inl (fun _ => 0)))]) H := hP
  have hD : va_D A ([(o, .inr (0, [.ref q7, .ref q15, .ref q23, .ref q31, .null])), (q7, .inl (Y 0, 64, .inl (fun _ => 0))), (q15, .inl (Y 0, 64, .inl (fun _ => 0))), (q23, .inl (Y 0, 99, .inl (fun _ => 0))), (q31, .inl (Y 0, 8, .inl (fun _ => 0))), (q39, .inl (Y 0, 8, .inl (fun _ => 0)))]) := hD
  refine va_putF (D := D) (ci := 0) (v := .ref q39) (ty := (.array .int)) (C := RX0) (T := TX0) (N := 5) hx hb hts (fun _ h9 => List.mem_cons_of_mem _ (List.mem_append_right _ (h9))) tyX0 tyX0_ok nmX0 hown hK hP hD hS 0 rfl rfl 4 (by decide) (hts (.fieldLink RX0 24 "MarbleBench$Bath" "lineStrengths" "[I") (List.mem_of_getElem? (i := 9) rfl)) (fun _ h9 => h9) rfl (hnm.trans rfl) rfl (by decide +kernel) rfl rfl (Nat.le_of_ble_eq_true rfl) dX0_init_41 (fun H locs hP hD hS => ?_)
  have hP : va_P D vwCl ([(o, .inr (0, [.ref q7, .ref q15, .ref q23, .ref q31, .ref q39])), (q7, .inl (Y 0, 64, .inl (fun _ => 0))), (q15, .inl (Y 0, 64, .inl (fun _ => 0))), (q23, .inl (Y 0, 99, .inl (fun _ => 0))), (q31, .inl (Y 0, 8, .inl (fun _ => 0))), (q39, .inl (Y 0, 8, .inl (fun _ => 0)))]) H := hP
  have hD : va_D A ([(o, .inr (0, [.ref q7, .ref q15, .ref q23, .ref q31, .ref q39])), (q7, .inl (Y 0, 64, .inl (fun _ => 0))), (q15, .inl (Y 0, 64, .inl (fun _ => 0))), (q23, .inl (Y 0, 99, .inl (fun _ => 0))), (q31, .inl (Y 0, 8, .inl (fun _ => 0))), (q39, .inl (Y 0, 8, .inl (fun _ => 0)))]) := hD
  obtain ⟨a, ha0, ha1, ha2, ha3, ha4⟩ : ∃ a : Nat → Nat, a 0 = q7 ∧ a 1 = q15 ∧ a 2 = q23 ∧ a 3 = q31 ∧ a 4 = q39 := ⟨fun k => if k = 0 then q7 else if k = 1 then q15 else if k = 2 then q23 else if k = 3 then q31 else if k = 4 then q39 else 0, rfl, rfl, rfl, rfl, rfl⟩
  subst ha0
  subst ha1
  subst ha2
  subst ha3
  subst ha4
  have hP : va_P D vwCl (gw0 Y o a mb_z) H := hP
  have hD : va_D A (gw0 Y o a mb_z) := hD
  refine lv_iconst (v := 0) hx hb dX0_init_44 (by decide) ?_
  refine lv_istore_n (lv' := [(1, .int (0 : Int32)), (0, .ref o)]) hx hb dX0_init_45 rfl hl (by decide) rfl (fun ls hl => ?_)
  exact wX0_init_46 C N mb_z (0 : Int32) _ _ _ hF hP hD hS (lv_sub hl [1, 0] rfl)
end
noncomputable def PX1_init (N : Nat) (x1 x2 x3 x4 x5 : Int32) (K : mb_m → mb_m → mb_m → mb_m → Prop) : Prop := ∀ q5 : Nat, (PX3_init N  (fun M9 => ∀ a9 : Nat → Nat, (∀ q16 : Nat, (PX6_init N  (fun M20 => ∀ a20 : Nat → Nat, (∀ q32 : Nat, (PX4_init N x1 x3 (fun M38 => ∀ a38 : Nat → Nat, (∀ v48 : Int32, v48 = (x1 * x2) → (mb_isB x5 ∧ (∀ M1 : mb_m, M1 = (mb_u (mb_u (mb_u mb_z 3 (mb_c v48)) 4 (mb_c x4)) 5 (mb_c x5)) → (K M1 M38 M9 M20))))))))))))
set_option maxHeartbeats 4000000 in
set_option maxRecDepth 100000 in
theorem cnX1_init (l : Launch) (D : va_G) (Y : Nat → ClassId) (N : Nat) (o : Nat) (sz : Nat) (x1 x2 x3 x4 x5 : Int32) (K : mb_m → mb_m → mb_m → mb_m → Prop) (hF : PX1_init N x1 x2 x3 x4 x5 K) : Met l yX1_init wsX1_init ({ frames := 2, cells := 10, slots := 344, locals := 47 } : Room) (va_Pc [.ref o, .int x1, .int x2, .int x3, .int x4, .int x5] (mb_B D Y ([(o, .inr (1, [.null, .null, .null, .int 0, .int 0, .int 0, .int 0]))]) sz)) (va_Qv (fun u : (Nat → Nat) × (Nat → Nat) × (Nat → Nat) × (Nat → Nat) × mb_m × mb_m × mb_m × mb_m => K u.2.2.2.2.1 u.2.2.2.2.2.1 u.2.2.2.2.2.2.1 u.2.2.2.2.2.2.2) (fun u t => mb_T D (va_A ([(o, .inr (1, [.null, .null, .null, .int 0, .int 0, .int 0, .int 0]))]) sz) (gw1 Y o u.1 u.2.2.2.2.1 ++ gw4 Y (u.1 0) u.2.1 u.2.2.2.2.2.1 ++ gw3 Y (u.1 1) u.2.2.1 u.2.2.2.2.2.2.1 ++ gw6 Y (u.1 2) u.2.2.2.1 u.2.2.2.2.2.2.2) t) (va_A ([(o, .inr (1, [.null, .null, .null, .int 0, .int 0, .int 0, .int 0]))]) sz)) 10 344 (va_A ([(o, .inr (1, [.null, .null, .null, .int 0, .int 0, .int 0, .int 0]))]) sz) := by
  refine mb_begin (cc := cX1_init) (maxL := 6) (ret := none) (by decide +kernel) rfl (Nat.le_of_ble_eq_true rfl) ?_
  intro p e s m below meth c ls C hsz hnm hP hD hl
  generalize hAe : va_A ([(o, .inr (1, [.null, .null, .null, .int 0, .int 0, .int 0, .int 0]))]) sz = A at C hD ⊢
  have C : mb_Cx p s m meth c ([.ref o, .int x1, .int x2, .int x3, .int x4, .int x5] : List Value).toArray cX1_init 6 none wsX1_init RX1 D Y A := C
  obtain ⟨hx, hb, hr, hml, hts, hown, hlocks, hA, hG⟩ := id C
  have hK := hG.1
  have hS : va_S A s.heap s.heap [] := va_S.rf
  have hl : lv_has ls 6 [(0, .ref o), (1, .int x1), (2, .int x2), (3, .int x3), (4, .int x4), (5, .int x5)] := hl
  obtain ⟨H, hH0⟩ : ∃ H, H = s.heap := ⟨_, rfl⟩
  rw [← hH0] at hP
  have hS : va_S A s.heap H [] := by rw [hH0]; exact hS
  rw [← hH0]
  have hP : va_P D vwCl ([(o, .inr (1, [.null, .null, .null, .int 0, .int 0, .int 0, .int 0]))]) H := hP
  have hD : va_D A ([(o, .inr (1, [.null, .null, .null, .int 0, .int 0, .int 0, .int 0]))]) := hD
  refine lv_aload_n hx hb dX1_init_0 rfl (lv_at hl 0 rfl) ?_
  refine W.objInit hx hb hown (hts (.methodLink RX1 3 objectInit) (List.mem_of_getElem? (i := 1) rfl)) (hts (.instanceMethod objectInit) (List.mem_of_getElem? (i := 2) rfl)) (hts (.code objectInit ⟨#[0xb1]⟩ 1 none) (List.mem_of_getElem? (i := 3) rfl)) rfl (by rw [hml]; exact hl.1) rfl dX1_init_1 (Nat.le_of_ble_eq_true rfl) (Nat.le_of_ble_eq_true rfl) ?_
  refine W.eq (g2 := F0 m 4 ls []) rfl ?_
  refine lv_aload_n hx hb dX1_init_4 rfl (lv_at hl 0 rfl) ?_
  refine va_new (ci := 3) (fs := [.null, .int 0]) (C := RX3) (T := TX3) (N := 2) hx hb hts (fun _ h9 => List.mem_cons_of_mem _ (List.mem_append_left _ (List.mem_append_left _ (List.mem_append_left _ (List.mem_append_right _ (h9)))))) tyX3 tyX3_ok hown (hts (.classLink RX1 9 RX3) (List.mem_of_getElem? (i := 4) rfl)) (hts (.instantiable RX3 2) (List.mem_of_getElem? (i := 5) rfl)) (hts (.initialized RX3) (List.mem_of_getElem? (i := 6) rfl)) hK hP hD hS hA rfl (fun j hj => by rcases (show j = 0 ∨ j = 1 by omega) with rfl | rfl <;> rfl) (Nat.le_of_ble_eq_true rfl) (Nat.le_of_ble_eq_true rfl) dX1_init_5 (fun q5 H hP hD hS => ?_)
  have hF := hF q5
  have hP : va_P D vwCl ([(o, .inr (1, [.null, .null, .null, .int 0, .int 0, .int 0, .int 0])), (q5, .inr (3, [.null, .int 0]))]) H := hP
  have hD : va_D A ([(o, .inr (1, [.null, .null, .null, .int 0, .int 0, .int 0, .int 0])), (q5, .inr (3, [.null, .int 0]))]) := hD
  refine lv_dup hx hb dX1_init_8 rfl ?_
  have hPc := hP.sub (ws' := [(q5, .inr (3, [.null, .int 0]))]) [1] rfl
  have hDc := hD.sub (ws' := [(q5, .inr (3, [.null, .int 0]))]) [1] (by decide) rfl
  refine mb_cPv (wc := [(q5, .inr (3, [.null, .int 0]))]) (wr := [(o, .inr (1, [.null, .null, .null, .int 0, .int 0, .int 0, .int 0]))]) hP hD hS hA [1] [0] rfl rfl (by decide) (by decide) (va_runIN (As := []) (rest := [.ref q5, .ref o]) ⟨hx, hb, hml, hown, hts⟩ (cnX3_init l D Y N q5 _  _ hF) ⟨va_cnB 0 hts gX1_init_X3_init_n11 rfl rfl rfl (hG.2.1 _ (List.mem_of_getElem? (i := 22) rfl)) (hts (.initialized RX3) (List.mem_of_getElem? (i := 6) rfl)) (by decide +kernel) ⟨Nat.le_of_ble_eq_true rfl, Nat.le_of_ble_eq_true rfl⟩, rfl, hts (.instanceMethod yX3_init) (List.mem_of_getElem? (i := 20) rfl)⟩ (mb_preS (A := A) hG hPc hDc) rfl rfl hl.1 rfl (lv_room (Nat.le_of_ble_eq_true rfl)) dX1_init_9 ⟨Nat.le_of_ble_eq_true rfl, Nat.le_of_ble_eq_true rfl⟩) (fun u9 H locs hF hP hD hS => ?_)
  obtain ⟨a9, M9⟩ := u9
  have hF := hF a9
  have hP : va_P D vwCl ([(o, .inr (1, [.null, .null, .null, .int 0, .int 0, .int 0, .int 0]))] ++ gw3 Y q5 a9 M9) H := hP
  have hD : va_D A ([(o, .inr (1, [.null, .null, .null, .int 0, .int 0, .int 0, .int 0]))] ++ gw3 Y q5 a9 M9) := hD
  refine va_putF (D := D) (ci := 1) (v := .ref q5) (ty := (.object "MarbleBench$Repairs")) (C := RX1) (T := TX1) (N := 7) hx hb hts (fun _ h9 => List.mem_cons_of_mem _ (List.mem_append_left _ (List.mem_append_left _ (List.mem_append_right _ (h9))))) tyX1 tyX1_ok nmX1 hown hK hP hD hS 0 rfl rfl 1 (by decide) (hts (.fieldLink RX1 12 "MarbleBench$Book" "repairs" "LMarbleBench$Repairs;") (List.mem_of_getElem? (i := 7) rfl)) (fun _ h9 => h9) rfl (hnm.trans rfl) rfl (by decide +kernel) rfl rfl (Nat.le_of_ble_eq_true rfl) dX1_init_12 (fun H locs hP hD hS => ?_)
  have hP : va_P D vwCl ([(o, .inr (1, [.null, .ref q5, .null, .int 0, .int 0, .int 0, .int 0]))] ++ gw3 Y q5 a9 M9) H := hP
  have hD : va_D A ([(o, .inr (1, [.null, .ref q5, .null, .int 0, .int 0, .int 0, .int 0]))] ++ gw3 Y q5 a9 M9) := hD
  refine lv_aload_n hx hb dX1_init_15 rfl (lv_at hl 0 rfl) ?_
  refine va_new (ci := 6) (fs := [.null, .null, .null, .int 0]) (C := RX6) (T := TX6) (N := 4) hx hb hts (fun _ h9 => List.mem_cons_of_mem _ (List.mem_append_left _ (List.mem_append_right _ (h9)))) tyX6 tyX6_ok hown (hts (.classLink RX1 18 RX6) (List.mem_of_getElem? (i := 8) rfl)) (hts (.instantiable RX6 4) (List.mem_of_getElem? (i := 9) rfl)) (hts (.initialized RX6) (List.mem_of_getElem? (i := 10) rfl)) hK hP hD hS hA rfl (fun j hj => by rcases (show j = 0 ∨ j = 1 ∨ j = 2 ∨ j = 3 by omega) with rfl | rfl | rfl | rfl <;> rfl) (Nat.le_of_ble_eq_true rfl) (Nat.le_of_ble_eq_true rfl) dX1_init_16 (fun q16 H hP hD hS => ?_)
  have hF := hF q16
  have hP : va_P D vwCl ([(o, .inr (1, [.null, .ref q5, .null, .int 0, .int 0, .int 0, .int 0]))] ++ gw3 Y q5 a9 M9 ++ [(q16, .inr (6, [.null, .null, .null, .int 0]))]) H := hP
  have hD : va_D A ([(o, .inr (1, [.null, .ref q5, .null, .int 0, .int 0, .int 0, .int 0]))] ++ gw3 Y q5 a9 M9 ++ [(q16, .inr (6, [.null, .null, .null, .int 0]))]) := hD
  refine lv_dup hx hb dX1_init_19 rfl ?_
  have hPc := hP.sub (ws' := [(q16, .inr (6, [.null, .null, .null, .int 0]))]) [3] rfl
  have hDc := hD.sub (ws' := [(q16, .inr (6, [.null, .null, .null, .int 0]))]) [3] (by decide) rfl
  refine mb_cPv (wc := [(q16, .inr (6, [.null, .null, .null, .int 0]))]) (wr := [(o, .inr (1, [.null, .ref q5, .null, .int 0, .int 0, .int 0, .int 0]))] ++ gw3 Y q5 a9 M9) hP hD hS hA [3] [0, 1, 2] rfl rfl (by decide) (by decide) (va_runIN (As := []) (rest := [.ref q16, .ref o]) ⟨hx, hb, hml, hown, hts⟩ (cnX6_init l D Y N q16 _  _ hF) ⟨va_cnB 0 hts gX1_init_X6_init_n20 rfl rfl rfl (hG.2.1 _ (List.mem_of_getElem? (i := 23) rfl)) (hts (.initialized RX6) (List.mem_of_getElem? (i := 10) rfl)) (by decide +kernel) ⟨Nat.le_of_ble_eq_true rfl, Nat.le_of_ble_eq_true rfl⟩, rfl, hts (.instanceMethod yX6_init) (List.mem_of_getElem? (i := 25) rfl)⟩ (mb_preS (A := A) hG hPc hDc) rfl rfl hl.1 rfl (lv_room (Nat.le_of_ble_eq_true rfl)) dX1_init_20 ⟨Nat.le_of_ble_eq_true rfl, Nat.le_of_ble_eq_true rfl⟩) (fun u20 H locs hF hP hD hS => ?_)
  obtain ⟨a20, M20⟩ := u20
  have hF := hF a20
  have hP : va_P D vwCl ([(o, .inr (1, [.null, .ref q5, .null, .int 0, .int 0, .int 0, .int 0]))] ++ gw3 Y q5 a9 M9 ++ gw6 Y q16 a20 M20) H := hP
  have hD : va_D A ([(o, .inr (1, [.null, .ref q5, .null, .int 0, .int 0, .int 0, .int 0]))] ++ gw3 Y q5 a9 M9 ++ gw6 Y q16 a20 M20) := hD
  refine va_putF (D := D) (ci := 1) (v := .ref q16) (ty := (.object "MarbleBench$Speakers")) (C := RX1) (T := TX1) (N := 7) hx hb hts (fun _ h9 => List.mem_cons_of_mem _ (List.mem_append_left _ (List.mem_append_left _ (List.mem_append_right _ (h9))))) tyX1 tyX1_ok nmX1 hown hK hP hD hS 0 rfl rfl 2 (by decide) (hts (.fieldLink RX1 21 "MarbleBench$Book" "speakers" "LMarbleBench$Speakers;") (List.mem_of_getElem? (i := 11) rfl)) (fun _ h9 => h9) rfl (hnm.trans rfl) rfl (by decide +kernel) rfl rfl (Nat.le_of_ble_eq_true rfl) dX1_init_23 (fun H locs hP hD hS => ?_)
  have hP : va_P D vwCl ([(o, .inr (1, [.null, .ref q5, .ref q16, .int 0, .int 0, .int 0, .int 0]))] ++ gw3 Y q5 a9 M9 ++ gw6 Y q16 a20 M20) H := hP
  have hD : va_D A ([(o, .inr (1, [.null, .ref q5, .ref q16, .int 0, .int 0, .int 0, .int 0]))] ++ gw3 Y q5 a9 M9 ++ gw6 Y q16 a20 M20) := hD
  refine lv_aload_n hx hb dX1_init_26 rfl (lv_at hl 0 rfl) ?_
  refine lv_iconst (v := 0) hx hb dX1_init_27 (by decide) ?_
  refine va_put (D := D) (ci := 1) (v := .int (0 : Int32)) (ty := .int) (C := RX1) (T := TX1) (N := 7) hx hb hts (fun _ h9 => List.mem_cons_of_mem _ (List.mem_append_left _ (List.mem_append_left _ (List.mem_append_right _ (h9))))) tyX1 tyX1_ok nmX1 hown hK hP hD hS 0 rfl rfl 6 (by decide) (hts (.fieldLink RX1 25 "MarbleBench$Book" "spine" "I") (List.mem_of_getElem? (i := 12) rfl)) (fun _ h9 => h9) rfl (by decide +kernel) rfl rfl (Nat.le_of_ble_eq_true rfl) dX1_init_28 (fun H locs hP hD hS => ?_)
  have hP : va_P D vwCl ([(o, .inr (1, [.null, .ref q5, .ref q16, .int 0, .int 0, .int 0, .int (0 : Int32)]))] ++ gw3 Y q5 a9 M9 ++ gw6 Y q16 a20 M20) H := hP
  have hD : va_D A ([(o, .inr (1, [.null, .ref q5, .ref q16, .int 0, .int 0, .int 0, .int (0 : Int32)]))] ++ gw3 Y q5 a9 M9 ++ gw6 Y q16 a20 M20) := hD
  refine lv_aload_n hx hb dX1_init_31 rfl (lv_at hl 0 rfl) ?_
  refine va_new (ci := 4) (fs := [.int 0, .int 0, .null, .null, .null, .int 0, .int 0, .int 0, .int 0, .int 0]) (C := RX4) (T := TX4) (N := 10) hx hb hts (fun _ h9 => List.mem_cons_of_mem _ (List.mem_append_right _ (h9))) tyX4 tyX4_ok hown (hts (.classLink RX1 29 RX4) (List.mem_of_getElem? (i := 13) rfl)) (hts (.instantiable RX4 10) (List.mem_of_getElem? (i := 14) rfl)) (hts (.initialized RX4) (List.mem_of_getElem? (i := 15) rfl)) hK hP hD hS hA rfl (fun j hj => by rcases (show j = 0 ∨ j = 1 ∨ j = 2 ∨ j = 3 ∨ j = 4 ∨ j = 5 ∨ j = 6 ∨ j = 7 ∨ j = 8 ∨ j = 9 by omega) with rfl | rfl | rfl | rfl | rfl | rfl | rfl | rfl | rfl | rfl <;> rfl) (Nat.le_of_ble_eq_true rfl) (Nat.le_of_ble_eq_true rfl) dX1_init_32 (fun q32 H hP hD hS => ?_)
  have hF := hF q32
  have hP : va_P D vwCl ([(o, .inr (1, [.null, .ref q5, .ref q16, .int 0, .int 0, .int 0, .int (0 : Int32)]))] ++ gw3 Y q5 a9 M9 ++ gw6 Y q16 a20 M20 ++ [(q32, .inr (4, [.int 0, .int 0, .null, .null, .null, .int 0, .int 0, .int 0, .int 0, .int 0]))]) H := hP
  have hD : va_D A ([(o, .inr (1, [.null, .ref q5, .ref q16, .int 0, .int 0, .int 0, .int (0 : Int32)]))] ++ gw3 Y q5 a9 M9 ++ gw6 Y q16 a20 M20 ++ [(q32, .inr (4, [.int 0, .int 0, .null, .null, .null, .int 0, .int 0, .int 0, .int 0, .int 0]))]) := hD
  refine lv_dup hx hb dX1_init_35 rfl ?_
  refine lv_iload_n hx hb dX1_init_36 rfl (lv_at hl 1 rfl) ?_
  refine lv_iload_n hx hb dX1_init_37 rfl (lv_at hl 3 rfl) ?_
  have hPc := hP.sub (ws' := [(q32, .inr (4, [.int 0, .int 0, .null, .null, .null, .int 0, .int 0, .int 0, .int 0, .int 0]))]) [7] rfl
  have hDc := hD.sub (ws' := [(q32, .inr (4, [.int 0, .int 0, .null, .null, .null, .int 0, .int 0, .int 0, .int 0, .int 0]))]) [7] (by decide) rfl
  refine mb_cPv (wc := [(q32, .inr (4, [.int 0, .int 0, .null, .null, .null, .int 0, .int 0, .int 0, .int 0, .int 0]))]) (wr := [(o, .inr (1, [.null, .ref q5, .ref q16, .int 0, .int 0, .int 0, .int (0 : Int32)]))] ++ gw3 Y q5 a9 M9 ++ gw6 Y q16 a20 M20) hP hD hS hA [7] [0, 1, 2, 3, 4, 5, 6] rfl rfl (by decide) (by decide) (va_runI (As := [.int x1, .int x3]) (rest := [.ref q32, .ref o]) ⟨hx, hb, hml, hown, hts⟩ (cnX4_init l D Y N q32 _ x1 x3 _ hF) (cwI 2 hts gX1_init_X4_init rfl rfl rfl (hts (.initialized RX4) (List.mem_of_getElem? (i := 15) rfl)) (hts (.methodLink RX1 31 yX4_init) (List.mem_of_getElem? (i := 31) rfl)) (hts (.instanceMethod yX4_init) (List.mem_of_getElem? (i := 32) rfl)) rfl (by decide +kernel) ⟨Nat.le_of_ble_eq_true rfl, Nat.le_of_ble_eq_true rfl⟩) (mb_preS (A := A) hG hPc hDc) rfl rfl hl.1 rfl (lv_room (Nat.le_of_ble_eq_true rfl)) dX1_init_38 ⟨Nat.le_of_ble_eq_true rfl, Nat.le_of_ble_eq_true rfl⟩) (fun u38 H locs hF hP hD hS => ?_)
  obtain ⟨a38, M38⟩ := u38
  have hF := hF a38
  have hP : va_P D vwCl ([(o, .inr (1, [.null, .ref q5, .ref q16, .int 0, .int 0, .int 0, .int (0 : Int32)]))] ++ gw3 Y q5 a9 M9 ++ gw6 Y q16 a20 M20 ++ gw4 Y q32 a38 M38) H := hP
  have hD : va_D A ([(o, .inr (1, [.null, .ref q5, .ref q16, .int 0, .int 0, .int 0, .int (0 : Int32)]))] ++ gw3 Y q5 a9 M9 ++ gw6 Y q16 a20 M20 ++ gw4 Y q32 a38 M38) := hD
  refine va_putF (D := D) (ci := 1) (v := .ref q32) (ty := (.object "MarbleBench$Sewing")) (C := RX1) (T := TX1) (N := 7) hx hb hts (fun _ h9 => List.mem_cons_of_mem _ (List.mem_append_left _ (List.mem_append_left _ (List.mem_append_right _ (h9))))) tyX1 tyX1_ok nmX1 hown hK hP hD hS 0 rfl rfl 0 (by decide) (hts (.fieldLink RX1 34 "MarbleBench$Book" "sewing" "LMarbleBench$Sewing;") (List.mem_of_getElem? (i := 16) rfl)) (fun _ h9 => h9) rfl (hnm.trans rfl) rfl (by decide +kernel) rfl rfl (Nat.le_of_ble_eq_true rfl) dX1_init_41 (fun H locs hP hD hS => ?_)
  have hP : va_P D vwCl ([(o, .inr (1, [.ref q32, .ref q5, .ref q16, .int 0, .int 0, .int 0, .int (0 : Int32)]))] ++ gw3 Y q5 a9 M9 ++ gw6 Y q16 a20 M20 ++ gw4 Y q32 a38 M38) H := hP
  have hD : va_D A ([(o, .inr (1, [.ref q32, .ref q5, .ref q16, .int 0, .int 0, .int 0, .int (0 : Int32)]))] ++ gw3 Y q5 a9 M9 ++ gw6 Y q16 a20 M20 ++ gw4 Y q32 a38 M38) := hD
  refine lv_aload_n hx hb dX1_init_44 rfl (lv_at hl 0 rfl) ?_
  refine lv_iload_n hx hb dX1_init_45 rfl (lv_at hl 1 rfl) ?_
  refine lv_iload_n hx hb dX1_init_46 rfl (lv_at hl 2 rfl) ?_
  refine lv_imul hx hb dX1_init_47 ?_
  refine lv_topi (fun v48 ev48 => ?_)
  have hF := hF v48 ev48
  refine va_putF (D := D) (ci := 1) (v := .int v48) (ty := .int) (C := RX1) (T := TX1) (N := 7) hx hb hts (fun _ h9 => List.mem_cons_of_mem _ (List.mem_append_left _ (List.mem_append_left _ (List.mem_append_right _ (h9))))) tyX1 tyX1_ok nmX1 hown hK hP hD hS 0 rfl rfl 3 (by decide) (hts (.fieldLink RX1 38 "MarbleBench$Book" "leavesInAll" "I") (List.mem_of_getElem? (i := 17) rfl)) (fun _ h9 => h9) rfl (hnm.trans rfl) rfl (by decide +kernel) rfl rfl (Nat.le_of_ble_eq_true rfl) dX1_init_48 (fun H locs hP hD hS => ?_)
  have hP : va_P D vwCl ([(o, .inr (1, [.ref q32, .ref q5, .ref q16, .int v48, .int 0, .int 0, .int (0 : Int32)]))] ++ gw3 Y q5 a9 M9 ++ gw6 Y q16 a20 M20 ++ gw4 Y q32 a38 M38) H := hP
  have hD : va_D A ([(o, .inr (1, [.ref q32, .ref q5, .ref q16, .int v48, .int 0, .int 0, .int (0 : Int32)]))] ++ gw3 Y q5 a9 M9 ++ gw6 Y q16 a20 M20 ++ gw4 Y q32 a38 M38) := hD
  refine lv_aload_n hx hb dX1_init_51 rfl (lv_at hl 0 rfl) ?_
  refine lv_iload hx hb dX1_init_52 (lv_at hl 4 rfl) ?_
  refine va_putF (D := D) (ci := 1) (v := .int x4) (ty := .int) (C := RX1) (T := TX1) (N := 7) hx hb hts (fun _ h9 => List.mem_cons_of_mem _ (List.mem_append_left _ (List.mem_append_left _ (List.mem_append_right _ (h9))))) tyX1 tyX1_ok nmX1 hown hK hP hD hS 0 rfl rfl 4 (by decide) (hts (.fieldLink RX1 41 "MarbleBench$Book" "thickness" "I") (List.mem_of_getElem? (i := 18) rfl)) (fun _ h9 => h9) rfl (hnm.trans rfl) rfl (by decide +kernel) rfl rfl (Nat.le_of_ble_eq_true rfl) dX1_init_54 (fun H locs hP hD hS => ?_)
  have hP : va_P D vwCl ([(o, .inr (1, [.ref q32, .ref q5, .ref q16, .int v48, .int x4, .int 0, .int (0 : Int32)]))] ++ gw3 Y q5 a9 M9 ++ gw6 Y q16 a20 M20 ++ gw4 Y q32 a38 M38) H := hP
  have hD : va_D A ([(o, .inr (1, [.ref q32, .ref q5, .ref q16, .int v48, .int x4, .int 0, .int (0 : Int32)]))] ++ gw3 Y q5 a9 M9 ++ gw6 Y q16 a20 M20 ++ gw4 Y q32 a38 M38) := hD
  refine lv_aload_n hx hb dX1_init_57 rfl (lv_at hl 0 rfl) ?_
  refine lv_iload hx hb dX1_init_58 (lv_at hl 5 rfl) ?_
  obtain ⟨hz60, hF⟩ := hF
  refine va_putF (D := D) (ci := 1) (v := .int x5) (ty := .boolean) (C := RX1) (T := TX1) (N := 7) hx hb hts (fun _ h9 => List.mem_cons_of_mem _ (List.mem_append_left _ (List.mem_append_left _ (List.mem_append_right _ (h9))))) tyX1 tyX1_ok nmX1 hown hK hP hD hS 0 rfl rfl 5 (by decide) (hts (.fieldLink RX1 44 "MarbleBench$Book" "isOld" "Z") (List.mem_of_getElem? (i := 19) rfl)) (fun _ h9 => h9) rfl (hnm.trans rfl) rfl (by decide +kernel) (mb_isB_n hz60) (mb_isB_f hz60) (Nat.le_of_ble_eq_true rfl) dX1_init_60 (fun H locs hP hD hS => ?_)
  have hP : va_P D vwCl ([(o, .inr (1, [.ref q32, .ref q5, .ref q16, .int v48, .int x4, .int x5, .int (0 : Int32)]))] ++ gw3 Y q5 a9 M9 ++ gw6 Y q16 a20 M20 ++ gw4 Y q32 a38 M38) H := hP
  have hD : va_D A ([(o, .inr (1, [.ref q32, .ref q5, .ref q16, .int v48, .int x4, .int x5, .int (0 : Int32)]))] ++ gw3 Y q5 a9 M9 ++ gw6 Y q16 a20 M20 ++ gw4 Y q32 a38 M38) := hD
  obtain ⟨a, ha0, ha1, ha2⟩ : ∃ a : Nat → Nat, a 0 = q32 ∧ a 1 = q5 ∧ a 2 = q16 := ⟨fun k => if k = 0 then q32 else if k = 1 then q5 else q16, rfl, rfl, rfl⟩
  subst ha0
  subst ha1
  subst ha2
  have hP : va_P D vwCl (gw1 Y o a (mb_u (mb_u (mb_u mb_z 3 (mb_c v48)) 4 (mb_c x4)) 5 (mb_c x5)) ++ gw3 Y (a 1) a9 M9 ++ gw6 Y (a 2) a20 M20 ++ gw4 Y (a 0) a38 M38) H := hP
  have hD : va_D A (gw1 Y o a (mb_u (mb_u (mb_u mb_z 3 (mb_c v48)) 4 (mb_c x4)) 5 (mb_c x5)) ++ gw3 Y (a 1) a9 M9 ++ gw6 Y (a 2) a20 M20 ++ gw4 Y (a 0) a38 M38) := hD
  generalize eM1 : (mb_u (mb_u (mb_u mb_z 3 (mb_c v48)) 4 (mb_c x4)) 5 (mb_c x5)) = M1 at hP hD
  have hF := hF M1 eM1.symm
  have hP := hP.sub (ws' := gw1 Y o a M1 ++ gw4 Y (a 0) a38 M38 ++ gw3 Y (a 1) a9 M9 ++ gw6 Y (a 2) a20 M20) [0, 7, 8, 9, 10, 1, 2, 3, 4, 5, 6] rfl
  have hD := hD.sub (ws' := gw1 Y o a M1 ++ gw4 Y (a 0) a38 M38 ++ gw3 Y (a 1) a9 M9 ++ gw6 Y (a 2) a20 M20) [0, 7, 8, 9, 10, 1, 2, 3, 4, 5, 6] (by decide) rfl
  exact mb_rv (S := (Nat → Nat) × (Nat → Nat) × (Nat → Nat) × (Nat → Nat) × mb_m × mb_m × mb_m × mb_m) (K := (fun u : (Nat → Nat) × (Nat → Nat) × (Nat → Nat) × (Nat → Nat) × mb_m × mb_m × mb_m × mb_m => K u.2.2.2.2.1 u.2.2.2.2.2.1 u.2.2.2.2.2.2.1 u.2.2.2.2.2.2.2)) (mc := 10) (ms := 344) (wf := fun u => gw1 Y o u.1 u.2.2.2.2.1 ++ gw4 Y (u.1 0) u.2.1 u.2.2.2.2.2.1 ++ gw3 Y (u.1 1) u.2.2.1 u.2.2.2.2.2.2.1 ++ gw6 Y (u.1 2) u.2.2.2.1 u.2.2.2.2.2.2.2) C (u := (a, a38, a9, a20, M1, M38, M9, M20)) hF hP hD hS dX1_init_63 (Nat.le_of_ble_eq_true rfl) (Nat.le_of_ble_eq_true rfl)
noncomputable def PX7_init (N : Nat) (K : mb_m → Prop) : Prop := ∀ q5 : Nat, (PX0_init N  (fun M9 => ∀ a9 : Nat → Nat, (K M9)))
set_option maxHeartbeats 4000000 in
set_option maxRecDepth 100000 in
theorem cnX7_init (l : Launch) (D : va_G) (Y : Nat → ClassId) (N : Nat) (o : Nat) (sz : Nat) (K : mb_m → Prop) (hF : PX7_init N  K) : Met l yX7_init wsX7_init ({ frames := 2, cells := 9, slots := 265, locals := 46 } : Room) (va_Pc [.ref o] (mb_B D Y ([(o, .inr (7, [.null, .null, .null, .null, .int 0, .int 0, .int 0]))]) sz)) (va_Qv (fun u : (Nat → Nat) × (Nat → Nat) × mb_m => K u.2.2) (fun u t => mb_T D (va_A ([(o, .inr (7, [.null, .null, .null, .null, .int 0, .int 0, .int 0]))]) sz) (gw7 Y o u.1 mb_z ++ gw0 Y (u.1 0) u.2.1 u.2.2 ++ grP Y (u.1 1) (fun _ => none) ++ grB Y (u.1 2) (fun _ => none) ++ grS Y (u.1 3) (fun _ => none)) t) (va_A ([(o, .inr (7, [.null, .null, .null, .null, .int 0, .int 0, .int 0]))]) sz)) 9 265 (va_A ([(o, .inr (7, [.null, .null, .null, .null, .int 0, .int 0, .int 0]))]) sz) := by
  refine mb_begin (cc := cX7_init) (maxL := 1) (ret := none) (by decide +kernel) rfl (Nat.le_of_ble_eq_true rfl) ?_
  intro p e s m below meth c ls C hsz hnm hP hD hl
  generalize hAe : va_A ([(o, .inr (7, [.null, .null, .null, .null, .int 0, .int 0, .int 0]))]) sz = A at C hD ⊢
  have C : mb_Cx p s m meth c ([.ref o] : List Value).toArray cX7_init 1 none wsX7_init RX7 D Y A := C
  obtain ⟨hx, hb, hr, hml, hts, hown, hlocks, hA, hG⟩ := id C
  have hK := hG.1
  have hS : va_S A s.heap s.heap [] := va_S.rf
  have hl : lv_has ls 1 [(0, .ref o)] := hl
  obtain ⟨H, hH0⟩ : ∃ H, H = s.heap := ⟨_, rfl⟩
  rw [← hH0] at hP
  have hS : va_S A s.heap H [] := by rw [hH0]; exact hS
  rw [← hH0]
  have hP : va_P D vwCl ([(o, .inr (7, [.null, .null, .null, .null, .int 0, .int 0, .int 0]))]) H := hP
  have hD : va_D A ([(o, .inr (7, [.null, .null, .null, .null, .int 0, .int 0, .int 0]))]) := hD
  refine lv_aload_n hx hb dX7_init_0 rfl (lv_at hl 0 rfl) ?_
  refine W.objInit hx hb hown (hts (.methodLink RX7 3 objectInit) (List.mem_of_getElem? (i := 1) rfl)) (hts (.instanceMethod objectInit) (List.mem_of_getElem? (i := 2) rfl)) (hts (.code objectInit ⟨#[0xb1]⟩ 1 none) (List.mem_of_getElem? (i := 3) rfl)) rfl (by rw [hml]; exact hl.1) rfl dX7_init_1 (Nat.le_of_ble_eq_true rfl) (Nat.le_of_ble_eq_true rfl) ?_
  refine W.eq (g2 := F0 m 4 ls []) rfl ?_
  refine lv_aload_n hx hb dX7_init_4 rfl (lv_at hl 0 rfl) ?_
  refine va_new (ci := 0) (fs := [.null, .null, .null, .null, .null]) (C := RX0) (T := TX0) (N := 5) hx hb hts (fun _ h9 => List.mem_cons_of_mem _ (List.mem_append_left _ (List.mem_append_right _ (h9)))) tyX0 tyX0_ok hown (hts (.classLink RX7 9 RX0) (List.mem_of_getElem? (i := 4) rfl)) (hts (.instantiable RX0 5) (List.mem_of_getElem? (i := 5) rfl)) (hts (.initialized RX0) (List.mem_of_getElem? (i := 6) rfl)) hK hP hD hS hA rfl (fun j hj => by rcases (show j = 0 ∨ j = 1 ∨ j = 2 ∨ j = 3 ∨ j = 4 by omega) with rfl | rfl | rfl | rfl | rfl <;> rfl) (Nat.le_of_ble_eq_true rfl) (Nat.le_of_ble_eq_true rfl) dX7_init_5 (fun q5 H hP hD hS => ?_)
  have hF := hF q5
  have hP : va_P D vwCl ([(o, .inr (7, [.null, .null, .null, .null, .int 0, .int 0, .int 0])), (q5, .inr (0, [.null, .null, .null, .null, .null]))]) H := hP
  have hD : va_D A ([(o, .inr (7, [.null, .null, .null, .null, .int 0, .int 0, .int 0])), (q5, .inr (0, [.null, .null, .null, .null, .null]))]) := hD
  refine lv_dup hx hb dX7_init_8 rfl ?_
  have hPc := hP.sub (ws' := [(q5, .inr (0, [.null, .null, .null, .null, .null]))]) [1] rfl
  have hDc := hD.sub (ws' := [(q5, .inr (0, [.null, .null, .null, .null, .null]))]) [1] (by decide) rfl
  refine mb_cPv (wc := [(q5, .inr (0, [.null, .null, .null, .null, .null]))]) (wr := [(o, .inr (7, [.null, .null, .null, .null, .int 0, .int 0, .int 0]))]) hP hD hS hA [1] [0] rfl rfl (by decide) (by decide) (va_runI (As := []) (rest := [.ref q5, .ref o]) ⟨hx, hb, hml, hown, hts⟩ (cnX0_init l D Y N q5 _  _ hF) (cwI 0 hts gX7_init_X0_init rfl rfl rfl (hts (.initialized RX0) (List.mem_of_getElem? (i := 6) rfl)) (hts (.methodLink RX7 11 yX0_init) (List.mem_of_getElem? (i := 14) rfl)) (hts (.instanceMethod yX0_init) (List.mem_of_getElem? (i := 15) rfl)) rfl (by decide +kernel) ⟨Nat.le_of_ble_eq_true rfl, Nat.le_of_ble_eq_true rfl⟩) (mb_preS (A := A) hG hPc hDc) rfl rfl hl.1 rfl (lv_room (Nat.le_of_ble_eq_true rfl)) dX7_init_9 ⟨Nat.le_of_ble_eq_true rfl, Nat.le_of_ble_eq_true rfl⟩) (fun u9 H locs hF hP hD hS => ?_)
  obtain ⟨a9, M9⟩ := u9
  have hF := hF a9
  have hP : va_P D vwCl ([(o, .inr (7, [.null, .null, .null, .null, .int 0, .int 0, .int 0]))] ++ gw0 Y q5 a9 M9) H := hP
  have hD : va_D A ([(o, .inr (7, [.null, .null, .null, .null, .int 0, .int 0, .int 0]))] ++ gw0 Y q5 a9 M9) := hD
  refine va_putF (D := D) (ci := 7) (v := .ref q5) (ty := (.object "MarbleBench$Bath")) (C := RX7) (T := TX7) (N := 7) hx hb hts (fun _ h9 => List.mem_cons_of_mem _ (List.mem_append_right _ (h9))) tyX7 tyX7_ok nmX7 hown hK hP hD hS 0 rfl rfl 0 (by decide) (hts (.fieldLink RX7 12 "MarbleBench" "bath" "LMarbleBench$Bath;") (List.mem_of_getElem? (i := 7) rfl)) (fun _ h9 => h9) rfl (hnm.trans rfl) rfl (by decide +kernel) rfl rfl (Nat.le_of_ble_eq_true rfl) dX7_init_12 (fun H locs hP hD hS => ?_)
  have hP : va_P D vwCl ([(o, .inr (7, [.ref q5, .null, .null, .null, .int 0, .int 0, .int 0]))] ++ gw0 Y q5 a9 M9) H := hP
  have hD : va_D A ([(o, .inr (7, [.ref q5, .null, .null, .null, .int 0, .int 0, .int 0]))] ++ gw0 Y q5 a9 M9) := hD
  refine lv_aload_n hx hb dX7_init_15 rfl (lv_at hl 0 rfl) ?_
  refine lv_bipush (v := 10) hx hb dX7_init_16 (by decide) ?_
  refine mb_newq (C := "MarbleBench$Print") (t0 := 3) (k0 := 3) (N' := 10) hx hb hown (hts (.classLink RX7 16 RX2) (List.mem_of_getElem? (i := 8) rfl)) (hG.2.2.2 _ (List.mem_of_getElem? (i := 0) rfl)) hK rfl hP hD hS hA (by decide) (by decide) (Nat.le_of_ble_eq_true rfl) (Nat.le_of_ble_eq_true rfl) (Nat.le_of_ble_eq_true rfl) dX7_init_18 (fun q18 H hP hD hS => ?_)
  have hP : va_P D vwCl ([(o, .inr (7, [.ref q5, .null, .null, .null, .int 0, .int 0, .int 0]))] ++ gw0 Y q5 a9 M9 ++ grP Y q18 (fun _ => none)) H := hP
  have hD : va_D A ([(o, .inr (7, [.ref q5, .null, .null, .null, .int 0, .int 0, .int 0]))] ++ gw0 Y q5 a9 M9 ++ grP Y q18 (fun _ => none)) := hD
  refine va_putF (D := D) (ci := 7) (v := .ref q18) (ty := (.array (.object "MarbleBench$Print"))) (C := RX7) (T := TX7) (N := 7) hx hb hts (fun _ h9 => List.mem_cons_of_mem _ (List.mem_append_right _ (h9))) tyX7 tyX7_ok nmX7 hown hK hP hD hS 0 rfl rfl 1 (by decide) (hts (.fieldLink RX7 18 "MarbleBench" "prints" "[LMarbleBench$Print;") (List.mem_of_getElem? (i := 9) rfl)) (fun _ h9 => h9) rfl (hnm.trans rfl) rfl (by decide +kernel) rfl rfl (Nat.le_of_ble_eq_true rfl) dX7_init_21 (fun H locs hP hD hS => ?_)
  have hP : va_P D vwCl ([(o, .inr (7, [.ref q5, .ref q18, .null, .null, .int 0, .int 0, .int 0]))] ++ gw0 Y q5 a9 M9 ++ grP Y q18 (fun _ => none)) H := hP
  have hD : va_D A ([(o, .inr (7, [.ref q5, .ref q18, .null, .null, .int 0, .int 0, .int 0]))] ++ gw0 Y q5 a9 M9 ++ grP Y q18 (fun _ => none)) := hD
  refine lv_aload_n hx hb dX7_init_24 rfl (lv_at hl 0 rfl) ?_
  refine lv_iconst (v := 4) hx hb dX7_init_25 (by decide) ?_
  refine mb_newq (C := "MarbleBench$Book") (t0 := 4) (k0 := 4) (N' := 4) hx hb hown (hts (.classLink RX7 22 RX1) (List.mem_of_getElem? (i := 10) rfl)) (hG.2.2.2 _ (List.mem_of_getElem? (i := 1) rfl)) hK rfl hP hD hS hA (by decide) (by decide) (Nat.le_of_ble_eq_true rfl) (Nat.le_of_ble_eq_true rfl) (Nat.le_of_ble_eq_true rfl) dX7_init_26 (fun q26 H hP hD hS => ?_)
  have hP : va_P D vwCl ([(o, .inr (7, [.ref q5, .ref q18, .null, .null, .int 0, .int 0, .int 0]))] ++ gw0 Y q5 a9 M9 ++ grP Y q18 (fun _ => none) ++ grB Y q26 (fun _ => none)) H := hP
  have hD : va_D A ([(o, .inr (7, [.ref q5, .ref q18, .null, .null, .int 0, .int 0, .int 0]))] ++ gw0 Y q5 a9 M9 ++ grP Y q18 (fun _ => none) ++ grB Y q26 (fun _ => none)) := hD
  refine va_putF (D := D) (ci := 7) (v := .ref q26) (ty := (.array (.object "MarbleBench$Book"))) (C := RX7) (T := TX7) (N := 7) hx hb hts (fun _ h9 => List.mem_cons_of_mem _ (List.mem_append_right _ (h9))) tyX7 tyX7_ok nmX7 hown hK hP hD hS 0 rfl rfl 2 (by decide) (hts (.fieldLink RX7 24 "MarbleBench" "books" "[LMarbleBench$Book;") (List.mem_of_getElem? (i := 11) rfl)) (fun _ h9 => h9) rfl (hnm.trans rfl) rfl (by decide +kernel) rfl rfl (Nat.le_of_ble_eq_true rfl) dX7_init_29 (fun H locs hP hD hS => ?_)
  have hP : va_P D vwCl ([(o, .inr (7, [.ref q5, .ref q18, .ref q26, .null, .int 0, .int 0, .int 0]))] ++ gw0 Y q5 a9 M9 ++ grP Y q18 (fun _ => none) ++ grB Y q26 (fun _ => none)) H := hP
  have hD : va_D A ([(o, .inr (7, [.ref q5, .ref q18, .ref q26, .null, .int 0, .int 0, .int 0]))] ++ gw0 Y q5 a9 M9 ++ grP Y q18 (fun _ => none) ++ grB Y q26 (fun _ => none)) := hD
  refine lv_aload_n hx hb dX7_init_32 rfl (lv_at hl 0 rfl) ?_
  refine lv_iconst (v := 3) hx hb dX7_init_33 (by decide) ?_
  refine mb_newq (C := "MarbleBench$Skin") (t0 := 5) (k0 := 5) (N' := 3) hx hb hown (hts (.classLink RX7 28 RX5) (List.mem_of_getElem? (i := 12) rfl)) (hG.2.2.2 _ (List.mem_of_getElem? (i := 2) rfl)) hK rfl hP hD hS hA (by decide) (by decide) (Nat.le_of_ble_eq_true rfl) (Nat.le_of_ble_eq_true rfl) (Nat.le_of_ble_eq_true rfl) dX7_init_34 (fun q34 H hP hD hS => ?_)
  have hP : va_P D vwCl ([(o, .inr (7, [.ref q5, .ref q18, .ref q26, .null, .int 0, .int 0, .int 0]))] ++ gw0 Y q5 a9 M9 ++ grP Y q18 (fun _ => none) ++ grB Y q26 (fun _ => none) ++ grS Y q34 (fun _ => none)) H := hP
  have hD : va_D A ([(o, .inr (7, [.ref q5, .ref q18, .ref q26, .null, .int 0, .int 0, .int 0]))] ++ gw0 Y q5 a9 M9 ++ grP Y q18 (fun _ => none) ++ grB Y q26 (fun _ => none) ++ grS Y q34 (fun _ => none)) := hD
  refine va_putF (D := D) (ci := 7) (v := .ref q34) (ty := (.array (.object "MarbleBench$Skin"))) (C := RX7) (T := TX7) (N := 7) hx hb hts (fun _ h9 => List.mem_cons_of_mem _ (List.mem_append_right _ (h9))) tyX7 tyX7_ok nmX7 hown hK hP hD hS 0 rfl rfl 3 (by decide) (hts (.fieldLink RX7 30 "MarbleBench" "skins" "[LMarbleBench$Skin;") (List.mem_of_getElem? (i := 13) rfl)) (fun _ h9 => h9) rfl (hnm.trans rfl) rfl (by decide +kernel) rfl rfl (Nat.le_of_ble_eq_true rfl) dX7_init_37 (fun H locs hP hD hS => ?_)
  have hP : va_P D vwCl ([(o, .inr (7, [.ref q5, .ref q18, .ref q26, .ref q34, .int 0, .int 0, .int 0]))] ++ gw0 Y q5 a9 M9 ++ grP Y q18 (fun _ => none) ++ grB Y q26 (fun _ => none) ++ grS Y q34 (fun _ => none)) H := hP
  have hD : va_D A ([(o, .inr (7, [.ref q5, .ref q18, .ref q26, .ref q34, .int 0, .int 0, .int 0]))] ++ gw0 Y q5 a9 M9 ++ grP Y q18 (fun _ => none) ++ grB Y q26 (fun _ => none) ++ grS Y q34 (fun _ => none)) := hD
  obtain ⟨a, ha0, ha1, ha2, ha3⟩ : ∃ a : Nat → Nat, a 0 = q5 ∧ a 1 = q18 ∧ a 2 = q26 ∧ a 3 = q34 := ⟨fun k => if k = 0 then q5 else if k = 1 then q18 else if k = 2 then q26 else q34, rfl, rfl, rfl, rfl⟩
  subst ha0
  subst ha1
  subst ha2
  subst ha3
  have hP : va_P D vwCl (gw7 Y o a mb_z ++ gw0 Y (a 0) a9 M9 ++ grP Y (a 1) (fun _ => none) ++ grB Y (a 2) (fun _ => none) ++ grS Y (a 3) (fun _ => none)) H := hP
  have hD : va_D A (gw7 Y o a mb_z ++ gw0 Y (a 0) a9 M9 ++ grP Y (a 1) (fun _ => none) ++ grB Y (a 2) (fun _ => none) ++ grS Y (a 3) (fun _ => none)) := hD
  have hP := hP.sub (ws' := gw7 Y o a mb_z ++ gw0 Y (a 0) a9 M9 ++ grP Y (a 1) (fun _ => none) ++ grB Y (a 2) (fun _ => none) ++ grS Y (a 3) (fun _ => none)) [0, 1, 2, 3, 4, 5, 6, 7, 8, 9] rfl
  have hD := hD.sub (ws' := gw7 Y o a mb_z ++ gw0 Y (a 0) a9 M9 ++ grP Y (a 1) (fun _ => none) ++ grB Y (a 2) (fun _ => none) ++ grS Y (a 3) (fun _ => none)) [0, 1, 2, 3, 4, 5, 6, 7, 8, 9] (by decide) rfl
  exact mb_rv (S := (Nat → Nat) × (Nat → Nat) × mb_m) (K := (fun u : (Nat → Nat) × (Nat → Nat) × mb_m => K u.2.2)) (mc := 9) (ms := 265) (wf := fun u => gw7 Y o u.1 mb_z ++ gw0 Y (u.1 0) u.2.1 u.2.2 ++ grP Y (u.1 1) (fun _ => none) ++ grB Y (u.1 2) (fun _ => none) ++ grS Y (u.1 3) (fun _ => none)) C (u := (a, a9, M9)) hF hP hD hS dX7_init_40 (Nat.le_of_ble_eq_true rfl) (Nat.le_of_ble_eq_true rfl)
section
noncomputable def PX0_press_10_b (N : Nat) (K : Nat → (mb_m × Nat × (Nat → Nat) × mb_m) → Prop) (o1 : Nat) (a1 : Nat → Nat) (b10 : mb_m → mb_m → Int32 → Prop) (M M_1 : mb_m) (x2 : Int32) : Prop := ((64 : Int32) ≤ x2 → K o1 (M, o1, a1, M_1)) ∧ (¬ (64 : Int32) ≤ x2 → vp_in x2 64 ∧ (∀ v27 : Int32, v27 = (M 0 x2.toNatClampNeg) → (vp_in x2 64 ∧ (∀ M27 : mb_m, M27 = mb_u M_1 0 (upd (M_1 0) x2.toNatClampNeg v27) → (∀ v28 : Int32, v28 = x2 + (1 : Int32) → (b10 M M27 v28))))))
noncomputable def PX0_press_10 (N : Nat) (K : Nat → (mb_m × Nat × (Nat → Nat) × mb_m) → Prop) (o1 : Nat) (a1 : Nat → Nat) (n : Nat) : mb_m → mb_m → Int32 → Prop := Nat.rec (motive := fun _ => mb_m → mb_m → Int32 → Prop) (fun _ _ _ => False) (fun _ b10 => PX0_press_10_b N K o1 a1 b10) n
set_option maxHeartbeats 4000000 in
set_option maxRecDepth 100000 in
theorem wX0_press_10 {p : Program} {l : Launch} {e : Env} {s : State} {m : MethodId} {below : List Frame} {meth : Method} {c : Code} {args : Array Value} {D : va_G} {Y : Nat → ClassId} {A : Nat → Prop} {o : Nat} {a : Nat → Nat} {o1 : Nat} {a1 : Nat → Nat} {N : Nat} {K : Nat → (mb_m × Nat × (Nat → Nat) × mb_m) → Prop} (C : mb_Cx p s m meth c args cX0_press 3 (some (.object "MarbleBench$Print")) wsX0_press RX0 D Y A) : ∀ (n : Nat), (∀ (M M_1 : mb_m) (x2 : Int32) (H : Heap) (locs : List Loc) (ls : Array Slot), PX0_press_10 N K o1 a1 n M M_1 x2 → va_P D vwCl (gw0 Y o a M ++ gw2 Y o1 a1 M_1) H → va_D A (gw0 Y o a M ++ gw2 Y o1 a1 M_1) → va_S A s.heap H locs → lv_has ls 3 [(0, .ref o), (1, .ref o1), (2, .int x2)] → W p l e ({ frames := 2, cells := 2, slots := 65, locals := 45 } : Room) s m args below meth c H locs 2 65 (MQ below (va_Qr (fun _ : mb_m × Nat × (Nat → Nat) × mb_m => True) (fun u r t => K r u ∧ mb_T D A (gw0 Y o a u.1 ++ gw2 Y u.2.1 u.2.2.1 u.2.2.2) t) A) args s 2 65 A) (F0 m 10 ls [])) := by
  obtain ⟨hx, hb, hr, hml, hts, hown, hlocks, hA, hG⟩ := id C
  have hK := hG.1
  intro n
  induction n with
  | zero => intro M M_1 x2 H locs ls hF; exact (show False from hF).elim
  | succ n ih =>
    intro M M_1 x2 H locs ls hF hP hD hS hl
    have hF : PX0_press_10_b N K o1 a1 (PX0_press_10 N K o1 a1 n) M M_1 x2 := hF
    refine lv_iload_n hx hb dX0_press_10 rfl (lv_at hl 2 rfl) ?_
    refine lv_bipush (v := 64) hx hb dX0_press_11 (by decide) ?_
    refine lv_icmp_ge (tgt := 34) hx hb dX0_press_13 (by decide) (fun c_13 => ?_) (fun c_13 => ?_)
    · have hF := hF.1 c_13
      refine lv_aload_n hx hb dX0_press_34 rfl (lv_at hl 1 rfl) ?_
      exact mb_ra (S := mb_m × Nat × (Nat → Nat) × mb_m) (mc := 2) (ms := 65) (wf := fun u => gw0 Y o a u.1 ++ gw2 Y u.2.1 u.2.2.1 u.2.2.2) C (Or.inl ⟨_, rfl⟩) (u := (M, o1, a1, M_1)) hF hP hD hS dX0_press_35 (Nat.le_of_ble_eq_true rfl) (Nat.le_of_ble_eq_true rfl)
    · have hF := hF.2 c_13
      refine lv_aload_n hx hb dX0_press_16 rfl (lv_at hl 1 rfl) ?_
      refine va_getN (D := D) (ci := 2) (v := .ref (a1 0)) (C := RX2) (T := TX2) (N := 1) hx hb hts (fun _ h9 => List.mem_cons_of_mem _ (List.mem_append_left _ (List.mem_append_right _ (h9)))) hown hK hP 6 rfl rfl 0 (by decide) (va_Nw.use rfl (hG.2.1 _ (List.mem_of_getElem? (i := 19) rfl))) (fun _ h9 => h9) rfl dX0_press_17 ?_
      refine lv_iload_n hx hb dX0_press_20 rfl (lv_at hl 2 rfl) ?_
      refine lv_aload_n hx hb dX0_press_21 rfl (lv_at hl 0 rfl) ?_
      refine va_get (D := D) (ci := 0) (v := .ref (a 0)) (C := RX0) (T := TX0) (N := 5) hx hb hts (fun _ h9 => List.mem_cons_of_mem _ (List.mem_append_right _ (h9))) hown hK hP 0 rfl rfl 0 (by decide) (hts (.fieldLink RX0 9 "MarbleBench$Bath" "colours" "[I") (List.mem_of_getElem? (i := 4) rfl)) (fun _ h9 => h9) rfl dX0_press_22 ?_
      refine lv_iload_n hx hb dX0_press_25 rfl (lv_at hl 2 rfl) ?_
      obtain ⟨hi26, hF⟩ := hF
      refine va_iald hx hb hK hP 1 0 rfl rfl hi26 dX0_press_26 ?_
      refine lv_topi (fun v27 ev27 => ?_)
      have hF := hF v27 ev27
      obtain ⟨hi27, hF⟩ := hF
      refine va_iast hx hb hK hP hD hS 7 0 rfl rfl hi27 dX0_press_27 (fun H locs hP hD hS => ?_)
      obtain ⟨M27, eM27⟩ : ∃ y : mb_m, y = mb_u M_1 0 (upd (M_1 0) x2.toNatClampNeg v27) := ⟨_, rfl⟩
      have hF := hF M27 eM27
      have hP : va_P D vwCl (gw0 Y o a M ++ gw2 Y o1 a1 (mb_u M_1 0 (upd (M_1 0) x2.toNatClampNeg v27))) H := hP
      have hD : va_D A (gw0 Y o a M ++ gw2 Y o1 a1 (mb_u M_1 0 (upd (M_1 0) x2.toNatClampNeg v27))) := hD
      rw [← eM27] at hP hD
      obtain ⟨v28, ev28⟩ : ∃ y : Int32, y = x2 + (1 : Int32) := ⟨_, rfl⟩
      have hF := hF v28 ev28
      refine lv_iinc (v := v28) (lv' := [(2, .int v28), (0, .ref o), (1, .ref o1)]) hx hb dX0_press_28 hl (k := 2) rfl (by rw [ev28]; rfl) (by decide) rfl (fun ls hl => ?_)
      refine lv_goto (tgt := 10) hx hb dX0_press_31 (by decide) ?_
      exact ih M M27 v28 _ _ _ hF hP hD hS (lv_sub hl [1, 2, 0] rfl)
noncomputable def PX0_press (N : Nat) (M : mb_m) (K : Nat → (mb_m × Nat × (Nat → Nat) × mb_m) → Prop) : Prop := ∀ q0 : Nat, (PX2_init N  (fun M4 => ∀ a4 : Nat → Nat, (∀ (o1 : Nat) (a1 : Nat → Nat), (PX0_press_10 N K o1 a1 N M M4 (0 : Int32)))))
set_option maxHeartbeats 4000000 in
set_option maxRecDepth 100000 in
theorem cnX0_press (l : Launch) (D : va_G) (Y : Nat → ClassId) (N : Nat) (o : Nat) (a : Nat → Nat) (M : mb_m) (sz : Nat) (K : Nat → (mb_m × Nat × (Nat → Nat) × mb_m) → Prop) (hF : PX0_press N M K) : Met l yX0_press wsX0_press ({ frames := 2, cells := 2, slots := 65, locals := 45 } : Room) (va_Pc [.ref o] (mb_B D Y (gw0 Y o a M) sz)) (va_Qr (fun _ : mb_m × Nat × (Nat → Nat) × mb_m => True) (fun u r t => K r u ∧ mb_T D (va_A (gw0 Y o a M) sz) (gw0 Y o a u.1 ++ gw2 Y u.2.1 u.2.2.1 u.2.2.2) t) (va_A (gw0 Y o a M) sz)) 2 65 (va_A (gw0 Y o a M) sz) := by
  refine mb_begin (cc := cX0_press) (maxL := 3) (ret := (some (.object "MarbleBench$Print"))) (by decide +kernel) rfl (Nat.le_of_ble_eq_true rfl) ?_
  intro p e s m below meth c ls C hsz hnm hP hD hl
  generalize hAe : va_A (gw0 Y o a M) sz = A at C hD ⊢
  have C : mb_Cx p s m meth c ([.ref o] : List Value).toArray cX0_press 3 (some (.object "MarbleBench$Print")) wsX0_press RX0 D Y A := C
  obtain ⟨hx, hb, hr, hml, hts, hown, hlocks, hA, hG⟩ := id C
  have hK := hG.1
  have hS : va_S A s.heap s.heap [] := va_S.rf
  have hl : lv_has ls 3 [(0, .ref o)] := hl
  obtain ⟨H, hH0⟩ : ∃ H, H = s.heap := ⟨_, rfl⟩
  rw [← hH0] at hP
  have hS : va_S A s.heap H [] := by rw [hH0]; exact hS
  rw [← hH0]
  refine va_new (ci := 2) (fs := [.null]) (C := RX2) (T := TX2) (N := 1) hx hb hts (fun _ h9 => List.mem_cons_of_mem _ (List.mem_append_left _ (List.mem_append_right _ (h9)))) tyX2 tyX2_ok hown (hts (.classLink RX0 44 RX2) (List.mem_of_getElem? (i := 1) rfl)) (hts (.instantiable RX2 1) (List.mem_of_getElem? (i := 2) rfl)) (hts (.initialized RX2) (List.mem_of_getElem? (i := 3) rfl)) hK hP hD hS hA rfl (fun j hj => by rcases (show j = 0 by omega) with rfl <;> rfl) (Nat.le_of_ble_eq_true rfl) (Nat.le_of_ble_eq_true rfl) dX0_press_0 (fun q0 H hP hD hS => ?_)
  have hF := hF q0
  have hP : va_P D vwCl (gw0 Y o a M ++ [(q0, .inr (2, [.null]))]) H := hP
  have hD : va_D A (gw0 Y o a M ++ [(q0, .inr (2, [.null]))]) := hD
  refine lv_dup hx hb dX0_press_3 rfl ?_
  have hPc := hP.sub (ws' := [(q0, .inr (2, [.null]))]) [6] rfl
  have hDc := hD.sub (ws' := [(q0, .inr (2, [.null]))]) [6] (by decide) rfl
  refine mb_cPv (wc := [(q0, .inr (2, [.null]))]) (wr := gw0 Y o a M) hP hD hS hA [6] [0, 1, 2, 3, 4, 5] rfl rfl (by decide) (by decide) (va_runIN (As := []) (rest := [.ref q0]) ⟨hx, hb, hml, hown, hts⟩ (cnX2_init l D Y N q0 _  _ hF) ⟨va_cnB 0 hts gX0_press_X2_init_n46 rfl rfl rfl (hG.2.1 _ (List.mem_of_getElem? (i := 21) rfl)) (hts (.initialized RX2) (List.mem_of_getElem? (i := 3) rfl)) (by decide +kernel) ⟨Nat.le_of_ble_eq_true rfl, Nat.le_of_ble_eq_true rfl⟩, rfl, hts (.instanceMethod yX2_init) (List.mem_of_getElem? (i := 5) rfl)⟩ (mb_preS (A := A) hG hPc hDc) rfl rfl hl.1 rfl (lv_room (Nat.le_of_ble_eq_true rfl)) dX0_press_4 ⟨Nat.le_of_ble_eq_true rfl, Nat.le_of_ble_eq_true rfl⟩) (fun u4 H locs hF hP hD hS => ?_)
  obtain ⟨a4, M4⟩ := u4
  have hF := hF a4
  have hP : va_P D vwCl (gw0 Y o a M ++ gw2 Y q0 a4 M4) H := hP
  have hD : va_D A (gw0 Y o a M ++ gw2 Y q0 a4 M4) := hD
  have hF := hF q0 a4
  generalize q0 = o1 at hP hD hF ⊢
  generalize a4 = a1 at hP hD hF ⊢
  refine lv_astore_n (lv' := [(1, .ref o1), (0, .ref o)]) hx hb dX0_press_7 rfl hl (by decide) rfl (fun ls hl => ?_)
  refine lv_iconst (v := 0) hx hb dX0_press_8 (by decide) ?_
  refine lv_istore_n (lv' := [(2, .int (0 : Int32)), (1, .ref o1), (0, .ref o)]) hx hb dX0_press_9 rfl hl (by decide) rfl (fun ls hl => ?_)
  exact wX0_press_10 C N M M4 (0 : Int32) _ _ _ hF hP hD hS (lv_sub hl [2, 1, 0] rfl)
end
section
noncomputable def PX7_skin_24 (N : Nat) (K : Int32 → (mb_m × (Nat → Option Nat) × Nat × (Nat → Nat) × mb_m) → Prop) (KX : String → (mb_m × (Nat → Option Nat)) → Prop) (M : mb_m) (f1 : (Nat → Option Nat)) (x1 y0 : Int32) : Prop := PX7_demandState N y0 (fun _ => ∀ v31 : Int32, v31 = (M 6 0) → (∀ q37 : Nat, (PX5_init N x1 (fun M42 => ∀ a42 : Nat → Nat, (vp_in v31 3 ∧ (∀ f45 : Nat → Option Nat, f45 = va_up f1 v31.toNatClampNeg (some q37) → (∀ v53 : Int32, v53 = ((M 6 0) + (1 : Int32)) → (∀ M53 : mb_m, M53 = mb_u M 6 (mb_c v53) → (K v31 (M53, f45, q37, a42, M42)))))))))) (fun E _ => KX E (M, f1))
set_option maxHeartbeats 4000000 in
set_option maxRecDepth 100000 in
theorem wX7_skin_24 {p : Program} {l : Launch} {e : Env} {s : State} {m : MethodId} {below : List Frame} {meth : Method} {c : Code} {args : Array Value} {D : va_G} {Y : Nat → ClassId} {A : Nat → Prop} {o : Nat} {a : Nat → Nat} {N : Nat} {K : Int32 → (mb_m × (Nat → Option Nat) × Nat × (Nat → Nat) × mb_m) → Prop} {KX : String → (mb_m × (Nat → Option Nat)) → Prop} (C : mb_CX l p s m meth c args cX7_skin 3 (some .int) wsX7_skin RX7 D Y A) : ∀ (M : mb_m) (f1 : (Nat → Option Nat)) (x1 y0 : Int32) (H : Heap) (locs : List Loc) (ls : Array Slot), PX7_skin_24 N K KX  M f1 x1 y0 → va_P D vwCl (gw7 Y o a M ++ grS Y (a 3) f1) H → va_D A (gw7 Y o a M ++ grS Y (a 3) f1) → va_S A s.heap H locs → lv_has ls 3 [(0, .ref o), (1, .int x1)] → W p l e ({ frames := 7, cells := 4, slots := 77, locals := 110 } : Room) s m args below meth c H locs 1 6 (vx_MQ below (va_Qi K (fun u t => mb_T D A (gw7 Y o a (u.1) ++ grS Y (a 3) (u.2.1) ++ gw5 Y (u.2.2.1) (u.2.2.2.1) (u.2.2.2.2)) t) A) (mb_XC D A KX (fun u : mb_m × (Nat → Option Nat) => gw7 Y o a u.1 ++ grS Y (a 3) u.2)) args s 4 77 A) (F0 m 24 ls [.int y0]) := by
  obtain ⟨⟨hx, hb, hr, hml, hts, hown, hlocks, hA, hG⟩, hT, hX, hl0⟩ := id C
  have hK := hG.1
  intro M f1 x1 y0 H locs ls hF hP hD hS hl
  refine mbx_cEv (S := mb_m × (Nat → Option Nat)) (wf := fun u => gw7 Y o a u.1 ++ grS Y (a 3) u.2) C (M, f1) hP hD hS (vx_runS (As := [.int y0]) (rest := []) ⟨hx, hb, hml, hown, hts⟩ (cnX7_demandState l C.2.2.2 D Y N _ y0 _ _ hF) (va_cwS 1 hts gX7_skin_X7_demandState rfl rfl rfl (by decide +kernel) ⟨Nat.le_of_ble_eq_true rfl, Nat.le_of_ble_eq_true rfl⟩) (mbx_preS C mb_P0 mb_D0 hS) rfl rfl hl.1 rfl (lv_room (Nat.le_of_ble_eq_true rfl)) dX7_skin_24 ⟨Nat.le_of_ble_eq_true rfl, Nat.le_of_ble_eq_true rfl⟩) (Nat.le_of_ble_eq_true rfl) (Nat.le_of_ble_eq_true rfl) (fun H locs hF hP hS => ?_)
  have hP : va_P D vwCl (gw7 Y o a M ++ grS Y (a 3) f1) H := hP
  have hD : va_D A (gw7 Y o a M ++ grS Y (a 3) f1) := hD
  refine lv_aload_n hx hb dX7_skin_27 rfl (lv_at hl 0 rfl) ?_
  refine va_get (D := D) (ci := 7) (v := .int (M 6 0)) (C := RX7) (T := TX7) (N := 7) hx hb hts (fun _ h9 => List.mem_cons_of_mem _ (List.mem_append_left _ (List.mem_append_left _ (List.mem_append_left _ (List.mem_append_right _ (h9)))))) hown hK hP 0 rfl rfl 6 (by decide) (hts (.fieldLink RX7 189 "MarbleBench" "skinCount" "I") (List.mem_of_getElem? (i := 1) rfl)) (fun _ h9 => h9) rfl dX7_skin_28 ?_
  refine lv_topi (fun v31 ev31 => ?_)
  have hF := hF v31 ev31
  refine lv_istore_n (lv' := [(2, .int v31), (0, .ref o), (1, .int x1)]) hx hb dX7_skin_31 rfl hl (by decide) rfl (fun ls hl => ?_)
  refine lv_aload_n hx hb dX7_skin_32 rfl (lv_at hl 1 rfl) ?_
  refine va_get (D := D) (ci := 7) (v := .ref (a 3)) (C := RX7) (T := TX7) (N := 7) hx hb hts (fun _ h9 => List.mem_cons_of_mem _ (List.mem_append_left _ (List.mem_append_left _ (List.mem_append_left _ (List.mem_append_right _ (h9)))))) hown hK hP 0 rfl rfl 3 (by decide) (hts (.fieldLink RX7 30 "MarbleBench" "skins" "[LMarbleBench$Skin;") (List.mem_of_getElem? (i := 2) rfl)) (fun _ h9 => h9) rfl dX7_skin_33 ?_
  refine lv_iload_n hx hb dX7_skin_36 rfl (lv_at hl 0 rfl) ?_
  refine va_new (ci := 5) (fs := [.null]) (C := RX5) (T := TX5) (N := 1) hx hb hts (fun _ h9 => List.mem_cons_of_mem _ (List.mem_append_left _ (List.mem_append_left _ (List.mem_append_right _ (h9))))) tyX5 tyX5_ok hown (hts (.classLink RX7 28 RX5) (List.mem_of_getElem? (i := 3) rfl)) (hts (.instantiable RX5 1) (List.mem_of_getElem? (i := 4) rfl)) (hts (.initialized RX5) (List.mem_of_getElem? (i := 5) rfl)) hK hP hD hS hA rfl (fun j hj => by rcases (show j = 0 by omega) with rfl <;> rfl) (Nat.le_of_ble_eq_true rfl) (Nat.le_of_ble_eq_true rfl) dX7_skin_37 (fun q37 H hP hD hS => ?_)
  have hF := hF q37
  have hP : va_P D vwCl (gw7 Y o a M ++ grS Y (a 3) f1 ++ [(q37, .inr (5, [.null]))]) H := hP
  have hD : va_D A (gw7 Y o a M ++ grS Y (a 3) f1 ++ [(q37, .inr (5, [.null]))]) := hD
  refine lv_dup hx hb dX7_skin_40 rfl ?_
  refine lv_iload_n hx hb dX7_skin_41 rfl (lv_at hl 2 rfl) ?_
  have hPc := hP.sub (ws' := [(q37, .inr (5, [.null]))]) [2] rfl
  have hDc := hD.sub (ws' := [(q37, .inr (5, [.null]))]) [2] (by decide) rfl
  refine mb_cPv (wc := [(q37, .inr (5, [.null]))]) (wr := gw7 Y o a M ++ grS Y (a 3) f1) hP hD hS hA [2] [0, 1] rfl rfl (by decide) (by decide) (va_runI (As := [.int x1]) (rest := [.ref q37, .int v31, .ref (a 3)]) ⟨hx, hb, hml, hown, hts⟩ (cnX5_init l D Y N q37 _ x1 _ hF) (cwI 1 hts gX7_skin_X5_init rfl rfl rfl (hts (.initialized RX5) (List.mem_of_getElem? (i := 5) rfl)) (hts (.methodLink RX7 192 yX5_init) (List.mem_of_getElem? (i := 20) rfl)) (hts (.instanceMethod yX5_init) (List.mem_of_getElem? (i := 21) rfl)) rfl (by decide +kernel) ⟨Nat.le_of_ble_eq_true rfl, Nat.le_of_ble_eq_true rfl⟩) (mb_preS (A := A) hG hPc hDc) rfl rfl hl.1 rfl (lv_room (Nat.le_of_ble_eq_true rfl)) dX7_skin_42 ⟨Nat.le_of_ble_eq_true rfl, Nat.le_of_ble_eq_true rfl⟩) (fun u42 H locs hF hP hD hS => ?_)
  obtain ⟨a42, M42⟩ := u42
  have hF := hF a42
  have hP : va_P D vwCl (gw7 Y o a M ++ grS Y (a 3) f1 ++ gw5 Y q37 a42 M42) H := hP
  have hD : va_D A (gw7 Y o a M ++ grS Y (a 3) f1 ++ gw5 Y q37 a42 M42) := hD
  obtain ⟨hi45, hF⟩ := hF
  refine va_astq (r := (RX5, TX5, 1)) hx hb hK hP hD hS 1 5 2 5 rfl rfl rfl rfl hi45 dX7_skin_45 (fun H locs hP hD hS => ?_)
  have hP : va_P D vwCl (gw7 Y o a M ++ grS Y (a 3) (va_up f1 v31.toNatClampNeg (some q37)) ++ gw5 Y q37 a42 M42) H := hP
  have hD : va_D A (gw7 Y o a M ++ grS Y (a 3) (va_up f1 v31.toNatClampNeg (some q37)) ++ gw5 Y q37 a42 M42) := hD
  generalize ef45 : va_up f1 v31.toNatClampNeg (some q37) = f45 at hP hD
  have hF := hF f45 ef45.symm
  refine lv_aload_n hx hb dX7_skin_46 rfl (lv_at hl 1 rfl) ?_
  refine lv_dup hx hb dX7_skin_47 rfl ?_
  refine va_get (D := D) (ci := 7) (v := .int (M 6 0)) (C := RX7) (T := TX7) (N := 7) hx hb hts (fun _ h9 => List.mem_cons_of_mem _ (List.mem_append_left _ (List.mem_append_left _ (List.mem_append_left _ (List.mem_append_right _ (h9)))))) hown hK hP 0 rfl rfl 6 (by decide) (hts (.fieldLink RX7 189 "MarbleBench" "skinCount" "I") (List.mem_of_getElem? (i := 1) rfl)) (fun _ h9 => h9) rfl dX7_skin_48 ?_
  refine lv_iconst (v := 1) hx hb dX7_skin_51 (by decide) ?_
  refine lv_iadd hx hb dX7_skin_52 ?_
  refine lv_topi (fun v53 ev53 => ?_)
  have hF := hF v53 ev53
  refine va_put (D := D) (ci := 7) (v := .int v53) (ty := .int) (C := RX7) (T := TX7) (N := 7) hx hb hts (fun _ h9 => List.mem_cons_of_mem _ (List.mem_append_left _ (List.mem_append_left _ (List.mem_append_left _ (List.mem_append_right _ (h9)))))) tyX7 tyX7_ok nmX7 hown hK hP hD hS 0 rfl rfl 6 (by decide) (hts (.fieldLink RX7 189 "MarbleBench" "skinCount" "I") (List.mem_of_getElem? (i := 1) rfl)) (fun _ h9 => h9) rfl (by decide +kernel) rfl rfl (Nat.le_of_ble_eq_true rfl) dX7_skin_53 (fun H locs hP hD hS => ?_)
  have hP : va_P D vwCl (gw7 Y o a (mb_u M 6 (mb_c v53)) ++ grS Y (a 3) f45 ++ gw5 Y q37 a42 M42) H := hP
  have hD : va_D A (gw7 Y o a (mb_u M 6 (mb_c v53)) ++ grS Y (a 3) f45 ++ gw5 Y q37 a42 M42) := hD
  generalize eM53 : mb_u M 6 (mb_c v53) = M53 at hP hD
  have hF := hF M53 eM53.symm
  refine lv_iload_n hx hb dX7_skin_56 rfl (lv_at hl 0 rfl) ?_
  have hP := hP.sub (ws' := gw7 Y o a M53 ++ grS Y (a 3) f45 ++ gw5 Y q37 a42 M42) [0, 1, 2, 3] rfl
  have hD := hD.sub (ws' := gw7 Y o a M53 ++ grS Y (a 3) f45 ++ gw5 Y q37 a42 M42) [0, 1, 2, 3] (by decide) rfl
  exact vx_ret (mb_ri (S := mb_m × (Nat → Option Nat) × Nat × (Nat → Nat) × mb_m) (mc := 4) (ms := 77) (wf := fun u => gw7 Y o a (u.1) ++ grS Y (a 3) (u.2.1) ++ gw5 Y (u.2.2.1) (u.2.2.2.1) (u.2.2.2.2)) C.1 rfl (u := (M53, f45, q37, a42, M42)) hF hP hD hS dX7_skin_57 (Nat.le_of_ble_eq_true rfl) (Nat.le_of_ble_eq_true rfl))
noncomputable def PX7_skin (N : Nat) (M : mb_m) (f1 : (Nat → Option Nat)) (x1 : Int32) (K : Int32 → (mb_m × (Nat → Option Nat) × Nat × (Nat → Nat) × mb_m) → Prop) (KX : String → (mb_m × (Nat → Option Nat)) → Prop) : Prop := PX7_isWithin N x1 (8 : Int32) (30 : Int32) (fun r5 _ => PX7_demandArgument N r5 (fun _ => ((3 : Int32) ≤ (M 6 0) → PX7_skin_24 N K KX M f1 x1 (0 : Int32)) ∧ (¬ (3 : Int32) ≤ (M 6 0) → PX7_skin_24 N K KX M f1 x1 (1 : Int32))) (fun E _ => KX E (M, f1)))
set_option maxHeartbeats 4000000 in
set_option maxRecDepth 100000 in
theorem cnX7_skin (l : Launch) (hl0 : l.stackTraces = false) (D : va_G) (Y : Nat → ClassId) (N : Nat) (o : Nat) (a : Nat → Nat) (M : mb_m) (f1 : (Nat → Option Nat)) (sz : Nat) (x1 : Int32) (K : Int32 → (mb_m × (Nat → Option Nat) × Nat × (Nat → Nat) × mb_m) → Prop) (KX : String → (mb_m × (Nat → Option Nat)) → Prop) (hF : PX7_skin N M f1 x1 K KX) : vx_Met l yX7_skin wsX7_skin ({ frames := 7, cells := 4, slots := 77, locals := 110 } : Room) (va_Pc [.ref o, .int x1] (mb_BX D Y (gw7 Y o a M ++ grS Y (a 3) f1) sz)) (va_Qi K (fun u t => mb_T D (va_A (gw7 Y o a M ++ grS Y (a 3) f1) sz) (gw7 Y o a (u.1) ++ grS Y (a 3) (u.2.1) ++ gw5 Y (u.2.2.1) (u.2.2.2.1) (u.2.2.2.2)) t) (va_A (gw7 Y o a M ++ grS Y (a 3) f1) sz)) (mb_XC D (va_A (gw7 Y o a M ++ grS Y (a 3) f1) sz) KX (fun u : mb_m × (Nat → Option Nat) => gw7 Y o a u.1 ++ grS Y (a 3) u.2)) 4 77 (va_A (gw7 Y o a M ++ grS Y (a 3) f1) sz) := by
  refine mbx_begin (cc := cX7_skin) (maxL := 3) (ret := (some .int)) hl0 (by decide +kernel) rfl (Nat.le_of_ble_eq_true rfl) ?_
  intro p e s m below meth c ls C hsz hnm hP hD hl
  generalize hAe : va_A (gw7 Y o a M ++ grS Y (a 3) f1) sz = A at C hD ⊢
  have C : mb_CX l p s m meth c ([.ref o, .int x1] : List Value).toArray cX7_skin 3 (some .int) wsX7_skin RX7 D Y A := C
  obtain ⟨⟨hx, hb, hr, hml, hts, hown, hlocks, hA, hG⟩, hT, hX, hl0⟩ := id C
  have hK := hG.1
  have hS : va_S A s.heap s.heap [] := va_S.rf
  have hl : lv_has ls 3 [(0, .ref o), (1, .int x1)] := hl
  refine lv_iload_n hx hb dX7_skin_0 rfl (lv_at hl 1 rfl) ?_
  refine lv_bipush (v := 8) hx hb dX7_skin_1 (by decide) ?_
  refine lv_bipush (v := 30) hx hb dX7_skin_3 (by decide) ?_
  refine mb_cE hP hS hA (va_runS (As := [.int x1, .int (8 : Int32), .int (30 : Int32)]) (rest := []) ⟨hx, hb, hml, hown, hts⟩ (cnX7_isWithin l D Y N _ x1 (8 : Int32) (30 : Int32) _ hF) (va_cwS 3 hts gX7_skin_X7_isWithin rfl rfl rfl (by decide +kernel) ⟨Nat.le_of_ble_eq_true rfl, Nat.le_of_ble_eq_true rfl⟩) (mb_preS (A := A) hG mb_P0 mb_D0) rfl rfl hl.1 rfl (lv_room (Nat.le_of_ble_eq_true rfl)) dX7_skin_5 ⟨Nat.le_of_ble_eq_true rfl, Nat.le_of_ble_eq_true rfl⟩) (fun r5 H locs hF hP hS => ?_)
  refine mbx_cEv (S := mb_m × (Nat → Option Nat)) (wf := fun u => gw7 Y o a u.1 ++ grS Y (a 3) u.2) C (M, f1) hP hD hS (vx_runS (As := [.int r5]) (rest := []) ⟨hx, hb, hml, hown, hts⟩ (cnX7_demandArgument l C.2.2.2 D Y N _ r5 _ _ hF) (va_cwS 1 hts gX7_skin_X7_demandArgument rfl rfl rfl (by decide +kernel) ⟨Nat.le_of_ble_eq_true rfl, Nat.le_of_ble_eq_true rfl⟩) (mbx_preS C mb_P0 mb_D0 hS) rfl rfl hl.1 rfl (lv_room (Nat.le_of_ble_eq_true rfl)) dX7_skin_8 ⟨Nat.le_of_ble_eq_true rfl, Nat.le_of_ble_eq_true rfl⟩) (Nat.le_of_ble_eq_true rfl) (Nat.le_of_ble_eq_true rfl) (fun H locs hF hP hS => ?_)
  refine lv_aload_n hx hb dX7_skin_11 rfl (lv_at hl 0 rfl) ?_
  refine va_get (D := D) (ci := 7) (v := .int (M 6 0)) (C := RX7) (T := TX7) (N := 7) hx hb hts (fun _ h9 => List.mem_cons_of_mem _ (List.mem_append_left _ (List.mem_append_left _ (List.mem_append_left _ (List.mem_append_right _ (h9)))))) hown hK hP 0 rfl rfl 6 (by decide) (hts (.fieldLink RX7 189 "MarbleBench" "skinCount" "I") (List.mem_of_getElem? (i := 1) rfl)) (fun _ h9 => h9) rfl dX7_skin_12 ?_
  refine lv_iconst (v := 3) hx hb dX7_skin_15 (by decide) ?_
  refine lv_icmp_ge (tgt := 23) hx hb dX7_skin_16 (by decide) (fun c_16 => ?_) (fun c_16 => ?_)
  · have hF := hF.1 c_16
    refine lv_iconst (v := 0) hx hb dX7_skin_23 (by decide) ?_
    exact wX7_skin_24 C M f1 x1 (0 : Int32) _ _ _ hF hP hD hS (lv_sub hl [0, 1] rfl)
  · have hF := hF.2 c_16
    refine lv_iconst (v := 1) hx hb dX7_skin_19 (by decide) ?_
    refine lv_goto (tgt := 24) hx hb dX7_skin_20 (by decide) ?_
    exact wX7_skin_24 C M f1 x1 (1 : Int32) _ _ _ hF hP hD hS (lv_sub hl [0, 1] rfl)
end
section
noncomputable def PX7_book_70 (N : Nat) (K : Int32 → (mb_m × (Nat → Option Nat) × Nat × (Nat → Nat) × (Nat → Nat) × (Nat → Nat) × (Nat → Nat) × mb_m × mb_m × mb_m × mb_m) → Prop) (KX : String → (mb_m × (Nat → Option Nat)) → Prop) (M : mb_m) (f1 : (Nat → Option Nat)) (x1 x2 x3 x4 x5 y0 : Int32) : Prop := PX7_demandState N y0 (fun _ => ∀ v77 : Int32, v77 = (M 5 0) → (∀ q85 : Nat, (PX1_init N x1 x2 x3 x4 x5 (fun M96 N96 R96 V96 => ∀ a96 b96 c96 d96 : Nat → Nat, (vp_in v77 4 ∧ (∀ f99 : Nat → Option Nat, f99 = va_up f1 v77.toNatClampNeg (some q85) → (∀ v107 : Int32, v107 = ((M 5 0) + (1 : Int32)) → (∀ M107 : mb_m, M107 = mb_u M 5 (mb_c v107) → (K v77 (M107, f99, q85, a96, b96, c96, d96, M96, N96, R96, V96)))))))))) (fun E _ => KX E (M, f1))
set_option maxHeartbeats 4000000 in
set_option maxRecDepth 100000 in
theorem wX7_book_70 {p : Program} {l : Launch} {e : Env} {s : State} {m : MethodId} {below : List Frame} {meth : Method} {c : Code} {args : Array Value} {D : va_G} {Y : Nat → ClassId} {A : Nat → Prop} {o : Nat} {a : Nat → Nat} {N : Nat} {K : Int32 → (mb_m × (Nat → Option Nat) × Nat × (Nat → Nat) × (Nat → Nat) × (Nat → Nat) × (Nat → Nat) × mb_m × mb_m × mb_m × mb_m) → Prop} {KX : String → (mb_m × (Nat → Option Nat)) → Prop} (C : mb_CX l p s m meth c args cX7_book 7 (some .int) wsX7_book RX7 D Y A) : ∀ (M : mb_m) (f1 : (Nat → Option Nat)) (x1 x2 x3 x4 x5 y0 : Int32) (H : Heap) (locs : List Loc) (ls : Array Slot), PX7_book_70 N K KX  M f1 x1 x2 x3 x4 x5 y0 → va_P D vwCl (gw7 Y o a M ++ grB Y (a 2) f1) H → va_D A (gw7 Y o a M ++ grB Y (a 2) f1) → va_S A s.heap H locs → lv_has ls 7 [(0, .ref o), (1, .int x1), (2, .int x2), (3, .int x3), (4, .int x4), (5, .int x5)] → W p l e ({ frames := 7, cells := 14, slots := 369, locals := 110 } : Room) s m args below meth c H locs 2 12 (vx_MQ below (va_Qi K (fun u t => mb_T D A (gw7 Y o a (u.1) ++ grB Y (a 2) (u.2.1) ++ gw1 Y (u.2.2.1) (u.2.2.2.1) (u.2.2.2.2.2.2.2.1) ++ gw4 Y ((u.2.2.2.1) 0) (u.2.2.2.2.1) (u.2.2.2.2.2.2.2.2.1) ++ gw3 Y ((u.2.2.2.1) 1) (u.2.2.2.2.2.1) (u.2.2.2.2.2.2.2.2.2.1) ++ gw6 Y ((u.2.2.2.1) 2) (u.2.2.2.2.2.2.1) (u.2.2.2.2.2.2.2.2.2.2)) t) A) (mb_XC D A KX (fun u : mb_m × (Nat → Option Nat) => gw7 Y o a u.1 ++ grB Y (a 2) u.2)) args s 14 369 A) (F0 m 70 ls [.int y0]) := by
  obtain ⟨⟨hx, hb, hr, hml, hts, hown, hlocks, hA, hG⟩, hT, hX, hl0⟩ := id C
  have hK := hG.1
  intro M f1 x1 x2 x3 x4 x5 y0 H locs ls hF hP hD hS hl
  refine mbx_cEv (S := mb_m × (Nat → Option Nat)) (wf := fun u => gw7 Y o a u.1 ++ grB Y (a 2) u.2) C (M, f1) hP hD hS (vx_runS (As := [.int y0]) (rest := []) ⟨hx, hb, hml, hown, hts⟩ (cnX7_demandState l C.2.2.2 D Y N _ y0 _ _ hF) (va_cwS 1 hts gX7_book_X7_demandState rfl rfl rfl (by decide +kernel) ⟨Nat.le_of_ble_eq_true rfl, Nat.le_of_ble_eq_true rfl⟩) (mbx_preS C mb_P0 mb_D0 hS) rfl rfl hl.1 rfl (lv_room (Nat.le_of_ble_eq_true rfl)) dX7_book_70 ⟨Nat.le_of_ble_eq_true rfl, Nat.le_of_ble_eq_true rfl⟩) (Nat.le_of_ble_eq_true rfl) (Nat.le_of_ble_eq_true rfl) (fun H locs hF hP hS => ?_)
  have hP : va_P D vwCl (gw7 Y o a M ++ grB Y (a 2) f1) H := hP
  have hD : va_D A (gw7 Y o a M ++ grB Y (a 2) f1) := hD
  refine lv_aload_n hx hb dX7_book_73 rfl (lv_at hl 0 rfl) ?_
  refine va_get (D := D) (ci := 7) (v := .int (M 5 0)) (C := RX7) (T := TX7) (N := 7) hx hb hts (fun _ h9 => List.mem_cons_of_mem _ (List.mem_append_left _ (List.mem_append_left _ (List.mem_append_left _ (List.mem_append_left _ (List.mem_append_left _ (List.mem_append_left _ (List.mem_append_right _ (h9))))))))) hown hK hP 0 rfl rfl 5 (by decide) (hts (.fieldLink RX7 112 "MarbleBench" "bookCount" "I") (List.mem_of_getElem? (i := 1) rfl)) (fun _ h9 => h9) rfl dX7_book_74 ?_
  refine lv_topi (fun v77 ev77 => ?_)
  have hF := hF v77 ev77
  refine lv_istore (lv' := [(6, .int v77), (0, .ref o), (1, .int x1), (2, .int x2), (3, .int x3), (4, .int x4), (5, .int x5)]) hx hb dX7_book_77 hl (by decide) rfl (fun ls hl => ?_)
  refine lv_aload_n hx hb dX7_book_79 rfl (lv_at hl 1 rfl) ?_
  refine va_get (D := D) (ci := 7) (v := .ref (a 2)) (C := RX7) (T := TX7) (N := 7) hx hb hts (fun _ h9 => List.mem_cons_of_mem _ (List.mem_append_left _ (List.mem_append_left _ (List.mem_append_left _ (List.mem_append_left _ (List.mem_append_left _ (List.mem_append_left _ (List.mem_append_right _ (h9))))))))) hown hK hP 0 rfl rfl 2 (by decide) (hts (.fieldLink RX7 24 "MarbleBench" "books" "[LMarbleBench$Book;") (List.mem_of_getElem? (i := 2) rfl)) (fun _ h9 => h9) rfl dX7_book_80 ?_
  refine lv_iload hx hb dX7_book_83 (lv_at hl 0 rfl) ?_
  refine va_new (ci := 1) (fs := [.null, .null, .null, .int 0, .int 0, .int 0, .int 0]) (C := RX1) (T := TX1) (N := 7) hx hb hts (fun _ h9 => List.mem_cons_of_mem _ (List.mem_append_left _ (List.mem_append_left _ (List.mem_append_left _ (List.mem_append_left _ (List.mem_append_left _ (List.mem_append_right _ (h9)))))))) tyX1 tyX1_ok hown (hts (.classLink RX7 22 RX1) (List.mem_of_getElem? (i := 3) rfl)) (hts (.instantiable RX1 7) (List.mem_of_getElem? (i := 4) rfl)) (hts (.initialized RX1) (List.mem_of_getElem? (i := 5) rfl)) hK hP hD hS hA rfl (fun j hj => by rcases (show j = 0 ∨ j = 1 ∨ j = 2 ∨ j = 3 ∨ j = 4 ∨ j = 5 ∨ j = 6 by omega) with rfl | rfl | rfl | rfl | rfl | rfl | rfl <;> rfl) (Nat.le_of_ble_eq_true rfl) (Nat.le_of_ble_eq_true rfl) dX7_book_85 (fun q85 H hP hD hS => ?_)
  have hF := hF q85
  have hP : va_P D vwCl (gw7 Y o a M ++ grB Y (a 2) f1 ++ [(q85, .inr (1, [.null, .null, .null, .int 0, .int 0, .int 0, .int 0]))]) H := hP
  have hD : va_D A (gw7 Y o a M ++ grB Y (a 2) f1 ++ [(q85, .inr (1, [.null, .null, .null, .int 0, .int 0, .int 0, .int 0]))]) := hD
  refine lv_dup hx hb dX7_book_88 rfl ?_
  refine lv_iload_n hx hb dX7_book_89 rfl (lv_at hl 2 rfl) ?_
  refine lv_iload_n hx hb dX7_book_90 rfl (lv_at hl 3 rfl) ?_
  refine lv_iload_n hx hb dX7_book_91 rfl (lv_at hl 4 rfl) ?_
  refine lv_iload hx hb dX7_book_92 (lv_at hl 5 rfl) ?_
  refine lv_iload hx hb dX7_book_94 (lv_at hl 6 rfl) ?_
  have hPc := hP.sub (ws' := [(q85, .inr (1, [.null, .null, .null, .int 0, .int 0, .int 0, .int 0]))]) [2] rfl
  have hDc := hD.sub (ws' := [(q85, .inr (1, [.null, .null, .null, .int 0, .int 0, .int 0, .int 0]))]) [2] (by decide) rfl
  refine mb_cPv (wc := [(q85, .inr (1, [.null, .null, .null, .int 0, .int 0, .int 0, .int 0]))]) (wr := gw7 Y o a M ++ grB Y (a 2) f1) hP hD hS hA [2] [0, 1] rfl rfl (by decide) (by decide) (va_runI (As := [.int x1, .int x2, .int x3, .int x4, .int x5]) (rest := [.ref q85, .int v77, .ref (a 2)]) ⟨hx, hb, hml, hown, hts⟩ (cnX1_init l D Y N q85 _ x1 x2 x3 x4 x5 _ hF) (cwI 5 hts gX7_book_X1_init rfl rfl rfl (hts (.initialized RX1) (List.mem_of_getElem? (i := 5) rfl)) (hts (.methodLink RX7 115 yX1_init) (List.mem_of_getElem? (i := 20) rfl)) (hts (.instanceMethod yX1_init) (List.mem_of_getElem? (i := 21) rfl)) rfl (by decide +kernel) ⟨Nat.le_of_ble_eq_true rfl, Nat.le_of_ble_eq_true rfl⟩) (mb_preS (A := A) hG hPc hDc) rfl rfl hl.1 rfl (lv_room (Nat.le_of_ble_eq_true rfl)) dX7_book_96 ⟨Nat.le_of_ble_eq_true rfl, Nat.le_of_ble_eq_true rfl⟩) (fun u96 H locs hF hP hD hS => ?_)
  obtain ⟨a96, b96, c96, d96, M96, N96, R96, V96⟩ := u96
  have hF := hF a96 b96 c96 d96
  have hP : va_P D vwCl (gw7 Y o a M ++ grB Y (a 2) f1 ++ gw1 Y q85 a96 M96 ++ gw4 Y (a96 0) b96 N96 ++ gw3 Y (a96 1) c96 R96 ++ gw6 Y (a96 2) d96 V96) H := hP
  have hD : va_D A (gw7 Y o a M ++ grB Y (a 2) f1 ++ gw1 Y q85 a96 M96 ++ gw4 Y (a96 0) b96 N96 ++ gw3 Y (a96 1) c96 R96 ++ gw6 Y (a96 2) d96 V96) := hD
  obtain ⟨hi99, hF⟩ := hF
  refine va_astq (r := (RX1, TX1, 7)) hx hb hK hP hD hS 1 4 2 1 rfl rfl rfl rfl hi99 dX7_book_99 (fun H locs hP hD hS => ?_)
  have hP : va_P D vwCl (gw7 Y o a M ++ grB Y (a 2) (va_up f1 v77.toNatClampNeg (some q85)) ++ gw1 Y q85 a96 M96 ++ gw4 Y (a96 0) b96 N96 ++ gw3 Y (a96 1) c96 R96 ++ gw6 Y (a96 2) d96 V96) H := hP
  have hD : va_D A (gw7 Y o a M ++ grB Y (a 2) (va_up f1 v77.toNatClampNeg (some q85)) ++ gw1 Y q85 a96 M96 ++ gw4 Y (a96 0) b96 N96 ++ gw3 Y (a96 1) c96 R96 ++ gw6 Y (a96 2) d96 V96) := hD
  generalize ef99 : va_up f1 v77.toNatClampNeg (some q85) = f99 at hP hD
  have hF := hF f99 ef99.symm
  refine lv_aload_n hx hb dX7_book_100 rfl (lv_at hl 1 rfl) ?_
  refine lv_dup hx hb dX7_book_101 rfl ?_
  refine va_get (D := D) (ci := 7) (v := .int (M 5 0)) (C := RX7) (T := TX7) (N := 7) hx hb hts (fun _ h9 => List.mem_cons_of_mem _ (List.mem_append_left _ (List.mem_append_left _ (List.mem_append_left _ (List.mem_append_left _ (List.mem_append_left _ (List.mem_append_left _ (List.mem_append_right _ (h9))))))))) hown hK hP 0 rfl rfl 5 (by decide) (hts (.fieldLink RX7 112 "MarbleBench" "bookCount" "I") (List.mem_of_getElem? (i := 1) rfl)) (fun _ h9 => h9) rfl dX7_book_102 ?_
  refine lv_iconst (v := 1) hx hb dX7_book_105 (by decide) ?_
  refine lv_iadd hx hb dX7_book_106 ?_
  refine lv_topi (fun v107 ev107 => ?_)
  have hF := hF v107 ev107
  refine va_put (D := D) (ci := 7) (v := .int v107) (ty := .int) (C := RX7) (T := TX7) (N := 7) hx hb hts (fun _ h9 => List.mem_cons_of_mem _ (List.mem_append_left _ (List.mem_append_left _ (List.mem_append_left _ (List.mem_append_left _ (List.mem_append_left _ (List.mem_append_left _ (List.mem_append_right _ (h9))))))))) tyX7 tyX7_ok nmX7 hown hK hP hD hS 0 rfl rfl 5 (by decide) (hts (.fieldLink RX7 112 "MarbleBench" "bookCount" "I") (List.mem_of_getElem? (i := 1) rfl)) (fun _ h9 => h9) rfl (by decide +kernel) rfl rfl (Nat.le_of_ble_eq_true rfl) dX7_book_107 (fun H locs hP hD hS => ?_)
  have hP : va_P D vwCl (gw7 Y o a (mb_u M 5 (mb_c v107)) ++ grB Y (a 2) f99 ++ gw1 Y q85 a96 M96 ++ gw4 Y (a96 0) b96 N96 ++ gw3 Y (a96 1) c96 R96 ++ gw6 Y (a96 2) d96 V96) H := hP
  have hD : va_D A (gw7 Y o a (mb_u M 5 (mb_c v107)) ++ grB Y (a 2) f99 ++ gw1 Y q85 a96 M96 ++ gw4 Y (a96 0) b96 N96 ++ gw3 Y (a96 1) c96 R96 ++ gw6 Y (a96 2) d96 V96) := hD
  generalize eM107 : mb_u M 5 (mb_c v107) = M107 at hP hD
  have hF := hF M107 eM107.symm
  refine lv_iload hx hb dX7_book_110 (lv_at hl 0 rfl) ?_
  have hP := hP.sub (ws' := gw7 Y o a M107 ++ grB Y (a 2) f99 ++ gw1 Y q85 a96 M96 ++ gw4 Y (a96 0) b96 N96 ++ gw3 Y (a96 1) c96 R96 ++ gw6 Y (a96 2) d96 V96) [0, 1, 2, 3, 4, 5, 6, 7, 8, 9, 10, 11, 12] rfl
  have hD := hD.sub (ws' := gw7 Y o a M107 ++ grB Y (a 2) f99 ++ gw1 Y q85 a96 M96 ++ gw4 Y (a96 0) b96 N96 ++ gw3 Y (a96 1) c96 R96 ++ gw6 Y (a96 2) d96 V96) [0, 1, 2, 3, 4, 5, 6, 7, 8, 9, 10, 11, 12] (by decide) rfl
  exact vx_ret (mb_ri (S := mb_m × (Nat → Option Nat) × Nat × (Nat → Nat) × (Nat → Nat) × (Nat → Nat) × (Nat → Nat) × mb_m × mb_m × mb_m × mb_m) (mc := 14) (ms := 369) (wf := fun u => gw7 Y o a (u.1) ++ grB Y (a 2) (u.2.1) ++ gw1 Y (u.2.2.1) (u.2.2.2.1) (u.2.2.2.2.2.2.2.1) ++ gw4 Y ((u.2.2.2.1) 0) (u.2.2.2.2.1) (u.2.2.2.2.2.2.2.2.1) ++ gw3 Y ((u.2.2.2.1) 1) (u.2.2.2.2.2.1) (u.2.2.2.2.2.2.2.2.2.1) ++ gw6 Y ((u.2.2.2.1) 2) (u.2.2.2.2.2.2.1) (u.2.2.2.2.2.2.2.2.2.2)) C.1 rfl (u := (M107, f99, q85, a96, b96, c96, d96, M96, N96, R96, V96)) hF hP hD hS dX7_book_112 (Nat.le_of_ble_eq_true rfl) (Nat.le_of_ble_eq_true rfl))
noncomputable def PX7_book_54 (N : Nat) (K : Int32 → (mb_m × (Nat → Option Nat) × Nat × (Nat → Nat) × (Nat → Nat) × (Nat → Nat) × (Nat → Nat) × mb_m × mb_m × mb_m × mb_m) → Prop) (KX : String → (mb_m × (Nat → Option Nat)) → Prop) (M : mb_m) (f1 : (Nat → Option Nat)) (x1 x2 x3 x4 x5 y0 : Int32) : Prop := PX7_demandArgument N y0 (fun _ => ((4 : Int32) ≤ (M 5 0) → PX7_book_70 N K KX M f1 x1 x2 x3 x4 x5 (0 : Int32)) ∧ (¬ (4 : Int32) ≤ (M 5 0) → PX7_book_70 N K KX M f1 x1 x2 x3 x4 x5 (1 : Int32))) (fun E _ => KX E (M, f1))
set_option maxHeartbeats 4000000 in
set_option maxRecDepth 100000 in
theorem wX7_book_54 {p : Program} {l : Launch} {e : Env} {s : State} {m : MethodId} {below : List Frame} {meth : Method} {c : Code} {args : Array Value} {D : va_G} {Y : Nat → ClassId} {A : Nat → Prop} {o : Nat} {a : Nat → Nat} {N : Nat} {K : Int32 → (mb_m × (Nat → Option Nat) × Nat × (Nat → Nat) × (Nat → Nat) × (Nat → Nat) × (Nat → Nat) × mb_m × mb_m × mb_m × mb_m) → Prop} {KX : String → (mb_m × (Nat → Option Nat)) → Prop} (C : mb_CX l p s m meth c args cX7_book 7 (some .int) wsX7_book RX7 D Y A) : ∀ (M : mb_m) (f1 : (Nat → Option Nat)) (x1 x2 x3 x4 x5 y0 : Int32) (H : Heap) (locs : List Loc) (ls : Array Slot), PX7_book_54 N K KX  M f1 x1 x2 x3 x4 x5 y0 → va_P D vwCl (gw7 Y o a M ++ grB Y (a 2) f1) H → va_D A (gw7 Y o a M ++ grB Y (a 2) f1) → va_S A s.heap H locs → lv_has ls 7 [(0, .ref o), (1, .int x1), (2, .int x2), (3, .int x3), (4, .int x4), (5, .int x5)] → W p l e ({ frames := 7, cells := 14, slots := 369, locals := 110 } : Room) s m args below meth c H locs 1 6 (vx_MQ below (va_Qi K (fun u t => mb_T D A (gw7 Y o a (u.1) ++ grB Y (a 2) (u.2.1) ++ gw1 Y (u.2.2.1) (u.2.2.2.1) (u.2.2.2.2.2.2.2.1) ++ gw4 Y ((u.2.2.2.1) 0) (u.2.2.2.2.1) (u.2.2.2.2.2.2.2.2.1) ++ gw3 Y ((u.2.2.2.1) 1) (u.2.2.2.2.2.1) (u.2.2.2.2.2.2.2.2.2.1) ++ gw6 Y ((u.2.2.2.1) 2) (u.2.2.2.2.2.2.1) (u.2.2.2.2.2.2.2.2.2.2)) t) A) (mb_XC D A KX (fun u : mb_m × (Nat → Option Nat) => gw7 Y o a u.1 ++ grB Y (a 2) u.2)) args s 14 369 A) (F0 m 54 ls [.int y0]) := by
  obtain ⟨⟨hx, hb, hr, hml, hts, hown, hlocks, hA, hG⟩, hT, hX, hl0⟩ := id C
  have hK := hG.1
  intro M f1 x1 x2 x3 x4 x5 y0 H locs ls hF hP hD hS hl
  refine mbx_cEv (S := mb_m × (Nat → Option Nat)) (wf := fun u => gw7 Y o a u.1 ++ grB Y (a 2) u.2) C (M, f1) hP hD hS (vx_runS (As := [.int y0]) (rest := []) ⟨hx, hb, hml, hown, hts⟩ (cnX7_demandArgument l C.2.2.2 D Y N _ y0 _ _ hF) (va_cwS 1 hts gX7_book_X7_demandArgument rfl rfl rfl (by decide +kernel) ⟨Nat.le_of_ble_eq_true rfl, Nat.le_of_ble_eq_true rfl⟩) (mbx_preS C mb_P0 mb_D0 hS) rfl rfl hl.1 rfl (lv_room (Nat.le_of_ble_eq_true rfl)) dX7_book_54 ⟨Nat.le_of_ble_eq_true rfl, Nat.le_of_ble_eq_true rfl⟩) (Nat.le_of_ble_eq_true rfl) (Nat.le_of_ble_eq_true rfl) (fun H locs hF hP hS => ?_)
  refine lv_aload_n hx hb dX7_book_57 rfl (lv_at hl 0 rfl) ?_
  refine va_get (D := D) (ci := 7) (v := .int (M 5 0)) (C := RX7) (T := TX7) (N := 7) hx hb hts (fun _ h9 => List.mem_cons_of_mem _ (List.mem_append_left _ (List.mem_append_left _ (List.mem_append_left _ (List.mem_append_left _ (List.mem_append_left _ (List.mem_append_left _ (List.mem_append_right _ (h9))))))))) hown hK hP 0 rfl rfl 5 (by decide) (hts (.fieldLink RX7 112 "MarbleBench" "bookCount" "I") (List.mem_of_getElem? (i := 1) rfl)) (fun _ h9 => h9) rfl dX7_book_58 ?_
  refine lv_iconst (v := 4) hx hb dX7_book_61 (by decide) ?_
  refine lv_icmp_ge (tgt := 69) hx hb dX7_book_62 (by decide) (fun c_62 => ?_) (fun c_62 => ?_)
  · have hF := hF.1 c_62
    refine lv_iconst (v := 0) hx hb dX7_book_69 (by decide) ?_
    exact wX7_book_70 C M f1 x1 x2 x3 x4 x5 (0 : Int32) _ _ _ hF hP hD hS (lv_sub hl [0, 1, 2, 3, 4, 5] rfl)
  · have hF := hF.2 c_62
    refine lv_iconst (v := 1) hx hb dX7_book_65 (by decide) ?_
    refine lv_goto (tgt := 70) hx hb dX7_book_66 (by decide) ?_
    exact wX7_book_70 C M f1 x1 x2 x3 x4 x5 (1 : Int32) _ _ _ hF hP hD hS (lv_sub hl [0, 1, 2, 3, 4, 5] rfl)
noncomputable def PX7_book_53 (N : Nat) (K : Int32 → (mb_m × (Nat → Option Nat) × Nat × (Nat → Nat) × (Nat → Nat) × (Nat → Nat) × (Nat → Nat) × mb_m × mb_m × mb_m × mb_m) → Prop) (KX : String → (mb_m × (Nat → Option Nat)) → Prop) (M : mb_m) (f1 : (Nat → Option Nat)) (x1 x2 x3 x4 x5 : Int32) : Prop := PX7_book_54 N K KX M f1 x1 x2 x3 x4 x5 (0 : Int32)
set_option maxHeartbeats 4000000 in
set_option maxRecDepth 100000 in
theorem wX7_book_53 {p : Program} {l : Launch} {e : Env} {s : State} {m : MethodId} {below : List Frame} {meth : Method} {c : Code} {args : Array Value} {D : va_G} {Y : Nat → ClassId} {A : Nat → Prop} {o : Nat} {a : Nat → Nat} {N : Nat} {K : Int32 → (mb_m × (Nat → Option Nat) × Nat × (Nat → Nat) × (Nat → Nat) × (Nat → Nat) × (Nat → Nat) × mb_m × mb_m × mb_m × mb_m) → Prop} {KX : String → (mb_m × (Nat → Option Nat)) → Prop} (C : mb_CX l p s m meth c args cX7_book 7 (some .int) wsX7_book RX7 D Y A) : ∀ (M : mb_m) (f1 : (Nat → Option Nat)) (x1 x2 x3 x4 x5 : Int32) (H : Heap) (locs : List Loc) (ls : Array Slot), PX7_book_53 N K KX  M f1 x1 x2 x3 x4 x5 → va_P D vwCl (gw7 Y o a M ++ grB Y (a 2) f1) H → va_D A (gw7 Y o a M ++ grB Y (a 2) f1) → va_S A s.heap H locs → lv_has ls 7 [(0, .ref o), (1, .int x1), (2, .int x2), (3, .int x3), (4, .int x4), (5, .int x5)] → W p l e ({ frames := 7, cells := 14, slots := 369, locals := 110 } : Room) s m args below meth c H locs 1 6 (vx_MQ below (va_Qi K (fun u t => mb_T D A (gw7 Y o a (u.1) ++ grB Y (a 2) (u.2.1) ++ gw1 Y (u.2.2.1) (u.2.2.2.1) (u.2.2.2.2.2.2.2.1) ++ gw4 Y ((u.2.2.2.1) 0) (u.2.2.2.2.1) (u.2.2.2.2.2.2.2.2.1) ++ gw3 Y ((u.2.2.2.1) 1) (u.2.2.2.2.2.1) (u.2.2.2.2.2.2.2.2.2.1) ++ gw6 Y ((u.2.2.2.1) 2) (u.2.2.2.2.2.2.1) (u.2.2.2.2.2.2.2.2.2.2)) t) A) (mb_XC D A KX (fun u : mb_m × (Nat → Option Nat) => gw7 Y o a u.1 ++ grB Y (a 2) u.2)) args s 14 369 A) (F0 m 53 ls []) := by
  obtain ⟨⟨hx, hb, hr, hml, hts, hown, hlocks, hA, hG⟩, hT, hX, hl0⟩ := id C
  have hK := hG.1
  intro M f1 x1 x2 x3 x4 x5 H locs ls hF hP hD hS hl
  refine lv_iconst (v := 0) hx hb dX7_book_53 (by decide) ?_
  exact wX7_book_54 C M f1 x1 x2 x3 x4 x5 (0 : Int32) _ _ _ hF hP hD hS (lv_sub hl [0, 1, 2, 3, 4, 5] rfl)
noncomputable def PX7_book_25 (N : Nat) (K : Int32 → (mb_m × (Nat → Option Nat) × Nat × (Nat → Nat) × (Nat → Nat) × (Nat → Nat) × (Nat → Nat) × mb_m × mb_m × mb_m × mb_m) → Prop) (KX : String → (mb_m × (Nat → Option Nat)) → Prop) (M : mb_m) (f1 : (Nat → Option Nat)) (x1 x2 x3 x4 x5 y0 : Int32) : Prop := PX7_demandArgument N y0 (fun _ => PX7_isWithin N x3 (3 : Int32) (6 : Int32) (fun r32 _ => (r32 = 0 → PX7_book_53 N K KX M f1 x1 x2 x3 x4 x5) ∧ (¬ r32 = 0 → PX7_isWithin N x4 (1 : Int32) (9 : Int32) (fun r43 _ => (r43 = 0 → PX7_book_53 N K KX M f1 x1 x2 x3 x4 x5) ∧ (¬ r43 = 0 → PX7_book_54 N K KX M f1 x1 x2 x3 x4 x5 (1 : Int32)))))) (fun E _ => KX E (M, f1))
set_option maxHeartbeats 4000000 in
set_option maxRecDepth 100000 in
theorem wX7_book_25 {p : Program} {l : Launch} {e : Env} {s : State} {m : MethodId} {below : List Frame} {meth : Method} {c : Code} {args : Array Value} {D : va_G} {Y : Nat → ClassId} {A : Nat → Prop} {o : Nat} {a : Nat → Nat} {N : Nat} {K : Int32 → (mb_m × (Nat → Option Nat) × Nat × (Nat → Nat) × (Nat → Nat) × (Nat → Nat) × (Nat → Nat) × mb_m × mb_m × mb_m × mb_m) → Prop} {KX : String → (mb_m × (Nat → Option Nat)) → Prop} (C : mb_CX l p s m meth c args cX7_book 7 (some .int) wsX7_book RX7 D Y A) : ∀ (M : mb_m) (f1 : (Nat → Option Nat)) (x1 x2 x3 x4 x5 y0 : Int32) (H : Heap) (locs : List Loc) (ls : Array Slot), PX7_book_25 N K KX  M f1 x1 x2 x3 x4 x5 y0 → va_P D vwCl (gw7 Y o a M ++ grB Y (a 2) f1) H → va_D A (gw7 Y o a M ++ grB Y (a 2) f1) → va_S A s.heap H locs → lv_has ls 7 [(0, .ref o), (1, .int x1), (2, .int x2), (3, .int x3), (4, .int x4), (5, .int x5)] → W p l e ({ frames := 7, cells := 14, slots := 369, locals := 110 } : Room) s m args below meth c H locs 0 0 (vx_MQ below (va_Qi K (fun u t => mb_T D A (gw7 Y o a (u.1) ++ grB Y (a 2) (u.2.1) ++ gw1 Y (u.2.2.1) (u.2.2.2.1) (u.2.2.2.2.2.2.2.1) ++ gw4 Y ((u.2.2.2.1) 0) (u.2.2.2.2.1) (u.2.2.2.2.2.2.2.2.1) ++ gw3 Y ((u.2.2.2.1) 1) (u.2.2.2.2.2.1) (u.2.2.2.2.2.2.2.2.2.1) ++ gw6 Y ((u.2.2.2.1) 2) (u.2.2.2.2.2.2.1) (u.2.2.2.2.2.2.2.2.2.2)) t) A) (mb_XC D A KX (fun u : mb_m × (Nat → Option Nat) => gw7 Y o a u.1 ++ grB Y (a 2) u.2)) args s 14 369 A) (F0 m 25 ls [.int y0]) := by
  obtain ⟨⟨hx, hb, hr, hml, hts, hown, hlocks, hA, hG⟩, hT, hX, hl0⟩ := id C
  have hK := hG.1
  intro M f1 x1 x2 x3 x4 x5 y0 H locs ls hF hP hD hS hl
  refine mbx_cEv (S := mb_m × (Nat → Option Nat)) (wf := fun u => gw7 Y o a u.1 ++ grB Y (a 2) u.2) C (M, f1) hP hD hS (vx_runS (As := [.int y0]) (rest := []) ⟨hx, hb, hml, hown, hts⟩ (cnX7_demandArgument l C.2.2.2 D Y N _ y0 _ _ hF) (va_cwS 1 hts gX7_book_X7_demandArgument rfl rfl rfl (by decide +kernel) ⟨Nat.le_of_ble_eq_true rfl, Nat.le_of_ble_eq_true rfl⟩) (mbx_preS C mb_P0 mb_D0 hS) rfl rfl hl.1 rfl (lv_room (Nat.le_of_ble_eq_true rfl)) dX7_book_25 ⟨Nat.le_of_ble_eq_true rfl, Nat.le_of_ble_eq_true rfl⟩) (Nat.le_of_ble_eq_true rfl) (Nat.le_of_ble_eq_true rfl) (fun H locs hF hP hS => ?_)
  refine lv_iload_n hx hb dX7_book_28 rfl (lv_at hl 3 rfl) ?_
  refine lv_iconst (v := 3) hx hb dX7_book_29 (by decide) ?_
  refine lv_bipush (v := 6) hx hb dX7_book_30 (by decide) ?_
  refine mb_cE hP hS hA (va_runS (As := [.int x3, .int (3 : Int32), .int (6 : Int32)]) (rest := []) ⟨hx, hb, hml, hown, hts⟩ (cnX7_isWithin l D Y N _ x3 (3 : Int32) (6 : Int32) _ hF) (va_cwS 3 hts gX7_book_X7_isWithin rfl rfl rfl (by decide +kernel) ⟨Nat.le_of_ble_eq_true rfl, Nat.le_of_ble_eq_true rfl⟩) (mb_preS (A := A) hG mb_P0 mb_D0) rfl rfl hl.1 rfl (lv_room (Nat.le_of_ble_eq_true rfl)) dX7_book_32 ⟨Nat.le_of_ble_eq_true rfl, Nat.le_of_ble_eq_true rfl⟩) (fun r32 H locs hF hP hS => ?_)
  refine lv_if_eq (tgt := 53) hx hb dX7_book_35 (by decide) (fun c_35 => ?_) (fun c_35 => ?_)
  · have hF := hF.1 c_35
    exact wX7_book_53 C M f1 x1 x2 x3 x4 x5 _ _ _ hF hP hD hS (lv_sub hl [0, 1, 2, 3, 4, 5] rfl)
  · have hF := hF.2 c_35
    refine lv_iload hx hb dX7_book_38 (lv_at hl 4 rfl) ?_
    refine lv_iconst (v := 1) hx hb dX7_book_40 (by decide) ?_
    refine lv_bipush (v := 9) hx hb dX7_book_41 (by decide) ?_
    refine mb_cE hP hS hA (va_runS (As := [.int x4, .int (1 : Int32), .int (9 : Int32)]) (rest := []) ⟨hx, hb, hml, hown, hts⟩ (cnX7_isWithin l D Y N _ x4 (1 : Int32) (9 : Int32) _ hF) (va_cwS 3 hts gX7_book_X7_isWithin rfl rfl rfl (by decide +kernel) ⟨Nat.le_of_ble_eq_true rfl, Nat.le_of_ble_eq_true rfl⟩) (mb_preS (A := A) hG mb_P0 mb_D0) rfl rfl hl.1 rfl (lv_room (Nat.le_of_ble_eq_true rfl)) dX7_book_43 ⟨Nat.le_of_ble_eq_true rfl, Nat.le_of_ble_eq_true rfl⟩) (fun r43 H locs hF hP hS => ?_)
    refine lv_if_eq (tgt := 53) hx hb dX7_book_46 (by decide) (fun c_46 => ?_) (fun c_46 => ?_)
    · have hF := hF.1 c_46
      exact wX7_book_53 C M f1 x1 x2 x3 x4 x5 _ _ _ hF hP hD hS (lv_sub hl [0, 1, 2, 3, 4, 5] rfl)
    · have hF := hF.2 c_46
      refine lv_iconst (v := 1) hx hb dX7_book_49 (by decide) ?_
      refine lv_goto (tgt := 54) hx hb dX7_book_50 (by decide) ?_
      exact wX7_book_54 C M f1 x1 x2 x3 x4 x5 (1 : Int32) _ _ _ hF hP hD hS (lv_sub hl [0, 1, 2, 3, 4, 5] rfl)
noncomputable def PX7_book_24 (N : Nat) (K : Int32 → (mb_m × (Nat → Option Nat) × Nat × (Nat → Nat) × (Nat → Nat) × (Nat → Nat) × (Nat → Nat) × mb_m × mb_m × mb_m × mb_m) → Prop) (KX : String → (mb_m × (Nat → Option Nat)) → Prop) (M : mb_m) (f1 : (Nat → Option Nat)) (x1 x2 x3 x4 x5 : Int32) : Prop := PX7_book_25 N K KX M f1 x1 x2 x3 x4 x5 (0 : Int32)
set_option maxHeartbeats 4000000 in
set_option maxRecDepth 100000 in
theorem wX7_book_24 {p : Program} {l : Launch} {e : Env} {s : State} {m : MethodId} {below : List Frame} {meth : Method} {c : Code} {args : Array Value} {D : va_G} {Y : Nat → ClassId} {A : Nat → Prop} {o : Nat} {a : Nat → Nat} {N : Nat} {K : Int32 → (mb_m × (Nat → Option Nat) × Nat × (Nat → Nat) × (Nat → Nat) × (Nat → Nat) × (Nat → Nat) × mb_m × mb_m × mb_m × mb_m) → Prop} {KX : String → (mb_m × (Nat → Option Nat)) → Prop} (C : mb_CX l p s m meth c args cX7_book 7 (some .int) wsX7_book RX7 D Y A) : ∀ (M : mb_m) (f1 : (Nat → Option Nat)) (x1 x2 x3 x4 x5 : Int32) (H : Heap) (locs : List Loc) (ls : Array Slot), PX7_book_24 N K KX  M f1 x1 x2 x3 x4 x5 → va_P D vwCl (gw7 Y o a M ++ grB Y (a 2) f1) H → va_D A (gw7 Y o a M ++ grB Y (a 2) f1) → va_S A s.heap H locs → lv_has ls 7 [(0, .ref o), (1, .int x1), (2, .int x2), (3, .int x3), (4, .int x4), (5, .int x5)] → W p l e ({ frames := 7, cells := 14, slots := 369, locals := 110 } : Room) s m args below meth c H locs 0 0 (vx_MQ below (va_Qi K (fun u t => mb_T D A (gw7 Y o a (u.1) ++ grB Y (a 2) (u.2.1) ++ gw1 Y (u.2.2.1) (u.2.2.2.1) (u.2.2.2.2.2.2.2.1) ++ gw4 Y ((u.2.2.2.1) 0) (u.2.2.2.2.1) (u.2.2.2.2.2.2.2.2.1) ++ gw3 Y ((u.2.2.2.1) 1) (u.2.2.2.2.2.1) (u.2.2.2.2.2.2.2.2.2.1) ++ gw6 Y ((u.2.2.2.1) 2) (u.2.2.2.2.2.2.1) (u.2.2.2.2.2.2.2.2.2.2)) t) A) (mb_XC D A KX (fun u : mb_m × (Nat → Option Nat) => gw7 Y o a u.1 ++ grB Y (a 2) u.2)) args s 14 369 A) (F0 m 24 ls []) := by
  obtain ⟨⟨hx, hb, hr, hml, hts, hown, hlocks, hA, hG⟩, hT, hX, hl0⟩ := id C
  have hK := hG.1
  intro M f1 x1 x2 x3 x4 x5 H locs ls hF hP hD hS hl
  refine lv_iconst (v := 0) hx hb dX7_book_24 (by decide) ?_
  exact wX7_book_25 C M f1 x1 x2 x3 x4 x5 (0 : Int32) _ _ _ hF hP hD hS (lv_sub hl [0, 1, 2, 3, 4, 5] rfl)
noncomputable def PX7_book (N : Nat) (M : mb_m) (f1 : (Nat → Option Nat)) (x1 x2 x3 x4 x5 : Int32) (K : Int32 → (mb_m × (Nat → Option Nat) × Nat × (Nat → Nat) × (Nat → Nat) × (Nat → Nat) × (Nat → Nat) × mb_m × mb_m × mb_m × mb_m) → Prop) (KX : String → (mb_m × (Nat → Option Nat)) → Prop) : Prop := PX7_isWithin N x1 (1 : Int32) (8 : Int32) (fun r4 _ => (r4 = 0 → PX7_book_24 N K KX M f1 x1 x2 x3 x4 x5) ∧ (¬ r4 = 0 → PX7_isWithin N x2 (2 : Int32) (16 : Int32) (fun r14 _ => (r14 = 0 → PX7_book_24 N K KX M f1 x1 x2 x3 x4 x5) ∧ (¬ r14 = 0 → PX7_book_25 N K KX M f1 x1 x2 x3 x4 x5 (1 : Int32)))))
set_option maxHeartbeats 4000000 in
set_option maxRecDepth 100000 in
theorem cnX7_book (l : Launch) (hl0 : l.stackTraces = false) (D : va_G) (Y : Nat → ClassId) (N : Nat) (o : Nat) (a : Nat → Nat) (M : mb_m) (f1 : (Nat → Option Nat)) (sz : Nat) (x1 x2 x3 x4 x5 : Int32) (K : Int32 → (mb_m × (Nat → Option Nat) × Nat × (Nat → Nat) × (Nat → Nat) × (Nat → Nat) × (Nat → Nat) × mb_m × mb_m × mb_m × mb_m) → Prop) (KX : String → (mb_m × (Nat → Option Nat)) → Prop) (hF : PX7_book N M f1 x1 x2 x3 x4 x5 K KX) : vx_Met l yX7_book wsX7_book ({ frames := 7, cells := 14, slots := 369, locals := 110 } : Room) (va_Pc [.ref o, .int x1, .int x2, .int x3, .int x4, .int x5] (mb_BX D Y (gw7 Y o a M ++ grB Y (a 2) f1) sz)) (va_Qi K (fun u t => mb_T D (va_A (gw7 Y o a M ++ grB Y (a 2) f1) sz) (gw7 Y o a (u.1) ++ grB Y (a 2) (u.2.1) ++ gw1 Y (u.2.2.1) (u.2.2.2.1) (u.2.2.2.2.2.2.2.1) ++ gw4 Y ((u.2.2.2.1) 0) (u.2.2.2.2.1) (u.2.2.2.2.2.2.2.2.1) ++ gw3 Y ((u.2.2.2.1) 1) (u.2.2.2.2.2.1) (u.2.2.2.2.2.2.2.2.2.1) ++ gw6 Y ((u.2.2.2.1) 2) (u.2.2.2.2.2.2.1) (u.2.2.2.2.2.2.2.2.2.2)) t) (va_A (gw7 Y o a M ++ grB Y (a 2) f1) sz)) (mb_XC D (va_A (gw7 Y o a M ++ grB Y (a 2) f1) sz) KX (fun u : mb_m × (Nat → Option Nat) => gw7 Y o a u.1 ++ grB Y (a 2) u.2)) 14 369 (va_A (gw7 Y o a M ++ grB Y (a 2) f1) sz) := by
  refine mbx_begin (cc := cX7_book) (maxL := 7) (ret := (some .int)) hl0 (by decide +kernel) rfl (Nat.le_of_ble_eq_true rfl) ?_
  intro p e s m below meth c ls C hsz hnm hP hD hl
  generalize hAe : va_A (gw7 Y o a M ++ grB Y (a 2) f1) sz = A at C hD ⊢
  have C : mb_CX l p s m meth c ([.ref o, .int x1, .int x2, .int x3, .int x4, .int x5] : List Value).toArray cX7_book 7 (some .int) wsX7_book RX7 D Y A := C
  obtain ⟨⟨hx, hb, hr, hml, hts, hown, hlocks, hA, hG⟩, hT, hX, hl0⟩ := id C
  have hK := hG.1
  have hS : va_S A s.heap s.heap [] := va_S.rf
  have hl : lv_has ls 7 [(0, .ref o), (1, .int x1), (2, .int x2), (3, .int x3), (4, .int x4), (5, .int x5)] := hl
  refine lv_iload_n hx hb dX7_book_0 rfl (lv_at hl 1 rfl) ?_
  refine lv_iconst (v := 1) hx hb dX7_book_1 (by decide) ?_
  refine lv_bipush (v := 8) hx hb dX7_book_2 (by decide) ?_
  refine mb_cE hP hS hA (va_runS (As := [.int x1, .int (1 : Int32), .int (8 : Int32)]) (rest := []) ⟨hx, hb, hml, hown, hts⟩ (cnX7_isWithin l D Y N _ x1 (1 : Int32) (8 : Int32) _ hF) (va_cwS 3 hts gX7_book_X7_isWithin rfl rfl rfl (by decide +kernel) ⟨Nat.le_of_ble_eq_true rfl, Nat.le_of_ble_eq_true rfl⟩) (mb_preS (A := A) hG mb_P0 mb_D0) rfl rfl hl.1 rfl (lv_room (Nat.le_of_ble_eq_true rfl)) dX7_book_4 ⟨Nat.le_of_ble_eq_true rfl, Nat.le_of_ble_eq_true rfl⟩) (fun r4 H locs hF hP hS => ?_)
  refine lv_if_eq (tgt := 24) hx hb dX7_book_7 (by decide) (fun c_7 => ?_) (fun c_7 => ?_)
  · have hF := hF.1 c_7
    exact wX7_book_24 C M f1 x1 x2 x3 x4 x5 _ _ _ hF hP hD hS (lv_sub hl [0, 1, 2, 3, 4, 5] rfl)
  · have hF := hF.2 c_7
    refine lv_iload_n hx hb dX7_book_10 rfl (lv_at hl 2 rfl) ?_
    refine lv_iconst (v := 2) hx hb dX7_book_11 (by decide) ?_
    refine lv_bipush (v := 16) hx hb dX7_book_12 (by decide) ?_
    refine mb_cE hP hS hA (va_runS (As := [.int x2, .int (2 : Int32), .int (16 : Int32)]) (rest := []) ⟨hx, hb, hml, hown, hts⟩ (cnX7_isWithin l D Y N _ x2 (2 : Int32) (16 : Int32) _ hF) (va_cwS 3 hts gX7_book_X7_isWithin rfl rfl rfl (by decide +kernel) ⟨Nat.le_of_ble_eq_true rfl, Nat.le_of_ble_eq_true rfl⟩) (mb_preS (A := A) hG mb_P0 mb_D0) rfl rfl hl.1 rfl (lv_room (Nat.le_of_ble_eq_true rfl)) dX7_book_14 ⟨Nat.le_of_ble_eq_true rfl, Nat.le_of_ble_eq_true rfl⟩) (fun r14 H locs hF hP hS => ?_)
    refine lv_if_eq (tgt := 24) hx hb dX7_book_17 (by decide) (fun c_17 => ?_) (fun c_17 => ?_)
    · have hF := hF.1 c_17
      exact wX7_book_24 C M f1 x1 x2 x3 x4 x5 _ _ _ hF hP hD hS (lv_sub hl [0, 1, 2, 3, 4, 5] rfl)
    · have hF := hF.2 c_17
      refine lv_iconst (v := 1) hx hb dX7_book_20 (by decide) ?_
      refine lv_goto (tgt := 25) hx hb dX7_book_21 (by decide) ?_
      exact wX7_book_25 C M f1 x1 x2 x3 x4 x5 (1 : Int32) _ _ _ hF hP hD hS (lv_sub hl [0, 1, 2, 3, 4, 5] rfl)
end
section
noncomputable def PX7_lift_14 (N : Nat) (K : Int32 → (mb_m × mb_m × (Nat → Option Nat) × Nat × (Nat → Nat) × mb_m) → Prop) (KX : String → (mb_m × mb_m × (Nat → Option Nat)) → Prop) (M : mb_m) (M_1 : mb_m) (f2 : (Nat → Option Nat)) (y0 : Int32) : Prop := PX7_demandState N y0 (fun _ => ∀ v21 : Int32, v21 = (M 4 0) → (PX0_press N M_1 (fun r31 u31 => r31 = u31.2.1 ∧ (vp_in v21 10 ∧ (∀ f34 : Nat → Option Nat, f34 = va_up f2 v21.toNatClampNeg (some u31.2.1) → (∀ v42 : Int32, v42 = ((M 4 0) + (1 : Int32)) → (∀ M42 : mb_m, M42 = mb_u M 4 (mb_c v42) → (PX0_fade N u31.1 (fun M49 => K v21 (M42, M49, f34, u31.2.1, u31.2.2.1, u31.2.2.2)))))))))) (fun E _ => KX E (M, M_1, f2))
set_option maxHeartbeats 4000000 in
set_option maxRecDepth 100000 in
theorem wX7_lift_14 {p : Program} {l : Launch} {e : Env} {s : State} {m : MethodId} {below : List Frame} {meth : Method} {c : Code} {args : Array Value} {D : va_G} {Y : Nat → ClassId} {A : Nat → Prop} {o : Nat} {a : Nat → Nat} {a1 : Nat → Nat} {N : Nat} {K : Int32 → (mb_m × mb_m × (Nat → Option Nat) × Nat × (Nat → Nat) × mb_m) → Prop} {KX : String → (mb_m × mb_m × (Nat → Option Nat)) → Prop} (C : mb_CX l p s m meth c args cX7_lift 2 (some .int) wsX7_lift RX7 D Y A) : ∀ (M : mb_m) (M_1 : mb_m) (f2 : (Nat → Option Nat)) (y0 : Int32) (H : Heap) (locs : List Loc) (ls : Array Slot), PX7_lift_14 N K KX  M M_1 f2 y0 → va_P D vwCl (gw7 Y o a M ++ gw0 Y (a 0) a1 M_1 ++ grP Y (a 1) f2) H → va_D A (gw7 Y o a M ++ gw0 Y (a 0) a1 M_1 ++ grP Y (a 1) f2) → va_S A s.heap H locs → lv_has ls 2 [(0, .ref o)] → W p l e ({ frames := 7, cells := 3, slots := 71, locals := 110 } : Room) s m args below meth c H locs 0 0 (vx_MQ below (va_Qi K (fun u t => mb_T D A (gw7 Y o a (u.1) ++ gw0 Y (a 0) a1 (u.2.1) ++ grP Y (a 1) (u.2.2.1) ++ gw2 Y (u.2.2.2.1) (u.2.2.2.2.1) (u.2.2.2.2.2)) t) A) (mb_XC D A KX (fun u : mb_m × mb_m × (Nat → Option Nat) => gw7 Y o a u.1 ++ gw0 Y (a 0) a1 u.2.1 ++ grP Y (a 1) u.2.2)) args s 3 71 A) (F0 m 14 ls [.int y0]) := by
  obtain ⟨⟨hx, hb, hr, hml, hts, hown, hlocks, hA, hG⟩, hT, hX, hl0⟩ := id C
  have hK := hG.1
  intro M M_1 f2 y0 H locs ls hF hP hD hS hl
  refine mbx_cEv (S := mb_m × mb_m × (Nat → Option Nat)) (wf := fun u => gw7 Y o a u.1 ++ gw0 Y (a 0) a1 u.2.1 ++ grP Y (a 1) u.2.2) C (M, M_1, f2) hP hD hS (vx_runS (As := [.int y0]) (rest := []) ⟨hx, hb, hml, hown, hts⟩ (cnX7_demandState l C.2.2.2 D Y N _ y0 _ _ hF) (va_cwS 1 hts gX7_lift_X7_demandState rfl rfl rfl (by decide +kernel) ⟨Nat.le_of_ble_eq_true rfl, Nat.le_of_ble_eq_true rfl⟩) (mbx_preS C mb_P0 mb_D0 hS) rfl rfl hl.1 rfl (lv_room (Nat.le_of_ble_eq_true rfl)) dX7_lift_14 ⟨Nat.le_of_ble_eq_true rfl, Nat.le_of_ble_eq_true rfl⟩) (Nat.le_of_ble_eq_true rfl) (Nat.le_of_ble_eq_true rfl) (fun H locs hF hP hS => ?_)
  have hP : va_P D vwCl (gw7 Y o a M ++ gw0 Y (a 0) a1 M_1 ++ grP Y (a 1) f2) H := hP
  have hD : va_D A (gw7 Y o a M ++ gw0 Y (a 0) a1 M_1 ++ grP Y (a 1) f2) := hD
  refine lv_aload_n hx hb dX7_lift_17 rfl (lv_at hl 0 rfl) ?_
  refine va_get (D := D) (ci := 7) (v := .int (M 4 0)) (C := RX7) (T := TX7) (N := 7) hx hb hts (fun _ h9 => List.mem_cons_of_mem _ (List.mem_append_left _ (List.mem_append_left _ (List.mem_append_left _ (List.mem_append_right _ (h9)))))) hown hK hP 0 rfl rfl 4 (by decide) (hts (.fieldLink RX7 61 "MarbleBench" "printCount" "I") (List.mem_of_getElem? (i := 1) rfl)) (fun _ h9 => h9) rfl dX7_lift_18 ?_
  refine lv_topi (fun v21 ev21 => ?_)
  have hF := hF v21 ev21
  refine lv_istore_n (lv' := [(1, .int v21), (0, .ref o)]) hx hb dX7_lift_21 rfl hl (by decide) rfl (fun ls hl => ?_)
  refine lv_aload_n hx hb dX7_lift_22 rfl (lv_at hl 1 rfl) ?_
  refine va_get (D := D) (ci := 7) (v := .ref (a 1)) (C := RX7) (T := TX7) (N := 7) hx hb hts (fun _ h9 => List.mem_cons_of_mem _ (List.mem_append_left _ (List.mem_append_left _ (List.mem_append_left _ (List.mem_append_right _ (h9)))))) hown hK hP 0 rfl rfl 1 (by decide) (hts (.fieldLink RX7 18 "MarbleBench" "prints" "[LMarbleBench$Print;") (List.mem_of_getElem? (i := 2) rfl)) (fun _ h9 => h9) rfl dX7_lift_23 ?_
  refine lv_iload_n hx hb dX7_lift_26 rfl (lv_at hl 0 rfl) ?_
  refine lv_aload_n hx hb dX7_lift_27 rfl (lv_at hl 1 rfl) ?_
  refine va_get (D := D) (ci := 7) (v := .ref (a 0)) (C := RX7) (T := TX7) (N := 7) hx hb hts (fun _ h9 => List.mem_cons_of_mem _ (List.mem_append_left _ (List.mem_append_left _ (List.mem_append_left _ (List.mem_append_right _ (h9)))))) hown hK hP 0 rfl rfl 0 (by decide) (hts (.fieldLink RX7 12 "MarbleBench" "bath" "LMarbleBench$Bath;") (List.mem_of_getElem? (i := 3) rfl)) (fun _ h9 => h9) rfl dX7_lift_28 ?_
  have hPc := hP.sub (ws' := gw0 Y (a 0) a1 M_1) [1, 2, 3, 4, 5, 6] rfl
  have hDc := hD.sub (ws' := gw0 Y (a 0) a1 M_1) [1, 2, 3, 4, 5, 6] (by decide) rfl
  refine mb_cPr (wc := gw0 Y (a 0) a1 M_1) (wr := gw7 Y o a M ++ grP Y (a 1) f2) hP hD hS hA [1, 2, 3, 4, 5, 6] [0, 7] rfl rfl (by decide) (by decide) (va_runV (As := []) (rest := [.int v21, .ref (a 1)]) ⟨hx, hb, hml, hown, hts⟩ (cnX0_press l D Y N (a 0) a1 M_1 _ _ hF) (cwV 0 hts gX7_lift_X0_press rfl rfl rfl (by decide +kernel) ⟨Nat.le_of_ble_eq_true rfl, Nat.le_of_ble_eq_true rfl⟩) (mb_preV hG hPc hDc 0 rfl rfl) rfl rfl hl.1 rfl (lv_room (Nat.le_of_ble_eq_true rfl)) dX7_lift_31 ⟨Nat.le_of_ble_eq_true rfl, Nat.le_of_ble_eq_true rfl⟩) (fun r31 u31 H locs hF hP hD hS => ?_)
  obtain ⟨hq31, hF⟩ := hF
  rw [hq31]
  have hP : va_P D vwCl (gw7 Y o a M ++ grP Y (a 1) f2 ++ gw0 Y (a 0) a1 u31.1 ++ gw2 Y u31.2.1 u31.2.2.1 u31.2.2.2) H := hP
  have hD : va_D A (gw7 Y o a M ++ grP Y (a 1) f2 ++ gw0 Y (a 0) a1 u31.1 ++ gw2 Y u31.2.1 u31.2.2.1 u31.2.2.2) := hD
  obtain ⟨hi34, hF⟩ := hF
  refine va_astq (r := (RX2, TX2, 1)) hx hb hK hP hD hS 1 3 8 2 rfl rfl rfl rfl hi34 dX7_lift_34 (fun H locs hP hD hS => ?_)
  have hP : va_P D vwCl (gw7 Y o a M ++ grP Y (a 1) (va_up f2 v21.toNatClampNeg (some u31.2.1)) ++ gw0 Y (a 0) a1 u31.1 ++ gw2 Y u31.2.1 u31.2.2.1 u31.2.2.2) H := hP
  have hD : va_D A (gw7 Y o a M ++ grP Y (a 1) (va_up f2 v21.toNatClampNeg (some u31.2.1)) ++ gw0 Y (a 0) a1 u31.1 ++ gw2 Y u31.2.1 u31.2.2.1 u31.2.2.2) := hD
  generalize ef34 : va_up f2 v21.toNatClampNeg (some u31.2.1) = f34 at hP hD
  have hF := hF f34 ef34.symm
  refine lv_aload_n hx hb dX7_lift_35 rfl (lv_at hl 1 rfl) ?_
  refine lv_dup hx hb dX7_lift_36 rfl ?_
  refine va_get (D := D) (ci := 7) (v := .int (M 4 0)) (C := RX7) (T := TX7) (N := 7) hx hb hts (fun _ h9 => List.mem_cons_of_mem _ (List.mem_append_left _ (List.mem_append_left _ (List.mem_append_left _ (List.mem_append_right _ (h9)))))) hown hK hP 0 rfl rfl 4 (by decide) (hts (.fieldLink RX7 61 "MarbleBench" "printCount" "I") (List.mem_of_getElem? (i := 1) rfl)) (fun _ h9 => h9) rfl dX7_lift_37 ?_
  refine lv_iconst (v := 1) hx hb dX7_lift_40 (by decide) ?_
  refine lv_iadd hx hb dX7_lift_41 ?_
  refine lv_topi (fun v42 ev42 => ?_)
  have hF := hF v42 ev42
  refine va_put (D := D) (ci := 7) (v := .int v42) (ty := .int) (C := RX7) (T := TX7) (N := 7) hx hb hts (fun _ h9 => List.mem_cons_of_mem _ (List.mem_append_left _ (List.mem_append_left _ (List.mem_append_left _ (List.mem_append_right _ (h9)))))) tyX7 tyX7_ok nmX7 hown hK hP hD hS 0 rfl rfl 4 (by decide) (hts (.fieldLink RX7 61 "MarbleBench" "printCount" "I") (List.mem_of_getElem? (i := 1) rfl)) (fun _ h9 => h9) rfl (by decide +kernel) rfl rfl (Nat.le_of_ble_eq_true rfl) dX7_lift_42 (fun H locs hP hD hS => ?_)
  have hP : va_P D vwCl (gw7 Y o a (mb_u M 4 (mb_c v42)) ++ grP Y (a 1) f34 ++ gw0 Y (a 0) a1 u31.1 ++ gw2 Y u31.2.1 u31.2.2.1 u31.2.2.2) H := hP
  have hD : va_D A (gw7 Y o a (mb_u M 4 (mb_c v42)) ++ grP Y (a 1) f34 ++ gw0 Y (a 0) a1 u31.1 ++ gw2 Y u31.2.1 u31.2.2.1 u31.2.2.2) := hD
  generalize eM42 : mb_u M 4 (mb_c v42) = M42 at hP hD
  have hF := hF M42 eM42.symm
  refine lv_aload_n hx hb dX7_lift_45 rfl (lv_at hl 1 rfl) ?_
  refine va_get (D := D) (ci := 7) (v := .ref (a 0)) (C := RX7) (T := TX7) (N := 7) hx hb hts (fun _ h9 => List.mem_cons_of_mem _ (List.mem_append_left _ (List.mem_append_left _ (List.mem_append_left _ (List.mem_append_right _ (h9)))))) hown hK hP 0 rfl rfl 0 (by decide) (hts (.fieldLink RX7 12 "MarbleBench" "bath" "LMarbleBench$Bath;") (List.mem_of_getElem? (i := 3) rfl)) (fun _ h9 => h9) rfl dX7_lift_46 ?_
  have hPc := hP.sub (ws' := gw0 Y (a 0) a1 u31.1) [2, 3, 4, 5, 6, 7] rfl
  have hDc := hD.sub (ws' := gw0 Y (a 0) a1 u31.1) [2, 3, 4, 5, 6, 7] (by decide) rfl
  refine mb_cPv (wc := gw0 Y (a 0) a1 u31.1) (wr := gw7 Y o a M42 ++ grP Y (a 1) f34 ++ gw2 Y u31.2.1 u31.2.2.1 u31.2.2.2) hP hD hS hA [2, 3, 4, 5, 6, 7] [0, 1, 8, 9] rfl rfl (by decide) (by decide) (va_runV (As := []) (rest := []) ⟨hx, hb, hml, hown, hts⟩ (cnX0_fade l D Y N (a 0) a1 u31.1 _ _ hF) (cwV 0 hts gX7_lift_X0_fade rfl rfl rfl (by decide +kernel) ⟨Nat.le_of_ble_eq_true rfl, Nat.le_of_ble_eq_true rfl⟩) (mb_preV hG hPc hDc 0 rfl rfl) rfl rfl hl.1 rfl (lv_room (Nat.le_of_ble_eq_true rfl)) dX7_lift_49 ⟨Nat.le_of_ble_eq_true rfl, Nat.le_of_ble_eq_true rfl⟩) (fun M49 H locs hF hP hD hS => ?_)
  have hP : va_P D vwCl (gw7 Y o a M42 ++ grP Y (a 1) f34 ++ gw2 Y u31.2.1 u31.2.2.1 u31.2.2.2 ++ gw0 Y (a 0) a1 M49) H := hP
  have hD : va_D A (gw7 Y o a M42 ++ grP Y (a 1) f34 ++ gw2 Y u31.2.1 u31.2.2.1 u31.2.2.2 ++ gw0 Y (a 0) a1 M49) := hD
  refine lv_iload_n hx hb dX7_lift_52 rfl (lv_at hl 0 rfl) ?_
  have hP := hP.sub (ws' := gw7 Y o a M42 ++ gw0 Y (a 0) a1 M49 ++ grP Y (a 1) f34 ++ gw2 Y u31.2.1 u31.2.2.1 u31.2.2.2) [0, 4, 5, 6, 7, 8, 9, 1, 2, 3] rfl
  have hD := hD.sub (ws' := gw7 Y o a M42 ++ gw0 Y (a 0) a1 M49 ++ grP Y (a 1) f34 ++ gw2 Y u31.2.1 u31.2.2.1 u31.2.2.2) [0, 4, 5, 6, 7, 8, 9, 1, 2, 3] (by decide) rfl
  exact vx_ret (mb_ri (S := mb_m × mb_m × (Nat → Option Nat) × Nat × (Nat → Nat) × mb_m) (mc := 3) (ms := 71) (wf := fun u => gw7 Y o a (u.1) ++ gw0 Y (a 0) a1 (u.2.1) ++ grP Y (a 1) (u.2.2.1) ++ gw2 Y (u.2.2.2.1) (u.2.2.2.2.1) (u.2.2.2.2.2)) C.1 rfl (u := (M42, M49, f34, u31.2.1, u31.2.2.1, u31.2.2.2)) hF hP hD hS dX7_lift_53 (Nat.le_of_ble_eq_true rfl) (Nat.le_of_ble_eq_true rfl))
noncomputable def PX7_lift (N : Nat) (M : mb_m) (M_1 : mb_m) (f2 : (Nat → Option Nat)) (K : Int32 → (mb_m × mb_m × (Nat → Option Nat) × Nat × (Nat → Nat) × mb_m) → Prop) (KX : String → (mb_m × mb_m × (Nat → Option Nat)) → Prop) : Prop := ((10 : Int32) ≤ (M 4 0) → PX7_lift_14 N K KX M M_1 f2 (0 : Int32)) ∧ (¬ (10 : Int32) ≤ (M 4 0) → PX7_lift_14 N K KX M M_1 f2 (1 : Int32))
set_option maxHeartbeats 4000000 in
set_option maxRecDepth 100000 in
theorem cnX7_lift (l : Launch) (hl0 : l.stackTraces = false) (D : va_G) (Y : Nat → ClassId) (N : Nat) (o : Nat) (a : Nat → Nat) (M : mb_m) (a1 : Nat → Nat) (M_1 : mb_m) (f2 : (Nat → Option Nat)) (sz : Nat) (K : Int32 → (mb_m × mb_m × (Nat → Option Nat) × Nat × (Nat → Nat) × mb_m) → Prop) (KX : String → (mb_m × mb_m × (Nat → Option Nat)) → Prop) (hF : PX7_lift N M M_1 f2  K KX) : vx_Met l yX7_lift wsX7_lift ({ frames := 7, cells := 3, slots := 71, locals := 110 } : Room) (va_Pc [.ref o] (mb_BX D Y (gw7 Y o a M ++ gw0 Y (a 0) a1 M_1 ++ grP Y (a 1) f2) sz)) (va_Qi K (fun u t => mb_T D (va_A (gw7 Y o a M ++ gw0 Y (a 0) a1 M_1 ++ grP Y (a 1) f2) sz) (gw7 Y o a (u.1) ++ gw0 Y (a 0) a1 (u.2.1) ++ grP Y (a 1) (u.2.2.1) ++ gw2 Y (u.2.2.2.1) (u.2.2.2.2.1) (u.2.2.2.2.2)) t) (va_A (gw7 Y o a M ++ gw0 Y (a 0) a1 M_1 ++ grP Y (a 1) f2) sz)) (mb_XC D (va_A (gw7 Y o a M ++ gw0 Y (a 0) a1 M_1 ++ grP Y (a 1) f2) sz) KX (fun u : mb_m × mb_m × (Nat → Option Nat) => gw7 Y o a u.1 ++ gw0 Y (a 0) a1 u.2.1 ++ grP Y (a 1) u.2.2)) 3 71 (va_A (gw7 Y o a M ++ gw0 Y (a 0) a1 M_1 ++ grP Y (a 1) f2) sz) := by
  refine mbx_begin (cc := cX7_lift) (maxL := 2) (ret := (some .int)) hl0 (by decide +kernel) rfl (Nat.le_of_ble_eq_true rfl) ?_
  intro p e s m below meth c ls C hsz hnm hP hD hl
  generalize hAe : va_A (gw7 Y o a M ++ gw0 Y (a 0) a1 M_1 ++ grP Y (a 1) f2) sz = A at C hD ⊢
  have C : mb_CX l p s m meth c ([.ref o] : List Value).toArray cX7_lift 2 (some .int) wsX7_lift RX7 D Y A := C
  obtain ⟨⟨hx, hb, hr, hml, hts, hown, hlocks, hA, hG⟩, hT, hX, hl0⟩ := id C
  have hK := hG.1
  have hS : va_S A s.heap s.heap [] := va_S.rf
  have hl : lv_has ls 2 [(0, .ref o)] := hl
  refine lv_aload_n hx hb dX7_lift_0 rfl (lv_at hl 0 rfl) ?_
  refine va_get (D := D) (ci := 7) (v := .int (M 4 0)) (C := RX7) (T := TX7) (N := 7) hx hb hts (fun _ h9 => List.mem_cons_of_mem _ (List.mem_append_left _ (List.mem_append_left _ (List.mem_append_left _ (List.mem_append_right _ (h9)))))) hown hK hP 0 rfl rfl 4 (by decide) (hts (.fieldLink RX7 61 "MarbleBench" "printCount" "I") (List.mem_of_getElem? (i := 1) rfl)) (fun _ h9 => h9) rfl dX7_lift_1 ?_
  refine lv_bipush (v := 10) hx hb dX7_lift_4 (by decide) ?_
  refine lv_icmp_ge (tgt := 13) hx hb dX7_lift_6 (by decide) (fun c_6 => ?_) (fun c_6 => ?_)
  · have hF := hF.1 c_6
    refine lv_iconst (v := 0) hx hb dX7_lift_13 (by decide) ?_
    exact wX7_lift_14 C M M_1 f2 (0 : Int32) _ _ _ hF hP hD hS (lv_sub hl [0] rfl)
  · have hF := hF.2 c_6
    refine lv_iconst (v := 1) hx hb dX7_lift_9 (by decide) ?_
    refine lv_goto (tgt := 14) hx hb dX7_lift_10 (by decide) ?_
    exact wX7_lift_14 C M M_1 f2 (1 : Int32) _ _ _ hF hP hD hS (lv_sub hl [0] rfl)
end
