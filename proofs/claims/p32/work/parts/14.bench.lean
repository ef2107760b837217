def grP (Y : Nat → ClassId) (q : Nat) (f : Nat → Option Nat) : va_W := [(q, .inl (Y 3, 10, .inr (.inr (.inr (.inr f)))))]
def grB (Y : Nat → ClassId) (q : Nat) (f : Nat → Option Nat) : va_W := [(q, .inl (Y 4, 4, .inr (.inr (.inr (.inr f)))))]
def grS (Y : Nat → ClassId) (q : Nat) (f : Nat → Option Nat) : va_W := [(q, .inl (Y 5, 3, .inr (.inr (.inr (.inr f)))))]
def gw7 (Y : Nat → ClassId) (o : Nat) (a : Nat → Nat) (M : mb_m) : va_W := [(o, .inr (7, [.ref (a 0), .ref (a 1), .ref (a 2), .ref (a 3), .int (M 4 0), .int (M 5 0), .int (M 6 0)]))]
theorem mb_h2_261 : ∀ w ∈ (vx_atS RX7 261 "java/lang/IndexOutOfBoundsException" mb_names).filter (fun w => !goodWord w), w ∈ mb_nw := by decide +kernel
theorem mb_hg_261 : ∀ w ∈ Cond.classLink RX7 257 "java/lang/IndexOutOfBoundsException" :: Cond.initialized "java/lang/IndexOutOfBoundsException" :: vx_atS RX7 261 "java/lang/IndexOutOfBoundsException" mb_names, vx_ot w = true := by decide +kernel
theorem mb_h2_268 : ∀ w ∈ (vx_atS RX7 268 "java/lang/IllegalArgumentException" mb_names).filter (fun w => !goodWord w), w ∈ mb_nw := by decide +kernel
theorem mb_hg_268 : ∀ w ∈ Cond.classLink RX7 264 "java/lang/IllegalArgumentException" :: Cond.initialized "java/lang/IllegalArgumentException" :: vx_atS RX7 268 "java/lang/IllegalArgumentException" mb_names, vx_ot w = true := by decide +kernel
theorem mb_h2_273 : ∀ w ∈ (vx_atS RX7 273 "java/lang/IllegalStateException" mb_names).filter (fun w => !goodWord w), w ∈ mb_nw := by decide +kernel
theorem mb_hg_273 : ∀ w ∈ Cond.classLink RX7 269 "java/lang/IllegalStateException" :: Cond.initialized "java/lang/IllegalStateException" :: vx_atS RX7 273 "java/lang/IllegalStateException" mb_names, vx_ot w = true := by decide +kernel

section
noncomputable def PX7_demandPlace (N : Nat) (x0 : Int32) (K : Unit → Prop) (KX : String → Unit → Prop) : Prop := (¬ x0 = 0 → K ()) ∧ (x0 = 0 → KX "java/lang/IndexOutOfBoundsException" ())
set_option maxHeartbeats 4000000 in
set_option maxRecDepth 100000 in
theorem cnX7_demandPlace (l : Launch) (hl0 : l.stackTraces = false) (D : va_G) (Y : Nat → ClassId) (N : Nat) (sz : Nat) (x0 : Int32) (K : Unit → Prop) (KX : String → Unit → Prop) (hF : PX7_demandPlace N x0 K KX) : vx_Met l yX7_demandPlace wsX7_demandPlace ({ frames := 6, cells := 1, slots := 6, locals := 90 } : Room) (va_Pc [.int x0] (mb_BX D Y (([] : va_W)) sz)) (va_Qv K (fun u t => mb_T D (va_A (([] : va_W)) sz) ([]) t) (va_A (([] : va_W)) sz)) (mb_XC D (va_A (([] : va_W)) sz) KX (fun u : Unit => [])) 1 6 (va_A (([] : va_W)) sz) := by
  refine mbx_begin (cc := cX7_demandPlace) (maxL := 1) (ret := none) hl0 (by decide +kernel) rfl (Nat.le_of_ble_eq_true rfl) ?_
  intro p e s m below meth c ls C hsz hnm hP hD hl
  generalize hAe : va_A (([] : va_W)) sz = A at C hD ⊢
  have C : mb_CX l p s m meth c ([.int x0] : List Value).toArray cX7_demandPlace 1 none wsX7_demandPlace RX7 D Y A := C
  obtain ⟨⟨hx, hb, hr, hml, hts, hown, hlocks, hA, hG⟩, hT, hX, hl0⟩ := id C
  have hK := hG.1
  have hS : va_S A s.heap s.heap [] := va_S.rf
  have hl : lv_has ls 1 [(0, .int x0)] := hl
  refine lv_iload_n hx hb dX7_demandPlace_0 rfl (lv_at hl 0 rfl) ?_
  refine lv_if_ne (tgt := 15) hx hb dX7_demandPlace_1 (by decide) (fun c_1 => ?_) (fun c_1 => ?_)
  · have hF := hF.1 c_1
    refine vx_ret ?_
    exact mb_rv (S := Unit) (mc := 1) (ms := 6) (wf := fun u => []) C.1 (u := ()) hF hP hD hS dX7_demandPlace_15 (Nat.le_of_ble_eq_true rfl) (Nat.le_of_ble_eq_true rfl)
  · have hF := hF.2 c_1
    exact mbx_throw (S := Unit) (wf := fun u => []) (cls := "java/lang/IndexOutOfBoundsException") (text := "there is no such place") (ik := 257) (is := 259) (ic := 261) (mc := 1) (ms := 6) C (by decide +kernel) (List.mem_of_getElem? (i := 1) rfl) (List.mem_of_getElem? (i := 2) rfl) (List.mem_of_getElem? (i := 0) rfl) (fun _ h9 => List.mem_cons_of_mem _ (List.mem_append_right _ (h9))) mb_h2_261 mb_hg_261 (u := ()) hF hP hD hS hl.1 dX7_demandPlace_4 dX7_demandPlace_7 dX7_demandPlace_8 dX7_demandPlace_11 dX7_demandPlace_14 (Nat.le_of_ble_eq_true rfl) (Nat.le_of_ble_eq_true rfl) (Nat.le_of_ble_eq_true rfl) (Nat.le_of_ble_eq_true rfl) (Nat.le_of_ble_eq_true rfl) (Nat.le_of_ble_eq_true rfl)
end
section
noncomputable def PX7_demandArgument (N : Nat) (x0 : Int32) (K : Unit → Prop) (KX : String → Unit → Prop) : Prop := (¬ x0 = 0 → K ()) ∧ (x0 = 0 → KX "java/lang/IllegalArgumentException" ())
set_option maxHeartbeats 4000000 in
set_option maxRecDepth 100000 in
theorem cnX7_demandArgument (l : Launch) (hl0 : l.stackTraces = false) (D : va_G) (Y : Nat → ClassId) (N : Nat) (sz : Nat) (x0 : Int32) (K : Unit → Prop) (KX : String → Unit → Prop) (hF : PX7_demandArgument N x0 K KX) : vx_Met l yX7_demandArgument wsX7_demandArgument ({ frames := 6, cells := 1, slots := 6, locals := 90 } : Room) (va_Pc [.int x0] (mb_BX D Y (([] : va_W)) sz)) (va_Qv K (fun u t => mb_T D (va_A (([] : va_W)) sz) ([]) t) (va_A (([] : va_W)) sz)) (mb_XC D (va_A (([] : va_W)) sz) KX (fun u : Unit => [])) 1 6 (va_A (([] : va_W)) sz) := by
  refine mbx_begin (cc := cX7_demandArgument) (maxL := 1) (ret := none) hl0 (by decide +kernel) rfl (Nat.le_of_ble_eq_true rfl) ?_
  intro p e s m below meth c ls C hsz hnm hP hD hl
  generalize hAe : va_A (([] : va_W)) sz = A at C hD ⊢
  have C : mb_CX l p s m meth c ([.int x0] : List Value).toArray cX7_demandArgument 1 none wsX7_demandArgument RX7 D Y A := C
  obtain ⟨⟨hx, hb, hr, hml, hts, hown, hlocks, hA, hG⟩, hT, hX, hl0⟩ := id C
  have hK := hG.1
  have hS : va_S A s.heap s.heap [] := va_S.rf
  have hl : lv_has ls 1 [(0, .int x0)] := hl
  refine lv_iload_n hx hb dX7_demandArgument_0 rfl (lv_at hl 0 rfl) ?_
  refine lv_if_ne (tgt := 15) hx hb dX7_demandArgument_1 (by decide) (fun c_1 => ?_) (fun c_1 => ?_)
  · have hF := hF.1 c_1
    refine vx_ret ?_
    exact mb_rv (S := Unit) (mc := 1) (ms := 6) (wf := fun u => []) C.1 (u := ()) hF hP hD hS dX7_demandArgument_15 (Nat.le_of_ble_eq_true rfl) (Nat.le_of_ble_eq_true rfl)
  · have hF := hF.2 c_1
    exact mbx_throw (S := Unit) (wf := fun u => []) (cls := "java/lang/IllegalArgumentException") (text := "an argument is out of its range") (ik := 264) (is := 266) (ic := 268) (mc := 1) (ms := 6) C (by decide +kernel) (List.mem_of_getElem? (i := 1) rfl) (List.mem_of_getElem? (i := 2) rfl) (List.mem_of_getElem? (i := 1) rfl) (fun _ h9 => List.mem_cons_of_mem _ (List.mem_append_right _ (h9))) mb_h2_268 mb_hg_268 (u := ()) hF hP hD hS hl.1 dX7_demandArgument_4 dX7_demandArgument_7 dX7_demandArgument_8 dX7_demandArgument_11 dX7_demandArgument_14 (Nat.le_of_ble_eq_true rfl) (Nat.le_of_ble_eq_true rfl) (Nat.le_of_ble_eq_true rfl) (Nat.le_of_ble_eq_true rfl) (Nat.le_of_ble_eq_true rfl) (Nat.le_of_ble_eq_true rfl)
end
section
noncomputable def PX7_demandState (N : Nat) (x0 : Int32) (K : Unit → Prop) (KX : String → Unit → Prop) : Prop := (¬ x0 = 0 → K ()) ∧ (x0 = 0 → KX "java/lang/IllegalStateException" ())
set_option maxHeartbeats 4000000 in
set_option maxRecDepth 100000 in
theorem cnX7_demandState (l : Launch) (hl0 : l.stackTraces = false) (D : va_G) (Y : Nat → ClassId) (N : Nat) (sz : Nat) (x0 : Int32) (K : Unit → Prop) (KX : String → Unit → Prop) (hF : PX7_demandState N x0 K KX) : vx_Met l yX7_demandState wsX7_demandState ({ frames := 6, cells := 1, slots := 6, locals := 90 } : Room) (va_Pc [.int x0] (mb_BX D Y (([] : va_W)) sz)) (va_Qv K (fun u t => mb_T D (va_A (([] : va_W)) sz) ([]) t) (va_A (([] : va_W)) sz)) (mb_XC D (va_A (([] : va_W)) sz) KX (fun u : Unit => [])) 1 6 (va_A (([] : va_W)) sz) := by
  refine mbx_begin (cc := cX7_demandState) (maxL := 1) (ret := none) hl0 (by decide +kernel) rfl (Nat.le_of_ble_eq_true rfl) ?_
  intro p e s m below meth c ls C hsz hnm hP hD hl
  generalize hAe : va_A (([] : va_W)) sz = A at C hD ⊢
  have C : mb_CX l p s m meth c ([.int x0] : List Value).toArray cX7_demandState 1 none wsX7_demandState RX7 D Y A := C
  obtain ⟨⟨hx, hb, hr, hml, hts, hown, hlocks, hA, hG⟩, hT, hX, hl0⟩ := id C
  have hK := hG.1
  have hS : va_S A s.heap s.heap [] := va_S.rf
  have hl : lv_has ls 1 [(0, .int x0)] := hl
  refine lv_iload_n hx hb dX7_demandState_0 rfl (lv_at hl 0 rfl) ?_
  refine lv_if_ne (tgt := 15) hx hb dX7_demandState_1 (by decide) (fun c_1 => ?_) (fun c_1 => ?_)
  · have hF := hF.1 c_1
    refine vx_ret ?_
    exact mb_rv (S := Unit) (mc := 1) (ms := 6) (wf := fun u => []) C.1 (u := ()) hF hP hD hS dX7_demandState_15 (Nat.le_of_ble_eq_true rfl) (Nat.le_of_ble_eq_true rfl)
  · have hF := hF.2 c_1
    exact mbx_throw (S := Unit) (wf := fun u => []) (cls := "java/lang/IllegalStateException") (text := "this cannot be done now") (ik := 269) (is := 271) (ic := 273) (mc := 1) (ms := 6) C (by decide +kernel) (List.mem_of_getElem? (i := 1) rfl) (List.mem_of_getElem? (i := 2) rfl) (List.mem_of_getElem? (i := 2) rfl) (fun _ h9 => List.mem_cons_of_mem _ (List.mem_append_right _ (h9))) mb_h2_273 mb_hg_273 (u := ()) hF hP hD hS hl.1 dX7_demandState_4 dX7_demandState_7 dX7_demandState_8 dX7_demandState_11 dX7_demandState_14 (Nat.le_of_ble_eq_true rfl) (Nat.le_of_ble_eq_true rfl) (Nat.le_of_ble_eq_true rfl) (Nat.le_of_ble_eq_true rfl) (Nat.le_of_ble_eq_true rfl) (Nat.le_of_ble_eq_true rfl)
end
section
noncomputable def PX7_printOf (N : Nat) (M : mb_m) (f1 : (Nat → Option Nat)) (x1 : Int32) (K : Nat → (mb_m × (Nat → Option Nat)) → Prop) (KX : String → (mb_m × (Nat → Option Nat)) → Prop) : Prop := PX7_isWithin N x1 (0 : Int32) (9 : Int32) (fun r4 _ => (r4 = 0 → KX "java/lang/IndexOutOfBoundsException" (M, f1)) ∧ (¬ r4 = 0 → vp_in x1 10 ∧ (((f1 x1.toNatClampNeg) = none → KX "java/lang/IndexOutOfBoundsException" (M, f1)) ∧ (∀ b20 : Nat, (f1 x1.toNatClampNeg) = some b20 → K b20 (M, f1)))))
set_option maxHeartbeats 4000000 in
set_option maxRecDepth 100000 in
theorem cnX7_printOf (l : Launch) (hl0 : l.stackTraces = false) (D : va_G) (Y : Nat → ClassId) (N : Nat) (o : Nat) (a : Nat → Nat) (M : mb_m) (f1 : (Nat → Option Nat)) (sz : Nat) (x1 : Int32) (K : Nat → (mb_m × (Nat → Option Nat)) → Prop) (KX : String → (mb_m × (Nat → Option Nat)) → Prop) (hF : PX7_printOf N M f1 x1 K KX) : vx_Met l yX7_printOf wsX7_printOf ({ frames := 6, cells := 1, slots := 6, locals := 90 } : Room) (va_Pc [.ref o, .int x1] (mb_BX D Y (gw7 Y o a M ++ grP Y (a 1) f1) sz)) (va_Qr (fun _ : mb_m × (Nat → Option Nat) => True) (fun u r t => K r u ∧ mb_T D (va_A (gw7 Y o a M ++ grP Y (a 1) f1) sz) (gw7 Y o a u.1 ++ grP Y (a 1) u.2) t) (va_A (gw7 Y o a M ++ grP Y (a 1) f1) sz)) (mb_XC D (va_A (gw7 Y o a M ++ grP Y (a 1) f1) sz) KX (fun u : mb_m × (Nat → Option Nat) => gw7 Y o a u.1 ++ grP Y (a 1) u.2)) 1 6 (va_A (gw7 Y o a M ++ grP Y (a 1) f1) sz) := by
  refine mbx_begin (cc := cX7_printOf) (maxL := 3) (ret := (some (.object "MarbleBench$Print"))) hl0 (by decide +kernel) rfl (Nat.le_of_ble_eq_true rfl) ?_
  intro p e s m below meth c ls C hsz hnm hP hD hl
  generalize hAe : va_A (gw7 Y o a M ++ grP Y (a 1) f1) sz = A at C hD ⊢
  have C : mb_CX l p s m meth c ([.ref o, .int x1] : List Value).toArray cX7_printOf 3 (some (.object "MarbleBench$Print")) wsX7_printOf RX7 D Y A := C
  obtain ⟨⟨hx, hb, hr, hml, hts, hown, hlocks, hA, hG⟩, hT, hX, hl0⟩ := id C
  have hK := hG.1
  have hS : va_S A s.heap s.heap [] := va_S.rf
  have hl : lv_has ls 3 [(0, .ref o), (1, .int x1)] := hl
  refine lv_iload_n hx hb dX7_printOf_0 rfl (lv_at hl 1 rfl) ?_
  refine lv_iconst (v := 0) hx hb dX7_printOf_1 (by decide) ?_
  refine lv_bipush (v := 9) hx hb dX7_printOf_2 (by decide) ?_
  refine mb_cE hP hS hA (va_runS (As := [.int x1, .int (0 : Int32), .int (9 : Int32)]) (rest := []) ⟨hx, hb, hml, hown, hts⟩ (cnX7_isWithin l D Y N _ x1 (0 : Int32) (9 : Int32) _ hF) (va_cwS 3 hts gX7_printOf_X7_isWithin rfl rfl rfl (by decide +kernel) ⟨Nat.le_of_ble_eq_true rfl, Nat.le_of_ble_eq_true rfl⟩) (mb_preS (A := A) hG mb_P0 mb_D0) rfl rfl hl.1 rfl (lv_room (Nat.le_of_ble_eq_true rfl)) dX7_printOf_4 ⟨Nat.le_of_ble_eq_true rfl, Nat.le_of_ble_eq_true rfl⟩) (fun r4 H locs hF hP hS => ?_)
  refine lv_if_eq (tgt := 19) hx hb dX7_printOf_7 (by decide) (fun c_7 => ?_) (fun c_7 => ?_)
  · have hF := hF.1 c_7
    refine lv_null hx hb dX7_printOf_19 ?_
    refine lv_astore_nN (lv' := [(2, .null), (0, .ref o), (1, .int x1)]) hx hb dX7_printOf_20 rfl hl (by decide) rfl (fun ls hl => ?_)
    refine lv_aload_nN hx hb dX7_printOf_21 rfl (lv_at hl 0 rfl) ?_
    refine lv_ifnonnullN hx hb dX7_printOf_22 ?_
    exact mbx_throw (S := mb_m × (Nat → Option Nat)) (wf := fun u => gw7 Y o a u.1 ++ grP Y (a 1) u.2) (cls := "java/lang/IndexOutOfBoundsException") (text := "there is no such print") (ik := 257) (is := 274) (ic := 261) (mc := 1) (ms := 6) C (by decide +kernel) (List.mem_of_getElem? (i := 1) rfl) (List.mem_of_getElem? (i := 2) rfl) (List.mem_of_getElem? (i := 3) rfl) (fun _ h9 => List.mem_cons_of_mem _ (List.mem_append_right _ (h9))) mb_h2_261 mb_hg_261 (u := (M, f1)) hF hP hD hS hl.1 dX7_printOf_25 dX7_printOf_28 dX7_printOf_29 dX7_printOf_32 dX7_printOf_35 (Nat.le_of_ble_eq_true rfl) (Nat.le_of_ble_eq_true rfl) (Nat.le_of_ble_eq_true rfl) (Nat.le_of_ble_eq_true rfl) (Nat.le_of_ble_eq_true rfl) (Nat.le_of_ble_eq_true rfl)
  · have hF := hF.2 c_7
    refine lv_aload_n hx hb dX7_printOf_10 rfl (lv_at hl 0 rfl) ?_
    refine va_get (D := D) (ci := 7) (v := .ref (a 1)) (C := RX7) (T := TX7) (N := 7) hx hb hts (fun _ h9 => List.mem_cons_of_mem _ (List.mem_append_left _ (List.mem_append_right _ (h9)))) hown hK hP 0 rfl rfl 1 (by decide) (hts (.fieldLink RX7 18 "MarbleBench" "prints" "[LMarbleBench$Print;") (List.mem_of_getElem? (i := 3) rfl)) (fun _ h9 => h9) rfl dX7_printOf_11 ?_
    refine lv_iload_n hx hb dX7_printOf_14 rfl (lv_at hl 1 rfl) ?_
    obtain ⟨hi15, hF⟩ := hF
    refine va_aldq (C := "MarbleBench$Print") hx hb hK hP 1 3 rfl rfl hi15 dX7_printOf_15 ?_
    refine lv_goto (tgt := 20) hx hb dX7_printOf_16 (by decide) ?_
    rcases hy20 : (f1 x1.toNatClampNeg) with _ | b20
    · have hF := hF.1 hy20
      refine lv_astore_nN (lv' := [(2, .null), (0, .ref o), (1, .int x1)]) hx hb dX7_printOf_20 rfl hl (by decide) rfl (fun ls hl => ?_)
      refine lv_aload_nN hx hb dX7_printOf_21 rfl (lv_at hl 0 rfl) ?_
      refine lv_ifnonnullN hx hb dX7_printOf_22 ?_
      exact mbx_throw (S := mb_m × (Nat → Option Nat)) (wf := fun u => gw7 Y o a u.1 ++ grP Y (a 1) u.2) (cls := "java/lang/IndexOutOfBoundsException") (text := "there is no such print") (ik := 257) (is := 274) (ic := 261) (mc := 1) (ms := 6) C (by decide +kernel) (List.mem_of_getElem? (i := 1) rfl) (List.mem_of_getElem? (i := 2) rfl) (List.mem_of_getElem? (i := 3) rfl) (fun _ h9 => List.mem_cons_of_mem _ (List.mem_append_right _ (h9))) mb_h2_261 mb_hg_261 (u := (M, f1)) hF hP hD hS hl.1 dX7_printOf_25 dX7_printOf_28 dX7_printOf_29 dX7_printOf_32 dX7_printOf_35 (Nat.le_of_ble_eq_true rfl) (Nat.le_of_ble_eq_true rfl) (Nat.le_of_ble_eq_true rfl) (Nat.le_of_ble_eq_true rfl) (Nat.le_of_ble_eq_true rfl) (Nat.le_of_ble_eq_true rfl)
    · have hF := hF.2 b20 hy20
      refine lv_astore_n (lv' := [(2, .ref b20), (0, .ref o), (1, .int x1)]) hx hb dX7_printOf_20 rfl hl (by decide) rfl (fun ls hl => ?_)
      refine lv_aload_n hx hb dX7_printOf_21 rfl (lv_at hl 0 rfl) ?_
      refine lv_ifnonnull (tgt := 36) hx hb dX7_printOf_22 (by decide) ?_
      refine lv_aload_n hx hb dX7_printOf_36 rfl (lv_at hl 0 rfl) ?_
      refine vx_ret ?_
      exact mb_ra (S := mb_m × (Nat → Option Nat)) (mc := 1) (ms := 6) (wf := fun u => gw7 Y o a u.1 ++ grP Y (a 1) u.2) C.1 (Or.inl ⟨_, rfl⟩) (u := (M, f1)) hF hP hD hS dX7_printOf_37 (Nat.le_of_ble_eq_true rfl) (Nat.le_of_ble_eq_true rfl)
end
section
noncomputable def PX7_bookOf (N : Nat) (M : mb_m) (f1 : (Nat → Option Nat)) (x1 : Int32) (K : Nat → (mb_m × (Nat → Option Nat)) → Prop) (KX : String → (mb_m × (Nat → Option Nat)) → Prop) : Prop := PX7_isWithin N x1 (0 : Int32) (3 : Int32) (fun r3 _ => (r3 = 0 → KX "java/lang/IndexOutOfBoundsException" (M, f1)) ∧ (¬ r3 = 0 → vp_in x1 4 ∧ (((f1 x1.toNatClampNeg) = none → KX "java/lang/IndexOutOfBoundsException" (M, f1)) ∧ (∀ b19 : Nat, (f1 x1.toNatClampNeg) = some b19 → K b19 (M, f1)))))
set_option maxHeartbeats 4000000 in
set_option maxRecDepth 100000 in
theorem cnX7_bookOf (l : Launch) (hl0 : l.stackTraces = false) (D : va_G) (Y : Nat → ClassId) (N : Nat) (o : Nat) (a : Nat → Nat) (M : mb_m) (f1 : (Nat → Option Nat)) (sz : Nat) (x1 : Int32) (K : Nat → (mb_m × (Nat → Option Nat)) → Prop) (KX : String → (mb_m × (Nat → Option Nat)) → Prop) (hF : PX7_bookOf N M f1 x1 K KX) : vx_Met l yX7_bookOf wsX7_bookOf ({ frames := 6, cells := 1, slots := 6, locals := 90 } : Room) (va_Pc [.ref o, .int x1] (mb_BX D Y (gw7 Y o a M ++ grB Y (a 2) f1) sz)) (va_Qr (fun _ : mb_m × (Nat → Option Nat) => True) (fun u r t => K r u ∧ mb_T D (va_A (gw7 Y o a M ++ grB Y (a 2) f1) sz) (gw7 Y o a u.1 ++ grB Y (a 2) u.2) t) (va_A (gw7 Y o a M ++ grB Y (a 2) f1) sz)) (mb_XC D (va_A (gw7 Y o a M ++ grB Y (a 2) f1) sz) KX (fun u : mb_m × (Nat → Option Nat) => gw7 Y o a u.1 ++ grB Y (a 2) u.2)) 1 6 (va_A (gw7 Y o a M ++ grB Y (a 2) f1) sz) := by
  refine mbx_begin (cc := cX7_bookOf) (maxL := 3) (ret := (some (.object "MarbleBench$Book"))) hl0 (by decide +kernel) rfl (Nat.le_of_ble_eq_true rfl) ?_
  intro p e s m below meth c ls C hsz hnm hP hD hl
  generalize hAe : va_A (gw7 Y o a M ++ grB Y (a 2) f1) sz = A at C hD ⊢
  have C : mb_CX l p s m meth c ([.ref o, .int x1] : List Value).toArray cX7_bookOf 3 (some (.object "MarbleBench$Book")) wsX7_bookOf RX7 D Y A := C
  obtain ⟨⟨hx, hb, hr, hml, hts, hown, hlocks, hA, hG⟩, hT, hX, hl0⟩ := id C
  have hK := hG.1
  have hS : va_S A s.heap s.heap [] := va_S.rf
  have hl : lv_has ls 3 [(0, .ref o), (1, .int x1)] := hl
  refine lv_iload_n hx hb dX7_bookOf_0 rfl (lv_at hl 1 rfl) ?_
  refine lv_iconst (v := 0) hx hb dX7_bookOf_1 (by decide) ?_
  refine lv_iconst (v := 3) hx hb dX7_bookOf_2 (by decide) ?_
  refine mb_cE hP hS hA (va_runS (As := [.int x1, .int (0 : Int32), .int (3 : Int32)]) (rest := []) ⟨hx, hb, hml, hown, hts⟩ (cnX7_isWithin l D Y N _ x1 (0 : Int32) (3 : Int32) _ hF) (va_cwS 3 hts gX7_bookOf_X7_isWithin rfl rfl rfl (by decide +kernel) ⟨Nat.le_of_ble_eq_true rfl, Nat.le_of_ble_eq_true rfl⟩) (mb_preS (A := A) hG mb_P0 mb_D0) rfl rfl hl.1 rfl (lv_room (Nat.le_of_ble_eq_true rfl)) dX7_bookOf_3 ⟨Nat.le_of_ble_eq_true rfl, Nat.le_of_ble_eq_true rfl⟩) (fun r3 H locs hF hP hS => ?_)
  refine lv_if_eq (tgt := 18) hx hb dX7_bookOf_6 (by decide) (fun c_6 => ?_) (fun c_6 => ?_)
  · have hF := hF.1 c_6
    refine lv_null hx hb dX7_bookOf_18 ?_
    refine lv_astore_nN (lv' := [(2, .null), (0, .ref o), (1, .int x1)]) hx hb dX7_bookOf_19 rfl hl (by decide) rfl (fun ls hl => ?_)
    refine lv_aload_nN hx hb dX7_bookOf_20 rfl (lv_at hl 0 rfl) ?_
    refine lv_ifnonnullN hx hb dX7_bookOf_21 ?_
    exact mbx_throw (S := mb_m × (Nat → Option Nat)) (wf := fun u => gw7 Y o a u.1 ++ grB Y (a 2) u.2) (cls := "java/lang/IndexOutOfBoundsException") (text := "there is no such book") (ik := 257) (is := 276) (ic := 261) (mc := 1) (ms := 6) C (by decide +kernel) (List.mem_of_getElem? (i := 1) rfl) (List.mem_of_getElem? (i := 2) rfl) (List.mem_of_getElem? (i := 4) rfl) (fun _ h9 => List.mem_cons_of_mem _ (List.mem_append_right _ (h9))) mb_h2_261 mb_hg_261 (u := (M, f1)) hF hP hD hS hl.1 dX7_bookOf_24 dX7_bookOf_27 dX7_bookOf_28 dX7_bookOf_31 dX7_bookOf_34 (Nat.le_of_ble_eq_true rfl) (Nat.le_of_ble_eq_true rfl) (Nat.le_of_ble_eq_true rfl) (Nat.le_of_ble_eq_true rfl) (Nat.le_of_ble_eq_true rfl) (Nat.le_of_ble_eq_true rfl)
  · have hF := hF.2 c_6
    refine lv_aload_n hx hb dX7_bookOf_9 rfl (lv_at hl 0 rfl) ?_
    refine va_get (D := D) (ci := 7) (v := .ref (a 2)) (C := RX7) (T := TX7) (N := 7) hx hb hts (fun _ h9 => List.mem_cons_of_mem _ (List.mem_append_left _ (List.mem_append_right _ (h9)))) hown hK hP 0 rfl rfl 2 (by decide) (hts (.fieldLink RX7 24 "MarbleBench" "books" "[LMarbleBench$Book;") (List.mem_of_getElem? (i := 3) rfl)) (fun _ h9 => h9) rfl dX7_bookOf_10 ?_
    refine lv_iload_n hx hb dX7_bookOf_13 rfl (lv_at hl 1 rfl) ?_
    obtain ⟨hi14, hF⟩ := hF
    refine va_aldq (C := "MarbleBench$Book") hx hb hK hP 1 4 rfl rfl hi14 dX7_bookOf_14 ?_
    refine lv_goto (tgt := 19) hx hb dX7_bookOf_15 (by decide) ?_
    rcases hy19 : (f1 x1.toNatClampNeg) with _ | b19
    · have hF := hF.1 hy19
      refine lv_astore_nN (lv' := [(2, .null), (0, .ref o), (1, .int x1)]) hx hb dX7_bookOf_19 rfl hl (by decide) rfl (fun ls hl => ?_)
      refine lv_aload_nN hx hb dX7_bookOf_20 rfl (lv_at hl 0 rfl) ?_
      refine lv_ifnonnullN hx hb dX7_bookOf_21 ?_
      exact mbx_throw (S := mb_m × (Nat → Option Nat)) (wf := fun u => gw7 Y o a u.1 ++ grB Y (a 2) u.2) (cls := "java/lang/IndexOutOfBoundsException") (text := "there is no such book") (ik := 257) (is := 276) (ic := 261) (mc := 1) (ms := 6) C (by decide +kernel) (List.mem_of_getElem? (i := 1) rfl) (List.mem_of_getElem? (i := 2) rfl) (List.mem_of_getElem? (i := 4) rfl) (fun _ h9 => List.mem_cons_of_mem _ (List.mem_append_right _ (h9))) mb_h2_261 mb_hg_261 (u := (M, f1)) hF hP hD hS hl.1 dX7_bookOf_24 dX7_bookOf_27 dX7_bookOf_28 dX7_bookOf_31 dX7_bookOf_34 (Nat.le_of_ble_eq_true rfl) (Nat.le_of_ble_eq_true rfl) (Nat.le_of_ble_eq_true rfl) (Nat.le_of_ble_eq_true rfl) (Nat.le_of_ble_eq_true rfl) (Nat.le_of_ble_eq_true rfl)
    · have hF := hF.2 b19 hy19
      refine lv_astore_n (lv' := [(2, .ref b19), (0, .ref o), (1, .int x1)]) hx hb dX7_bookOf_19 rfl hl (by decide) rfl (fun ls hl => ?_)
      refine lv_aload_n hx hb dX7_bookOf_20 rfl (lv_at hl 0 rfl) ?_
      refine lv_ifnonnull (tgt := 35) hx hb dX7_bookOf_21 (by decide) ?_
      refine lv_aload_n hx hb dX7_bookOf_35 rfl (lv_at hl 0 rfl) ?_
      refine vx_ret ?_
      exact mb_ra (S := mb_m × (Nat → Option Nat)) (mc := 1) (ms := 6) (wf := fun u => gw7 Y o a u.1 ++ grB Y (a 2) u.2) C.1 (Or.inl ⟨_, rfl⟩) (u := (M, f1)) hF hP hD hS dX7_bookOf_36 (Nat.le_of_ble_eq_true rfl) (Nat.le_of_ble_eq_true rfl)
end
section
noncomputable def PX7_skinOf (N : Nat) (M : mb_m) (f1 : (Nat → Option Nat)) (x1 : Int32) (K : Nat → (mb_m × (Nat → Option Nat)) → Prop) (KX : String → (mb_m × (Nat → Option Nat)) → Prop) : Prop := PX7_isWithin N x1 (0 : Int32) (2 : Int32) (fun r3 _ => (r3 = 0 → KX "java/lang/IndexOutOfBoundsException" (M, f1)) ∧ (¬ r3 = 0 → vp_in x1 3 ∧ (((f1 x1.toNatClampNeg) = none → KX "java/lang/IndexOutOfBoundsException" (M, f1)) ∧ (∀ b19 : Nat, (f1 x1.toNatClampNeg) = some b19 → K b19 (M, f1)))))
set_option maxHeartbeats 4000000 in
set_option maxRecDepth 100000 in
theorem cnX7_skinOf (l : Launch) (hl0 : l.stackTraces = false) (D : va_G) (Y : Nat → ClassId) (N : Nat) (o : Nat) (a : Nat → Nat) (M : mb_m) (f1 : (Nat → Option Nat)) (sz : Nat) (x1 : Int32) (K : Nat → (mb_m × (Nat → Option Nat)) → Prop) (KX : String → (mb_m × (Nat → Option Nat)) → Prop) (hF : PX7_skinOf N M f1 x1 K KX) : vx_Met l yX7_skinOf wsX7_skinOf ({ frames := 6, cells := 1, slots := 6, locals := 90 } : Room) (va_Pc [.ref o, .int x1] (mb_BX D Y (gw7 Y o a M ++ grS Y (a 3) f1) sz)) (va_Qr (fun _ : mb_m × (Nat → Option Nat) => True) (fun u r t => K r u ∧ mb_T D (va_A (gw7 Y o a M ++ grS Y (a 3) f1) sz) (gw7 Y o a u.1 ++ grS Y (a 3) u.2) t) (va_A (gw7 Y o a M ++ grS Y (a 3) f1) sz)) (mb_XC D (va_A (gw7 Y o a M ++ grS Y (a 3) f1) sz) KX (fun u : mb_m × (Nat → Option Nat) => gw7 Y o a u.1 ++ grS Y (a 3) u.2)) 1 6 (va_A (gw7 Y o a M ++ grS Y (a 3) f1) sz) := by
  refine mbx_begin (cc := cX7_skinOf) (maxL := 3) (ret := (some (.object "MarbleBench$Skin"))) hl0 (by decide +kernel) rfl (Nat.le_of_ble_eq_true rfl) ?_
  intro p e s m below meth c ls C hsz hnm hP hD hl
  generalize hAe : va_A (gw7 Y o a M ++ grS Y (a 3) f1) sz = A at C hD ⊢
  have C : mb_CX l p s m meth c ([.ref o, .int x1] : List Value).toArray cX7_skinOf 3 (some (.object "MarbleBench$Skin")) wsX7_skinOf RX7 D Y A := C
  obtain ⟨⟨hx, hb, hr, hml, hts, hown, hlocks, hA, hG⟩, hT, hX, hl0⟩ := id C
  have hK := hG.1
  have hS : va_S A s.heap s.heap [] := va_S.rf
  have hl : lv_has ls 3 [(0, .ref o), (1, .int x1)] := hl
  refine lv_iload_n hx hb dX7_skinOf_0 rfl (lv_at hl 1 rfl) ?_
  refine lv_iconst (v := 0) hx hb dX7_skinOf_1 (by decide) ?_
  refine lv_iconst (v := 2) hx hb dX7_skinOf_2 (by decide) ?_
  refine mb_cE hP hS hA (va_runS (As := [.int x1, .int (0 : Int32), .int (2 : Int32)]) (rest := []) ⟨hx, hb, hml, hown, hts⟩ (cnX7_isWithin l D Y N _ x1 (0 : Int32) (2 : Int32) _ hF) (va_cwS 3 hts gX7_skinOf_X7_isWithin rfl rfl rfl (by decide +kernel) ⟨Nat.le_of_ble_eq_true rfl, Nat.le_of_ble_eq_true rfl⟩) (mb_preS (A := A) hG mb_P0 mb_D0) rfl rfl hl.1 rfl (lv_room (Nat.le_of_ble_eq_true rfl)) dX7_skinOf_3 ⟨Nat.le_of_ble_eq_true rfl, Nat.le_of_ble_eq_true rfl⟩) (fun r3 H locs hF hP hS => ?_)
  refine lv_if_eq (tgt := 18) hx hb dX7_skinOf_6 (by decide) (fun c_6 => ?_) (fun c_6 => ?_)
  · have hF := hF.1 c_6
    refine lv_null hx hb dX7_skinOf_18 ?_
    refine lv_astore_nN (lv' := [(2, .null), (0, .ref o), (1, .int x1)]) hx hb dX7_skinOf_19 rfl hl (by decide) rfl (fun ls hl => ?_)
    refine lv_aload_nN hx hb dX7_skinOf_20 rfl (lv_at hl 0 rfl) ?_
    refine lv_ifnonnullN hx hb dX7_skinOf_21 ?_
    exact mbx_throw (S := mb_m × (Nat → Option Nat)) (wf := fun u => gw7 Y o a u.1 ++ grS Y (a 3) u.2) (cls := "java/lang/IndexOutOfBoundsException") (text := "there is no such skin") (ik := 257) (is := 278) (ic := 261) (mc := 1) (ms := 6) C (by decide +kernel) (List.mem_of_getElem? (i := 1) rfl) (List.mem_of_getElem? (i := 2) rfl) (List.mem_of_getElem? (i := 5) rfl) (fun _ h9 => List.mem_cons_of_mem _ (List.mem_append_right _ (h9))) mb_h2_261 mb_hg_261 (u := (M, f1)) hF hP hD hS hl.1 dX7_skinOf_24 dX7_skinOf_27 dX7_skinOf_28 dX7_skinOf_31 dX7_skinOf_34 (Nat.le_of_ble_eq_true rfl) (Nat.le_of_ble_eq_true rfl) (Nat.le_of_ble_eq_true rfl) (Nat.le_of_ble_eq_true rfl) (Nat.le_of_ble_eq_true rfl) (Nat.le_of_ble_eq_true rfl)
  · have hF := hF.2 c_6
    refine lv_aload_n hx hb dX7_skinOf_9 rfl (lv_at hl 0 rfl) ?_
    refine va_get (D := D) (ci := 7) (v := .ref (a 3)) (C := RX7) (T := TX7) (N := 7) hx hb hts (fun _ h9 => List.mem_cons_of_mem _ (List.mem_append_left _ (List.mem_append_right _ (h9)))) hown hK hP 0 rfl rfl 3 (by decide) (hts (.fieldLink RX7 30 "MarbleBench" "skins" "[LMarbleBench$Skin;") (List.mem_of_getElem? (i := 3) rfl)) (fun _ h9 => h9) rfl dX7_skinOf_10 ?_
    refine lv_iload_n hx hb dX7_skinOf_13 rfl (lv_at hl 1 rfl) ?_
    obtain ⟨hi14, hF⟩ := hF
    refine va_aldq (C := "MarbleBench$Skin") hx hb hK hP 1 5 rfl rfl hi14 dX7_skinOf_14 ?_
    refine lv_goto (tgt := 19) hx hb dX7_skinOf_15 (by decide) ?_
    rcases hy19 : (f1 x1.toNatClampNeg) with _ | b19
    · have hF := hF.1 hy19
      refine lv_astore_nN (lv' := [(2, .null), (0, .ref o), (1, .int x1)]) hx hb dX7_skinOf_19 rfl hl (by decide) rfl (fun ls hl => ?_)
      refine lv_aload_nN hx hb dX7_skinOf_20 rfl (lv_at hl 0 rfl) ?_
      refine lv_ifnonnullN hx hb dX7_skinOf_21 ?_
      exact mbx_throw (S := mb_m × (Nat → Option Nat)) (wf := fun u => gw7 Y o a u.1 ++ grS Y (a 3) u.2) (cls := "java/lang/IndexOutOfBoundsException") (text := "there is no such skin") (ik := 257) (is := 278) (ic := 261) (mc := 1) (ms := 6) C (by decide +kernel) (List.mem_of_getElem? (i := 1) rfl) (List.mem_of_getElem? (i := 2) rfl) (List.mem_of_getElem? (i := 5) rfl) (fun _ h9 => List.mem_cons_of_mem _ (List.mem_append_right _ (h9))) mb_h2_261 mb_hg_261 (u := (M, f1)) hF hP hD hS hl.1 dX7_skinOf_24 dX7_skinOf_27 dX7_skinOf_28 dX7_skinOf_31 dX7_skinOf_34 (Nat.le_of_ble_eq_true rfl) (Nat.le_of_ble_eq_true rfl) (Nat.le_of_ble_eq_true rfl) (Nat.le_of_ble_eq_true rfl) (Nat.le_of_ble_eq_true rfl) (Nat.le_of_ble_eq_true rfl)
    · have hF := hF.2 b19 hy19
      refine lv_astore_n (lv' := [(2, .ref b19), (0, .ref o), (1, .int x1)]) hx hb dX7_skinOf_19 rfl hl (by decide) rfl (fun ls hl => ?_)
      refine lv_aload_n hx hb dX7_skinOf_20 rfl (lv_at hl 0 rfl) ?_
      refine lv_ifnonnull (tgt := 35) hx hb dX7_skinOf_21 (by decide) ?_
      refine lv_aload_n hx hb dX7_skinOf_35 rfl (lv_at hl 0 rfl) ?_
      refine vx_ret ?_
      exact mb_ra (S := mb_m × (Nat → Option Nat)) (mc := 1) (ms := 6) (wf := fun u => gw7 Y o a u.1 ++ grS Y (a 3) u.2) C.1 (Or.inl ⟨_, rfl⟩) (u := (M, f1)) hF hP hD hS dX7_skinOf_36 (Nat.le_of_ble_eq_true rfl) (Nat.le_of_ble_eq_true rfl)
end
section
noncomputable def PX7_drop_33 (N : Nat) (K : Int32 → (mb_m × mb_m) → Prop) (KX : String → (mb_m × mb_m) → Prop) (M : mb_m) (M_1 : mb_m) (x1 x2 x3 x4 y0 : Int32) : Prop := PX7_demandArgument N y0 (fun _ => PX0_spread N M_1 x1 x2 x3 x4 (fun r45 u45 => K r45 (M, u45))) (fun E _ => KX E (M, M_1))
set_option maxHeartbeats 4000000 in
set_option maxRecDepth 100000 in
theorem wX7_drop_33 {p : Program} {l : Launch} {e : Env} {s : State} {m : MethodId} {below : List Frame} {meth : Method} {c : Code} {args : Array Value} {D : va_G} {Y : Nat → ClassId} {A : Nat → Prop} {o : Nat} {a : Nat → Nat} {a1 : Nat → Nat} {N : Nat} {K : Int32 → (mb_m × mb_m) → Prop} {KX : String → (mb_m × mb_m) → Prop} (C : mb_CX l p s m meth c args cX7_drop 5 (some .int) wsX7_drop RX7 D Y A) : ∀ (M : mb_m) (M_1 : mb_m) (x1 x2 x3 x4 y0 : Int32) (H : Heap) (locs : List Loc) (ls : Array Slot), PX7_drop_33 N K KX  M M_1 x1 x2 x3 x4 y0 → va_P D vwCl (gw7 Y o a M ++ gw0 Y (a 0) a1 M_1) H → va_D A (gw7 Y o a M ++ gw0 Y (a 0) a1 M_1) → va_S A s.heap H locs → lv_has ls 5 [(0, .ref o), (1, .int x1), (2, .int x2), (3, .int x3), (4, .int x4)] → W p l e ({ frames := 7, cells := 2, slots := 12, locals := 110 } : Room) s m args below meth c H locs 1 6 (vx_MQ below (va_Qi K (fun u t => mb_T D A (gw7 Y o a u.1 ++ gw0 Y (a 0) a1 u.2) t) A) (mb_XC D A KX (fun u : mb_m × mb_m => gw7 Y o a u.1 ++ gw0 Y (a 0) a1 u.2)) args s 2 12 A) (F0 m 33 ls [.int y0]) := by
  obtain ⟨⟨hx, hb, hr, hml, hts, hown, hlocks, hA, hG⟩, hT, hX, hl0⟩ := id C
  have hK := hG.1
  intro M M_1 x1 x2 x3 x4 y0 H locs ls hF hP hD hS hl
  refine mbx_cEv (S := mb_m × mb_m) (wf := fun u => gw7 Y o a u.1 ++ gw0 Y (a 0) a1 u.2) C (M, M_1) hP hD hS (vx_runS (As := [.int y0]) (rest := []) ⟨hx, hb, hml, hown, hts⟩ (cnX7_demandArgument l C.2.2.2 D Y N _ y0 _ _ hF) (va_cwS 1 hts gX7_drop_X7_demandArgument rfl rfl rfl (by decide +kernel) ⟨Nat.le_of_ble_eq_true rfl, Nat.le_of_ble_eq_true rfl⟩) (mbx_preS C mb_P0 mb_D0 hS) rfl rfl hl.1 rfl (lv_room (Nat.le_of_ble_eq_true rfl)) dX7_drop_33 ⟨Nat.le_of_ble_eq_true rfl, Nat.le_of_ble_eq_true rfl⟩) (Nat.le_of_ble_eq_true rfl) (Nat.le_of_ble_eq_true rfl) (fun H locs hF hP hS => ?_)
  refine lv_aload_n hx hb dX7_drop_36 rfl (lv_at hl 0 rfl) ?_
  refine va_get (D := D) (ci := 7) (v := .ref (a 0)) (C := RX7) (T := TX7) (N := 7) hx hb hts (fun _ h9 => List.mem_cons_of_mem _ (List.mem_append_left _ (List.mem_append_left _ (List.mem_append_left _ (List.mem_append_right _ (h9)))))) hown hK hP 0 rfl rfl 0 (by decide) (hts (.fieldLink RX7 12 "MarbleBench" "bath" "LMarbleBench$Bath;") (List.mem_of_getElem? (i := 1) rfl)) (fun _ h9 => h9) rfl dX7_drop_37 ?_
  refine lv_iload_n hx hb dX7_drop_40 rfl (lv_at hl 1 rfl) ?_
  refine lv_iload_n hx hb dX7_drop_41 rfl (lv_at hl 2 rfl) ?_
  refine lv_iload_n hx hb dX7_drop_42 rfl (lv_at hl 3 rfl) ?_
  refine lv_iload hx hb dX7_drop_43 (lv_at hl 4 rfl) ?_
  have hPc := hP.sub (ws' := gw0 Y (a 0) a1 M_1) [1, 2, 3, 4, 5, 6] rfl
  have hDc := hD.sub (ws' := gw0 Y (a 0) a1 M_1) [1, 2, 3, 4, 5, 6] (by decide) rfl
  refine mb_cP (wc := gw0 Y (a 0) a1 M_1) (wr := gw7 Y o a M) hP hD hS hA [1, 2, 3, 4, 5, 6] [0] rfl rfl (by decide) (by decide) (va_runV (As := [.int x1, .int x2, .int x3, .int x4]) (rest := []) ⟨hx, hb, hml, hown, hts⟩ (cnX0_spread l D Y N (a 0) a1 M_1 _ x1 x2 x3 x4 _ hF) (cwV 4 hts gX7_drop_X0_spread rfl rfl rfl (by decide +kernel) ⟨Nat.le_of_ble_eq_true rfl, Nat.le_of_ble_eq_true rfl⟩) (mb_preV hG hPc hDc 0 rfl rfl) rfl rfl hl.1 rfl (lv_room (Nat.le_of_ble_eq_true rfl)) dX7_drop_45 ⟨Nat.le_of_ble_eq_true rfl, Nat.le_of_ble_eq_true rfl⟩) (fun r45 u45 H locs hF hP hD hS => ?_)
  have hP := hP.sub (ws' := gw7 Y o a M ++ gw0 Y (a 0) a1 u45) [0, 1, 2, 3, 4, 5, 6] rfl
  have hD := hD.sub (ws' := gw7 Y o a M ++ gw0 Y (a 0) a1 u45) [0, 1, 2, 3, 4, 5, 6] (by decide) rfl
  refine vx_ret ?_
  exact mb_ri (S := mb_m × mb_m) (mc := 2) (ms := 12) (wf := fun u => gw7 Y o a u.1 ++ gw0 Y (a 0) a1 u.2) C.1 rfl (u := (M, u45)) hF hP hD hS dX7_drop_48 (Nat.le_of_ble_eq_true rfl) (Nat.le_of_ble_eq_true rfl)
noncomputable def PX7_drop_32 (N : Nat) (K : Int32 → (mb_m × mb_m) → Prop) (KX : String → (mb_m × mb_m) → Prop) (M : mb_m) (M_1 : mb_m) (x1 x2 x3 x4 : Int32) : Prop := PX7_drop_33 N K KX M M_1 x1 x2 x3 x4 (0 : Int32)
set_option maxHeartbeats 4000000 in
set_option maxRecDepth 100000 in
theorem wX7_drop_32 {p : Program} {l : Launch} {e : Env} {s : State} {m : MethodId} {below : List Frame} {meth : Method} {c : Code} {args : Array Value} {D : va_G} {Y : Nat → ClassId} {A : Nat → Prop} {o : Nat} {a : Nat → Nat} {a1 : Nat → Nat} {N : Nat} {K : Int32 → (mb_m × mb_m) → Prop} {KX : String → (mb_m × mb_m) → Prop} (C : mb_CX l p s m meth c args cX7_drop 5 (some .int) wsX7_drop RX7 D Y A) : ∀ (M : mb_m) (M_1 : mb_m) (x1 x2 x3 x4 : Int32) (H : Heap) (locs : List Loc) (ls : Array Slot), PX7_drop_32 N K KX  M M_1 x1 x2 x3 x4 → va_P D vwCl (gw7 Y o a M ++ gw0 Y (a 0) a1 M_1) H → va_D A (gw7 Y o a M ++ gw0 Y (a 0) a1 M_1) → va_S A s.heap H locs → lv_has ls 5 [(0, .ref o), (1, .int x1), (2, .int x2), (3, .int x3), (4, .int x4)] → W p l e ({ frames := 7, cells := 2, slots := 12, locals := 110 } : Room) s m args below meth c H locs 1 6 (vx_MQ below (va_Qi K (fun u t => mb_T D A (gw7 Y o a u.1 ++ gw0 Y (a 0) a1 u.2) t) A) (mb_XC D A KX (fun u : mb_m × mb_m => gw7 Y o a u.1 ++ gw0 Y (a 0) a1 u.2)) args s 2 12 A) (F0 m 32 ls []) := by
  obtain ⟨⟨hx, hb, hr, hml, hts, hown, hlocks, hA, hG⟩, hT, hX, hl0⟩ := id C
  have hK := hG.1
  intro M M_1 x1 x2 x3 x4 H locs ls hF hP hD hS hl
  refine lv_iconst (v := 0) hx hb dX7_drop_32 (by decide) ?_
  exact wX7_drop_33 C M M_1 x1 x2 x3 x4 (0 : Int32) _ _ _ hF hP hD hS (lv_sub hl [0, 1, 2, 3, 4] rfl)
noncomputable def PX7_drop (N : Nat) (M : mb_m) (M_1 : mb_m) (x1 x2 x3 x4 : Int32) (K : Int32 → (mb_m × mb_m) → Prop) (KX : String → (mb_m × mb_m) → Prop) : Prop := PX7_isOnGrid N x1 x2 (fun r2 _ => PX7_demandPlace N r2 (fun _ => PX7_isWithin N x3 (0 : Int32) (5 : Int32) (fun r11 _ => (r11 = 0 → PX7_drop_32 N K KX M M_1 x1 x2 x3 x4) ∧ (¬ r11 = 0 → PX7_isWithin N x4 (1 : Int32) (64 : Int32) (fun r22 _ => (r22 = 0 → PX7_drop_32 N K KX M M_1 x1 x2 x3 x4) ∧ (¬ r22 = 0 → PX7_drop_33 N K KX M M_1 x1 x2 x3 x4 (1 : Int32)))))) (fun E _ => KX E (M, M_1)))
set_option maxHeartbeats 4000000 in
set_option maxRecDepth 100000 in
theorem cnX7_drop (l : Launch) (hl0 : l.stackTraces = false) (D : va_G) (Y : Nat → ClassId) (N : Nat) (o : Nat) (a : Nat → Nat) (M : mb_m) (a1 : Nat → Nat) (M_1 : mb_m) (sz : Nat) (x1 x2 x3 x4 : Int32) (K : Int32 → (mb_m × mb_m) → Prop) (KX : String → (mb_m × mb_m) → Prop) (hF : PX7_drop N M M_1 x1 x2 x3 x4 K KX) : vx_Met l yX7_drop wsX7_drop ({ frames := 7, cells := 2, slots := 12, locals := 110 } : Room) (va_Pc [.ref o, .int x1, .int x2, .int x3, .int x4] (mb_BX D Y (gw7 Y o a M ++ gw0 Y (a 0) a1 M_1) sz)) (va_Qi K (fun u t => mb_T D (va_A (gw7 Y o a M ++ gw0 Y (a 0) a1 M_1) sz) (gw7 Y o a u.1 ++ gw0 Y (a 0) a1 u.2) t) (va_A (gw7 Y o a M ++ gw0 Y (a 0) a1 M_1) sz)) (mb_XC D (va_A (gw7 Y o a M ++ gw0 Y (a 0) a1 M_1) sz) KX (fun u : mb_m × mb_m => gw7 Y o a u.1 ++ gw0 Y (a 0) a1 u.2)) 2 12 (va_A (gw7 Y o a M ++ gw0 Y (a 0) a1 M_1) sz) := by
  refine mbx_begin (cc := cX7_drop) (maxL := 5) (ret := (some .int)) hl0 (by decide +kernel) rfl (Nat.le_of_ble_eq_true rfl) ?_
  intro p e s m below meth c ls C hsz hnm hP hD hl
  generalize hAe : va_A (gw7 Y o a M ++ gw0 Y (a 0) a1 M_1) sz = A at C hD ⊢
  have C : mb_CX l p s m meth c ([.ref o, .int x1, .int x2, .int x3, .int x4] : List Value).toArray cX7_drop 5 (some .int) wsX7_drop RX7 D Y A := C
  obtain ⟨⟨hx, hb, hr, hml, hts, hown, hlocks, hA, hG⟩, hT, hX, hl0⟩ := id C
  have hK := hG.1
  have hS : va_S A s.heap s.heap [] := va_S.rf
  have hl : lv_has ls 5 [(0, .ref o), (1, .int x1), (2, .int x2), (3, .int x3), (4, .int x4)] := hl
  refine lv_iload_n hx hb dX7_drop_0 rfl (lv_at hl 1 rfl) ?_
  refine lv_iload_n hx hb dX7_drop_1 rfl (lv_at hl 2 rfl) ?_
  refine mb_cE hP hS hA (va_runS (As := [.int x1, .int x2]) (rest := []) ⟨hx, hb, hml, hown, hts⟩ (cnX7_isOnGrid l D Y N _ x1 x2 _ hF) (va_cwS 2 hts gX7_drop_X7_isOnGrid rfl rfl rfl (by decide +kernel) ⟨Nat.le_of_ble_eq_true rfl, Nat.le_of_ble_eq_true rfl⟩) (mb_preS (A := A) hG mb_P0 mb_D0) rfl rfl hl.1 rfl (lv_room (Nat.le_of_ble_eq_true rfl)) dX7_drop_2 ⟨Nat.le_of_ble_eq_true rfl, Nat.le_of_ble_eq_true rfl⟩) (fun r2 H locs hF hP hS => ?_)
  refine mbx_cEv (S := mb_m × mb_m) (wf := fun u => gw7 Y o a u.1 ++ gw0 Y (a 0) a1 u.2) C (M, M_1) hP hD hS (vx_runS (As := [.int r2]) (rest := []) ⟨hx, hb, hml, hown, hts⟩ (cnX7_demandPlace l C.2.2.2 D Y N _ r2 _ _ hF) (va_cwS 1 hts gX7_drop_X7_demandPlace rfl rfl rfl (by decide +kernel) ⟨Nat.le_of_ble_eq_true rfl, Nat.le_of_ble_eq_true rfl⟩) (mbx_preS C mb_P0 mb_D0 hS) rfl rfl hl.1 rfl (lv_room (Nat.le_of_ble_eq_true rfl)) dX7_drop_5 ⟨Nat.le_of_ble_eq_true rfl, Nat.le_of_ble_eq_true rfl⟩) (Nat.le_of_ble_eq_true rfl) (Nat.le_of_ble_eq_true rfl) (fun H locs hF hP hS => ?_)
  refine lv_iload_n hx hb dX7_drop_8 rfl (lv_at hl 3 rfl) ?_
  refine lv_iconst (v := 0) hx hb dX7_drop_9 (by decide) ?_
  refine lv_iconst (v := 5) hx hb dX7_drop_10 (by decide) ?_
  refine mb_cE hP hS hA (va_runS (As := [.int x3, .int (0 : Int32), .int (5 : Int32)]) (rest := []) ⟨hx, hb, hml, hown, hts⟩ (cnX7_isWithin l D Y N _ x3 (0 : Int32) (5 : Int32) _ hF) (va_cwS 3 hts gX7_drop_X7_isWithin rfl rfl rfl (by decide +kernel) ⟨Nat.le_of_ble_eq_true rfl, Nat.le_of_ble_eq_true rfl⟩) (mb_preS (A := A) hG mb_P0 mb_D0) rfl rfl hl.1 rfl (lv_room (Nat.le_of_ble_eq_true rfl)) dX7_drop_11 ⟨Nat.le_of_ble_eq_true rfl, Nat.le_of_ble_eq_true rfl⟩) (fun r11 H locs hF hP hS => ?_)
  refine lv_if_eq (tgt := 32) hx hb dX7_drop_14 (by decide) (fun c_14 => ?_) (fun c_14 => ?_)
  · have hF := hF.1 c_14
    exact wX7_drop_32 C M M_1 x1 x2 x3 x4 _ _ _ hF hP hD hS (lv_sub hl [0, 1, 2, 3, 4] rfl)
  · have hF := hF.2 c_14
    refine lv_iload hx hb dX7_drop_17 (lv_at hl 4 rfl) ?_
    refine lv_iconst (v := 1) hx hb dX7_drop_19 (by decide) ?_
    refine lv_bipush (v := 64) hx hb dX7_drop_20 (by decide) ?_
    refine mb_cE hP hS hA (va_runS (As := [.int x4, .int (1 : Int32), .int (64 : Int32)]) (rest := []) ⟨hx, hb, hml, hown, hts⟩ (cnX7_isWithin l D Y N _ x4 (1 : Int32) (64 : Int32) _ hF) (va_cwS 3 hts gX7_drop_X7_isWithin rfl rfl rfl (by decide +kernel) ⟨Nat.le_of_ble_eq_true rfl, Nat.le_of_ble_eq_true rfl⟩) (mb_preS (A := A) hG mb_P0 mb_D0) rfl rfl hl.1 rfl (lv_room (Nat.le_of_ble_eq_true rfl)) dX7_drop_22 ⟨Nat.le_of_ble_eq_true rfl, Nat.le_of_ble_eq_true rfl⟩) (fun r22 H locs hF hP hS => ?_)
    refine lv_if_eq (tgt := 32) hx hb dX7_drop_25 (by decide) (fun c_25 => ?_) (fun c_25 => ?_)
    · have hF := hF.1 c_25
      exact wX7_drop_32 C M M_1 x1 x2 x3 x4 _ _ _ hF hP hD hS (lv_sub hl [0, 1, 2, 3, 4] rfl)
    · have hF := hF.2 c_25
      refine lv_iconst (v := 1) hx hb dX7_drop_28 (by decide) ?_
      refine lv_goto (tgt := 33) hx hb dX7_drop_29 (by decide) ?_
      exact wX7_drop_33 C M M_1 x1 x2 x3 x4 (1 : Int32) _ _ _ hF hP hD hS (lv_sub hl [0, 1, 2, 3, 4] rfl)
end
section
noncomputable def PX7_comb (N : Nat) (M : mb_m) (M_1 : mb_m) (x1 x2 x3 : Int32) (K : Int32 → (mb_m × mb_m) → Prop) (KX : String → (mb_m × mb_m) → Prop) : Prop := PX7_isOnSide N x2 (fun r1 _ => PX7_demandPlace N r1 (fun _ => PX7_isWithin N x3 (-7 : Int32) (7 : Int32) (fun r12 _ => PX7_demandArgument N r12 (fun _ => PX0_shift N M_1 x1 x2 x3 (fun r25 u25 => K r25 (M, u25))) (fun E _ => KX E (M, M_1)))) (fun E _ => KX E (M, M_1)))
set_option maxHeartbeats 4000000 in
set_option maxRecDepth 100000 in
theorem cnX7_comb (l : Launch) (hl0 : l.stackTraces = false) (D : va_G) (Y : Nat → ClassId) (N : Nat) (o : Nat) (a : Nat → Nat) (M : mb_m) (a1 : Nat → Nat) (M_1 : mb_m) (sz : Nat) (x1 x2 x3 : Int32) (K : Int32 → (mb_m × mb_m) → Prop) (KX : String → (mb_m × mb_m) → Prop) (hF : PX7_comb N M M_1 x1 x2 x3 K KX) : vx_Met l yX7_comb wsX7_comb ({ frames := 7, cells := 2, slots := 12, locals := 110 } : Room) (va_Pc [.ref o, .int x1, .int x2, .int x3] (mb_BX D Y (gw7 Y o a M ++ gw0 Y (a 0) a1 M_1) sz)) (va_Qi K (fun u t => mb_T D (va_A (gw7 Y o a M ++ gw0 Y (a 0) a1 M_1) sz) (gw7 Y o a u.1 ++ gw0 Y (a 0) a1 u.2) t) (va_A (gw7 Y o a M ++ gw0 Y (a 0) a1 M_1) sz)) (mb_XC D (va_A (gw7 Y o a M ++ gw0 Y (a 0) a1 M_1) sz) KX (fun u : mb_m × mb_m => gw7 Y o a u.1 ++ gw0 Y (a 0) a1 u.2)) 2 12 (va_A (gw7 Y o a M ++ gw0 Y (a 0) a1 M_1) sz) := by
  refine mbx_begin (cc := cX7_comb) (maxL := 4) (ret := (some .int)) hl0 (by decide +kernel) rfl (Nat.le_of_ble_eq_true rfl) ?_
  intro p e s m below meth c ls C hsz hnm hP hD hl
  generalize hAe : va_A (gw7 Y o a M ++ gw0 Y (a 0) a1 M_1) sz = A at C hD ⊢
  have C : mb_CX l p s m meth c ([.ref o, .int x1, .int x2, .int x3] : List Value).toArray cX7_comb 4 (some .int) wsX7_comb RX7 D Y A := C
  obtain ⟨⟨hx, hb, hr, hml, hts, hown, hlocks, hA, hG⟩, hT, hX, hl0⟩ := id C
  have hK := hG.1
  have hS : va_S A s.heap s.heap [] := va_S.rf
  have hl : lv_has ls 4 [(0, .ref o), (1, .int x1), (2, .int x2), (3, .int x3)] := hl
  refine lv_iload_n hx hb dX7_comb_0 rfl (lv_at hl 2 rfl) ?_
  refine mb_cE hP hS hA (va_runS (As := [.int x2]) (rest := []) ⟨hx, hb, hml, hown, hts⟩ (cnX7_isOnSide l D Y N _ x2 _ hF) (va_cwS 1 hts gX7_comb_X7_isOnSide rfl rfl rfl (by decide +kernel) ⟨Nat.le_of_ble_eq_true rfl, Nat.le_of_ble_eq_true rfl⟩) (mb_preS (A := A) hG mb_P0 mb_D0) rfl rfl hl.1 rfl (lv_room (Nat.le_of_ble_eq_true rfl)) dX7_comb_1 ⟨Nat.le_of_ble_eq_true rfl, Nat.le_of_ble_eq_true rfl⟩) (fun r1 H locs hF hP hS => ?_)
  refine mbx_cEv (S := mb_m × mb_m) (wf := fun u => gw7 Y o a u.1 ++ gw0 Y (a 0) a1 u.2) C (M, M_1) hP hD hS (vx_runS (As := [.int r1]) (rest := []) ⟨hx, hb, hml, hown, hts⟩ (cnX7_demandPlace l C.2.2.2 D Y N _ r1 _ _ hF) (va_cwS 1 hts gX7_comb_X7_demandPlace rfl rfl rfl (by decide +kernel) ⟨Nat.le_of_ble_eq_true rfl, Nat.le_of_ble_eq_true rfl⟩) (mbx_preS C mb_P0 mb_D0 hS) rfl rfl hl.1 rfl (lv_room (Nat.le_of_ble_eq_true rfl)) dX7_comb_4 ⟨Nat.le_of_ble_eq_true rfl, Nat.le_of_ble_eq_true rfl⟩) (Nat.le_of_ble_eq_true rfl) (Nat.le_of_ble_eq_true rfl) (fun H locs hF hP hS => ?_)
  refine lv_iload_n hx hb dX7_comb_7 rfl (lv_at hl 3 rfl) ?_
  refine lv_bipush (v := -7) hx hb dX7_comb_8 (by decide) ?_
  refine lv_bipush (v := 7) hx hb dX7_comb_10 (by decide) ?_
  refine mb_cE hP hS hA (va_runS (As := [.int x3, .int (-7 : Int32), .int (7 : Int32)]) (rest := []) ⟨hx, hb, hml, hown, hts⟩ (cnX7_isWithin l D Y N _ x3 (-7 : Int32) (7 : Int32) _ hF) (va_cwS 3 hts gX7_comb_X7_isWithin rfl rfl rfl (by decide +kernel) ⟨Nat.le_of_ble_eq_true rfl, Nat.le_of_ble_eq_true rfl⟩) (mb_preS (A := A) hG mb_P0 mb_D0) rfl rfl hl.1 rfl (lv_room (Nat.le_of_ble_eq_true rfl)) dX7_comb_12 ⟨Nat.le_of_ble_eq_true rfl, Nat.le_of_ble_eq_true rfl⟩) (fun r12 H locs hF hP hS => ?_)
  refine mbx_cEv (S := mb_m × mb_m) (wf := fun u => gw7 Y o a u.1 ++ gw0 Y (a 0) a1 u.2) C (M, M_1) hP hD hS (vx_runS (As := [.int r12]) (rest := []) ⟨hx, hb, hml, hown, hts⟩ (cnX7_demandArgument l C.2.2.2 D Y N _ r12 _ _ hF) (va_cwS 1 hts gX7_comb_X7_demandArgument rfl rfl rfl (by decide +kernel) ⟨Nat.le_of_ble_eq_true rfl, Nat.le_of_ble_eq_true rfl⟩) (mbx_preS C mb_P0 mb_D0 hS) rfl rfl hl.1 rfl (lv_room (Nat.le_of_ble_eq_true rfl)) dX7_comb_15 ⟨Nat.le_of_ble_eq_true rfl, Nat.le_of_ble_eq_true rfl⟩) (Nat.le_of_ble_eq_true rfl) (Nat.le_of_ble_eq_true rfl) (fun H locs hF hP hS => ?_)
  refine lv_aload_n hx hb dX7_comb_18 rfl (lv_at hl 0 rfl) ?_
  refine va_get (D := D) (ci := 7) (v := .ref (a 0)) (C := RX7) (T := TX7) (N := 7) hx hb hts (fun _ h9 => List.mem_cons_of_mem _ (List.mem_append_left _ (List.mem_append_left _ (List.mem_append_left _ (List.mem_append_right _ (h9)))))) hown hK hP 0 rfl rfl 0 (by decide) (hts (.fieldLink RX7 12 "MarbleBench" "bath" "LMarbleBench$Bath;") (List.mem_of_getElem? (i := 1) rfl)) (fun _ h9 => h9) rfl dX7_comb_19 ?_
  refine lv_iload_n hx hb dX7_comb_22 rfl (lv_at hl 1 rfl) ?_
  refine lv_iload_n hx hb dX7_comb_23 rfl (lv_at hl 2 rfl) ?_
  refine lv_iload_n hx hb dX7_comb_24 rfl (lv_at hl 3 rfl) ?_
  have hPc := hP.sub (ws' := gw0 Y (a 0) a1 M_1) [1, 2, 3, 4, 5, 6] rfl
  have hDc := hD.sub (ws' := gw0 Y (a 0) a1 M_1) [1, 2, 3, 4, 5, 6] (by decide) rfl
  refine mb_cP (wc := gw0 Y (a 0) a1 M_1) (wr := gw7 Y o a M) hP hD hS hA [1, 2, 3, 4, 5, 6] [0] rfl rfl (by decide) (by decide) (va_runV (As := [.int x1, .int x2, .int x3]) (rest := []) ⟨hx, hb, hml, hown, hts⟩ (cnX0_shift l D Y N (a 0) a1 M_1 _ x1 x2 x3 _ hF) (cwV 3 hts gX7_comb_X0_shift rfl rfl rfl (by decide +kernel) ⟨Nat.le_of_ble_eq_true rfl, Nat.le_of_ble_eq_true rfl⟩) (mb_preV hG hPc hDc 0 rfl rfl) rfl rfl hl.1 rfl (lv_room (Nat.le_of_ble_eq_true rfl)) dX7_comb_25 ⟨Nat.le_of_ble_eq_true rfl, Nat.le_of_ble_eq_true rfl⟩) (fun r25 u25 H locs hF hP hD hS => ?_)
  have hP := hP.sub (ws' := gw7 Y o a M ++ gw0 Y (a 0) a1 u25) [0, 1, 2, 3, 4, 5, 6] rfl
  have hD := hD.sub (ws' := gw7 Y o a M ++ gw0 Y (a 0) a1 u25) [0, 1, 2, 3, 4, 5, 6] (by decide) rfl
  refine vx_ret ?_
  exact mb_ri (S := mb_m × mb_m) (mc := 2) (ms := 12) (wf := fun u => gw7 Y o a u.1 ++ gw0 Y (a 0) a1 u.2) C.1 rfl (u := (M, u25)) hF hP hD hS dX7_comb_28 (Nat.le_of_ble_eq_true rfl) (Nat.le_of_ble_eq_true rfl)
end
section
noncomputable def PX7_clean (N : Nat) (M : mb_m) (M_1 : mb_m) (K : Int32 → (mb_m × mb_m) → Prop) : Prop := PX0_empty N M_1  (fun r4 u4 => K r4 (M, u4))
set_option maxHeartbeats 4000000 in
set_option maxRecDepth 100000 in
theorem cnX7_clean (l : Launch) (D : va_G) (Y : Nat → ClassId) (N : Nat) (o : Nat) (a : Nat → Nat) (M : mb_m) (a1 : Nat → Nat) (M_1 : mb_m) (sz : Nat) (K : Int32 → (mb_m × mb_m) → Prop) (hF : PX7_clean N M M_1  K) : Met l yX7_clean wsX7_clean ({ frames := 1, cells := 0, slots := 0, locals := 22 } : Room) (va_Pc [.ref o] (mb_B D Y (gw7 Y o a M ++ gw0 Y (a 0) a1 M_1) sz)) (va_Qi K (fun u t => mb_T D (va_A (gw7 Y o a M ++ gw0 Y (a 0) a1 M_1) sz) (gw7 Y o a u.1 ++ gw0 Y (a 0) a1 u.2) t) (va_A (gw7 Y o a M ++ gw0 Y (a 0) a1 M_1) sz)) 0 0 (va_A (gw7 Y o a M ++ gw0 Y (a 0) a1 M_1) sz) := by
  refine mb_begin (cc := cX7_clean) (maxL := 1) (ret := (some .int)) (by decide +kernel) rfl (Nat.le_of_ble_eq_true rfl) ?_
  intro p e s m below meth c ls C hsz hnm hP hD hl
  generalize hAe : va_A (gw7 Y o a M ++ gw0 Y (a 0) a1 M_1) sz = A at C hD ⊢
  have C : mb_Cx p s m meth c ([.ref o] : List Value).toArray cX7_clean 1 (some .int) wsX7_clean RX7 D Y A := C
  obtain ⟨hx, hb, hr, hml, hts, hown, hlocks, hA, hG⟩ := id C
  have hK := hG.1
  have hS : va_S A s.heap s.heap [] := va_S.rf
  have hl : lv_has ls 1 [(0, .ref o)] := hl
  refine lv_aload_n hx hb dX7_clean_0 rfl (lv_at hl 0 rfl) ?_
  refine va_get (D := D) (ci := 7) (v := .ref (a 0)) (C := RX7) (T := TX7) (N := 7) hx hb hts (fun _ h9 => List.mem_cons_of_mem _ (List.mem_append_left _ (List.mem_append_right _ (h9)))) hown hK hP 0 rfl rfl 0 (by decide) (hts (.fieldLink RX7 12 "MarbleBench" "bath" "LMarbleBench$Bath;") (List.mem_of_getElem? (i := 1) rfl)) (fun _ h9 => h9) rfl dX7_clean_1 ?_
  have hPc := hP.sub (ws' := gw0 Y (a 0) a1 M_1) [1, 2, 3, 4, 5, 6] rfl
  have hDc := hD.sub (ws' := gw0 Y (a 0) a1 M_1) [1, 2, 3, 4, 5, 6] (by decide) rfl
  refine mb_cP (wc := gw0 Y (a 0) a1 M_1) (wr := gw7 Y o a M) hP hD hS hA [1, 2, 3, 4, 5, 6] [0] rfl rfl (by decide) (by decide) (va_runV (As := []) (rest := []) ⟨hx, hb, hml, hown, hts⟩ (cnX0_empty l D Y N (a 0) a1 M_1 _  _ hF) (cwV 0 hts gX7_clean_X0_empty rfl rfl rfl (by decide +kernel) ⟨Nat.le_of_ble_eq_true rfl, Nat.le_of_ble_eq_true rfl⟩) (mb_preV hG hPc hDc 0 rfl rfl) rfl rfl hl.1 rfl (lv_room (Nat.le_of_ble_eq_true rfl)) dX7_clean_4 ⟨Nat.le_of_ble_eq_true rfl, Nat.le_of_ble_eq_true rfl⟩) (fun r4 u4 H locs hF hP hD hS => ?_)
  have hP := hP.sub (ws' := gw7 Y o a M ++ gw0 Y (a 0) a1 u4) [0, 1, 2, 3, 4, 5, 6] rfl
  have hD := hD.sub (ws' := gw7 Y o a M ++ gw0 Y (a 0) a1 u4) [0, 1, 2, 3, 4, 5, 6] (by decide) rfl
  exact mb_ri (S := mb_m × mb_m) (mc := 0) (ms := 0) (wf := fun u => gw7 Y o a u.1 ++ gw0 Y (a 0) a1 u.2) C rfl (u := (M, u4)) hF hP hD hS dX7_clean_7 (Nat.le_of_ble_eq_true rfl) (Nat.le_of_ble_eq_true rfl)
end
section
noncomputable def PX7_cellAt (N : Nat) (M : mb_m) (M_1 : mb_m) (x1 x2 x3 : Int32) (K : Int32 → (mb_m × mb_m) → Prop) (KX : String → (mb_m × mb_m) → Prop) : Prop := PX7_isOnGrid N x1 x2 (fun r2 _ => PX7_demandPlace N r2 (fun _ => PX7_isWithin N x3 (0 : Int32) (1 : Int32) (fun r11 _ => PX7_demandArgument N r11 (fun _ => PX7_cellOf N x1 x2 (fun r19 _ => (¬ x3 = 0 → vp_in r19 64 ∧ (K (M_1 1 r19.toNatClampNeg) (M, M_1))) ∧ (x3 = 0 → vp_in r19 64 ∧ (K (M_1 0 r19.toNatClampNeg) (M, M_1))))) (fun E _ => KX E (M, M_1)))) (fun E _ => KX E (M, M_1)))
set_option maxHeartbeats 4000000 in
set_option maxRecDepth 100000 in
theorem cnX7_cellAt (l : Launch) (hl0 : l.stackTraces = false) (D : va_G) (Y : Nat → ClassId) (N : Nat) (o : Nat) (a : Nat → Nat) (M : mb_m) (a1 : Nat → Nat) (M_1 : mb_m) (sz : Nat) (x1 x2 x3 : Int32) (K : Int32 → (mb_m × mb_m) → Prop) (KX : String → (mb_m × mb_m) → Prop) (hF : PX7_cellAt N M M_1 x1 x2 x3 K KX) : vx_Met l yX7_cellAt wsX7_cellAt ({ frames := 7, cells := 2, slots := 12, locals := 110 } : Room) (va_Pc [.ref o, .int x1, .int x2, .int x3] (mb_BX D Y (gw7 Y o a M ++ gw0 Y (a 0) a1 M_1) sz)) (va_Qi K (fun u t => mb_T D (va_A (gw7 Y o a M ++ gw0 Y (a 0) a1 M_1) sz) (gw7 Y o a u.1 ++ gw0 Y (a 0) a1 u.2) t) (va_A (gw7 Y o a M ++ gw0 Y (a 0) a1 M_1) sz)) (mb_XC D (va_A (gw7 Y o a M ++ gw0 Y (a 0) a1 M_1) sz) KX (fun u : mb_m × mb_m => gw7 Y o a u.1 ++ gw0 Y (a 0) a1 u.2)) 2 12 (va_A (gw7 Y o a M ++ gw0 Y (a 0) a1 M_1) sz) := by
  refine mbx_begin (cc := cX7_cellAt) (maxL := 5) (ret := (some .int)) hl0 (by decide +kernel) rfl (Nat.le_of_ble_eq_true rfl) ?_
  intro p e s m below meth c ls C hsz hnm hP hD hl
  generalize hAe : va_A (gw7 Y o a M ++ gw0 Y (a 0) a1 M_1) sz = A at C hD ⊢
  have C : mb_CX l p s m meth c ([.ref o, .int x1, .int x2, .int x3] : List Value).toArray cX7_cellAt 5 (some .int) wsX7_cellAt RX7 D Y A := C
  obtain ⟨⟨hx, hb, hr, hml, hts, hown, hlocks, hA, hG⟩, hT, hX, hl0⟩ := id C
  have hK := hG.1
  have hS : va_S A s.heap s.heap [] := va_S.rf
  have hl : lv_has ls 5 [(0, .ref o), (1, .int x1), (2, .int x2), (3, .int x3)] := hl
  refine lv_iload_n hx hb dX7_cellAt_0 rfl (lv_at hl 1 rfl) ?_
  refine lv_iload_n hx hb dX7_cellAt_1 rfl (lv_at hl 2 rfl) ?_
  refine mb_cE hP hS hA (va_runS (As := [.int x1, .int x2]) (rest := []) ⟨hx, hb, hml, hown, hts⟩ (cnX7_isOnGrid l D Y N _ x1 x2 _ hF) (va_cwS 2 hts gX7_cellAt_X7_isOnGrid rfl rfl rfl (by decide +kernel) ⟨Nat.le_of_ble_eq_true rfl, Nat.le_of_ble_eq_true rfl⟩) (mb_preS (A := A) hG mb_P0 mb_D0) rfl rfl hl.1 rfl (lv_room (Nat.le_of_ble_eq_true rfl)) dX7_cellAt_2 ⟨Nat.le_of_ble_eq_true rfl, Nat.le_of_ble_eq_true rfl⟩) (fun r2 H locs hF hP hS => ?_)
  refine mbx_cEv (S := mb_m × mb_m) (wf := fun u => gw7 Y o a u.1 ++ gw0 Y (a 0) a1 u.2) C (M, M_1) hP hD hS (vx_runS (As := [.int r2]) (rest := []) ⟨hx, hb, hml, hown, hts⟩ (cnX7_demandPlace l C.2.2.2 D Y N _ r2 _ _ hF) (va_cwS 1 hts gX7_cellAt_X7_demandPlace rfl rfl rfl (by decide +kernel) ⟨Nat.le_of_ble_eq_true rfl, Nat.le_of_ble_eq_true rfl⟩) (mbx_preS C mb_P0 mb_D0 hS) rfl rfl hl.1 rfl (lv_room (Nat.le_of_ble_eq_true rfl)) dX7_cellAt_5 ⟨Nat.le_of_ble_eq_true rfl, Nat.le_of_ble_eq_true rfl⟩) (Nat.le_of_ble_eq_true rfl) (Nat.le_of_ble_eq_true rfl) (fun H locs hF hP hS => ?_)
  refine lv_iload_n hx hb dX7_cellAt_8 rfl (lv_at hl 3 rfl) ?_
  refine lv_iconst (v := 0) hx hb dX7_cellAt_9 (by decide) ?_
  refine lv_iconst (v := 1) hx hb dX7_cellAt_10 (by decide) ?_
  refine mb_cE hP hS hA (va_runS (As := [.int x3, .int (0 : Int32), .int (1 : Int32)]) (rest := []) ⟨hx, hb, hml, hown, hts⟩ (cnX7_isWithin l D Y N _ x3 (0 : Int32) (1 : Int32) _ hF) (va_cwS 3 hts gX7_cellAt_X7_isWithin rfl rfl rfl (by decide +kernel) ⟨Nat.le_of_ble_eq_true rfl, Nat.le_of_ble_eq_true rfl⟩) (mb_preS (A := A) hG mb_P0 mb_D0) rfl rfl hl.1 rfl (lv_room (Nat.le_of_ble_eq_true rfl)) dX7_cellAt_11 ⟨Nat.le_of_ble_eq_true rfl, Nat.le_of_ble_eq_true rfl⟩) (fun r11 H locs hF hP hS => ?_)
  refine mbx_cEv (S := mb_m × mb_m) (wf := fun u => gw7 Y o a u.1 ++ gw0 Y (a 0) a1 u.2) C (M, M_1) hP hD hS (vx_runS (As := [.int r11]) (rest := []) ⟨hx, hb, hml, hown, hts⟩ (cnX7_demandArgument l C.2.2.2 D Y N _ r11 _ _ hF) (va_cwS 1 hts gX7_cellAt_X7_demandArgument rfl rfl rfl (by decide +kernel) ⟨Nat.le_of_ble_eq_true rfl, Nat.le_of_ble_eq_true rfl⟩) (mbx_preS C mb_P0 mb_D0 hS) rfl rfl hl.1 rfl (lv_room (Nat.le_of_ble_eq_true rfl)) dX7_cellAt_14 ⟨Nat.le_of_ble_eq_true rfl, Nat.le_of_ble_eq_true rfl⟩) (Nat.le_of_ble_eq_true rfl) (Nat.le_of_ble_eq_true rfl) (fun H locs hF hP hS => ?_)
  refine lv_iload_n hx hb dX7_cellAt_17 rfl (lv_at hl 1 rfl) ?_
  refine lv_iload_n hx hb dX7_cellAt_18 rfl (lv_at hl 2 rfl) ?_
  refine mb_cE hP hS hA (va_runS (As := [.int x1, .int x2]) (rest := []) ⟨hx, hb, hml, hown, hts⟩ (cnX7_cellOf l D Y N _ x1 x2 _ hF) (va_cwS 2 hts gX7_cellAt_X7_cellOf rfl rfl rfl (by decide +kernel) ⟨Nat.le_of_ble_eq_true rfl, Nat.le_of_ble_eq_true rfl⟩) (mb_preS (A := A) hG mb_P0 mb_D0) rfl rfl hl.1 rfl (lv_room (Nat.le_of_ble_eq_true rfl)) dX7_cellAt_19 ⟨Nat.le_of_ble_eq_true rfl, Nat.le_of_ble_eq_true rfl⟩) (fun r19 H locs hF hP hS => ?_)
  refine lv_istore (lv' := [(4, .int r19), (0, .ref o), (1, .int x1), (2, .int x2), (3, .int x3)]) hx hb dX7_cellAt_22 hl (by decide) rfl (fun ls hl => ?_)
  refine lv_iload_n hx hb dX7_cellAt_24 rfl (lv_at hl 4 rfl) ?_
  refine lv_if_ne (tgt := 41) hx hb dX7_cellAt_25 (by decide) (fun c_25 => ?_) (fun c_25 => ?_)
  · have hF := hF.1 c_25
    refine lv_aload_n hx hb dX7_cellAt_41 rfl (lv_at hl 1 rfl) ?_
    refine va_get (D := D) (ci := 7) (v := .ref (a 0)) (C := RX7) (T := TX7) (N := 7) hx hb hts (fun _ h9 => List.mem_cons_of_mem _ (List.mem_append_left _ (List.mem_append_left _ (List.mem_append_left _ (List.mem_append_right _ (h9)))))) hown hK hP 0 rfl rfl 0 (by decide) (hts (.fieldLink RX7 12 "MarbleBench" "bath" "LMarbleBench$Bath;") (List.mem_of_getElem? (i := 1) rfl)) (fun _ h9 => h9) rfl dX7_cellAt_42 ?_
    refine va_getN (D := D) (ci := 0) (v := .ref (a1 1)) (C := RX0) (T := TX0) (N := 5) hx hb hts (fun _ h9 => List.mem_cons_of_mem _ (List.mem_append_left _ (List.mem_append_left _ (List.mem_append_right _ (h9))))) hown hK hP 1 rfl rfl 1 (by decide) (va_Nw.use rfl (hG.2.1 _ (List.mem_of_getElem? (i := 1) rfl))) (fun _ h9 => h9) rfl dX7_cellAt_45 ?_
    refine lv_iload hx hb dX7_cellAt_48 (lv_at hl 0 rfl) ?_
    obtain ⟨hi50, hF⟩ := hF
    refine va_iald hx hb hK hP 3 0 rfl rfl hi50 dX7_cellAt_50 ?_
    refine vx_ret ?_
    exact mb_ri (S := mb_m × mb_m) (mc := 2) (ms := 12) (wf := fun u => gw7 Y o a u.1 ++ gw0 Y (a 0) a1 u.2) C.1 rfl (u := (M, M_1)) hF hP hD hS dX7_cellAt_51 (Nat.le_of_ble_eq_true rfl) (Nat.le_of_ble_eq_true rfl)
  · have hF := hF.2 c_25
    refine lv_aload_n hx hb dX7_cellAt_28 rfl (lv_at hl 1 rfl) ?_
    refine va_get (D := D) (ci := 7) (v := .ref (a 0)) (C := RX7) (T := TX7) (N := 7) hx hb hts (fun _ h9 => List.mem_cons_of_mem _ (List.mem_append_left _ (List.mem_append_left _ (List.mem_append_left _ (List.mem_append_right _ (h9)))))) hown hK hP 0 rfl rfl 0 (by decide) (hts (.fieldLink RX7 12 "MarbleBench" "bath" "LMarbleBench$Bath;") (List.mem_of_getElem? (i := 1) rfl)) (fun _ h9 => h9) rfl dX7_cellAt_29 ?_
    refine va_getN (D := D) (ci := 0) (v := .ref (a1 0)) (C := RX0) (T := TX0) (N := 5) hx hb hts (fun _ h9 => List.mem_cons_of_mem _ (List.mem_append_left _ (List.mem_append_left _ (List.mem_append_right _ (h9))))) hown hK hP 1 rfl rfl 0 (by decide) (va_Nw.use rfl (hG.2.1 _ (List.mem_of_getElem? (i := 0) rfl))) (fun _ h9 => h9) rfl dX7_cellAt_32 ?_
    refine lv_iload hx hb dX7_cellAt_35 (lv_at hl 0 rfl) ?_
    obtain ⟨hi37, hF⟩ := hF
    refine va_iald hx hb hK hP 2 0 rfl rfl hi37 dX7_cellAt_37 ?_
    refine lv_goto (tgt := 51) hx hb dX7_cellAt_38 (by decide) ?_
    refine vx_ret ?_
    exact mb_ri (S := mb_m × mb_m) (mc := 2) (ms := 12) (wf := fun u => gw7 Y o a u.1 ++ gw0 Y (a 0) a1 u.2) C.1 rfl (u := (M, M_1)) hF hP hD hS dX7_cellAt_51 (Nat.le_of_ble_eq_true rfl) (Nat.le_of_ble_eq_true rfl)
end
section
noncomputable def PX7_printAt (N : Nat) (M : mb_m) (f1 : (Nat → Option Nat)) (o2 : Nat) (M_2 : mb_m) (x1 x2 x3 : Int32) (K : Int32 → (mb_m × (Nat → Option Nat) × mb_m) → Prop) (KX : String → (mb_m × (Nat → Option Nat) × mb_m) → Prop) : Prop := PX7_printOf N M f1 x1 (fun r2 u2 => PX7_isOnGrid N x2 x3 (fun r9 _ => PX7_demandPlace N r9 (fun _ => r2 = o2 ∧ (PX7_cellOf N x2 x3 (fun r22 _ => vp_in r22 64 ∧ (K (M_2 0 r22.toNatClampNeg) ((u2.1), (u2.2), M_2))))) (fun E _ => KX E ((u2.1), (u2.2), M_2)))) (fun E u2 => KX E ((u2.1), (u2.2), M_2))
set_option maxHeartbeats 4000000 in
set_option maxRecDepth 100000 in
theorem cnX7_printAt (l : Launch) (hl0 : l.stackTraces = false) (D : va_G) (Y : Nat → ClassId) (N : Nat) (o : Nat) (a : Nat → Nat) (M : mb_m) (f1 : (Nat → Option Nat)) (o2 : Nat) (a2 : Nat → Nat) (M_2 : mb_m) (sz : Nat) (x1 x2 x3 : Int32) (K : Int32 → (mb_m × (Nat → Option Nat) × mb_m) → Prop) (KX : String → (mb_m × (Nat → Option Nat) × mb_m) → Prop) (hF : PX7_printAt N M f1 o2 M_2 x1 x2 x3 K KX) : vx_Met l yX7_printAt wsX7_printAt ({ frames := 7, cells := 2, slots := 12, locals := 112 } : Room) (va_Pc [.ref o, .int x1, .int x2, .int x3] (mb_BX D Y (gw7 Y o a M ++ grP Y (a 1) f1 ++ gw2 Y o2 a2 M_2) sz)) (va_Qi K (fun u t => mb_T D (va_A (gw7 Y o a M ++ grP Y (a 1) f1 ++ gw2 Y o2 a2 M_2) sz) (gw7 Y o a u.1 ++ grP Y (a 1) u.2.1 ++ gw2 Y o2 a2 u.2.2) t) (va_A (gw7 Y o a M ++ grP Y (a 1) f1 ++ gw2 Y o2 a2 M_2) sz)) (mb_XC D (va_A (gw7 Y o a M ++ grP Y (a 1) f1 ++ gw2 Y o2 a2 M_2) sz) KX (fun u : mb_m × (Nat → Option Nat) × mb_m => gw7 Y o a u.1 ++ grP Y (a 1) u.2.1 ++ gw2 Y o2 a2 u.2.2)) 2 12 (va_A (gw7 Y o a M ++ grP Y (a 1) f1 ++ gw2 Y o2 a2 M_2) sz) := by
  refine mbx_begin (cc := cX7_printAt) (maxL := 5) (ret := (some .int)) hl0 (by decide +kernel) rfl (Nat.le_of_ble_eq_true rfl) ?_
  intro p e s m below meth c ls C hsz hnm hP hD hl
  generalize hAe : va_A (gw7 Y o a M ++ grP Y (a 1) f1 ++ gw2 Y o2 a2 M_2) sz = A at C hD ⊢
  have C : mb_CX l p s m meth c ([.ref o, .int x1, .int x2, .int x3] : List Value).toArray cX7_printAt 5 (some .int) wsX7_printAt RX7 D Y A := C
  obtain ⟨⟨hx, hb, hr, hml, hts, hown, hlocks, hA, hG⟩, hT, hX, hl0⟩ := id C
  have hK := hG.1
  have hS : va_S A s.heap s.heap [] := va_S.rf
  have hl : lv_has ls 5 [(0, .ref o), (1, .int x1), (2, .int x2), (3, .int x3)] := hl
  refine lv_aload_n hx hb dX7_printAt_0 rfl (lv_at hl 0 rfl) ?_
  refine lv_iload_n hx hb dX7_printAt_1 rfl (lv_at hl 1 rfl) ?_
  have hPc := hP.sub (ws' := gw7 Y o a M ++ grP Y (a 1) f1) [0, 1] rfl
  have hDc := hD.sub (ws' := gw7 Y o a M ++ grP Y (a 1) f1) [0, 1] (by decide) rfl
  refine mbx_cPr (S := mb_m × (Nat → Option Nat) × mb_m) (wf := fun u => gw7 Y o a u.1 ++ grP Y (a 1) u.2.1 ++ gw2 Y o2 a2 u.2.2) (wc := gw7 Y o a M ++ grP Y (a 1) f1) (wr := gw2 Y o2 a2 M_2) C hP hD hS [0, 1] [2, 3] rfl rfl (by decide) (by decide) (vx_runV (As := [.int x1]) (rest := []) ⟨hx, hb, hml, hown, hts⟩ (cnX7_printOf l C.2.2.2 D Y N o a M f1 _ x1 _ _ hF) (cwV 1 hts gX7_printAt_X7_printOf rfl rfl rfl (by decide +kernel) ⟨Nat.le_of_ble_eq_true rfl, Nat.le_of_ble_eq_true rfl⟩) (mbx_preV C hPc hDc hS 0 rfl rfl) rfl rfl hl.1 rfl (lv_room (Nat.le_of_ble_eq_true rfl)) dX7_printAt_2 ⟨Nat.le_of_ble_eq_true rfl, Nat.le_of_ble_eq_true rfl⟩) (Nat.le_of_ble_eq_true rfl) (Nat.le_of_ble_eq_true rfl) (fun E u2 H hF hP hD => ⟨((u2.1), (u2.2), M_2), hF, hP.sub (ws' := gw7 Y o a (u2.1) ++ grP Y (a 1) (u2.2) ++ gw2 Y o2 a2 M_2) [2, 3, 0, 1] rfl, hD.sub (ws' := gw7 Y o a (u2.1) ++ grP Y (a 1) (u2.2) ++ gw2 Y o2 a2 M_2) [2, 3, 0, 1] (by decide) rfl⟩) (fun r2 u2 H locs hF hP hD hS => ?_)
  have hP := hP.sub (ws' := gw7 Y o a (u2.1) ++ grP Y (a 1) (u2.2) ++ gw2 Y o2 a2 M_2) [2, 3, 0, 1] rfl
  have hD := hD.sub (ws' := gw7 Y o a (u2.1) ++ grP Y (a 1) (u2.2) ++ gw2 Y o2 a2 M_2) [2, 3, 0, 1] (by decide) rfl
  refine lv_astore (lv' := [(4, .ref r2), (0, .ref o), (1, .int x1), (2, .int x2), (3, .int x3)]) hx hb dX7_printAt_5 hl (by decide) rfl (fun ls hl => ?_)
  refine lv_iload_n hx hb dX7_printAt_7 rfl (lv_at hl 3 rfl) ?_
  refine lv_iload_n hx hb dX7_printAt_8 rfl (lv_at hl 4 rfl) ?_
  refine mb_cE hP hS hA (va_runS (As := [.int x2, .int x3]) (rest := []) ⟨hx, hb, hml, hown, hts⟩ (cnX7_isOnGrid l D Y N _ x2 x3 _ hF) (va_cwS 2 hts gX7_printAt_X7_isOnGrid rfl rfl rfl (by decide +kernel) ⟨Nat.le_of_ble_eq_true rfl, Nat.le_of_ble_eq_true rfl⟩) (mb_preS (A := A) hG mb_P0 mb_D0) rfl rfl hl.1 rfl (lv_room (Nat.le_of_ble_eq_true rfl)) dX7_printAt_9 ⟨Nat.le_of_ble_eq_true rfl, Nat.le_of_ble_eq_true rfl⟩) (fun r9 H locs hF hP hS => ?_)
  refine mbx_cEv (S := mb_m × (Nat → Option Nat) × mb_m) (wf := fun u => gw7 Y o a u.1 ++ grP Y (a 1) u.2.1 ++ gw2 Y o2 a2 u.2.2) C ((u2.1), (u2.2), M_2) hP hD hS (vx_runS (As := [.int r9]) (rest := []) ⟨hx, hb, hml, hown, hts⟩ (cnX7_demandPlace l C.2.2.2 D Y N _ r9 _ _ hF) (va_cwS 1 hts gX7_printAt_X7_demandPlace rfl rfl rfl (by decide +kernel) ⟨Nat.le_of_ble_eq_true rfl, Nat.le_of_ble_eq_true rfl⟩) (mbx_preS C mb_P0 mb_D0 hS) rfl rfl hl.1 rfl (lv_room (Nat.le_of_ble_eq_true rfl)) dX7_printAt_12 ⟨Nat.le_of_ble_eq_true rfl, Nat.le_of_ble_eq_true rfl⟩) (Nat.le_of_ble_eq_true rfl) (Nat.le_of_ble_eq_true rfl) (fun H locs hF hP hS => ?_)
  refine lv_aload hx hb dX7_printAt_15 (lv_at hl 0 rfl) ?_
  obtain ⟨hq17, hF⟩ := hF
  try rw [hq17] at hl
  try rw [hq17]
  refine va_getN (D := D) (ci := 2) (v := .ref (a2 0)) (C := RX2) (T := TX2) (N := 1) hx hb hts (fun _ h9 => List.mem_cons_of_mem _ (List.mem_append_left _ (List.mem_append_left _ (List.mem_append_right _ (h9))))) hown hK hP 2 rfl rfl 0 (by decide) (va_Nw.use rfl (hG.2.1 _ (List.mem_of_getElem? (i := 2) rfl))) (fun _ h9 => h9) rfl dX7_printAt_17 ?_
  refine lv_iload_n hx hb dX7_printAt_20 rfl (lv_at hl 3 rfl) ?_
  refine lv_iload_n hx hb dX7_printAt_21 rfl (lv_at hl 4 rfl) ?_
  refine mb_cE hP hS hA (va_runS (As := [.int x2, .int x3]) (rest := [.ref (a2 0)]) ⟨hx, hb, hml, hown, hts⟩ (cnX7_cellOf l D Y N _ x2 x3 _ hF) (va_cwS 2 hts gX7_printAt_X7_cellOf rfl rfl rfl (by decide +kernel) ⟨Nat.le_of_ble_eq_true rfl, Nat.le_of_ble_eq_true rfl⟩) (mb_preS (A := A) hG mb_P0 mb_D0) rfl rfl hl.1 rfl (lv_room (Nat.le_of_ble_eq_true rfl)) dX7_printAt_22 ⟨Nat.le_of_ble_eq_true rfl, Nat.le_of_ble_eq_true rfl⟩) (fun r22 H locs hF hP hS => ?_)
  obtain ⟨hi25, hF⟩ := hF
  refine va_iald hx hb hK hP 3 0 rfl rfl hi25 dX7_printAt_25 ?_
  refine vx_ret ?_
  exact mb_ri (S := mb_m × (Nat → Option Nat) × mb_m) (mc := 2) (ms := 12) (wf := fun u => gw7 Y o a u.1 ++ grP Y (a 1) u.2.1 ++ gw2 Y o2 a2 u.2.2) C.1 rfl (u := ((u2.1), (u2.2), M_2)) hF hP hD hS dX7_printAt_26 (Nat.le_of_ble_eq_true rfl) (Nat.le_of_ble_eq_true rfl)
end
section
noncomputable def PX7_printAt_n (N : Nat) (M : mb_m) (f1 : (Nat → Option Nat)) (x1 x2 x3 : Int32) (K : Int32 → (mb_m × (Nat → Option Nat)) → Prop) (KX : String → (mb_m × (Nat → Option Nat)) → Prop) : Prop := PX7_printOf N M f1 x1 (fun r2 u2 => PX7_isOnGrid N x2 x3 (fun r9 _ => PX7_demandPlace N r9 (fun _ => False) (fun E _ => KX E ((u2.1), (u2.2))))) (fun E u2 => KX E ((u2.1), (u2.2)))
set_option maxHeartbeats 4000000 in
set_option maxRecDepth 100000 in
theorem cnX7_printAt_n (l : Launch) (hl0 : l.stackTraces = false) (D : va_G) (Y : Nat → ClassId) (N : Nat) (o : Nat) (a : Nat → Nat) (M : mb_m) (f1 : (Nat → Option Nat)) (sz : Nat) (x1 x2 x3 : Int32) (K : Int32 → (mb_m × (Nat → Option Nat)) → Prop) (KX : String → (mb_m × (Nat → Option Nat)) → Prop) (hF : PX7_printAt_n N M f1 x1 x2 x3 K KX) : vx_Met l yX7_printAt wsX7_printAt ({ frames := 7, cells := 2, slots := 12, locals := 112 } : Room) (va_Pc [.ref o, .int x1, .int x2, .int x3] (mb_BX D Y (gw7 Y o a M ++ grP Y (a 1) f1) sz)) (va_Qi K (fun u t => mb_T D (va_A (gw7 Y o a M ++ grP Y (a 1) f1) sz) (gw7 Y o a u.1 ++ grP Y (a 1) u.2) t) (va_A (gw7 Y o a M ++ grP Y (a 1) f1) sz)) (mb_XC D (va_A (gw7 Y o a M ++ grP Y (a 1) f1) sz) KX (fun u : mb_m × (Nat → Option Nat) => gw7 Y o a u.1 ++ grP Y (a 1) u.2)) 2 12 (va_A (gw7 Y o a M ++ grP Y (a 1) f1) sz) := by
  refine mbx_begin (cc := cX7_printAt) (maxL := 5) (ret := (some .int)) hl0 (by decide +kernel) rfl (Nat.le_of_ble_eq_true rfl) ?_
  intro p e s m below meth c ls C hsz hnm hP hD hl
  generalize hAe : va_A (gw7 Y o a M ++ grP Y (a 1) f1) sz = A at C hD ⊢
  have C : mb_CX l p s m meth c ([.ref o, .int x1, .int x2, .int x3] : List Value).toArray cX7_printAt 5 (some .int) wsX7_printAt RX7 D Y A := C
  obtain ⟨⟨hx, hb, hr, hml, hts, hown, hlocks, hA, hG⟩, hT, hX, hl0⟩ := id C
  have hK := hG.1
  have hS : va_S A s.heap s.heap [] := va_S.rf
  have hl : lv_has ls 5 [(0, .ref o), (1, .int x1), (2, .int x2), (3, .int x3)] := hl
  refine lv_aload_n hx hb dX7_printAt_0 rfl (lv_at hl 0 rfl) ?_
  refine lv_iload_n hx hb dX7_printAt_1 rfl (lv_at hl 1 rfl) ?_
  have hPc := hP.sub (ws' := gw7 Y o a M ++ grP Y (a 1) f1) [0, 1] rfl
  have hDc := hD.sub (ws' := gw7 Y o a M ++ grP Y (a 1) f1) [0, 1] (by decide) rfl
  refine mbx_cPr (S := mb_m × (Nat → Option Nat)) (wf := fun u => gw7 Y o a u.1 ++ grP Y (a 1) u.2) (wc := gw7 Y o a M ++ grP Y (a 1) f1) (wr := ([] : va_W)) C hP hD hS [0, 1] [] rfl rfl (by decide) (by decide) (vx_runV (As := [.int x1]) (rest := []) ⟨hx, hb, hml, hown, hts⟩ (cnX7_printOf l C.2.2.2 D Y N o a M f1 _ x1 _ _ hF) (cwV 1 hts gX7_printAt_X7_printOf rfl rfl rfl (by decide +kernel) ⟨Nat.le_of_ble_eq_true rfl, Nat.le_of_ble_eq_true rfl⟩) (mbx_preV C hPc hDc hS 0 rfl rfl) rfl rfl hl.1 rfl (lv_room (Nat.le_of_ble_eq_true rfl)) dX7_printAt_2 ⟨Nat.le_of_ble_eq_true rfl, Nat.le_of_ble_eq_true rfl⟩) (Nat.le_of_ble_eq_true rfl) (Nat.le_of_ble_eq_true rfl) (fun E u2 H hF hP hD => ⟨((u2.1), (u2.2)), hF, hP.sub (ws' := gw7 Y o a (u2.1) ++ grP Y (a 1) (u2.2)) [0, 1] rfl, hD.sub (ws' := gw7 Y o a (u2.1) ++ grP Y (a 1) (u2.2)) [0, 1] (by decide) rfl⟩) (fun r2 u2 H locs hF hP hD hS => ?_)
  have hP := hP.sub (ws' := gw7 Y o a (u2.1) ++ grP Y (a 1) (u2.2)) [0, 1] rfl
  have hD := hD.sub (ws' := gw7 Y o a (u2.1) ++ grP Y (a 1) (u2.2)) [0, 1] (by decide) rfl
  refine lv_astore (lv' := [(4, .ref r2), (0, .ref o), (1, .int x1), (2, .int x2), (3, .int x3)]) hx hb dX7_printAt_5 hl (by decide) rfl (fun ls hl => ?_)
  refine lv_iload_n hx hb dX7_printAt_7 rfl (lv_at hl 3 rfl) ?_
  refine lv_iload_n hx hb dX7_printAt_8 rfl (lv_at hl 4 rfl) ?_
  refine mb_cE hP hS hA (va_runS (As := [.int x2, .int x3]) (rest := []) ⟨hx, hb, hml, hown, hts⟩ (cnX7_isOnGrid l D Y N _ x2 x3 _ hF) (va_cwS 2 hts gX7_printAt_X7_isOnGrid rfl rfl rfl (by decide +kernel) ⟨Nat.le_of_ble_eq_true rfl, Nat.le_of_ble_eq_true rfl⟩) (mb_preS (A := A) hG mb_P0 mb_D0) rfl rfl hl.1 rfl (lv_room (Nat.le_of_ble_eq_true rfl)) dX7_printAt_9 ⟨Nat.le_of_ble_eq_true rfl, Nat.le_of_ble_eq_true rfl⟩) (fun r9 H locs hF hP hS => ?_)
  refine mbx_cEv (S := mb_m × (Nat → Option Nat)) (wf := fun u => gw7 Y o a u.1 ++ grP Y (a 1) u.2) C ((u2.1), (u2.2)) hP hD hS (vx_runS (As := [.int r9]) (rest := []) ⟨hx, hb, hml, hown, hts⟩ (cnX7_demandPlace l C.2.2.2 D Y N _ r9 _ _ hF) (va_cwS 1 hts gX7_printAt_X7_demandPlace rfl rfl rfl (by decide +kernel) ⟨Nat.le_of_ble_eq_true rfl, Nat.le_of_ble_eq_true rfl⟩) (mbx_preS C mb_P0 mb_D0 hS) rfl rfl hl.1 rfl (lv_room (Nat.le_of_ble_eq_true rfl)) dX7_printAt_12 ⟨Nat.le_of_ble_eq_true rfl, Nat.le_of_ble_eq_true rfl⟩) (Nat.le_of_ble_eq_true rfl) (Nat.le_of_ble_eq_true rfl) (fun H locs hF hP hS => ?_)
  refine lv_aload hx hb dX7_printAt_15 (lv_at hl 0 rfl) ?_
  exact hF.elim
end
section
noncomputable def PX7_count (N : Nat) (M : mb_m) (f1 : (Nat → Option Nat)) (o2 : Nat) (M_2 : mb_m) (x1 x2 : Int32) (K : Int32 → (mb_m × (Nat → Option Nat) × mb_m) → Prop) (KX : String → (mb_m × (Nat → Option Nat) × mb_m) → Prop) : Prop := PX7_printOf N M f1 x1 (fun r2 u2 => PX7_isWithin N x2 (-1 : Int32) (5 : Int32) (fun r9 _ => PX7_demandArgument N r9 (fun _ => r2 = o2 ∧ (PX2_cellsWith N M_2 x2 (fun r17 u17 => K r17 ((u2.1), (u2.2), u17)))) (fun E _ => KX E ((u2.1), (u2.2), M_2)))) (fun E u2 => KX E ((u2.1), (u2.2), M_2))
set_option maxHeartbeats 4000000 in
set_option maxRecDepth 100000 in
theorem cnX7_count (l : Launch) (hl0 : l.stackTraces = false) (D : va_G) (Y : Nat → ClassId) (N : Nat) (o : Nat) (a : Nat → Nat) (M : mb_m) (f1 : (Nat → Option Nat)) (o2 : Nat) (a2 : Nat → Nat) (M_2 : mb_m) (sz : Nat) (x1 x2 : Int32) (K : Int32 → (mb_m × (Nat → Option Nat) × mb_m) → Prop) (KX : String → (mb_m × (Nat → Option Nat) × mb_m) → Prop) (hF : PX7_count N M f1 o2 M_2 x1 x2 K KX) : vx_Met l yX7_count wsX7_count ({ frames := 7, cells := 2, slots := 12, locals := 112 } : Room) (va_Pc [.ref o, .int x1, .int x2] (mb_BX D Y (gw7 Y o a M ++ grP Y (a 1) f1 ++ gw2 Y o2 a2 M_2) sz)) (va_Qi K (fun u t => mb_T D (va_A (gw7 Y o a M ++ grP Y (a 1) f1 ++ gw2 Y o2 a2 M_2) sz) (gw7 Y o a u.1 ++ grP Y (a 1) u.2.1 ++ gw2 Y o2 a2 u.2.2) t) (va_A (gw7 Y o a M ++ grP Y (a 1) f1 ++ gw2 Y o2 a2 M_2) sz)) (mb_XC D (va_A (gw7 Y o a M ++ grP Y (a 1) f1 ++ gw2 Y o2 a2 M_2) sz) KX (fun u : mb_m × (Nat → Option Nat) × mb_m => gw7 Y o a u.1 ++ grP Y (a 1) u.2.1 ++ gw2 Y o2 a2 u.2.2)) 2 12 (va_A (gw7 Y o a M ++ grP Y (a 1) f1 ++ gw2 Y o2 a2 M_2) sz) := by
  refine mbx_begin (cc := cX7_count) (maxL := 4) (ret := (some .int)) hl0 (by decide +kernel) rfl (Nat.le_of_ble_eq_true rfl) ?_
  intro p e s m below meth c ls C hsz hnm hP hD hl
  generalize hAe : va_A (gw7 Y o a M ++ grP Y (a 1) f1 ++ gw2 Y o2 a2 M_2) sz = A at C hD ⊢
  have C : mb_CX l p s m meth c ([.ref o, .int x1, .int x2] : List Value).toArray cX7_count 4 (some .int) wsX7_count RX7 D Y A := C
  obtain ⟨⟨hx, hb, hr, hml, hts, hown, hlocks, hA, hG⟩, hT, hX, hl0⟩ := id C
  have hK := hG.1
  have hS : va_S A s.heap s.heap [] := va_S.rf
  have hl : lv_has ls 4 [(0, .ref o), (1, .int x1), (2, .int x2)] := hl
  refine lv_aload_n hx hb dX7_count_0 rfl (lv_at hl 0 rfl) ?_
  refine lv_iload_n hx hb dX7_count_1 rfl (lv_at hl 1 rfl) ?_
  have hPc := hP.sub (ws' := gw7 Y o a M ++ grP Y (a 1) f1) [0, 1] rfl
  have hDc := hD.sub (ws' := gw7 Y o a M ++ grP Y (a 1) f1) [0, 1] (by decide) rfl
  refine mbx_cPr (S := mb_m × (Nat → Option Nat) × mb_m) (wf := fun u => gw7 Y o a u.1 ++ grP Y (a 1) u.2.1 ++ gw2 Y o2 a2 u.2.2) (wc := gw7 Y o a M ++ grP Y (a 1) f1) (wr := gw2 Y o2 a2 M_2) C hP hD hS [0, 1] [2, 3] rfl rfl (by decide) (by decide) (vx_runV (As := [.int x1]) (rest := []) ⟨hx, hb, hml, hown, hts⟩ (cnX7_printOf l C.2.2.2 D Y N o a M f1 _ x1 _ _ hF) (cwV 1 hts gX7_count_X7_printOf rfl rfl rfl (by decide +kernel) ⟨Nat.le_of_ble_eq_true rfl, Nat.le_of_ble_eq_true rfl⟩) (mbx_preV C hPc hDc hS 0 rfl rfl) rfl rfl hl.1 rfl (lv_room (Nat.le_of_ble_eq_true rfl)) dX7_count_2 ⟨Nat.le_of_ble_eq_true rfl, Nat.le_of_ble_eq_true rfl⟩) (Nat.le_of_ble_eq_true rfl) (Nat.le_of_ble_eq_true rfl) (fun E u2 H hF hP hD => ⟨((u2.1), (u2.2), M_2), hF, hP.sub (ws' := gw7 Y o a (u2.1) ++ grP Y (a 1) (u2.2) ++ gw2 Y o2 a2 M_2) [2, 3, 0, 1] rfl, hD.sub (ws' := gw7 Y o a (u2.1) ++ grP Y (a 1) (u2.2) ++ gw2 Y o2 a2 M_2) [2, 3, 0, 1] (by decide) rfl⟩) (fun r2 u2 H locs hF hP hD hS => ?_)
  have hP := hP.sub (ws' := gw7 Y o a (u2.1) ++ grP Y (a 1) (u2.2) ++ gw2 Y o2 a2 M_2) [2, 3, 0, 1] rfl
  have hD := hD.sub (ws' := gw7 Y o a (u2.1) ++ grP Y (a 1) (u2.2) ++ gw2 Y o2 a2 M_2) [2, 3, 0, 1] (by decide) rfl
  refine lv_astore_n (lv' := [(3, .ref r2), (0, .ref o), (1, .int x1), (2, .int x2)]) hx hb dX7_count_5 rfl hl (by decide) rfl (fun ls hl => ?_)
  refine lv_iload_n hx hb dX7_count_6 rfl (lv_at hl 3 rfl) ?_
  refine lv_iconst (v := -1) hx hb dX7_count_7 (by decide) ?_
  refine lv_iconst (v := 5) hx hb dX7_count_8 (by decide) ?_
  refine mb_cE hP hS hA (va_runS (As := [.int x2, .int (-1 : Int32), .int (5 : Int32)]) (rest := []) ⟨hx, hb, hml, hown, hts⟩ (cnX7_isWithin l D Y N _ x2 (-1 : Int32) (5 : Int32) _ hF) (va_cwS 3 hts gX7_count_X7_isWithin rfl rfl rfl (by decide +kernel) ⟨Nat.le_of_ble_eq_true rfl, Nat.le_of_ble_eq_true rfl⟩) (mb_preS (A := A) hG mb_P0 mb_D0) rfl rfl hl.1 rfl (lv_room (Nat.le_of_ble_eq_true rfl)) dX7_count_9 ⟨Nat.le_of_ble_eq_true rfl, Nat.le_of_ble_eq_true rfl⟩) (fun r9 H locs hF hP hS => ?_)
  refine mbx_cEv (S := mb_m × (Nat → Option Nat) × mb_m) (wf := fun u => gw7 Y o a u.1 ++ grP Y (a 1) u.2.1 ++ gw2 Y o2 a2 u.2.2) C ((u2.1), (u2.2), M_2) hP hD hS (vx_runS (As := [.int r9]) (rest := []) ⟨hx, hb, hml, hown, hts⟩ (cnX7_demandArgument l C.2.2.2 D Y N _ r9 _ _ hF) (va_cwS 1 hts gX7_count_X7_demandArgument rfl rfl rfl (by decide +kernel) ⟨Nat.le_of_ble_eq_true rfl, Nat.le_of_ble_eq_true rfl⟩) (mbx_preS C mb_P0 mb_D0 hS) rfl rfl hl.1 rfl (lv_room (Nat.le_of_ble_eq_true rfl)) dX7_count_12 ⟨Nat.le_of_ble_eq_true rfl, Nat.le_of_ble_eq_true rfl⟩) (Nat.le_of_ble_eq_true rfl) (Nat.le_of_ble_eq_true rfl) (fun H locs hF hP hS => ?_)
  refine lv_aload_n hx hb dX7_count_15 rfl (lv_at hl 0 rfl) ?_
  refine lv_iload_n hx hb dX7_count_16 rfl (lv_at hl 3 rfl) ?_
  obtain ⟨hq17, hF⟩ := hF
  try rw [hq17] at hl
  try rw [hq17]
  have hPc := hP.sub (ws' := gw2 Y o2 a2 M_2) [2, 3] rfl
  have hDc := hD.sub (ws' := gw2 Y o2 a2 M_2) [2, 3] (by decide) rfl
  refine mb_cP (wc := gw2 Y o2 a2 M_2) (wr := gw7 Y o a (u2.1) ++ grP Y (a 1) (u2.2)) hP hD hS hA [2, 3] [0, 1] rfl rfl (by decide) (by decide) (va_runV (As := [.int x2]) (rest := []) ⟨hx, hb, hml, hown, hts⟩ (cnX2_cellsWith l D Y N o2 a2 M_2 _ x2 _ hF) (cwV 1 hts gX7_count_X2_cellsWith rfl rfl rfl (by decide +kernel) ⟨Nat.le_of_ble_eq_true rfl, Nat.le_of_ble_eq_true rfl⟩) (mb_preV hG hPc hDc 0 rfl rfl) rfl rfl hl.1 rfl (lv_room (Nat.le_of_ble_eq_true rfl)) dX7_count_17 ⟨Nat.le_of_ble_eq_true rfl, Nat.le_of_ble_eq_true rfl⟩) (fun r17 u17 H locs hF hP hD hS => ?_)
  have hP := hP.sub (ws' := gw7 Y o a (u2.1) ++ grP Y (a 1) (u2.2) ++ gw2 Y o2 a2 u17) [0, 1, 2, 3] rfl
  have hD := hD.sub (ws' := gw7 Y o a (u2.1) ++ grP Y (a 1) (u2.2) ++ gw2 Y o2 a2 u17) [0, 1, 2, 3] (by decide) rfl
  refine vx_ret ?_
  exact mb_ri (S := mb_m × (Nat → Option Nat) × mb_m) (mc := 2) (ms := 12) (wf := fun u => gw7 Y o a u.1 ++ grP Y (a 1) u.2.1 ++ gw2 Y o2 a2 u.2.2) C.1 rfl (u := ((u2.1), (u2.2), u17)) hF hP hD hS dX7_count_20 (Nat.le_of_ble_eq_true rfl) (Nat.le_of_ble_eq_true rfl)
end
section
noncomputable def PX7_count_n (N : Nat) (M : mb_m) (f1 : (Nat → Option Nat)) (x1 x2 : Int32) (K : Int32 → (mb_m × (Nat → Option Nat)) → Prop) (KX : String → (mb_m × (Nat → Option Nat)) → Prop) : Prop := PX7_printOf N M f1 x1 (fun r2 u2 => PX7_isWithin N x2 (-1 : Int32) (5 : Int32) (fun r9 _ => PX7_demandArgument N r9 (fun _ => False) (fun E _ => KX E ((u2.1), (u2.2))))) (fun E u2 => KX E ((u2.1), (u2.2)))
set_option maxHeartbeats 4000000 in
set_option maxRecDepth 100000 in
theorem cnX7_count_n (l : Launch) (hl0 : l.stackTraces = false) (D : va_G) (Y : Nat → ClassId) (N : Nat) (o : Nat) (a : Nat → Nat) (M : mb_m) (f1 : (Nat → Option Nat)) (sz : Nat) (x1 x2 : Int32) (K : Int32 → (mb_m × (Nat → Option Nat)) → Prop) (KX : String → (mb_m × (Nat → Option Nat)) → Prop) (hF : PX7_count_n N M f1 x1 x2 K KX) : vx_Met l yX7_count wsX7_count ({ frames := 7, cells := 2, slots := 12, locals := 112 } : Room) (va_Pc [.ref o, .int x1, .int x2] (mb_BX D Y (gw7 Y o a M ++ grP Y (a 1) f1) sz)) (va_Qi K (fun u t => mb_T D (va_A (gw7 Y o a M ++ grP Y (a 1) f1) sz) (gw7 Y o a u.1 ++ grP Y (a 1) u.2) t) (va_A (gw7 Y o a M ++ grP Y (a 1) f1) sz)) (mb_XC D (va_A (gw7 Y o a M ++ grP Y (a 1) f1) sz) KX (fun u : mb_m × (Nat → Option Nat) => gw7 Y o a u.1 ++ grP Y (a 1) u.2)) 2 12 (va_A (gw7 Y o a M ++ grP Y (a 1) f1) sz) := by
  refine mbx_begin (cc := cX7_count) (maxL := 4) (ret := (some .int)) hl0 (by decide +kernel) rfl (Nat.le_of_ble_eq_true rfl) ?_
  intro p e s m below meth c ls C hsz hnm hP hD hl
  generalize hAe : va_A (gw7 Y o a M ++ grP Y (a 1) f1) sz = A at C hD ⊢
  have C : mb_CX l p s m meth c ([.ref o, .int x1, .int x2] : List Value).toArray cX7_count 4 (some .int) wsX7_count RX7 D Y A := C
  obtain ⟨⟨hx, hb, hr, hml, hts, hown, hlocks, hA, hG⟩, hT, hX, hl0⟩ := id C
  have hK := hG.1
  have hS : va_S A s.heap s.heap [] := va_S.rf
  have hl : lv_has ls 4 [(0, .ref o), (1, .int x1), (2, .int x2)] := hl
  refine lv_aload_n hx hb dX7_count_0 rfl (lv_at hl 0 rfl) ?_
  refine lv_iload_n hx hb dX7_count_1 rfl (lv_at hl 1 rfl) ?_
  have hPc := hP.sub (ws' := gw7 Y o a M ++ grP Y (a 1) f1) [0, 1] rfl
  have hDc := hD.sub (ws' := gw7 Y o a M ++ grP Y (a 1) f1) [0, 1] (by decide) rfl
  refine mbx_cPr (S := mb_m × (Nat → Option Nat)) (wf := fun u => gw7 Y o a u.1 ++ grP Y (a 1) u.2) (wc := gw7 Y o a M ++ grP Y (a 1) f1) (wr := ([] : va_W)) C hP hD hS [0, 1] [] rfl rfl (by decide) (by decide) (vx_runV (As := [.int x1]) (rest := []) ⟨hx, hb, hml, hown, hts⟩ (cnX7_printOf l C.2.2.2 D Y N o a M f1 _ x1 _ _ hF) (cwV 1 hts gX7_count_X7_printOf rfl rfl rfl (by decide +kernel) ⟨Nat.le_of_ble_eq_true rfl, Nat.le_of_ble_eq_true rfl⟩) (mbx_preV C hPc hDc hS 0 rfl rfl) rfl rfl hl.1 rfl (lv_room (Nat.le_of_ble_eq_true rfl)) dX7_count_2 ⟨Nat.le_of_ble_eq_true rfl, Nat.le_of_ble_eq_true rfl⟩) (Nat.le_of_ble_eq_true rfl) (Nat.le_of_ble_eq_true rfl) (fun E u2 H hF hP hD => ⟨((u2.1), (u2.2)), hF, hP.sub (ws' := gw7 Y o a (u2.1) ++ grP Y (a 1) (u2.2)) [0, 1] rfl, hD.sub (ws' := gw7 Y o a (u2.1) ++ grP Y (a 1) (u2.2)) [0, 1] (by decide) rfl⟩) (fun r2 u2 H locs hF hP hD hS => ?_)
  have hP := hP.sub (ws' := gw7 Y o a (u2.1) ++ grP Y (a 1) (u2.2)) [0, 1] rfl
  have hD := hD.sub (ws' := gw7 Y o a (u2.1) ++ grP Y (a 1) (u2.2)) [0, 1] (by decide) rfl
  refine lv_astore_n (lv' := [(3, .ref r2), (0, .ref o), (1, .int x1), (2, .int x2)]) hx hb dX7_count_5 rfl hl (by decide) rfl (fun ls hl => ?_)
  refine lv_iload_n hx hb dX7_count_6 rfl (lv_at hl 3 rfl) ?_
  refine lv_iconst (v := -1) hx hb dX7_count_7 (by decide) ?_
  refine lv_iconst (v := 5) hx hb dX7_count_8 (by decide) ?_
  refine mb_cE hP hS hA (va_runS (As := [.int x2, .int (-1 : Int32), .int (5 : Int32)]) (rest := []) ⟨hx, hb, hml, hown, hts⟩ (cnX7_isWithin l D Y N _ x2 (-1 : Int32) (5 : Int32) _ hF) (va_cwS 3 hts gX7_count_X7_isWithin rfl rfl rfl (by decide +kernel) ⟨Nat.le_of_ble_eq_true rfl, Nat.le_of_ble_eq_true rfl⟩) (mb_preS (A := A) hG mb_P0 mb_D0) rfl rfl hl.1 rfl (lv_room (Nat.le_of_ble_eq_true rfl)) dX7_count_9 ⟨Nat.le_of_ble_eq_true rfl, Nat.le_of_ble_eq_true rfl⟩) (fun r9 H locs hF hP hS => ?_)
  refine mbx_cEv (S := mb_m × (Nat → Option Nat)) (wf := fun u => gw7 Y o a u.1 ++ grP Y (a 1) u.2) C ((u2.1), (u2.2)) hP hD hS (vx_runS (As := [.int r9]) (rest := []) ⟨hx, hb, hml, hown, hts⟩ (cnX7_demandArgument l C.2.2.2 D Y N _ r9 _ _ hF) (va_cwS 1 hts gX7_count_X7_demandArgument rfl rfl rfl (by decide +kernel) ⟨Nat.le_of_ble_eq_true rfl, Nat.le_of_ble_eq_true rfl⟩) (mbx_preS C mb_P0 mb_D0 hS) rfl rfl hl.1 rfl (lv_room (Nat.le_of_ble_eq_true rfl)) dX7_count_12 ⟨Nat.le_of_ble_eq_true rfl, Nat.le_of_ble_eq_true rfl⟩) (Nat.le_of_ble_eq_true rfl) (Nat.le_of_ble_eq_true rfl) (fun H locs hF hP hS => ?_)
  refine lv_aload_n hx hb dX7_count_15 rfl (lv_at hl 0 rfl) ?_
  refine lv_iload_n hx hb dX7_count_16 rfl (lv_at hl 3 rfl) ?_
  exact hF.elim
end
section
noncomputable def PX7_pageAt_43 (N : Nat) (K : Int32 → mb_m → Prop) (KX : String → mb_m → Prop) (M : mb_m) (x1 x2 x3 x4 y0 : Int32) : Prop := PX7_demandArgument N y0 (fun _ => PX7_foldedPage N x1 x2 x3 x4 (fun r51 _ => K r51 M)) (fun E _ => KX E M)
set_option maxHeartbeats 4000000 in
set_option maxRecDepth 100000 in
theorem wX7_pageAt_43 {p : Program} {l : Launch} {e : Env} {s : State} {m : MethodId} {below : List Frame} {meth : Method} {c : Code} {args : Array Value} {D : va_G} {Y : Nat → ClassId} {A : Nat → Prop} {o : Nat} {a : Nat → Nat} {N : Nat} {K : Int32 → mb_m → Prop} {KX : String → mb_m → Prop} (C : mb_CX l p s m meth c args cX7_pageAt 5 (some .int) wsX7_pageAt RX7 D Y A) : ∀ (M : mb_m) (x1 x2 x3 x4 y0 : Int32) (H : Heap) (locs : List Loc) (ls : Array Slot), PX7_pageAt_43 N K KX  M x1 x2 x3 x4 y0 → va_P D vwCl (gw7 Y o a M) H → va_D A (gw7 Y o a M) → va_S A s.heap H locs → lv_has ls 5 [(1, .int x1), (2, .int x2), (3, .int x3), (4, .int x4)] → W p l e ({ frames := 7, cells := 2, slots := 12, locals := 110 } : Room) s m args below meth c H locs 1 6 (vx_MQ below (va_Qi K (fun u t => mb_T D A (gw7 Y o a u) t) A) (mb_XC D A KX (fun u : mb_m => gw7 Y o a u)) args s 2 12 A) (F0 m 43 ls [.int y0]) := by
  obtain ⟨⟨hx, hb, hr, hml, hts, hown, hlocks, hA, hG⟩, hT, hX, hl0⟩ := id C
  have hK := hG.1
  intro M x1 x2 x3 x4 y0 H locs ls hF hP hD hS hl
  refine mbx_cEv (S := mb_m) (wf := fun u => gw7 Y o a u) C M hP hD hS (vx_runS (As := [.int y0]) (rest := []) ⟨hx, hb, hml, hown, hts⟩ (cnX7_demandArgument l C.2.2.2 D Y N _ y0 _ _ hF) (va_cwS 1 hts gX7_pageAt_X7_demandArgument rfl rfl rfl (by decide +kernel) ⟨Nat.le_of_ble_eq_true rfl, Nat.le_of_ble_eq_true rfl⟩) (mbx_preS C mb_P0 mb_D0 hS) rfl rfl hl.1 rfl (lv_room (Nat.le_of_ble_eq_true rfl)) dX7_pageAt_43 ⟨Nat.le_of_ble_eq_true rfl, Nat.le_of_ble_eq_true rfl⟩) (Nat.le_of_ble_eq_true rfl) (Nat.le_of_ble_eq_true rfl) (fun H locs hF hP hS => ?_)
  refine lv_iload_n hx hb dX7_pageAt_46 rfl (lv_at hl 0 rfl) ?_
  refine lv_iload_n hx hb dX7_pageAt_47 rfl (lv_at hl 1 rfl) ?_
  refine lv_iload_n hx hb dX7_pageAt_48 rfl (lv_at hl 2 rfl) ?_
  refine lv_iload hx hb dX7_pageAt_49 (lv_at hl 3 rfl) ?_
  refine mb_cE hP hS hA (va_runS (As := [.int x1, .int x2, .int x3, .int x4]) (rest := []) ⟨hx, hb, hml, hown, hts⟩ (cnX7_foldedPage l D Y N _ x1 x2 x3 x4 _ hF) (va_cwS 4 hts gX7_pageAt_X7_foldedPage rfl rfl rfl (by decide +kernel) ⟨Nat.le_of_ble_eq_true rfl, Nat.le_of_ble_eq_true rfl⟩) (mb_preS (A := A) hG mb_P0 mb_D0) rfl rfl hl.1 rfl (lv_room (Nat.le_of_ble_eq_true rfl)) dX7_pageAt_51 ⟨Nat.le_of_ble_eq_true rfl, Nat.le_of_ble_eq_true rfl⟩) (fun r51 H locs hF hP hS => ?_)
  refine vx_ret ?_
  exact mb_ri (S := mb_m) (mc := 2) (ms := 12) (wf := fun u => gw7 Y o a u) C.1 rfl (u := M) hF hP hD hS dX7_pageAt_54 (Nat.le_of_ble_eq_true rfl) (Nat.le_of_ble_eq_true rfl)
noncomputable def PX7_pageAt_42 (N : Nat) (K : Int32 → mb_m → Prop) (KX : String → mb_m → Prop) (M : mb_m) (x1 x2 x3 x4 : Int32) : Prop := PX7_pageAt_43 N K KX M x1 x2 x3 x4 (0 : Int32)
set_option maxHeartbeats 4000000 in
set_option maxRecDepth 100000 in
theorem wX7_pageAt_42 {p : Program} {l : Launch} {e : Env} {s : State} {m : MethodId} {below : List Frame} {meth : Method} {c : Code} {args : Array Value} {D : va_G} {Y : Nat → ClassId} {A : Nat → Prop} {o : Nat} {a : Nat → Nat} {N : Nat} {K : Int32 → mb_m → Prop} {KX : String → mb_m → Prop} (C : mb_CX l p s m meth c args cX7_pageAt 5 (some .int) wsX7_pageAt RX7 D Y A) : ∀ (M : mb_m) (x1 x2 x3 x4 : Int32) (H : Heap) (locs : List Loc) (ls : Array Slot), PX7_pageAt_42 N K KX  M x1 x2 x3 x4 → va_P D vwCl (gw7 Y o a M) H → va_D A (gw7 Y o a M) → va_S A s.heap H locs → lv_has ls 5 [(1, .int x1), (2, .int x2), (3, .int x3), (4, .int x4)] → W p l e ({ frames := 7, cells := 2, slots := 12, locals := 110 } : Room) s m args below meth c H locs 1 6 (vx_MQ below (va_Qi K (fun u t => mb_T D A (gw7 Y o a u) t) A) (mb_XC D A KX (fun u : mb_m => gw7 Y o a u)) args s 2 12 A) (F0 m 42 ls []) := by
  obtain ⟨⟨hx, hb, hr, hml, hts, hown, hlocks, hA, hG⟩, hT, hX, hl0⟩ := id C
  have hK := hG.1
  intro M x1 x2 x3 x4 H locs ls hF hP hD hS hl
  refine lv_iconst (v := 0) hx hb dX7_pageAt_42 (by decide) ?_
  exact wX7_pageAt_43 C M x1 x2 x3 x4 (0 : Int32) _ _ _ hF hP hD hS (lv_sub hl [0, 1, 2, 3] rfl)
noncomputable def PX7_pageAt (N : Nat) (M : mb_m) (x1 x2 x3 x4 : Int32) (K : Int32 → mb_m → Prop) (KX : String → mb_m → Prop) : Prop := PX7_isWithin N x1 (1 : Int32) (4 : Int32) (fun r3 _ => PX7_demandArgument N r3 (fun _ => PX7_columnsOf N x1 (fun r12 _ => PX7_isWithin N x3 (0 : Int32) (r12 - (1 : Int32)) (fun r17 _ => (r17 = 0 → PX7_pageAt_42 N K KX M x1 x2 x3 x4) ∧ (¬ r17 = 0 → PX7_rowsOf N x1 (fun r27 _ => PX7_isWithin N x4 (0 : Int32) (r27 - (1 : Int32)) (fun r32 _ => (r32 = 0 → PX7_pageAt_42 N K KX M x1 x2 x3 x4) ∧ (¬ r32 = 0 → PX7_pageAt_43 N K KX M x1 x2 x3 x4 (1 : Int32)))))))) (fun E _ => KX E M))
set_option maxHeartbeats 4000000 in
set_option maxRecDepth 100000 in
theorem cnX7_pageAt (l : Launch) (hl0 : l.stackTraces = false) (D : va_G) (Y : Nat → ClassId) (N : Nat) (o : Nat) (a : Nat → Nat) (M : mb_m) (sz : Nat) (x1 x2 x3 x4 : Int32) (K : Int32 → mb_m → Prop) (KX : String → mb_m → Prop) (hF : PX7_pageAt N M x1 x2 x3 x4 K KX) : vx_Met l yX7_pageAt wsX7_pageAt ({ frames := 7, cells := 2, slots := 12, locals := 110 } : Room) (va_Pc [.ref o, .int x1, .int x2, .int x3, .int x4] (mb_BX D Y (gw7 Y o a M) sz)) (va_Qi K (fun u t => mb_T D (va_A (gw7 Y o a M) sz) (gw7 Y o a u) t) (va_A (gw7 Y o a M) sz)) (mb_XC D (va_A (gw7 Y o a M) sz) KX (fun u : mb_m => gw7 Y o a u)) 2 12 (va_A (gw7 Y o a M) sz) := by
  refine mbx_begin (cc := cX7_pageAt) (maxL := 5) (ret := (some .int)) hl0 (by decide +kernel) rfl (Nat.le_of_ble_eq_true rfl) ?_
  intro p e s m below meth c ls C hsz hnm hP hD hl
  generalize hAe : va_A (gw7 Y o a M) sz = A at C hD ⊢
  have C : mb_CX l p s m meth c ([.ref o, .int x1, .int x2, .int x3, .int x4] : List Value).toArray cX7_pageAt 5 (some .int) wsX7_pageAt RX7 D Y A := C
  obtain ⟨⟨hx, hb, hr, hml, hts, hown, hlocks, hA, hG⟩, hT, hX, hl0⟩ := id C
  have hK := hG.1
  have hS : va_S A s.heap s.heap [] := va_S.rf
  have hl : lv_has ls 5 [(0, .ref o), (1, .int x1), (2, .int x2), (3, .int x3), (4, .int x4)] := hl
  refine lv_iload_n hx hb dX7_pageAt_0 rfl (lv_at hl 1 rfl) ?_
  refine lv_iconst (v := 1) hx hb dX7_pageAt_1 (by decide) ?_
  refine lv_iconst (v := 4) hx hb dX7_pageAt_2 (by decide) ?_
  refine mb_cE hP hS hA (va_runS (As := [.int x1, .int (1 : Int32), .int (4 : Int32)]) (rest := []) ⟨hx, hb, hml, hown, hts⟩ (cnX7_isWithin l D Y N _ x1 (1 : Int32) (4 : Int32) _ hF) (va_cwS 3 hts gX7_pageAt_X7_isWithin rfl rfl rfl (by decide +kernel) ⟨Nat.le_of_ble_eq_true rfl, Nat.le_of_ble_eq_true rfl⟩) (mb_preS (A := A) hG mb_P0 mb_D0) rfl rfl hl.1 rfl (lv_room (Nat.le_of_ble_eq_true rfl)) dX7_pageAt_3 ⟨Nat.le_of_ble_eq_true rfl, Nat.le_of_ble_eq_true rfl⟩) (fun r3 H locs hF hP hS => ?_)
  refine mbx_cEv (S := mb_m) (wf := fun u => gw7 Y o a u) C M hP hD hS (vx_runS (As := [.int r3]) (rest := []) ⟨hx, hb, hml, hown, hts⟩ (cnX7_demandArgument l C.2.2.2 D Y N _ r3 _ _ hF) (va_cwS 1 hts gX7_pageAt_X7_demandArgument rfl rfl rfl (by decide +kernel) ⟨Nat.le_of_ble_eq_true rfl, Nat.le_of_ble_eq_true rfl⟩) (mbx_preS C mb_P0 mb_D0 hS) rfl rfl hl.1 rfl (lv_room (Nat.le_of_ble_eq_true rfl)) dX7_pageAt_6 ⟨Nat.le_of_ble_eq_true rfl, Nat.le_of_ble_eq_true rfl⟩) (Nat.le_of_ble_eq_true rfl) (Nat.le_of_ble_eq_true rfl) (fun H locs hF hP hS => ?_)
  refine lv_iload_n hx hb dX7_pageAt_9 rfl (lv_at hl 3 rfl) ?_
  refine lv_iconst (v := 0) hx hb dX7_pageAt_10 (by decide) ?_
  refine lv_iload_n hx hb dX7_pageAt_11 rfl (lv_at hl 1 rfl) ?_
  refine mb_cE hP hS hA (va_runS (As := [.int x1]) (rest := [.int (0 : Int32), .int x3]) ⟨hx, hb, hml, hown, hts⟩ (cnX7_columnsOf l D Y N _ x1 _ hF) (va_cwS 1 hts gX7_pageAt_X7_columnsOf rfl rfl rfl (by decide +kernel) ⟨Nat.le_of_ble_eq_true rfl, Nat.le_of_ble_eq_true rfl⟩) (mb_preS (A := A) hG mb_P0 mb_D0) rfl rfl hl.1 rfl (lv_room (Nat.le_of_ble_eq_true rfl)) dX7_pageAt_12 ⟨Nat.le_of_ble_eq_true rfl, Nat.le_of_ble_eq_true rfl⟩) (fun r12 H locs hF hP hS => ?_)
  refine lv_iconst (v := 1) hx hb dX7_pageAt_15 (by decide) ?_
  refine lv_isub hx hb dX7_pageAt_16 ?_
  refine mb_cE hP hS hA (va_runS (As := [.int x3, .int (0 : Int32), .int (r12 - (1 : Int32))]) (rest := []) ⟨hx, hb, hml, hown, hts⟩ (cnX7_isWithin l D Y N _ x3 (0 : Int32) (r12 - (1 : Int32)) _ hF) (va_cwS 3 hts gX7_pageAt_X7_isWithin rfl rfl rfl (by decide +kernel) ⟨Nat.le_of_ble_eq_true rfl, Nat.le_of_ble_eq_true rfl⟩) (mb_preS (A := A) hG mb_P0 mb_D0) rfl rfl hl.1 rfl (lv_room (Nat.le_of_ble_eq_true rfl)) dX7_pageAt_17 ⟨Nat.le_of_ble_eq_true rfl, Nat.le_of_ble_eq_true rfl⟩) (fun r17 H locs hF hP hS => ?_)
  refine lv_if_eq (tgt := 42) hx hb dX7_pageAt_20 (by decide) (fun c_20 => ?_) (fun c_20 => ?_)
  · have hF := hF.1 c_20
    exact wX7_pageAt_42 C M x1 x2 x3 x4 _ _ _ hF hP hD hS (lv_sub hl [1, 2, 3, 4] rfl)
  · have hF := hF.2 c_20
    refine lv_iload hx hb dX7_pageAt_23 (lv_at hl 4 rfl) ?_
    refine lv_iconst (v := 0) hx hb dX7_pageAt_25 (by decide) ?_
    refine lv_iload_n hx hb dX7_pageAt_26 rfl (lv_at hl 1 rfl) ?_
    refine mb_cE hP hS hA (va_runS (As := [.int x1]) (rest := [.int (0 : Int32), .int x4]) ⟨hx, hb, hml, hown, hts⟩ (cnX7_rowsOf l D Y N _ x1 _ hF) (va_cwS 1 hts gX7_pageAt_X7_rowsOf rfl rfl rfl (by decide +kernel) ⟨Nat.le_of_ble_eq_true rfl, Nat.le_of_ble_eq_true rfl⟩) (mb_preS (A := A) hG mb_P0 mb_D0) rfl rfl hl.1 rfl (lv_room (Nat.le_of_ble_eq_true rfl)) dX7_pageAt_27 ⟨Nat.le_of_ble_eq_true rfl, Nat.le_of_ble_eq_true rfl⟩) (fun r27 H locs hF hP hS => ?_)
    refine lv_iconst (v := 1) hx hb dX7_pageAt_30 (by decide) ?_
    refine lv_isub hx hb dX7_pageAt_31 ?_
    refine mb_cE hP hS hA (va_runS (As := [.int x4, .int (0 : Int32), .int (r27 - (1 : Int32))]) (rest := []) ⟨hx, hb, hml, hown, hts⟩ (cnX7_isWithin l D Y N _ x4 (0 : Int32) (r27 - (1 : Int32)) _ hF) (va_cwS 3 hts gX7_pageAt_X7_isWithin rfl rfl rfl (by decide +kernel) ⟨Nat.le_of_ble_eq_true rfl, Nat.le_of_ble_eq_true rfl⟩) (mb_preS (A := A) hG mb_P0 mb_D0) rfl rfl hl.1 rfl (lv_room (Nat.le_of_ble_eq_true rfl)) dX7_pageAt_32 ⟨Nat.le_of_ble_eq_true rfl, Nat.le_of_ble_eq_true rfl⟩) (fun r32 H locs hF hP hS => ?_)
    refine lv_if_eq (tgt := 42) hx hb dX7_pageAt_35 (by decide) (fun c_35 => ?_) (fun c_35 => ?_)
    · have hF := hF.1 c_35
      exact wX7_pageAt_42 C M x1 x2 x3 x4 _ _ _ hF hP hD hS (lv_sub hl [1, 2, 3, 4] rfl)
    · have hF := hF.2 c_35
      refine lv_iconst (v := 1) hx hb dX7_pageAt_38 (by decide) ?_
      refine lv_goto (tgt := 43) hx hb dX7_pageAt_39 (by decide) ?_
      exact wX7_pageAt_43 C M x1 x2 x3 x4 (1 : Int32) _ _ _ hF hP hD hS (lv_sub hl [1, 2, 3, 4] rfl)
end
section
noncomputable def PX7_placeOf (N : Nat) (M : mb_m) (x1 x2 : Int32) (K : Int32 → mb_m → Prop) (KX : String → mb_m → Prop) : Prop := PX7_isWithin N x1 (1 : Int32) (4 : Int32) (fun r3 _ => PX7_demandArgument N r3 (fun _ => PX7_columnsOf N x1 (fun r13 _ => PX7_rowsOf N x1 (fun r18 _ => PX7_isWithin N x2 (1 : Int32) (((2 : Int32) * r13) * r18) (fun r22 _ => PX7_demandArgument N r22 (fun _ => PX7_unfoldedPlace N x1 x2 (fun r30 _ => K r30 M)) (fun E _ => KX E M))))) (fun E _ => KX E M))
set_option maxHeartbeats 4000000 in
set_option maxRecDepth 100000 in
theorem cnX7_placeOf (l : Launch) (hl0 : l.stackTraces = false) (D : va_G) (Y : Nat → ClassId) (N : Nat) (o : Nat) (a : Nat → Nat) (M : mb_m) (sz : Nat) (x1 x2 : Int32) (K : Int32 → mb_m → Prop) (KX : String → mb_m → Prop) (hF : PX7_placeOf N M x1 x2 K KX) : vx_Met l yX7_placeOf wsX7_placeOf ({ frames := 7, cells := 2, slots := 12, locals := 110 } : Room) (va_Pc [.ref o, .int x1, .int x2] (mb_BX D Y (gw7 Y o a M) sz)) (va_Qi K (fun u t => mb_T D (va_A (gw7 Y o a M) sz) (gw7 Y o a u) t) (va_A (gw7 Y o a M) sz)) (mb_XC D (va_A (gw7 Y o a M) sz) KX (fun u : mb_m => gw7 Y o a u)) 2 12 (va_A (gw7 Y o a M) sz) := by
  refine mbx_begin (cc := cX7_placeOf) (maxL := 3) (ret := (some .int)) hl0 (by decide +kernel) rfl (Nat.le_of_ble_eq_true rfl) ?_
  intro p e s m below meth c ls C hsz hnm hP hD hl
  generalize hAe : va_A (gw7 Y o a M) sz = A at C hD ⊢
  have C : mb_CX l p s m meth c ([.ref o, .int x1, .int x2] : List Value).toArray cX7_placeOf 3 (some .int) wsX7_placeOf RX7 D Y A := C
  obtain ⟨⟨hx, hb, hr, hml, hts, hown, hlocks, hA, hG⟩, hT, hX, hl0⟩ := id C
  have hK := hG.1
  have hS : va_S A s.heap s.heap [] := va_S.rf
  have hl : lv_has ls 3 [(0, .ref o), (1, .int x1), (2, .int x2)] := hl
  refine lv_iload_n hx hb dX7_placeOf_0 rfl (lv_at hl 1 rfl) ?_
  refine lv_iconst (v := 1) hx hb dX7_placeOf_1 (by decide) ?_
  refine lv_iconst (v := 4) hx hb dX7_placeOf_2 (by decide) ?_
  refine mb_cE hP hS hA (va_runS (As := [.int x1, .int (1 : Int32), .int (4 : Int32)]) (rest := []) ⟨hx, hb, hml, hown, hts⟩ (cnX7_isWithin l D Y N _ x1 (1 : Int32) (4 : Int32) _ hF) (va_cwS 3 hts gX7_placeOf_X7_isWithin rfl rfl rfl (by decide +kernel) ⟨Nat.le_of_ble_eq_true rfl, Nat.le_of_ble_eq_true rfl⟩) (mb_preS (A := A) hG mb_P0 mb_D0) rfl rfl hl.1 rfl (lv_room (Nat.le_of_ble_eq_true rfl)) dX7_placeOf_3 ⟨Nat.le_of_ble_eq_true rfl, Nat.le_of_ble_eq_true rfl⟩) (fun r3 H locs hF hP hS => ?_)
  refine mbx_cEv (S := mb_m) (wf := fun u => gw7 Y o a u) C M hP hD hS (vx_runS (As := [.int r3]) (rest := []) ⟨hx, hb, hml, hown, hts⟩ (cnX7_demandArgument l C.2.2.2 D Y N _ r3 _ _ hF) (va_cwS 1 hts gX7_placeOf_X7_demandArgument rfl rfl rfl (by decide +kernel) ⟨Nat.le_of_ble_eq_true rfl, Nat.le_of_ble_eq_true rfl⟩) (mbx_preS C mb_P0 mb_D0 hS) rfl rfl hl.1 rfl (lv_room (Nat.le_of_ble_eq_true rfl)) dX7_placeOf_6 ⟨Nat.le_of_ble_eq_true rfl, Nat.le_of_ble_eq_true rfl⟩) (Nat.le_of_ble_eq_true rfl) (Nat.le_of_ble_eq_true rfl) (fun H locs hF hP hS => ?_)
  refine lv_iload_n hx hb dX7_placeOf_9 rfl (lv_at hl 2 rfl) ?_
  refine lv_iconst (v := 1) hx hb dX7_placeOf_10 (by decide) ?_
  refine lv_iconst (v := 2) hx hb dX7_placeOf_11 (by decide) ?_
  refine lv_iload_n hx hb dX7_placeOf_12 rfl (lv_at hl 1 rfl) ?_
  refine mb_cE hP hS hA (va_runS (As := [.int x1]) (rest := [.int (2 : Int32), .int (1 : Int32), .int x2]) ⟨hx, hb, hml, hown, hts⟩ (cnX7_columnsOf l D Y N _ x1 _ hF) (va_cwS 1 hts gX7_placeOf_X7_columnsOf rfl rfl rfl (by decide +kernel) ⟨Nat.le_of_ble_eq_true rfl, Nat.le_of_ble_eq_true rfl⟩) (mb_preS (A := A) hG mb_P0 mb_D0) rfl rfl hl.1 rfl (lv_room (Nat.le_of_ble_eq_true rfl)) dX7_placeOf_13 ⟨Nat.le_of_ble_eq_true rfl, Nat.le_of_ble_eq_true rfl⟩) (fun r13 H locs hF hP hS => ?_)
  refine lv_imul hx hb dX7_placeOf_16 ?_
  refine lv_iload_n hx hb dX7_placeOf_17 rfl (lv_at hl 1 rfl) ?_
  refine mb_cE hP hS hA (va_runS (As := [.int x1]) (rest := [.int ((2 : Int32) * r13), .int (1 : Int32), .int x2]) ⟨hx, hb, hml, hown, hts⟩ (cnX7_rowsOf l D Y N _ x1 _ hF) (va_cwS 1 hts gX7_placeOf_X7_rowsOf rfl rfl rfl (by decide +kernel) ⟨Nat.le_of_ble_eq_true rfl, Nat.le_of_ble_eq_true rfl⟩) (mb_preS (A := A) hG mb_P0 mb_D0) rfl rfl hl.1 rfl (lv_room (Nat.le_of_ble_eq_true rfl)) dX7_placeOf_18 ⟨Nat.le_of_ble_eq_true rfl, Nat.le_of_ble_eq_true rfl⟩) (fun r18 H locs hF hP hS => ?_)
  refine lv_imul hx hb dX7_placeOf_21 ?_
  refine mb_cE hP hS hA (va_runS (As := [.int x2, .int (1 : Int32), .int (((2 : Int32) * r13) * r18)]) (rest := []) ⟨hx, hb, hml, hown, hts⟩ (cnX7_isWithin l D Y N _ x2 (1 : Int32) (((2 : Int32) * r13) * r18) _ hF) (va_cwS 3 hts gX7_placeOf_X7_isWithin rfl rfl rfl (by decide +kernel) ⟨Nat.le_of_ble_eq_true rfl, Nat.le_of_ble_eq_true rfl⟩) (mb_preS (A := A) hG mb_P0 mb_D0) rfl rfl hl.1 rfl (lv_room (Nat.le_of_ble_eq_true rfl)) dX7_placeOf_22 ⟨Nat.le_of_ble_eq_true rfl, Nat.le_of_ble_eq_true rfl⟩) (fun r22 H locs hF hP hS => ?_)
  refine mbx_cEv (S := mb_m) (wf := fun u => gw7 Y o a u) C M hP hD hS (vx_runS (As := [.int r22]) (rest := []) ⟨hx, hb, hml, hown, hts⟩ (cnX7_demandArgument l C.2.2.2 D Y N _ r22 _ _ hF) (va_cwS 1 hts gX7_placeOf_X7_demandArgument rfl rfl rfl (by decide +kernel) ⟨Nat.le_of_ble_eq_true rfl, Nat.le_of_ble_eq_true rfl⟩) (mbx_preS C mb_P0 mb_D0 hS) rfl rfl hl.1 rfl (lv_room (Nat.le_of_ble_eq_true rfl)) dX7_placeOf_25 ⟨Nat.le_of_ble_eq_true rfl, Nat.le_of_ble_eq_true rfl⟩) (Nat.le_of_ble_eq_true rfl) (Nat.le_of_ble_eq_true rfl) (fun H locs hF hP hS => ?_)
  refine lv_iload_n hx hb dX7_placeOf_28 rfl (lv_at hl 1 rfl) ?_
  refine lv_iload_n hx hb dX7_placeOf_29 rfl (lv_at hl 2 rfl) ?_
  refine mb_cE hP hS hA (va_runS (As := [.int x1, .int x2]) (rest := []) ⟨hx, hb, hml, hown, hts⟩ (cnX7_unfoldedPlace l D Y N _ x1 x2 _ hF) (va_cwS 2 hts gX7_placeOf_X7_unfoldedPlace rfl rfl rfl (by decide +kernel) ⟨Nat.le_of_ble_eq_true rfl, Nat.le_of_ble_eq_true rfl⟩) (mb_preS (A := A) hG mb_P0 mb_D0) rfl rfl hl.1 rfl (lv_room (Nat.le_of_ble_eq_true rfl)) dX7_placeOf_30 ⟨Nat.le_of_ble_eq_true rfl, Nat.le_of_ble_eq_true rfl⟩) (fun r30 H locs hF hP hS => ?_)
  refine vx_ret ?_
  exact mb_ri (S := mb_m) (mc := 2) (ms := 12) (wf := fun u => gw7 Y o a u) C.1 rfl (u := M) hF hP hD hS dX7_placeOf_33 (Nat.le_of_ble_eq_true rfl) (Nat.le_of_ble_eq_true rfl)
end
section
noncomputable def PX7_sew (N : Nat) (M : mb_m) (f1 : (Nat → Option Nat)) (o2 : Nat) (M_2 : mb_m) (M_3 : mb_m) (x1 x2 : Int32) (K : Int32 → (mb_m × (Nat → Option Nat) × mb_m × mb_m) → Prop) (KX : String → (mb_m × (Nat → Option Nat) × mb_m × mb_m) → Prop) : Prop := PX7_bookOf N M f1 x1 (fun r2 u2 => r2 = o2 ∧ (PX7_isWithin N x2 (0 : Int32) (4 : Int32) (fun r12 _ => PX7_demandArgument N r12 (fun _ => PX4_allows N M_3 x2 (fun r20 u20 => PX7_demandState N r20 (fun _ => PX4_make N u20 x2 (fun u28 => K (u28 9 0) ((u2.1), (u2.2), M_2, u28))) (fun E _ => KX E ((u2.1), (u2.2), M_2, u20)))) (fun E _ => KX E ((u2.1), (u2.2), M_2, M_3))))) (fun E u2 => KX E ((u2.1), (u2.2), M_2, M_3))
set_option maxHeartbeats 4000000 in
set_option maxRecDepth 100000 in
theorem cnX7_sew (l : Launch) (hl0 : l.stackTraces = false) (D : va_G) (Y : Nat → ClassId) (N : Nat) (o : Nat) (a : Nat → Nat) (M : mb_m) (f1 : (Nat → Option Nat)) (o2 : Nat) (a2 : Nat → Nat) (M_2 : mb_m) (a3 : Nat → Nat) (M_3 : mb_m) (sz : Nat) (x1 x2 : Int32) (K : Int32 → (mb_m × (Nat → Option Nat) × mb_m × mb_m) → Prop) (KX : String → (mb_m × (Nat → Option Nat) × mb_m × mb_m) → Prop) (hF : PX7_sew N M f1 o2 M_2 M_3 x1 x2 K KX) : vx_Met l yX7_sew wsX7_sew ({ frames := 7, cells := 3, slots := 18, locals := 112 } : Room) (va_Pc [.ref o, .int x1, .int x2] (mb_BX D Y (gw7 Y o a M ++ grB Y (a 2) f1 ++ gw1 Y o2 a2 M_2 ++ gw4 Y (a2 0) a3 M_3) sz)) (va_Qi K (fun u t => mb_T D (va_A (gw7 Y o a M ++ grB Y (a 2) f1 ++ gw1 Y o2 a2 M_2 ++ gw4 Y (a2 0) a3 M_3) sz) (gw7 Y o a u.1 ++ grB Y (a 2) u.2.1 ++ gw1 Y o2 a2 u.2.2.1 ++ gw4 Y (a2 0) a3 u.2.2.2) t) (va_A (gw7 Y o a M ++ grB Y (a 2) f1 ++ gw1 Y o2 a2 M_2 ++ gw4 Y (a2 0) a3 M_3) sz)) (mb_XC D (va_A (gw7 Y o a M ++ grB Y (a 2) f1 ++ gw1 Y o2 a2 M_2 ++ gw4 Y (a2 0) a3 M_3) sz) KX (fun u : mb_m × (Nat → Option Nat) × mb_m × mb_m => gw7 Y o a u.1 ++ grB Y (a 2) u.2.1 ++ gw1 Y o2 a2 u.2.2.1 ++ gw4 Y (a2 0) a3 u.2.2.2)) 3 18 (va_A (gw7 Y o a M ++ grB Y (a 2) f1 ++ gw1 Y o2 a2 M_2 ++ gw4 Y (a2 0) a3 M_3) sz) := by
  refine mbx_begin (cc := cX7_sew) (maxL := 4) (ret := (some .int)) hl0 (by decide +kernel) rfl (Nat.le_of_ble_eq_true rfl) ?_
  intro p e s m below meth c ls C hsz hnm hP hD hl
  generalize hAe : va_A (gw7 Y o a M ++ grB Y (a 2) f1 ++ gw1 Y o2 a2 M_2 ++ gw4 Y (a2 0) a3 M_3) sz = A at C hD ⊢
  have C : mb_CX l p s m meth c ([.ref o, .int x1, .int x2] : List Value).toArray cX7_sew 4 (some .int) wsX7_sew RX7 D Y A := C
  obtain ⟨⟨hx, hb, hr, hml, hts, hown, hlocks, hA, hG⟩, hT, hX, hl0⟩ := id C
  have hK := hG.1
  have hS : va_S A s.heap s.heap [] := va_S.rf
  have hl : lv_has ls 4 [(0, .ref o), (1, .int x1), (2, .int x2)] := hl
  refine lv_aload_n hx hb dX7_sew_0 rfl (lv_at hl 0 rfl) ?_
  refine lv_iload_n hx hb dX7_sew_1 rfl (lv_at hl 1 rfl) ?_
  have hPc := hP.sub (ws' := gw7 Y o a M ++ grB Y (a 2) f1) [0, 1] rfl
  have hDc := hD.sub (ws' := gw7 Y o a M ++ grB Y (a 2) f1) [0, 1] (by decide) rfl
  refine mbx_cPr (S := mb_m × (Nat → Option Nat) × mb_m × mb_m) (wf := fun u => gw7 Y o a u.1 ++ grB Y (a 2) u.2.1 ++ gw1 Y o2 a2 u.2.2.1 ++ gw4 Y (a2 0) a3 u.2.2.2) (wc := gw7 Y o a M ++ grB Y (a 2) f1) (wr := gw1 Y o2 a2 M_2 ++ gw4 Y (a2 0) a3 M_3) C hP hD hS [0, 1] [2, 3, 4, 5, 6] rfl rfl (by decide) (by decide) (vx_runV (As := [.int x1]) (rest := []) ⟨hx, hb, hml, hown, hts⟩ (cnX7_bookOf l C.2.2.2 D Y N o a M f1 _ x1 _ _ hF) (cwV 1 hts gX7_sew_X7_bookOf rfl rfl rfl (by decide +kernel) ⟨Nat.le_of_ble_eq_true rfl, Nat.le_of_ble_eq_true rfl⟩) (mbx_preV C hPc hDc hS 0 rfl rfl) rfl rfl hl.1 rfl (lv_room (Nat.le_of_ble_eq_true rfl)) dX7_sew_2 ⟨Nat.le_of_ble_eq_true rfl, Nat.le_of_ble_eq_true rfl⟩) (Nat.le_of_ble_eq_true rfl) (Nat.le_of_ble_eq_true rfl) (fun E u2 H hF hP hD => ⟨((u2.1), (u2.2), M_2, M_3), hF, hP.sub (ws' := gw7 Y o a (u2.1) ++ grB Y (a 2) (u2.2) ++ gw1 Y o2 a2 M_2 ++ gw4 Y (a2 0) a3 M_3) [5, 6, 0, 1, 2, 3, 4] rfl, hD.sub (ws' := gw7 Y o a (u2.1) ++ grB Y (a 2) (u2.2) ++ gw1 Y o2 a2 M_2 ++ gw4 Y (a2 0) a3 M_3) [5, 6, 0, 1, 2, 3, 4] (by decide) rfl⟩) (fun r2 u2 H locs hF hP hD hS => ?_)
  have hP := hP.sub (ws' := gw7 Y o a (u2.1) ++ grB Y (a 2) (u2.2) ++ gw1 Y o2 a2 M_2 ++ gw4 Y (a2 0) a3 M_3) [5, 6, 0, 1, 2, 3, 4] rfl
  have hD := hD.sub (ws' := gw7 Y o a (u2.1) ++ grB Y (a 2) (u2.2) ++ gw1 Y o2 a2 M_2 ++ gw4 Y (a2 0) a3 M_3) [5, 6, 0, 1, 2, 3, 4] (by decide) rfl
  obtain ⟨hq5, hF⟩ := hF
  try rw [hq5] at hl
  try rw [hq5]
  refine va_getN (D := D) (ci := 1) (v := .ref (a2 0)) (C := RX1) (T := TX1) (N := 7) hx hb hts (fun _ h9 => List.mem_cons_of_mem _ (List.mem_append_left _ (List.mem_append_left _ (List.mem_append_left _ (List.mem_append_left _ (List.mem_append_left _ (List.mem_append_right _ (h9)))))))) hown hK hP 2 rfl rfl 0 (by decide) (va_Nw.use rfl (hG.2.1 _ (List.mem_of_getElem? (i := 3) rfl))) (fun _ h9 => h9) rfl dX7_sew_5 ?_
  refine lv_astore_n (lv' := [(3, .ref (a2 0)), (0, .ref o), (1, .int x1), (2, .int x2)]) hx hb dX7_sew_8 rfl hl (by decide) rfl (fun ls hl => ?_)
  refine lv_iload_n hx hb dX7_sew_9 rfl (lv_at hl 3 rfl) ?_
  refine lv_iconst (v := 0) hx hb dX7_sew_10 (by decide) ?_
  refine lv_iconst (v := 4) hx hb dX7_sew_11 (by decide) ?_
  refine mb_cE hP hS hA (va_runS (As := [.int x2, .int (0 : Int32), .int (4 : Int32)]) (rest := []) ⟨hx, hb, hml, hown, hts⟩ (cnX7_isWithin l D Y N _ x2 (0 : Int32) (4 : Int32) _ hF) (va_cwS 3 hts gX7_sew_X7_isWithin rfl rfl rfl (by decide +kernel) ⟨Nat.le_of_ble_eq_true rfl, Nat.le_of_ble_eq_true rfl⟩) (mb_preS (A := A) hG mb_P0 mb_D0) rfl rfl hl.1 rfl (lv_room (Nat.le_of_ble_eq_true rfl)) dX7_sew_12 ⟨Nat.le_of_ble_eq_true rfl, Nat.le_of_ble_eq_true rfl⟩) (fun r12 H locs hF hP hS => ?_)
  refine mbx_cEv (S := mb_m × (Nat → Option Nat) × mb_m × mb_m) (wf := fun u => gw7 Y o a u.1 ++ grB Y (a 2) u.2.1 ++ gw1 Y o2 a2 u.2.2.1 ++ gw4 Y (a2 0) a3 u.2.2.2) C ((u2.1), (u2.2), M_2, M_3) hP hD hS (vx_runS (As := [.int r12]) (rest := []) ⟨hx, hb, hml, hown, hts⟩ (cnX7_demandArgument l C.2.2.2 D Y N _ r12 _ _ hF) (va_cwS 1 hts gX7_sew_X7_demandArgument rfl rfl rfl (by decide +kernel) ⟨Nat.le_of_ble_eq_true rfl, Nat.le_of_ble_eq_true rfl⟩) (mbx_preS C mb_P0 mb_D0 hS) rfl rfl hl.1 rfl (lv_room (Nat.le_of_ble_eq_true rfl)) dX7_sew_15 ⟨Nat.le_of_ble_eq_true rfl, Nat.le_of_ble_eq_true rfl⟩) (Nat.le_of_ble_eq_true rfl) (Nat.le_of_ble_eq_true rfl) (fun H locs hF hP hS => ?_)
  refine lv_aload_n hx hb dX7_sew_18 rfl (lv_at hl 0 rfl) ?_
  refine lv_iload_n hx hb dX7_sew_19 rfl (lv_at hl 3 rfl) ?_
  have hPc := hP.sub (ws' := gw4 Y (a2 0) a3 M_3) [3, 4, 5, 6] rfl
  have hDc := hD.sub (ws' := gw4 Y (a2 0) a3 M_3) [3, 4, 5, 6] (by decide) rfl
  refine mb_cP (wc := gw4 Y (a2 0) a3 M_3) (wr := gw7 Y o a (u2.1) ++ grB Y (a 2) (u2.2) ++ gw1 Y o2 a2 M_2) hP hD hS hA [3, 4, 5, 6] [0, 1, 2] rfl rfl (by decide) (by decide) (va_runV (As := [.int x2]) (rest := []) ⟨hx, hb, hml, hown, hts⟩ (cnX4_allows l D Y N (a2 0) a3 M_3 _ x2 _ hF) (cwV 1 hts gX7_sew_X4_allows rfl rfl rfl (by decide +kernel) ⟨Nat.le_of_ble_eq_true rfl, Nat.le_of_ble_eq_true rfl⟩) (mb_preV hG hPc hDc 0 rfl rfl) rfl rfl hl.1 rfl (lv_room (Nat.le_of_ble_eq_true rfl)) dX7_sew_20 ⟨Nat.le_of_ble_eq_true rfl, Nat.le_of_ble_eq_true rfl⟩) (fun r20 u20 H locs hF hP hD hS => ?_)
  have hP := hP.sub (ws' := gw7 Y o a (u2.1) ++ grB Y (a 2) (u2.2) ++ gw1 Y o2 a2 M_2 ++ gw4 Y (a2 0) a3 u20) [0, 1, 2, 3, 4, 5, 6] rfl
  have hD := hD.sub (ws' := gw7 Y o a (u2.1) ++ grB Y (a 2) (u2.2) ++ gw1 Y o2 a2 M_2 ++ gw4 Y (a2 0) a3 u20) [0, 1, 2, 3, 4, 5, 6] (by decide) rfl
  refine mbx_cEv (S := mb_m × (Nat → Option Nat) × mb_m × mb_m) (wf := fun u => gw7 Y o a u.1 ++ grB Y (a 2) u.2.1 ++ gw1 Y o2 a2 u.2.2.1 ++ gw4 Y (a2 0) a3 u.2.2.2) C ((u2.1), (u2.2), M_2, u20) hP hD hS (vx_runS (As := [.int r20]) (rest := []) ⟨hx, hb, hml, hown, hts⟩ (cnX7_demandState l C.2.2.2 D Y N _ r20 _ _ hF) (va_cwS 1 hts gX7_sew_X7_demandState rfl rfl rfl (by decide +kernel) ⟨Nat.le_of_ble_eq_true rfl, Nat.le_of_ble_eq_true rfl⟩) (mbx_preS C mb_P0 mb_D0 hS) rfl rfl hl.1 rfl (lv_room (Nat.le_of_ble_eq_true rfl)) dX7_sew_23 ⟨Nat.le_of_ble_eq_true rfl, Nat.le_of_ble_eq_true rfl⟩) (Nat.le_of_ble_eq_true rfl) (Nat.le_of_ble_eq_true rfl) (fun H locs hF hP hS => ?_)
  refine lv_aload_n hx hb dX7_sew_26 rfl (lv_at hl 0 rfl) ?_
  refine lv_iload_n hx hb dX7_sew_27 rfl (lv_at hl 3 rfl) ?_
  have hPc := hP.sub (ws' := gw4 Y (a2 0) a3 u20) [3, 4, 5, 6] rfl
  have hDc := hD.sub (ws' := gw4 Y (a2 0) a3 u20) [3, 4, 5, 6] (by decide) rfl
  refine mb_cPv (wc := gw4 Y (a2 0) a3 u20) (wr := gw7 Y o a (u2.1) ++ grB Y (a 2) (u2.2) ++ gw1 Y o2 a2 M_2) hP hD hS hA [3, 4, 5, 6] [0, 1, 2] rfl rfl (by decide) (by decide) (va_runV (As := [.int x2]) (rest := []) ⟨hx, hb, hml, hown, hts⟩ (cnX4_make l D Y N (a2 0) a3 u20 _ x2 _ hF) (cwV 1 hts gX7_sew_X4_make rfl rfl rfl (by decide +kernel) ⟨Nat.le_of_ble_eq_true rfl, Nat.le_of_ble_eq_true rfl⟩) (mb_preV hG hPc hDc 0 rfl rfl) rfl rfl hl.1 rfl (lv_room (Nat.le_of_ble_eq_true rfl)) dX7_sew_28 ⟨Nat.le_of_ble_eq_true rfl, Nat.le_of_ble_eq_true rfl⟩) (fun u28 H locs hF hP hD hS => ?_)
  have hP := hP.sub (ws' := gw7 Y o a (u2.1) ++ grB Y (a 2) (u2.2) ++ gw1 Y o2 a2 M_2 ++ gw4 Y (a2 0) a3 u28) [0, 1, 2, 3, 4, 5, 6] rfl
  have hD := hD.sub (ws' := gw7 Y o a (u2.1) ++ grB Y (a 2) (u2.2) ++ gw1 Y o2 a2 M_2 ++ gw4 Y (a2 0) a3 u28) [0, 1, 2, 3, 4, 5, 6] (by decide) rfl
  refine lv_aload_n hx hb dX7_sew_31 rfl (lv_at hl 0 rfl) ?_
  refine va_getN (D := D) (ci := 4) (v := .int (u28 9 0)) (C := RX4) (T := TX4) (N := 10) hx hb hts (fun _ h9 => List.mem_cons_of_mem _ (List.mem_append_left _ (List.mem_append_left _ (List.mem_append_left _ (List.mem_append_left _ (List.mem_append_right _ (h9))))))) hown hK hP 3 rfl rfl 9 (by decide) (va_Nw.use rfl (hG.2.1 _ (List.mem_of_getElem? (i := 4) rfl))) (fun _ h9 => h9) rfl dX7_sew_32 ?_
  refine vx_ret ?_
  exact mb_ri (S := mb_m × (Nat → Option Nat) × mb_m × mb_m) (mc := 3) (ms := 18) (wf := fun u => gw7 Y o a u.1 ++ grB Y (a 2) u.2.1 ++ gw1 Y o2 a2 u.2.2.1 ++ gw4 Y (a2 0) a3 u.2.2.2) C.1 rfl (u := ((u2.1), (u2.2), M_2, u28)) hF hP hD hS dX7_sew_35 (Nat.le_of_ble_eq_true rfl) (Nat.le_of_ble_eq_true rfl)
end
section
noncomputable def PX7_sew_n (N : Nat) (M : mb_m) (f1 : (Nat → Option Nat)) (x1 x2 : Int32) (K : Int32 → (mb_m × (Nat → Option Nat)) → Prop) (KX : String → (mb_m × (Nat → Option Nat)) → Prop) : Prop := PX7_bookOf N M f1 x1 (fun r2 u2 => False) (fun E u2 => KX E ((u2.1), (u2.2)))
set_option maxHeartbeats 4000000 in
set_option maxRecDepth 100000 in
theorem cnX7_sew_n (l : Launch) (hl0 : l.stackTraces = false) (D : va_G) (Y : Nat → ClassId) (N : Nat) (o : Nat) (a : Nat → Nat) (M : mb_m) (f1 : (Nat → Option Nat)) (sz : Nat) (x1 x2 : Int32) (K : Int32 → (mb_m × (Nat → Option Nat)) → Prop) (KX : String → (mb_m × (Nat → Option Nat)) → Prop) (hF : PX7_sew_n N M f1 x1 x2 K KX) : vx_Met l yX7_sew wsX7_sew ({ frames := 7, cells := 3, slots := 18, locals := 112 } : Room) (va_Pc [.ref o, .int x1, .int x2] (mb_BX D Y (gw7 Y o a M ++ grB Y (a 2) f1) sz)) (va_Qi K (fun u t => mb_T D (va_A (gw7 Y o a M ++ grB Y (a 2) f1) sz) (gw7 Y o a u.1 ++ grB Y (a 2) u.2) t) (va_A (gw7 Y o a M ++ grB Y (a 2) f1) sz)) (mb_XC D (va_A (gw7 Y o a M ++ grB Y (a 2) f1) sz) KX (fun u : mb_m × (Nat → Option Nat) => gw7 Y o a u.1 ++ grB Y (a 2) u.2)) 3 18 (va_A (gw7 Y o a M ++ grB Y (a 2) f1) sz) := by
  refine mbx_begin (cc := cX7_sew) (maxL := 4) (ret := (some .int)) hl0 (by decide +kernel) rfl (Nat.le_of_ble_eq_true rfl) ?_
  intro p e s m below meth c ls C hsz hnm hP hD hl
  generalize hAe : va_A (gw7 Y o a M ++ grB Y (a 2) f1) sz = A at C hD ⊢
  have C : mb_CX l p s m meth c ([.ref o, .int x1, .int x2] : List Value).toArray cX7_sew 4 (some .int) wsX7_sew RX7 D Y A := C
  obtain ⟨⟨hx, hb, hr, hml, hts, hown, hlocks, hA, hG⟩, hT, hX, hl0⟩ := id C
  have hK := hG.1
  have hS : va_S A s.heap s.heap [] := va_S.rf
  have hl : lv_has ls 4 [(0, .ref o), (1, .int x1), (2, .int x2)] := hl
  refine lv_aload_n hx hb dX7_sew_0 rfl (lv_at hl 0 rfl) ?_
  refine lv_iload_n hx hb dX7_sew_1 rfl (lv_at hl 1 rfl) ?_
  have hPc := hP.sub (ws' := gw7 Y o a M ++ grB Y (a 2) f1) [0, 1] rfl
  have hDc := hD.sub (ws' := gw7 Y o a M ++ grB Y (a 2) f1) [0, 1] (by decide) rfl
  refine mbx_cPr (S := mb_m × (Nat → Option Nat)) (wf := fun u => gw7 Y o a u.1 ++ grB Y (a 2) u.2) (wc := gw7 Y o a M ++ grB Y (a 2) f1) (wr := ([] : va_W)) C hP hD hS [0, 1] [] rfl rfl (by decide) (by decide) (vx_runV (As := [.int x1]) (rest := []) ⟨hx, hb, hml, hown, hts⟩ (cnX7_bookOf l C.2.2.2 D Y N o a M f1 _ x1 _ _ hF) (cwV 1 hts gX7_sew_X7_bookOf rfl rfl rfl (by decide +kernel) ⟨Nat.le_of_ble_eq_true rfl, Nat.le_of_ble_eq_true rfl⟩) (mbx_preV C hPc hDc hS 0 rfl rfl) rfl rfl hl.1 rfl (lv_room (Nat.le_of_ble_eq_true rfl)) dX7_sew_2 ⟨Nat.le_of_ble_eq_true rfl, Nat.le_of_ble_eq_true rfl⟩) (Nat.le_of_ble_eq_true rfl) (Nat.le_of_ble_eq_true rfl) (fun E u2 H hF hP hD => ⟨((u2.1), (u2.2)), hF, hP.sub (ws' := gw7 Y o a (u2.1) ++ grB Y (a 2) (u2.2)) [0, 1] rfl, hD.sub (ws' := gw7 Y o a (u2.1) ++ grB Y (a 2) (u2.2)) [0, 1] (by decide) rfl⟩) (fun r2 u2 H locs hF hP hD hS => ?_)
  have hP := hP.sub (ws' := gw7 Y o a (u2.1) ++ grB Y (a 2) (u2.2)) [0, 1] rfl
  have hD := hD.sub (ws' := gw7 Y o a (u2.1) ++ grB Y (a 2) (u2.2)) [0, 1] (by decide) rfl
  exact hF.elim
end
section
noncomputable def PX7_unsew_39_b (N : Nat) (K : Int32 → (mb_m × (Nat → Option Nat) × mb_m × mb_m) → Prop) (KX : String → (mb_m × (Nat → Option Nat) × mb_m × mb_m) → Prop) (b39 : mb_m → (Nat → Option Nat) → mb_m → mb_m → Int32 → Int32 → Prop) (M : mb_m) (f1 : (Nat → Option Nat)) (M_2 : mb_m) (M_3 : mb_m) (x2 x4 : Int32) : Prop := (x2 ≤ x4 → K (M_3 9 0) (M, f1, M_2, M_3)) ∧ (¬ x2 ≤ x4 → PX4_takeBack N M_3  (fun u46 => ∀ v49 : Int32, v49 = x4 + (1 : Int32) → (b39 M f1 M_2 u46 x2 v49)))
noncomputable def PX7_unsew_39 (N : Nat) (K : Int32 → (mb_m × (Nat → Option Nat) × mb_m × mb_m) → Prop) (KX : String → (mb_m × (Nat → Option Nat) × mb_m × mb_m) → Prop) (n : Nat) : mb_m → (Nat → Option Nat) → mb_m → mb_m → Int32 → Int32 → Prop := Nat.rec (motive := fun _ => mb_m → (Nat → Option Nat) → mb_m → mb_m → Int32 → Int32 → Prop) (fun _ _ _ _ _ _ => False) (fun _ b39 => PX7_unsew_39_b N K KX  b39) n
set_option maxHeartbeats 4000000 in
set_option maxRecDepth 100000 in
theorem wX7_unsew_39 {p : Program} {l : Launch} {e : Env} {s : State} {m : MethodId} {below : List Frame} {meth : Method} {c : Code} {args : Array Value} {D : va_G} {Y : Nat → ClassId} {A : Nat → Prop} {o : Nat} {a : Nat → Nat} {o2 : Nat} {a2 : Nat → Nat} {a3 : Nat → Nat} {N : Nat} {K : Int32 → (mb_m × (Nat → Option Nat) × mb_m × mb_m) → Prop} {KX : String → (mb_m × (Nat → Option Nat) × mb_m × mb_m) → Prop} (C : mb_CX l p s m meth c args cX7_unsew 5 (some .int) wsX7_unsew RX7 D Y A) : ∀ (n : Nat), (∀ (M : mb_m) (f1 : (Nat → Option Nat)) (M_2 : mb_m) (M_3 : mb_m) (x2 x4 : Int32) (H : Heap) (locs : List Loc) (ls : Array Slot), PX7_unsew_39 N K KX  n M f1 M_2 M_3 x2 x4 → va_P D vwCl (gw7 Y o a M ++ grB Y (a 2) f1 ++ gw1 Y o2 a2 M_2 ++ gw4 Y (a2 0) a3 M_3) H → va_D A (gw7 Y o a M ++ grB Y (a 2) f1 ++ gw1 Y o2 a2 M_2 ++ gw4 Y (a2 0) a3 M_3) → va_S A s.heap H locs → lv_has ls 5 [(2, .int x2), (3, .ref (a2 0)), (4, .int x4)] → W p l e ({ frames := 7, cells := 3, slots := 18, locals := 112 } : Room) s m args below meth c H locs 3 18 (vx_MQ below (va_Qi K (fun u t => mb_T D A (gw7 Y o a u.1 ++ grB Y (a 2) u.2.1 ++ gw1 Y o2 a2 u.2.2.1 ++ gw4 Y (a2 0) a3 u.2.2.2) t) A) (mb_XC D A KX (fun u : mb_m × (Nat → Option Nat) × mb_m × mb_m => gw7 Y o a u.1 ++ grB Y (a 2) u.2.1 ++ gw1 Y o2 a2 u.2.2.1 ++ gw4 Y (a2 0) a3 u.2.2.2)) args s 3 18 A) (F0 m 39 ls [])) := by
  obtain ⟨⟨hx, hb, hr, hml, hts, hown, hlocks, hA, hG⟩, hT, hX, hl0⟩ := id C
  have hK := hG.1
  intro n
  induction n with
  | zero => intro M f1 M_2 M_3 x2 x4 H locs ls hF; exact (show False from hF).elim
  | succ n ih =>
    intro M f1 M_2 M_3 x2 x4 H locs ls hF hP hD hS hl
    have hF : PX7_unsew_39_b N K KX  (PX7_unsew_39 N K KX  n) M f1 M_2 M_3 x2 x4 := hF
    refine lv_iload hx hb dX7_unsew_39 (lv_at hl 2 rfl) ?_
    refine lv_iload_n hx hb dX7_unsew_41 rfl (lv_at hl 0 rfl) ?_
    refine lv_icmp_ge (tgt := 55) hx hb dX7_unsew_42 (by decide) (fun c_42 => ?_) (fun c_42 => ?_)
    · have hF := hF.1 c_42
      refine lv_aload_n hx hb dX7_unsew_55 rfl (lv_at hl 1 rfl) ?_
      refine va_getN (D := D) (ci := 4) (v := .int (M_3 9 0)) (C := RX4) (T := TX4) (N := 10) hx hb hts (fun _ h9 => List.mem_cons_of_mem _ (List.mem_append_left _ (List.mem_append_left _ (List.mem_append_left _ (List.mem_append_left _ (List.mem_append_right _ (h9))))))) hown hK hP 3 rfl rfl 9 (by decide) (va_Nw.use rfl (hG.2.1 _ (List.mem_of_getElem? (i := 4) rfl))) (fun _ h9 => h9) rfl dX7_unsew_56 ?_
      refine vx_ret ?_
      exact mb_ri (S := mb_m × (Nat → Option Nat) × mb_m × mb_m) (mc := 3) (ms := 18) (wf := fun u => gw7 Y o a u.1 ++ grB Y (a 2) u.2.1 ++ gw1 Y o2 a2 u.2.2.1 ++ gw4 Y (a2 0) a3 u.2.2.2) C.1 rfl (u := (M, f1, M_2, M_3)) hF hP hD hS dX7_unsew_59 (Nat.le_of_ble_eq_true rfl) (Nat.le_of_ble_eq_true rfl)
    · have hF := hF.2 c_42
      refine lv_aload_n hx hb dX7_unsew_45 rfl (lv_at hl 1 rfl) ?_
      have hPc := hP.sub (ws' := gw4 Y (a2 0) a3 M_3) [3, 4, 5, 6] rfl
      have hDc := hD.sub (ws' := gw4 Y (a2 0) a3 M_3) [3, 4, 5, 6] (by decide) rfl
      refine mb_cPv (wc := gw4 Y (a2 0) a3 M_3) (wr := gw7 Y o a M ++ grB Y (a 2) f1 ++ gw1 Y o2 a2 M_2) hP hD hS hA [3, 4, 5, 6] [0, 1, 2] rfl rfl (by decide) (by decide) (va_runV (As := []) (rest := []) ⟨hx, hb, hml, hown, hts⟩ (cnX4_takeBack l D Y N (a2 0) a3 M_3 _  _ hF) (cwV 0 hts gX7_unsew_X4_takeBack rfl rfl rfl (by decide +kernel) ⟨Nat.le_of_ble_eq_true rfl, Nat.le_of_ble_eq_true rfl⟩) (mb_preV hG hPc hDc 0 rfl rfl) rfl rfl hl.1 rfl (lv_room (Nat.le_of_ble_eq_true rfl)) dX7_unsew_46 ⟨Nat.le_of_ble_eq_true rfl, Nat.le_of_ble_eq_true rfl⟩) (fun u46 H locs hF hP hD hS => ?_)
      have hP := hP.sub (ws' := gw7 Y o a M ++ grB Y (a 2) f1 ++ gw1 Y o2 a2 M_2 ++ gw4 Y (a2 0) a3 u46) [0, 1, 2, 3, 4, 5, 6] rfl
      have hD := hD.sub (ws' := gw7 Y o a M ++ grB Y (a 2) f1 ++ gw1 Y o2 a2 M_2 ++ gw4 Y (a2 0) a3 u46) [0, 1, 2, 3, 4, 5, 6] (by decide) rfl
      obtain ⟨v49, ev49⟩ : ∃ y : Int32, y = x4 + (1 : Int32) := ⟨_, rfl⟩
      have hF := hF v49 ev49
      refine lv_iinc (v := v49) (lv' := [(4, .int v49), (2, .int x2), (3, .ref (a2 0))]) hx hb dX7_unsew_49 hl (k := 2) rfl (by rw [ev49]; rfl) (by decide) rfl (fun ls hl => ?_)
      refine lv_goto (tgt := 39) hx hb dX7_unsew_52 (by decide) ?_
      exact ih M f1 M_2 u46 x2 v49 _ _ _ hF hP hD hS (lv_sub hl [1, 2, 0] rfl)
noncomputable def PX7_unsew_33 (N : Nat) (K : Int32 → (mb_m × (Nat → Option Nat) × mb_m × mb_m) → Prop) (KX : String → (mb_m × (Nat → Option Nat) × mb_m × mb_m) → Prop) (M : mb_m) (f1 : (Nat → Option Nat)) (M_2 : mb_m) (M_3 : mb_m) (x2 y0 : Int32) : Prop := PX7_demandState N y0 (fun _ => PX7_unsew_39 N K KX N M f1 M_2 M_3 x2 (0 : Int32)) (fun E _ => KX E (M, f1, M_2, M_3))
set_option maxHeartbeats 4000000 in
set_option maxRecDepth 100000 in
theorem wX7_unsew_33 {p : Program} {l : Launch} {e : Env} {s : State} {m : MethodId} {below : List Frame} {meth : Method} {c : Code} {args : Array Value} {D : va_G} {Y : Nat → ClassId} {A : Nat → Prop} {o : Nat} {a : Nat → Nat} {o2 : Nat} {a2 : Nat → Nat} {a3 : Nat → Nat} {N : Nat} {K : Int32 → (mb_m × (Nat → Option Nat) × mb_m × mb_m) → Prop} {KX : String → (mb_m × (Nat → Option Nat) × mb_m × mb_m) → Prop} (C : mb_CX l p s m meth c args cX7_unsew 5 (some .int) wsX7_unsew RX7 D Y A) : ∀ (M : mb_m) (f1 : (Nat → Option Nat)) (M_2 : mb_m) (M_3 : mb_m) (x2 y0 : Int32) (H : Heap) (locs : List Loc) (ls : Array Slot), PX7_unsew_33 N K KX  M f1 M_2 M_3 x2 y0 → va_P D vwCl (gw7 Y o a M ++ grB Y (a 2) f1 ++ gw1 Y o2 a2 M_2 ++ gw4 Y (a2 0) a3 M_3) H → va_D A (gw7 Y o a M ++ grB Y (a 2) f1 ++ gw1 Y o2 a2 M_2 ++ gw4 Y (a2 0) a3 M_3) → va_S A s.heap H locs → lv_has ls 5 [(2, .int x2), (3, .ref (a2 0))] → W p l e ({ frames := 7, cells := 3, slots := 18, locals := 112 } : Room) s m args below meth c H locs 2 12 (vx_MQ below (va_Qi K (fun u t => mb_T D A (gw7 Y o a u.1 ++ grB Y (a 2) u.2.1 ++ gw1 Y o2 a2 u.2.2.1 ++ gw4 Y (a2 0) a3 u.2.2.2) t) A) (mb_XC D A KX (fun u : mb_m × (Nat → Option Nat) × mb_m × mb_m => gw7 Y o a u.1 ++ grB Y (a 2) u.2.1 ++ gw1 Y o2 a2 u.2.2.1 ++ gw4 Y (a2 0) a3 u.2.2.2)) args s 3 18 A) (F0 m 33 ls [.int y0]) := by
  obtain ⟨⟨hx, hb, hr, hml, hts, hown, hlocks, hA, hG⟩, hT, hX, hl0⟩ := id C
  have hK := hG.1
  intro M f1 M_2 M_3 x2 y0 H locs ls hF hP hD hS hl
  refine mbx_cEv (S := mb_m × (Nat → Option Nat) × mb_m × mb_m) (wf := fun u => gw7 Y o a u.1 ++ grB Y (a 2) u.2.1 ++ gw1 Y o2 a2 u.2.2.1 ++ gw4 Y (a2 0) a3 u.2.2.2) C (M, f1, M_2, M_3) hP hD hS (vx_runS (As := [.int y0]) (rest := []) ⟨hx, hb, hml, hown, hts⟩ (cnX7_demandState l C.2.2.2 D Y N _ y0 _ _ hF) (va_cwS 1 hts gX7_unsew_X7_demandState rfl rfl rfl (by decide +kernel) ⟨Nat.le_of_ble_eq_true rfl, Nat.le_of_ble_eq_true rfl⟩) (mbx_preS C mb_P0 mb_D0 hS) rfl rfl hl.1 rfl (lv_room (Nat.le_of_ble_eq_true rfl)) dX7_unsew_33 ⟨Nat.le_of_ble_eq_true rfl, Nat.le_of_ble_eq_true rfl⟩) (Nat.le_of_ble_eq_true rfl) (Nat.le_of_ble_eq_true rfl) (fun H locs hF hP hS => ?_)
  refine lv_iconst (v := 0) hx hb dX7_unsew_36 (by decide) ?_
  refine lv_istore (lv' := [(4, .int (0 : Int32)), (2, .int x2), (3, .ref (a2 0))]) hx hb dX7_unsew_37 hl (by decide) rfl (fun ls hl => ?_)
  exact wX7_unsew_39 C N M f1 M_2 M_3 x2 (0 : Int32) _ _ _ hF hP hD hS (lv_sub hl [1, 2, 0] rfl)
noncomputable def PX7_unsew (N : Nat) (M : mb_m) (f1 : (Nat → Option Nat)) (o2 : Nat) (M_2 : mb_m) (M_3 : mb_m) (x1 x2 : Int32) (K : Int32 → (mb_m × (Nat → Option Nat) × mb_m × mb_m) → Prop) (KX : String → (mb_m × (Nat → Option Nat) × mb_m × mb_m) → Prop) : Prop := PX7_bookOf N M f1 x1 (fun r2 u2 => r2 = o2 ∧ (PX7_isWithin N x2 (1 : Int32) (200 : Int32) (fun r14 _ => PX7_demandArgument N r14 (fun _ => ((M_3 5 0) < x2 → PX7_unsew_33 N K KX (u2.1) (u2.2) M_2 M_3 x2 (0 : Int32)) ∧ (¬ (M_3 5 0) < x2 → PX7_unsew_33 N K KX (u2.1) (u2.2) M_2 M_3 x2 (1 : Int32))) (fun E _ => KX E ((u2.1), (u2.2), M_2, M_3))))) (fun E u2 => KX E ((u2.1), (u2.2), M_2, M_3))
set_option maxHeartbeats 4000000 in
set_option maxRecDepth 100000 in
theorem cnX7_unsew (l : Launch) (hl0 : l.stackTraces = false) (D : va_G) (Y : Nat → ClassId) (N : Nat) (o : Nat) (a : Nat → Nat) (M : mb_m) (f1 : (Nat → Option Nat)) (o2 : Nat) (a2 : Nat → Nat) (M_2 : mb_m) (a3 : Nat → Nat) (M_3 : mb_m) (sz : Nat) (x1 x2 : Int32) (K : Int32 → (mb_m × (Nat → Option Nat) × mb_m × mb_m) → Prop) (KX : String → (mb_m × (Nat → Option Nat) × mb_m × mb_m) → Prop) (hF : PX7_unsew N M f1 o2 M_2 M_3 x1 x2 K KX) : vx_Met l yX7_unsew wsX7_unsew ({ frames := 7, cells := 3, slots := 18, locals := 112 } : Room) (va_Pc [.ref o, .int x1, .int x2] (mb_BX D Y (gw7 Y o a M ++ grB Y (a 2) f1 ++ gw1 Y o2 a2 M_2 ++ gw4 Y (a2 0) a3 M_3) sz)) (va_Qi K (fun u t => mb_T D (va_A (gw7 Y o a M ++ grB Y (a 2) f1 ++ gw1 Y o2 a2 M_2 ++ gw4 Y (a2 0) a3 M_3) sz) (gw7 Y o a u.1 ++ grB Y (a 2) u.2.1 ++ gw1 Y o2 a2 u.2.2.1 ++ gw4 Y (a2 0) a3 u.2.2.2) t) (va_A (gw7 Y o a M ++ grB Y (a 2) f1 ++ gw1 Y o2 a2 M_2 ++ gw4 Y (a2 0) a3 M_3) sz)) (mb_XC D (va_A (gw7 Y o a M ++ grB Y (a 2) f1 ++ gw1 Y o2 a2 M_2 ++ gw4 Y (a2 0) a3 M_3) sz) KX (fun u : mb_m × (Nat → Option Nat) × mb_m × mb_m => gw7 Y o a u.1 ++ grB Y (a 2) u.2.1 ++ gw1 Y o2 a2 u.2.2.1 ++ gw4 Y (a2 0) a3 u.2.2.2)) 3 18 (va_A (gw7 Y o a M ++ grB Y (a 2) f1 ++ gw1 Y o2 a2 M_2 ++ gw4 Y (a2 0) a3 M_3) sz) := by
  refine mbx_begin (cc := cX7_unsew) (maxL := 5) (ret := (some .int)) hl0 (by decide +kernel) rfl (Nat.le_of_ble_eq_true rfl) ?_
  intro p e s m below meth c ls C hsz hnm hP hD hl
  generalize hAe : va_A (gw7 Y o a M ++ grB Y (a 2) f1 ++ gw1 Y o2 a2 M_2 ++ gw4 Y (a2 0) a3 M_3) sz = A at C hD ⊢
  have C : mb_CX l p s m meth c ([.ref o, .int x1, .int x2] : List Value).toArray cX7_unsew 5 (some .int) wsX7_unsew RX7 D Y A := C
  obtain ⟨⟨hx, hb, hr, hml, hts, hown, hlocks, hA, hG⟩, hT, hX, hl0⟩ := id C
  have hK := hG.1
  have hS : va_S A s.heap s.heap [] := va_S.rf
  have hl : lv_has ls 5 [(0, .ref o), (1, .int x1), (2, .int x2)] := hl
  refine lv_aload_n hx hb dX7_unsew_0 rfl (lv_at hl 0 rfl) ?_
  refine lv_iload_n hx hb dX7_unsew_1 rfl (lv_at hl 1 rfl) ?_
  have hPc := hP.sub (ws' := gw7 Y o a M ++ grB Y (a 2) f1) [0, 1] rfl
  have hDc := hD.sub (ws' := gw7 Y o a M ++ grB Y (a 2) f1) [0, 1] (by decide) rfl
  refine mbx_cPr (S := mb_m × (Nat → Option Nat) × mb_m × mb_m) (wf := fun u => gw7 Y o a u.1 ++ grB Y (a 2) u.2.1 ++ gw1 Y o2 a2 u.2.2.1 ++ gw4 Y (a2 0) a3 u.2.2.2) (wc := gw7 Y o a M ++ grB Y (a 2) f1) (wr := gw1 Y o2 a2 M_2 ++ gw4 Y (a2 0) a3 M_3) C hP hD hS [0, 1] [2, 3, 4, 5, 6] rfl rfl (by decide) (by decide) (vx_runV (As := [.int x1]) (rest := []) ⟨hx, hb, hml, hown, hts⟩ (cnX7_bookOf l C.2.2.2 D Y N o a M f1 _ x1 _ _ hF) (cwV 1 hts gX7_unsew_X7_bookOf rfl rfl rfl (by decide +kernel) ⟨Nat.le_of_ble_eq_true rfl, Nat.le_of_ble_eq_true rfl⟩) (mbx_preV C hPc hDc hS 0 rfl rfl) rfl rfl hl.1 rfl (lv_room (Nat.le_of_ble_eq_true rfl)) dX7_unsew_2 ⟨Nat.le_of_ble_eq_true rfl, Nat.le_of_ble_eq_true rfl⟩) (Nat.le_of_ble_eq_true rfl) (Nat.le_of_ble_eq_true rfl) (fun E u2 H hF hP hD => ⟨((u2.1), (u2.2), M_2, M_3), hF, hP.sub (ws' := gw7 Y o a (u2.1) ++ grB Y (a 2) (u2.2) ++ gw1 Y o2 a2 M_2 ++ gw4 Y (a2 0) a3 M_3) [5, 6, 0, 1, 2, 3, 4] rfl, hD.sub (ws' := gw7 Y o a (u2.1) ++ grB Y (a 2) (u2.2) ++ gw1 Y o2 a2 M_2 ++ gw4 Y (a2 0) a3 M_3) [5, 6, 0, 1, 2, 3, 4] (by decide) rfl⟩) (fun r2 u2 H locs hF hP hD hS => ?_)
  have hP := hP.sub (ws' := gw7 Y o a (u2.1) ++ grB Y (a 2) (u2.2) ++ gw1 Y o2 a2 M_2 ++ gw4 Y (a2 0) a3 M_3) [5, 6, 0, 1, 2, 3, 4] rfl
  have hD := hD.sub (ws' := gw7 Y o a (u2.1) ++ grB Y (a 2) (u2.2) ++ gw1 Y o2 a2 M_2 ++ gw4 Y (a2 0) a3 M_3) [5, 6, 0, 1, 2, 3, 4] (by decide) rfl
  obtain ⟨hq5, hF⟩ := hF
  try rw [hq5] at hl
  try rw [hq5]
  refine va_getN (D := D) (ci := 1) (v := .ref (a2 0)) (C := RX1) (T := TX1) (N := 7) hx hb hts (fun _ h9 => List.mem_cons_of_mem _ (List.mem_append_left _ (List.mem_append_left _ (List.mem_append_left _ (List.mem_append_left _ (List.mem_append_left _ (List.mem_append_right _ (h9)))))))) hown hK hP 2 rfl rfl 0 (by decide) (va_Nw.use rfl (hG.2.1 _ (List.mem_of_getElem? (i := 3) rfl))) (fun _ h9 => h9) rfl dX7_unsew_5 ?_
  refine lv_astore_n (lv' := [(3, .ref (a2 0)), (0, .ref o), (1, .int x1), (2, .int x2)]) hx hb dX7_unsew_8 rfl hl (by decide) rfl (fun ls hl => ?_)
  refine lv_iload_n hx hb dX7_unsew_9 rfl (lv_at hl 3 rfl) ?_
  refine lv_iconst (v := 1) hx hb dX7_unsew_10 (by decide) ?_
  refine lv_sipush (v := 200) hx hb dX7_unsew_11 (by decide) ?_
  refine mb_cE hP hS hA (va_runS (As := [.int x2, .int (1 : Int32), .int (200 : Int32)]) (rest := []) ⟨hx, hb, hml, hown, hts⟩ (cnX7_isWithin l D Y N _ x2 (1 : Int32) (200 : Int32) _ hF) (va_cwS 3 hts gX7_unsew_X7_isWithin rfl rfl rfl (by decide +kernel) ⟨Nat.le_of_ble_eq_true rfl, Nat.le_of_ble_eq_true rfl⟩) (mb_preS (A := A) hG mb_P0 mb_D0) rfl rfl hl.1 rfl (lv_room (Nat.le_of_ble_eq_true rfl)) dX7_unsew_14 ⟨Nat.le_of_ble_eq_true rfl, Nat.le_of_ble_eq_true rfl⟩) (fun r14 H locs hF hP hS => ?_)
  refine mbx_cEv (S := mb_m × (Nat → Option Nat) × mb_m × mb_m) (wf := fun u => gw7 Y o a u.1 ++ grB Y (a 2) u.2.1 ++ gw1 Y o2 a2 u.2.2.1 ++ gw4 Y (a2 0) a3 u.2.2.2) C ((u2.1), (u2.2), M_2, M_3) hP hD hS (vx_runS (As := [.int r14]) (rest := []) ⟨hx, hb, hml, hown, hts⟩ (cnX7_demandArgument l C.2.2.2 D Y N _ r14 _ _ hF) (va_cwS 1 hts gX7_unsew_X7_demandArgument rfl rfl rfl (by decide +kernel) ⟨Nat.le_of_ble_eq_true rfl, Nat.le_of_ble_eq_true rfl⟩) (mbx_preS C mb_P0 mb_D0 hS) rfl rfl hl.1 rfl (lv_room (Nat.le_of_ble_eq_true rfl)) dX7_unsew_17 ⟨Nat.le_of_ble_eq_true rfl, Nat.le_of_ble_eq_true rfl⟩) (Nat.le_of_ble_eq_true rfl) (Nat.le_of_ble_eq_true rfl) (fun H locs hF hP hS => ?_)
  refine lv_iload_n hx hb dX7_unsew_20 rfl (lv_at hl 3 rfl) ?_
  refine lv_aload_n hx hb dX7_unsew_21 rfl (lv_at hl 0 rfl) ?_
  refine va_getN (D := D) (ci := 4) (v := .int (M_3 5 0)) (C := RX4) (T := TX4) (N := 10) hx hb hts (fun _ h9 => List.mem_cons_of_mem _ (List.mem_append_left _ (List.mem_append_left _ (List.mem_append_left _ (List.mem_append_left _ (List.mem_append_right _ (h9))))))) hown hK hP 3 rfl rfl 5 (by decide) (va_Nw.use rfl (hG.2.1 _ (List.mem_of_getElem? (i := 5) rfl))) (fun _ h9 => h9) rfl dX7_unsew_22 ?_
  refine lv_icmp_gt (tgt := 32) hx hb dX7_unsew_25 (by decide) (fun c_25 => ?_) (fun c_25 => ?_)
  · have hF := hF.1 c_25
    refine lv_iconst (v := 0) hx hb dX7_unsew_32 (by decide) ?_
    exact wX7_unsew_33 C (u2.1) (u2.2) M_2 M_3 x2 (0 : Int32) _ _ _ hF hP hD hS (lv_sub hl [3, 0] rfl)
  · have hF := hF.2 c_25
    refine lv_iconst (v := 1) hx hb dX7_unsew_28 (by decide) ?_
    refine lv_goto (tgt := 33) hx hb dX7_unsew_29 (by decide) ?_
    exact wX7_unsew_33 C (u2.1) (u2.2) M_2 M_3 x2 (1 : Int32) _ _ _ hF hP hD hS (lv_sub hl [3, 0] rfl)
end
section
noncomputable def PX7_unsew_n (N : Nat) (M : mb_m) (f1 : (Nat → Option Nat)) (x1 x2 : Int32) (K : Int32 → (mb_m × (Nat → Option Nat)) → Prop) (KX : String → (mb_m × (Nat → Option Nat)) → Prop) : Prop := PX7_bookOf N M f1 x1 (fun r2 u2 => False) (fun E u2 => KX E ((u2.1), (u2.2)))
set_option maxHeartbeats 4000000 in
set_option maxRecDepth 100000 in
theorem cnX7_unsew_n (l : Launch) (hl0 : l.stackTraces = false) (D : va_G) (Y : Nat → ClassId) (N : Nat) (o : Nat) (a : Nat → Nat) (M : mb_m) (f1 : (Nat → Option Nat)) (sz : Nat) (x1 x2 : Int32) (K : Int32 → (mb_m × (Nat → Option Nat)) → Prop) (KX : String → (mb_m × (Nat → Option Nat)) → Prop) (hF : PX7_unsew_n N M f1 x1 x2 K KX) : vx_Met l yX7_unsew wsX7_unsew ({ frames := 7, cells := 3, slots := 18, locals := 112 } : Room) (va_Pc [.ref o, .int x1, .int x2] (mb_BX D Y (gw7 Y o a M ++ grB Y (a 2) f1) sz)) (va_Qi K (fun u t => mb_T D (va_A (gw7 Y o a M ++ grB Y (a 2) f1) sz) (gw7 Y o a u.1 ++ grB Y (a 2) u.2) t) (va_A (gw7 Y o a M ++ grB Y (a 2) f1) sz)) (mb_XC D (va_A (gw7 Y o a M ++ grB Y (a 2) f1) sz) KX (fun u : mb_m × (Nat → Option Nat) => gw7 Y o a u.1 ++ grB Y (a 2) u.2)) 3 18 (va_A (gw7 Y o a M ++ grB Y (a 2) f1) sz) := by
  refine mbx_begin (cc := cX7_unsew) (maxL := 5) (ret := (some .int)) hl0 (by decide +kernel) rfl (Nat.le_of_ble_eq_true rfl) ?_
  intro p e s m below meth c ls C hsz hnm hP hD hl
  generalize hAe : va_A (gw7 Y o a M ++ grB Y (a 2) f1) sz = A at C hD ⊢
  have C : mb_CX l p s m meth c ([.ref o, .int x1, .int x2] : List Value).toArray cX7_unsew 5 (some .int) wsX7_unsew RX7 D Y A := C
  obtain ⟨⟨hx, hb, hr, hml, hts, hown, hlocks, hA, hG⟩, hT, hX, hl0⟩ := id C
  have hK := hG.1
  have hS : va_S A s.heap s.heap [] := va_S.rf
  have hl : lv_has ls 5 [(0, .ref o), (1, .int x1), (2, .int x2)] := hl
  refine lv_aload_n hx hb dX7_unsew_0 rfl (lv_at hl 0 rfl) ?_
  refine lv_iload_n hx hb dX7_unsew_1 rfl (lv_at hl 1 rfl) ?_
  have hPc := hP.sub (ws' := gw7 Y o a M ++ grB Y (a 2) f1) [0, 1] rfl
  have hDc := hD.sub (ws' := gw7 Y o a M ++ grB Y (a 2) f1) [0, 1] (by decide) rfl
  refine mbx_cPr (S := mb_m × (Nat → Option Nat)) (wf := fun u => gw7 Y o a u.1 ++ grB Y (a 2) u.2) (wc := gw7 Y o a M ++ grB Y (a 2) f1) (wr := ([] : va_W)) C hP hD hS [0, 1] [] rfl rfl (by decide) (by decide) (vx_runV (As := [.int x1]) (rest := []) ⟨hx, hb, hml, hown, hts⟩ (cnX7_bookOf l C.2.2.2 D Y N o a M f1 _ x1 _ _ hF) (cwV 1 hts gX7_unsew_X7_bookOf rfl rfl rfl (by decide +kernel) ⟨Nat.le_of_ble_eq_true rfl, Nat.le_of_ble_eq_true rfl⟩) (mbx_preV C hPc hDc hS 0 rfl rfl) rfl rfl hl.1 rfl (lv_room (Nat.le_of_ble_eq_true rfl)) dX7_unsew_2 ⟨Nat.le_of_ble_eq_true rfl, Nat.le_of_ble_eq_true rfl⟩) (Nat.le_of_ble_eq_true rfl) (Nat.le_of_ble_eq_true rfl) (fun E u2 H hF hP hD => ⟨((u2.1), (u2.2)), hF, hP.sub (ws' := gw7 Y o a (u2.1) ++ grB Y (a 2) (u2.2)) [0, 1] rfl, hD.sub (ws' := gw7 Y o a (u2.1) ++ grB Y (a 2) (u2.2)) [0, 1] (by decide) rfl⟩) (fun r2 u2 H locs hF hP hD hS => ?_)
  have hP := hP.sub (ws' := gw7 Y o a (u2.1) ++ grB Y (a 2) (u2.2)) [0, 1] rfl
  have hD := hD.sub (ws' := gw7 Y o a (u2.1) ++ grB Y (a 2) (u2.2)) [0, 1] (by decide) rfl
  exact hF.elim
end
section
noncomputable def PX7_ofThread (N : Nat) (M : mb_m) (f1 : (Nat → Option Nat)) (o2 : Nat) (M_2 : mb_m) (M_3 : mb_m) (x1 x2 : Int32) (K : Int32 → (mb_m × (Nat → Option Nat) × mb_m × mb_m) → Prop) (KX : String → (mb_m × (Nat → Option Nat) × mb_m × mb_m) → Prop) : Prop := PX7_bookOf N M f1 x1 (fun r2 u2 => r2 = o2 ∧ (PX7_isWithin N x2 (0 : Int32) (5 : Int32) (fun r12 _ => PX7_demandArgument N r12 (fun _ => ((x2.toInt < 0 ∨ 4 < x2.toInt) → PX4_isSewn N M_3  (fun r86 u86 => (r86 = 0 → K (0 : Int32) ((u2.1), (u2.2), M_2, u86)) ∧ (¬ r86 = 0 → K (1 : Int32) ((u2.1), (u2.2), M_2, u86)))) ∧ (x2.toInt = 0 → K (M_3 9 0) ((u2.1), (u2.2), M_2, M_3)) ∧ (x2.toInt = 1 → K (M_3 6 0) ((u2.1), (u2.2), M_2, M_3)) ∧ (x2.toInt = 2 → K (M_3 7 0) ((u2.1), (u2.2), M_2, M_3)) ∧ (x2.toInt = 3 → ((M_3 8 0) = 0 → K (0 : Int32) ((u2.1), (u2.2), M_2, M_3)) ∧ (¬ (M_3 8 0) = 0 → K (1 : Int32) ((u2.1), (u2.2), M_2, M_3))) ∧ (x2.toInt = 4 → K (M_3 5 0) ((u2.1), (u2.2), M_2, M_3))) (fun E _ => KX E ((u2.1), (u2.2), M_2, M_3))))) (fun E u2 => KX E ((u2.1), (u2.2), M_2, M_3))
set_option maxHeartbeats 4000000 in
set_option maxRecDepth 100000 in
theorem cnX7_ofThread (l : Launch) (hl0 : l.stackTraces = false) (D : va_G) (Y : Nat → ClassId) (N : Nat) (o : Nat) (a : Nat → Nat) (M : mb_m) (f1 : (Nat → Option Nat)) (o2 : Nat) (a2 : Nat → Nat) (M_2 : mb_m) (a3 : Nat → Nat) (M_3 : mb_m) (sz : Nat) (x1 x2 : Int32) (K : Int32 → (mb_m × (Nat → Option Nat) × mb_m × mb_m) → Prop) (KX : String → (mb_m × (Nat → Option Nat) × mb_m × mb_m) → Prop) (hF : PX7_ofThread N M f1 o2 M_2 M_3 x1 x2 K KX) : vx_Met l yX7_ofThread wsX7_ofThread ({ frames := 7, cells := 2, slots := 12, locals := 112 } : Room) (va_Pc [.ref o, .int x1, .int x2] (mb_BX D Y (gw7 Y o a M ++ grB Y (a 2) f1 ++ gw1 Y o2 a2 M_2 ++ gw4 Y (a2 0) a3 M_3) sz)) (va_Qi K (fun u t => mb_T D (va_A (gw7 Y o a M ++ grB Y (a 2) f1 ++ gw1 Y o2 a2 M_2 ++ gw4 Y (a2 0) a3 M_3) sz) (gw7 Y o a u.1 ++ grB Y (a 2) u.2.1 ++ gw1 Y o2 a2 u.2.2.1 ++ gw4 Y (a2 0) a3 u.2.2.2) t) (va_A (gw7 Y o a M ++ grB Y (a 2) f1 ++ gw1 Y o2 a2 M_2 ++ gw4 Y (a2 0) a3 M_3) sz)) (mb_XC D (va_A (gw7 Y o a M ++ grB Y (a 2) f1 ++ gw1 Y o2 a2 M_2 ++ gw4 Y (a2 0) a3 M_3) sz) KX (fun u : mb_m × (Nat → Option Nat) × mb_m × mb_m => gw7 Y o a u.1 ++ grB Y (a 2) u.2.1 ++ gw1 Y o2 a2 u.2.2.1 ++ gw4 Y (a2 0) a3 u.2.2.2)) 2 12 (va_A (gw7 Y o a M ++ grB Y (a 2) f1 ++ gw1 Y o2 a2 M_2 ++ gw4 Y (a2 0) a3 M_3) sz) := by
  refine mbx_begin (cc := cX7_ofThread) (maxL := 4) (ret := (some .int)) hl0 (by decide +kernel) rfl (Nat.le_of_ble_eq_true rfl) ?_
  intro p e s m below meth c ls C hsz hnm hP hD hl
  generalize hAe : va_A (gw7 Y o a M ++ grB Y (a 2) f1 ++ gw1 Y o2 a2 M_2 ++ gw4 Y (a2 0) a3 M_3) sz = A at C hD ⊢
  have C : mb_CX l p s m meth c ([.ref o, .int x1, .int x2] : List Value).toArray cX7_ofThread 4 (some .int) wsX7_ofThread RX7 D Y A := C
  obtain ⟨⟨hx, hb, hr, hml, hts, hown, hlocks, hA, hG⟩, hT, hX, hl0⟩ := id C
  have hK := hG.1
  have hS : va_S A s.heap s.heap [] := va_S.rf
  have hl : lv_has ls 4 [(0, .ref o), (1, .int x1), (2, .int x2)] := hl
  refine lv_aload_n hx hb dX7_ofThread_0 rfl (lv_at hl 0 rfl) ?_
  refine lv_iload_n hx hb dX7_ofThread_1 rfl (lv_at hl 1 rfl) ?_
  have hPc := hP.sub (ws' := gw7 Y o a M ++ grB Y (a 2) f1) [0, 1] rfl
  have hDc := hD.sub (ws' := gw7 Y o a M ++ grB Y (a 2) f1) [0, 1] (by decide) rfl
  refine mbx_cPr (S := mb_m × (Nat → Option Nat) × mb_m × mb_m) (wf := fun u => gw7 Y o a u.1 ++ grB Y (a 2) u.2.1 ++ gw1 Y o2 a2 u.2.2.1 ++ gw4 Y (a2 0) a3 u.2.2.2) (wc := gw7 Y o a M ++ grB Y (a 2) f1) (wr := gw1 Y o2 a2 M_2 ++ gw4 Y (a2 0) a3 M_3) C hP hD hS [0, 1] [2, 3, 4, 5, 6] rfl rfl (by decide) (by decide) (vx_runV (As := [.int x1]) (rest := []) ⟨hx, hb, hml, hown, hts⟩ (cnX7_bookOf l C.2.2.2 D Y N o a M f1 _ x1 _ _ hF) (cwV 1 hts gX7_ofThread_X7_bookOf rfl rfl rfl (by decide +kernel) ⟨Nat.le_of_ble_eq_true rfl, Nat.le_of_ble_eq_true rfl⟩) (mbx_preV C hPc hDc hS 0 rfl rfl) rfl rfl hl.1 rfl (lv_room (Nat.le_of_ble_eq_true rfl)) dX7_ofThread_2 ⟨Nat.le_of_ble_eq_true rfl, Nat.le_of_ble_eq_true rfl⟩) (Nat.le_of_ble_eq_true rfl) (Nat.le_of_ble_eq_true rfl) (fun E u2 H hF hP hD => ⟨((u2.1), (u2.2), M_2, M_3), hF, hP.sub (ws' := gw7 Y o a (u2.1) ++ grB Y (a 2) (u2.2) ++ gw1 Y o2 a2 M_2 ++ gw4 Y (a2 0) a3 M_3) [5, 6, 0, 1, 2, 3, 4] rfl, hD.sub (ws' := gw7 Y o a (u2.1) ++ grB Y (a 2) (u2.2) ++ gw1 Y o2 a2 M_2 ++ gw4 Y (a2 0) a3 M_3) [5, 6, 0, 1, 2, 3, 4] (by decide) rfl⟩) (fun r2 u2 H locs hF hP hD hS => ?_)
  have hP := hP.sub (ws' := gw7 Y o a (u2.1) ++ grB Y (a 2) (u2.2) ++ gw1 Y o2 a2 M_2 ++ gw4 Y (a2 0) a3 M_3) [5, 6, 0, 1, 2, 3, 4] rfl
  have hD := hD.sub (ws' := gw7 Y o a (u2.1) ++ grB Y (a 2) (u2.2) ++ gw1 Y o2 a2 M_2 ++ gw4 Y (a2 0) a3 M_3) [5, 6, 0, 1, 2, 3, 4] (by decide) rfl
  obtain ⟨hq5, hF⟩ := hF
  try rw [hq5] at hl
  try rw [hq5]
  refine va_getN (D := D) (ci := 1) (v := .ref (a2 0)) (C := RX1) (T := TX1) (N := 7) hx hb hts (fun _ h9 => List.mem_cons_of_mem _ (List.mem_append_left _ (List.mem_append_left _ (List.mem_append_left _ (List.mem_append_left _ (List.mem_append_right _ (h9))))))) hown hK hP 2 rfl rfl 0 (by decide) (va_Nw.use rfl (hG.2.1 _ (List.mem_of_getElem? (i := 3) rfl))) (fun _ h9 => h9) rfl dX7_ofThread_5 ?_
  refine lv_astore_n (lv' := [(3, .ref (a2 0)), (0, .ref o), (1, .int x1), (2, .int x2)]) hx hb dX7_ofThread_8 rfl hl (by decide) rfl (fun ls hl => ?_)
  refine lv_iload_n hx hb dX7_ofThread_9 rfl (lv_at hl 3 rfl) ?_
  refine lv_iconst (v := 0) hx hb dX7_ofThread_10 (by decide) ?_
  refine lv_iconst (v := 5) hx hb dX7_ofThread_11 (by decide) ?_
  refine mb_cE hP hS hA (va_runS (As := [.int x2, .int (0 : Int32), .int (5 : Int32)]) (rest := []) ⟨hx, hb, hml, hown, hts⟩ (cnX7_isWithin l D Y N _ x2 (0 : Int32) (5 : Int32) _ hF) (va_cwS 3 hts gX7_ofThread_X7_isWithin rfl rfl rfl (by decide +kernel) ⟨Nat.le_of_ble_eq_true rfl, Nat.le_of_ble_eq_true rfl⟩) (mb_preS (A := A) hG mb_P0 mb_D0) rfl rfl hl.1 rfl (lv_room (Nat.le_of_ble_eq_true rfl)) dX7_ofThread_12 ⟨Nat.le_of_ble_eq_true rfl, Nat.le_of_ble_eq_true rfl⟩) (fun r12 H locs hF hP hS => ?_)
  refine mbx_cEv (S := mb_m × (Nat → Option Nat) × mb_m × mb_m) (wf := fun u => gw7 Y o a u.1 ++ grB Y (a 2) u.2.1 ++ gw1 Y o2 a2 u.2.2.1 ++ gw4 Y (a2 0) a3 u.2.2.2) C ((u2.1), (u2.2), M_2, M_3) hP hD hS (vx_runS (As := [.int r12]) (rest := []) ⟨hx, hb, hml, hown, hts⟩ (cnX7_demandArgument l C.2.2.2 D Y N _ r12 _ _ hF) (va_cwS 1 hts gX7_ofThread_X7_demandArgument rfl rfl rfl (by decide +kernel) ⟨Nat.le_of_ble_eq_true rfl, Nat.le_of_ble_eq_true rfl⟩) (mbx_preS C mb_P0 mb_D0 hS) rfl rfl hl.1 rfl (lv_room (Nat.le_of_ble_eq_true rfl)) dX7_ofThread_15 ⟨Nat.le_of_ble_eq_true rfl, Nat.le_of_ble_eq_true rfl⟩) (Nat.le_of_ble_eq_true rfl) (Nat.le_of_ble_eq_true rfl) (fun H locs hF hP hS => ?_)
  refine lv_iload_n hx hb dX7_ofThread_18 rfl (lv_at hl 3 rfl) ?_
  rcases (show (x2.toInt < 0 ∨ 4 < x2.toInt) ∨ x2.toInt = 0 ∨ x2.toInt = 1 ∨ x2.toInt = 2 ∨ x2.toInt = 3 ∨ x2.toInt = 4 by omega) with c_19 | c_19 | c_19 | c_19 | c_19 | c_19
  · have hF := hF.1 c_19
    refine lv_tableOut (tgt := 85) hx hb dX7_ofThread_19 c_19 (by decide) ?_
    refine lv_aload_n hx hb dX7_ofThread_85 rfl (lv_at hl 0 rfl) ?_
    have hPc := hP.sub (ws' := gw4 Y (a2 0) a3 M_3) [3, 4, 5, 6] rfl
    have hDc := hD.sub (ws' := gw4 Y (a2 0) a3 M_3) [3, 4, 5, 6] (by decide) rfl
    refine mb_cP (wc := gw4 Y (a2 0) a3 M_3) (wr := gw7 Y o a (u2.1) ++ grB Y (a 2) (u2.2) ++ gw1 Y o2 a2 M_2) hP hD hS hA [3, 4, 5, 6] [0, 1, 2] rfl rfl (by decide) (by decide) (va_runV (As := []) (rest := []) ⟨hx, hb, hml, hown, hts⟩ (cnX4_isSewn l D Y N (a2 0) a3 M_3 _  _ hF) (cwV 0 hts gX7_ofThread_X4_isSewn rfl rfl rfl (by decide +kernel) ⟨Nat.le_of_ble_eq_true rfl, Nat.le_of_ble_eq_true rfl⟩) (mb_preV hG hPc hDc 0 rfl rfl) rfl rfl hl.1 rfl (lv_room (Nat.le_of_ble_eq_true rfl)) dX7_ofThread_86 ⟨Nat.le_of_ble_eq_true rfl, Nat.le_of_ble_eq_true rfl⟩) (fun r86 u86 H locs hF hP hD hS => ?_)
    have hP := hP.sub (ws' := gw7 Y o a (u2.1) ++ grB Y (a 2) (u2.2) ++ gw1 Y o2 a2 M_2 ++ gw4 Y (a2 0) a3 u86) [0, 1, 2, 3, 4, 5, 6] rfl
    have hD := hD.sub (ws' := gw7 Y o a (u2.1) ++ grB Y (a 2) (u2.2) ++ gw1 Y o2 a2 M_2 ++ gw4 Y (a2 0) a3 u86) [0, 1, 2, 3, 4, 5, 6] (by decide) rfl
    refine lv_if_eq (tgt := 96) hx hb dX7_ofThread_89 (by decide) (fun c_89 => ?_) (fun c_89 => ?_)
    · have hF := hF.1 c_89
      refine lv_iconst (v := 0) hx hb dX7_ofThread_96 (by decide) ?_
      refine vx_ret ?_
      exact mb_ri (S := mb_m × (Nat → Option Nat) × mb_m × mb_m) (mc := 2) (ms := 12) (wf := fun u => gw7 Y o a u.1 ++ grB Y (a 2) u.2.1 ++ gw1 Y o2 a2 u.2.2.1 ++ gw4 Y (a2 0) a3 u.2.2.2) C.1 rfl (u := ((u2.1), (u2.2), M_2, u86)) hF hP hD hS dX7_ofThread_97 (Nat.le_of_ble_eq_true rfl) (Nat.le_of_ble_eq_true rfl)
    · have hF := hF.2 c_89
      refine lv_iconst (v := 1) hx hb dX7_ofThread_92 (by decide) ?_
      refine lv_goto (tgt := 97) hx hb dX7_ofThread_93 (by decide) ?_
      refine vx_ret ?_
      exact mb_ri (S := mb_m × (Nat → Option Nat) × mb_m × mb_m) (mc := 2) (ms := 12) (wf := fun u => gw7 Y o a u.1 ++ grB Y (a 2) u.2.1 ++ gw1 Y o2 a2 u.2.2.1 ++ gw4 Y (a2 0) a3 u.2.2.2) C.1 rfl (u := ((u2.1), (u2.2), M_2, u86)) hF hP hD hS dX7_ofThread_97 (Nat.le_of_ble_eq_true rfl) (Nat.le_of_ble_eq_true rfl)
  · have hF := hF.2.1 c_19
    refine lv_tableIn (off := 33) (tgt := 52) hx hb dX7_ofThread_19 (by omega) (by omega) (by rw [c_19]; rfl) (by decide) ?_
    refine lv_aload_n hx hb dX7_ofThread_52 rfl (lv_at hl 0 rfl) ?_
    refine va_getN (D := D) (ci := 4) (v := .int (M_3 9 0)) (C := RX4) (T := TX4) (N := 10) hx hb hts (fun _ h9 => List.mem_cons_of_mem _ (List.mem_append_left _ (List.mem_append_left _ (List.mem_append_left _ (List.mem_append_right _ (h9)))))) hown hK hP 3 rfl rfl 9 (by decide) (va_Nw.use rfl (hG.2.1 _ (List.mem_of_getElem? (i := 4) rfl))) (fun _ h9 => h9) rfl dX7_ofThread_53 ?_
    refine vx_ret ?_
    exact mb_ri (S := mb_m × (Nat → Option Nat) × mb_m × mb_m) (mc := 2) (ms := 12) (wf := fun u => gw7 Y o a u.1 ++ grB Y (a 2) u.2.1 ++ gw1 Y o2 a2 u.2.2.1 ++ gw4 Y (a2 0) a3 u.2.2.2) C.1 rfl (u := ((u2.1), (u2.2), M_2, M_3)) hF hP hD hS dX7_ofThread_56 (Nat.le_of_ble_eq_true rfl) (Nat.le_of_ble_eq_true rfl)
  · have hF := hF.2.2.1 c_19
    refine lv_tableIn (off := 38) (tgt := 57) hx hb dX7_ofThread_19 (by omega) (by omega) (by rw [c_19]; rfl) (by decide) ?_
    refine lv_aload_n hx hb dX7_ofThread_57 rfl (lv_at hl 0 rfl) ?_
    refine va_getN (D := D) (ci := 4) (v := .int (M_3 6 0)) (C := RX4) (T := TX4) (N := 10) hx hb hts (fun _ h9 => List.mem_cons_of_mem _ (List.mem_append_left _ (List.mem_append_left _ (List.mem_append_left _ (List.mem_append_right _ (h9)))))) hown hK hP 3 rfl rfl 6 (by decide) (va_Nw.use rfl (hG.2.1 _ (List.mem_of_getElem? (i := 6) rfl))) (fun _ h9 => h9) rfl dX7_ofThread_58 ?_
    refine vx_ret ?_
    exact mb_ri (S := mb_m × (Nat → Option Nat) × mb_m × mb_m) (mc := 2) (ms := 12) (wf := fun u => gw7 Y o a u.1 ++ grB Y (a 2) u.2.1 ++ gw1 Y o2 a2 u.2.2.1 ++ gw4 Y (a2 0) a3 u.2.2.2) C.1 rfl (u := ((u2.1), (u2.2), M_2, M_3)) hF hP hD hS dX7_ofThread_61 (Nat.le_of_ble_eq_true rfl) (Nat.le_of_ble_eq_true rfl)
  · have hF := hF.2.2.2.1 c_19
    refine lv_tableIn (off := 43) (tgt := 62) hx hb dX7_ofThread_19 (by omega) (by omega) (by rw [c_19]; rfl) (by decide) ?_
    refine lv_aload_n hx hb dX7_ofThread_62 rfl (lv_at hl 0 rfl) ?_
    refine va_getN (D := D) (ci := 4) (v := .int (M_3 7 0)) (C := RX4) (T := TX4) (N := 10) hx hb hts (fun _ h9 => List.mem_cons_of_mem _ (List.mem_append_left _ (List.mem_append_left _ (List.mem_append_left _ (List.mem_append_right _ (h9)))))) hown hK hP 3 rfl rfl 7 (by decide) (va_Nw.use rfl (hG.2.1 _ (List.mem_of_getElem? (i := 7) rfl))) (fun _ h9 => h9) rfl dX7_ofThread_63 ?_
    refine vx_ret ?_
    exact mb_ri (S := mb_m × (Nat → Option Nat) × mb_m × mb_m) (mc := 2) (ms := 12) (wf := fun u => gw7 Y o a u.1 ++ grB Y (a 2) u.2.1 ++ gw1 Y o2 a2 u.2.2.1 ++ gw4 Y (a2 0) a3 u.2.2.2) C.1 rfl (u := ((u2.1), (u2.2), M_2, M_3)) hF hP hD hS dX7_ofThread_66 (Nat.le_of_ble_eq_true rfl) (Nat.le_of_ble_eq_true rfl)
  · have hF := hF.2.2.2.2.1 c_19
    refine lv_tableIn (off := 48) (tgt := 67) hx hb dX7_ofThread_19 (by omega) (by omega) (by rw [c_19]; rfl) (by decide) ?_
    refine lv_aload_n hx hb dX7_ofThread_67 rfl (lv_at hl 0 rfl) ?_
    refine va_getN (D := D) (ci := 4) (v := .int (M_3 8 0)) (C := RX4) (T := TX4) (N := 10) hx hb hts (fun _ h9 => List.mem_cons_of_mem _ (List.mem_append_left _ (List.mem_append_left _ (List.mem_append_left _ (List.mem_append_right _ (h9)))))) hown hK hP 3 rfl rfl 8 (by decide) (va_Nw.use rfl (hG.2.1 _ (List.mem_of_getElem? (i := 8) rfl))) (fun _ h9 => h9) rfl dX7_ofThread_68 ?_
    refine lv_if_eq (tgt := 78) hx hb dX7_ofThread_71 (by decide) (fun c_71 => ?_) (fun c_71 => ?_)
    · have hF := hF.1 c_71
      refine lv_iconst (v := 0) hx hb dX7_ofThread_78 (by decide) ?_
      refine vx_ret ?_
      exact mb_ri (S := mb_m × (Nat → Option Nat) × mb_m × mb_m) (mc := 2) (ms := 12) (wf := fun u => gw7 Y o a u.1 ++ grB Y (a 2) u.2.1 ++ gw1 Y o2 a2 u.2.2.1 ++ gw4 Y (a2 0) a3 u.2.2.2) C.1 rfl (u := ((u2.1), (u2.2), M_2, M_3)) hF hP hD hS dX7_ofThread_79 (Nat.le_of_ble_eq_true rfl) (Nat.le_of_ble_eq_true rfl)
    · have hF := hF.2 c_71
      refine lv_iconst (v := 1) hx hb dX7_ofThread_74 (by decide) ?_
      refine lv_goto (tgt := 79) hx hb dX7_ofThread_75 (by decide) ?_
      refine vx_ret ?_
      exact mb_ri (S := mb_m × (Nat → Option Nat) × mb_m × mb_m) (mc := 2) (ms := 12) (wf := fun u => gw7 Y o a u.1 ++ grB Y (a 2) u.2.1 ++ gw1 Y o2 a2 u.2.2.1 ++ gw4 Y (a2 0) a3 u.2.2.2) C.1 rfl (u := ((u2.1), (u2.2), M_2, M_3)) hF hP hD hS dX7_ofThread_79 (Nat.le_of_ble_eq_true rfl) (Nat.le_of_ble_eq_true rfl)
  · have hF := hF.2.2.2.2.2 c_19
    refine lv_tableIn (off := 61) (tgt := 80) hx hb dX7_ofThread_19 (by omega) (by omega) (by rw [c_19]; rfl) (by decide) ?_
    refine lv_aload_n hx hb dX7_ofThread_80 rfl (lv_at hl 0 rfl) ?_
    refine va_getN (D := D) (ci := 4) (v := .int (M_3 5 0)) (C := RX4) (T := TX4) (N := 10) hx hb hts (fun _ h9 => List.mem_cons_of_mem _ (List.mem_append_left _ (List.mem_append_left _ (List.mem_append_left _ (List.mem_append_right _ (h9)))))) hown hK hP 3 rfl rfl 5 (by decide) (va_Nw.use rfl (hG.2.1 _ (List.mem_of_getElem? (i := 5) rfl))) (fun _ h9 => h9) rfl dX7_ofThread_81 ?_
    refine vx_ret ?_
    exact mb_ri (S := mb_m × (Nat → Option Nat) × mb_m × mb_m) (mc := 2) (ms := 12) (wf := fun u => gw7 Y o a u.1 ++ grB Y (a 2) u.2.1 ++ gw1 Y o2 a2 u.2.2.1 ++ gw4 Y (a2 0) a3 u.2.2.2) C.1 rfl (u := ((u2.1), (u2.2), M_2, M_3)) hF hP hD hS dX7_ofThread_84 (Nat.le_of_ble_eq_true rfl) (Nat.le_of_ble_eq_true rfl)
end
section
noncomputable def PX7_ofThread_n (N : Nat) (M : mb_m) (f1 : (Nat → Option Nat)) (x1 x2 : Int32) (K : Int32 → (mb_m × (Nat → Option Nat)) → Prop) (KX : String → (mb_m × (Nat → Option Nat)) → Prop) : Prop := PX7_bookOf N M f1 x1 (fun r2 u2 => False) (fun E u2 => KX E ((u2.1), (u2.2)))
set_option maxHeartbeats 4000000 in
set_option maxRecDepth 100000 in
theorem cnX7_ofThread_n (l : Launch) (hl0 : l.stackTraces = false) (D : va_G) (Y : Nat → ClassId) (N : Nat) (o : Nat) (a : Nat → Nat) (M : mb_m) (f1 : (Nat → Option Nat)) (sz : Nat) (x1 x2 : Int32) (K : Int32 → (mb_m × (Nat → Option Nat)) → Prop) (KX : String → (mb_m × (Nat → Option Nat)) → Prop) (hF : PX7_ofThread_n N M f1 x1 x2 K KX) : vx_Met l yX7_ofThread wsX7_ofThread ({ frames := 7, cells := 2, slots := 12, locals := 112 } : Room) (va_Pc [.ref o, .int x1, .int x2] (mb_BX D Y (gw7 Y o a M ++ grB Y (a 2) f1) sz)) (va_Qi K (fun u t => mb_T D (va_A (gw7 Y o a M ++ grB Y (a 2) f1) sz) (gw7 Y o a u.1 ++ grB Y (a 2) u.2) t) (va_A (gw7 Y o a M ++ grB Y (a 2) f1) sz)) (mb_XC D (va_A (gw7 Y o a M ++ grB Y (a 2) f1) sz) KX (fun u : mb_m × (Nat → Option Nat) => gw7 Y o a u.1 ++ grB Y (a 2) u.2)) 2 12 (va_A (gw7 Y o a M ++ grB Y (a 2) f1) sz) := by
  refine mbx_begin (cc := cX7_ofThread) (maxL := 4) (ret := (some .int)) hl0 (by decide +kernel) rfl (Nat.le_of_ble_eq_true rfl) ?_
  intro p e s m below meth c ls C hsz hnm hP hD hl
  generalize hAe : va_A (gw7 Y o a M ++ grB Y (a 2) f1) sz = A at C hD ⊢
  have C : mb_CX l p s m meth c ([.ref o, .int x1, .int x2] : List Value).toArray cX7_ofThread 4 (some .int) wsX7_ofThread RX7 D Y A := C
  obtain ⟨⟨hx, hb, hr, hml, hts, hown, hlocks, hA, hG⟩, hT, hX, hl0⟩ := id C
  have hK := hG.1
  have hS : va_S A s.heap s.heap [] := va_S.rf
  have hl : lv_has ls 4 [(0, .ref o), (1, .int x1), (2, .int x2)] := hl
  refine lv_aload_n hx hb dX7_ofThread_0 rfl (lv_at hl 0 rfl) ?_
  refine lv_iload_n hx hb dX7_ofThread_1 rfl (lv_at hl 1 rfl) ?_
  have hPc := hP.sub (ws' := gw7 Y o a M ++ grB Y (a 2) f1) [0, 1] rfl
  have hDc := hD.sub (ws' := gw7 Y o a M ++ grB Y (a 2) f1) [0, 1] (by decide) rfl
  refine mbx_cPr (S := mb_m × (Nat → Option Nat)) (wf := fun u => gw7 Y o a u.1 ++ grB Y (a 2) u.2) (wc := gw7 Y o a M ++ grB Y (a 2) f1) (wr := ([] : va_W)) C hP hD hS [0, 1] [] rfl rfl (by decide) (by decide) (vx_runV (As := [.int x1]) (rest := []) ⟨hx, hb, hml, hown, hts⟩ (cnX7_bookOf l C.2.2.2 D Y N o a M f1 _ x1 _ _ hF) (cwV 1 hts gX7_ofThread_X7_bookOf rfl rfl rfl (by decide +kernel) ⟨Nat.le_of_ble_eq_true rfl, Nat.le_of_ble_eq_true rfl⟩) (mbx_preV C hPc hDc hS 0 rfl rfl) rfl rfl hl.1 rfl (lv_room (Nat.le_of_ble_eq_true rfl)) dX7_ofThread_2 ⟨Nat.le_of_ble_eq_true rfl, Nat.le_of_ble_eq_true rfl⟩) (Nat.le_of_ble_eq_true rfl) (Nat.le_of_ble_eq_true rfl) (fun E u2 H hF hP hD => ⟨((u2.1), (u2.2)), hF, hP.sub (ws' := gw7 Y o a (u2.1) ++ grB Y (a 2) (u2.2)) [0, 1] rfl, hD.sub (ws' := gw7 Y o a (u2.1) ++ grB Y (a 2) (u2.2)) [0, 1] (by decide) rfl⟩) (fun r2 u2 H locs hF hP hD hS => ?_)
  have hP := hP.sub (ws' := gw7 Y o a (u2.1) ++ grB Y (a 2) (u2.2)) [0, 1] rfl
  have hD := hD.sub (ws' := gw7 Y o a (u2.1) ++ grB Y (a 2) (u2.2)) [0, 1] (by decide) rfl
  exact hF.elim
end
section
noncomputable def PX7_stitches_45 (N : Nat) (K : Int32 → (mb_m × (Nat → Option Nat) × mb_m × mb_m) → Prop) (KX : String → (mb_m × (Nat → Option Nat) × mb_m × mb_m) → Prop) (M : mb_m) (f1 : (Nat → Option Nat)) (M_2 : mb_m) (M_3 : mb_m) (x2 x3 y0 : Int32) : Prop := PX7_demandPlace N y0 (fun _ => PX4_stitchesAt N M_3 x2 x3 (fun r52 u52 => K r52 (M, f1, M_2, u52))) (fun E _ => KX E (M, f1, M_2, M_3))
set_option maxHeartbeats 4000000 in
set_option maxRecDepth 100000 in
theorem wX7_stitches_45 {p : Program} {l : Launch} {e : Env} {s : State} {m : MethodId} {below : List Frame} {meth : Method} {c : Code} {args : Array Value} {D : va_G} {Y : Nat → ClassId} {A : Nat → Prop} {o : Nat} {a : Nat → Nat} {o2 : Nat} {a2 : Nat → Nat} {a3 : Nat → Nat} {N : Nat} {K : Int32 → (mb_m × (Nat → Option Nat) × mb_m × mb_m) → Prop} {KX : String → (mb_m × (Nat → Option Nat) × mb_m × mb_m) → Prop} (C : mb_CX l p s m meth c args cX7_stitches 5 (some .int) wsX7_stitches RX7 D Y A) : ∀ (M : mb_m) (f1 : (Nat → Option Nat)) (M_2 : mb_m) (M_3 : mb_m) (x2 x3 y0 : Int32) (H : Heap) (locs : List Loc) (ls : Array Slot), PX7_stitches_45 N K KX  M f1 M_2 M_3 x2 x3 y0 → va_P D vwCl (gw7 Y o a M ++ grB Y (a 2) f1 ++ gw1 Y o2 a2 M_2 ++ gw4 Y (a2 0) a3 M_3) H → va_D A (gw7 Y o a M ++ grB Y (a 2) f1 ++ gw1 Y o2 a2 M_2 ++ gw4 Y (a2 0) a3 M_3) → va_S A s.heap H locs → lv_has ls 5 [(2, .int x2), (3, .int x3), (4, .ref (a2 0))] → W p l e ({ frames := 7, cells := 2, slots := 12, locals := 112 } : Room) s m args below meth c H locs 1 6 (vx_MQ below (va_Qi K (fun u t => mb_T D A (gw7 Y o a u.1 ++ grB Y (a 2) u.2.1 ++ gw1 Y o2 a2 u.2.2.1 ++ gw4 Y (a2 0) a3 u.2.2.2) t) A) (mb_XC D A KX (fun u : mb_m × (Nat → Option Nat) × mb_m × mb_m => gw7 Y o a u.1 ++ grB Y (a 2) u.2.1 ++ gw1 Y o2 a2 u.2.2.1 ++ gw4 Y (a2 0) a3 u.2.2.2)) args s 2 12 A) (F0 m 45 ls [.int y0]) := by
  obtain ⟨⟨hx, hb, hr, hml, hts, hown, hlocks, hA, hG⟩, hT, hX, hl0⟩ := id C
  have hK := hG.1
  intro M f1 M_2 M_3 x2 x3 y0 H locs ls hF hP hD hS hl
  refine mbx_cEv (S := mb_m × (Nat → Option Nat) × mb_m × mb_m) (wf := fun u => gw7 Y o a u.1 ++ grB Y (a 2) u.2.1 ++ gw1 Y o2 a2 u.2.2.1 ++ gw4 Y (a2 0) a3 u.2.2.2) C (M, f1, M_2, M_3) hP hD hS (vx_runS (As := [.int y0]) (rest := []) ⟨hx, hb, hml, hown, hts⟩ (cnX7_demandPlace l C.2.2.2 D Y N _ y0 _ _ hF) (va_cwS 1 hts gX7_stitches_X7_demandPlace rfl rfl rfl (by decide +kernel) ⟨Nat.le_of_ble_eq_true rfl, Nat.le_of_ble_eq_true rfl⟩) (mbx_preS C mb_P0 mb_D0 hS) rfl rfl hl.1 rfl (lv_room (Nat.le_of_ble_eq_true rfl)) dX7_stitches_45 ⟨Nat.le_of_ble_eq_true rfl, Nat.le_of_ble_eq_true rfl⟩) (Nat.le_of_ble_eq_true rfl) (Nat.le_of_ble_eq_true rfl) (fun H locs hF hP hS => ?_)
  refine lv_aload hx hb dX7_stitches_48 (lv_at hl 2 rfl) ?_
  refine lv_iload_n hx hb dX7_stitches_50 rfl (lv_at hl 0 rfl) ?_
  refine lv_iload_n hx hb dX7_stitches_51 rfl (lv_at hl 1 rfl) ?_
  have hPc := hP.sub (ws' := gw4 Y (a2 0) a3 M_3) [3, 4, 5, 6] rfl
  have hDc := hD.sub (ws' := gw4 Y (a2 0) a3 M_3) [3, 4, 5, 6] (by decide) rfl
  refine mb_cP (wc := gw4 Y (a2 0) a3 M_3) (wr := gw7 Y o a M ++ grB Y (a 2) f1 ++ gw1 Y o2 a2 M_2) hP hD hS hA [3, 4, 5, 6] [0, 1, 2] rfl rfl (by decide) (by decide) (va_runV (As := [.int x2, .int x3]) (rest := []) ⟨hx, hb, hml, hown, hts⟩ (cnX4_stitchesAt l D Y N (a2 0) a3 M_3 _ x2 x3 _ hF) (cwV 2 hts gX7_stitches_X4_stitchesAt rfl rfl rfl (by decide +kernel) ⟨Nat.le_of_ble_eq_true rfl, Nat.le_of_ble_eq_true rfl⟩) (mb_preV hG hPc hDc 0 rfl rfl) rfl rfl hl.1 rfl (lv_room (Nat.le_of_ble_eq_true rfl)) dX7_stitches_52 ⟨Nat.le_of_ble_eq_true rfl, Nat.le_of_ble_eq_true rfl⟩) (fun r52 u52 H locs hF hP hD hS => ?_)
  have hP := hP.sub (ws' := gw7 Y o a M ++ grB Y (a 2) f1 ++ gw1 Y o2 a2 M_2 ++ gw4 Y (a2 0) a3 u52) [0, 1, 2, 3, 4, 5, 6] rfl
  have hD := hD.sub (ws' := gw7 Y o a M ++ grB Y (a 2) f1 ++ gw1 Y o2 a2 M_2 ++ gw4 Y (a2 0) a3 u52) [0, 1, 2, 3, 4, 5, 6] (by decide) rfl
  refine vx_ret ?_
  exact mb_ri (S := mb_m × (Nat → Option Nat) × mb_m × mb_m) (mc := 2) (ms := 12) (wf := fun u => gw7 Y o a u.1 ++ grB Y (a 2) u.2.1 ++ gw1 Y o2 a2 u.2.2.1 ++ gw4 Y (a2 0) a3 u.2.2.2) C.1 rfl (u := (M, f1, M_2, u52)) hF hP hD hS dX7_stitches_55 (Nat.le_of_ble_eq_true rfl) (Nat.le_of_ble_eq_true rfl)
noncomputable def PX7_stitches_44 (N : Nat) (K : Int32 → (mb_m × (Nat → Option Nat) × mb_m × mb_m) → Prop) (KX : String → (mb_m × (Nat → Option Nat) × mb_m × mb_m) → Prop) (M : mb_m) (f1 : (Nat → Option Nat)) (M_2 : mb_m) (M_3 : mb_m) (x2 x3 : Int32) : Prop := PX7_stitches_45 N K KX M f1 M_2 M_3 x2 x3 (0 : Int32)
set_option maxHeartbeats 4000000 in
set_option maxRecDepth 100000 in
theorem wX7_stitches_44 {p : Program} {l : Launch} {e : Env} {s : State} {m : MethodId} {below : List Frame} {meth : Method} {c : Code} {args : Array Value} {D : va_G} {Y : Nat → ClassId} {A : Nat → Prop} {o : Nat} {a : Nat → Nat} {o2 : Nat} {a2 : Nat → Nat} {a3 : Nat → Nat} {N : Nat} {K : Int32 → (mb_m × (Nat → Option Nat) × mb_m × mb_m) → Prop} {KX : String → (mb_m × (Nat → Option Nat) × mb_m × mb_m) → Prop} (C : mb_CX l p s m meth c args cX7_stitches 5 (some .int) wsX7_stitches RX7 D Y A) : ∀ (M : mb_m) (f1 : (Nat → Option Nat)) (M_2 : mb_m) (M_3 : mb_m) (x2 x3 : Int32) (H : Heap) (locs : List Loc) (ls : Array Slot), PX7_stitches_44 N K KX  M f1 M_2 M_3 x2 x3 → va_P D vwCl (gw7 Y o a M ++ grB Y (a 2) f1 ++ gw1 Y o2 a2 M_2 ++ gw4 Y (a2 0) a3 M_3) H → va_D A (gw7 Y o a M ++ grB Y (a 2) f1 ++ gw1 Y o2 a2 M_2 ++ gw4 Y (a2 0) a3 M_3) → va_S A s.heap H locs → lv_has ls 5 [(2, .int x2), (3, .int x3), (4, .ref (a2 0))] → W p l e ({ frames := 7, cells := 2, slots := 12, locals := 112 } : Room) s m args below meth c H locs 1 6 (vx_MQ below (va_Qi K (fun u t => mb_T D A (gw7 Y o a u.1 ++ grB Y (a 2) u.2.1 ++ gw1 Y o2 a2 u.2.2.1 ++ gw4 Y (a2 0) a3 u.2.2.2) t) A) (mb_XC D A KX (fun u : mb_m × (Nat → Option Nat) × mb_m × mb_m => gw7 Y o a u.1 ++ grB Y (a 2) u.2.1 ++ gw1 Y o2 a2 u.2.2.1 ++ gw4 Y (a2 0) a3 u.2.2.2)) args s 2 12 A) (F0 m 44 ls []) := by
  obtain ⟨⟨hx, hb, hr, hml, hts, hown, hlocks, hA, hG⟩, hT, hX, hl0⟩ := id C
  have hK := hG.1
  intro M f1 M_2 M_3 x2 x3 H locs ls hF hP hD hS hl
  refine lv_iconst (v := 0) hx hb dX7_stitches_44 (by decide) ?_
  exact wX7_stitches_45 C M f1 M_2 M_3 x2 x3 (0 : Int32) _ _ _ hF hP hD hS (lv_sub hl [0, 1, 2] rfl)
noncomputable def PX7_stitches (N : Nat) (M : mb_m) (f1 : (Nat → Option Nat)) (o2 : Nat) (M_2 : mb_m) (M_3 : mb_m) (x1 x2 x3 : Int32) (K : Int32 → (mb_m × (Nat → Option Nat) × mb_m × mb_m) → Prop) (KX : String → (mb_m × (Nat → Option Nat) × mb_m × mb_m) → Prop) : Prop := PX7_bookOf N M f1 x1 (fun r2 u2 => r2 = o2 ∧ (PX7_isWithin N x2 (0 : Int32) ((M_3 0 0) - (1 : Int32)) (fun r19 _ => (r19 = 0 → PX7_stitches_44 N K KX (u2.1) (u2.2) M_2 M_3 x2 x3) ∧ (¬ r19 = 0 → PX7_isWithin N x3 (0 : Int32) ((M_3 1 0) - (2 : Int32)) (fun r34 _ => (r34 = 0 → PX7_stitches_44 N K KX (u2.1) (u2.2) M_2 M_3 x2 x3) ∧ (¬ r34 = 0 → PX7_stitches_45 N K KX (u2.1) (u2.2) M_2 M_3 x2 x3 (1 : Int32))))))) (fun E u2 => KX E ((u2.1), (u2.2), M_2, M_3))
set_option maxHeartbeats 4000000 in
set_option maxRecDepth 100000 in
theorem cnX7_stitches (l : Launch) (hl0 : l.stackTraces = false) (D : va_G) (Y : Nat → ClassId) (N : Nat) (o : Nat) (a : Nat → Nat) (M : mb_m) (f1 : (Nat → Option Nat)) (o2 : Nat) (a2 : Nat → Nat) (M_2 : mb_m) (a3 : Nat → Nat) (M_3 : mb_m) (sz : Nat) (x1 x2 x3 : Int32) (K : Int32 → (mb_m × (Nat → Option Nat) × mb_m × mb_m) → Prop) (KX : String → (mb_m × (Nat → Option Nat) × mb_m × mb_m) → Prop) (hF : PX7_stitches N M f1 o2 M_2 M_3 x1 x2 x3 K KX) : vx_Met l yX7_stitches wsX7_stitches ({ frames := 7, cells := 2, slots := 12, locals := 112 } : Room) (va_Pc [.ref o, .int x1, .int x2, .int x3] (mb_BX D Y (gw7 Y o a M ++ grB Y (a 2) f1 ++ gw1 Y o2 a2 M_2 ++ gw4 Y (a2 0) a3 M_3) sz)) (va_Qi K (fun u t => mb_T D (va_A (gw7 Y o a M ++ grB Y (a 2) f1 ++ gw1 Y o2 a2 M_2 ++ gw4 Y (a2 0) a3 M_3) sz) (gw7 Y o a u.1 ++ grB Y (a 2) u.2.1 ++ gw1 Y o2 a2 u.2.2.1 ++ gw4 Y (a2 0) a3 u.2.2.2) t) (va_A (gw7 Y o a M ++ grB Y (a 2) f1 ++ gw1 Y o2 a2 M_2 ++ gw4 Y (a2 0) a3 M_3) sz)) (mb_XC D (va_A (gw7 Y o a M ++ grB Y (a 2) f1 ++ gw1 Y o2 a2 M_2 ++ gw4 Y (a2 0) a3 M_3) sz) KX (fun u : mb_m × (Nat → Option Nat) × mb_m × mb_m => gw7 Y o a u.1 ++ grB Y (a 2) u.2.1 ++ gw1 Y o2 a2 u.2.2.1 ++ gw4 Y (a2 0) a3 u.2.2.2)) 2 12 (va_A (gw7 Y o a M ++ grB Y (a 2) f1 ++ gw1 Y o2 a2 M_2 ++ gw4 Y (a2 0) a3 M_3) sz) := by
  refine mbx_begin (cc := cX7_stitches) (maxL := 5) (ret := (some .int)) hl0 (by decide +kernel) rfl (Nat.le_of_ble_eq_true rfl) ?_
  intro p e s m below meth c ls C hsz hnm hP hD hl
  generalize hAe : va_A (gw7 Y o a M ++ grB Y (a 2) f1 ++ gw1 Y o2 a2 M_2 ++ gw4 Y (a2 0) a3 M_3) sz = A at C hD ⊢
  have C : mb_CX l p s m meth c ([.ref o, .int x1, .int x2, .int x3] : List Value).toArray cX7_stitches 5 (some .int) wsX7_stitches RX7 D Y A := C
  obtain ⟨⟨hx, hb, hr, hml, hts, hown, hlocks, hA, hG⟩, hT, hX, hl0⟩ := id C
  have hK := hG.1
  have hS : va_S A s.heap s.heap [] := va_S.rf
  have hl : lv_has ls 5 [(0, .ref o), (1, .int x1), (2, .int x2), (3, .int x3)] := hl
  refine lv_aload_n hx hb dX7_stitches_0 rfl (lv_at hl 0 rfl) ?_
  refine lv_iload_n hx hb dX7_stitches_1 rfl (lv_at hl 1 rfl) ?_
  have hPc := hP.sub (ws' := gw7 Y o a M ++ grB Y (a 2) f1) [0, 1] rfl
  have hDc := hD.sub (ws' := gw7 Y o a M ++ grB Y (a 2) f1) [0, 1] (by decide) rfl
  refine mbx_cPr (S := mb_m × (Nat → Option Nat) × mb_m × mb_m) (wf := fun u => gw7 Y o a u.1 ++ grB Y (a 2) u.2.1 ++ gw1 Y o2 a2 u.2.2.1 ++ gw4 Y (a2 0) a3 u.2.2.2) (wc := gw7 Y o a M ++ grB Y (a 2) f1) (wr := gw1 Y o2 a2 M_2 ++ gw4 Y (a2 0) a3 M_3) C hP hD hS [0, 1] [2, 3, 4, 5, 6] rfl rfl (by decide) (by decide) (vx_runV (As := [.int x1]) (rest := []) ⟨hx, hb, hml, hown, hts⟩ (cnX7_bookOf l C.2.2.2 D Y N o a M f1 _ x1 _ _ hF) (cwV 1 hts gX7_stitches_X7_bookOf rfl rfl rfl (by decide +kernel) ⟨Nat.le_of_ble_eq_true rfl, Nat.le_of_ble_eq_true rfl⟩) (mbx_preV C hPc hDc hS 0 rfl rfl) rfl rfl hl.1 rfl (lv_room (Nat.le_of_ble_eq_true rfl)) dX7_stitches_2 ⟨Nat.le_of_ble_eq_true rfl, Nat.le_of_ble_eq_true rfl⟩) (Nat.le_of_ble_eq_true rfl) (Nat.le_of_ble_eq_true rfl) (fun E u2 H hF hP hD => ⟨((u2.1), (u2.2), M_2, M_3), hF, hP.sub (ws' := gw7 Y o a (u2.1) ++ grB Y (a 2) (u2.2) ++ gw1 Y o2 a2 M_2 ++ gw4 Y (a2 0) a3 M_3) [5, 6, 0, 1, 2, 3, 4] rfl, hD.sub (ws' := gw7 Y o a (u2.1) ++ grB Y (a 2) (u2.2) ++ gw1 Y o2 a2 M_2 ++ gw4 Y (a2 0) a3 M_3) [5, 6, 0, 1, 2, 3, 4] (by decide) rfl⟩) (fun r2 u2 H locs hF hP hD hS => ?_)
  have hP := hP.sub (ws' := gw7 Y o a (u2.1) ++ grB Y (a 2) (u2.2) ++ gw1 Y o2 a2 M_2 ++ gw4 Y (a2 0) a3 M_3) [5, 6, 0, 1, 2, 3, 4] rfl
  have hD := hD.sub (ws' := gw7 Y o a (u2.1) ++ grB Y (a 2) (u2.2) ++ gw1 Y o2 a2 M_2 ++ gw4 Y (a2 0) a3 M_3) [5, 6, 0, 1, 2, 3, 4] (by decide) rfl
  obtain ⟨hq5, hF⟩ := hF
  try rw [hq5] at hl
  try rw [hq5]
  refine va_getN (D := D) (ci := 1) (v := .ref (a2 0)) (C := RX1) (T := TX1) (N := 7) hx hb hts (fun _ h9 => List.mem_cons_of_mem _ (List.mem_append_left _ (List.mem_append_left _ (List.mem_append_left _ (List.mem_append_right _ (h9)))))) hown hK hP 2 rfl rfl 0 (by decide) (va_Nw.use rfl (hG.2.1 _ (List.mem_of_getElem? (i := 3) rfl))) (fun _ h9 => h9) rfl dX7_stitches_5 ?_
  refine lv_astore (lv' := [(4, .ref (a2 0)), (0, .ref o), (1, .int x1), (2, .int x2), (3, .int x3)]) hx hb dX7_stitches_8 hl (by decide) rfl (fun ls hl => ?_)
  refine lv_iload_n hx hb dX7_stitches_10 rfl (lv_at hl 3 rfl) ?_
  refine lv_iconst (v := 0) hx hb dX7_stitches_11 (by decide) ?_
  refine lv_aload hx hb dX7_stitches_12 (lv_at hl 0 rfl) ?_
  refine va_getN (D := D) (ci := 4) (v := .int (M_3 0 0)) (C := RX4) (T := TX4) (N := 10) hx hb hts (fun _ h9 => List.mem_cons_of_mem _ (List.mem_append_left _ (List.mem_append_left _ (List.mem_append_right _ (h9))))) hown hK hP 3 rfl rfl 0 (by decide) (va_Nw.use rfl (hG.2.1 _ (List.mem_of_getElem? (i := 9) rfl))) (fun _ h9 => h9) rfl dX7_stitches_14 ?_
  refine lv_iconst (v := 1) hx hb dX7_stitches_17 (by decide) ?_
  refine lv_isub hx hb dX7_stitches_18 ?_
  refine mb_cE hP hS hA (va_runS (As := [.int x2, .int (0 : Int32), .int ((M_3 0 0) - (1 : Int32))]) (rest := []) ⟨hx, hb, hml, hown, hts⟩ (cnX7_isWithin l D Y N _ x2 (0 : Int32) ((M_3 0 0) - (1 : Int32)) _ hF) (va_cwS 3 hts gX7_stitches_X7_isWithin rfl rfl rfl (by decide +kernel) ⟨Nat.le_of_ble_eq_true rfl, Nat.le_of_ble_eq_true rfl⟩) (mb_preS (A := A) hG mb_P0 mb_D0) rfl rfl hl.1 rfl (lv_room (Nat.le_of_ble_eq_true rfl)) dX7_stitches_19 ⟨Nat.le_of_ble_eq_true rfl, Nat.le_of_ble_eq_true rfl⟩) (fun r19 H locs hF hP hS => ?_)
  refine lv_if_eq (tgt := 44) hx hb dX7_stitches_22 (by decide) (fun c_22 => ?_) (fun c_22 => ?_)
  · have hF := hF.1 c_22
    exact wX7_stitches_44 C (u2.1) (u2.2) M_2 M_3 x2 x3 _ _ _ hF hP hD hS (lv_sub hl [3, 4, 0] rfl)
  · have hF := hF.2 c_22
    refine lv_iload_n hx hb dX7_stitches_25 rfl (lv_at hl 4 rfl) ?_
    refine lv_iconst (v := 0) hx hb dX7_stitches_26 (by decide) ?_
    refine lv_aload hx hb dX7_stitches_27 (lv_at hl 0 rfl) ?_
    refine va_getN (D := D) (ci := 4) (v := .int (M_3 1 0)) (C := RX4) (T := TX4) (N := 10) hx hb hts (fun _ h9 => List.mem_cons_of_mem _ (List.mem_append_left _ (List.mem_append_left _ (List.mem_append_right _ (h9))))) hown hK hP 3 rfl rfl 1 (by decide) (va_Nw.use rfl (hG.2.1 _ (List.mem_of_getElem? (i := 10) rfl))) (fun _ h9 => h9) rfl dX7_stitches_29 ?_
    refine lv_iconst (v := 2) hx hb dX7_stitches_32 (by decide) ?_
    refine lv_isub hx hb dX7_stitches_33 ?_
    refine mb_cE hP hS hA (va_runS (As := [.int x3, .int (0 : Int32), .int ((M_3 1 0) - (2 : Int32))]) (rest := []) ⟨hx, hb, hml, hown, hts⟩ (cnX7_isWithin l D Y N _ x3 (0 : Int32) ((M_3 1 0) - (2 : Int32)) _ hF) (va_cwS 3 hts gX7_stitches_X7_isWithin rfl rfl rfl (by decide +kernel) ⟨Nat.le_of_ble_eq_true rfl, Nat.le_of_ble_eq_true rfl⟩) (mb_preS (A := A) hG mb_P0 mb_D0) rfl rfl hl.1 rfl (lv_room (Nat.le_of_ble_eq_true rfl)) dX7_stitches_34 ⟨Nat.le_of_ble_eq_true rfl, Nat.le_of_ble_eq_true rfl⟩) (fun r34 H locs hF hP hS => ?_)
    refine lv_if_eq (tgt := 44) hx hb dX7_stitches_37 (by decide) (fun c_37 => ?_) (fun c_37 => ?_)
    · have hF := hF.1 c_37
      exact wX7_stitches_44 C (u2.1) (u2.2) M_2 M_3 x2 x3 _ _ _ hF hP hD hS (lv_sub hl [3, 4, 0] rfl)
    · have hF := hF.2 c_37
      refine lv_iconst (v := 1) hx hb dX7_stitches_40 (by decide) ?_
      refine lv_goto (tgt := 45) hx hb dX7_stitches_41 (by decide) ?_
      exact wX7_stitches_45 C (u2.1) (u2.2) M_2 M_3 x2 x3 (1 : Int32) _ _ _ hF hP hD hS (lv_sub hl [3, 4, 0] rfl)
end
section
noncomputable def PX7_stitches_n (N : Nat) (M : mb_m) (f1 : (Nat → Option Nat)) (x1 x2 x3 : Int32) (K : Int32 → (mb_m × (Nat → Option Nat)) → Prop) (KX : String → (mb_m × (Nat → Option Nat)) → Prop) : Prop := PX7_bookOf N M f1 x1 (fun r2 u2 => False) (fun E u2 => KX E ((u2.1), (u2.2)))
set_option maxHeartbeats 4000000 in
set_option maxRecDepth 100000 in
theorem cnX7_stitches_n (l : Launch) (hl0 : l.stackTraces = false) (D : va_G) (Y : Nat → ClassId) (N : Nat) (o : Nat) (a : Nat → Nat) (M : mb_m) (f1 : (Nat → Option Nat)) (sz : Nat) (x1 x2 x3 : Int32) (K : Int32 → (mb_m × (Nat → Option Nat)) → Prop) (KX : String → (mb_m × (Nat → Option Nat)) → Prop) (hF : PX7_stitches_n N M f1 x1 x2 x3 K KX) : vx_Met l yX7_stitches wsX7_stitches ({ frames := 7, cells := 2, slots := 12, locals := 112 } : Room) (va_Pc [.ref o, .int x1, .int x2, .int x3] (mb_BX D Y (gw7 Y o a M ++ grB Y (a 2) f1) sz)) (va_Qi K (fun u t => mb_T D (va_A (gw7 Y o a M ++ grB Y (a 2) f1) sz) (gw7 Y o a u.1 ++ grB Y (a 2) u.2) t) (va_A (gw7 Y o a M ++ grB Y (a 2) f1) sz)) (mb_XC D (va_A (gw7 Y o a M ++ grB Y (a 2) f1) sz) KX (fun u : mb_m × (Nat → Option Nat) => gw7 Y o a u.1 ++ grB Y (a 2) u.2)) 2 12 (va_A (gw7 Y o a M ++ grB Y (a 2) f1) sz) := by
  refine mbx_begin (cc := cX7_stitches) (maxL := 5) (ret := (some .int)) hl0 (by decide +kernel) rfl (Nat.le_of_ble_eq_true rfl) ?_
  intro p e s m below meth c ls C hsz hnm hP hD hl
  generalize hAe : va_A (gw7 Y o a M ++ grB Y (a 2) f1) sz = A at C hD ⊢
  have C : mb_CX l p s m meth c ([.ref o, .int x1, .int x2, .int x3] : List Value).toArray cX7_stitches 5 (some .int) wsX7_stitches RX7 D Y A := C
  obtain ⟨⟨hx, hb, hr, hml, hts, hown, hlocks, hA, hG⟩, hT, hX, hl0⟩ := id C
  have hK := hG.1
  have hS : va_S A s.heap s.heap [] := va_S.rf
  have hl : lv_has ls 5 [(0, .ref o), (1, .int x1), (2, .int x2), (3, .int x3)] := hl
  refine lv_aload_n hx hb dX7_stitches_0 rfl (lv_at hl 0 rfl) ?_
  refine lv_iload_n hx hb dX7_stitches_1 rfl (lv_at hl 1 rfl) ?_
  have hPc := hP.sub (ws' := gw7 Y o a M ++ grB Y (a 2) f1) [0, 1] rfl
  have hDc := hD.sub (ws' := gw7 Y o a M ++ grB Y (a 2) f1) [0, 1] (by decide) rfl
  refine mbx_cPr (S := mb_m × (Nat → Option Nat)) (wf := fun u => gw7 Y o a u.1 ++ grB Y (a 2) u.2) (wc := gw7 Y o a M ++ grB Y (a 2) f1) (wr := ([] : va_W)) C hP hD hS [0, 1] [] rfl rfl (by decide) (by decide) (vx_runV (As := [.int x1]) (rest := []) ⟨hx, hb, hml, hown, hts⟩ (cnX7_bookOf l C.2.2.2 D Y N o a M f1 _ x1 _ _ hF) (cwV 1 hts gX7_stitches_X7_bookOf rfl rfl rfl (by decide +kernel) ⟨Nat.le_of_ble_eq_true rfl, Nat.le_of_ble_eq_true rfl⟩) (mbx_preV C hPc hDc hS 0 rfl rfl) rfl rfl hl.1 rfl (lv_room (Nat.le_of_ble_eq_true rfl)) dX7_stitches_2 ⟨Nat.le_of_ble_eq_true rfl, Nat.le_of_ble_eq_true rfl⟩) (Nat.le_of_ble_eq_true rfl) (Nat.le_of_ble_eq_true rfl) (fun E u2 H hF hP hD => ⟨((u2.1), (u2.2)), hF, hP.sub (ws' := gw7 Y o a (u2.1) ++ grB Y (a 2) (u2.2)) [0, 1] rfl, hD.sub (ws' := gw7 Y o a (u2.1) ++ grB Y (a 2) (u2.2)) [0, 1] (by decide) rfl⟩) (fun r2 u2 H locs hF hP hD hS => ?_)
  have hP := hP.sub (ws' := gw7 Y o a (u2.1) ++ grB Y (a 2) (u2.2)) [0, 1] rfl
  have hD := hD.sub (ws' := gw7 Y o a (u2.1) ++ grB Y (a 2) (u2.2)) [0, 1] (by decide) rfl
  exact hF.elim
end
section
noncomputable def PX7_isHeld (N : Nat) (M : mb_m) (f1 : (Nat → Option Nat)) (o2 : Nat) (M_2 : mb_m) (M_3 : mb_m) (x1 x2 : Int32) (K : Int32 → (mb_m × (Nat → Option Nat) × mb_m × mb_m) → Prop) (KX : String → (mb_m × (Nat → Option Nat) × mb_m × mb_m) → Prop) : Prop := PX7_bookOf N M f1 x1 (fun r2 u2 => r2 = o2 ∧ (PX7_isWithin N x2 (0 : Int32) ((M_3 0 0) - (1 : Int32)) (fun r17 _ => PX7_demandPlace N r17 (fun _ => PX4_holds N M_3 x2 (fun r25 u25 => mb_isB r25 ∧ (K r25 ((u2.1), (u2.2), M_2, u25)))) (fun E _ => KX E ((u2.1), (u2.2), M_2, M_3))))) (fun E u2 => KX E ((u2.1), (u2.2), M_2, M_3))
set_option maxHeartbeats 4000000 in
set_option maxRecDepth 100000 in
theorem cnX7_isHeld (l : Launch) (hl0 : l.stackTraces = false) (D : va_G) (Y : Nat → ClassId) (N : Nat) (o : Nat) (a : Nat → Nat) (M : mb_m) (f1 : (Nat → Option Nat)) (o2 : Nat) (a2 : Nat → Nat) (M_2 : mb_m) (a3 : Nat → Nat) (M_3 : mb_m) (sz : Nat) (x1 x2 : Int32) (K : Int32 → (mb_m × (Nat → Option Nat) × mb_m × mb_m) → Prop) (KX : String → (mb_m × (Nat → Option Nat) × mb_m × mb_m) → Prop) (hF : PX7_isHeld N M f1 o2 M_2 M_3 x1 x2 K KX) : vx_Met l yX7_isHeld wsX7_isHeld ({ frames := 7, cells := 2, slots := 12, locals := 112 } : Room) (va_Pc [.ref o, .int x1, .int x2] (mb_BX D Y (gw7 Y o a M ++ grB Y (a 2) f1 ++ gw1 Y o2 a2 M_2 ++ gw4 Y (a2 0) a3 M_3) sz)) (va_Qi K (fun u t => mb_T D (va_A (gw7 Y o a M ++ grB Y (a 2) f1 ++ gw1 Y o2 a2 M_2 ++ gw4 Y (a2 0) a3 M_3) sz) (gw7 Y o a u.1 ++ grB Y (a 2) u.2.1 ++ gw1 Y o2 a2 u.2.2.1 ++ gw4 Y (a2 0) a3 u.2.2.2) t) (va_A (gw7 Y o a M ++ grB Y (a 2) f1 ++ gw1 Y o2 a2 M_2 ++ gw4 Y (a2 0) a3 M_3) sz)) (mb_XC D (va_A (gw7 Y o a M ++ grB Y (a 2) f1 ++ gw1 Y o2 a2 M_2 ++ gw4 Y (a2 0) a3 M_3) sz) KX (fun u : mb_m × (Nat → Option Nat) × mb_m × mb_m => gw7 Y o a u.1 ++ grB Y (a 2) u.2.1 ++ gw1 Y o2 a2 u.2.2.1 ++ gw4 Y (a2 0) a3 u.2.2.2)) 2 12 (va_A (gw7 Y o a M ++ grB Y (a 2) f1 ++ gw1 Y o2 a2 M_2 ++ gw4 Y (a2 0) a3 M_3) sz) := by
  refine mbx_begin (cc := cX7_isHeld) (maxL := 4) (ret := (some .boolean)) hl0 (by decide +kernel) rfl (Nat.le_of_ble_eq_true rfl) ?_
  intro p e s m below meth c ls C hsz hnm hP hD hl
  generalize hAe : va_A (gw7 Y o a M ++ grB Y (a 2) f1 ++ gw1 Y o2 a2 M_2 ++ gw4 Y (a2 0) a3 M_3) sz = A at C hD ⊢
  have C : mb_CX l p s m meth c ([.ref o, .int x1, .int x2] : List Value).toArray cX7_isHeld 4 (some .boolean) wsX7_isHeld RX7 D Y A := C
  obtain ⟨⟨hx, hb, hr, hml, hts, hown, hlocks, hA, hG⟩, hT, hX, hl0⟩ := id C
  have hK := hG.1
  have hS : va_S A s.heap s.heap [] := va_S.rf
  have hl : lv_has ls 4 [(0, .ref o), (1, .int x1), (2, .int x2)] := hl
  refine lv_aload_n hx hb dX7_isHeld_0 rfl (lv_at hl 0 rfl) ?_
  refine lv_iload_n hx hb dX7_isHeld_1 rfl (lv_at hl 1 rfl) ?_
  have hPc := hP.sub (ws' := gw7 Y o a M ++ grB Y (a 2) f1) [0, 1] rfl
  have hDc := hD.sub (ws' := gw7 Y o a M ++ grB Y (a 2) f1) [0, 1] (by decide) rfl
  refine mbx_cPr (S := mb_m × (Nat → Option Nat) × mb_m × mb_m) (wf := fun u => gw7 Y o a u.1 ++ grB Y (a 2) u.2.1 ++ gw1 Y o2 a2 u.2.2.1 ++ gw4 Y (a2 0) a3 u.2.2.2) (wc := gw7 Y o a M ++ grB Y (a 2) f1) (wr := gw1 Y o2 a2 M_2 ++ gw4 Y (a2 0) a3 M_3) C hP hD hS [0, 1] [2, 3, 4, 5, 6] rfl rfl (by decide) (by decide) (vx_runV (As := [.int x1]) (rest := []) ⟨hx, hb, hml, hown, hts⟩ (cnX7_bookOf l C.2.2.2 D Y N o a M f1 _ x1 _ _ hF) (cwV 1 hts gX7_isHeld_X7_bookOf rfl rfl rfl (by decide +kernel) ⟨Nat.le_of_ble_eq_true rfl, Nat.le_of_ble_eq_true rfl⟩) (mbx_preV C hPc hDc hS 0 rfl rfl) rfl rfl hl.1 rfl (lv_room (Nat.le_of_ble_eq_true rfl)) dX7_isHeld_2 ⟨Nat.le_of_ble_eq_true rfl, Nat.le_of_ble_eq_true rfl⟩) (Nat.le_of_ble_eq_true rfl) (Nat.le_of_ble_eq_true rfl) (fun E u2 H hF hP hD => ⟨((u2.1), (u2.2), M_2, M_3), hF, hP.sub (ws' := gw7 Y o a (u2.1) ++ grB Y (a 2) (u2.2) ++ gw1 Y o2 a2 M_2 ++ gw4 Y (a2 0) a3 M_3) [5, 6, 0, 1, 2, 3, 4] rfl, hD.sub (ws' := gw7 Y o a (u2.1) ++ grB Y (a 2) (u2.2) ++ gw1 Y o2 a2 M_2 ++ gw4 Y (a2 0) a3 M_3) [5, 6, 0, 1, 2, 3, 4] (by decide) rfl⟩) (fun r2 u2 H locs hF hP hD hS => ?_)
  have hP := hP.sub (ws' := gw7 Y o a (u2.1) ++ grB Y (a 2) (u2.2) ++ gw1 Y o2 a2 M_2 ++ gw4 Y (a2 0) a3 M_3) [5, 6, 0, 1, 2, 3, 4] rfl
  have hD := hD.sub (ws' := gw7 Y o a (u2.1) ++ grB Y (a 2) (u2.2) ++ gw1 Y o2 a2 M_2 ++ gw4 Y (a2 0) a3 M_3) [5, 6, 0, 1, 2, 3, 4] (by decide) rfl
  obtain ⟨hq5, hF⟩ := hF
  try rw [hq5] at hl
  try rw [hq5]
  refine va_getN (D := D) (ci := 1) (v := .ref (a2 0)) (C := RX1) (T := TX1) (N := 7) hx hb hts (fun _ h9 => List.mem_cons_of_mem _ (List.mem_append_left _ (List.mem_append_left _ (List.mem_append_left _ (List.mem_append_right _ (h9)))))) hown hK hP 2 rfl rfl 0 (by decide) (va_Nw.use rfl (hG.2.1 _ (List.mem_of_getElem? (i := 3) rfl))) (fun _ h9 => h9) rfl dX7_isHeld_5 ?_
  refine lv_astore_n (lv' := [(3, .ref (a2 0)), (0, .ref o), (1, .int x1), (2, .int x2)]) hx hb dX7_isHeld_8 rfl hl (by decide) rfl (fun ls hl => ?_)
  refine lv_iload_n hx hb dX7_isHeld_9 rfl (lv_at hl 3 rfl) ?_
  refine lv_iconst (v := 0) hx hb dX7_isHeld_10 (by decide) ?_
  refine lv_aload_n hx hb dX7_isHeld_11 rfl (lv_at hl 0 rfl) ?_
  refine va_getN (D := D) (ci := 4) (v := .int (M_3 0 0)) (C := RX4) (T := TX4) (N := 10) hx hb hts (fun _ h9 => List.mem_cons_of_mem _ (List.mem_append_left _ (List.mem_append_left _ (List.mem_append_right _ (h9))))) hown hK hP 3 rfl rfl 0 (by decide) (va_Nw.use rfl (hG.2.1 _ (List.mem_of_getElem? (i := 9) rfl))) (fun _ h9 => h9) rfl dX7_isHeld_12 ?_
  refine lv_iconst (v := 1) hx hb dX7_isHeld_15 (by decide) ?_
  refine lv_isub hx hb dX7_isHeld_16 ?_
  refine mb_cE hP hS hA (va_runS (As := [.int x2, .int (0 : Int32), .int ((M_3 0 0) - (1 : Int32))]) (rest := []) ⟨hx, hb, hml, hown, hts⟩ (cnX7_isWithin l D Y N _ x2 (0 : Int32) ((M_3 0 0) - (1 : Int32)) _ hF) (va_cwS 3 hts gX7_isHeld_X7_isWithin rfl rfl rfl (by decide +kernel) ⟨Nat.le_of_ble_eq_true rfl, Nat.le_of_ble_eq_true rfl⟩) (mb_preS (A := A) hG mb_P0 mb_D0) rfl rfl hl.1 rfl (lv_room (Nat.le_of_ble_eq_true rfl)) dX7_isHeld_17 ⟨Nat.le_of_ble_eq_true rfl, Nat.le_of_ble_eq_true rfl⟩) (fun r17 H locs hF hP hS => ?_)
  refine mbx_cEv (S := mb_m × (Nat → Option Nat) × mb_m × mb_m) (wf := fun u => gw7 Y o a u.1 ++ grB Y (a 2) u.2.1 ++ gw1 Y o2 a2 u.2.2.1 ++ gw4 Y (a2 0) a3 u.2.2.2) C ((u2.1), (u2.2), M_2, M_3) hP hD hS (vx_runS (As := [.int r17]) (rest := []) ⟨hx, hb, hml, hown, hts⟩ (cnX7_demandPlace l C.2.2.2 D Y N _ r17 _ _ hF) (va_cwS 1 hts gX7_isHeld_X7_demandPlace rfl rfl rfl (by decide +kernel) ⟨Nat.le_of_ble_eq_true rfl, Nat.le_of_ble_eq_true rfl⟩) (mbx_preS C mb_P0 mb_D0 hS) rfl rfl hl.1 rfl (lv_room (Nat.le_of_ble_eq_true rfl)) dX7_isHeld_20 ⟨Nat.le_of_ble_eq_true rfl, Nat.le_of_ble_eq_true rfl⟩) (Nat.le_of_ble_eq_true rfl) (Nat.le_of_ble_eq_true rfl) (fun H locs hF hP hS => ?_)
  refine lv_aload_n hx hb dX7_isHeld_23 rfl (lv_at hl 0 rfl) ?_
  refine lv_iload_n hx hb dX7_isHeld_24 rfl (lv_at hl 3 rfl) ?_
  have hPc := hP.sub (ws' := gw4 Y (a2 0) a3 M_3) [3, 4, 5, 6] rfl
  have hDc := hD.sub (ws' := gw4 Y (a2 0) a3 M_3) [3, 4, 5, 6] (by decide) rfl
  refine mb_cP (wc := gw4 Y (a2 0) a3 M_3) (wr := gw7 Y o a (u2.1) ++ grB Y (a 2) (u2.2) ++ gw1 Y o2 a2 M_2) hP hD hS hA [3, 4, 5, 6] [0, 1, 2] rfl rfl (by decide) (by decide) (va_runV (As := [.int x2]) (rest := []) ⟨hx, hb, hml, hown, hts⟩ (cnX4_holds l D Y N (a2 0) a3 M_3 _ x2 _ hF) (cwV 1 hts gX7_isHeld_X4_holds rfl rfl rfl (by decide +kernel) ⟨Nat.le_of_ble_eq_true rfl, Nat.le_of_ble_eq_true rfl⟩) (mb_preV hG hPc hDc 0 rfl rfl) rfl rfl hl.1 rfl (lv_room (Nat.le_of_ble_eq_true rfl)) dX7_isHeld_25 ⟨Nat.le_of_ble_eq_true rfl, Nat.le_of_ble_eq_true rfl⟩) (fun r25 u25 H locs hF hP hD hS => ?_)
  have hP := hP.sub (ws' := gw7 Y o a (u2.1) ++ grB Y (a 2) (u2.2) ++ gw1 Y o2 a2 M_2 ++ gw4 Y (a2 0) a3 u25) [0, 1, 2, 3, 4, 5, 6] rfl
  have hD := hD.sub (ws' := gw7 Y o a (u2.1) ++ grB Y (a 2) (u2.2) ++ gw1 Y o2 a2 M_2 ++ gw4 Y (a2 0) a3 u25) [0, 1, 2, 3, 4, 5, 6] (by decide) rfl
  obtain ⟨hz28, hF⟩ := hF
  refine vx_ret ?_
  exact mb_ri (S := mb_m × (Nat → Option Nat) × mb_m × mb_m) (mc := 2) (ms := 12) (wf := fun u => gw7 Y o a u.1 ++ grB Y (a 2) u.2.1 ++ gw1 Y o2 a2 u.2.2.1 ++ gw4 Y (a2 0) a3 u.2.2.2) C.1 (mb_isB_n hz28) (u := ((u2.1), (u2.2), M_2, u25)) hF hP hD hS dX7_isHeld_28 (Nat.le_of_ble_eq_true rfl) (Nat.le_of_ble_eq_true rfl)
end
section
noncomputable def PX7_isHeld_n (N : Nat) (M : mb_m) (f1 : (Nat → Option Nat)) (x1 x2 : Int32) (K : Int32 → (mb_m × (Nat → Option Nat)) → Prop) (KX : String → (mb_m × (Nat → Option Nat)) → Prop) : Prop := PX7_bookOf N M f1 x1 (fun r2 u2 => False) (fun E u2 => KX E ((u2.1), (u2.2)))
set_option maxHeartbeats 4000000 in
set_option maxRecDepth 100000 in
theorem cnX7_isHeld_n (l : Launch) (hl0 : l.stackTraces = false) (D : va_G) (Y : Nat → ClassId) (N : Nat) (o : Nat) (a : Nat → Nat) (M : mb_m) (f1 : (Nat → Option Nat)) (sz : Nat) (x1 x2 : Int32) (K : Int32 → (mb_m × (Nat → Option Nat)) → Prop) (KX : String → (mb_m × (Nat → Option Nat)) → Prop) (hF : PX7_isHeld_n N M f1 x1 x2 K KX) : vx_Met l yX7_isHeld wsX7_isHeld ({ frames := 7, cells := 2, slots := 12, locals := 112 } : Room) (va_Pc [.ref o, .int x1, .int x2] (mb_BX D Y (gw7 Y o a M ++ grB Y (a 2) f1) sz)) (va_Qi K (fun u t => mb_T D (va_A (gw7 Y o a M ++ grB Y (a 2) f1) sz) (gw7 Y o a u.1 ++ grB Y (a 2) u.2) t) (va_A (gw7 Y o a M ++ grB Y (a 2) f1) sz)) (mb_XC D (va_A (gw7 Y o a M ++ grB Y (a 2) f1) sz) KX (fun u : mb_m × (Nat → Option Nat) => gw7 Y o a u.1 ++ grB Y (a 2) u.2)) 2 12 (va_A (gw7 Y o a M ++ grB Y (a 2) f1) sz) := by
  refine mbx_begin (cc := cX7_isHeld) (maxL := 4) (ret := (some .boolean)) hl0 (by decide +kernel) rfl (Nat.le_of_ble_eq_true rfl) ?_
  intro p e s m below meth c ls C hsz hnm hP hD hl
  generalize hAe : va_A (gw7 Y o a M ++ grB Y (a 2) f1) sz = A at C hD ⊢
  have C : mb_CX l p s m meth c ([.ref o, .int x1, .int x2] : List Value).toArray cX7_isHeld 4 (some .boolean) wsX7_isHeld RX7 D Y A := C
  obtain ⟨⟨hx, hb, hr, hml, hts, hown, hlocks, hA, hG⟩, hT, hX, hl0⟩ := id C
  have hK := hG.1
  have hS : va_S A s.heap s.heap [] := va_S.rf
  have hl : lv_has ls 4 [(0, .ref o), (1, .int x1), (2, .int x2)] := hl
  refine lv_aload_n hx hb dX7_isHeld_0 rfl (lv_at hl 0 rfl) ?_
  refine lv_iload_n hx hb dX7_isHeld_1 rfl (lv_at hl 1 rfl) ?_
  have hPc := hP.sub (ws' := gw7 Y o a M ++ grB Y (a 2) f1) [0, 1] rfl
  have hDc := hD.sub (ws' := gw7 Y o a M ++ grB Y (a 2) f1) [0, 1] (by decide) rfl
  refine mbx_cPr (S := mb_m × (Nat → Option Nat)) (wf := fun u => gw7 Y o a u.1 ++ grB Y (a 2) u.2) (wc := gw7 Y o a M ++ grB Y (a 2) f1) (wr := ([] : va_W)) C hP hD hS [0, 1] [] rfl rfl (by decide) (by decide) (vx_runV (As := [.int x1]) (rest := []) ⟨hx, hb, hml, hown, hts⟩ (cnX7_bookOf l C.2.2.2 D Y N o a M f1 _ x1 _ _ hF) (cwV 1 hts gX7_isHeld_X7_bookOf rfl rfl rfl (by decide +kernel) ⟨Nat.le_of_ble_eq_true rfl, Nat.le_of_ble_eq_true rfl⟩) (mbx_preV C hPc hDc hS 0 rfl rfl) rfl rfl hl.1 rfl (lv_room (Nat.le_of_ble_eq_true rfl)) dX7_isHeld_2 ⟨Nat.le_of_ble_eq_true rfl, Nat.le_of_ble_eq_true rfl⟩) (Nat.le_of_ble_eq_true rfl) (Nat.le_of_ble_eq_true rfl) (fun E u2 H hF hP hD => ⟨((u2.1), (u2.2)), hF, hP.sub (ws' := gw7 Y o a (u2.1) ++ grB Y (a 2) (u2.2)) [0, 1] rfl, hD.sub (ws' := gw7 Y o a (u2.1) ++ grB Y (a 2) (u2.2)) [0, 1] (by decide) rfl⟩) (fun r2 u2 H locs hF hP hD hS => ?_)
  have hP := hP.sub (ws' := gw7 Y o a (u2.1) ++ grB Y (a 2) (u2.2)) [0, 1] rfl
  have hD := hD.sub (ws' := gw7 Y o a (u2.1) ++ grB Y (a 2) (u2.2)) [0, 1] (by decide) rfl
  exact hF.elim
end
section
noncomputable def PX7_back (N : Nat) (M : mb_m) (f1 : (Nat → Option Nat)) (o2 : Nat) (M_2 : mb_m) (x1 x2 : Int32) (K : Int32 → (mb_m × (Nat → Option Nat) × mb_m) → Prop) (KX : String → (mb_m × (Nat → Option Nat) × mb_m) → Prop) : Prop := PX7_bookOf N M f1 x1 (fun r2 u2 => PX7_isWithin N x2 (0 : Int32) (2 : Int32) (fun r9 _ => PX7_demandArgument N r9 (fun _ => r2 = o2 ∧ (∀ v19 : Int32, v19 = (M_2 6 0) → (∀ M23 : mb_m, M23 = mb_u M_2 6 (mb_c x2) → (K v19 ((u2.1), (u2.2), M23))))) (fun E _ => KX E ((u2.1), (u2.2), M_2)))) (fun E u2 => KX E ((u2.1), (u2.2), M_2))
set_option maxHeartbeats 4000000 in
set_option maxRecDepth 100000 in
theorem cnX7_back (l : Launch) (hl0 : l.stackTraces = false) (D : va_G) (Y : Nat → ClassId) (N : Nat) (o : Nat) (a : Nat → Nat) (M : mb_m) (f1 : (Nat → Option Nat)) (o2 : Nat) (a2 : Nat → Nat) (M_2 : mb_m) (sz : Nat) (x1 x2 : Int32) (K : Int32 → (mb_m × (Nat → Option Nat) × mb_m) → Prop) (KX : String → (mb_m × (Nat → Option Nat) × mb_m) → Prop) (hF : PX7_back N M f1 o2 M_2 x1 x2 K KX) : vx_Met l yX7_back wsX7_back ({ frames := 7, cells := 2, slots := 12, locals := 112 } : Room) (va_Pc [.ref o, .int x1, .int x2] (mb_BX D Y (gw7 Y o a M ++ grB Y (a 2) f1 ++ gw1 Y o2 a2 M_2) sz)) (va_Qi K (fun u t => mb_T D (va_A (gw7 Y o a M ++ grB Y (a 2) f1 ++ gw1 Y o2 a2 M_2) sz) (gw7 Y o a u.1 ++ grB Y (a 2) u.2.1 ++ gw1 Y o2 a2 u.2.2) t) (va_A (gw7 Y o a M ++ grB Y (a 2) f1 ++ gw1 Y o2 a2 M_2) sz)) (mb_XC D (va_A (gw7 Y o a M ++ grB Y (a 2) f1 ++ gw1 Y o2 a2 M_2) sz) KX (fun u : mb_m × (Nat → Option Nat) × mb_m => gw7 Y o a u.1 ++ grB Y (a 2) u.2.1 ++ gw1 Y o2 a2 u.2.2)) 2 12 (va_A (gw7 Y o a M ++ grB Y (a 2) f1 ++ gw1 Y o2 a2 M_2) sz) := by
  refine mbx_begin (cc := cX7_back) (maxL := 5) (ret := (some .int)) hl0 (by decide +kernel) rfl (Nat.le_of_ble_eq_true rfl) ?_
  intro p e s m below meth c ls C hsz hnm hP hD hl
  generalize hAe : va_A (gw7 Y o a M ++ grB Y (a 2) f1 ++ gw1 Y o2 a2 M_2) sz = A at C hD ⊢
  have C : mb_CX l p s m meth c ([.ref o, .int x1, .int x2] : List Value).toArray cX7_back 5 (some .int) wsX7_back RX7 D Y A := C
  obtain ⟨⟨hx, hb, hr, hml, hts, hown, hlocks, hA, hG⟩, hT, hX, hl0⟩ := id C
  have hK := hG.1
  have hS : va_S A s.heap s.heap [] := va_S.rf
  have hl : lv_has ls 5 [(0, .ref o), (1, .int x1), (2, .int x2)] := hl
  refine lv_aload_n hx hb dX7_back_0 rfl (lv_at hl 0 rfl) ?_
  refine lv_iload_n hx hb dX7_back_1 rfl (lv_at hl 1 rfl) ?_
  have hPc := hP.sub (ws' := gw7 Y o a M ++ grB Y (a 2) f1) [0, 1] rfl
  have hDc := hD.sub (ws' := gw7 Y o a M ++ grB Y (a 2) f1) [0, 1] (by decide) rfl
  refine mbx_cPr (S := mb_m × (Nat → Option Nat) × mb_m) (wf := fun u => gw7 Y o a u.1 ++ grB Y (a 2) u.2.1 ++ gw1 Y o2 a2 u.2.2) (wc := gw7 Y o a M ++ grB Y (a 2) f1) (wr := gw1 Y o2 a2 M_2) C hP hD hS [0, 1] [2] rfl rfl (by decide) (by decide) (vx_runV (As := [.int x1]) (rest := []) ⟨hx, hb, hml, hown, hts⟩ (cnX7_bookOf l C.2.2.2 D Y N o a M f1 _ x1 _ _ hF) (cwV 1 hts gX7_back_X7_bookOf rfl rfl rfl (by decide +kernel) ⟨Nat.le_of_ble_eq_true rfl, Nat.le_of_ble_eq_true rfl⟩) (mbx_preV C hPc hDc hS 0 rfl rfl) rfl rfl hl.1 rfl (lv_room (Nat.le_of_ble_eq_true rfl)) dX7_back_2 ⟨Nat.le_of_ble_eq_true rfl, Nat.le_of_ble_eq_true rfl⟩) (Nat.le_of_ble_eq_true rfl) (Nat.le_of_ble_eq_true rfl) (fun E u2 H hF hP hD => ⟨((u2.1), (u2.2), M_2), hF, hP.sub (ws' := gw7 Y o a (u2.1) ++ grB Y (a 2) (u2.2) ++ gw1 Y o2 a2 M_2) [1, 2, 0] rfl, hD.sub (ws' := gw7 Y o a (u2.1) ++ grB Y (a 2) (u2.2) ++ gw1 Y o2 a2 M_2) [1, 2, 0] (by decide) rfl⟩) (fun r2 u2 H locs hF hP hD hS => ?_)
  have hP := hP.sub (ws' := gw7 Y o a (u2.1) ++ grB Y (a 2) (u2.2) ++ gw1 Y o2 a2 M_2) [1, 2, 0] rfl
  have hD := hD.sub (ws' := gw7 Y o a (u2.1) ++ grB Y (a 2) (u2.2) ++ gw1 Y o2 a2 M_2) [1, 2, 0] (by decide) rfl
  refine lv_astore_n (lv' := [(3, .ref r2), (0, .ref o), (1, .int x1), (2, .int x2)]) hx hb dX7_back_5 rfl hl (by decide) rfl (fun ls hl => ?_)
  refine lv_iload_n hx hb dX7_back_6 rfl (lv_at hl 3 rfl) ?_
  refine lv_iconst (v := 0) hx hb dX7_back_7 (by decide) ?_
  refine lv_iconst (v := 2) hx hb dX7_back_8 (by decide) ?_
  refine mb_cE hP hS hA (va_runS (As := [.int x2, .int (0 : Int32), .int (2 : Int32)]) (rest := []) ⟨hx, hb, hml, hown, hts⟩ (cnX7_isWithin l D Y N _ x2 (0 : Int32) (2 : Int32) _ hF) (va_cwS 3 hts gX7_back_X7_isWithin rfl rfl rfl (by decide +kernel) ⟨Nat.le_of_ble_eq_true rfl, Nat.le_of_ble_eq_true rfl⟩) (mb_preS (A := A) hG mb_P0 mb_D0) rfl rfl hl.1 rfl (lv_room (Nat.le_of_ble_eq_true rfl)) dX7_back_9 ⟨Nat.le_of_ble_eq_true rfl, Nat.le_of_ble_eq_true rfl⟩) (fun r9 H locs hF hP hS => ?_)
  refine mbx_cEv (S := mb_m × (Nat → Option Nat) × mb_m) (wf := fun u => gw7 Y o a u.1 ++ grB Y (a 2) u.2.1 ++ gw1 Y o2 a2 u.2.2) C ((u2.1), (u2.2), M_2) hP hD hS (vx_runS (As := [.int r9]) (rest := []) ⟨hx, hb, hml, hown, hts⟩ (cnX7_demandArgument l C.2.2.2 D Y N _ r9 _ _ hF) (va_cwS 1 hts gX7_back_X7_demandArgument rfl rfl rfl (by decide +kernel) ⟨Nat.le_of_ble_eq_true rfl, Nat.le_of_ble_eq_true rfl⟩) (mbx_preS C mb_P0 mb_D0 hS) rfl rfl hl.1 rfl (lv_room (Nat.le_of_ble_eq_true rfl)) dX7_back_12 ⟨Nat.le_of_ble_eq_true rfl, Nat.le_of_ble_eq_true rfl⟩) (Nat.le_of_ble_eq_true rfl) (Nat.le_of_ble_eq_true rfl) (fun H locs hF hP hS => ?_)
  refine lv_aload_n hx hb dX7_back_15 rfl (lv_at hl 0 rfl) ?_
  obtain ⟨hq16, hF⟩ := hF
  try rw [hq16] at hl
  try rw [hq16]
  refine va_getN (D := D) (ci := 1) (v := .int (M_2 6 0)) (C := RX1) (T := TX1) (N := 7) hx hb hts (fun _ h9 => List.mem_cons_of_mem _ (List.mem_append_left _ (List.mem_append_left _ (List.mem_append_left _ (List.mem_append_right _ (h9)))))) hown hK hP 2 rfl rfl 6 (by decide) (va_Nw.use rfl (hG.2.1 _ (List.mem_of_getElem? (i := 11) rfl))) (fun _ h9 => h9) rfl dX7_back_16 ?_
  refine lv_topi (fun v19 ev19 => ?_)
  have hF := hF v19 ev19
  refine lv_istore (lv' := [(4, .int v19), (3, .ref o2), (0, .ref o), (1, .int x1), (2, .int x2)]) hx hb dX7_back_19 hl (by decide) rfl (fun ls hl => ?_)
  refine lv_aload_n hx hb dX7_back_21 rfl (lv_at hl 1 rfl) ?_
  refine lv_iload_n hx hb dX7_back_22 rfl (lv_at hl 4 rfl) ?_
  refine va_putN (D := D) (ci := 1) (v := .int x2) (ty := .int) (C := RX1) (T := TX1) (N := 7) hx hb hts (fun _ h9 => List.mem_cons_of_mem _ (List.mem_append_left _ (List.mem_append_left _ (List.mem_append_left _ (List.mem_append_right _ (h9)))))) tyX1 tyX1_ok nmX1 hown hK hP hD hS 2 rfl rfl 6 (by decide) (va_Nw.use rfl (hG.2.1 _ (List.mem_of_getElem? (i := 11) rfl))) (fun _ h9 => h9) rfl (by decide +kernel) rfl rfl (Nat.le_of_ble_eq_true rfl) dX7_back_23 (fun H locs hP hD hS => ?_)
  obtain ⟨M23, eM23⟩ : ∃ y : mb_m, y = mb_u M_2 6 (mb_c x2) := ⟨_, rfl⟩
  have hF := hF M23 eM23
  have hP : va_P D vwCl (gw7 Y o a (u2.1) ++ grB Y (a 2) (u2.2) ++ gw1 Y o2 a2 (mb_u M_2 6 (mb_c x2))) H := hP
  have hD : va_D A (gw7 Y o a (u2.1) ++ grB Y (a 2) (u2.2) ++ gw1 Y o2 a2 (mb_u M_2 6 (mb_c x2))) := hD
  rw [← eM23] at hP hD
  refine lv_iload hx hb dX7_back_26 (lv_at hl 0 rfl) ?_
  refine vx_ret ?_
  exact mb_ri (S := mb_m × (Nat → Option Nat) × mb_m) (mc := 2) (ms := 12) (wf := fun u => gw7 Y o a u.1 ++ grB Y (a 2) u.2.1 ++ gw1 Y o2 a2 u.2.2) C.1 rfl (u := ((u2.1), (u2.2), M23)) hF hP hD hS dX7_back_28 (Nat.le_of_ble_eq_true rfl) (Nat.le_of_ble_eq_true rfl)
end
section
noncomputable def PX7_back_n (N : Nat) (M : mb_m) (f1 : (Nat → Option Nat)) (x1 x2 : Int32) (K : Int32 → (mb_m × (Nat → Option Nat)) → Prop) (KX : String → (mb_m × (Nat → Option Nat)) → Prop) : Prop := PX7_bookOf N M f1 x1 (fun r2 u2 => PX7_isWithin N x2 (0 : Int32) (2 : Int32) (fun r9 _ => PX7_demandArgument N r9 (fun _ => False) (fun E _ => KX E ((u2.1), (u2.2))))) (fun E u2 => KX E ((u2.1), (u2.2)))
set_option maxHeartbeats 4000000 in
set_option maxRecDepth 100000 in
theorem cnX7_back_n (l : Launch) (hl0 : l.stackTraces = false) (D : va_G) (Y : Nat → ClassId) (N : Nat) (o : Nat) (a : Nat → Nat) (M : mb_m) (f1 : (Nat → Option Nat)) (sz : Nat) (x1 x2 : Int32) (K : Int32 → (mb_m × (Nat → Option Nat)) → Prop) (KX : String → (mb_m × (Nat → Option Nat)) → Prop) (hF : PX7_back_n N M f1 x1 x2 K KX) : vx_Met l yX7_back wsX7_back ({ frames := 7, cells := 2, slots := 12, locals := 112 } : Room) (va_Pc [.ref o, .int x1, .int x2] (mb_BX D Y (gw7 Y o a M ++ grB Y (a 2) f1) sz)) (va_Qi K (fun u t => mb_T D (va_A (gw7 Y o a M ++ grB Y (a 2) f1) sz) (gw7 Y o a u.1 ++ grB Y (a 2) u.2) t) (va_A (gw7 Y o a M ++ grB Y (a 2) f1) sz)) (mb_XC D (va_A (gw7 Y o a M ++ grB Y (a 2) f1) sz) KX (fun u : mb_m × (Nat → Option Nat) => gw7 Y o a u.1 ++ grB Y (a 2) u.2)) 2 12 (va_A (gw7 Y o a M ++ grB Y (a 2) f1) sz) := by
  refine mbx_begin (cc := cX7_back) (maxL := 5) (ret := (some .int)) hl0 (by decide +kernel) rfl (Nat.le_of_ble_eq_true rfl) ?_
  intro p e s m below meth c ls C hsz hnm hP hD hl
  generalize hAe : va_A (gw7 Y o a M ++ grB Y (a 2) f1) sz = A at C hD ⊢
  have C : mb_CX l p s m meth c ([.ref o, .int x1, .int x2] : List Value).toArray cX7_back 5 (some .int) wsX7_back RX7 D Y A := C
  obtain ⟨⟨hx, hb, hr, hml, hts, hown, hlocks, hA, hG⟩, hT, hX, hl0⟩ := id C
  have hK := hG.1
  have hS : va_S A s.heap s.heap [] := va_S.rf
  have hl : lv_has ls 5 [(0, .ref o), (1, .int x1), (2, .int x2)] := hl
  refine lv_aload_n hx hb dX7_back_0 rfl (lv_at hl 0 rfl) ?_
  refine lv_iload_n hx hb dX7_back_1 rfl (lv_at hl 1 rfl) ?_
  have hPc := hP.sub (ws' := gw7 Y o a M ++ grB Y (a 2) f1) [0, 1] rfl
  have hDc := hD.sub (ws' := gw7 Y o a M ++ grB Y (a 2) f1) [0, 1] (by decide) rfl
  refine mbx_cPr (S := mb_m × (Nat → Option Nat)) (wf := fun u => gw7 Y o a u.1 ++ grB Y (a 2) u.2) (wc := gw7 Y o a M ++ grB Y (a 2) f1) (wr := ([] : va_W)) C hP hD hS [0, 1] [] rfl rfl (by decide) (by decide) (vx_runV (As := [.int x1]) (rest := []) ⟨hx, hb, hml, hown, hts⟩ (cnX7_bookOf l C.2.2.2 D Y N o a M f1 _ x1 _ _ hF) (cwV 1 hts gX7_back_X7_bookOf rfl rfl rfl (by decide +kernel) ⟨Nat.le_of_ble_eq_true rfl, Nat.le_of_ble_eq_true rfl⟩) (mbx_preV C hPc hDc hS 0 rfl rfl) rfl rfl hl.1 rfl (lv_room (Nat.le_of_ble_eq_true rfl)) dX7_back_2 ⟨Nat.le_of_ble_eq_true rfl, Nat.le_of_ble_eq_true rfl⟩) (Nat.le_of_ble_eq_true rfl) (Nat.le_of_ble_eq_true rfl) (fun E u2 H hF hP hD => ⟨((u2.1), (u2.2)), hF, hP.sub (ws' := gw7 Y o a (u2.1) ++ grB Y (a 2) (u2.2)) [0, 1] rfl, hD.sub (ws' := gw7 Y o a (u2.1) ++ grB Y (a 2) (u2.2)) [0, 1] (by decide) rfl⟩) (fun r2 u2 H locs hF hP hD hS => ?_)
  have hP := hP.sub (ws' := gw7 Y o a (u2.1) ++ grB Y (a 2) (u2.2)) [0, 1] rfl
  have hD := hD.sub (ws' := gw7 Y o a (u2.1) ++ grB Y (a 2) (u2.2)) [0, 1] (by decide) rfl
  refine lv_astore_n (lv' := [(3, .ref r2), (0, .ref o), (1, .int x1), (2, .int x2)]) hx hb dX7_back_5 rfl hl (by decide) rfl (fun ls hl => ?_)
  refine lv_iload_n hx hb dX7_back_6 rfl (lv_at hl 3 rfl) ?_
  refine lv_iconst (v := 0) hx hb dX7_back_7 (by decide) ?_
  refine lv_iconst (v := 2) hx hb dX7_back_8 (by decide) ?_
  refine mb_cE hP hS hA (va_runS (As := [.int x2, .int (0 : Int32), .int (2 : Int32)]) (rest := []) ⟨hx, hb, hml, hown, hts⟩ (cnX7_isWithin l D Y N _ x2 (0 : Int32) (2 : Int32) _ hF) (va_cwS 3 hts gX7_back_X7_isWithin rfl rfl rfl (by decide +kernel) ⟨Nat.le_of_ble_eq_true rfl, Nat.le_of_ble_eq_true rfl⟩) (mb_preS (A := A) hG mb_P0 mb_D0) rfl rfl hl.1 rfl (lv_room (Nat.le_of_ble_eq_true rfl)) dX7_back_9 ⟨Nat.le_of_ble_eq_true rfl, Nat.le_of_ble_eq_true rfl⟩) (fun r9 H locs hF hP hS => ?_)
  refine mbx_cEv (S := mb_m × (Nat → Option Nat)) (wf := fun u => gw7 Y o a u.1 ++ grB Y (a 2) u.2) C ((u2.1), (u2.2)) hP hD hS (vx_runS (As := [.int r9]) (rest := []) ⟨hx, hb, hml, hown, hts⟩ (cnX7_demandArgument l C.2.2.2 D Y N _ r9 _ _ hF) (va_cwS 1 hts gX7_back_X7_demandArgument rfl rfl rfl (by decide +kernel) ⟨Nat.le_of_ble_eq_true rfl, Nat.le_of_ble_eq_true rfl⟩) (mbx_preS C mb_P0 mb_D0 hS) rfl rfl hl.1 rfl (lv_room (Nat.le_of_ble_eq_true rfl)) dX7_back_12 ⟨Nat.le_of_ble_eq_true rfl, Nat.le_of_ble_eq_true rfl⟩) (Nat.le_of_ble_eq_true rfl) (Nat.le_of_ble_eq_true rfl) (fun H locs hF hP hS => ?_)
  refine lv_aload_n hx hb dX7_back_15 rfl (lv_at hl 0 rfl) ?_
  exact hF.elim
end
section
noncomputable def PX7_swelling (N : Nat) (M : mb_m) (f1 : (Nat → Option Nat)) (o2 : Nat) (M_2 : mb_m) (M_3 : mb_m) (x1 : Int32) (K : Int32 → (mb_m × (Nat → Option Nat) × mb_m × mb_m) → Prop) (KX : String → (mb_m × (Nat → Option Nat) × mb_m × mb_m) → Prop) : Prop := PX7_bookOf N M f1 x1 (fun r2 u2 => r2 = o2 ∧ (PX4_swell N M_3  (fun r8 u8 => K r8 ((u2.1), (u2.2), M_2, u8)))) (fun E u2 => KX E ((u2.1), (u2.2), M_2, M_3))
set_option maxHeartbeats 4000000 in
set_option maxRecDepth 100000 in
theorem cnX7_swelling (l : Launch) (hl0 : l.stackTraces = false) (D : va_G) (Y : Nat → ClassId) (N : Nat) (o : Nat) (a : Nat → Nat) (M : mb_m) (f1 : (Nat → Option Nat)) (o2 : Nat) (a2 : Nat → Nat) (M_2 : mb_m) (a3 : Nat → Nat) (M_3 : mb_m) (sz : Nat) (x1 : Int32) (K : Int32 → (mb_m × (Nat → Option Nat) × mb_m × mb_m) → Prop) (KX : String → (mb_m × (Nat → Option Nat) × mb_m × mb_m) → Prop) (hF : PX7_swelling N M f1 o2 M_2 M_3 x1 K KX) : vx_Met l yX7_swelling wsX7_swelling ({ frames := 7, cells := 1, slots := 6, locals := 112 } : Room) (va_Pc [.ref o, .int x1] (mb_BX D Y (gw7 Y o a M ++ grB Y (a 2) f1 ++ gw1 Y o2 a2 M_2 ++ gw4 Y (a2 0) a3 M_3) sz)) (va_Qi K (fun u t => mb_T D (va_A (gw7 Y o a M ++ grB Y (a 2) f1 ++ gw1 Y o2 a2 M_2 ++ gw4 Y (a2 0) a3 M_3) sz) (gw7 Y o a u.1 ++ grB Y (a 2) u.2.1 ++ gw1 Y o2 a2 u.2.2.1 ++ gw4 Y (a2 0) a3 u.2.2.2) t) (va_A (gw7 Y o a M ++ grB Y (a 2) f1 ++ gw1 Y o2 a2 M_2 ++ gw4 Y (a2 0) a3 M_3) sz)) (mb_XC D (va_A (gw7 Y o a M ++ grB Y (a 2) f1 ++ gw1 Y o2 a2 M_2 ++ gw4 Y (a2 0) a3 M_3) sz) KX (fun u : mb_m × (Nat → Option Nat) × mb_m × mb_m => gw7 Y o a u.1 ++ grB Y (a 2) u.2.1 ++ gw1 Y o2 a2 u.2.2.1 ++ gw4 Y (a2 0) a3 u.2.2.2)) 1 6 (va_A (gw7 Y o a M ++ grB Y (a 2) f1 ++ gw1 Y o2 a2 M_2 ++ gw4 Y (a2 0) a3 M_3) sz) := by
  refine mbx_begin (cc := cX7_swelling) (maxL := 2) (ret := (some .int)) hl0 (by decide +kernel) rfl (Nat.le_of_ble_eq_true rfl) ?_
  intro p e s m below meth c ls C hsz hnm hP hD hl
  generalize hAe : va_A (gw7 Y o a M ++ grB Y (a 2) f1 ++ gw1 Y o2 a2 M_2 ++ gw4 Y (a2 0) a3 M_3) sz = A at C hD ⊢
  have C : mb_CX l p s m meth c ([.ref o, .int x1] : List Value).toArray cX7_swelling 2 (some .int) wsX7_swelling RX7 D Y A := C
  obtain ⟨⟨hx, hb, hr, hml, hts, hown, hlocks, hA, hG⟩, hT, hX, hl0⟩ := id C
  have hK := hG.1
  have hS : va_S A s.heap s.heap [] := va_S.rf
  have hl : lv_has ls 2 [(0, .ref o), (1, .int x1)] := hl
  refine lv_aload_n hx hb dX7_swelling_0 rfl (lv_at hl 0 rfl) ?_
  refine lv_iload_n hx hb dX7_swelling_1 rfl (lv_at hl 1 rfl) ?_
  have hPc := hP.sub (ws' := gw7 Y o a M ++ grB Y (a 2) f1) [0, 1] rfl
  have hDc := hD.sub (ws' := gw7 Y o a M ++ grB Y (a 2) f1) [0, 1] (by decide) rfl
  refine mbx_cPr (S := mb_m × (Nat → Option Nat) × mb_m × mb_m) (wf := fun u => gw7 Y o a u.1 ++ grB Y (a 2) u.2.1 ++ gw1 Y o2 a2 u.2.2.1 ++ gw4 Y (a2 0) a3 u.2.2.2) (wc := gw7 Y o a M ++ grB Y (a 2) f1) (wr := gw1 Y o2 a2 M_2 ++ gw4 Y (a2 0) a3 M_3) C hP hD hS [0, 1] [2, 3, 4, 5, 6] rfl rfl (by decide) (by decide) (vx_runV (As := [.int x1]) (rest := []) ⟨hx, hb, hml, hown, hts⟩ (cnX7_bookOf l C.2.2.2 D Y N o a M f1 _ x1 _ _ hF) (cwV 1 hts gX7_swelling_X7_bookOf rfl rfl rfl (by decide +kernel) ⟨Nat.le_of_ble_eq_true rfl, Nat.le_of_ble_eq_true rfl⟩) (mbx_preV C hPc hDc hS 0 rfl rfl) rfl rfl hl.1 rfl (lv_room (Nat.le_of_ble_eq_true rfl)) dX7_swelling_2 ⟨Nat.le_of_ble_eq_true rfl, Nat.le_of_ble_eq_true rfl⟩) (Nat.le_of_ble_eq_true rfl) (Nat.le_of_ble_eq_true rfl) (fun E u2 H hF hP hD => ⟨((u2.1), (u2.2), M_2, M_3), hF, hP.sub (ws' := gw7 Y o a (u2.1) ++ grB Y (a 2) (u2.2) ++ gw1 Y o2 a2 M_2 ++ gw4 Y (a2 0) a3 M_3) [5, 6, 0, 1, 2, 3, 4] rfl, hD.sub (ws' := gw7 Y o a (u2.1) ++ grB Y (a 2) (u2.2) ++ gw1 Y o2 a2 M_2 ++ gw4 Y (a2 0) a3 M_3) [5, 6, 0, 1, 2, 3, 4] (by decide) rfl⟩) (fun r2 u2 H locs hF hP hD hS => ?_)
  have hP := hP.sub (ws' := gw7 Y o a (u2.1) ++ grB Y (a 2) (u2.2) ++ gw1 Y o2 a2 M_2 ++ gw4 Y (a2 0) a3 M_3) [5, 6, 0, 1, 2, 3, 4] rfl
  have hD := hD.sub (ws' := gw7 Y o a (u2.1) ++ grB Y (a 2) (u2.2) ++ gw1 Y o2 a2 M_2 ++ gw4 Y (a2 0) a3 M_3) [5, 6, 0, 1, 2, 3, 4] (by decide) rfl
  obtain ⟨hq5, hF⟩ := hF
  try rw [hq5] at hl
  try rw [hq5]
  refine va_getN (D := D) (ci := 1) (v := .ref (a2 0)) (C := RX1) (T := TX1) (N := 7) hx hb hts (fun _ h9 => List.mem_cons_of_mem _ (List.mem_append_left _ (List.mem_append_left _ (List.mem_append_left _ (List.mem_append_right _ (h9)))))) hown hK hP 2 rfl rfl 0 (by decide) (va_Nw.use rfl (hG.2.1 _ (List.mem_of_getElem? (i := 3) rfl))) (fun _ h9 => h9) rfl dX7_swelling_5 ?_
  have hPc := hP.sub (ws' := gw4 Y (a2 0) a3 M_3) [3, 4, 5, 6] rfl
  have hDc := hD.sub (ws' := gw4 Y (a2 0) a3 M_3) [3, 4, 5, 6] (by decide) rfl
  refine mb_cP (wc := gw4 Y (a2 0) a3 M_3) (wr := gw7 Y o a (u2.1) ++ grB Y (a 2) (u2.2) ++ gw1 Y o2 a2 M_2) hP hD hS hA [3, 4, 5, 6] [0, 1, 2] rfl rfl (by decide) (by decide) (va_runV (As := []) (rest := []) ⟨hx, hb, hml, hown, hts⟩ (cnX4_swell l D Y N (a2 0) a3 M_3 _  _ hF) (cwV 0 hts gX7_swelling_X4_swell rfl rfl rfl (by decide +kernel) ⟨Nat.le_of_ble_eq_true rfl, Nat.le_of_ble_eq_true rfl⟩) (mb_preV hG hPc hDc 0 rfl rfl) rfl rfl hl.1 rfl (lv_room (Nat.le_of_ble_eq_true rfl)) dX7_swelling_8 ⟨Nat.le_of_ble_eq_true rfl, Nat.le_of_ble_eq_true rfl⟩) (fun r8 u8 H locs hF hP hD hS => ?_)
  have hP := hP.sub (ws' := gw7 Y o a (u2.1) ++ grB Y (a 2) (u2.2) ++ gw1 Y o2 a2 M_2 ++ gw4 Y (a2 0) a3 u8) [0, 1, 2, 3, 4, 5, 6] rfl
  have hD := hD.sub (ws' := gw7 Y o a (u2.1) ++ grB Y (a 2) (u2.2) ++ gw1 Y o2 a2 M_2 ++ gw4 Y (a2 0) a3 u8) [0, 1, 2, 3, 4, 5, 6] (by decide) rfl
  refine vx_ret ?_
  exact mb_ri (S := mb_m × (Nat → Option Nat) × mb_m × mb_m) (mc := 1) (ms := 6) (wf := fun u => gw7 Y o a u.1 ++ grB Y (a 2) u.2.1 ++ gw1 Y o2 a2 u.2.2.1 ++ gw4 Y (a2 0) a3 u.2.2.2) C.1 rfl (u := ((u2.1), (u2.2), M_2, u8)) hF hP hD hS dX7_swelling_11 (Nat.le_of_ble_eq_true rfl) (Nat.le_of_ble_eq_true rfl)
end
section
noncomputable def PX7_swelling_n (N : Nat) (M : mb_m) (f1 : (Nat → Option Nat)) (x1 : Int32) (K : Int32 → (mb_m × (Nat → Option Nat)) → Prop) (KX : String → (mb_m × (Nat → Option Nat)) → Prop) : Prop := PX7_bookOf N M f1 x1 (fun r2 u2 => False) (fun E u2 => KX E ((u2.1), (u2.2)))
set_option maxHeartbeats 4000000 in
set_option maxRecDepth 100000 in
theorem cnX7_swelling_n (l : Launch) (hl0 : l.stackTraces = false) (D : va_G) (Y : Nat → ClassId) (N : Nat) (o : Nat) (a : Nat → Nat) (M : mb_m) (f1 : (Nat → Option Nat)) (sz : Nat) (x1 : Int32) (K : Int32 → (mb_m × (Nat → Option Nat)) → Prop) (KX : String → (mb_m × (Nat → Option Nat)) → Prop) (hF : PX7_swelling_n N M f1 x1 K KX) : vx_Met l yX7_swelling wsX7_swelling ({ frames := 7, cells := 1, slots := 6, locals := 112 } : Room) (va_Pc [.ref o, .int x1] (mb_BX D Y (gw7 Y o a M ++ grB Y (a 2) f1) sz)) (va_Qi K (fun u t => mb_T D (va_A (gw7 Y o a M ++ grB Y (a 2) f1) sz) (gw7 Y o a u.1 ++ grB Y (a 2) u.2) t) (va_A (gw7 Y o a M ++ grB Y (a 2) f1) sz)) (mb_XC D (va_A (gw7 Y o a M ++ grB Y (a 2) f1) sz) KX (fun u : mb_m × (Nat → Option Nat) => gw7 Y o a u.1 ++ grB Y (a 2) u.2)) 1 6 (va_A (gw7 Y o a M ++ grB Y (a 2) f1) sz) := by
  refine mbx_begin (cc := cX7_swelling) (maxL := 2) (ret := (some .int)) hl0 (by decide +kernel) rfl (Nat.le_of_ble_eq_true rfl) ?_
  intro p e s m below meth c ls C hsz hnm hP hD hl
  generalize hAe : va_A (gw7 Y o a M ++ grB Y (a 2) f1) sz = A at C hD ⊢
  have C : mb_CX l p s m meth c ([.ref o, .int x1] : List Value).toArray cX7_swelling 2 (some .int) wsX7_swelling RX7 D Y A := C
  obtain ⟨⟨hx, hb, hr, hml, hts, hown, hlocks, hA, hG⟩, hT, hX, hl0⟩ := id C
  have hK := hG.1
  have hS : va_S A s.heap s.heap [] := va_S.rf
  have hl : lv_has ls 2 [(0, .ref o), (1, .int x1)] := hl
  refine lv_aload_n hx hb dX7_swelling_0 rfl (lv_at hl 0 rfl) ?_
  refine lv_iload_n hx hb dX7_swelling_1 rfl (lv_at hl 1 rfl) ?_
  have hPc := hP.sub (ws' := gw7 Y o a M ++ grB Y (a 2) f1) [0, 1] rfl
  have hDc := hD.sub (ws' := gw7 Y o a M ++ grB Y (a 2) f1) [0, 1] (by decide) rfl
  refine mbx_cPr (S := mb_m × (Nat → Option Nat)) (wf := fun u => gw7 Y o a u.1 ++ grB Y (a 2) u.2) (wc := gw7 Y o a M ++ grB Y (a 2) f1) (wr := ([] : va_W)) C hP hD hS [0, 1] [] rfl rfl (by decide) (by decide) (vx_runV (As := [.int x1]) (rest := []) ⟨hx, hb, hml, hown, hts⟩ (cnX7_bookOf l C.2.2.2 D Y N o a M f1 _ x1 _ _ hF) (cwV 1 hts gX7_swelling_X7_bookOf rfl rfl rfl (by decide +kernel) ⟨Nat.le_of_ble_eq_true rfl, Nat.le_of_ble_eq_true rfl⟩) (mbx_preV C hPc hDc hS 0 rfl rfl) rfl rfl hl.1 rfl (lv_room (Nat.le_of_ble_eq_true rfl)) dX7_swelling_2 ⟨Nat.le_of_ble_eq_true rfl, Nat.le_of_ble_eq_true rfl⟩) (Nat.le_of_ble_eq_true rfl) (Nat.le_of_ble_eq_true rfl) (fun E u2 H hF hP hD => ⟨((u2.1), (u2.2)), hF, hP.sub (ws' := gw7 Y o a (u2.1) ++ grB Y (a 2) (u2.2)) [0, 1] rfl, hD.sub (ws' := gw7 Y o a (u2.1) ++ grB Y (a 2) (u2.2)) [0, 1] (by decide) rfl⟩) (fun r2 u2 H locs hF hP hD hS => ?_)
  have hP := hP.sub (ws' := gw7 Y o a (u2.1) ++ grB Y (a 2) (u2.2)) [0, 1] rfl
  have hD := hD.sub (ws' := gw7 Y o a (u2.1) ++ grB Y (a 2) (u2.2)) [0, 1] (by decide) rfl
  exact hF.elim
end
section
noncomputable def PX7_strain (N : Nat) (M : mb_m) (f1 : (Nat → Option Nat)) (o2 : Nat) (M_2 : mb_m) (M_3 : mb_m) (x1 x2 : Int32) (K : Int32 → (mb_m × (Nat → Option Nat) × mb_m × mb_m) → Prop) (KX : String → (mb_m × (Nat → Option Nat) × mb_m × mb_m) → Prop) : Prop := PX7_bookOf N M f1 x1 (fun r2 u2 => r2 = o2 ∧ (PX7_isWithin N x2 (0 : Int32) (M_2 3 0) (fun r12 _ => PX7_demandArgument N r12 (fun _ => PX1_bendAt N M_2 x2 (fun r20 u20 => PX4_swell N M_3  (fun r27 u27 => K (r20 + r27) ((u2.1), (u2.2), u20, u27)))) (fun E _ => KX E ((u2.1), (u2.2), M_2, M_3))))) (fun E u2 => KX E ((u2.1), (u2.2), M_2, M_3))
set_option maxHeartbeats 4000000 in
set_option maxRecDepth 100000 in
theorem cnX7_strain (l : Launch) (hl0 : l.stackTraces = false) (D : va_G) (Y : Nat → ClassId) (N : Nat) (o : Nat) (a : Nat → Nat) (M : mb_m) (f1 : (Nat → Option Nat)) (o2 : Nat) (a2 : Nat → Nat) (M_2 : mb_m) (a3 : Nat → Nat) (M_3 : mb_m) (sz : Nat) (x1 x2 : Int32) (K : Int32 → (mb_m × (Nat → Option Nat) × mb_m × mb_m) → Prop) (KX : String → (mb_m × (Nat → Option Nat) × mb_m × mb_m) → Prop) (hF : PX7_strain N M f1 o2 M_2 M_3 x1 x2 K KX) : vx_Met l yX7_strain wsX7_strain ({ frames := 7, cells := 2, slots := 12, locals := 112 } : Room) (va_Pc [.ref o, .int x1, .int x2] (mb_BX D Y (gw7 Y o a M ++ grB Y (a 2) f1 ++ gw1 Y o2 a2 M_2 ++ gw4 Y (a2 0) a3 M_3) sz)) (va_Qi K (fun u t => mb_T D (va_A (gw7 Y o a M ++ grB Y (a 2) f1 ++ gw1 Y o2 a2 M_2 ++ gw4 Y (a2 0) a3 M_3) sz) (gw7 Y o a u.1 ++ grB Y (a 2) u.2.1 ++ gw1 Y o2 a2 u.2.2.1 ++ gw4 Y (a2 0) a3 u.2.2.2) t) (va_A (gw7 Y o a M ++ grB Y (a 2) f1 ++ gw1 Y o2 a2 M_2 ++ gw4 Y (a2 0) a3 M_3) sz)) (mb_XC D (va_A (gw7 Y o a M ++ grB Y (a 2) f1 ++ gw1 Y o2 a2 M_2 ++ gw4 Y (a2 0) a3 M_3) sz) KX (fun u : mb_m × (Nat → Option Nat) × mb_m × mb_m => gw7 Y o a u.1 ++ grB Y (a 2) u.2.1 ++ gw1 Y o2 a2 u.2.2.1 ++ gw4 Y (a2 0) a3 u.2.2.2)) 2 12 (va_A (gw7 Y o a M ++ grB Y (a 2) f1 ++ gw1 Y o2 a2 M_2 ++ gw4 Y (a2 0) a3 M_3) sz) := by
  refine mbx_begin (cc := cX7_strain) (maxL := 4) (ret := (some .int)) hl0 (by decide +kernel) rfl (Nat.le_of_ble_eq_true rfl) ?_
  intro p e s m below meth c ls C hsz hnm hP hD hl
  generalize hAe : va_A (gw7 Y o a M ++ grB Y (a 2) f1 ++ gw1 Y o2 a2 M_2 ++ gw4 Y (a2 0) a3 M_3) sz = A at C hD ⊢
  have C : mb_CX l p s m meth c ([.ref o, .int x1, .int x2] : List Value).toArray cX7_strain 4 (some .int) wsX7_strain RX7 D Y A := C
  obtain ⟨⟨hx, hb, hr, hml, hts, hown, hlocks, hA, hG⟩, hT, hX, hl0⟩ := id C
  have hK := hG.1
  have hS : va_S A s.heap s.heap [] := va_S.rf
  have hl : lv_has ls 4 [(0, .ref o), (1, .int x1), (2, .int x2)] := hl
  refine lv_aload_n hx hb dX7_strain_0 rfl (lv_at hl 0 rfl) ?_
  refine lv_iload_n hx hb dX7_strain_1 rfl (lv_at hl 1 rfl) ?_
  have hPc := hP.sub (ws' := gw7 Y o a M ++ grB Y (a 2) f1) [0, 1] rfl
  have hDc := hD.sub (ws' := gw7 Y o a M ++ grB Y (a 2) f1) [0, 1] (by decide) rfl
  refine mbx_cPr (S := mb_m × (Nat → Option Nat) × mb_m × mb_m) (wf := fun u => gw7 Y o a u.1 ++ grB Y (a 2) u.2.1 ++ gw1 Y o2 a2 u.2.2.1 ++ gw4 Y (a2 0) a3 u.2.2.2) (wc := gw7 Y o a M ++ grB Y (a 2) f1) (wr := gw1 Y o2 a2 M_2 ++ gw4 Y (a2 0) a3 M_3) C hP hD hS [0, 1] [2, 3, 4, 5, 6] rfl rfl (by decide) (by decide) (vx_runV (As := [.int x1]) (rest := []) ⟨hx, hb, hml, hown, hts⟩ (cnX7_bookOf l C.2.2.2 D Y N o a M f1 _ x1 _ _ hF) (cwV 1 hts gX7_strain_X7_bookOf rfl rfl rfl (by decide +kernel) ⟨Nat.le_of_ble_eq_true rfl, Nat.le_of_ble_eq_true rfl⟩) (mbx_preV C hPc hDc hS 0 rfl rfl) rfl rfl hl.1 rfl (lv_room (Nat.le_of_ble_eq_true rfl)) dX7_strain_2 ⟨Nat.le_of_ble_eq_true rfl, Nat.le_of_ble_eq_true rfl⟩) (Nat.le_of_ble_eq_true rfl) (Nat.le_of_ble_eq_true rfl) (fun E u2 H hF hP hD => ⟨((u2.1), (u2.2), M_2, M_3), hF, hP.sub (ws' := gw7 Y o a (u2.1) ++ grB Y (a 2) (u2.2) ++ gw1 Y o2 a2 M_2 ++ gw4 Y (a2 0) a3 M_3) [5, 6, 0, 1, 2, 3, 4] rfl, hD.sub (ws' := gw7 Y o a (u2.1) ++ grB Y (a 2) (u2.2) ++ gw1 Y o2 a2 M_2 ++ gw4 Y (a2 0) a3 M_3) [5, 6, 0, 1, 2, 3, 4] (by decide) rfl⟩) (fun r2 u2 H locs hF hP hD hS => ?_)
  have hP := hP.sub (ws' := gw7 Y o a (u2.1) ++ grB Y (a 2) (u2.2) ++ gw1 Y o2 a2 M_2 ++ gw4 Y (a2 0) a3 M_3) [5, 6, 0, 1, 2, 3, 4] rfl
  have hD := hD.sub (ws' := gw7 Y o a (u2.1) ++ grB Y (a 2) (u2.2) ++ gw1 Y o2 a2 M_2 ++ gw4 Y (a2 0) a3 M_3) [5, 6, 0, 1, 2, 3, 4] (by decide) rfl
  refine lv_astore_n (lv' := [(3, .ref r2), (0, .ref o), (1, .int x1), (2, .int x2)]) hx hb dX7_strain_5 rfl hl (by decide) rfl (fun ls hl => ?_)
  refine lv_iload_n hx hb dX7_strain_6 rfl (lv_at hl 3 rfl) ?_
  refine lv_iconst (v := 0) hx hb dX7_strain_7 (by decide) ?_
  refine lv_aload_n hx hb dX7_strain_8 rfl (lv_at hl 0 rfl) ?_
  obtain ⟨hq9, hF⟩ := hF
  try rw [hq9] at hl
  try rw [hq9]
  refine va_getN (D := D) (ci := 1) (v := .int (M_2 3 0)) (C := RX1) (T := TX1) (N := 7) hx hb hts (fun _ h9 => List.mem_cons_of_mem _ (List.mem_append_left _ (List.mem_append_left _ (List.mem_append_left _ (List.mem_append_left _ (List.mem_append_right _ (h9))))))) hown hK hP 2 rfl rfl 3 (by decide) (va_Nw.use rfl (hG.2.1 _ (List.mem_of_getElem? (i := 12) rfl))) (fun _ h9 => h9) rfl dX7_strain_9 ?_
  refine mb_cE hP hS hA (va_runS (As := [.int x2, .int (0 : Int32), .int (M_2 3 0)]) (rest := []) ⟨hx, hb, hml, hown, hts⟩ (cnX7_isWithin l D Y N _ x2 (0 : Int32) (M_2 3 0) _ hF) (va_cwS 3 hts gX7_strain_X7_isWithin rfl rfl rfl (by decide +kernel) ⟨Nat.le_of_ble_eq_true rfl, Nat.le_of_ble_eq_true rfl⟩) (mb_preS (A := A) hG mb_P0 mb_D0) rfl rfl hl.1 rfl (lv_room (Nat.le_of_ble_eq_true rfl)) dX7_strain_12 ⟨Nat.le_of_ble_eq_true rfl, Nat.le_of_ble_eq_true rfl⟩) (fun r12 H locs hF hP hS => ?_)
  refine mbx_cEv (S := mb_m × (Nat → Option Nat) × mb_m × mb_m) (wf := fun u => gw7 Y o a u.1 ++ grB Y (a 2) u.2.1 ++ gw1 Y o2 a2 u.2.2.1 ++ gw4 Y (a2 0) a3 u.2.2.2) C ((u2.1), (u2.2), M_2, M_3) hP hD hS (vx_runS (As := [.int r12]) (rest := []) ⟨hx, hb, hml, hown, hts⟩ (cnX7_demandArgument l C.2.2.2 D Y N _ r12 _ _ hF) (va_cwS 1 hts gX7_strain_X7_demandArgument rfl rfl rfl (by decide +kernel) ⟨Nat.le_of_ble_eq_true rfl, Nat.le_of_ble_eq_true rfl⟩) (mbx_preS C mb_P0 mb_D0 hS) rfl rfl hl.1 rfl (lv_room (Nat.le_of_ble_eq_true rfl)) dX7_strain_15 ⟨Nat.le_of_ble_eq_true rfl, Nat.le_of_ble_eq_true rfl⟩) (Nat.le_of_ble_eq_true rfl) (Nat.le_of_ble_eq_true rfl) (fun H locs hF hP hS => ?_)
  refine lv_aload_n hx hb dX7_strain_18 rfl (lv_at hl 0 rfl) ?_
  refine lv_iload_n hx hb dX7_strain_19 rfl (lv_at hl 3 rfl) ?_
  have hPc := hP.sub (ws' := gw1 Y o2 a2 M_2) [2] rfl
  have hDc := hD.sub (ws' := gw1 Y o2 a2 M_2) [2] (by decide) rfl
  refine mb_cP (wc := gw1 Y o2 a2 M_2) (wr := gw7 Y o a (u2.1) ++ grB Y (a 2) (u2.2) ++ gw4 Y (a2 0) a3 M_3) hP hD hS hA [2] [0, 1, 3, 4, 5, 6] rfl rfl (by decide) (by decide) (va_runV (As := [.int x2]) (rest := []) ⟨hx, hb, hml, hown, hts⟩ (cnX1_bendAt l D Y N o2 a2 M_2 _ x2 _ hF) (cwV 1 hts gX7_strain_X1_bendAt rfl rfl rfl (by decide +kernel) ⟨Nat.le_of_ble_eq_true rfl, Nat.le_of_ble_eq_true rfl⟩) (mb_preV hG hPc hDc 0 rfl rfl) rfl rfl hl.1 rfl (lv_room (Nat.le_of_ble_eq_true rfl)) dX7_strain_20 ⟨Nat.le_of_ble_eq_true rfl, Nat.le_of_ble_eq_true rfl⟩) (fun r20 u20 H locs hF hP hD hS => ?_)
  have hP := hP.sub (ws' := gw7 Y o a (u2.1) ++ grB Y (a 2) (u2.2) ++ gw1 Y o2 a2 u20 ++ gw4 Y (a2 0) a3 M_3) [0, 1, 6, 2, 3, 4, 5] rfl
  have hD := hD.sub (ws' := gw7 Y o a (u2.1) ++ grB Y (a 2) (u2.2) ++ gw1 Y o2 a2 u20 ++ gw4 Y (a2 0) a3 M_3) [0, 1, 6, 2, 3, 4, 5] (by decide) rfl
  refine lv_aload_n hx hb dX7_strain_23 rfl (lv_at hl 0 rfl) ?_
  refine va_getN (D := D) (ci := 1) (v := .ref (a2 0)) (C := RX1) (T := TX1) (N := 7) hx hb hts (fun _ h9 => List.mem_cons_of_mem _ (List.mem_append_left _ (List.mem_append_left _ (List.mem_append_left _ (List.mem_append_left _ (List.mem_append_right _ (h9))))))) hown hK hP 2 rfl rfl 0 (by decide) (va_Nw.use rfl (hG.2.1 _ (List.mem_of_getElem? (i := 3) rfl))) (fun _ h9 => h9) rfl dX7_strain_24 ?_
  have hPc := hP.sub (ws' := gw4 Y (a2 0) a3 M_3) [3, 4, 5, 6] rfl
  have hDc := hD.sub (ws' := gw4 Y (a2 0) a3 M_3) [3, 4, 5, 6] (by decide) rfl
  refine mb_cP (wc := gw4 Y (a2 0) a3 M_3) (wr := gw7 Y o a (u2.1) ++ grB Y (a 2) (u2.2) ++ gw1 Y o2 a2 u20) hP hD hS hA [3, 4, 5, 6] [0, 1, 2] rfl rfl (by decide) (by decide) (va_runV (As := []) (rest := [.int r20]) ⟨hx, hb, hml, hown, hts⟩ (cnX4_swell l D Y N (a2 0) a3 M_3 _  _ hF) (cwV 0 hts gX7_strain_X4_swell rfl rfl rfl (by decide +kernel) ⟨Nat.le_of_ble_eq_true rfl, Nat.le_of_ble_eq_true rfl⟩) (mb_preV hG hPc hDc 0 rfl rfl) rfl rfl hl.1 rfl (lv_room (Nat.le_of_ble_eq_true rfl)) dX7_strain_27 ⟨Nat.le_of_ble_eq_true rfl, Nat.le_of_ble_eq_true rfl⟩) (fun r27 u27 H locs hF hP hD hS => ?_)
  have hP := hP.sub (ws' := gw7 Y o a (u2.1) ++ grB Y (a 2) (u2.2) ++ gw1 Y o2 a2 u20 ++ gw4 Y (a2 0) a3 u27) [0, 1, 2, 3, 4, 5, 6] rfl
  have hD := hD.sub (ws' := gw7 Y o a (u2.1) ++ grB Y (a 2) (u2.2) ++ gw1 Y o2 a2 u20 ++ gw4 Y (a2 0) a3 u27) [0, 1, 2, 3, 4, 5, 6] (by decide) rfl
  refine lv_iadd hx hb dX7_strain_30 ?_
  refine vx_ret ?_
  exact mb_ri (S := mb_m × (Nat → Option Nat) × mb_m × mb_m) (mc := 2) (ms := 12) (wf := fun u => gw7 Y o a u.1 ++ grB Y (a 2) u.2.1 ++ gw1 Y o2 a2 u.2.2.1 ++ gw4 Y (a2 0) a3 u.2.2.2) C.1 rfl (u := ((u2.1), (u2.2), u20, u27)) hF hP hD hS dX7_strain_31 (Nat.le_of_ble_eq_true rfl) (Nat.le_of_ble_eq_true rfl)
end
section
noncomputable def PX7_strain_n (N : Nat) (M : mb_m) (f1 : (Nat → Option Nat)) (x1 x2 : Int32) (K : Int32 → (mb_m × (Nat → Option Nat)) → Prop) (KX : String → (mb_m × (Nat → Option Nat)) → Prop) : Prop := PX7_bookOf N M f1 x1 (fun r2 u2 => False) (fun E u2 => KX E ((u2.1), (u2.2)))
set_option maxHeartbeats 4000000 in
set_option maxRecDepth 100000 in
theorem cnX7_strain_n (l : Launch) (hl0 : l.stackTraces = false) (D : va_G) (Y : Nat → ClassId) (N : Nat) (o : Nat) (a : Nat → Nat) (M : mb_m) (f1 : (Nat → Option Nat)) (sz : Nat) (x1 x2 : Int32) (K : Int32 → (mb_m × (Nat → Option Nat)) → Prop) (KX : String → (mb_m × (Nat → Option Nat)) → Prop) (hF : PX7_strain_n N M f1 x1 x2 K KX) : vx_Met l yX7_strain wsX7_strain ({ frames := 7, cells := 2, slots := 12, locals := 112 } : Room) (va_Pc [.ref o, .int x1, .int x2] (mb_BX D Y (gw7 Y o a M ++ grB Y (a 2) f1) sz)) (va_Qi K (fun u t => mb_T D (va_A (gw7 Y o a M ++ grB Y (a 2) f1) sz) (gw7 Y o a u.1 ++ grB Y (a 2) u.2) t) (va_A (gw7 Y o a M ++ grB Y (a 2) f1) sz)) (mb_XC D (va_A (gw7 Y o a M ++ grB Y (a 2) f1) sz) KX (fun u : mb_m × (Nat → Option Nat) => gw7 Y o a u.1 ++ grB Y (a 2) u.2)) 2 12 (va_A (gw7 Y o a M ++ grB Y (a 2) f1) sz) := by
  refine mbx_begin (cc := cX7_strain) (maxL := 4) (ret := (some .int)) hl0 (by decide +kernel) rfl (Nat.le_of_ble_eq_true rfl) ?_
  intro p e s m below meth c ls C hsz hnm hP hD hl
  generalize hAe : va_A (gw7 Y o a M ++ grB Y (a 2) f1) sz = A at C hD ⊢
  have C : mb_CX l p s m meth c ([.ref o, .int x1, .int x2] : List Value).toArray cX7_strain 4 (some .int) wsX7_strain RX7 D Y A := C
  obtain ⟨⟨hx, hb, hr, hml, hts, hown, hlocks, hA, hG⟩, hT, hX, hl0⟩ := id C
  have hK := hG.1
  have hS : va_S A s.heap s.heap [] := va_S.rf
  have hl : lv_has ls 4 [(0, .ref o), (1, .int x1), (2, .int x2)] := hl
  refine lv_aload_n hx hb dX7_strain_0 rfl (lv_at hl 0 rfl) ?_
  refine lv_iload_n hx hb dX7_strain_1 rfl (lv_at hl 1 rfl) ?_
  have hPc := hP.sub (ws' := gw7 Y o a M ++ grB Y (a 2) f1) [0, 1] rfl
  have hDc := hD.sub (ws' := gw7 Y o a M ++ grB Y (a 2) f1) [0, 1] (by decide) rfl
  refine mbx_cPr (S := mb_m × (Nat → Option Nat)) (wf := fun u => gw7 Y o a u.1 ++ grB Y (a 2) u.2) (wc := gw7 Y o a M ++ grB Y (a 2) f1) (wr := ([] : va_W)) C hP hD hS [0, 1] [] rfl rfl (by decide) (by decide) (vx_runV (As := [.int x1]) (rest := []) ⟨hx, hb, hml, hown, hts⟩ (cnX7_bookOf l C.2.2.2 D Y N o a M f1 _ x1 _ _ hF) (cwV 1 hts gX7_strain_X7_bookOf rfl rfl rfl (by decide +kernel) ⟨Nat.le_of_ble_eq_true rfl, Nat.le_of_ble_eq_true rfl⟩) (mbx_preV C hPc hDc hS 0 rfl rfl) rfl rfl hl.1 rfl (lv_room (Nat.le_of_ble_eq_true rfl)) dX7_strain_2 ⟨Nat.le_of_ble_eq_true rfl, Nat.le_of_ble_eq_true rfl⟩) (Nat.le_of_ble_eq_true rfl) (Nat.le_of_ble_eq_true rfl) (fun E u2 H hF hP hD => ⟨((u2.1), (u2.2)), hF, hP.sub (ws' := gw7 Y o a (u2.1) ++ grB Y (a 2) (u2.2)) [0, 1] rfl, hD.sub (ws' := gw7 Y o a (u2.1) ++ grB Y (a 2) (u2.2)) [0, 1] (by decide) rfl⟩) (fun r2 u2 H locs hF hP hD hS => ?_)
  have hP := hP.sub (ws' := gw7 Y o a (u2.1) ++ grB Y (a 2) (u2.2)) [0, 1] rfl
  have hD := hD.sub (ws' := gw7 Y o a (u2.1) ++ grB Y (a 2) (u2.2)) [0, 1] (by decide) rfl
  refine lv_astore_n (lv' := [(3, .ref r2), (0, .ref o), (1, .int x1), (2, .int x2)]) hx hb dX7_strain_5 rfl hl (by decide) rfl (fun ls hl => ?_)
  refine lv_iload_n hx hb dX7_strain_6 rfl (lv_at hl 3 rfl) ?_
  refine lv_iconst (v := 0) hx hb dX7_strain_7 (by decide) ?_
  refine lv_aload_n hx hb dX7_strain_8 rfl (lv_at hl 0 rfl) ?_
  exact hF.elim
end
section
noncomputable def PX7_worst (N : Nat) (M : mb_m) (f1 : (Nat → Option Nat)) (o2 : Nat) (M_2 : mb_m) (x1 : Int32) (K : Int32 → (mb_m × (Nat → Option Nat) × mb_m) → Prop) (KX : String → (mb_m × (Nat → Option Nat) × mb_m) → Prop) : Prop := PX7_bookOf N M f1 x1 (fun r2 u2 => r2 = o2 ∧ (PX1_stiffestOpening N M_2  (fun r5 u5 => K r5 ((u2.1), (u2.2), u5)))) (fun E u2 => KX E ((u2.1), (u2.2), M_2))
set_option maxHeartbeats 4000000 in
set_option maxRecDepth 100000 in
theorem cnX7_worst (l : Launch) (hl0 : l.stackTraces = false) (D : va_G) (Y : Nat → ClassId) (N : Nat) (o : Nat) (a : Nat → Nat) (M : mb_m) (f1 : (Nat → Option Nat)) (o2 : Nat) (a2 : Nat → Nat) (M_2 : mb_m) (sz : Nat) (x1 : Int32) (K : Int32 → (mb_m × (Nat → Option Nat) × mb_m) → Prop) (KX : String → (mb_m × (Nat → Option Nat) × mb_m) → Prop) (hF : PX7_worst N M f1 o2 M_2 x1 K KX) : vx_Met l yX7_worst wsX7_worst ({ frames := 7, cells := 1, slots := 6, locals := 112 } : Room) (va_Pc [.ref o, .int x1] (mb_BX D Y (gw7 Y o a M ++ grB Y (a 2) f1 ++ gw1 Y o2 a2 M_2) sz)) (va_Qi K (fun u t => mb_T D (va_A (gw7 Y o a M ++ grB Y (a 2) f1 ++ gw1 Y o2 a2 M_2) sz) (gw7 Y o a u.1 ++ grB Y (a 2) u.2.1 ++ gw1 Y o2 a2 u.2.2) t) (va_A (gw7 Y o a M ++ grB Y (a 2) f1 ++ gw1 Y o2 a2 M_2) sz)) (mb_XC D (va_A (gw7 Y o a M ++ grB Y (a 2) f1 ++ gw1 Y o2 a2 M_2) sz) KX (fun u : mb_m × (Nat → Option Nat) × mb_m => gw7 Y o a u.1 ++ grB Y (a 2) u.2.1 ++ gw1 Y o2 a2 u.2.2)) 1 6 (va_A (gw7 Y o a M ++ grB Y (a 2) f1 ++ gw1 Y o2 a2 M_2) sz) := by
  refine mbx_begin (cc := cX7_worst) (maxL := 2) (ret := (some .int)) hl0 (by decide +kernel) rfl (Nat.le_of_ble_eq_true rfl) ?_
  intro p e s m below meth c ls C hsz hnm hP hD hl
  generalize hAe : va_A (gw7 Y o a M ++ grB Y (a 2) f1 ++ gw1 Y o2 a2 M_2) sz = A at C hD ⊢
  have C : mb_CX l p s m meth c ([.ref o, .int x1] : List Value).toArray cX7_worst 2 (some .int) wsX7_worst RX7 D Y A := C
  obtain ⟨⟨hx, hb, hr, hml, hts, hown, hlocks, hA, hG⟩, hT, hX, hl0⟩ := id C
  have hK := hG.1
  have hS : va_S A s.heap s.heap [] := va_S.rf
  have hl : lv_has ls 2 [(0, .ref o), (1, .int x1)] := hl
  refine lv_aload_n hx hb dX7_worst_0 rfl (lv_at hl 0 rfl) ?_
  refine lv_iload_n hx hb dX7_worst_1 rfl (lv_at hl 1 rfl) ?_
  have hPc := hP.sub (ws' := gw7 Y o a M ++ grB Y (a 2) f1) [0, 1] rfl
  have hDc := hD.sub (ws' := gw7 Y o a M ++ grB Y (a 2) f1) [0, 1] (by decide) rfl
  refine mbx_cPr (S := mb_m × (Nat → Option Nat) × mb_m) (wf := fun u => gw7 Y o a u.1 ++ grB Y (a 2) u.2.1 ++ gw1 Y o2 a2 u.2.2) (wc := gw7 Y o a M ++ grB Y (a 2) f1) (wr := gw1 Y o2 a2 M_2) C hP hD hS [0, 1] [2] rfl rfl (by decide) (by decide) (vx_runV (As := [.int x1]) (rest := []) ⟨hx, hb, hml, hown, hts⟩ (cnX7_bookOf l C.2.2.2 D Y N o a M f1 _ x1 _ _ hF) (cwV 1 hts gX7_worst_X7_bookOf rfl rfl rfl (by decide +kernel) ⟨Nat.le_of_ble_eq_true rfl, Nat.le_of_ble_eq_true rfl⟩) (mbx_preV C hPc hDc hS 0 rfl rfl) rfl rfl hl.1 rfl (lv_room (Nat.le_of_ble_eq_true rfl)) dX7_worst_2 ⟨Nat.le_of_ble_eq_true rfl, Nat.le_of_ble_eq_true rfl⟩) (Nat.le_of_ble_eq_true rfl) (Nat.le_of_ble_eq_true rfl) (fun E u2 H hF hP hD => ⟨((u2.1), (u2.2), M_2), hF, hP.sub (ws' := gw7 Y o a (u2.1) ++ grB Y (a 2) (u2.2) ++ gw1 Y o2 a2 M_2) [1, 2, 0] rfl, hD.sub (ws' := gw7 Y o a (u2.1) ++ grB Y (a 2) (u2.2) ++ gw1 Y o2 a2 M_2) [1, 2, 0] (by decide) rfl⟩) (fun r2 u2 H locs hF hP hD hS => ?_)
  have hP := hP.sub (ws' := gw7 Y o a (u2.1) ++ grB Y (a 2) (u2.2) ++ gw1 Y o2 a2 M_2) [1, 2, 0] rfl
  have hD := hD.sub (ws' := gw7 Y o a (u2.1) ++ grB Y (a 2) (u2.2) ++ gw1 Y o2 a2 M_2) [1, 2, 0] (by decide) rfl
  obtain ⟨hq5, hF⟩ := hF
  try rw [hq5] at hl
  try rw [hq5]
  have hPc := hP.sub (ws' := gw1 Y o2 a2 M_2) [2] rfl
  have hDc := hD.sub (ws' := gw1 Y o2 a2 M_2) [2] (by decide) rfl
  refine mb_cP (wc := gw1 Y o2 a2 M_2) (wr := gw7 Y o a (u2.1) ++ grB Y (a 2) (u2.2)) hP hD hS hA [2] [0, 1] rfl rfl (by decide) (by decide) (va_runV (As := []) (rest := []) ⟨hx, hb, hml, hown, hts⟩ (cnX1_stiffestOpening l D Y N o2 a2 M_2 _  _ hF) (cwV 0 hts gX7_worst_X1_stiffestOpening rfl rfl rfl (by decide +kernel) ⟨Nat.le_of_ble_eq_true rfl, Nat.le_of_ble_eq_true rfl⟩) (mb_preV hG hPc hDc 0 rfl rfl) rfl rfl hl.1 rfl (lv_room (Nat.le_of_ble_eq_true rfl)) dX7_worst_5 ⟨Nat.le_of_ble_eq_true rfl, Nat.le_of_ble_eq_true rfl⟩) (fun r5 u5 H locs hF hP hD hS => ?_)
  have hP := hP.sub (ws' := gw7 Y o a (u2.1) ++ grB Y (a 2) (u2.2) ++ gw1 Y o2 a2 u5) [0, 1, 2] rfl
  have hD := hD.sub (ws' := gw7 Y o a (u2.1) ++ grB Y (a 2) (u2.2) ++ gw1 Y o2 a2 u5) [0, 1, 2] (by decide) rfl
  refine vx_ret ?_
  exact mb_ri (S := mb_m × (Nat → Option Nat) × mb_m) (mc := 1) (ms := 6) (wf := fun u => gw7 Y o a u.1 ++ grB Y (a 2) u.2.1 ++ gw1 Y o2 a2 u.2.2) C.1 rfl (u := ((u2.1), (u2.2), u5)) hF hP hD hS dX7_worst_8 (Nat.le_of_ble_eq_true rfl) (Nat.le_of_ble_eq_true rfl)
end
section
noncomputable def PX7_worst_n (N : Nat) (M : mb_m) (f1 : (Nat → Option Nat)) (x1 : Int32) (K : Int32 → (mb_m × (Nat → Option Nat)) → Prop) (KX : String → (mb_m × (Nat → Option Nat)) → Prop) : Prop := PX7_bookOf N M f1 x1 (fun r2 u2 => False) (fun E u2 => KX E ((u2.1), (u2.2)))
set_option maxHeartbeats 4000000 in
set_option maxRecDepth 100000 in
theorem cnX7_worst_n (l : Launch) (hl0 : l.stackTraces = false) (D : va_G) (Y : Nat → ClassId) (N : Nat) (o : Nat) (a : Nat → Nat) (M : mb_m) (f1 : (Nat → Option Nat)) (sz : Nat) (x1 : Int32) (K : Int32 → (mb_m × (Nat → Option Nat)) → Prop) (KX : String → (mb_m × (Nat → Option Nat)) → Prop) (hF : PX7_worst_n N M f1 x1 K KX) : vx_Met l yX7_worst wsX7_worst ({ frames := 7, cells := 1, slots := 6, locals := 112 } : Room) (va_Pc [.ref o, .int x1] (mb_BX D Y (gw7 Y o a M ++ grB Y (a 2) f1) sz)) (va_Qi K (fun u t => mb_T D (va_A (gw7 Y o a M ++ grB Y (a 2) f1) sz) (gw7 Y o a u.1 ++ grB Y (a 2) u.2) t) (va_A (gw7 Y o a M ++ grB Y (a 2) f1) sz)) (mb_XC D (va_A (gw7 Y o a M ++ grB Y (a 2) f1) sz) KX (fun u : mb_m × (Nat → Option Nat) => gw7 Y o a u.1 ++ grB Y (a 2) u.2)) 1 6 (va_A (gw7 Y o a M ++ grB Y (a 2) f1) sz) := by
  refine mbx_begin (cc := cX7_worst) (maxL := 2) (ret := (some .int)) hl0 (by decide +kernel) rfl (Nat.le_of_ble_eq_true rfl) ?_
  intro p e s m below meth c ls C hsz hnm hP hD hl
  generalize hAe : va_A (gw7 Y o a M ++ grB Y (a 2) f1) sz = A at C hD ⊢
  have C : mb_CX l p s m meth c ([.ref o, .int x1] : List Value).toArray cX7_worst 2 (some .int) wsX7_worst RX7 D Y A := C
  obtain ⟨⟨hx, hb, hr, hml, hts, hown, hlocks, hA, hG⟩, hT, hX, hl0⟩ := id C
  have hK := hG.1
  have hS : va_S A s.heap s.heap [] := va_S.rf
  have hl : lv_has ls 2 [(0, .ref o), (1, .int x1)] := hl
  refine lv_aload_n hx hb dX7_worst_0 rfl (lv_at hl 0 rfl) ?_
  refine lv_iload_n hx hb dX7_worst_1 rfl (lv_at hl 1 rfl) ?_
  have hPc := hP.sub (ws' := gw7 Y o a M ++ grB Y (a 2) f1) [0, 1] rfl
  have hDc := hD.sub (ws' := gw7 Y o a M ++ grB Y (a 2) f1) [0, 1] (by decide) rfl
  refine mbx_cPr (S := mb_m × (Nat → Option Nat)) (wf := fun u => gw7 Y o a u.1 ++ grB Y (a 2) u.2) (wc := gw7 Y o a M ++ grB Y (a 2) f1) (wr := ([] : va_W)) C hP hD hS [0, 1] [] rfl rfl (by decide) (by decide) (vx_runV (As := [.int x1]) (rest := []) ⟨hx, hb, hml, hown, hts⟩ (cnX7_bookOf l C.2.2.2 D Y N o a M f1 _ x1 _ _ hF) (cwV 1 hts gX7_worst_X7_bookOf rfl rfl rfl (by decide +kernel) ⟨Nat.le_of_ble_eq_true rfl, Nat.le_of_ble_eq_true rfl⟩) (mbx_preV C hPc hDc hS 0 rfl rfl) rfl rfl hl.1 rfl (lv_room (Nat.le_of_ble_eq_true rfl)) dX7_worst_2 ⟨Nat.le_of_ble_eq_true rfl, Nat.le_of_ble_eq_true rfl⟩) (Nat.le_of_ble_eq_true rfl) (Nat.le_of_ble_eq_true rfl) (fun E u2 H hF hP hD => ⟨((u2.1), (u2.2)), hF, hP.sub (ws' := gw7 Y o a (u2.1) ++ grB Y (a 2) (u2.2)) [0, 1] rfl, hD.sub (ws' := gw7 Y o a (u2.1) ++ grB Y (a 2) (u2.2)) [0, 1] (by decide) rfl⟩) (fun r2 u2 H locs hF hP hD hS => ?_)
  have hP := hP.sub (ws' := gw7 Y o a (u2.1) ++ grB Y (a 2) (u2.2)) [0, 1] rfl
  have hD := hD.sub (ws' := gw7 Y o a (u2.1) ++ grB Y (a 2) (u2.2)) [0, 1] (by decide) rfl
  exact hF.elim
end
section
noncomputable def PX7_opens (N : Nat) (M : mb_m) (f1 : (Nat → Option Nat)) (o2 : Nat) (M_2 : mb_m) (M_3 : mb_m) (x1 x2 : Int32) (K : Int32 → (mb_m × (Nat → Option Nat) × mb_m × mb_m) → Prop) (KX : String → (mb_m × (Nat → Option Nat) × mb_m × mb_m) → Prop) : Prop := PX7_bookOf N M f1 x1 (fun r2 u2 => PX7_isWithin N x2 (0 : Int32) (100000 : Int32) (fun r10 _ => PX7_demandArgument N r10 (fun _ => r2 = o2 ∧ (PX1_openingsWithin N M_2 M_3 x2 (fun r18 u18 => K r18 ((u2.1), (u2.2), (u18.1), (u18.2))))) (fun E _ => KX E ((u2.1), (u2.2), M_2, M_3)))) (fun E u2 => KX E ((u2.1), (u2.2), M_2, M_3))
set_option maxHeartbeats 4000000 in
set_option maxRecDepth 100000 in
theorem cnX7_opens (l : Launch) (hl0 : l.stackTraces = false) (D : va_G) (Y : Nat → ClassId) (N : Nat) (o : Nat) (a : Nat → Nat) (M : mb_m) (f1 : (Nat → Option Nat)) (o2 : Nat) (a2 : Nat → Nat) (M_2 : mb_m) (a3 : Nat → Nat) (M_3 : mb_m) (sz : Nat) (x1 x2 : Int32) (K : Int32 → (mb_m × (Nat → Option Nat) × mb_m × mb_m) → Prop) (KX : String → (mb_m × (Nat → Option Nat) × mb_m × mb_m) → Prop) (hF : PX7_opens N M f1 o2 M_2 M_3 x1 x2 K KX) : vx_Met l yX7_opens wsX7_opens ({ frames := 7, cells := 2, slots := 12, locals := 112 } : Room) (va_Pc [.ref o, .int x1, .int x2] (mb_BX D Y (gw7 Y o a M ++ grB Y (a 2) f1 ++ gw1 Y o2 a2 M_2 ++ gw4 Y (a2 0) a3 M_3) sz)) (va_Qi K (fun u t => mb_T D (va_A (gw7 Y o a M ++ grB Y (a 2) f1 ++ gw1 Y o2 a2 M_2 ++ gw4 Y (a2 0) a3 M_3) sz) (gw7 Y o a u.1 ++ grB Y (a 2) u.2.1 ++ gw1 Y o2 a2 u.2.2.1 ++ gw4 Y (a2 0) a3 u.2.2.2) t) (va_A (gw7 Y o a M ++ grB Y (a 2) f1 ++ gw1 Y o2 a2 M_2 ++ gw4 Y (a2 0) a3 M_3) sz)) (mb_XC D (va_A (gw7 Y o a M ++ grB Y (a 2) f1 ++ gw1 Y o2 a2 M_2 ++ gw4 Y (a2 0) a3 M_3) sz) KX (fun u : mb_m × (Nat → Option Nat) × mb_m × mb_m => gw7 Y o a u.1 ++ grB Y (a 2) u.2.1 ++ gw1 Y o2 a2 u.2.2.1 ++ gw4 Y (a2 0) a3 u.2.2.2)) 2 12 (va_A (gw7 Y o a M ++ grB Y (a 2) f1 ++ gw1 Y o2 a2 M_2 ++ gw4 Y (a2 0) a3 M_3) sz) := by
  refine mbx_begin (cc := cX7_opens) (maxL := 4) (ret := (some .int)) hl0 (by decide +kernel) rfl (Nat.le_of_ble_eq_true rfl) ?_
  intro p e s m below meth c ls C hsz hnm hP hD hl
  generalize hAe : va_A (gw7 Y o a M ++ grB Y (a 2) f1 ++ gw1 Y o2 a2 M_2 ++ gw4 Y (a2 0) a3 M_3) sz = A at C hD ⊢
  have C : mb_CX l p s m meth c ([.ref o, .int x1, .int x2] : List Value).toArray cX7_opens 4 (some .int) wsX7_opens RX7 D Y A := C
  obtain ⟨⟨hx, hb, hr, hml, hts, hown, hlocks, hA, hG⟩, hT, hX, hl0⟩ := id C
  have hK := hG.1
  have hS : va_S A s.heap s.heap [] := va_S.rf
  have hl : lv_has ls 4 [(0, .ref o), (1, .int x1), (2, .int x2)] := hl
  refine lv_aload_n hx hb dX7_opens_0 rfl (lv_at hl 0 rfl) ?_
  refine lv_iload_n hx hb dX7_opens_1 rfl (lv_at hl 1 rfl) ?_
  have hPc := hP.sub (ws' := gw7 Y o a M ++ grB Y (a 2) f1) [0, 1] rfl
  have hDc := hD.sub (ws' := gw7 Y o a M ++ grB Y (a 2) f1) [0, 1] (by decide) rfl
  refine mbx_cPr (S := mb_m × (Nat → Option Nat) × mb_m × mb_m) (wf := fun u => gw7 Y o a u.1 ++ grB Y (a 2) u.2.1 ++ gw1 Y o2 a2 u.2.2.1 ++ gw4 Y (a2 0) a3 u.2.2.2) (wc := gw7 Y o a M ++ grB Y (a 2) f1) (wr := gw1 Y o2 a2 M_2 ++ gw4 Y (a2 0) a3 M_3) C hP hD hS [0, 1] [2, 3, 4, 5, 6] rfl rfl (by decide) (by decide) (vx_runV (As := [.int x1]) (rest := []) ⟨hx, hb, hml, hown, hts⟩ (cnX7_bookOf l C.2.2.2 D Y N o a M f1 _ x1 _ _ hF) (cwV 1 hts gX7_opens_X7_bookOf rfl rfl rfl (by decide +kernel) ⟨Nat.le_of_ble_eq_true rfl, Nat.le_of_ble_eq_true rfl⟩) (mbx_preV C hPc hDc hS 0 rfl rfl) rfl rfl hl.1 rfl (lv_room (Nat.le_of_ble_eq_true rfl)) dX7_opens_2 ⟨Nat.le_of_ble_eq_true rfl, Nat.le_of_ble_eq_true rfl⟩) (Nat.le_of_ble_eq_true rfl) (Nat.le_of_ble_eq_true rfl) (fun E u2 H hF hP hD => ⟨((u2.1), (u2.2), M_2, M_3), hF, hP.sub (ws' := gw7 Y o a (u2.1) ++ grB Y (a 2) (u2.2) ++ gw1 Y o2 a2 M_2 ++ gw4 Y (a2 0) a3 M_3) [5, 6, 0, 1, 2, 3, 4] rfl, hD.sub (ws' := gw7 Y o a (u2.1) ++ grB Y (a 2) (u2.2) ++ gw1 Y o2 a2 M_2 ++ gw4 Y (a2 0) a3 M_3) [5, 6, 0, 1, 2, 3, 4] (by decide) rfl⟩) (fun r2 u2 H locs hF hP hD hS => ?_)
  have hP := hP.sub (ws' := gw7 Y o a (u2.1) ++ grB Y (a 2) (u2.2) ++ gw1 Y o2 a2 M_2 ++ gw4 Y (a2 0) a3 M_3) [5, 6, 0, 1, 2, 3, 4] rfl
  have hD := hD.sub (ws' := gw7 Y o a (u2.1) ++ grB Y (a 2) (u2.2) ++ gw1 Y o2 a2 M_2 ++ gw4 Y (a2 0) a3 M_3) [5, 6, 0, 1, 2, 3, 4] (by decide) rfl
  refine lv_astore_n (lv' := [(3, .ref r2), (0, .ref o), (1, .int x1), (2, .int x2)]) hx hb dX7_opens_5 rfl hl (by decide) rfl (fun ls hl => ?_)
  refine lv_iload_n hx hb dX7_opens_6 rfl (lv_at hl 3 rfl) ?_
  refine lv_iconst (v := 0) hx hb dX7_opens_7 (by decide) ?_
  refine lv_ldc (v := 100000) hx hb hown (hts (.constant RX7 185 (100000)) (List.mem_of_getElem? (i := 1) rfl)) dX7_opens_8 ?_
  refine mb_cE hP hS hA (va_runS (As := [.int x2, .int (0 : Int32), .int (100000 : Int32)]) (rest := []) ⟨hx, hb, hml, hown, hts⟩ (cnX7_isWithin l D Y N _ x2 (0 : Int32) (100000 : Int32) _ hF) (va_cwS 3 hts gX7_opens_X7_isWithin rfl rfl rfl (by decide +kernel) ⟨Nat.le_of_ble_eq_true rfl, Nat.le_of_ble_eq_true rfl⟩) (mb_preS (A := A) hG mb_P0 mb_D0) rfl rfl hl.1 rfl (lv_room (Nat.le_of_ble_eq_true rfl)) dX7_opens_10 ⟨Nat.le_of_ble_eq_true rfl, Nat.le_of_ble_eq_true rfl⟩) (fun r10 H locs hF hP hS => ?_)
  refine mbx_cEv (S := mb_m × (Nat → Option Nat) × mb_m × mb_m) (wf := fun u => gw7 Y o a u.1 ++ grB Y (a 2) u.2.1 ++ gw1 Y o2 a2 u.2.2.1 ++ gw4 Y (a2 0) a3 u.2.2.2) C ((u2.1), (u2.2), M_2, M_3) hP hD hS (vx_runS (As := [.int r10]) (rest := []) ⟨hx, hb, hml, hown, hts⟩ (cnX7_demandArgument l C.2.2.2 D Y N _ r10 _ _ hF) (va_cwS 1 hts gX7_opens_X7_demandArgument rfl rfl rfl (by decide +kernel) ⟨Nat.le_of_ble_eq_true rfl, Nat.le_of_ble_eq_true rfl⟩) (mbx_preS C mb_P0 mb_D0 hS) rfl rfl hl.1 rfl (lv_room (Nat.le_of_ble_eq_true rfl)) dX7_opens_13 ⟨Nat.le_of_ble_eq_true rfl, Nat.le_of_ble_eq_true rfl⟩) (Nat.le_of_ble_eq_true rfl) (Nat.le_of_ble_eq_true rfl) (fun H locs hF hP hS => ?_)
  refine lv_aload_n hx hb dX7_opens_16 rfl (lv_at hl 0 rfl) ?_
  refine lv_iload_n hx hb dX7_opens_17 rfl (lv_at hl 3 rfl) ?_
  obtain ⟨hq18, hF⟩ := hF
  try rw [hq18] at hl
  try rw [hq18]
  have hPc := hP.sub (ws' := gw1 Y o2 a2 M_2 ++ gw4 Y (a2 0) a3 M_3) [2, 3, 4, 5, 6] rfl
  have hDc := hD.sub (ws' := gw1 Y o2 a2 M_2 ++ gw4 Y (a2 0) a3 M_3) [2, 3, 4, 5, 6] (by decide) rfl
  refine mb_cP (wc := gw1 Y o2 a2 M_2 ++ gw4 Y (a2 0) a3 M_3) (wr := gw7 Y o a (u2.1) ++ grB Y (a 2) (u2.2)) hP hD hS hA [2, 3, 4, 5, 6] [0, 1] rfl rfl (by decide) (by decide) (va_runV (As := [.int x2]) (rest := []) ⟨hx, hb, hml, hown, hts⟩ (cnX1_openingsWithin l D Y N o2 a2 M_2 a3 M_3 _ x2 _ hF) (cwV 1 hts gX7_opens_X1_openingsWithin rfl rfl rfl (by decide +kernel) ⟨Nat.le_of_ble_eq_true rfl, Nat.le_of_ble_eq_true rfl⟩) (mb_preV hG hPc hDc 0 rfl rfl) rfl rfl hl.1 rfl (lv_room (Nat.le_of_ble_eq_true rfl)) dX7_opens_18 ⟨Nat.le_of_ble_eq_true rfl, Nat.le_of_ble_eq_true rfl⟩) (fun r18 u18 H locs hF hP hD hS => ?_)
  have hP := hP.sub (ws' := gw7 Y o a (u2.1) ++ grB Y (a 2) (u2.2) ++ gw1 Y o2 a2 (u18.1) ++ gw4 Y (a2 0) a3 (u18.2)) [0, 1, 2, 3, 4, 5, 6] rfl
  have hD := hD.sub (ws' := gw7 Y o a (u2.1) ++ grB Y (a 2) (u2.2) ++ gw1 Y o2 a2 (u18.1) ++ gw4 Y (a2 0) a3 (u18.2)) [0, 1, 2, 3, 4, 5, 6] (by decide) rfl
  refine vx_ret ?_
  exact mb_ri (S := mb_m × (Nat → Option Nat) × mb_m × mb_m) (mc := 2) (ms := 12) (wf := fun u => gw7 Y o a u.1 ++ grB Y (a 2) u.2.1 ++ gw1 Y o2 a2 u.2.2.1 ++ gw4 Y (a2 0) a3 u.2.2.2) C.1 rfl (u := ((u2.1), (u2.2), (u18.1), (u18.2))) hF hP hD hS dX7_opens_21 (Nat.le_of_ble_eq_true rfl) (Nat.le_of_ble_eq_true rfl)
end
section
noncomputable def PX7_opens_n (N : Nat) (M : mb_m) (f1 : (Nat → Option Nat)) (x1 x2 : Int32) (K : Int32 → (mb_m × (Nat → Option Nat)) → Prop) (KX : String → (mb_m × (Nat → Option Nat)) → Prop) : Prop := PX7_bookOf N M f1 x1 (fun r2 u2 => PX7_isWithin N x2 (0 : Int32) (100000 : Int32) (fun r10 _ => PX7_demandArgument N r10 (fun _ => False) (fun E _ => KX E ((u2.1), (u2.2))))) (fun E u2 => KX E ((u2.1), (u2.2)))
set_option maxHeartbeats 4000000 in
set_option maxRecDepth 100000 in
theorem cnX7_opens_n (l : Launch) (hl0 : l.stackTraces = false) (D : va_G) (Y : Nat → ClassId) (N : Nat) (o : Nat) (a : Nat → Nat) (M : mb_m) (f1 : (Nat → Option Nat)) (sz : Nat) (x1 x2 : Int32) (K : Int32 → (mb_m × (Nat → Option Nat)) → Prop) (KX : String → (mb_m × (Nat → Option Nat)) → Prop) (hF : PX7_opens_n N M f1 x1 x2 K KX) : vx_Met l yX7_opens wsX7_opens ({ frames := 7, cells := 2, slots := 12, locals := 112 } : Room) (va_Pc [.ref o, .int x1, .int x2] (mb_BX D Y (gw7 Y o a M ++ grB Y (a 2) f1) sz)) (va_Qi K (fun u t => mb_T D (va_A (gw7 Y o a M ++ grB Y (a 2) f1) sz) (gw7 Y o a u.1 ++ grB Y (a 2) u.2) t) (va_A (gw7 Y o a M ++ grB Y (a 2) f1) sz)) (mb_XC D (va_A (gw7 Y o a M ++ grB Y (a 2) f1) sz) KX (fun u : mb_m × (Nat → Option Nat) => gw7 Y o a u.1 ++ grB Y (a 2) u.2)) 2 12 (va_A (gw7 Y o a M ++ grB Y (a 2) f1) sz) := by
  refine mbx_begin (cc := cX7_opens) (maxL := 4) (ret := (some .int)) hl0 (by decide +kernel) rfl (Nat.le_of_ble_eq_true rfl) ?_
  intro p e s m below meth c ls C hsz hnm hP hD hl
  generalize hAe : va_A (gw7 Y o a M ++ grB Y (a 2) f1) sz = A at C hD ⊢
  have C : mb_CX l p s m meth c ([.ref o, .int x1, .int x2] : List Value).toArray cX7_opens 4 (some .int) wsX7_opens RX7 D Y A := C
  obtain ⟨⟨hx, hb, hr, hml, hts, hown, hlocks, hA, hG⟩, hT, hX, hl0⟩ := id C
  have hK := hG.1
  have hS : va_S A s.heap s.heap [] := va_S.rf
  have hl : lv_has ls 4 [(0, .ref o), (1, .int x1), (2, .int x2)] := hl
  refine lv_aload_n hx hb dX7_opens_0 rfl (lv_at hl 0 rfl) ?_
  refine lv_iload_n hx hb dX7_opens_1 rfl (lv_at hl 1 rfl) ?_
  have hPc := hP.sub (ws' := gw7 Y o a M ++ grB Y (a 2) f1) [0, 1] rfl
  have hDc := hD.sub (ws' := gw7 Y o a M ++ grB Y (a 2) f1) [0, 1] (by decide) rfl
  refine mbx_cPr (S := mb_m × (Nat → Option Nat)) (wf := fun u => gw7 Y o a u.1 ++ grB Y (a 2) u.2) (wc := gw7 Y o a M ++ grB Y (a 2) f1) (wr := ([] : va_W)) C hP hD hS [0, 1] [] rfl rfl (by decide) (by decide) (vx_runV (As := [.int x1]) (rest := []) ⟨hx, hb, hml, hown, hts⟩ (cnX7_bookOf l C.2.2.2 D Y N o a M f1 _ x1 _ _ hF) (cwV 1 hts gX7_opens_X7_bookOf rfl rfl rfl (by decide +kernel) ⟨Nat.le_of_ble_eq_true rfl, Nat.le_of_ble_eq_true rfl⟩) (mbx_preV C hPc hDc hS 0 rfl rfl) rfl rfl hl.1 rfl (lv_room (Nat.le_of_ble_eq_true rfl)) dX7_opens_2 ⟨Nat.le_of_ble_eq_true rfl, Nat.le_of_ble_eq_true rfl⟩) (Nat.le_of_ble_eq_true rfl) (Nat.le_of_ble_eq_true rfl) (fun E u2 H hF hP hD => ⟨((u2.1), (u2.2)), hF, hP.sub (ws' := gw7 Y o a (u2.1) ++ grB Y (a 2) (u2.2)) [0, 1] rfl, hD.sub (ws' := gw7 Y o a (u2.1) ++ grB Y (a 2) (u2.2)) [0, 1] (by decide) rfl⟩) (fun r2 u2 H locs hF hP hD hS => ?_)
  have hP := hP.sub (ws' := gw7 Y o a (u2.1) ++ grB Y (a 2) (u2.2)) [0, 1] rfl
  have hD := hD.sub (ws' := gw7 Y o a (u2.1) ++ grB Y (a 2) (u2.2)) [0, 1] (by decide) rfl
  refine lv_astore_n (lv' := [(3, .ref r2), (0, .ref o), (1, .int x1), (2, .int x2)]) hx hb dX7_opens_5 rfl hl (by decide) rfl (fun ls hl => ?_)
  refine lv_iload_n hx hb dX7_opens_6 rfl (lv_at hl 3 rfl) ?_
  refine lv_iconst (v := 0) hx hb dX7_opens_7 (by decide) ?_
  refine lv_ldc (v := 100000) hx hb hown (hts (.constant RX7 185 (100000)) (List.mem_of_getElem? (i := 1) rfl)) dX7_opens_8 ?_
  refine mb_cE hP hS hA (va_runS (As := [.int x2, .int (0 : Int32), .int (100000 : Int32)]) (rest := []) ⟨hx, hb, hml, hown, hts⟩ (cnX7_isWithin l D Y N _ x2 (0 : Int32) (100000 : Int32) _ hF) (va_cwS 3 hts gX7_opens_X7_isWithin rfl rfl rfl (by decide +kernel) ⟨Nat.le_of_ble_eq_true rfl, Nat.le_of_ble_eq_true rfl⟩) (mb_preS (A := A) hG mb_P0 mb_D0) rfl rfl hl.1 rfl (lv_room (Nat.le_of_ble_eq_true rfl)) dX7_opens_10 ⟨Nat.le_of_ble_eq_true rfl, Nat.le_of_ble_eq_true rfl⟩) (fun r10 H locs hF hP hS => ?_)
  refine mbx_cEv (S := mb_m × (Nat → Option Nat)) (wf := fun u => gw7 Y o a u.1 ++ grB Y (a 2) u.2) C ((u2.1), (u2.2)) hP hD hS (vx_runS (As := [.int r10]) (rest := []) ⟨hx, hb, hml, hown, hts⟩ (cnX7_demandArgument l C.2.2.2 D Y N _ r10 _ _ hF) (va_cwS 1 hts gX7_opens_X7_demandArgument rfl rfl rfl (by decide +kernel) ⟨Nat.le_of_ble_eq_true rfl, Nat.le_of_ble_eq_true rfl⟩) (mbx_preS C mb_P0 mb_D0 hS) rfl rfl hl.1 rfl (lv_room (Nat.le_of_ble_eq_true rfl)) dX7_opens_13 ⟨Nat.le_of_ble_eq_true rfl, Nat.le_of_ble_eq_true rfl⟩) (Nat.le_of_ble_eq_true rfl) (Nat.le_of_ble_eq_true rfl) (fun H locs hF hP hS => ?_)
  refine lv_aload_n hx hb dX7_opens_16 rfl (lv_at hl 0 rfl) ?_
  refine lv_iload_n hx hb dX7_opens_17 rfl (lv_at hl 3 rfl) ?_
  exact hF.elim
end
section
noncomputable def PX7_pare_83 (N : Nat) (K : Int32 → (mb_m × (Nat → Option Nat) × mb_m) → Prop) (KX : String → (mb_m × (Nat → Option Nat) × mb_m) → Prop) (M : mb_m) (f1 : (Nat → Option Nat)) (M_2 : mb_m) (x2 x3 x4 x5 x6 x8 y0 : Int32) : Prop := PX7_demandState N y0 (fun _ => PX5_thin N M_2 x2 x3 x4 x5 x6 (fun u96 => K x8 (M, f1, u96))) (fun E _ => KX E (M, f1, M_2))
set_option maxHeartbeats 4000000 in
set_option maxRecDepth 100000 in
theorem wX7_pare_83 {p : Program} {l : Launch} {e : Env} {s : State} {m : MethodId} {below : List Frame} {meth : Method} {c : Code} {args : Array Value} {D : va_G} {Y : Nat → ClassId} {A : Nat → Prop} {o : Nat} {a : Nat → Nat} {o2 : Nat} {a2 : Nat → Nat} {N : Nat} {K : Int32 → (mb_m × (Nat → Option Nat) × mb_m) → Prop} {KX : String → (mb_m × (Nat → Option Nat) × mb_m) → Prop} (C : mb_CX l p s m meth c args cX7_pare 9 (some .int) wsX7_pare RX7 D Y A) : ∀ (M : mb_m) (f1 : (Nat → Option Nat)) (M_2 : mb_m) (x2 x3 x4 x5 x6 x8 y0 : Int32) (H : Heap) (locs : List Loc) (ls : Array Slot), PX7_pare_83 N K KX  M f1 M_2 x2 x3 x4 x5 x6 x8 y0 → va_P D vwCl (gw7 Y o a M ++ grS Y (a 3) f1 ++ gw5 Y o2 a2 M_2) H → va_D A (gw7 Y o a M ++ grS Y (a 3) f1 ++ gw5 Y o2 a2 M_2) → va_S A s.heap H locs → lv_has ls 9 [(2, .int x2), (3, .int x3), (4, .int x4), (5, .int x5), (6, .int x6), (7, .ref o2), (8, .int x8)] → W p l e ({ frames := 7, cells := 4, slots := 24, locals := 112 } : Room) s m args below meth c H locs 3 18 (vx_MQ below (va_Qi K (fun u t => mb_T D A (gw7 Y o a u.1 ++ grS Y (a 3) u.2.1 ++ gw5 Y o2 a2 u.2.2) t) A) (mb_XC D A KX (fun u : mb_m × (Nat → Option Nat) × mb_m => gw7 Y o a u.1 ++ grS Y (a 3) u.2.1 ++ gw5 Y o2 a2 u.2.2)) args s 4 24 A) (F0 m 83 ls [.int y0]) := by
  obtain ⟨⟨hx, hb, hr, hml, hts, hown, hlocks, hA, hG⟩, hT, hX, hl0⟩ := id C
  have hK := hG.1
  intro M f1 M_2 x2 x3 x4 x5 x6 x8 y0 H locs ls hF hP hD hS hl
  refine mbx_cEv (S := mb_m × (Nat → Option Nat) × mb_m) (wf := fun u => gw7 Y o a u.1 ++ grS Y (a 3) u.2.1 ++ gw5 Y o2 a2 u.2.2) C (M, f1, M_2) hP hD hS (vx_runS (As := [.int y0]) (rest := []) ⟨hx, hb, hml, hown, hts⟩ (cnX7_demandState l C.2.2.2 D Y N _ y0 _ _ hF) (va_cwS 1 hts gX7_pare_X7_demandState rfl rfl rfl (by decide +kernel) ⟨Nat.le_of_ble_eq_true rfl, Nat.le_of_ble_eq_true rfl⟩) (mbx_preS C mb_P0 mb_D0 hS) rfl rfl hl.1 rfl (lv_room (Nat.le_of_ble_eq_true rfl)) dX7_pare_83 ⟨Nat.le_of_ble_eq_true rfl, Nat.le_of_ble_eq_true rfl⟩) (Nat.le_of_ble_eq_true rfl) (Nat.le_of_ble_eq_true rfl) (fun H locs hF hP hS => ?_)
  refine lv_aload hx hb dX7_pare_86 (lv_at hl 5 rfl) ?_
  refine lv_iload_n hx hb dX7_pare_88 rfl (lv_at hl 0 rfl) ?_
  refine lv_iload_n hx hb dX7_pare_89 rfl (lv_at hl 1 rfl) ?_
  refine lv_iload hx hb dX7_pare_90 (lv_at hl 2 rfl) ?_
  refine lv_iload hx hb dX7_pare_92 (lv_at hl 3 rfl) ?_
  refine lv_iload hx hb dX7_pare_94 (lv_at hl 4 rfl) ?_
  have hPc := hP.sub (ws' := gw5 Y o2 a2 M_2) [2, 3] rfl
  have hDc := hD.sub (ws' := gw5 Y o2 a2 M_2) [2, 3] (by decide) rfl
  refine mb_cPv (wc := gw5 Y o2 a2 M_2) (wr := gw7 Y o a M ++ grS Y (a 3) f1) hP hD hS hA [2, 3] [0, 1] rfl rfl (by decide) (by decide) (va_runV (As := [.int x2, .int x3, .int x4, .int x5, .int x6]) (rest := []) ⟨hx, hb, hml, hown, hts⟩ (cnX5_thin l D Y N o2 a2 M_2 _ x2 x3 x4 x5 x6 _ hF) (cwV 5 hts gX7_pare_X5_thin rfl rfl rfl (by decide +kernel) ⟨Nat.le_of_ble_eq_true rfl, Nat.le_of_ble_eq_true rfl⟩) (mb_preV hG hPc hDc 0 rfl rfl) rfl rfl hl.1 rfl (lv_room (Nat.le_of_ble_eq_true rfl)) dX7_pare_96 ⟨Nat.le_of_ble_eq_true rfl, Nat.le_of_ble_eq_true rfl⟩) (fun u96 H locs hF hP hD hS => ?_)
  have hP := hP.sub (ws' := gw7 Y o a M ++ grS Y (a 3) f1 ++ gw5 Y o2 a2 u96) [0, 1, 2, 3] rfl
  have hD := hD.sub (ws' := gw7 Y o a M ++ grS Y (a 3) f1 ++ gw5 Y o2 a2 u96) [0, 1, 2, 3] (by decide) rfl
  refine lv_iload hx hb dX7_pare_99 (lv_at hl 6 rfl) ?_
  refine vx_ret ?_
  exact mb_ri (S := mb_m × (Nat → Option Nat) × mb_m) (mc := 4) (ms := 24) (wf := fun u => gw7 Y o a u.1 ++ grS Y (a 3) u.2.1 ++ gw5 Y o2 a2 u.2.2) C.1 rfl (u := (M, f1, u96)) hF hP hD hS dX7_pare_101 (Nat.le_of_ble_eq_true rfl) (Nat.le_of_ble_eq_true rfl)
noncomputable def PX7_pare_42 (N : Nat) (K : Int32 → (mb_m × (Nat → Option Nat) × mb_m) → Prop) (KX : String → (mb_m × (Nat → Option Nat) × mb_m) → Prop) (M : mb_m) (f1 : (Nat → Option Nat)) (M_2 : mb_m) (x2 x3 x4 x5 x6 y0 : Int32) : Prop := PX7_demandPlace N y0 (fun _ => PX7_isWithin N x6 (1 : Int32) (27 : Int32) (fun r50 _ => PX7_demandArgument N r50 (fun _ => PX5_thinnest N M_2 x2 x3 x4 x5 (fun r64 u64 => ∀ v70 : Int32, v70 = (r64 - x6) → ((v70 < (3 : Int32) → PX7_pare_83 N K KX M f1 u64 x2 x3 x4 x5 x6 v70 (0 : Int32)) ∧ (¬ v70 < (3 : Int32) → PX7_pare_83 N K KX M f1 u64 x2 x3 x4 x5 x6 v70 (1 : Int32))))) (fun E _ => KX E (M, f1, M_2)))) (fun E _ => KX E (M, f1, M_2))
set_option maxHeartbeats 4000000 in
set_option maxRecDepth 100000 in
theorem wX7_pare_42 {p : Program} {l : Launch} {e : Env} {s : State} {m : MethodId} {below : List Frame} {meth : Method} {c : Code} {args : Array Value} {D : va_G} {Y : Nat → ClassId} {A : Nat → Prop} {o : Nat} {a : Nat → Nat} {o2 : Nat} {a2 : Nat → Nat} {N : Nat} {K : Int32 → (mb_m × (Nat → Option Nat) × mb_m) → Prop} {KX : String → (mb_m × (Nat → Option Nat) × mb_m) → Prop} (C : mb_CX l p s m meth c args cX7_pare 9 (some .int) wsX7_pare RX7 D Y A) : ∀ (M : mb_m) (f1 : (Nat → Option Nat)) (M_2 : mb_m) (x2 x3 x4 x5 x6 y0 : Int32) (H : Heap) (locs : List Loc) (ls : Array Slot), PX7_pare_42 N K KX  M f1 M_2 x2 x3 x4 x5 x6 y0 → va_P D vwCl (gw7 Y o a M ++ grS Y (a 3) f1 ++ gw5 Y o2 a2 M_2) H → va_D A (gw7 Y o a M ++ grS Y (a 3) f1 ++ gw5 Y o2 a2 M_2) → va_S A s.heap H locs → lv_has ls 9 [(2, .int x2), (3, .int x3), (4, .int x4), (5, .int x5), (6, .int x6), (7, .ref o2)] → W p l e ({ frames := 7, cells := 4, slots := 24, locals := 112 } : Room) s m args below meth c H locs 1 6 (vx_MQ below (va_Qi K (fun u t => mb_T D A (gw7 Y o a u.1 ++ grS Y (a 3) u.2.1 ++ gw5 Y o2 a2 u.2.2) t) A) (mb_XC D A KX (fun u : mb_m × (Nat → Option Nat) × mb_m => gw7 Y o a u.1 ++ grS Y (a 3) u.2.1 ++ gw5 Y o2 a2 u.2.2)) args s 4 24 A) (F0 m 42 ls [.int y0]) := by
  obtain ⟨⟨hx, hb, hr, hml, hts, hown, hlocks, hA, hG⟩, hT, hX, hl0⟩ := id C
  have hK := hG.1
  intro M f1 M_2 x2 x3 x4 x5 x6 y0 H locs ls hF hP hD hS hl
  refine mbx_cEv (S := mb_m × (Nat → Option Nat) × mb_m) (wf := fun u => gw7 Y o a u.1 ++ grS Y (a 3) u.2.1 ++ gw5 Y o2 a2 u.2.2) C (M, f1, M_2) hP hD hS (vx_runS (As := [.int y0]) (rest := []) ⟨hx, hb, hml, hown, hts⟩ (cnX7_demandPlace l C.2.2.2 D Y N _ y0 _ _ hF) (va_cwS 1 hts gX7_pare_X7_demandPlace rfl rfl rfl (by decide +kernel) ⟨Nat.le_of_ble_eq_true rfl, Nat.le_of_ble_eq_true rfl⟩) (mbx_preS C mb_P0 mb_D0 hS) rfl rfl hl.1 rfl (lv_room (Nat.le_of_ble_eq_true rfl)) dX7_pare_42 ⟨Nat.le_of_ble_eq_true rfl, Nat.le_of_ble_eq_true rfl⟩) (Nat.le_of_ble_eq_true rfl) (Nat.le_of_ble_eq_true rfl) (fun H locs hF hP hS => ?_)
  refine lv_iload hx hb dX7_pare_45 (lv_at hl 4 rfl) ?_
  refine lv_iconst (v := 1) hx hb dX7_pare_47 (by decide) ?_
  refine lv_bipush (v := 27) hx hb dX7_pare_48 (by decide) ?_
  refine mb_cE hP hS hA (va_runS (As := [.int x6, .int (1 : Int32), .int (27 : Int32)]) (rest := []) ⟨hx, hb, hml, hown, hts⟩ (cnX7_isWithin l D Y N _ x6 (1 : Int32) (27 : Int32) _ hF) (va_cwS 3 hts gX7_pare_X7_isWithin rfl rfl rfl (by decide +kernel) ⟨Nat.le_of_ble_eq_true rfl, Nat.le_of_ble_eq_true rfl⟩) (mb_preS (A := A) hG mb_P0 mb_D0) rfl rfl hl.1 rfl (lv_room (Nat.le_of_ble_eq_true rfl)) dX7_pare_50 ⟨Nat.le_of_ble_eq_true rfl, Nat.le_of_ble_eq_true rfl⟩) (fun r50 H locs hF hP hS => ?_)
  refine mbx_cEv (S := mb_m × (Nat → Option Nat) × mb_m) (wf := fun u => gw7 Y o a u.1 ++ grS Y (a 3) u.2.1 ++ gw5 Y o2 a2 u.2.2) C (M, f1, M_2) hP hD hS (vx_runS (As := [.int r50]) (rest := []) ⟨hx, hb, hml, hown, hts⟩ (cnX7_demandArgument l C.2.2.2 D Y N _ r50 _ _ hF) (va_cwS 1 hts gX7_pare_X7_demandArgument rfl rfl rfl (by decide +kernel) ⟨Nat.le_of_ble_eq_true rfl, Nat.le_of_ble_eq_true rfl⟩) (mbx_preS C mb_P0 mb_D0 hS) rfl rfl hl.1 rfl (lv_room (Nat.le_of_ble_eq_true rfl)) dX7_pare_53 ⟨Nat.le_of_ble_eq_true rfl, Nat.le_of_ble_eq_true rfl⟩) (Nat.le_of_ble_eq_true rfl) (Nat.le_of_ble_eq_true rfl) (fun H locs hF hP hS => ?_)
  refine lv_aload hx hb dX7_pare_56 (lv_at hl 5 rfl) ?_
  refine lv_iload_n hx hb dX7_pare_58 rfl (lv_at hl 0 rfl) ?_
  refine lv_iload_n hx hb dX7_pare_59 rfl (lv_at hl 1 rfl) ?_
  refine lv_iload hx hb dX7_pare_60 (lv_at hl 2 rfl) ?_
  refine lv_iload hx hb dX7_pare_62 (lv_at hl 3 rfl) ?_
  have hPc := hP.sub (ws' := gw5 Y o2 a2 M_2) [2, 3] rfl
  have hDc := hD.sub (ws' := gw5 Y o2 a2 M_2) [2, 3] (by decide) rfl
  refine mb_cP (wc := gw5 Y o2 a2 M_2) (wr := gw7 Y o a M ++ grS Y (a 3) f1) hP hD hS hA [2, 3] [0, 1] rfl rfl (by decide) (by decide) (va_runV (As := [.int x2, .int x3, .int x4, .int x5]) (rest := []) ⟨hx, hb, hml, hown, hts⟩ (cnX5_thinnest l D Y N o2 a2 M_2 _ x2 x3 x4 x5 _ hF) (cwV 4 hts gX7_pare_X5_thinnest rfl rfl rfl (by decide +kernel) ⟨Nat.le_of_ble_eq_true rfl, Nat.le_of_ble_eq_true rfl⟩) (mb_preV hG hPc hDc 0 rfl rfl) rfl rfl hl.1 rfl (lv_room (Nat.le_of_ble_eq_true rfl)) dX7_pare_64 ⟨Nat.le_of_ble_eq_true rfl, Nat.le_of_ble_eq_true rfl⟩) (fun r64 u64 H locs hF hP hD hS => ?_)
  have hP := hP.sub (ws' := gw7 Y o a M ++ grS Y (a 3) f1 ++ gw5 Y o2 a2 u64) [0, 1, 2, 3] rfl
  have hD := hD.sub (ws' := gw7 Y o a M ++ grS Y (a 3) f1 ++ gw5 Y o2 a2 u64) [0, 1, 2, 3] (by decide) rfl
  refine lv_iload hx hb dX7_pare_67 (lv_at hl 4 rfl) ?_
  refine lv_isub hx hb dX7_pare_69 ?_
  refine lv_topi (fun v70 ev70 => ?_)
  have hF := hF v70 ev70
  refine lv_istore (lv' := [(8, .int v70), (2, .int x2), (3, .int x3), (4, .int x4), (5, .int x5), (6, .int x6), (7, .ref o2)]) hx hb dX7_pare_70 hl (by decide) rfl (fun ls hl => ?_)
  refine lv_iload hx hb dX7_pare_72 (lv_at hl 0 rfl) ?_
  refine lv_iconst (v := 3) hx hb dX7_pare_74 (by decide) ?_
  refine lv_icmp_lt (tgt := 82) hx hb dX7_pare_75 (by decide) (fun c_75 => ?_) (fun c_75 => ?_)
  · have hF := hF.1 c_75
    refine lv_iconst (v := 0) hx hb dX7_pare_82 (by decide) ?_
    exact wX7_pare_83 C M f1 u64 x2 x3 x4 x5 x6 v70 (0 : Int32) _ _ _ hF hP hD hS (lv_sub hl [1, 2, 3, 4, 5, 6, 0] rfl)
  · have hF := hF.2 c_75
    refine lv_iconst (v := 1) hx hb dX7_pare_78 (by decide) ?_
    refine lv_goto (tgt := 83) hx hb dX7_pare_79 (by decide) ?_
    exact wX7_pare_83 C M f1 u64 x2 x3 x4 x5 x6 v70 (1 : Int32) _ _ _ hF hP hD hS (lv_sub hl [1, 2, 3, 4, 5, 6, 0] rfl)
noncomputable def PX7_pare_41 (N : Nat) (K : Int32 → (mb_m × (Nat → Option Nat) × mb_m) → Prop) (KX : String → (mb_m × (Nat → Option Nat) × mb_m) → Prop) (M : mb_m) (f1 : (Nat → Option Nat)) (M_2 : mb_m) (x2 x3 x4 x5 x6 : Int32) : Prop := PX7_pare_42 N K KX M f1 M_2 x2 x3 x4 x5 x6 (0 : Int32)
set_option maxHeartbeats 4000000 in
set_option maxRecDepth 100000 in
theorem wX7_pare_41 {p : Program} {l : Launch} {e : Env} {s : State} {m : MethodId} {below : List Frame} {meth : Method} {c : Code} {args : Array Value} {D : va_G} {Y : Nat → ClassId} {A : Nat → Prop} {o : Nat} {a : Nat → Nat} {o2 : Nat} {a2 : Nat → Nat} {N : Nat} {K : Int32 → (mb_m × (Nat → Option Nat) × mb_m) → Prop} {KX : String → (mb_m × (Nat → Option Nat) × mb_m) → Prop} (C : mb_CX l p s m meth c args cX7_pare 9 (some .int) wsX7_pare RX7 D Y A) : ∀ (M : mb_m) (f1 : (Nat → Option Nat)) (M_2 : mb_m) (x2 x3 x4 x5 x6 : Int32) (H : Heap) (locs : List Loc) (ls : Array Slot), PX7_pare_41 N K KX  M f1 M_2 x2 x3 x4 x5 x6 → va_P D vwCl (gw7 Y o a M ++ grS Y (a 3) f1 ++ gw5 Y o2 a2 M_2) H → va_D A (gw7 Y o a M ++ grS Y (a 3) f1 ++ gw5 Y o2 a2 M_2) → va_S A s.heap H locs → lv_has ls 9 [(2, .int x2), (3, .int x3), (4, .int x4), (5, .int x5), (6, .int x6), (7, .ref o2)] → W p l e ({ frames := 7, cells := 4, slots := 24, locals := 112 } : Room) s m args below meth c H locs 1 6 (vx_MQ below (va_Qi K (fun u t => mb_T D A (gw7 Y o a u.1 ++ grS Y (a 3) u.2.1 ++ gw5 Y o2 a2 u.2.2) t) A) (mb_XC D A KX (fun u : mb_m × (Nat → Option Nat) × mb_m => gw7 Y o a u.1 ++ grS Y (a 3) u.2.1 ++ gw5 Y o2 a2 u.2.2)) args s 4 24 A) (F0 m 41 ls []) := by
  obtain ⟨⟨hx, hb, hr, hml, hts, hown, hlocks, hA, hG⟩, hT, hX, hl0⟩ := id C
  have hK := hG.1
  intro M f1 M_2 x2 x3 x4 x5 x6 H locs ls hF hP hD hS hl
  refine lv_iconst (v := 0) hx hb dX7_pare_41 (by decide) ?_
  exact wX7_pare_42 C M f1 M_2 x2 x3 x4 x5 x6 (0 : Int32) _ _ _ hF hP hD hS (lv_sub hl [0, 1, 2, 3, 4, 5] rfl)
noncomputable def PX7_pare (N : Nat) (M : mb_m) (f1 : (Nat → Option Nat)) (o2 : Nat) (M_2 : mb_m) (x1 x2 x3 x4 x5 x6 : Int32) (K : Int32 → (mb_m × (Nat → Option Nat) × mb_m) → Prop) (KX : String → (mb_m × (Nat → Option Nat) × mb_m) → Prop) : Prop := PX7_skinOf N M f1 x1 (fun r2 u2 => PX7_isOnGrid N x2 x4 (fun r10 _ => (r10 = 0 → r2 = o2 ∧ (PX7_pare_41 N K KX (u2.1) (u2.2) M_2 x2 x3 x4 x5 x6)) ∧ (¬ r10 = 0 → PX7_isOnGrid N x3 x5 (fun r19 _ => (r19 = 0 → r2 = o2 ∧ (PX7_pare_41 N K KX (u2.1) (u2.2) M_2 x2 x3 x4 x5 x6)) ∧ (¬ r19 = 0 → (x3 < x2 → r2 = o2 ∧ (PX7_pare_41 N K KX (u2.1) (u2.2) M_2 x2 x3 x4 x5 x6)) ∧ (¬ x3 < x2 → (x5 < x4 → r2 = o2 ∧ (PX7_pare_41 N K KX (u2.1) (u2.2) M_2 x2 x3 x4 x5 x6)) ∧ (¬ x5 < x4 → r2 = o2 ∧ (PX7_pare_42 N K KX (u2.1) (u2.2) M_2 x2 x3 x4 x5 x6 (1 : Int32))))))))) (fun E u2 => KX E ((u2.1), (u2.2), M_2))
set_option maxHeartbeats 4000000 in
set_option maxRecDepth 100000 in
theorem cnX7_pare (l : Launch) (hl0 : l.stackTraces = false) (D : va_G) (Y : Nat → ClassId) (N : Nat) (o : Nat) (a : Nat → Nat) (M : mb_m) (f1 : (Nat → Option Nat)) (o2 : Nat) (a2 : Nat → Nat) (M_2 : mb_m) (sz : Nat) (x1 x2 x3 x4 x5 x6 : Int32) (K : Int32 → (mb_m × (Nat → Option Nat) × mb_m) → Prop) (KX : String → (mb_m × (Nat → Option Nat) × mb_m) → Prop) (hF : PX7_pare N M f1 o2 M_2 x1 x2 x3 x4 x5 x6 K KX) : vx_Met l yX7_pare wsX7_pare ({ frames := 7, cells := 4, slots := 24, locals := 112 } : Room) (va_Pc [.ref o, .int x1, .int x2, .int x3, .int x4, .int x5, .int x6] (mb_BX D Y (gw7 Y o a M ++ grS Y (a 3) f1 ++ gw5 Y o2 a2 M_2) sz)) (va_Qi K (fun u t => mb_T D (va_A (gw7 Y o a M ++ grS Y (a 3) f1 ++ gw5 Y o2 a2 M_2) sz) (gw7 Y o a u.1 ++ grS Y (a 3) u.2.1 ++ gw5 Y o2 a2 u.2.2) t) (va_A (gw7 Y o a M ++ grS Y (a 3) f1 ++ gw5 Y o2 a2 M_2) sz)) (mb_XC D (va_A (gw7 Y o a M ++ grS Y (a 3) f1 ++ gw5 Y o2 a2 M_2) sz) KX (fun u : mb_m × (Nat → Option Nat) × mb_m => gw7 Y o a u.1 ++ grS Y (a 3) u.2.1 ++ gw5 Y o2 a2 u.2.2)) 4 24 (va_A (gw7 Y o a M ++ grS Y (a 3) f1 ++ gw5 Y o2 a2 M_2) sz) := by
  refine mbx_begin (cc := cX7_pare) (maxL := 9) (ret := (some .int)) hl0 (by decide +kernel) rfl (Nat.le_of_ble_eq_true rfl) ?_
  intro p e s m below meth c ls C hsz hnm hP hD hl
  generalize hAe : va_A (gw7 Y o a M ++ grS Y (a 3) f1 ++ gw5 Y o2 a2 M_2) sz = A at C hD ⊢
  have C : mb_CX l p s m meth c ([.ref o, .int x1, .int x2, .int x3, .int x4, .int x5, .int x6] : List Value).toArray cX7_pare 9 (some .int) wsX7_pare RX7 D Y A := C
  obtain ⟨⟨hx, hb, hr, hml, hts, hown, hlocks, hA, hG⟩, hT, hX, hl0⟩ := id C
  have hK := hG.1
  have hS : va_S A s.heap s.heap [] := va_S.rf
  have hl : lv_has ls 9 [(0, .ref o), (1, .int x1), (2, .int x2), (3, .int x3), (4, .int x4), (5, .int x5), (6, .int x6)] := hl
  refine lv_aload_n hx hb dX7_pare_0 rfl (lv_at hl 0 rfl) ?_
  refine lv_iload_n hx hb dX7_pare_1 rfl (lv_at hl 1 rfl) ?_
  have hPc := hP.sub (ws' := gw7 Y o a M ++ grS Y (a 3) f1) [0, 1] rfl
  have hDc := hD.sub (ws' := gw7 Y o a M ++ grS Y (a 3) f1) [0, 1] (by decide) rfl
  refine mbx_cPr (S := mb_m × (Nat → Option Nat) × mb_m) (wf := fun u => gw7 Y o a u.1 ++ grS Y (a 3) u.2.1 ++ gw5 Y o2 a2 u.2.2) (wc := gw7 Y o a M ++ grS Y (a 3) f1) (wr := gw5 Y o2 a2 M_2) C hP hD hS [0, 1] [2, 3] rfl rfl (by decide) (by decide) (vx_runV (As := [.int x1]) (rest := []) ⟨hx, hb, hml, hown, hts⟩ (cnX7_skinOf l C.2.2.2 D Y N o a M f1 _ x1 _ _ hF) (cwV 1 hts gX7_pare_X7_skinOf rfl rfl rfl (by decide +kernel) ⟨Nat.le_of_ble_eq_true rfl, Nat.le_of_ble_eq_true rfl⟩) (mbx_preV C hPc hDc hS 0 rfl rfl) rfl rfl hl.1 rfl (lv_room (Nat.le_of_ble_eq_true rfl)) dX7_pare_2 ⟨Nat.le_of_ble_eq_true rfl, Nat.le_of_ble_eq_true rfl⟩) (Nat.le_of_ble_eq_true rfl) (Nat.le_of_ble_eq_true rfl) (fun E u2 H hF hP hD => ⟨((u2.1), (u2.2), M_2), hF, hP.sub (ws' := gw7 Y o a (u2.1) ++ grS Y (a 3) (u2.2) ++ gw5 Y o2 a2 M_2) [2, 3, 0, 1] rfl, hD.sub (ws' := gw7 Y o a (u2.1) ++ grS Y (a 3) (u2.2) ++ gw5 Y o2 a2 M_2) [2, 3, 0, 1] (by decide) rfl⟩) (fun r2 u2 H locs hF hP hD hS => ?_)
  have hP := hP.sub (ws' := gw7 Y o a (u2.1) ++ grS Y (a 3) (u2.2) ++ gw5 Y o2 a2 M_2) [2, 3, 0, 1] rfl
  have hD := hD.sub (ws' := gw7 Y o a (u2.1) ++ grS Y (a 3) (u2.2) ++ gw5 Y o2 a2 M_2) [2, 3, 0, 1] (by decide) rfl
  refine lv_astore (lv' := [(7, .ref r2), (0, .ref o), (1, .int x1), (2, .int x2), (3, .int x3), (4, .int x4), (5, .int x5), (6, .int x6)]) hx hb dX7_pare_5 hl (by decide) rfl (fun ls hl => ?_)
  refine lv_iload_n hx hb dX7_pare_7 rfl (lv_at hl 3 rfl) ?_
  refine lv_iload hx hb dX7_pare_8 (lv_at hl 5 rfl) ?_
  refine mb_cE hP hS hA (va_runS (As := [.int x2, .int x4]) (rest := []) ⟨hx, hb, hml, hown, hts⟩ (cnX7_isOnGrid l D Y N _ x2 x4 _ hF) (va_cwS 2 hts gX7_pare_X7_isOnGrid rfl rfl rfl (by decide +kernel) ⟨Nat.le_of_ble_eq_true rfl, Nat.le_of_ble_eq_true rfl⟩) (mb_preS (A := A) hG mb_P0 mb_D0) rfl rfl hl.1 rfl (lv_room (Nat.le_of_ble_eq_true rfl)) dX7_pare_10 ⟨Nat.le_of_ble_eq_true rfl, Nat.le_of_ble_eq_true rfl⟩) (fun r10 H locs hF hP hS => ?_)
  refine lv_if_eq (tgt := 41) hx hb dX7_pare_13 (by decide) (fun c_13 => ?_) (fun c_13 => ?_)
  · have hF := hF.1 c_13
    obtain ⟨hq41_7, hF⟩ := hF
    try rw [hq41_7] at hl
    try rw [hq41_7]
    exact wX7_pare_41 C (u2.1) (u2.2) M_2 x2 x3 x4 x5 x6 _ _ _ hF hP hD hS (lv_sub hl [3, 4, 5, 6, 7, 0] rfl)
  · have hF := hF.2 c_13
    refine lv_iload_n hx hb dX7_pare_16 rfl (lv_at hl 4 rfl) ?_
    refine lv_iload hx hb dX7_pare_17 (lv_at hl 6 rfl) ?_
    refine mb_cE hP hS hA (va_runS (As := [.int x3, .int x5]) (rest := []) ⟨hx, hb, hml, hown, hts⟩ (cnX7_isOnGrid l D Y N _ x3 x5 _ hF) (va_cwS 2 hts gX7_pare_X7_isOnGrid rfl rfl rfl (by decide +kernel) ⟨Nat.le_of_ble_eq_true rfl, Nat.le_of_ble_eq_true rfl⟩) (mb_preS (A := A) hG mb_P0 mb_D0) rfl rfl hl.1 rfl (lv_room (Nat.le_of_ble_eq_true rfl)) dX7_pare_19 ⟨Nat.le_of_ble_eq_true rfl, Nat.le_of_ble_eq_true rfl⟩) (fun r19 H locs hF hP hS => ?_)
    refine lv_if_eq (tgt := 41) hx hb dX7_pare_22 (by decide) (fun c_22 => ?_) (fun c_22 => ?_)
    · have hF := hF.1 c_22
      obtain ⟨hq41_7, hF⟩ := hF
      try rw [hq41_7] at hl
      try rw [hq41_7]
      exact wX7_pare_41 C (u2.1) (u2.2) M_2 x2 x3 x4 x5 x6 _ _ _ hF hP hD hS (lv_sub hl [3, 4, 5, 6, 7, 0] rfl)
    · have hF := hF.2 c_22
      refine lv_iload_n hx hb dX7_pare_25 rfl (lv_at hl 3 rfl) ?_
      refine lv_iload_n hx hb dX7_pare_26 rfl (lv_at hl 4 rfl) ?_
      refine lv_icmp_gt (tgt := 41) hx hb dX7_pare_27 (by decide) (fun c_27 => ?_) (fun c_27 => ?_)
      · have hF := hF.1 c_27
        obtain ⟨hq41_7, hF⟩ := hF
        try rw [hq41_7] at hl
        try rw [hq41_7]
        exact wX7_pare_41 C (u2.1) (u2.2) M_2 x2 x3 x4 x5 x6 _ _ _ hF hP hD hS (lv_sub hl [3, 4, 5, 6, 7, 0] rfl)
      · have hF := hF.2 c_27
        refine lv_iload hx hb dX7_pare_30 (lv_at hl 5 rfl) ?_
        refine lv_iload hx hb dX7_pare_32 (lv_at hl 6 rfl) ?_
        refine lv_icmp_gt (tgt := 41) hx hb dX7_pare_34 (by decide) (fun c_34 => ?_) (fun c_34 => ?_)
        · have hF := hF.1 c_34
          obtain ⟨hq41_7, hF⟩ := hF
          try rw [hq41_7] at hl
          try rw [hq41_7]
          exact wX7_pare_41 C (u2.1) (u2.2) M_2 x2 x3 x4 x5 x6 _ _ _ hF hP hD hS (lv_sub hl [3, 4, 5, 6, 7, 0] rfl)
        · have hF := hF.2 c_34
          refine lv_iconst (v := 1) hx hb dX7_pare_37 (by decide) ?_
          refine lv_goto (tgt := 42) hx hb dX7_pare_38 (by decide) ?_
          obtain ⟨hq42_7, hF⟩ := hF
          try rw [hq42_7] at hl
          try rw [hq42_7]
          exact wX7_pare_42 C (u2.1) (u2.2) M_2 x2 x3 x4 x5 x6 (1 : Int32) _ _ _ hF hP hD hS (lv_sub hl [3, 4, 5, 6, 7, 0] rfl)
end
section
noncomputable def PX7_pare_n (N : Nat) (M : mb_m) (f1 : (Nat → Option Nat)) (x1 x2 x3 x4 x5 x6 : Int32) (K : Int32 → (mb_m × (Nat → Option Nat)) → Prop) (KX : String → (mb_m × (Nat → Option Nat)) → Prop) : Prop := PX7_skinOf N M f1 x1 (fun r2 u2 => PX7_isOnGrid N x2 x4 (fun r10 _ => (r10 = 0 → False) ∧ (¬ r10 = 0 → PX7_isOnGrid N x3 x5 (fun r19 _ => (r19 = 0 → False) ∧ (¬ r19 = 0 → (x3 < x2 → False) ∧ (¬ x3 < x2 → (x5 < x4 → False) ∧ (¬ x5 < x4 → False))))))) (fun E u2 => KX E ((u2.1), (u2.2)))
set_option maxHeartbeats 4000000 in
set_option maxRecDepth 100000 in
theorem cnX7_pare_n (l : Launch) (hl0 : l.stackTraces = false) (D : va_G) (Y : Nat → ClassId) (N : Nat) (o : Nat) (a : Nat → Nat) (M : mb_m) (f1 : (Nat → Option Nat)) (sz : Nat) (x1 x2 x3 x4 x5 x6 : Int32) (K : Int32 → (mb_m × (Nat → Option Nat)) → Prop) (KX : String → (mb_m × (Nat → Option Nat)) → Prop) (hF : PX7_pare_n N M f1 x1 x2 x3 x4 x5 x6 K KX) : vx_Met l yX7_pare wsX7_pare ({ frames := 7, cells := 4, slots := 24, locals := 112 } : Room) (va_Pc [.ref o, .int x1, .int x2, .int x3, .int x4, .int x5, .int x6] (mb_BX D Y (gw7 Y o a M ++ grS Y (a 3) f1) sz)) (va_Qi K (fun u t => mb_T D (va_A (gw7 Y o a M ++ grS Y (a 3) f1) sz) (gw7 Y o a u.1 ++ grS Y (a 3) u.2) t) (va_A (gw7 Y o a M ++ grS Y (a 3) f1) sz)) (mb_XC D (va_A (gw7 Y o a M ++ grS Y (a 3) f1) sz) KX (fun u : mb_m × (Nat → Option Nat) => gw7 Y o a u.1 ++ grS Y (a 3) u.2)) 4 24 (va_A (gw7 Y o a M ++ grS Y (a 3) f1) sz) := by
  refine mbx_begin (cc := cX7_pare) (maxL := 9) (ret := (some .int)) hl0 (by decide +kernel) rfl (Nat.le_of_ble_eq_true rfl) ?_
  intro p e s m below meth c ls C hsz hnm hP hD hl
  generalize hAe : va_A (gw7 Y o a M ++ grS Y (a 3) f1) sz = A at C hD ⊢
  have C : mb_CX l p s m meth c ([.ref o, .int x1, .int x2, .int x3, .int x4, .int x5, .int x6] : List Value).toArray cX7_pare 9 (some .int) wsX7_pare RX7 D Y A := C
  obtain ⟨⟨hx, hb, hr, hml, hts, hown, hlocks, hA, hG⟩, hT, hX, hl0⟩ := id C
  have hK := hG.1
  have hS : va_S A s.heap s.heap [] := va_S.rf
  have hl : lv_has ls 9 [(0, .ref o), (1, .int x1), (2, .int x2), (3, .int x3), (4, .int x4), (5, .int x5), (6, .int x6)] := hl
  refine lv_aload_n hx hb dX7_pare_0 rfl (lv_at hl 0 rfl) ?_
  refine lv_iload_n hx hb dX7_pare_1 rfl (lv_at hl 1 rfl) ?_
  have hPc := hP.sub (ws' := gw7 Y o a M ++ grS Y (a 3) f1) [0, 1] rfl
  have hDc := hD.sub (ws' := gw7 Y o a M ++ grS Y (a 3) f1) [0, 1] (by decide) rfl
  refine mbx_cPr (S := mb_m × (Nat → Option Nat)) (wf := fun u => gw7 Y o a u.1 ++ grS Y (a 3) u.2) (wc := gw7 Y o a M ++ grS Y (a 3) f1) (wr := ([] : va_W)) C hP hD hS [0, 1] [] rfl rfl (by decide) (by decide) (vx_runV (As := [.int x1]) (rest := []) ⟨hx, hb, hml, hown, hts⟩ (cnX7_skinOf l C.2.2.2 D Y N o a M f1 _ x1 _ _ hF) (cwV 1 hts gX7_pare_X7_skinOf rfl rfl rfl (by decide +kernel) ⟨Nat.le_of_ble_eq_true rfl, Nat.le_of_ble_eq_true rfl⟩) (mbx_preV C hPc hDc hS 0 rfl rfl) rfl rfl hl.1 rfl (lv_room (Nat.le_of_ble_eq_true rfl)) dX7_pare_2 ⟨Nat.le_of_ble_eq_true rfl, Nat.le_of_ble_eq_true rfl⟩) (Nat.le_of_ble_eq_true rfl) (Nat.le_of_ble_eq_true rfl) (fun E u2 H hF hP hD => ⟨((u2.1), (u2.2)), hF, hP.sub (ws' := gw7 Y o a (u2.1) ++ grS Y (a 3) (u2.2)) [0, 1] rfl, hD.sub (ws' := gw7 Y o a (u2.1) ++ grS Y (a 3) (u2.2)) [0, 1] (by decide) rfl⟩) (fun r2 u2 H locs hF hP hD hS => ?_)
  have hP := hP.sub (ws' := gw7 Y o a (u2.1) ++ grS Y (a 3) (u2.2)) [0, 1] rfl
  have hD := hD.sub (ws' := gw7 Y o a (u2.1) ++ grS Y (a 3) (u2.2)) [0, 1] (by decide) rfl
  refine lv_astore (lv' := [(7, .ref r2), (0, .ref o), (1, .int x1), (2, .int x2), (3, .int x3), (4, .int x4), (5, .int x5), (6, .int x6)]) hx hb dX7_pare_5 hl (by decide) rfl (fun ls hl => ?_)
  refine lv_iload_n hx hb dX7_pare_7 rfl (lv_at hl 3 rfl) ?_
  refine lv_iload hx hb dX7_pare_8 (lv_at hl 5 rfl) ?_
  refine mb_cE hP hS hA (va_runS (As := [.int x2, .int x4]) (rest := []) ⟨hx, hb, hml, hown, hts⟩ (cnX7_isOnGrid l D Y N _ x2 x4 _ hF) (va_cwS 2 hts gX7_pare_X7_isOnGrid rfl rfl rfl (by decide +kernel) ⟨Nat.le_of_ble_eq_true rfl, Nat.le_of_ble_eq_true rfl⟩) (mb_preS (A := A) hG mb_P0 mb_D0) rfl rfl hl.1 rfl (lv_room (Nat.le_of_ble_eq_true rfl)) dX7_pare_10 ⟨Nat.le_of_ble_eq_true rfl, Nat.le_of_ble_eq_true rfl⟩) (fun r10 H locs hF hP hS => ?_)
  refine lv_if_eq (tgt := 41) hx hb dX7_pare_13 (by decide) (fun c_13 => ?_) (fun c_13 => ?_)
  · have hF := hF.1 c_13
    exact hF.elim
  · have hF := hF.2 c_13
    refine lv_iload_n hx hb dX7_pare_16 rfl (lv_at hl 4 rfl) ?_
    refine lv_iload hx hb dX7_pare_17 (lv_at hl 6 rfl) ?_
    refine mb_cE hP hS hA (va_runS (As := [.int x3, .int x5]) (rest := []) ⟨hx, hb, hml, hown, hts⟩ (cnX7_isOnGrid l D Y N _ x3 x5 _ hF) (va_cwS 2 hts gX7_pare_X7_isOnGrid rfl rfl rfl (by decide +kernel) ⟨Nat.le_of_ble_eq_true rfl, Nat.le_of_ble_eq_true rfl⟩) (mb_preS (A := A) hG mb_P0 mb_D0) rfl rfl hl.1 rfl (lv_room (Nat.le_of_ble_eq_true rfl)) dX7_pare_19 ⟨Nat.le_of_ble_eq_true rfl, Nat.le_of_ble_eq_true rfl⟩) (fun r19 H locs hF hP hS => ?_)
    refine lv_if_eq (tgt := 41) hx hb dX7_pare_22 (by decide) (fun c_22 => ?_) (fun c_22 => ?_)
    · have hF := hF.1 c_22
      exact hF.elim
    · have hF := hF.2 c_22
      refine lv_iload_n hx hb dX7_pare_25 rfl (lv_at hl 3 rfl) ?_
      refine lv_iload_n hx hb dX7_pare_26 rfl (lv_at hl 4 rfl) ?_
      refine lv_icmp_gt (tgt := 41) hx hb dX7_pare_27 (by decide) (fun c_27 => ?_) (fun c_27 => ?_)
      · have hF := hF.1 c_27
        exact hF.elim
      · have hF := hF.2 c_27
        refine lv_iload hx hb dX7_pare_30 (lv_at hl 5 rfl) ?_
        refine lv_iload hx hb dX7_pare_32 (lv_at hl 6 rfl) ?_
        refine lv_icmp_gt (tgt := 41) hx hb dX7_pare_34 (by decide) (fun c_34 => ?_) (fun c_34 => ?_)
        · have hF := hF.1 c_34
          exact hF.elim
        · have hF := hF.2 c_34
          refine lv_iconst (v := 1) hx hb dX7_pare_37 (by decide) ?_
          refine lv_goto (tgt := 42) hx hb dX7_pare_38 (by decide) ?_
          exact hF.elim
end
section
noncomputable def PX7_thickAt (N : Nat) (M : mb_m) (f1 : (Nat → Option Nat)) (o2 : Nat) (M_2 : mb_m) (x1 x2 x3 : Int32) (K : Int32 → (mb_m × (Nat → Option Nat) × mb_m) → Prop) (KX : String → (mb_m × (Nat → Option Nat) × mb_m) → Prop) : Prop := PX7_skinOf N M f1 x1 (fun r2 u2 => PX7_isOnGrid N x2 x3 (fun r9 _ => PX7_demandPlace N r9 (fun _ => r2 = o2 ∧ (PX7_cellOf N x2 x3 (fun r22 _ => vp_in r22 64 ∧ (K (M_2 0 r22.toNatClampNeg) ((u2.1), (u2.2), M_2))))) (fun E _ => KX E ((u2.1), (u2.2), M_2)))) (fun E u2 => KX E ((u2.1), (u2.2), M_2))
set_option maxHeartbeats 4000000 in
set_option maxRecDepth 100000 in
theorem cnX7_thickAt (l : Launch) (hl0 : l.stackTraces = false) (D : va_G) (Y : Nat → ClassId) (N : Nat) (o : Nat) (a : Nat → Nat) (M : mb_m) (f1 : (Nat → Option Nat)) (o2 : Nat) (a2 : Nat → Nat) (M_2 : mb_m) (sz : Nat) (x1 x2 x3 : Int32) (K : Int32 → (mb_m × (Nat → Option Nat) × mb_m) → Prop) (KX : String → (mb_m × (Nat → Option Nat) × mb_m) → Prop) (hF : PX7_thickAt N M f1 o2 M_2 x1 x2 x3 K KX) : vx_Met l yX7_thickAt wsX7_thickAt ({ frames := 7, cells := 2, slots := 12, locals := 112 } : Room) (va_Pc [.ref o, .int x1, .int x2, .int x3] (mb_BX D Y (gw7 Y o a M ++ grS Y (a 3) f1 ++ gw5 Y o2 a2 M_2) sz)) (va_Qi K (fun u t => mb_T D (va_A (gw7 Y o a M ++ grS Y (a 3) f1 ++ gw5 Y o2 a2 M_2) sz) (gw7 Y o a u.1 ++ grS Y (a 3) u.2.1 ++ gw5 Y o2 a2 u.2.2) t) (va_A (gw7 Y o a M ++ grS Y (a 3) f1 ++ gw5 Y o2 a2 M_2) sz)) (mb_XC D (va_A (gw7 Y o a M ++ grS Y (a 3) f1 ++ gw5 Y o2 a2 M_2) sz) KX (fun u : mb_m × (Nat → Option Nat) × mb_m => gw7 Y o a u.1 ++ grS Y (a 3) u.2.1 ++ gw5 Y o2 a2 u.2.2)) 2 12 (va_A (gw7 Y o a M ++ grS Y (a 3) f1 ++ gw5 Y o2 a2 M_2) sz) := by
  refine mbx_begin (cc := cX7_thickAt) (maxL := 5) (ret := (some .int)) hl0 (by decide +kernel) rfl (Nat.le_of_ble_eq_true rfl) ?_
  intro p e s m below meth c ls C hsz hnm hP hD hl
  generalize hAe : va_A (gw7 Y o a M ++ grS Y (a 3) f1 ++ gw5 Y o2 a2 M_2) sz = A at C hD ⊢
  have C : mb_CX l p s m meth c ([.ref o, .int x1, .int x2, .int x3] : List Value).toArray cX7_thickAt 5 (some .int) wsX7_thickAt RX7 D Y A := C
  obtain ⟨⟨hx, hb, hr, hml, hts, hown, hlocks, hA, hG⟩, hT, hX, hl0⟩ := id C
  have hK := hG.1
  have hS : va_S A s.heap s.heap [] := va_S.rf
  have hl : lv_has ls 5 [(0, .ref o), (1, .int x1), (2, .int x2), (3, .int x3)] := hl
  refine lv_aload_n hx hb dX7_thickAt_0 rfl (lv_at hl 0 rfl) ?_
  refine lv_iload_n hx hb dX7_thickAt_1 rfl (lv_at hl 1 rfl) ?_
  have hPc := hP.sub (ws' := gw7 Y o a M ++ grS Y (a 3) f1) [0, 1] rfl
  have hDc := hD.sub (ws' := gw7 Y o a M ++ grS Y (a 3) f1) [0, 1] (by decide) rfl
  refine mbx_cPr (S := mb_m × (Nat → Option Nat) × mb_m) (wf := fun u => gw7 Y o a u.1 ++ grS Y (a 3) u.2.1 ++ gw5 Y o2 a2 u.2.2) (wc := gw7 Y o a M ++ grS Y (a 3) f1) (wr := gw5 Y o2 a2 M_2) C hP hD hS [0, 1] [2, 3] rfl rfl (by decide) (by decide) (vx_runV (As := [.int x1]) (rest := []) ⟨hx, hb, hml, hown, hts⟩ (cnX7_skinOf l C.2.2.2 D Y N o a M f1 _ x1 _ _ hF) (cwV 1 hts gX7_thickAt_X7_skinOf rfl rfl rfl (by decide +kernel) ⟨Nat.le_of_ble_eq_true rfl, Nat.le_of_ble_eq_true rfl⟩) (mbx_preV C hPc hDc hS 0 rfl rfl) rfl rfl hl.1 rfl (lv_room (Nat.le_of_ble_eq_true rfl)) dX7_thickAt_2 ⟨Nat.le_of_ble_eq_true rfl, Nat.le_of_ble_eq_true rfl⟩) (Nat.le_of_ble_eq_true rfl) (Nat.le_of_ble_eq_true rfl) (fun E u2 H hF hP hD => ⟨((u2.1), (u2.2), M_2), hF, hP.sub (ws' := gw7 Y o a (u2.1) ++ grS Y (a 3) (u2.2) ++ gw5 Y o2 a2 M_2) [2, 3, 0, 1] rfl, hD.sub (ws' := gw7 Y o a (u2.1) ++ grS Y (a 3) (u2.2) ++ gw5 Y o2 a2 M_2) [2, 3, 0, 1] (by decide) rfl⟩) (fun r2 u2 H locs hF hP hD hS => ?_)
  have hP := hP.sub (ws' := gw7 Y o a (u2.1) ++ grS Y (a 3) (u2.2) ++ gw5 Y o2 a2 M_2) [2, 3, 0, 1] rfl
  have hD := hD.sub (ws' := gw7 Y o a (u2.1) ++ grS Y (a 3) (u2.2) ++ gw5 Y o2 a2 M_2) [2, 3, 0, 1] (by decide) rfl
  refine lv_astore (lv' := [(4, .ref r2), (0, .ref o), (1, .int x1), (2, .int x2), (3, .int x3)]) hx hb dX7_thickAt_5 hl (by decide) rfl (fun ls hl => ?_)
  refine lv_iload_n hx hb dX7_thickAt_7 rfl (lv_at hl 3 rfl) ?_
  refine lv_iload_n hx hb dX7_thickAt_8 rfl (lv_at hl 4 rfl) ?_
  refine mb_cE hP hS hA (va_runS (As := [.int x2, .int x3]) (rest := []) ⟨hx, hb, hml, hown, hts⟩ (cnX7_isOnGrid l D Y N _ x2 x3 _ hF) (va_cwS 2 hts gX7_thickAt_X7_isOnGrid rfl rfl rfl (by decide +kernel) ⟨Nat.le_of_ble_eq_true rfl, Nat.le_of_ble_eq_true rfl⟩) (mb_preS (A := A) hG mb_P0 mb_D0) rfl rfl hl.1 rfl (lv_room (Nat.le_of_ble_eq_true rfl)) dX7_thickAt_9 ⟨Nat.le_of_ble_eq_true rfl, Nat.le_of_ble_eq_true rfl⟩) (fun r9 H locs hF hP hS => ?_)
  refine mbx_cEv (S := mb_m × (Nat → Option Nat) × mb_m) (wf := fun u => gw7 Y o a u.1 ++ grS Y (a 3) u.2.1 ++ gw5 Y o2 a2 u.2.2) C ((u2.1), (u2.2), M_2) hP hD hS (vx_runS (As := [.int r9]) (rest := []) ⟨hx, hb, hml, hown, hts⟩ (cnX7_demandPlace l C.2.2.2 D Y N _ r9 _ _ hF) (va_cwS 1 hts gX7_thickAt_X7_demandPlace rfl rfl rfl (by decide +kernel) ⟨Nat.le_of_ble_eq_true rfl, Nat.le_of_ble_eq_true rfl⟩) (mbx_preS C mb_P0 mb_D0 hS) rfl rfl hl.1 rfl (lv_room (Nat.le_of_ble_eq_true rfl)) dX7_thickAt_12 ⟨Nat.le_of_ble_eq_true rfl, Nat.le_of_ble_eq_true rfl⟩) (Nat.le_of_ble_eq_true rfl) (Nat.le_of_ble_eq_true rfl) (fun H locs hF hP hS => ?_)
  refine lv_aload hx hb dX7_thickAt_15 (lv_at hl 0 rfl) ?_
  obtain ⟨hq17, hF⟩ := hF
  try rw [hq17] at hl
  try rw [hq17]
  refine va_getN (D := D) (ci := 5) (v := .ref (a2 0)) (C := RX5) (T := TX5) (N := 1) hx hb hts (fun _ h9 => List.mem_cons_of_mem _ (List.mem_append_left _ (List.mem_append_left _ (List.mem_append_right _ (h9))))) hown hK hP 2 rfl rfl 0 (by decide) (va_Nw.use rfl (hG.2.1 _ (List.mem_of_getElem? (i := 13) rfl))) (fun _ h9 => h9) rfl dX7_thickAt_17 ?_
  refine lv_iload_n hx hb dX7_thickAt_20 rfl (lv_at hl 3 rfl) ?_
  refine lv_iload_n hx hb dX7_thickAt_21 rfl (lv_at hl 4 rfl) ?_
  refine mb_cE hP hS hA (va_runS (As := [.int x2, .int x3]) (rest := [.ref (a2 0)]) ⟨hx, hb, hml, hown, hts⟩ (cnX7_cellOf l D Y N _ x2 x3 _ hF) (va_cwS 2 hts gX7_thickAt_X7_cellOf rfl rfl rfl (by decide +kernel) ⟨Nat.le_of_ble_eq_true rfl, Nat.le_of_ble_eq_true rfl⟩) (mb_preS (A := A) hG mb_P0 mb_D0) rfl rfl hl.1 rfl (lv_room (Nat.le_of_ble_eq_true rfl)) dX7_thickAt_22 ⟨Nat.le_of_ble_eq_true rfl, Nat.le_of_ble_eq_true rfl⟩) (fun r22 H locs hF hP hS => ?_)
  obtain ⟨hi25, hF⟩ := hF
  refine va_iald hx hb hK hP 3 0 rfl rfl hi25 dX7_thickAt_25 ?_
  refine vx_ret ?_
  exact mb_ri (S := mb_m × (Nat → Option Nat) × mb_m) (mc := 2) (ms := 12) (wf := fun u => gw7 Y o a u.1 ++ grS Y (a 3) u.2.1 ++ gw5 Y o2 a2 u.2.2) C.1 rfl (u := ((u2.1), (u2.2), M_2)) hF hP hD hS dX7_thickAt_26 (Nat.le_of_ble_eq_true rfl) (Nat.le_of_ble_eq_true rfl)
end
section
noncomputable def PX7_thickAt_n (N : Nat) (M : mb_m) (f1 : (Nat → Option Nat)) (x1 x2 x3 : Int32) (K : Int32 → (mb_m × (Nat → Option Nat)) → Prop) (KX : String → (mb_m × (Nat → Option Nat)) → Prop) : Prop := PX7_skinOf N M f1 x1 (fun r2 u2 => PX7_isOnGrid N x2 x3 (fun r9 _ => PX7_demandPlace N r9 (fun _ => False) (fun E _ => KX E ((u2.1), (u2.2))))) (fun E u2 => KX E ((u2.1), (u2.2)))
set_option maxHeartbeats 4000000 in
set_option maxRecDepth 100000 in
theorem cnX7_thickAt_n (l : Launch) (hl0 : l.stackTraces = false) (D : va_G) (Y : Nat → ClassId) (N : Nat) (o : Nat) (a : Nat → Nat) (M : mb_m) (f1 : (Nat → Option Nat)) (sz : Nat) (x1 x2 x3 : Int32) (K : Int32 → (mb_m × (Nat → Option Nat)) → Prop) (KX : String → (mb_m × (Nat → Option Nat)) → Prop) (hF : PX7_thickAt_n N M f1 x1 x2 x3 K KX) : vx_Met l yX7_thickAt wsX7_thickAt ({ frames := 7, cells := 2, slots := 12, locals := 112 } : Room) (va_Pc [.ref o, .int x1, .int x2, .int x3] (mb_BX D Y (gw7 Y o a M ++ grS Y (a 3) f1) sz)) (va_Qi K (fun u t => mb_T D (va_A (gw7 Y o a M ++ grS Y (a 3) f1) sz) (gw7 Y o a u.1 ++ grS Y (a 3) u.2) t) (va_A (gw7 Y o a M ++ grS Y (a 3) f1) sz)) (mb_XC D (va_A (gw7 Y o a M ++ grS Y (a 3) f1) sz) KX (fun u : mb_m × (Nat → Option Nat) => gw7 Y o a u.1 ++ grS Y (a 3) u.2)) 2 12 (va_A (gw7 Y o a M ++ grS Y (a 3) f1) sz) := by
  refine mbx_begin (cc := cX7_thickAt) (maxL := 5) (ret := (some .int)) hl0 (by decide +kernel) rfl (Nat.le_of_ble_eq_true rfl) ?_
  intro p e s m below meth c ls C hsz hnm hP hD hl
  generalize hAe : va_A (gw7 Y o a M ++ grS Y (a 3) f1) sz = A at C hD ⊢
  have C : mb_CX l p s m meth c ([.ref o, .int x1, .int x2, .int x3] : List Value).toArray cX7_thickAt 5 (some .int) wsX7_thickAt RX7 D Y A := C
  obtain ⟨⟨hx, hb, hr, hml, hts, hown, hlocks, hA, hG⟩, hT, hX, hl0⟩ := id C
  have hK := hG.1
  have hS : va_S A s.heap s.heap [] := va_S.rf
  have hl : lv_has ls 5 [(0, .ref o), (1, .int x1), (2, .int x2), (3, .int x3)] := hl
  refine lv_aload_n hx hb dX7_thickAt_0 rfl (lv_at hl 0 rfl) ?_
  refine lv_iload_n hx hb dX7_thickAt_1 rfl (lv_at hl 1 rfl) ?_
  have hPc := hP.sub (ws' := gw7 Y o a M ++ grS Y (a 3) f1) [0, 1] rfl
  have hDc := hD.sub (ws' := gw7 Y o a M ++ grS Y (a 3) f1) [0, 1] (by decide) rfl
  refine mbx_cPr (S := mb_m × (Nat → Option Nat)) (wf := fun u => gw7 Y o a u.1 ++ grS Y (a 3) u.2) (wc := gw7 Y o a M ++ grS Y (a 3) f1) (wr := ([] : va_W)) C hP hD hS [0, 1] [] rfl rfl (by decide) (by decide) (vx_runV (As := [.int x1]) (rest := []) ⟨hx, hb, hml, hown, hts⟩ (cnX7_skinOf l C.2.2.2 D Y N o a M f1 _ x1 _ _ hF) (cwV 1 hts gX7_thickAt_X7_skinOf rfl rfl rfl (by decide +kernel) ⟨Nat.le_of_ble_eq_true rfl, Nat.le_of_ble_eq_true rfl⟩) (mbx_preV C hPc hDc hS 0 rfl rfl) rfl rfl hl.1 rfl (lv_room (Nat.le_of_ble_eq_true rfl)) dX7_thickAt_2 ⟨Nat.le_of_ble_eq_true rfl, Nat.le_of_ble_eq_true rfl⟩) (Nat.le_of_ble_eq_true rfl) (Nat.le_of_ble_eq_true rfl) (fun E u2 H hF hP hD => ⟨((u2.1), (u2.2)), hF, hP.sub (ws' := gw7 Y o a (u2.1) ++ grS Y (a 3) (u2.2)) [0, 1] rfl, hD.sub (ws' := gw7 Y o a (u2.1) ++ grS Y (a 3) (u2.2)) [0, 1] (by decide) rfl⟩) (fun r2 u2 H locs hF hP hD hS => ?_)
  have hP := hP.sub (ws' := gw7 Y o a (u2.1) ++ grS Y (a 3) (u2.2)) [0, 1] rfl
  have hD := hD.sub (ws' := gw7 Y o a (u2.1) ++ grS Y (a 3) (u2.2)) [0, 1] (by decide) rfl
  refine lv_astore (lv' := [(4, .ref r2), (0, .ref o), (1, .int x1), (2, .int x2), (3, .int x3)]) hx hb dX7_thickAt_5 hl (by decide) rfl (fun ls hl => ?_)
  refine lv_iload_n hx hb dX7_thickAt_7 rfl (lv_at hl 3 rfl) ?_
  refine lv_iload_n hx hb dX7_thickAt_8 rfl (lv_at hl 4 rfl) ?_
  refine mb_cE hP hS hA (va_runS (As := [.int x2, .int x3]) (rest := []) ⟨hx, hb, hml, hown, hts⟩ (cnX7_isOnGrid l D Y N _ x2 x3 _ hF) (va_cwS 2 hts gX7_thickAt_X7_isOnGrid rfl rfl rfl (by decide +kernel) ⟨Nat.le_of_ble_eq_true rfl, Nat.le_of_ble_eq_true rfl⟩) (mb_preS (A := A) hG mb_P0 mb_D0) rfl rfl hl.1 rfl (lv_room (Nat.le_of_ble_eq_true rfl)) dX7_thickAt_9 ⟨Nat.le_of_ble_eq_true rfl, Nat.le_of_ble_eq_true rfl⟩) (fun r9 H locs hF hP hS => ?_)
  refine mbx_cEv (S := mb_m × (Nat → Option Nat)) (wf := fun u => gw7 Y o a u.1 ++ grS Y (a 3) u.2) C ((u2.1), (u2.2)) hP hD hS (vx_runS (As := [.int r9]) (rest := []) ⟨hx, hb, hml, hown, hts⟩ (cnX7_demandPlace l C.2.2.2 D Y N _ r9 _ _ hF) (va_cwS 1 hts gX7_thickAt_X7_demandPlace rfl rfl rfl (by decide +kernel) ⟨Nat.le_of_ble_eq_true rfl, Nat.le_of_ble_eq_true rfl⟩) (mbx_preS C mb_P0 mb_D0 hS) rfl rfl hl.1 rfl (lv_room (Nat.le_of_ble_eq_true rfl)) dX7_thickAt_12 ⟨Nat.le_of_ble_eq_true rfl, Nat.le_of_ble_eq_true rfl⟩) (Nat.le_of_ble_eq_true rfl) (Nat.le_of_ble_eq_true rfl) (fun H locs hF hP hS => ?_)
  refine lv_aload hx hb dX7_thickAt_15 (lv_at hl 0 rfl) ?_
  exact hF.elim
end
section
noncomputable def PX7_tooThick (N : Nat) (M : mb_m) (f1 : (Nat → Option Nat)) (o2 : Nat) (M_2 : mb_m) (x1 : Int32) (K : Int32 → (mb_m × (Nat → Option Nat) × mb_m) → Prop) (KX : String → (mb_m × (Nat → Option Nat) × mb_m) → Prop) : Prop := PX7_skinOf N M f1 x1 (fun r2 u2 => r2 = o2 ∧ (PX5_placesTooThick N M_2  (fun r5 u5 => K r5 ((u2.1), (u2.2), u5)))) (fun E u2 => KX E ((u2.1), (u2.2), M_2))
set_option maxHeartbeats 4000000 in
set_option maxRecDepth 100000 in
theorem cnX7_tooThick (l : Launch) (hl0 : l.stackTraces = false) (D : va_G) (Y : Nat → ClassId) (N : Nat) (o : Nat) (a : Nat → Nat) (M : mb_m) (f1 : (Nat → Option Nat)) (o2 : Nat) (a2 : Nat → Nat) (M_2 : mb_m) (sz : Nat) (x1 : Int32) (K : Int32 → (mb_m × (Nat → Option Nat) × mb_m) → Prop) (KX : String → (mb_m × (Nat → Option Nat) × mb_m) → Prop) (hF : PX7_tooThick N M f1 o2 M_2 x1 K KX) : vx_Met l yX7_tooThick wsX7_tooThick ({ frames := 7, cells := 1, slots := 6, locals := 112 } : Room) (va_Pc [.ref o, .int x1] (mb_BX D Y (gw7 Y o a M ++ grS Y (a 3) f1 ++ gw5 Y o2 a2 M_2) sz)) (va_Qi K (fun u t => mb_T D (va_A (gw7 Y o a M ++ grS Y (a 3) f1 ++ gw5 Y o2 a2 M_2) sz) (gw7 Y o a u.1 ++ grS Y (a 3) u.2.1 ++ gw5 Y o2 a2 u.2.2) t) (va_A (gw7 Y o a M ++ grS Y (a 3) f1 ++ gw5 Y o2 a2 M_2) sz)) (mb_XC D (va_A (gw7 Y o a M ++ grS Y (a 3) f1 ++ gw5 Y o2 a2 M_2) sz) KX (fun u : mb_m × (Nat → Option Nat) × mb_m => gw7 Y o a u.1 ++ grS Y (a 3) u.2.1 ++ gw5 Y o2 a2 u.2.2)) 1 6 (va_A (gw7 Y o a M ++ grS Y (a 3) f1 ++ gw5 Y o2 a2 M_2) sz) := by
  refine mbx_begin (cc := cX7_tooThick) (maxL := 2) (ret := (some .int)) hl0 (by decide +kernel) rfl (Nat.le_of_ble_eq_true rfl) ?_
  intro p e s m below meth c ls C hsz hnm hP hD hl
  generalize hAe : va_A (gw7 Y o a M ++ grS Y (a 3) f1 ++ gw5 Y o2 a2 M_2) sz = A at C hD ⊢
  have C : mb_CX l p s m meth c ([.ref o, .int x1] : List Value).toArray cX7_tooThick 2 (some .int) wsX7_tooThick RX7 D Y A := C
  obtain ⟨⟨hx, hb, hr, hml, hts, hown, hlocks, hA, hG⟩, hT, hX, hl0⟩ := id C
  have hK := hG.1
  have hS : va_S A s.heap s.heap [] := va_S.rf
  have hl : lv_has ls 2 [(0, .ref o), (1, .int x1)] := hl
  refine lv_aload_n hx hb dX7_tooThick_0 rfl (lv_at hl 0 rfl) ?_
  refine lv_iload_n hx hb dX7_tooThick_1 rfl (lv_at hl 1 rfl) ?_
  have hPc := hP.sub (ws' := gw7 Y o a M ++ grS Y (a 3) f1) [0, 1] rfl
  have hDc := hD.sub (ws' := gw7 Y o a M ++ grS Y (a 3) f1) [0, 1] (by decide) rfl
  refine mbx_cPr (S := mb_m × (Nat → Option Nat) × mb_m) (wf := fun u => gw7 Y o a u.1 ++ grS Y (a 3) u.2.1 ++ gw5 Y o2 a2 u.2.2) (wc := gw7 Y o a M ++ grS Y (a 3) f1) (wr := gw5 Y o2 a2 M_2) C hP hD hS [0, 1] [2, 3] rfl rfl (by decide) (by decide) (vx_runV (As := [.int x1]) (rest := []) ⟨hx, hb, hml, hown, hts⟩ (cnX7_skinOf l C.2.2.2 D Y N o a M f1 _ x1 _ _ hF) (cwV 1 hts gX7_tooThick_X7_skinOf rfl rfl rfl (by decide +kernel) ⟨Nat.le_of_ble_eq_true rfl, Nat.le_of_ble_eq_true rfl⟩) (mbx_preV C hPc hDc hS 0 rfl rfl) rfl rfl hl.1 rfl (lv_room (Nat.le_of_ble_eq_true rfl)) dX7_tooThick_2 ⟨Nat.le_of_ble_eq_true rfl, Nat.le_of_ble_eq_true rfl⟩) (Nat.le_of_ble_eq_true rfl) (Nat.le_of_ble_eq_true rfl) (fun E u2 H hF hP hD => ⟨((u2.1), (u2.2), M_2), hF, hP.sub (ws' := gw7 Y o a (u2.1) ++ grS Y (a 3) (u2.2) ++ gw5 Y o2 a2 M_2) [2, 3, 0, 1] rfl, hD.sub (ws' := gw7 Y o a (u2.1) ++ grS Y (a 3) (u2.2) ++ gw5 Y o2 a2 M_2) [2, 3, 0, 1] (by decide) rfl⟩) (fun r2 u2 H locs hF hP hD hS => ?_)
  have hP := hP.sub (ws' := gw7 Y o a (u2.1) ++ grS Y (a 3) (u2.2) ++ gw5 Y o2 a2 M_2) [2, 3, 0, 1] rfl
  have hD := hD.sub (ws' := gw7 Y o a (u2.1) ++ grS Y (a 3) (u2.2) ++ gw5 Y o2 a2 M_2) [2, 3, 0, 1] (by decide) rfl
  obtain ⟨hq5, hF⟩ := hF
  try rw [hq5] at hl
  try rw [hq5]
  have hPc := hP.sub (ws' := gw5 Y o2 a2 M_2) [2, 3] rfl
  have hDc := hD.sub (ws' := gw5 Y o2 a2 M_2) [2, 3] (by decide) rfl
  refine mb_cP (wc := gw5 Y o2 a2 M_2) (wr := gw7 Y o a (u2.1) ++ grS Y (a 3) (u2.2)) hP hD hS hA [2, 3] [0, 1] rfl rfl (by decide) (by decide) (va_runV (As := []) (rest := []) ⟨hx, hb, hml, hown, hts⟩ (cnX5_placesTooThick l D Y N o2 a2 M_2 _  _ hF) (cwV 0 hts gX7_tooThick_X5_placesTooThick rfl rfl rfl (by decide +kernel) ⟨Nat.le_of_ble_eq_true rfl, Nat.le_of_ble_eq_true rfl⟩) (mb_preV hG hPc hDc 0 rfl rfl) rfl rfl hl.1 rfl (lv_room (Nat.le_of_ble_eq_true rfl)) dX7_tooThick_5 ⟨Nat.le_of_ble_eq_true rfl, Nat.le_of_ble_eq_true rfl⟩) (fun r5 u5 H locs hF hP hD hS => ?_)
  have hP := hP.sub (ws' := gw7 Y o a (u2.1) ++ grS Y (a 3) (u2.2) ++ gw5 Y o2 a2 u5) [0, 1, 2, 3] rfl
  have hD := hD.sub (ws' := gw7 Y o a (u2.1) ++ grS Y (a 3) (u2.2) ++ gw5 Y o2 a2 u5) [0, 1, 2, 3] (by decide) rfl
  refine vx_ret ?_
  exact mb_ri (S := mb_m × (Nat → Option Nat) × mb_m) (mc := 1) (ms := 6) (wf := fun u => gw7 Y o a u.1 ++ grS Y (a 3) u.2.1 ++ gw5 Y o2 a2 u.2.2) C.1 rfl (u := ((u2.1), (u2.2), u5)) hF hP hD hS dX7_tooThick_8 (Nat.le_of_ble_eq_true rfl) (Nat.le_of_ble_eq_true rfl)
end
section
noncomputable def PX7_tooThick_n (N : Nat) (M : mb_m) (f1 : (Nat → Option Nat)) (x1 : Int32) (K : Int32 → (mb_m × (Nat → Option Nat)) → Prop) (KX : String → (mb_m × (Nat → Option Nat)) → Prop) : Prop := PX7_skinOf N M f1 x1 (fun r2 u2 => False) (fun E u2 => KX E ((u2.1), (u2.2)))
set_option maxHeartbeats 4000000 in
set_option maxRecDepth 100000 in
theorem cnX7_tooThick_n (l : Launch) (hl0 : l.stackTraces = false) (D : va_G) (Y : Nat → ClassId) (N : Nat) (o : Nat) (a : Nat → Nat) (M : mb_m) (f1 : (Nat → Option Nat)) (sz : Nat) (x1 : Int32) (K : Int32 → (mb_m × (Nat → Option Nat)) → Prop) (KX : String → (mb_m × (Nat → Option Nat)) → Prop) (hF : PX7_tooThick_n N M f1 x1 K KX) : vx_Met l yX7_tooThick wsX7_tooThick ({ frames := 7, cells := 1, slots := 6, locals := 112 } : Room) (va_Pc [.ref o, .int x1] (mb_BX D Y (gw7 Y o a M ++ grS Y (a 3) f1) sz)) (va_Qi K (fun u t => mb_T D (va_A (gw7 Y o a M ++ grS Y (a 3) f1) sz) (gw7 Y o a u.1 ++ grS Y (a 3) u.2) t) (va_A (gw7 Y o a M ++ grS Y (a 3) f1) sz)) (mb_XC D (va_A (gw7 Y o a M ++ grS Y (a 3) f1) sz) KX (fun u : mb_m × (Nat → Option Nat) => gw7 Y o a u.1 ++ grS Y (a 3) u.2)) 1 6 (va_A (gw7 Y o a M ++ grS Y (a 3) f1) sz) := by
  refine mbx_begin (cc := cX7_tooThick) (maxL := 2) (ret := (some .int)) hl0 (by decide +kernel) rfl (Nat.le_of_ble_eq_true rfl) ?_
  intro p e s m below meth c ls C hsz hnm hP hD hl
  generalize hAe : va_A (gw7 Y o a M ++ grS Y (a 3) f1) sz = A at C hD ⊢
  have C : mb_CX l p s m meth c ([.ref o, .int x1] : List Value).toArray cX7_tooThick 2 (some .int) wsX7_tooThick RX7 D Y A := C
  obtain ⟨⟨hx, hb, hr, hml, hts, hown, hlocks, hA, hG⟩, hT, hX, hl0⟩ := id C
  have hK := hG.1
  have hS : va_S A s.heap s.heap [] := va_S.rf
  have hl : lv_has ls 2 [(0, .ref o), (1, .int x1)] := hl
  refine lv_aload_n hx hb dX7_tooThick_0 rfl (lv_at hl 0 rfl) ?_
  refine lv_iload_n hx hb dX7_tooThick_1 rfl (lv_at hl 1 rfl) ?_
  have hPc := hP.sub (ws' := gw7 Y o a M ++ grS Y (a 3) f1) [0, 1] rfl
  have hDc := hD.sub (ws' := gw7 Y o a M ++ grS Y (a 3) f1) [0, 1] (by decide) rfl
  refine mbx_cPr (S := mb_m × (Nat → Option Nat)) (wf := fun u => gw7 Y o a u.1 ++ grS Y (a 3) u.2) (wc := gw7 Y o a M ++ grS Y (a 3) f1) (wr := ([] : va_W)) C hP hD hS [0, 1] [] rfl rfl (by decide) (by decide) (vx_runV (As := [.int x1]) (rest := []) ⟨hx, hb, hml, hown, hts⟩ (cnX7_skinOf l C.2.2.2 D Y N o a M f1 _ x1 _ _ hF) (cwV 1 hts gX7_tooThick_X7_skinOf rfl rfl rfl (by decide +kernel) ⟨Nat.le_of_ble_eq_true rfl, Nat.le_of_ble_eq_true rfl⟩) (mbx_preV C hPc hDc hS 0 rfl rfl) rfl rfl hl.1 rfl (lv_room (Nat.le_of_ble_eq_true rfl)) dX7_tooThick_2 ⟨Nat.le_of_ble_eq_true rfl, Nat.le_of_ble_eq_true rfl⟩) (Nat.le_of_ble_eq_true rfl) (Nat.le_of_ble_eq_true rfl) (fun E u2 H hF hP hD => ⟨((u2.1), (u2.2)), hF, hP.sub (ws' := gw7 Y o a (u2.1) ++ grS Y (a 3) (u2.2)) [0, 1] rfl, hD.sub (ws' := gw7 Y o a (u2.1) ++ grS Y (a 3) (u2.2)) [0, 1] (by decide) rfl⟩) (fun r2 u2 H locs hF hP hD hS => ?_)
  have hP := hP.sub (ws' := gw7 Y o a (u2.1) ++ grS Y (a 3) (u2.2)) [0, 1] rfl
  have hD := hD.sub (ws' := gw7 Y o a (u2.1) ++ grS Y (a 3) (u2.2)) [0, 1] (by decide) rfl
  exact hF.elim
end
section
noncomputable def PX7_repair_54 (N : Nat) (K : Int32 → (mb_m × (Nat → Option Nat) × mb_m × mb_m) → Prop) (KX : String → (mb_m × (Nat → Option Nat) × mb_m × mb_m) → Prop) (M : mb_m) (f1 : (Nat → Option Nat)) (M_2 : mb_m) (M_3 : mb_m) (x2 y0 : Int32) : Prop := PX7_demandState N y0 (fun _ => PX3_add N M_3 x2 (fun u62 => K (u62 1 0) (M, f1, M_2, u62))) (fun E _ => KX E (M, f1, M_2, M_3))
set_option maxHeartbeats 4000000 in
set_option maxRecDepth 100000 in
theorem wX7_repair_54 {p : Program} {l : Launch} {e : Env} {s : State} {m : MethodId} {below : List Frame} {meth : Method} {c : Code} {args : Array Value} {D : va_G} {Y : Nat → ClassId} {A : Nat → Prop} {o : Nat} {a : Nat → Nat} {o2 : Nat} {a2 : Nat → Nat} {a3 : Nat → Nat} {N : Nat} {K : Int32 → (mb_m × (Nat → Option Nat) × mb_m × mb_m) → Prop} {KX : String → (mb_m × (Nat → Option Nat) × mb_m × mb_m) → Prop} (C : mb_CX l p s m meth c args cX7_repair 4 (some .int) wsX7_repair RX7 D Y A) : ∀ (M : mb_m) (f1 : (Nat → Option Nat)) (M_2 : mb_m) (M_3 : mb_m) (x2 y0 : Int32) (H : Heap) (locs : List Loc) (ls : Array Slot), PX7_repair_54 N K KX  M f1 M_2 M_3 x2 y0 → va_P D vwCl (gw7 Y o a M ++ grB Y (a 2) f1 ++ gw1 Y o2 a2 M_2 ++ gw3 Y (a2 1) a3 M_3) H → va_D A (gw7 Y o a M ++ grB Y (a 2) f1 ++ gw1 Y o2 a2 M_2 ++ gw3 Y (a2 1) a3 M_3) → va_S A s.heap H locs → lv_has ls 4 [(2, .int x2), (3, .ref o2)] → W p l e ({ frames := 7, cells := 4, slots := 24, locals := 112 } : Room) s m args below meth c H locs 3 18 (vx_MQ below (va_Qi K (fun u t => mb_T D A (gw7 Y o a u.1 ++ grB Y (a 2) u.2.1 ++ gw1 Y o2 a2 u.2.2.1 ++ gw3 Y (a2 1) a3 u.2.2.2) t) A) (mb_XC D A KX (fun u : mb_m × (Nat → Option Nat) × mb_m × mb_m => gw7 Y o a u.1 ++ grB Y (a 2) u.2.1 ++ gw1 Y o2 a2 u.2.2.1 ++ gw3 Y (a2 1) a3 u.2.2.2)) args s 4 24 A) (F0 m 54 ls [.int y0]) := by
  obtain ⟨⟨hx, hb, hr, hml, hts, hown, hlocks, hA, hG⟩, hT, hX, hl0⟩ := id C
  have hK := hG.1
  intro M f1 M_2 M_3 x2 y0 H locs ls hF hP hD hS hl
  refine mbx_cEv (S := mb_m × (Nat → Option Nat) × mb_m × mb_m) (wf := fun u => gw7 Y o a u.1 ++ grB Y (a 2) u.2.1 ++ gw1 Y o2 a2 u.2.2.1 ++ gw3 Y (a2 1) a3 u.2.2.2) C (M, f1, M_2, M_3) hP hD hS (vx_runS (As := [.int y0]) (rest := []) ⟨hx, hb, hml, hown, hts⟩ (cnX7_demandState l C.2.2.2 D Y N _ y0 _ _ hF) (va_cwS 1 hts gX7_repair_X7_demandState rfl rfl rfl (by decide +kernel) ⟨Nat.le_of_ble_eq_true rfl, Nat.le_of_ble_eq_true rfl⟩) (mbx_preS C mb_P0 mb_D0 hS) rfl rfl hl.1 rfl (lv_room (Nat.le_of_ble_eq_true rfl)) dX7_repair_54 ⟨Nat.le_of_ble_eq_true rfl, Nat.le_of_ble_eq_true rfl⟩) (Nat.le_of_ble_eq_true rfl) (Nat.le_of_ble_eq_true rfl) (fun H locs hF hP hS => ?_)
  refine lv_aload_n hx hb dX7_repair_57 rfl (lv_at hl 1 rfl) ?_
  refine va_getN (D := D) (ci := 1) (v := .ref (a2 1)) (C := RX1) (T := TX1) (N := 7) hx hb hts (fun _ h9 => List.mem_cons_of_mem _ (List.mem_append_left _ (List.mem_append_left _ (List.mem_append_left _ (List.mem_append_left _ (List.mem_append_left _ (List.mem_append_right _ (h9)))))))) hown hK hP 2 rfl rfl 1 (by decide) (va_Nw.use rfl (hG.2.1 _ (List.mem_of_getElem? (i := 15) rfl))) (fun _ h9 => h9) rfl dX7_repair_58 ?_
  refine lv_iload_n hx hb dX7_repair_61 rfl (lv_at hl 0 rfl) ?_
  have hPc := hP.sub (ws' := gw3 Y (a2 1) a3 M_3) [3, 4] rfl
  have hDc := hD.sub (ws' := gw3 Y (a2 1) a3 M_3) [3, 4] (by decide) rfl
  refine mb_cPv (wc := gw3 Y (a2 1) a3 M_3) (wr := gw7 Y o a M ++ grB Y (a 2) f1 ++ gw1 Y o2 a2 M_2) hP hD hS hA [3, 4] [0, 1, 2] rfl rfl (by decide) (by decide) (va_runV (As := [.int x2]) (rest := []) ⟨hx, hb, hml, hown, hts⟩ (cnX3_add l D Y N (a2 1) a3 M_3 _ x2 _ hF) (cwV 1 hts gX7_repair_X3_add rfl rfl rfl (by decide +kernel) ⟨Nat.le_of_ble_eq_true rfl, Nat.le_of_ble_eq_true rfl⟩) (mb_preV hG hPc hDc 0 rfl rfl) rfl rfl hl.1 rfl (lv_room (Nat.le_of_ble_eq_true rfl)) dX7_repair_62 ⟨Nat.le_of_ble_eq_true rfl, Nat.le_of_ble_eq_true rfl⟩) (fun u62 H locs hF hP hD hS => ?_)
  have hP := hP.sub (ws' := gw7 Y o a M ++ grB Y (a 2) f1 ++ gw1 Y o2 a2 M_2 ++ gw3 Y (a2 1) a3 u62) [0, 1, 2, 3, 4] rfl
  have hD := hD.sub (ws' := gw7 Y o a M ++ grB Y (a 2) f1 ++ gw1 Y o2 a2 M_2 ++ gw3 Y (a2 1) a3 u62) [0, 1, 2, 3, 4] (by decide) rfl
  refine lv_aload_n hx hb dX7_repair_65 rfl (lv_at hl 1 rfl) ?_
  refine va_getN (D := D) (ci := 1) (v := .ref (a2 1)) (C := RX1) (T := TX1) (N := 7) hx hb hts (fun _ h9 => List.mem_cons_of_mem _ (List.mem_append_left _ (List.mem_append_left _ (List.mem_append_left _ (List.mem_append_left _ (List.mem_append_left _ (List.mem_append_right _ (h9)))))))) hown hK hP 2 rfl rfl 1 (by decide) (va_Nw.use rfl (hG.2.1 _ (List.mem_of_getElem? (i := 15) rfl))) (fun _ h9 => h9) rfl dX7_repair_66 ?_
  refine va_getN (D := D) (ci := 3) (v := .int (u62 1 0)) (C := RX3) (T := TX3) (N := 2) hx hb hts (fun _ h9 => List.mem_cons_of_mem _ (List.mem_append_left _ (List.mem_append_left _ (List.mem_append_left _ (List.mem_append_left _ (List.mem_append_right _ (h9))))))) hown hK hP 3 rfl rfl 1 (by decide) (va_Nw.use rfl (hG.2.1 _ (List.mem_of_getElem? (i := 16) rfl))) (fun _ h9 => h9) rfl dX7_repair_69 ?_
  refine vx_ret ?_
  exact mb_ri (S := mb_m × (Nat → Option Nat) × mb_m × mb_m) (mc := 4) (ms := 24) (wf := fun u => gw7 Y o a u.1 ++ grB Y (a 2) u.2.1 ++ gw1 Y o2 a2 u.2.2.1 ++ gw3 Y (a2 1) a3 u.2.2.2) C.1 rfl (u := (M, f1, M_2, u62)) hF hP hD hS dX7_repair_72 (Nat.le_of_ble_eq_true rfl) (Nat.le_of_ble_eq_true rfl)
noncomputable def PX7_repair_34 (N : Nat) (K : Int32 → (mb_m × (Nat → Option Nat) × mb_m × mb_m) → Prop) (KX : String → (mb_m × (Nat → Option Nat) × mb_m × mb_m) → Prop) (M : mb_m) (f1 : (Nat → Option Nat)) (M_2 : mb_m) (M_3 : mb_m) (x2 y0 : Int32) : Prop := PX7_demandState N y0 (fun _ => ((20 : Int32) ≤ (M_3 1 0) → PX7_repair_54 N K KX M f1 M_2 M_3 x2 (0 : Int32)) ∧ (¬ (20 : Int32) ≤ (M_3 1 0) → PX7_repair_54 N K KX M f1 M_2 M_3 x2 (1 : Int32))) (fun E _ => KX E (M, f1, M_2, M_3))
set_option maxHeartbeats 4000000 in
set_option maxRecDepth 100000 in
theorem wX7_repair_34 {p : Program} {l : Launch} {e : Env} {s : State} {m : MethodId} {below : List Frame} {meth : Method} {c : Code} {args : Array Value} {D : va_G} {Y : Nat → ClassId} {A : Nat → Prop} {o : Nat} {a : Nat → Nat} {o2 : Nat} {a2 : Nat → Nat} {a3 : Nat → Nat} {N : Nat} {K : Int32 → (mb_m × (Nat → Option Nat) × mb_m × mb_m) → Prop} {KX : String → (mb_m × (Nat → Option Nat) × mb_m × mb_m) → Prop} (C : mb_CX l p s m meth c args cX7_repair 4 (some .int) wsX7_repair RX7 D Y A) : ∀ (M : mb_m) (f1 : (Nat → Option Nat)) (M_2 : mb_m) (M_3 : mb_m) (x2 y0 : Int32) (H : Heap) (locs : List Loc) (ls : Array Slot), PX7_repair_34 N K KX  M f1 M_2 M_3 x2 y0 → va_P D vwCl (gw7 Y o a M ++ grB Y (a 2) f1 ++ gw1 Y o2 a2 M_2 ++ gw3 Y (a2 1) a3 M_3) H → va_D A (gw7 Y o a M ++ grB Y (a 2) f1 ++ gw1 Y o2 a2 M_2 ++ gw3 Y (a2 1) a3 M_3) → va_S A s.heap H locs → lv_has ls 4 [(2, .int x2), (3, .ref o2)] → W p l e ({ frames := 7, cells := 4, slots := 24, locals := 112 } : Room) s m args below meth c H locs 2 12 (vx_MQ below (va_Qi K (fun u t => mb_T D A (gw7 Y o a u.1 ++ grB Y (a 2) u.2.1 ++ gw1 Y o2 a2 u.2.2.1 ++ gw3 Y (a2 1) a3 u.2.2.2) t) A) (mb_XC D A KX (fun u : mb_m × (Nat → Option Nat) × mb_m × mb_m => gw7 Y o a u.1 ++ grB Y (a 2) u.2.1 ++ gw1 Y o2 a2 u.2.2.1 ++ gw3 Y (a2 1) a3 u.2.2.2)) args s 4 24 A) (F0 m 34 ls [.int y0]) := by
  obtain ⟨⟨hx, hb, hr, hml, hts, hown, hlocks, hA, hG⟩, hT, hX, hl0⟩ := id C
  have hK := hG.1
  intro M f1 M_2 M_3 x2 y0 H locs ls hF hP hD hS hl
  refine mbx_cEv (S := mb_m × (Nat → Option Nat) × mb_m × mb_m) (wf := fun u => gw7 Y o a u.1 ++ grB Y (a 2) u.2.1 ++ gw1 Y o2 a2 u.2.2.1 ++ gw3 Y (a2 1) a3 u.2.2.2) C (M, f1, M_2, M_3) hP hD hS (vx_runS (As := [.int y0]) (rest := []) ⟨hx, hb, hml, hown, hts⟩ (cnX7_demandState l C.2.2.2 D Y N _ y0 _ _ hF) (va_cwS 1 hts gX7_repair_X7_demandState rfl rfl rfl (by decide +kernel) ⟨Nat.le_of_ble_eq_true rfl, Nat.le_of_ble_eq_true rfl⟩) (mbx_preS C mb_P0 mb_D0 hS) rfl rfl hl.1 rfl (lv_room (Nat.le_of_ble_eq_true rfl)) dX7_repair_34 ⟨Nat.le_of_ble_eq_true rfl, Nat.le_of_ble_eq_true rfl⟩) (Nat.le_of_ble_eq_true rfl) (Nat.le_of_ble_eq_true rfl) (fun H locs hF hP hS => ?_)
  refine lv_aload_n hx hb dX7_repair_37 rfl (lv_at hl 1 rfl) ?_
  refine va_getN (D := D) (ci := 1) (v := .ref (a2 1)) (C := RX1) (T := TX1) (N := 7) hx hb hts (fun _ h9 => List.mem_cons_of_mem _ (List.mem_append_left _ (List.mem_append_left _ (List.mem_append_left _ (List.mem_append_left _ (List.mem_append_left _ (List.mem_append_right _ (h9)))))))) hown hK hP 2 rfl rfl 1 (by decide) (va_Nw.use rfl (hG.2.1 _ (List.mem_of_getElem? (i := 15) rfl))) (fun _ h9 => h9) rfl dX7_repair_38 ?_
  refine va_getN (D := D) (ci := 3) (v := .int (M_3 1 0)) (C := RX3) (T := TX3) (N := 2) hx hb hts (fun _ h9 => List.mem_cons_of_mem _ (List.mem_append_left _ (List.mem_append_left _ (List.mem_append_left _ (List.mem_append_left _ (List.mem_append_right _ (h9))))))) hown hK hP 3 rfl rfl 1 (by decide) (va_Nw.use rfl (hG.2.1 _ (List.mem_of_getElem? (i := 16) rfl))) (fun _ h9 => h9) rfl dX7_repair_41 ?_
  refine lv_bipush (v := 20) hx hb dX7_repair_44 (by decide) ?_
  refine lv_icmp_ge (tgt := 53) hx hb dX7_repair_46 (by decide) (fun c_46 => ?_) (fun c_46 => ?_)
  · have hF := hF.1 c_46
    refine lv_iconst (v := 0) hx hb dX7_repair_53 (by decide) ?_
    exact wX7_repair_54 C M f1 M_2 M_3 x2 (0 : Int32) _ _ _ hF hP hD hS (lv_sub hl [0, 1] rfl)
  · have hF := hF.2 c_46
    refine lv_iconst (v := 1) hx hb dX7_repair_49 (by decide) ?_
    refine lv_goto (tgt := 54) hx hb dX7_repair_50 (by decide) ?_
    exact wX7_repair_54 C M f1 M_2 M_3 x2 (1 : Int32) _ _ _ hF hP hD hS (lv_sub hl [0, 1] rfl)
noncomputable def PX7_repair_29 (N : Nat) (K : Int32 → (mb_m × (Nat → Option Nat) × mb_m × mb_m) → Prop) (KX : String → (mb_m × (Nat → Option Nat) × mb_m × mb_m) → Prop) (M : mb_m) (f1 : (Nat → Option Nat)) (M_2 : mb_m) (M_3 : mb_m) (x2 : Int32) : Prop := PX7_repair_34 N K KX M f1 M_2 M_3 x2 (1 : Int32)
set_option maxHeartbeats 4000000 in
set_option maxRecDepth 100000 in
theorem wX7_repair_29 {p : Program} {l : Launch} {e : Env} {s : State} {m : MethodId} {below : List Frame} {meth : Method} {c : Code} {args : Array Value} {D : va_G} {Y : Nat → ClassId} {A : Nat → Prop} {o : Nat} {a : Nat → Nat} {o2 : Nat} {a2 : Nat → Nat} {a3 : Nat → Nat} {N : Nat} {K : Int32 → (mb_m × (Nat → Option Nat) × mb_m × mb_m) → Prop} {KX : String → (mb_m × (Nat → Option Nat) × mb_m × mb_m) → Prop} (C : mb_CX l p s m meth c args cX7_repair 4 (some .int) wsX7_repair RX7 D Y A) : ∀ (M : mb_m) (f1 : (Nat → Option Nat)) (M_2 : mb_m) (M_3 : mb_m) (x2 : Int32) (H : Heap) (locs : List Loc) (ls : Array Slot), PX7_repair_29 N K KX  M f1 M_2 M_3 x2 → va_P D vwCl (gw7 Y o a M ++ grB Y (a 2) f1 ++ gw1 Y o2 a2 M_2 ++ gw3 Y (a2 1) a3 M_3) H → va_D A (gw7 Y o a M ++ grB Y (a 2) f1 ++ gw1 Y o2 a2 M_2 ++ gw3 Y (a2 1) a3 M_3) → va_S A s.heap H locs → lv_has ls 4 [(2, .int x2), (3, .ref o2)] → W p l e ({ frames := 7, cells := 4, slots := 24, locals := 112 } : Room) s m args below meth c H locs 2 12 (vx_MQ below (va_Qi K (fun u t => mb_T D A (gw7 Y o a u.1 ++ grB Y (a 2) u.2.1 ++ gw1 Y o2 a2 u.2.2.1 ++ gw3 Y (a2 1) a3 u.2.2.2) t) A) (mb_XC D A KX (fun u : mb_m × (Nat → Option Nat) × mb_m × mb_m => gw7 Y o a u.1 ++ grB Y (a 2) u.2.1 ++ gw1 Y o2 a2 u.2.2.1 ++ gw3 Y (a2 1) a3 u.2.2.2)) args s 4 24 A) (F0 m 29 ls []) := by
  obtain ⟨⟨hx, hb, hr, hml, hts, hown, hlocks, hA, hG⟩, hT, hX, hl0⟩ := id C
  have hK := hG.1
  intro M f1 M_2 M_3 x2 H locs ls hF hP hD hS hl
  refine lv_iconst (v := 1) hx hb dX7_repair_29 (by decide) ?_
  refine lv_goto (tgt := 34) hx hb dX7_repair_30 (by decide) ?_
  exact wX7_repair_34 C M f1 M_2 M_3 x2 (1 : Int32) _ _ _ hF hP hD hS (lv_sub hl [0, 1] rfl)
noncomputable def PX7_repair (N : Nat) (M : mb_m) (f1 : (Nat → Option Nat)) (o2 : Nat) (M_2 : mb_m) (M_3 : mb_m) (x1 x2 : Int32) (K : Int32 → (mb_m × (Nat → Option Nat) × mb_m × mb_m) → Prop) (KX : String → (mb_m × (Nat → Option Nat) × mb_m × mb_m) → Prop) : Prop := PX7_bookOf N M f1 x1 (fun r2 u2 => PX7_isWithin N x2 (0 : Int32) (4 : Int32) (fun r9 _ => PX7_demandArgument N r9 (fun _ => r2 = o2 ∧ (((M_2 5 0) = 0 → PX7_repair_29 N K KX (u2.1) (u2.2) M_2 M_3 x2) ∧ (¬ (M_2 5 0) = 0 → PX7_canBeUndone N x2 (fun r23 _ => (r23 = 0 → PX7_repair_34 N K KX (u2.1) (u2.2) M_2 M_3 x2 (0 : Int32)) ∧ (¬ r23 = 0 → PX7_repair_29 N K KX (u2.1) (u2.2) M_2 M_3 x2))))) (fun E _ => KX E ((u2.1), (u2.2), M_2, M_3)))) (fun E u2 => KX E ((u2.1), (u2.2), M_2, M_3))
set_option maxHeartbeats 4000000 in
set_option maxRecDepth 100000 in
theorem cnX7_repair (l : Launch) (hl0 : l.stackTraces = false) (D : va_G) (Y : Nat → ClassId) (N : Nat) (o : Nat) (a : Nat → Nat) (M : mb_m) (f1 : (Nat → Option Nat)) (o2 : Nat) (a2 : Nat → Nat) (M_2 : mb_m) (a3 : Nat → Nat) (M_3 : mb_m) (sz : Nat) (x1 x2 : Int32) (K : Int32 → (mb_m × (Nat → Option Nat) × mb_m × mb_m) → Prop) (KX : String → (mb_m × (Nat → Option Nat) × mb_m × mb_m) → Prop) (hF : PX7_repair N M f1 o2 M_2 M_3 x1 x2 K KX) : vx_Met l yX7_repair wsX7_repair ({ frames := 7, cells := 4, slots := 24, locals := 112 } : Room) (va_Pc [.ref o, .int x1, .int x2] (mb_BX D Y (gw7 Y o a M ++ grB Y (a 2) f1 ++ gw1 Y o2 a2 M_2 ++ gw3 Y (a2 1) a3 M_3) sz)) (va_Qi K (fun u t => mb_T D (va_A (gw7 Y o a M ++ grB Y (a 2) f1 ++ gw1 Y o2 a2 M_2 ++ gw3 Y (a2 1) a3 M_3) sz) (gw7 Y o a u.1 ++ grB Y (a 2) u.2.1 ++ gw1 Y o2 a2 u.2.2.1 ++ gw3 Y (a2 1) a3 u.2.2.2) t) (va_A (gw7 Y o a M ++ grB Y (a 2) f1 ++ gw1 Y o2 a2 M_2 ++ gw3 Y (a2 1) a3 M_3) sz)) (mb_XC D (va_A (gw7 Y o a M ++ grB Y (a 2) f1 ++ gw1 Y o2 a2 M_2 ++ gw3 Y (a2 1) a3 M_3) sz) KX (fun u : mb_m × (Nat → Option Nat) × mb_m × mb_m => gw7 Y o a u.1 ++ grB Y (a 2) u.2.1 ++ gw1 Y o2 a2 u.2.2.1 ++ gw3 Y (a2 1) a3 u.2.2.2)) 4 24 (va_A (gw7 Y o a M ++ grB Y (a 2) f1 ++ gw1 Y o2 a2 M_2 ++ gw3 Y (a2 1) a3 M_3) sz) := by
  refine mbx_begin (cc := cX7_repair) (maxL := 4) (ret := (some .int)) hl0 (by decide +kernel) rfl (Nat.le_of_ble_eq_true rfl) ?_
  intro p e s m below meth c ls C hsz hnm hP hD hl
  generalize hAe : va_A (gw7 Y o a M ++ grB Y (a 2) f1 ++ gw1 Y o2 a2 M_2 ++ gw3 Y (a2 1) a3 M_3) sz = A at C hD ⊢
  have C : mb_CX l p s m meth c ([.ref o, .int x1, .int x2] : List Value).toArray cX7_repair 4 (some .int) wsX7_repair RX7 D Y A := C
  obtain ⟨⟨hx, hb, hr, hml, hts, hown, hlocks, hA, hG⟩, hT, hX, hl0⟩ := id C
  have hK := hG.1
  have hS : va_S A s.heap s.heap [] := va_S.rf
  have hl : lv_has ls 4 [(0, .ref o), (1, .int x1), (2, .int x2)] := hl
  refine lv_aload_n hx hb dX7_repair_0 rfl (lv_at hl 0 rfl) ?_
  refine lv_iload_n hx hb dX7_repair_1 rfl (lv_at hl 1 rfl) ?_
  have hPc := hP.sub (ws' := gw7 Y o a M ++ grB Y (a 2) f1) [0, 1] rfl
  have hDc := hD.sub (ws' := gw7 Y o a M ++ grB Y (a 2) f1) [0, 1] (by decide) rfl
  refine mbx_cPr (S := mb_m × (Nat → Option Nat) × mb_m × mb_m) (wf := fun u => gw7 Y o a u.1 ++ grB Y (a 2) u.2.1 ++ gw1 Y o2 a2 u.2.2.1 ++ gw3 Y (a2 1) a3 u.2.2.2) (wc := gw7 Y o a M ++ grB Y (a 2) f1) (wr := gw1 Y o2 a2 M_2 ++ gw3 Y (a2 1) a3 M_3) C hP hD hS [0, 1] [2, 3, 4] rfl rfl (by decide) (by decide) (vx_runV (As := [.int x1]) (rest := []) ⟨hx, hb, hml, hown, hts⟩ (cnX7_bookOf l C.2.2.2 D Y N o a M f1 _ x1 _ _ hF) (cwV 1 hts gX7_repair_X7_bookOf rfl rfl rfl (by decide +kernel) ⟨Nat.le_of_ble_eq_true rfl, Nat.le_of_ble_eq_true rfl⟩) (mbx_preV C hPc hDc hS 0 rfl rfl) rfl rfl hl.1 rfl (lv_room (Nat.le_of_ble_eq_true rfl)) dX7_repair_2 ⟨Nat.le_of_ble_eq_true rfl, Nat.le_of_ble_eq_true rfl⟩) (Nat.le_of_ble_eq_true rfl) (Nat.le_of_ble_eq_true rfl) (fun E u2 H hF hP hD => ⟨((u2.1), (u2.2), M_2, M_3), hF, hP.sub (ws' := gw7 Y o a (u2.1) ++ grB Y (a 2) (u2.2) ++ gw1 Y o2 a2 M_2 ++ gw3 Y (a2 1) a3 M_3) [3, 4, 0, 1, 2] rfl, hD.sub (ws' := gw7 Y o a (u2.1) ++ grB Y (a 2) (u2.2) ++ gw1 Y o2 a2 M_2 ++ gw3 Y (a2 1) a3 M_3) [3, 4, 0, 1, 2] (by decide) rfl⟩) (fun r2 u2 H locs hF hP hD hS => ?_)
  have hP := hP.sub (ws' := gw7 Y o a (u2.1) ++ grB Y (a 2) (u2.2) ++ gw1 Y o2 a2 M_2 ++ gw3 Y (a2 1) a3 M_3) [3, 4, 0, 1, 2] rfl
  have hD := hD.sub (ws' := gw7 Y o a (u2.1) ++ grB Y (a 2) (u2.2) ++ gw1 Y o2 a2 M_2 ++ gw3 Y (a2 1) a3 M_3) [3, 4, 0, 1, 2] (by decide) rfl
  refine lv_astore_n (lv' := [(3, .ref r2), (0, .ref o), (1, .int x1), (2, .int x2)]) hx hb dX7_repair_5 rfl hl (by decide) rfl (fun ls hl => ?_)
  refine lv_iload_n hx hb dX7_repair_6 rfl (lv_at hl 3 rfl) ?_
  refine lv_iconst (v := 0) hx hb dX7_repair_7 (by decide) ?_
  refine lv_iconst (v := 4) hx hb dX7_repair_8 (by decide) ?_
  refine mb_cE hP hS hA (va_runS (As := [.int x2, .int (0 : Int32), .int (4 : Int32)]) (rest := []) ⟨hx, hb, hml, hown, hts⟩ (cnX7_isWithin l D Y N _ x2 (0 : Int32) (4 : Int32) _ hF) (va_cwS 3 hts gX7_repair_X7_isWithin rfl rfl rfl (by decide +kernel) ⟨Nat.le_of_ble_eq_true rfl, Nat.le_of_ble_eq_true rfl⟩) (mb_preS (A := A) hG mb_P0 mb_D0) rfl rfl hl.1 rfl (lv_room (Nat.le_of_ble_eq_true rfl)) dX7_repair_9 ⟨Nat.le_of_ble_eq_true rfl, Nat.le_of_ble_eq_true rfl⟩) (fun r9 H locs hF hP hS => ?_)
  refine mbx_cEv (S := mb_m × (Nat → Option Nat) × mb_m × mb_m) (wf := fun u => gw7 Y o a u.1 ++ grB Y (a 2) u.2.1 ++ gw1 Y o2 a2 u.2.2.1 ++ gw3 Y (a2 1) a3 u.2.2.2) C ((u2.1), (u2.2), M_2, M_3) hP hD hS (vx_runS (As := [.int r9]) (rest := []) ⟨hx, hb, hml, hown, hts⟩ (cnX7_demandArgument l C.2.2.2 D Y N _ r9 _ _ hF) (va_cwS 1 hts gX7_repair_X7_demandArgument rfl rfl rfl (by decide +kernel) ⟨Nat.le_of_ble_eq_true rfl, Nat.le_of_ble_eq_true rfl⟩) (mbx_preS C mb_P0 mb_D0 hS) rfl rfl hl.1 rfl (lv_room (Nat.le_of_ble_eq_true rfl)) dX7_repair_12 ⟨Nat.le_of_ble_eq_true rfl, Nat.le_of_ble_eq_true rfl⟩) (Nat.le_of_ble_eq_true rfl) (Nat.le_of_ble_eq_true rfl) (fun H locs hF hP hS => ?_)
  refine lv_aload_n hx hb dX7_repair_15 rfl (lv_at hl 0 rfl) ?_
  obtain ⟨hq16, hF⟩ := hF
  try rw [hq16] at hl
  try rw [hq16]
  refine va_getN (D := D) (ci := 1) (v := .int (M_2 5 0)) (C := RX1) (T := TX1) (N := 7) hx hb hts (fun _ h9 => List.mem_cons_of_mem _ (List.mem_append_left _ (List.mem_append_left _ (List.mem_append_left _ (List.mem_append_left _ (List.mem_append_left _ (List.mem_append_right _ (h9)))))))) hown hK hP 2 rfl rfl 5 (by decide) (va_Nw.use rfl (hG.2.1 _ (List.mem_of_getElem? (i := 14) rfl))) (fun _ h9 => h9) rfl dX7_repair_16 ?_
  refine lv_if_eq (tgt := 29) hx hb dX7_repair_19 (by decide) (fun c_19 => ?_) (fun c_19 => ?_)
  · have hF := hF.1 c_19
    exact wX7_repair_29 C (u2.1) (u2.2) M_2 M_3 x2 _ _ _ hF hP hD hS (lv_sub hl [3, 0] rfl)
  · have hF := hF.2 c_19
    refine lv_iload_n hx hb dX7_repair_22 rfl (lv_at hl 3 rfl) ?_
    refine mb_cE hP hS hA (va_runS (As := [.int x2]) (rest := []) ⟨hx, hb, hml, hown, hts⟩ (cnX7_canBeUndone l D Y N _ x2 _ hF) (va_cwS 1 hts gX7_repair_X7_canBeUndone rfl rfl rfl (by decide +kernel) ⟨Nat.le_of_ble_eq_true rfl, Nat.le_of_ble_eq_true rfl⟩) (mb_preS (A := A) hG mb_P0 mb_D0) rfl rfl hl.1 rfl (lv_room (Nat.le_of_ble_eq_true rfl)) dX7_repair_23 ⟨Nat.le_of_ble_eq_true rfl, Nat.le_of_ble_eq_true rfl⟩) (fun r23 H locs hF hP hS => ?_)
    refine lv_if_eq (tgt := 33) hx hb dX7_repair_26 (by decide) (fun c_26 => ?_) (fun c_26 => ?_)
    · have hF := hF.1 c_26
      refine lv_iconst (v := 0) hx hb dX7_repair_33 (by decide) ?_
      exact wX7_repair_34 C (u2.1) (u2.2) M_2 M_3 x2 (0 : Int32) _ _ _ hF hP hD hS (lv_sub hl [3, 0] rfl)
    · have hF := hF.2 c_26
      exact wX7_repair_29 C (u2.1) (u2.2) M_2 M_3 x2 _ _ _ hF hP hD hS (lv_sub hl [3, 0] rfl)
end
section
noncomputable def PX7_repair_n (N : Nat) (M : mb_m) (f1 : (Nat → Option Nat)) (x1 x2 : Int32) (K : Int32 → (mb_m × (Nat → Option Nat)) → Prop) (KX : String → (mb_m × (Nat → Option Nat)) → Prop) : Prop := PX7_bookOf N M f1 x1 (fun r2 u2 => PX7_isWithin N x2 (0 : Int32) (4 : Int32) (fun r9 _ => PX7_demandArgument N r9 (fun _ => False) (fun E _ => KX E ((u2.1), (u2.2))))) (fun E u2 => KX E ((u2.1), (u2.2)))
set_option maxHeartbeats 4000000 in
set_option maxRecDepth 100000 in
theorem cnX7_repair_n (l : Launch) (hl0 : l.stackTraces = false) (D : va_G) (Y : Nat → ClassId) (N : Nat) (o : Nat) (a : Nat → Nat) (M : mb_m) (f1 : (Nat → Option Nat)) (sz : Nat) (x1 x2 : Int32) (K : Int32 → (mb_m × (Nat → Option Nat)) → Prop) (KX : String → (mb_m × (Nat → Option Nat)) → Prop) (hF : PX7_repair_n N M f1 x1 x2 K KX) : vx_Met l yX7_repair wsX7_repair ({ frames := 7, cells := 4, slots := 24, locals := 112 } : Room) (va_Pc [.ref o, .int x1, .int x2] (mb_BX D Y (gw7 Y o a M ++ grB Y (a 2) f1) sz)) (va_Qi K (fun u t => mb_T D (va_A (gw7 Y o a M ++ grB Y (a 2) f1) sz) (gw7 Y o a u.1 ++ grB Y (a 2) u.2) t) (va_A (gw7 Y o a M ++ grB Y (a 2) f1) sz)) (mb_XC D (va_A (gw7 Y o a M ++ grB Y (a 2) f1) sz) KX (fun u : mb_m × (Nat → Option Nat) => gw7 Y o a u.1 ++ grB Y (a 2) u.2)) 4 24 (va_A (gw7 Y o a M ++ grB Y (a 2) f1) sz) := by
  refine mbx_begin (cc := cX7_repair) (maxL := 4) (ret := (some .int)) hl0 (by decide +kernel) rfl (Nat.le_of_ble_eq_true rfl) ?_
  intro p e s m below meth c ls C hsz hnm hP hD hl
  generalize hAe : va_A (gw7 Y o a M ++ grB Y (a 2) f1) sz = A at C hD ⊢
  have C : mb_CX l p s m meth c ([.ref o, .int x1, .int x2] : List Value).toArray cX7_repair 4 (some .int) wsX7_repair RX7 D Y A := C
  obtain ⟨⟨hx, hb, hr, hml, hts, hown, hlocks, hA, hG⟩, hT, hX, hl0⟩ := id C
  have hK := hG.1
  have hS : va_S A s.heap s.heap [] := va_S.rf
  have hl : lv_has ls 4 [(0, .ref o), (1, .int x1), (2, .int x2)] := hl
  refine lv_aload_n hx hb dX7_repair_0 rfl (lv_at hl 0 rfl) ?_
  refine lv_iload_n hx hb dX7_repair_1 rfl (lv_at hl 1 rfl) ?_
  have hPc := hP.sub (ws' := gw7 Y o a M ++ grB Y (a 2) f1) [0, 1] rfl
  have hDc := hD.sub (ws' := gw7 Y o a M ++ grB Y (a 2) f1) [0, 1] (by decide) rfl
  refine mbx_cPr (S := mb_m × (Nat → Option Nat)) (wf := fun u => gw7 Y o a u.1 ++ grB Y (a 2) u.2) (wc := gw7 Y o a M ++ grB Y (a 2) f1) (wr := ([] : va_W)) C hP hD hS [0, 1] [] rfl rfl (by decide) (by decide) (vx_runV (As := [.int x1]) (rest := []) ⟨hx, hb, hml, hown, hts⟩ (cnX7_bookOf l C.2.2.2 D Y N o a M f1 _ x1 _ _ hF) (cwV 1 hts gX7_repair_X7_bookOf rfl rfl rfl (by decide +kernel) ⟨Nat.le_of_ble_eq_true rfl, Nat.le_of_ble_eq_true rfl⟩) (mbx_preV C hPc hDc hS 0 rfl rfl) rfl rfl hl.1 rfl (lv_room (Nat.le_of_ble_eq_true rfl)) dX7_repair_2 ⟨Nat.le_of_ble_eq_true rfl, Nat.le_of_ble_eq_true rfl⟩) (Nat.le_of_ble_eq_true rfl) (Nat.le_of_ble_eq_true rfl) (fun E u2 H hF hP hD => ⟨((u2.1), (u2.2)), hF, hP.sub (ws' := gw7 Y o a (u2.1) ++ grB Y (a 2) (u2.2)) [0, 1] rfl, hD.sub (ws' := gw7 Y o a (u2.1) ++ grB Y (a 2) (u2.2)) [0, 1] (by decide) rfl⟩) (fun r2 u2 H locs hF hP hD hS => ?_)
  have hP := hP.sub (ws' := gw7 Y o a (u2.1) ++ grB Y (a 2) (u2.2)) [0, 1] rfl
  have hD := hD.sub (ws' := gw7 Y o a (u2.1) ++ grB Y (a 2) (u2.2)) [0, 1] (by decide) rfl
  refine lv_astore_n (lv' := [(3, .ref r2), (0, .ref o), (1, .int x1), (2, .int x2)]) hx hb dX7_repair_5 rfl hl (by decide) rfl (fun ls hl => ?_)
  refine lv_iload_n hx hb dX7_repair_6 rfl (lv_at hl 3 rfl) ?_
  refine lv_iconst (v := 0) hx hb dX7_repair_7 (by decide) ?_
  refine lv_iconst (v := 4) hx hb dX7_repair_8 (by decide) ?_
  refine mb_cE hP hS hA (va_runS (As := [.int x2, .int (0 : Int32), .int (4 : Int32)]) (rest := []) ⟨hx, hb, hml, hown, hts⟩ (cnX7_isWithin l D Y N _ x2 (0 : Int32) (4 : Int32) _ hF) (va_cwS 3 hts gX7_repair_X7_isWithin rfl rfl rfl (by decide +kernel) ⟨Nat.le_of_ble_eq_true rfl, Nat.le_of_ble_eq_true rfl⟩) (mb_preS (A := A) hG mb_P0 mb_D0) rfl rfl hl.1 rfl (lv_room (Nat.le_of_ble_eq_true rfl)) dX7_repair_9 ⟨Nat.le_of_ble_eq_true rfl, Nat.le_of_ble_eq_true rfl⟩) (fun r9 H locs hF hP hS => ?_)
  refine mbx_cEv (S := mb_m × (Nat → Option Nat)) (wf := fun u => gw7 Y o a u.1 ++ grB Y (a 2) u.2) C ((u2.1), (u2.2)) hP hD hS (vx_runS (As := [.int r9]) (rest := []) ⟨hx, hb, hml, hown, hts⟩ (cnX7_demandArgument l C.2.2.2 D Y N _ r9 _ _ hF) (va_cwS 1 hts gX7_repair_X7_demandArgument rfl rfl rfl (by decide +kernel) ⟨Nat.le_of_ble_eq_true rfl, Nat.le_of_ble_eq_true rfl⟩) (mbx_preS C mb_P0 mb_D0 hS) rfl rfl hl.1 rfl (lv_room (Nat.le_of_ble_eq_true rfl)) dX7_repair_12 ⟨Nat.le_of_ble_eq_true rfl, Nat.le_of_ble_eq_true rfl⟩) (Nat.le_of_ble_eq_true rfl) (Nat.le_of_ble_eq_true rfl) (fun H locs hF hP hS => ?_)
  refine lv_aload_n hx hb dX7_repair_15 rfl (lv_at hl 0 rfl) ?_
  exact hF.elim
end
section
noncomputable def PX7_undo_31 (N : Nat) (K : Int32 → (mb_m × (Nat → Option Nat) × mb_m × mb_m) → Prop) (KX : String → (mb_m × (Nat → Option Nat) × mb_m × mb_m) → Prop) (M : mb_m) (f1 : (Nat → Option Nat)) (M_2 : mb_m) (M_3 : mb_m) (x3 y0 : Int32) : Prop := PX7_demandState N y0 (fun _ => PX3_dropLatest N M_3  (fun u35 => K x3 (M, f1, M_2, u35))) (fun E _ => KX E (M, f1, M_2, M_3))
set_option maxHeartbeats 4000000 in
set_option maxRecDepth 100000 in
theorem wX7_undo_31 {p : Program} {l : Launch} {e : Env} {s : State} {m : MethodId} {below : List Frame} {meth : Method} {c : Code} {args : Array Value} {D : va_G} {Y : Nat → ClassId} {A : Nat → Prop} {o : Nat} {a : Nat → Nat} {o2 : Nat} {a2 : Nat → Nat} {a3 : Nat → Nat} {N : Nat} {K : Int32 → (mb_m × (Nat → Option Nat) × mb_m × mb_m) → Prop} {KX : String → (mb_m × (Nat → Option Nat) × mb_m × mb_m) → Prop} (C : mb_CX l p s m meth c args cX7_undo 4 (some .int) wsX7_undo RX7 D Y A) : ∀ (M : mb_m) (f1 : (Nat → Option Nat)) (M_2 : mb_m) (M_3 : mb_m) (x3 y0 : Int32) (H : Heap) (locs : List Loc) (ls : Array Slot), PX7_undo_31 N K KX  M f1 M_2 M_3 x3 y0 → va_P D vwCl (gw7 Y o a M ++ grB Y (a 2) f1 ++ gw1 Y o2 a2 M_2 ++ gw3 Y (a2 1) a3 M_3) H → va_D A (gw7 Y o a M ++ grB Y (a 2) f1 ++ gw1 Y o2 a2 M_2 ++ gw3 Y (a2 1) a3 M_3) → va_S A s.heap H locs → lv_has ls 4 [(2, .ref (a2 1)), (3, .int x3)] → W p l e ({ frames := 7, cells := 2, slots := 12, locals := 112 } : Room) s m args below meth c H locs 1 6 (vx_MQ below (va_Qi K (fun u t => mb_T D A (gw7 Y o a u.1 ++ grB Y (a 2) u.2.1 ++ gw1 Y o2 a2 u.2.2.1 ++ gw3 Y (a2 1) a3 u.2.2.2) t) A) (mb_XC D A KX (fun u : mb_m × (Nat → Option Nat) × mb_m × mb_m => gw7 Y o a u.1 ++ grB Y (a 2) u.2.1 ++ gw1 Y o2 a2 u.2.2.1 ++ gw3 Y (a2 1) a3 u.2.2.2)) args s 2 12 A) (F0 m 31 ls [.int y0]) := by
  obtain ⟨⟨hx, hb, hr, hml, hts, hown, hlocks, hA, hG⟩, hT, hX, hl0⟩ := id C
  have hK := hG.1
  intro M f1 M_2 M_3 x3 y0 H locs ls hF hP hD hS hl
  refine mbx_cEv (S := mb_m × (Nat → Option Nat) × mb_m × mb_m) (wf := fun u => gw7 Y o a u.1 ++ grB Y (a 2) u.2.1 ++ gw1 Y o2 a2 u.2.2.1 ++ gw3 Y (a2 1) a3 u.2.2.2) C (M, f1, M_2, M_3) hP hD hS (vx_runS (As := [.int y0]) (rest := []) ⟨hx, hb, hml, hown, hts⟩ (cnX7_demandState l C.2.2.2 D Y N _ y0 _ _ hF) (va_cwS 1 hts gX7_undo_X7_demandState rfl rfl rfl (by decide +kernel) ⟨Nat.le_of_ble_eq_true rfl, Nat.le_of_ble_eq_true rfl⟩) (mbx_preS C mb_P0 mb_D0 hS) rfl rfl hl.1 rfl (lv_room (Nat.le_of_ble_eq_true rfl)) dX7_undo_31 ⟨Nat.le_of_ble_eq_true rfl, Nat.le_of_ble_eq_true rfl⟩) (Nat.le_of_ble_eq_true rfl) (Nat.le_of_ble_eq_true rfl) (fun H locs hF hP hS => ?_)
  refine lv_aload_n hx hb dX7_undo_34 rfl (lv_at hl 0 rfl) ?_
  have hPc := hP.sub (ws' := gw3 Y (a2 1) a3 M_3) [3, 4] rfl
  have hDc := hD.sub (ws' := gw3 Y (a2 1) a3 M_3) [3, 4] (by decide) rfl
  refine mb_cPv (wc := gw3 Y (a2 1) a3 M_3) (wr := gw7 Y o a M ++ grB Y (a 2) f1 ++ gw1 Y o2 a2 M_2) hP hD hS hA [3, 4] [0, 1, 2] rfl rfl (by decide) (by decide) (va_runV (As := []) (rest := []) ⟨hx, hb, hml, hown, hts⟩ (cnX3_dropLatest l D Y N (a2 1) a3 M_3 _  _ hF) (cwV 0 hts gX7_undo_X3_dropLatest rfl rfl rfl (by decide +kernel) ⟨Nat.le_of_ble_eq_true rfl, Nat.le_of_ble_eq_true rfl⟩) (mb_preV hG hPc hDc 0 rfl rfl) rfl rfl hl.1 rfl (lv_room (Nat.le_of_ble_eq_true rfl)) dX7_undo_35 ⟨Nat.le_of_ble_eq_true rfl, Nat.le_of_ble_eq_true rfl⟩) (fun u35 H locs hF hP hD hS => ?_)
  have hP := hP.sub (ws' := gw7 Y o a M ++ grB Y (a 2) f1 ++ gw1 Y o2 a2 M_2 ++ gw3 Y (a2 1) a3 u35) [0, 1, 2, 3, 4] rfl
  have hD := hD.sub (ws' := gw7 Y o a M ++ grB Y (a 2) f1 ++ gw1 Y o2 a2 M_2 ++ gw3 Y (a2 1) a3 u35) [0, 1, 2, 3, 4] (by decide) rfl
  refine lv_iload_n hx hb dX7_undo_38 rfl (lv_at hl 1 rfl) ?_
  refine vx_ret ?_
  exact mb_ri (S := mb_m × (Nat → Option Nat) × mb_m × mb_m) (mc := 2) (ms := 12) (wf := fun u => gw7 Y o a u.1 ++ grB Y (a 2) u.2.1 ++ gw1 Y o2 a2 u.2.2.1 ++ gw3 Y (a2 1) a3 u.2.2.2) C.1 rfl (u := (M, f1, M_2, u35)) hF hP hD hS dX7_undo_39 (Nat.le_of_ble_eq_true rfl) (Nat.le_of_ble_eq_true rfl)
noncomputable def PX7_undo_30 (N : Nat) (K : Int32 → (mb_m × (Nat → Option Nat) × mb_m × mb_m) → Prop) (KX : String → (mb_m × (Nat → Option Nat) × mb_m × mb_m) → Prop) (M : mb_m) (f1 : (Nat → Option Nat)) (M_2 : mb_m) (M_3 : mb_m) (x3 : Int32) : Prop := PX7_undo_31 N K KX M f1 M_2 M_3 x3 (0 : Int32)
set_option maxHeartbeats 4000000 in
set_option maxRecDepth 100000 in
theorem wX7_undo_30 {p : Program} {l : Launch} {e : Env} {s : State} {m : MethodId} {below : List Frame} {meth : Method} {c : Code} {args : Array Value} {D : va_G} {Y : Nat → ClassId} {A : Nat → Prop} {o : Nat} {a : Nat → Nat} {o2 : Nat} {a2 : Nat → Nat} {a3 : Nat → Nat} {N : Nat} {K : Int32 → (mb_m × (Nat → Option Nat) × mb_m × mb_m) → Prop} {KX : String → (mb_m × (Nat → Option Nat) × mb_m × mb_m) → Prop} (C : mb_CX l p s m meth c args cX7_undo 4 (some .int) wsX7_undo RX7 D Y A) : ∀ (M : mb_m) (f1 : (Nat → Option Nat)) (M_2 : mb_m) (M_3 : mb_m) (x3 : Int32) (H : Heap) (locs : List Loc) (ls : Array Slot), PX7_undo_30 N K KX  M f1 M_2 M_3 x3 → va_P D vwCl (gw7 Y o a M ++ grB Y (a 2) f1 ++ gw1 Y o2 a2 M_2 ++ gw3 Y (a2 1) a3 M_3) H → va_D A (gw7 Y o a M ++ grB Y (a 2) f1 ++ gw1 Y o2 a2 M_2 ++ gw3 Y (a2 1) a3 M_3) → va_S A s.heap H locs → lv_has ls 4 [(2, .ref (a2 1)), (3, .int x3)] → W p l e ({ frames := 7, cells := 2, slots := 12, locals := 112 } : Room) s m args below meth c H locs 1 6 (vx_MQ below (va_Qi K (fun u t => mb_T D A (gw7 Y o a u.1 ++ grB Y (a 2) u.2.1 ++ gw1 Y o2 a2 u.2.2.1 ++ gw3 Y (a2 1) a3 u.2.2.2) t) A) (mb_XC D A KX (fun u : mb_m × (Nat → Option Nat) × mb_m × mb_m => gw7 Y o a u.1 ++ grB Y (a 2) u.2.1 ++ gw1 Y o2 a2 u.2.2.1 ++ gw3 Y (a2 1) a3 u.2.2.2)) args s 2 12 A) (F0 m 30 ls []) := by
  obtain ⟨⟨hx, hb, hr, hml, hts, hown, hlocks, hA, hG⟩, hT, hX, hl0⟩ := id C
  have hK := hG.1
  intro M f1 M_2 M_3 x3 H locs ls hF hP hD hS hl
  refine lv_iconst (v := 0) hx hb dX7_undo_30 (by decide) ?_
  exact wX7_undo_31 C M f1 M_2 M_3 x3 (0 : Int32) _ _ _ hF hP hD hS (lv_sub hl [0, 1] rfl)
noncomputable def PX7_undo (N : Nat) (M : mb_m) (f1 : (Nat → Option Nat)) (o2 : Nat) (M_2 : mb_m) (M_3 : mb_m) (x1 : Int32) (K : Int32 → (mb_m × (Nat → Option Nat) × mb_m × mb_m) → Prop) (KX : String → (mb_m × (Nat → Option Nat) × mb_m × mb_m) → Prop) : Prop := PX7_bookOf N M f1 x1 (fun r2 u2 => r2 = o2 ∧ (PX3_latest N M_3  (fun r10 u10 => (r10 = (-1 : Int32) → PX7_undo_30 N K KX (u2.1) (u2.2) M_2 u10 r10) ∧ (¬ r10 = (-1 : Int32) → PX7_canBeUndone N r10 (fun r20 _ => (r20 = 0 → PX7_undo_30 N K KX (u2.1) (u2.2) M_2 u10 r10) ∧ (¬ r20 = 0 → PX7_undo_31 N K KX (u2.1) (u2.2) M_2 u10 r10 (1 : Int32))))))) (fun E u2 => KX E ((u2.1), (u2.2), M_2, M_3))
set_option maxHeartbeats 4000000 in
set_option maxRecDepth 100000 in
theorem cnX7_undo (l : Launch) (hl0 : l.stackTraces = false) (D : va_G) (Y : Nat → ClassId) (N : Nat) (o : Nat) (a : Nat → Nat) (M : mb_m) (f1 : (Nat → Option Nat)) (o2 : Nat) (a2 : Nat → Nat) (M_2 : mb_m) (a3 : Nat → Nat) (M_3 : mb_m) (sz : Nat) (x1 : Int32) (K : Int32 → (mb_m × (Nat → Option Nat) × mb_m × mb_m) → Prop) (KX : String → (mb_m × (Nat → Option Nat) × mb_m × mb_m) → Prop) (hF : PX7_undo N M f1 o2 M_2 M_3 x1 K KX) : vx_Met l yX7_undo wsX7_undo ({ frames := 7, cells := 2, slots := 12, locals := 112 } : Room) (va_Pc [.ref o, .int x1] (mb_BX D Y (gw7 Y o a M ++ grB Y (a 2) f1 ++ gw1 Y o2 a2 M_2 ++ gw3 Y (a2 1) a3 M_3) sz)) (va_Qi K (fun u t => mb_T D (va_A (gw7 Y o a M ++ grB Y (a 2) f1 ++ gw1 Y o2 a2 M_2 ++ gw3 Y (a2 1) a3 M_3) sz) (gw7 Y o a u.1 ++ grB Y (a 2) u.2.1 ++ gw1 Y o2 a2 u.2.2.1 ++ gw3 Y (a2 1) a3 u.2.2.2) t) (va_A (gw7 Y o a M ++ grB Y (a 2) f1 ++ gw1 Y o2 a2 M_2 ++ gw3 Y (a2 1) a3 M_3) sz)) (mb_XC D (va_A (gw7 Y o a M ++ grB Y (a 2) f1 ++ gw1 Y o2 a2 M_2 ++ gw3 Y (a2 1) a3 M_3) sz) KX (fun u : mb_m × (Nat → Option Nat) × mb_m × mb_m => gw7 Y o a u.1 ++ grB Y (a 2) u.2.1 ++ gw1 Y o2 a2 u.2.2.1 ++ gw3 Y (a2 1) a3 u.2.2.2)) 2 12 (va_A (gw7 Y o a M ++ grB Y (a 2) f1 ++ gw1 Y o2 a2 M_2 ++ gw3 Y (a2 1) a3 M_3) sz) := by
  refine mbx_begin (cc := cX7_undo) (maxL := 4) (ret := (some .int)) hl0 (by decide +kernel) rfl (Nat.le_of_ble_eq_true rfl) ?_
  intro p e s m below meth c ls C hsz hnm hP hD hl
  generalize hAe : va_A (gw7 Y o a M ++ grB Y (a 2) f1 ++ gw1 Y o2 a2 M_2 ++ gw3 Y (a2 1) a3 M_3) sz = A at C hD ⊢
  have C : mb_CX l p s m meth c ([.ref o, .int x1] : List Value).toArray cX7_undo 4 (some .int) wsX7_undo RX7 D Y A := C
  obtain ⟨⟨hx, hb, hr, hml, hts, hown, hlocks, hA, hG⟩, hT, hX, hl0⟩ := id C
  have hK := hG.1
  have hS : va_S A s.heap s.heap [] := va_S.rf
  have hl : lv_has ls 4 [(0, .ref o), (1, .int x1)] := hl
  refine lv_aload_n hx hb dX7_undo_0 rfl (lv_at hl 0 rfl) ?_
  refine lv_iload_n hx hb dX7_undo_1 rfl (lv_at hl 1 rfl) ?_
  have hPc := hP.sub (ws' := gw7 Y o a M ++ grB Y (a 2) f1) [0, 1] rfl
  have hDc := hD.sub (ws' := gw7 Y o a M ++ grB Y (a 2) f1) [0, 1] (by decide) rfl
  refine mbx_cPr (S := mb_m × (Nat → Option Nat) × mb_m × mb_m) (wf := fun u => gw7 Y o a u.1 ++ grB Y (a 2) u.2.1 ++ gw1 Y o2 a2 u.2.2.1 ++ gw3 Y (a2 1) a3 u.2.2.2) (wc := gw7 Y o a M ++ grB Y (a 2) f1) (wr := gw1 Y o2 a2 M_2 ++ gw3 Y (a2 1) a3 M_3) C hP hD hS [0, 1] [2, 3, 4] rfl rfl (by decide) (by decide) (vx_runV (As := [.int x1]) (rest := []) ⟨hx, hb, hml, hown, hts⟩ (cnX7_bookOf l C.2.2.2 D Y N o a M f1 _ x1 _ _ hF) (cwV 1 hts gX7_undo_X7_bookOf rfl rfl rfl (by decide +kernel) ⟨Nat.le_of_ble_eq_true rfl, Nat.le_of_ble_eq_true rfl⟩) (mbx_preV C hPc hDc hS 0 rfl rfl) rfl rfl hl.1 rfl (lv_room (Nat.le_of_ble_eq_true rfl)) dX7_undo_2 ⟨Nat.le_of_ble_eq_true rfl, Nat.le_of_ble_eq_true rfl⟩) (Nat.le_of_ble_eq_true rfl) (Nat.le_of_ble_eq_true rfl) (fun E u2 H hF hP hD => ⟨((u2.1), (u2.2), M_2, M_3), hF, hP.sub (ws' := gw7 Y o a (u2.1) ++ grB Y (a 2) (u2.2) ++ gw1 Y o2 a2 M_2 ++ gw3 Y (a2 1) a3 M_3) [3, 4, 0, 1, 2] rfl, hD.sub (ws' := gw7 Y o a (u2.1) ++ grB Y (a 2) (u2.2) ++ gw1 Y o2 a2 M_2 ++ gw3 Y (a2 1) a3 M_3) [3, 4, 0, 1, 2] (by decide) rfl⟩) (fun r2 u2 H locs hF hP hD hS => ?_)
  have hP := hP.sub (ws' := gw7 Y o a (u2.1) ++ grB Y (a 2) (u2.2) ++ gw1 Y o2 a2 M_2 ++ gw3 Y (a2 1) a3 M_3) [3, 4, 0, 1, 2] rfl
  have hD := hD.sub (ws' := gw7 Y o a (u2.1) ++ grB Y (a 2) (u2.2) ++ gw1 Y o2 a2 M_2 ++ gw3 Y (a2 1) a3 M_3) [3, 4, 0, 1, 2] (by decide) rfl
  obtain ⟨hq5, hF⟩ := hF
  try rw [hq5] at hl
  try rw [hq5]
  refine va_getN (D := D) (ci := 1) (v := .ref (a2 1)) (C := RX1) (T := TX1) (N := 7) hx hb hts (fun _ h9 => List.mem_cons_of_mem _ (List.mem_append_left _ (List.mem_append_left _ (List.mem_append_left _ (List.mem_append_left _ (List.mem_append_right _ (h9))))))) hown hK hP 2 rfl rfl 1 (by decide) (va_Nw.use rfl (hG.2.1 _ (List.mem_of_getElem? (i := 15) rfl))) (fun _ h9 => h9) rfl dX7_undo_5 ?_
  refine lv_astore_n (lv' := [(2, .ref (a2 1)), (0, .ref o), (1, .int x1)]) hx hb dX7_undo_8 rfl hl (by decide) rfl (fun ls hl => ?_)
  refine lv_aload_n hx hb dX7_undo_9 rfl (lv_at hl 0 rfl) ?_
  have hPc := hP.sub (ws' := gw3 Y (a2 1) a3 M_3) [3, 4] rfl
  have hDc := hD.sub (ws' := gw3 Y (a2 1) a3 M_3) [3, 4] (by decide) rfl
  refine mb_cP (wc := gw3 Y (a2 1) a3 M_3) (wr := gw7 Y o a (u2.1) ++ grB Y (a 2) (u2.2) ++ gw1 Y o2 a2 M_2) hP hD hS hA [3, 4] [0, 1, 2] rfl rfl (by decide) (by decide) (va_runV (As := []) (rest := []) ⟨hx, hb, hml, hown, hts⟩ (cnX3_latest l D Y N (a2 1) a3 M_3 _  _ hF) (cwV 0 hts gX7_undo_X3_latest rfl rfl rfl (by decide +kernel) ⟨Nat.le_of_ble_eq_true rfl, Nat.le_of_ble_eq_true rfl⟩) (mb_preV hG hPc hDc 0 rfl rfl) rfl rfl hl.1 rfl (lv_room (Nat.le_of_ble_eq_true rfl)) dX7_undo_10 ⟨Nat.le_of_ble_eq_true rfl, Nat.le_of_ble_eq_true rfl⟩) (fun r10 u10 H locs hF hP hD hS => ?_)
  have hP := hP.sub (ws' := gw7 Y o a (u2.1) ++ grB Y (a 2) (u2.2) ++ gw1 Y o2 a2 M_2 ++ gw3 Y (a2 1) a3 u10) [0, 1, 2, 3, 4] rfl
  have hD := hD.sub (ws' := gw7 Y o a (u2.1) ++ grB Y (a 2) (u2.2) ++ gw1 Y o2 a2 M_2 ++ gw3 Y (a2 1) a3 u10) [0, 1, 2, 3, 4] (by decide) rfl
  refine lv_istore_n (lv' := [(3, .int r10), (2, .ref (a2 1)), (0, .ref o), (1, .int x1)]) hx hb dX7_undo_13 rfl hl (by decide) rfl (fun ls hl => ?_)
  refine lv_iload_n hx hb dX7_undo_14 rfl (lv_at hl 0 rfl) ?_
  refine lv_iconst (v := -1) hx hb dX7_undo_15 (by decide) ?_
  refine lv_icmp_eq (tgt := 30) hx hb dX7_undo_16 (by decide) (fun c_16 => ?_) (fun c_16 => ?_)
  · have hF := hF.1 c_16
    exact wX7_undo_30 C (u2.1) (u2.2) M_2 u10 r10 _ _ _ hF hP hD hS (lv_sub hl [1, 0] rfl)
  · have hF := hF.2 c_16
    refine lv_iload_n hx hb dX7_undo_19 rfl (lv_at hl 0 rfl) ?_
    refine mb_cE hP hS hA (va_runS (As := [.int r10]) (rest := []) ⟨hx, hb, hml, hown, hts⟩ (cnX7_canBeUndone l D Y N _ r10 _ hF) (va_cwS 1 hts gX7_undo_X7_canBeUndone rfl rfl rfl (by decide +kernel) ⟨Nat.le_of_ble_eq_true rfl, Nat.le_of_ble_eq_true rfl⟩) (mb_preS (A := A) hG mb_P0 mb_D0) rfl rfl hl.1 rfl (lv_room (Nat.le_of_ble_eq_true rfl)) dX7_undo_20 ⟨Nat.le_of_ble_eq_true rfl, Nat.le_of_ble_eq_true rfl⟩) (fun r20 H locs hF hP hS => ?_)
    refine lv_if_eq (tgt := 30) hx hb dX7_undo_23 (by decide) (fun c_23 => ?_) (fun c_23 => ?_)
    · have hF := hF.1 c_23
      exact wX7_undo_30 C (u2.1) (u2.2) M_2 u10 r10 _ _ _ hF hP hD hS (lv_sub hl [1, 0] rfl)
    · have hF := hF.2 c_23
      refine lv_iconst (v := 1) hx hb dX7_undo_26 (by decide) ?_
      refine lv_goto (tgt := 31) hx hb dX7_undo_27 (by decide) ?_
      exact wX7_undo_31 C (u2.1) (u2.2) M_2 u10 r10 (1 : Int32) _ _ _ hF hP hD hS (lv_sub hl [1, 0] rfl)
end
section
noncomputable def PX7_undo_n (N : Nat) (M : mb_m) (f1 : (Nat → Option Nat)) (x1 : Int32) (K : Int32 → (mb_m × (Nat → Option Nat)) → Prop) (KX : String → (mb_m × (Nat → Option Nat)) → Prop) : Prop := PX7_bookOf N M f1 x1 (fun r2 u2 => False) (fun E u2 => KX E ((u2.1), (u2.2)))
set_option maxHeartbeats 4000000 in
set_option maxRecDepth 100000 in
theorem cnX7_undo_n (l : Launch) (hl0 : l.stackTraces = false) (D : va_G) (Y : Nat → ClassId) (N : Nat) (o : Nat) (a : Nat → Nat) (M : mb_m) (f1 : (Nat → Option Nat)) (sz : Nat) (x1 : Int32) (K : Int32 → (mb_m × (Nat → Option Nat)) → Prop) (KX : String → (mb_m × (Nat → Option Nat)) → Prop) (hF : PX7_undo_n N M f1 x1 K KX) : vx_Met l yX7_undo wsX7_undo ({ frames := 7, cells := 2, slots := 12, locals := 112 } : Room) (va_Pc [.ref o, .int x1] (mb_BX D Y (gw7 Y o a M ++ grB Y (a 2) f1) sz)) (va_Qi K (fun u t => mb_T D (va_A (gw7 Y o a M ++ grB Y (a 2) f1) sz) (gw7 Y o a u.1 ++ grB Y (a 2) u.2) t) (va_A (gw7 Y o a M ++ grB Y (a 2) f1) sz)) (mb_XC D (va_A (gw7 Y o a M ++ grB Y (a 2) f1) sz) KX (fun u : mb_m × (Nat → Option Nat) => gw7 Y o a u.1 ++ grB Y (a 2) u.2)) 2 12 (va_A (gw7 Y o a M ++ grB Y (a 2) f1) sz) := by
  refine mbx_begin (cc := cX7_undo) (maxL := 4) (ret := (some .int)) hl0 (by decide +kernel) rfl (Nat.le_of_ble_eq_true rfl) ?_
  intro p e s m below meth c ls C hsz hnm hP hD hl
  generalize hAe : va_A (gw7 Y o a M ++ grB Y (a 2) f1) sz = A at C hD ⊢
  have C : mb_CX l p s m meth c ([.ref o, .int x1] : List Value).toArray cX7_undo 4 (some .int) wsX7_undo RX7 D Y A := C
  obtain ⟨⟨hx, hb, hr, hml, hts, hown, hlocks, hA, hG⟩, hT, hX, hl0⟩ := id C
  have hK := hG.1
  have hS : va_S A s.heap s.heap [] := va_S.rf
  have hl : lv_has ls 4 [(0, .ref o), (1, .int x1)] := hl
  refine lv_aload_n hx hb dX7_undo_0 rfl (lv_at hl 0 rfl) ?_
  refine lv_iload_n hx hb dX7_undo_1 rfl (lv_at hl 1 rfl) ?_
  have hPc := hP.sub (ws' := gw7 Y o a M ++ grB Y (a 2) f1) [0, 1] rfl
  have hDc := hD.sub (ws' := gw7 Y o a M ++ grB Y (a 2) f1) [0, 1] (by decide) rfl
  refine mbx_cPr (S := mb_m × (Nat → Option Nat)) (wf := fun u => gw7 Y o a u.1 ++ grB Y (a 2) u.2) (wc := gw7 Y o a M ++ grB Y (a 2) f1) (wr := ([] : va_W)) C hP hD hS [0, 1] [] rfl rfl (by decide) (by decide) (vx_runV (As := [.int x1]) (rest := []) ⟨hx, hb, hml, hown, hts⟩ (cnX7_bookOf l C.2.2.2 D Y N o a M f1 _ x1 _ _ hF) (cwV 1 hts gX7_undo_X7_bookOf rfl rfl rfl (by decide +kernel) ⟨Nat.le_of_ble_eq_true rfl, Nat.le_of_ble_eq_true rfl⟩) (mbx_preV C hPc hDc hS 0 rfl rfl) rfl rfl hl.1 rfl (lv_room (Nat.le_of_ble_eq_true rfl)) dX7_undo_2 ⟨Nat.le_of_ble_eq_true rfl, Nat.le_of_ble_eq_true rfl⟩) (Nat.le_of_ble_eq_true rfl) (Nat.le_of_ble_eq_true rfl) (fun E u2 H hF hP hD => ⟨((u2.1), (u2.2)), hF, hP.sub (ws' := gw7 Y o a (u2.1) ++ grB Y (a 2) (u2.2)) [0, 1] rfl, hD.sub (ws' := gw7 Y o a (u2.1) ++ grB Y (a 2) (u2.2)) [0, 1] (by decide) rfl⟩) (fun r2 u2 H locs hF hP hD hS => ?_)
  have hP := hP.sub (ws' := gw7 Y o a (u2.1) ++ grB Y (a 2) (u2.2)) [0, 1] rfl
  have hD := hD.sub (ws' := gw7 Y o a (u2.1) ++ grB Y (a 2) (u2.2)) [0, 1] (by decide) rfl
  exact hF.elim
end
section
noncomputable def PX7_speak_68 (N : Nat) (K : Int32 → (mb_m × (Nat → Option Nat) × mb_m × mb_m) → Prop) (KX : String → (mb_m × (Nat → Option Nat) × mb_m × mb_m) → Prop) (M : mb_m) (f1 : (Nat → Option Nat)) (M_2 : mb_m) (M_3 : mb_m) (x2 x3 x4 y0 : Int32) : Prop := PX7_demandState N y0 (fun _ => PX6_add N M_3 x2 x3 x4 (fun u77 => K (u77 3 0) (M, f1, M_2, u77))) (fun E _ => KX E (M, f1, M_2, M_3))
set_option maxHeartbeats 4000000 in
set_option maxRecDepth 100000 in
theorem wX7_speak_68 {p : Program} {l : Launch} {e : Env} {s : State} {m : MethodId} {below : List Frame} {meth : Method} {c : Code} {args : Array Value} {D : va_G} {Y : Nat → ClassId} {A : Nat → Prop} {o : Nat} {a : Nat → Nat} {o2 : Nat} {a2 : Nat → Nat} {a3 : Nat → Nat} {N : Nat} {K : Int32 → (mb_m × (Nat → Option Nat) × mb_m × mb_m) → Prop} {KX : String → (mb_m × (Nat → Option Nat) × mb_m × mb_m) → Prop} (C : mb_CX l p s m meth c args cX7_speak 6 (some .int) wsX7_speak RX7 D Y A) : ∀ (M : mb_m) (f1 : (Nat → Option Nat)) (M_2 : mb_m) (M_3 : mb_m) (x2 x3 x4 y0 : Int32) (H : Heap) (locs : List Loc) (ls : Array Slot), PX7_speak_68 N K KX  M f1 M_2 M_3 x2 x3 x4 y0 → va_P D vwCl (gw7 Y o a M ++ grB Y (a 2) f1 ++ gw1 Y o2 a2 M_2 ++ gw6 Y (a2 2) a3 M_3) H → va_D A (gw7 Y o a M ++ grB Y (a 2) f1 ++ gw1 Y o2 a2 M_2 ++ gw6 Y (a2 2) a3 M_3) → va_S A s.heap H locs → lv_has ls 6 [(2, .int x2), (3, .int x3), (4, .int x4), (5, .ref (a2 2))] → W p l e ({ frames := 7, cells := 4, slots := 24, locals := 112 } : Room) s m args below meth c H locs 3 18 (vx_MQ below (va_Qi K (fun u t => mb_T D A (gw7 Y o a u.1 ++ grB Y (a 2) u.2.1 ++ gw1 Y o2 a2 u.2.2.1 ++ gw6 Y (a2 2) a3 u.2.2.2) t) A) (mb_XC D A KX (fun u : mb_m × (Nat → Option Nat) × mb_m × mb_m => gw7 Y o a u.1 ++ grB Y (a 2) u.2.1 ++ gw1 Y o2 a2 u.2.2.1 ++ gw6 Y (a2 2) a3 u.2.2.2)) args s 4 24 A) (F0 m 68 ls [.int y0]) := by
  obtain ⟨⟨hx, hb, hr, hml, hts, hown, hlocks, hA, hG⟩, hT, hX, hl0⟩ := id C
  have hK := hG.1
  intro M f1 M_2 M_3 x2 x3 x4 y0 H locs ls hF hP hD hS hl
  refine mbx_cEv (S := mb_m × (Nat → Option Nat) × mb_m × mb_m) (wf := fun u => gw7 Y o a u.1 ++ grB Y (a 2) u.2.1 ++ gw1 Y o2 a2 u.2.2.1 ++ gw6 Y (a2 2) a3 u.2.2.2) C (M, f1, M_2, M_3) hP hD hS (vx_runS (As := [.int y0]) (rest := []) ⟨hx, hb, hml, hown, hts⟩ (cnX7_demandState l C.2.2.2 D Y N _ y0 _ _ hF) (va_cwS 1 hts gX7_speak_X7_demandState rfl rfl rfl (by decide +kernel) ⟨Nat.le_of_ble_eq_true rfl, Nat.le_of_ble_eq_true rfl⟩) (mbx_preS C mb_P0 mb_D0 hS) rfl rfl hl.1 rfl (lv_room (Nat.le_of_ble_eq_true rfl)) dX7_speak_68 ⟨Nat.le_of_ble_eq_true rfl, Nat.le_of_ble_eq_true rfl⟩) (Nat.le_of_ble_eq_true rfl) (Nat.le_of_ble_eq_true rfl) (fun H locs hF hP hS => ?_)
  refine lv_aload hx hb dX7_speak_71 (lv_at hl 3 rfl) ?_
  refine lv_iload_n hx hb dX7_speak_73 rfl (lv_at hl 0 rfl) ?_
  refine lv_iload_n hx hb dX7_speak_74 rfl (lv_at hl 1 rfl) ?_
  refine lv_iload hx hb dX7_speak_75 (lv_at hl 2 rfl) ?_
  have hPc := hP.sub (ws' := gw6 Y (a2 2) a3 M_3) [3, 4, 5, 6] rfl
  have hDc := hD.sub (ws' := gw6 Y (a2 2) a3 M_3) [3, 4, 5, 6] (by decide) rfl
  refine mb_cPv (wc := gw6 Y (a2 2) a3 M_3) (wr := gw7 Y o a M ++ grB Y (a 2) f1 ++ gw1 Y o2 a2 M_2) hP hD hS hA [3, 4, 5, 6] [0, 1, 2] rfl rfl (by decide) (by decide) (va_runV (As := [.int x2, .int x3, .int x4]) (rest := []) ⟨hx, hb, hml, hown, hts⟩ (cnX6_add l D Y N (a2 2) a3 M_3 _ x2 x3 x4 _ hF) (cwV 3 hts gX7_speak_X6_add rfl rfl rfl (by decide +kernel) ⟨Nat.le_of_ble_eq_true rfl, Nat.le_of_ble_eq_true rfl⟩) (mb_preV hG hPc hDc 0 rfl rfl) rfl rfl hl.1 rfl (lv_room (Nat.le_of_ble_eq_true rfl)) dX7_speak_77 ⟨Nat.le_of_ble_eq_true rfl, Nat.le_of_ble_eq_true rfl⟩) (fun u77 H locs hF hP hD hS => ?_)
  have hP := hP.sub (ws' := gw7 Y o a M ++ grB Y (a 2) f1 ++ gw1 Y o2 a2 M_2 ++ gw6 Y (a2 2) a3 u77) [0, 1, 2, 3, 4, 5, 6] rfl
  have hD := hD.sub (ws' := gw7 Y o a M ++ grB Y (a 2) f1 ++ gw1 Y o2 a2 M_2 ++ gw6 Y (a2 2) a3 u77) [0, 1, 2, 3, 4, 5, 6] (by decide) rfl
  refine lv_aload hx hb dX7_speak_80 (lv_at hl 3 rfl) ?_
  refine va_getN (D := D) (ci := 6) (v := .int (u77 3 0)) (C := RX6) (T := TX6) (N := 4) hx hb hts (fun _ h9 => List.mem_cons_of_mem _ (List.mem_append_left _ (List.mem_append_left _ (List.mem_append_left _ (List.mem_append_left _ (List.mem_append_right _ (h9))))))) hown hK hP 3 rfl rfl 3 (by decide) (va_Nw.use rfl (hG.2.1 _ (List.mem_of_getElem? (i := 18) rfl))) (fun _ h9 => h9) rfl dX7_speak_82 ?_
  refine vx_ret ?_
  exact mb_ri (S := mb_m × (Nat → Option Nat) × mb_m × mb_m) (mc := 4) (ms := 24) (wf := fun u => gw7 Y o a u.1 ++ grB Y (a 2) u.2.1 ++ gw1 Y o2 a2 u.2.2.1 ++ gw6 Y (a2 2) a3 u.2.2.2) C.1 rfl (u := (M, f1, M_2, u77)) hF hP hD hS dX7_speak_85 (Nat.le_of_ble_eq_true rfl) (Nat.le_of_ble_eq_true rfl)
noncomputable def PX7_speak_39 (N : Nat) (K : Int32 → (mb_m × (Nat → Option Nat) × mb_m × mb_m) → Prop) (KX : String → (mb_m × (Nat → Option Nat) × mb_m × mb_m) → Prop) (M : mb_m) (f1 : (Nat → Option Nat)) (M_2 : mb_m) (M_3 : mb_m) (x2 x3 x4 y0 : Int32) : Prop := PX7_demandArgument N y0 (fun _ => PX7_isWithin N x4 (1 : Int32) (9 : Int32) (fun r47 _ => PX7_demandArgument N r47 (fun _ => ((20 : Int32) ≤ (M_3 3 0) → PX7_speak_68 N K KX M f1 M_2 M_3 x2 x3 x4 (0 : Int32)) ∧ (¬ (20 : Int32) ≤ (M_3 3 0) → PX7_speak_68 N K KX M f1 M_2 M_3 x2 x3 x4 (1 : Int32))) (fun E _ => KX E (M, f1, M_2, M_3)))) (fun E _ => KX E (M, f1, M_2, M_3))
set_option maxHeartbeats 4000000 in
set_option maxRecDepth 100000 in
theorem wX7_speak_39 {p : Program} {l : Launch} {e : Env} {s : State} {m : MethodId} {below : List Frame} {meth : Method} {c : Code} {args : Array Value} {D : va_G} {Y : Nat → ClassId} {A : Nat → Prop} {o : Nat} {a : Nat → Nat} {o2 : Nat} {a2 : Nat → Nat} {a3 : Nat → Nat} {N : Nat} {K : Int32 → (mb_m × (Nat → Option Nat) × mb_m × mb_m) → Prop} {KX : String → (mb_m × (Nat → Option Nat) × mb_m × mb_m) → Prop} (C : mb_CX l p s m meth c args cX7_speak 6 (some .int) wsX7_speak RX7 D Y A) : ∀ (M : mb_m) (f1 : (Nat → Option Nat)) (M_2 : mb_m) (M_3 : mb_m) (x2 x3 x4 y0 : Int32) (H : Heap) (locs : List Loc) (ls : Array Slot), PX7_speak_39 N K KX  M f1 M_2 M_3 x2 x3 x4 y0 → va_P D vwCl (gw7 Y o a M ++ grB Y (a 2) f1 ++ gw1 Y o2 a2 M_2 ++ gw6 Y (a2 2) a3 M_3) H → va_D A (gw7 Y o a M ++ grB Y (a 2) f1 ++ gw1 Y o2 a2 M_2 ++ gw6 Y (a2 2) a3 M_3) → va_S A s.heap H locs → lv_has ls 6 [(2, .int x2), (3, .int x3), (4, .int x4), (5, .ref (a2 2))] → W p l e ({ frames := 7, cells := 4, slots := 24, locals := 112 } : Room) s m args below meth c H locs 1 6 (vx_MQ below (va_Qi K (fun u t => mb_T D A (gw7 Y o a u.1 ++ grB Y (a 2) u.2.1 ++ gw1 Y o2 a2 u.2.2.1 ++ gw6 Y (a2 2) a3 u.2.2.2) t) A) (mb_XC D A KX (fun u : mb_m × (Nat → Option Nat) × mb_m × mb_m => gw7 Y o a u.1 ++ grB Y (a 2) u.2.1 ++ gw1 Y o2 a2 u.2.2.1 ++ gw6 Y (a2 2) a3 u.2.2.2)) args s 4 24 A) (F0 m 39 ls [.int y0]) := by
  obtain ⟨⟨hx, hb, hr, hml, hts, hown, hlocks, hA, hG⟩, hT, hX, hl0⟩ := id C
  have hK := hG.1
  intro M f1 M_2 M_3 x2 x3 x4 y0 H locs ls hF hP hD hS hl
  refine mbx_cEv (S := mb_m × (Nat → Option Nat) × mb_m × mb_m) (wf := fun u => gw7 Y o a u.1 ++ grB Y (a 2) u.2.1 ++ gw1 Y o2 a2 u.2.2.1 ++ gw6 Y (a2 2) a3 u.2.2.2) C (M, f1, M_2, M_3) hP hD hS (vx_runS (As := [.int y0]) (rest := []) ⟨hx, hb, hml, hown, hts⟩ (cnX7_demandArgument l C.2.2.2 D Y N _ y0 _ _ hF) (va_cwS 1 hts gX7_speak_X7_demandArgument rfl rfl rfl (by decide +kernel) ⟨Nat.le_of_ble_eq_true rfl, Nat.le_of_ble_eq_true rfl⟩) (mbx_preS C mb_P0 mb_D0 hS) rfl rfl hl.1 rfl (lv_room (Nat.le_of_ble_eq_true rfl)) dX7_speak_39 ⟨Nat.le_of_ble_eq_true rfl, Nat.le_of_ble_eq_true rfl⟩) (Nat.le_of_ble_eq_true rfl) (Nat.le_of_ble_eq_true rfl) (fun H locs hF hP hS => ?_)
  refine lv_iload hx hb dX7_speak_42 (lv_at hl 2 rfl) ?_
  refine lv_iconst (v := 1) hx hb dX7_speak_44 (by decide) ?_
  refine lv_bipush (v := 9) hx hb dX7_speak_45 (by decide) ?_
  refine mb_cE hP hS hA (va_runS (As := [.int x4, .int (1 : Int32), .int (9 : Int32)]) (rest := []) ⟨hx, hb, hml, hown, hts⟩ (cnX7_isWithin l D Y N _ x4 (1 : Int32) (9 : Int32) _ hF) (va_cwS 3 hts gX7_speak_X7_isWithin rfl rfl rfl (by decide +kernel) ⟨Nat.le_of_ble_eq_true rfl, Nat.le_of_ble_eq_true rfl⟩) (mb_preS (A := A) hG mb_P0 mb_D0) rfl rfl hl.1 rfl (lv_room (Nat.le_of_ble_eq_true rfl)) dX7_speak_47 ⟨Nat.le_of_ble_eq_true rfl, Nat.le_of_ble_eq_true rfl⟩) (fun r47 H locs hF hP hS => ?_)
  refine mbx_cEv (S := mb_m × (Nat → Option Nat) × mb_m × mb_m) (wf := fun u => gw7 Y o a u.1 ++ grB Y (a 2) u.2.1 ++ gw1 Y o2 a2 u.2.2.1 ++ gw6 Y (a2 2) a3 u.2.2.2) C (M, f1, M_2, M_3) hP hD hS (vx_runS (As := [.int r47]) (rest := []) ⟨hx, hb, hml, hown, hts⟩ (cnX7_demandArgument l C.2.2.2 D Y N _ r47 _ _ hF) (va_cwS 1 hts gX7_speak_X7_demandArgument rfl rfl rfl (by decide +kernel) ⟨Nat.le_of_ble_eq_true rfl, Nat.le_of_ble_eq_true rfl⟩) (mbx_preS C mb_P0 mb_D0 hS) rfl rfl hl.1 rfl (lv_room (Nat.le_of_ble_eq_true rfl)) dX7_speak_50 ⟨Nat.le_of_ble_eq_true rfl, Nat.le_of_ble_eq_true rfl⟩) (Nat.le_of_ble_eq_true rfl) (Nat.le_of_ble_eq_true rfl) (fun H locs hF hP hS => ?_)
  refine lv_aload hx hb dX7_speak_53 (lv_at hl 3 rfl) ?_
  refine va_getN (D := D) (ci := 6) (v := .int (M_3 3 0)) (C := RX6) (T := TX6) (N := 4) hx hb hts (fun _ h9 => List.mem_cons_of_mem _ (List.mem_append_left _ (List.mem_append_left _ (List.mem_append_left _ (List.mem_append_left _ (List.mem_append_right _ (h9))))))) hown hK hP 3 rfl rfl 3 (by decide) (va_Nw.use rfl (hG.2.1 _ (List.mem_of_getElem? (i := 18) rfl))) (fun _ h9 => h9) rfl dX7_speak_55 ?_
  refine lv_bipush (v := 20) hx hb dX7_speak_58 (by decide) ?_
  refine lv_icmp_ge (tgt := 67) hx hb dX7_speak_60 (by decide) (fun c_60 => ?_) (fun c_60 => ?_)
  · have hF := hF.1 c_60
    refine lv_iconst (v := 0) hx hb dX7_speak_67 (by decide) ?_
    exact wX7_speak_68 C M f1 M_2 M_3 x2 x3 x4 (0 : Int32) _ _ _ hF hP hD hS (lv_sub hl [0, 1, 2, 3] rfl)
  · have hF := hF.2 c_60
    refine lv_iconst (v := 1) hx hb dX7_speak_63 (by decide) ?_
    refine lv_goto (tgt := 68) hx hb dX7_speak_64 (by decide) ?_
    exact wX7_speak_68 C M f1 M_2 M_3 x2 x3 x4 (1 : Int32) _ _ _ hF hP hD hS (lv_sub hl [0, 1, 2, 3] rfl)
noncomputable def PX7_speak_38 (N : Nat) (K : Int32 → (mb_m × (Nat → Option Nat) × mb_m × mb_m) → Prop) (KX : String → (mb_m × (Nat → Option Nat) × mb_m × mb_m) → Prop) (M : mb_m) (f1 : (Nat → Option Nat)) (M_2 : mb_m) (M_3 : mb_m) (x2 x3 x4 : Int32) : Prop := PX7_speak_39 N K KX M f1 M_2 M_3 x2 x3 x4 (0 : Int32)
set_option maxHeartbeats 4000000 in
set_option maxRecDepth 100000 in
theorem wX7_speak_38 {p : Program} {l : Launch} {e : Env} {s : State} {m : MethodId} {below : List Frame} {meth : Method} {c : Code} {args : Array Value} {D : va_G} {Y : Nat → ClassId} {A : Nat → Prop} {o : Nat} {a : Nat → Nat} {o2 : Nat} {a2 : Nat → Nat} {a3 : Nat → Nat} {N : Nat} {K : Int32 → (mb_m × (Nat → Option Nat) × mb_m × mb_m) → Prop} {KX : String → (mb_m × (Nat → Option Nat) × mb_m × mb_m) → Prop} (C : mb_CX l p s m meth c args cX7_speak 6 (some .int) wsX7_speak RX7 D Y A) : ∀ (M : mb_m) (f1 : (Nat → Option Nat)) (M_2 : mb_m) (M_3 : mb_m) (x2 x3 x4 : Int32) (H : Heap) (locs : List Loc) (ls : Array Slot), PX7_speak_38 N K KX  M f1 M_2 M_3 x2 x3 x4 → va_P D vwCl (gw7 Y o a M ++ grB Y (a 2) f1 ++ gw1 Y o2 a2 M_2 ++ gw6 Y (a2 2) a3 M_3) H → va_D A (gw7 Y o a M ++ grB Y (a 2) f1 ++ gw1 Y o2 a2 M_2 ++ gw6 Y (a2 2) a3 M_3) → va_S A s.heap H locs → lv_has ls 6 [(2, .int x2), (3, .int x3), (4, .int x4), (5, .ref (a2 2))] → W p l e ({ frames := 7, cells := 4, slots := 24, locals := 112 } : Room) s m args below meth c H locs 1 6 (vx_MQ below (va_Qi K (fun u t => mb_T D A (gw7 Y o a u.1 ++ grB Y (a 2) u.2.1 ++ gw1 Y o2 a2 u.2.2.1 ++ gw6 Y (a2 2) a3 u.2.2.2) t) A) (mb_XC D A KX (fun u : mb_m × (Nat → Option Nat) × mb_m × mb_m => gw7 Y o a u.1 ++ grB Y (a 2) u.2.1 ++ gw1 Y o2 a2 u.2.2.1 ++ gw6 Y (a2 2) a3 u.2.2.2)) args s 4 24 A) (F0 m 38 ls []) := by
  obtain ⟨⟨hx, hb, hr, hml, hts, hown, hlocks, hA, hG⟩, hT, hX, hl0⟩ := id C
  have hK := hG.1
  intro M f1 M_2 M_3 x2 x3 x4 H locs ls hF hP hD hS hl
  refine lv_iconst (v := 0) hx hb dX7_speak_38 (by decide) ?_
  exact wX7_speak_39 C M f1 M_2 M_3 x2 x3 x4 (0 : Int32) _ _ _ hF hP hD hS (lv_sub hl [0, 1, 2, 3] rfl)
noncomputable def PX7_speak (N : Nat) (M : mb_m) (f1 : (Nat → Option Nat)) (o2 : Nat) (M_2 : mb_m) (M_3 : mb_m) (x1 x2 x3 x4 : Int32) (K : Int32 → (mb_m × (Nat → Option Nat) × mb_m × mb_m) → Prop) (KX : String → (mb_m × (Nat → Option Nat) × mb_m × mb_m) → Prop) : Prop := PX7_bookOf N M f1 x1 (fun r2 u2 => r2 = o2 ∧ (PX7_isWithin N x2 (1400 : Int32) (2000 : Int32) (fun r17 _ => (r17 = 0 → PX7_speak_38 N K KX (u2.1) (u2.2) M_2 M_3 x2 x3 x4) ∧ (¬ r17 = 0 → PX7_isWithin N x3 x2 (2000 : Int32) (fun r28 _ => (r28 = 0 → PX7_speak_38 N K KX (u2.1) (u2.2) M_2 M_3 x2 x3 x4) ∧ (¬ r28 = 0 → PX7_speak_39 N K KX (u2.1) (u2.2) M_2 M_3 x2 x3 x4 (1 : Int32))))))) (fun E u2 => KX E ((u2.1), (u2.2), M_2, M_3))
set_option maxHeartbeats 4000000 in
set_option maxRecDepth 100000 in
theorem cnX7_speak (l : Launch) (hl0 : l.stackTraces = false) (D : va_G) (Y : Nat → ClassId) (N : Nat) (o : Nat) (a : Nat → Nat) (M : mb_m) (f1 : (Nat → Option Nat)) (o2 : Nat) (a2 : Nat → Nat) (M_2 : mb_m) (a3 : Nat → Nat) (M_3 : mb_m) (sz : Nat) (x1 x2 x3 x4 : Int32) (K : Int32 → (mb_m × (Nat → Option Nat) × mb_m × mb_m) → Prop) (KX : String → (mb_m × (Nat → Option Nat) × mb_m × mb_m) → Prop) (hF : PX7_speak N M f1 o2 M_2 M_3 x1 x2 x3 x4 K KX) : vx_Met l yX7_speak wsX7_speak ({ frames := 7, cells := 4, slots := 24, locals := 112 } : Room) (va_Pc [.ref o, .int x1, .int x2, .int x3, .int x4] (mb_BX D Y (gw7 Y o a M ++ grB Y (a 2) f1 ++ gw1 Y o2 a2 M_2 ++ gw6 Y (a2 2) a3 M_3) sz)) (va_Qi K (fun u t => mb_T D (va_A (gw7 Y o a M ++ grB Y (a 2) f1 ++ gw1 Y o2 a2 M_2 ++ gw6 Y (a2 2) a3 M_3) sz) (gw7 Y o a u.1 ++ grB Y (a 2) u.2.1 ++ gw1 Y o2 a2 u.2.2.1 ++ gw6 Y (a2 2) a3 u.2.2.2) t) (va_A (gw7 Y o a M ++ grB Y (a 2) f1 ++ gw1 Y o2 a2 M_2 ++ gw6 Y (a2 2) a3 M_3) sz)) (mb_XC D (va_A (gw7 Y o a M ++ grB Y (a 2) f1 ++ gw1 Y o2 a2 M_2 ++ gw6 Y (a2 2) a3 M_3) sz) KX (fun u : mb_m × (Nat → Option Nat) × mb_m × mb_m => gw7 Y o a u.1 ++ grB Y (a 2) u.2.1 ++ gw1 Y o2 a2 u.2.2.1 ++ gw6 Y (a2 2) a3 u.2.2.2)) 4 24 (va_A (gw7 Y o a M ++ grB Y (a 2) f1 ++ gw1 Y o2 a2 M_2 ++ gw6 Y (a2 2) a3 M_3) sz) := by
  refine mbx_begin (cc := cX7_speak) (maxL := 6) (ret := (some .int)) hl0 (by decide +kernel) rfl (Nat.le_of_ble_eq_true rfl) ?_
  intro p e s m below meth c ls C hsz hnm hP hD hl
  generalize hAe : va_A (gw7 Y o a M ++ grB Y (a 2) f1 ++ gw1 Y o2 a2 M_2 ++ gw6 Y (a2 2) a3 M_3) sz = A at C hD ⊢
  have C : mb_CX l p s m meth c ([.ref o, .int x1, .int x2, .int x3, .int x4] : List Value).toArray cX7_speak 6 (some .int) wsX7_speak RX7 D Y A := C
  obtain ⟨⟨hx, hb, hr, hml, hts, hown, hlocks, hA, hG⟩, hT, hX, hl0⟩ := id C
  have hK := hG.1
  have hS : va_S A s.heap s.heap [] := va_S.rf
  have hl : lv_has ls 6 [(0, .ref o), (1, .int x1), (2, .int x2), (3, .int x3), (4, .int x4)] := hl
  refine lv_aload_n hx hb dX7_speak_0 rfl (lv_at hl 0 rfl) ?_
  refine lv_iload_n hx hb dX7_speak_1 rfl (lv_at hl 1 rfl) ?_
  have hPc := hP.sub (ws' := gw7 Y o a M ++ grB Y (a 2) f1) [0, 1] rfl
  have hDc := hD.sub (ws' := gw7 Y o a M ++ grB Y (a 2) f1) [0, 1] (by decide) rfl
  refine mbx_cPr (S := mb_m × (Nat → Option Nat) × mb_m × mb_m) (wf := fun u => gw7 Y o a u.1 ++ grB Y (a 2) u.2.1 ++ gw1 Y o2 a2 u.2.2.1 ++ gw6 Y (a2 2) a3 u.2.2.2) (wc := gw7 Y o a M ++ grB Y (a 2) f1) (wr := gw1 Y o2 a2 M_2 ++ gw6 Y (a2 2) a3 M_3) C hP hD hS [0, 1] [2, 3, 4, 5, 6] rfl rfl (by decide) (by decide) (vx_runV (As := [.int x1]) (rest := []) ⟨hx, hb, hml, hown, hts⟩ (cnX7_bookOf l C.2.2.2 D Y N o a M f1 _ x1 _ _ hF) (cwV 1 hts gX7_speak_X7_bookOf rfl rfl rfl (by decide +kernel) ⟨Nat.le_of_ble_eq_true rfl, Nat.le_of_ble_eq_true rfl⟩) (mbx_preV C hPc hDc hS 0 rfl rfl) rfl rfl hl.1 rfl (lv_room (Nat.le_of_ble_eq_true rfl)) dX7_speak_2 ⟨Nat.le_of_ble_eq_true rfl, Nat.le_of_ble_eq_true rfl⟩) (Nat.le_of_ble_eq_true rfl) (Nat.le_of_ble_eq_true rfl) (fun E u2 H hF hP hD => ⟨((u2.1), (u2.2), M_2, M_3), hF, hP.sub (ws' := gw7 Y o a (u2.1) ++ grB Y (a 2) (u2.2) ++ gw1 Y o2 a2 M_2 ++ gw6 Y (a2 2) a3 M_3) [5, 6, 0, 1, 2, 3, 4] rfl, hD.sub (ws' := gw7 Y o a (u2.1) ++ grB Y (a 2) (u2.2) ++ gw1 Y o2 a2 M_2 ++ gw6 Y (a2 2) a3 M_3) [5, 6, 0, 1, 2, 3, 4] (by decide) rfl⟩) (fun r2 u2 H locs hF hP hD hS => ?_)
  have hP := hP.sub (ws' := gw7 Y o a (u2.1) ++ grB Y (a 2) (u2.2) ++ gw1 Y o2 a2 M_2 ++ gw6 Y (a2 2) a3 M_3) [5, 6, 0, 1, 2, 3, 4] rfl
  have hD := hD.sub (ws' := gw7 Y o a (u2.1) ++ grB Y (a 2) (u2.2) ++ gw1 Y o2 a2 M_2 ++ gw6 Y (a2 2) a3 M_3) [5, 6, 0, 1, 2, 3, 4] (by decide) rfl
  obtain ⟨hq5, hF⟩ := hF
  try rw [hq5] at hl
  try rw [hq5]
  refine va_getN (D := D) (ci := 1) (v := .ref (a2 2)) (C := RX1) (T := TX1) (N := 7) hx hb hts (fun _ h9 => List.mem_cons_of_mem _ (List.mem_append_left _ (List.mem_append_left _ (List.mem_append_left _ (List.mem_append_left _ (List.mem_append_left _ (List.mem_append_right _ (h9)))))))) hown hK hP 2 rfl rfl 2 (by decide) (va_Nw.use rfl (hG.2.1 _ (List.mem_of_getElem? (i := 17) rfl))) (fun _ h9 => h9) rfl dX7_speak_5 ?_
  refine lv_astore (lv' := [(5, .ref (a2 2)), (0, .ref o), (1, .int x1), (2, .int x2), (3, .int x3), (4, .int x4)]) hx hb dX7_speak_8 hl (by decide) rfl (fun ls hl => ?_)
  refine lv_iload_n hx hb dX7_speak_10 rfl (lv_at hl 3 rfl) ?_
  refine lv_sipush (v := 1400) hx hb dX7_speak_11 (by decide) ?_
  refine lv_sipush (v := 2000) hx hb dX7_speak_14 (by decide) ?_
  refine mb_cE hP hS hA (va_runS (As := [.int x2, .int (1400 : Int32), .int (2000 : Int32)]) (rest := []) ⟨hx, hb, hml, hown, hts⟩ (cnX7_isWithin l D Y N _ x2 (1400 : Int32) (2000 : Int32) _ hF) (va_cwS 3 hts gX7_speak_X7_isWithin rfl rfl rfl (by decide +kernel) ⟨Nat.le_of_ble_eq_true rfl, Nat.le_of_ble_eq_true rfl⟩) (mb_preS (A := A) hG mb_P0 mb_D0) rfl rfl hl.1 rfl (lv_room (Nat.le_of_ble_eq_true rfl)) dX7_speak_17 ⟨Nat.le_of_ble_eq_true rfl, Nat.le_of_ble_eq_true rfl⟩) (fun r17 H locs hF hP hS => ?_)
  refine lv_if_eq (tgt := 38) hx hb dX7_speak_20 (by decide) (fun c_20 => ?_) (fun c_20 => ?_)
  · have hF := hF.1 c_20
    exact wX7_speak_38 C (u2.1) (u2.2) M_2 M_3 x2 x3 x4 _ _ _ hF hP hD hS (lv_sub hl [3, 4, 5, 0] rfl)
  · have hF := hF.2 c_20
    refine lv_iload_n hx hb dX7_speak_23 rfl (lv_at hl 4 rfl) ?_
    refine lv_iload_n hx hb dX7_speak_24 rfl (lv_at hl 3 rfl) ?_
    refine lv_sipush (v := 2000) hx hb dX7_speak_25 (by decide) ?_
    refine mb_cE hP hS hA (va_runS (As := [.int x3, .int x2, .int (2000 : Int32)]) (rest := []) ⟨hx, hb, hml, hown, hts⟩ (cnX7_isWithin l D Y N _ x3 x2 (2000 : Int32) _ hF) (va_cwS 3 hts gX7_speak_X7_isWithin rfl rfl rfl (by decide +kernel) ⟨Nat.le_of_ble_eq_true rfl, Nat.le_of_ble_eq_true rfl⟩) (mb_preS (A := A) hG mb_P0 mb_D0) rfl rfl hl.1 rfl (lv_room (Nat.le_of_ble_eq_true rfl)) dX7_speak_28 ⟨Nat.le_of_ble_eq_true rfl, Nat.le_of_ble_eq_true rfl⟩) (fun r28 H locs hF hP hS => ?_)
    refine lv_if_eq (tgt := 38) hx hb dX7_speak_31 (by decide) (fun c_31 => ?_) (fun c_31 => ?_)
    · have hF := hF.1 c_31
      exact wX7_speak_38 C (u2.1) (u2.2) M_2 M_3 x2 x3 x4 _ _ _ hF hP hD hS (lv_sub hl [3, 4, 5, 0] rfl)
    · have hF := hF.2 c_31
      refine lv_iconst (v := 1) hx hb dX7_speak_34 (by decide) ?_
      refine lv_goto (tgt := 39) hx hb dX7_speak_35 (by decide) ?_
      exact wX7_speak_39 C (u2.1) (u2.2) M_2 M_3 x2 x3 x4 (1 : Int32) _ _ _ hF hP hD hS (lv_sub hl [3, 4, 5, 0] rfl)
end
section
noncomputable def PX7_speak_n (N : Nat) (M : mb_m) (f1 : (Nat → Option Nat)) (x1 x2 x3 x4 : Int32) (K : Int32 → (mb_m × (Nat → Option Nat)) → Prop) (KX : String → (mb_m × (Nat → Option Nat)) → Prop) : Prop := PX7_bookOf N M f1 x1 (fun r2 u2 => False) (fun E u2 => KX E ((u2.1), (u2.2)))
set_option maxHeartbeats 4000000 in
set_option maxRecDepth 100000 in
theorem cnX7_speak_n (l : Launch) (hl0 : l.stackTraces = false) (D : va_G) (Y : Nat → ClassId) (N : Nat) (o : Nat) (a : Nat → Nat) (M : mb_m) (f1 : (Nat → Option Nat)) (sz : Nat) (x1 x2 x3 x4 : Int32) (K : Int32 → (mb_m × (Nat → Option Nat)) → Prop) (KX : String → (mb_m × (Nat → Option Nat)) → Prop) (hF : PX7_speak_n N M f1 x1 x2 x3 x4 K KX) : vx_Met l yX7_speak wsX7_speak ({ frames := 7, cells := 4, slots := 24, locals := 112 } : Room) (va_Pc [.ref o, .int x1, .int x2, .int x3, .int x4] (mb_BX D Y (gw7 Y o a M ++ grB Y (a 2) f1) sz)) (va_Qi K (fun u t => mb_T D (va_A (gw7 Y o a M ++ grB Y (a 2) f1) sz) (gw7 Y o a u.1 ++ grB Y (a 2) u.2) t) (va_A (gw7 Y o a M ++ grB Y (a 2) f1) sz)) (mb_XC D (va_A (gw7 Y o a M ++ grB Y (a 2) f1) sz) KX (fun u : mb_m × (Nat → Option Nat) => gw7 Y o a u.1 ++ grB Y (a 2) u.2)) 4 24 (va_A (gw7 Y o a M ++ grB Y (a 2) f1) sz) := by
  refine mbx_begin (cc := cX7_speak) (maxL := 6) (ret := (some .int)) hl0 (by decide +kernel) rfl (Nat.le_of_ble_eq_true rfl) ?_
  intro p e s m below meth c ls C hsz hnm hP hD hl
  generalize hAe : va_A (gw7 Y o a M ++ grB Y (a 2) f1) sz = A at C hD ⊢
  have C : mb_CX l p s m meth c ([.ref o, .int x1, .int x2, .int x3, .int x4] : List Value).toArray cX7_speak 6 (some .int) wsX7_speak RX7 D Y A := C
  obtain ⟨⟨hx, hb, hr, hml, hts, hown, hlocks, hA, hG⟩, hT, hX, hl0⟩ := id C
  have hK := hG.1
  have hS : va_S A s.heap s.heap [] := va_S.rf
  have hl : lv_has ls 6 [(0, .ref o), (1, .int x1), (2, .int x2), (3, .int x3), (4, .int x4)] := hl
  refine lv_aload_n hx hb dX7_speak_0 rfl (lv_at hl 0 rfl) ?_
  refine lv_iload_n hx hb dX7_speak_1 rfl (lv_at hl 1 rfl) ?_
  have hPc := hP.sub (ws' := gw7 Y o a M ++ grB Y (a 2) f1) [0, 1] rfl
  have hDc := hD.sub (ws' := gw7 Y o a M ++ grB Y (a 2) f1) [0, 1] (by decide) rfl
  refine mbx_cPr (S := mb_m × (Nat → Option Nat)) (wf := fun u => gw7 Y o a u.1 ++ grB Y (a 2) u.2) (wc := gw7 Y o a M ++ grB Y (a 2) f1) (wr := ([] : va_W)) C hP hD hS [0, 1] [] rfl rfl (by decide) (by decide) (vx_runV (As := [.int x1]) (rest := []) ⟨hx, hb, hml, hown, hts⟩ (cnX7_bookOf l C.2.2.2 D Y N o a M f1 _ x1 _ _ hF) (cwV 1 hts gX7_speak_X7_bookOf rfl rfl rfl (by decide +kernel) ⟨Nat.le_of_ble_eq_true rfl, Nat.le_of_ble_eq_true rfl⟩) (mbx_preV C hPc hDc hS 0 rfl rfl) rfl rfl hl.1 rfl (lv_room (Nat.le_of_ble_eq_true rfl)) dX7_speak_2 ⟨Nat.le_of_ble_eq_true rfl, Nat.le_of_ble_eq_true rfl⟩) (Nat.le_of_ble_eq_true rfl) (Nat.le_of_ble_eq_true rfl) (fun E u2 H hF hP hD => ⟨((u2.1), (u2.2)), hF, hP.sub (ws' := gw7 Y o a (u2.1) ++ grB Y (a 2) (u2.2)) [0, 1] rfl, hD.sub (ws' := gw7 Y o a (u2.1) ++ grB Y (a 2) (u2.2)) [0, 1] (by decide) rfl⟩) (fun r2 u2 H locs hF hP hD hS => ?_)
  have hP := hP.sub (ws' := gw7 Y o a (u2.1) ++ grB Y (a 2) (u2.2)) [0, 1] rfl
  have hD := hD.sub (ws' := gw7 Y o a (u2.1) ++ grB Y (a 2) (u2.2)) [0, 1] (by decide) rfl
  exact hF.elim
end
section
noncomputable def PX7_year (N : Nat) (M : mb_m) (f1 : (Nat → Option Nat)) (o2 : Nat) (M_2 : mb_m) (M_3 : mb_m) (x1 x2 : Int32) (K : Int32 → (mb_m × (Nat → Option Nat) × mb_m × mb_m) → Prop) (KX : String → (mb_m × (Nat → Option Nat) × mb_m × mb_m) → Prop) : Prop := PX7_bookOf N M f1 x1 (fun r2 u2 => r2 = o2 ∧ (PX6_firstByEnds N M_3  (fun r10 u10 => (x2 = 0 → K r10 ((u2.1), (u2.2), M_2, u10)) ∧ (¬ x2 = 0 → (r10 = (-1 : Int32) → K r10 ((u2.1), (u2.2), M_2, u10)) ∧ (¬ r10 = (-1 : Int32) → PX6_lastByEnds N u10 r10 (fun r28 u28 => K r28 ((u2.1), (u2.2), M_2, u28))))))) (fun E u2 => KX E ((u2.1), (u2.2), M_2, M_3))
set_option maxHeartbeats 4000000 in
set_option maxRecDepth 100000 in
theorem cnX7_year (l : Launch) (hl0 : l.stackTraces = false) (D : va_G) (Y : Nat → ClassId) (N : Nat) (o : Nat) (a : Nat → Nat) (M : mb_m) (f1 : (Nat → Option Nat)) (o2 : Nat) (a2 : Nat → Nat) (M_2 : mb_m) (a3 : Nat → Nat) (M_3 : mb_m) (sz : Nat) (x1 x2 : Int32) (K : Int32 → (mb_m × (Nat → Option Nat) × mb_m × mb_m) → Prop) (KX : String → (mb_m × (Nat → Option Nat) × mb_m × mb_m) → Prop) (hF : PX7_year N M f1 o2 M_2 M_3 x1 x2 K KX) : vx_Met l yX7_year wsX7_year ({ frames := 7, cells := 1, slots := 6, locals := 112 } : Room) (va_Pc [.ref o, .int x1, .int x2] (mb_BX D Y (gw7 Y o a M ++ grB Y (a 2) f1 ++ gw1 Y o2 a2 M_2 ++ gw6 Y (a2 2) a3 M_3) sz)) (va_Qi K (fun u t => mb_T D (va_A (gw7 Y o a M ++ grB Y (a 2) f1 ++ gw1 Y o2 a2 M_2 ++ gw6 Y (a2 2) a3 M_3) sz) (gw7 Y o a u.1 ++ grB Y (a 2) u.2.1 ++ gw1 Y o2 a2 u.2.2.1 ++ gw6 Y (a2 2) a3 u.2.2.2) t) (va_A (gw7 Y o a M ++ grB Y (a 2) f1 ++ gw1 Y o2 a2 M_2 ++ gw6 Y (a2 2) a3 M_3) sz)) (mb_XC D (va_A (gw7 Y o a M ++ grB Y (a 2) f1 ++ gw1 Y o2 a2 M_2 ++ gw6 Y (a2 2) a3 M_3) sz) KX (fun u : mb_m × (Nat → Option Nat) × mb_m × mb_m => gw7 Y o a u.1 ++ grB Y (a 2) u.2.1 ++ gw1 Y o2 a2 u.2.2.1 ++ gw6 Y (a2 2) a3 u.2.2.2)) 1 6 (va_A (gw7 Y o a M ++ grB Y (a 2) f1 ++ gw1 Y o2 a2 M_2 ++ gw6 Y (a2 2) a3 M_3) sz) := by
  refine mbx_begin (cc := cX7_year) (maxL := 5) (ret := (some .int)) hl0 (by decide +kernel) rfl (Nat.le_of_ble_eq_true rfl) ?_
  intro p e s m below meth c ls C hsz hnm hP hD hl
  generalize hAe : va_A (gw7 Y o a M ++ grB Y (a 2) f1 ++ gw1 Y o2 a2 M_2 ++ gw6 Y (a2 2) a3 M_3) sz = A at C hD ⊢
  have C : mb_CX l p s m meth c ([.ref o, .int x1, .int x2] : List Value).toArray cX7_year 5 (some .int) wsX7_year RX7 D Y A := C
  obtain ⟨⟨hx, hb, hr, hml, hts, hown, hlocks, hA, hG⟩, hT, hX, hl0⟩ := id C
  have hK := hG.1
  have hS : va_S A s.heap s.heap [] := va_S.rf
  have hl : lv_has ls 5 [(0, .ref o), (1, .int x1), (2, .int x2)] := hl
  refine lv_aload_n hx hb dX7_year_0 rfl (lv_at hl 0 rfl) ?_
  refine lv_iload_n hx hb dX7_year_1 rfl (lv_at hl 1 rfl) ?_
  have hPc := hP.sub (ws' := gw7 Y o a M ++ grB Y (a 2) f1) [0, 1] rfl
  have hDc := hD.sub (ws' := gw7 Y o a M ++ grB Y (a 2) f1) [0, 1] (by decide) rfl
  refine mbx_cPr (S := mb_m × (Nat → Option Nat) × mb_m × mb_m) (wf := fun u => gw7 Y o a u.1 ++ grB Y (a 2) u.2.1 ++ gw1 Y o2 a2 u.2.2.1 ++ gw6 Y (a2 2) a3 u.2.2.2) (wc := gw7 Y o a M ++ grB Y (a 2) f1) (wr := gw1 Y o2 a2 M_2 ++ gw6 Y (a2 2) a3 M_3) C hP hD hS [0, 1] [2, 3, 4, 5, 6] rfl rfl (by decide) (by decide) (vx_runV (As := [.int x1]) (rest := []) ⟨hx, hb, hml, hown, hts⟩ (cnX7_bookOf l C.2.2.2 D Y N o a M f1 _ x1 _ _ hF) (cwV 1 hts gX7_year_X7_bookOf rfl rfl rfl (by decide +kernel) ⟨Nat.le_of_ble_eq_true rfl, Nat.le_of_ble_eq_true rfl⟩) (mbx_preV C hPc hDc hS 0 rfl rfl) rfl rfl hl.1 rfl (lv_room (Nat.le_of_ble_eq_true rfl)) dX7_year_2 ⟨Nat.le_of_ble_eq_true rfl, Nat.le_of_ble_eq_true rfl⟩) (Nat.le_of_ble_eq_true rfl) (Nat.le_of_ble_eq_true rfl) (fun E u2 H hF hP hD => ⟨((u2.1), (u2.2), M_2, M_3), hF, hP.sub (ws' := gw7 Y o a (u2.1) ++ grB Y (a 2) (u2.2) ++ gw1 Y o2 a2 M_2 ++ gw6 Y (a2 2) a3 M_3) [5, 6, 0, 1, 2, 3, 4] rfl, hD.sub (ws' := gw7 Y o a (u2.1) ++ grB Y (a 2) (u2.2) ++ gw1 Y o2 a2 M_2 ++ gw6 Y (a2 2) a3 M_3) [5, 6, 0, 1, 2, 3, 4] (by decide) rfl⟩) (fun r2 u2 H locs hF hP hD hS => ?_)
  have hP := hP.sub (ws' := gw7 Y o a (u2.1) ++ grB Y (a 2) (u2.2) ++ gw1 Y o2 a2 M_2 ++ gw6 Y (a2 2) a3 M_3) [5, 6, 0, 1, 2, 3, 4] rfl
  have hD := hD.sub (ws' := gw7 Y o a (u2.1) ++ grB Y (a 2) (u2.2) ++ gw1 Y o2 a2 M_2 ++ gw6 Y (a2 2) a3 M_3) [5, 6, 0, 1, 2, 3, 4] (by decide) rfl
  obtain ⟨hq5, hF⟩ := hF
  try rw [hq5] at hl
  try rw [hq5]
  refine va_getN (D := D) (ci := 1) (v := .ref (a2 2)) (C := RX1) (T := TX1) (N := 7) hx hb hts (fun _ h9 => List.mem_cons_of_mem _ (List.mem_append_left _ (List.mem_append_left _ (List.mem_append_left _ (List.mem_append_right _ (h9)))))) hown hK hP 2 rfl rfl 2 (by decide) (va_Nw.use rfl (hG.2.1 _ (List.mem_of_getElem? (i := 17) rfl))) (fun _ h9 => h9) rfl dX7_year_5 ?_
  refine lv_astore_n (lv' := [(3, .ref (a2 2)), (0, .ref o), (1, .int x1), (2, .int x2)]) hx hb dX7_year_8 rfl hl (by decide) rfl (fun ls hl => ?_)
  refine lv_aload_n hx hb dX7_year_9 rfl (lv_at hl 0 rfl) ?_
  have hPc := hP.sub (ws' := gw6 Y (a2 2) a3 M_3) [3, 4, 5, 6] rfl
  have hDc := hD.sub (ws' := gw6 Y (a2 2) a3 M_3) [3, 4, 5, 6] (by decide) rfl
  refine mb_cP (wc := gw6 Y (a2 2) a3 M_3) (wr := gw7 Y o a (u2.1) ++ grB Y (a 2) (u2.2) ++ gw1 Y o2 a2 M_2) hP hD hS hA [3, 4, 5, 6] [0, 1, 2] rfl rfl (by decide) (by decide) (va_runV (As := []) (rest := []) ⟨hx, hb, hml, hown, hts⟩ (cnX6_firstByEnds l D Y N (a2 2) a3 M_3 _  _ hF) (cwV 0 hts gX7_year_X6_firstByEnds rfl rfl rfl (by decide +kernel) ⟨Nat.le_of_ble_eq_true rfl, Nat.le_of_ble_eq_true rfl⟩) (mb_preV hG hPc hDc 0 rfl rfl) rfl rfl hl.1 rfl (lv_room (Nat.le_of_ble_eq_true rfl)) dX7_year_10 ⟨Nat.le_of_ble_eq_true rfl, Nat.le_of_ble_eq_true rfl⟩) (fun r10 u10 H locs hF hP hD hS => ?_)
  have hP := hP.sub (ws' := gw7 Y o a (u2.1) ++ grB Y (a 2) (u2.2) ++ gw1 Y o2 a2 M_2 ++ gw6 Y (a2 2) a3 u10) [0, 1, 2, 3, 4, 5, 6] rfl
  have hD := hD.sub (ws' := gw7 Y o a (u2.1) ++ grB Y (a 2) (u2.2) ++ gw1 Y o2 a2 M_2 ++ gw6 Y (a2 2) a3 u10) [0, 1, 2, 3, 4, 5, 6] (by decide) rfl
  refine lv_istore (lv' := [(4, .int r10), (3, .ref (a2 2)), (0, .ref o), (1, .int x1), (2, .int x2)]) hx hb dX7_year_13 hl (by decide) rfl (fun ls hl => ?_)
  refine lv_iload_n hx hb dX7_year_15 rfl (lv_at hl 4 rfl) ?_
  refine lv_if_eq (tgt := 34) hx hb dX7_year_16 (by decide) (fun c_16 => ?_) (fun c_16 => ?_)
  · have hF := hF.1 c_16
    refine lv_iload hx hb dX7_year_34 (lv_at hl 0 rfl) ?_
    refine vx_ret ?_
    exact mb_ri (S := mb_m × (Nat → Option Nat) × mb_m × mb_m) (mc := 1) (ms := 6) (wf := fun u => gw7 Y o a u.1 ++ grB Y (a 2) u.2.1 ++ gw1 Y o2 a2 u.2.2.1 ++ gw6 Y (a2 2) a3 u.2.2.2) C.1 rfl (u := ((u2.1), (u2.2), M_2, u10)) hF hP hD hS dX7_year_36 (Nat.le_of_ble_eq_true rfl) (Nat.le_of_ble_eq_true rfl)
  · have hF := hF.2 c_16
    refine lv_iload hx hb dX7_year_19 (lv_at hl 0 rfl) ?_
    refine lv_iconst (v := -1) hx hb dX7_year_21 (by decide) ?_
    refine lv_icmp_eq (tgt := 34) hx hb dX7_year_22 (by decide) (fun c_22 => ?_) (fun c_22 => ?_)
    · have hF := hF.1 c_22
      refine lv_iload hx hb dX7_year_34 (lv_at hl 0 rfl) ?_
      refine vx_ret ?_
      exact mb_ri (S := mb_m × (Nat → Option Nat) × mb_m × mb_m) (mc := 1) (ms := 6) (wf := fun u => gw7 Y o a u.1 ++ grB Y (a 2) u.2.1 ++ gw1 Y o2 a2 u.2.2.1 ++ gw6 Y (a2 2) a3 u.2.2.2) C.1 rfl (u := ((u2.1), (u2.2), M_2, u10)) hF hP hD hS dX7_year_36 (Nat.le_of_ble_eq_true rfl) (Nat.le_of_ble_eq_true rfl)
    · have hF := hF.2 c_22
      refine lv_aload_n hx hb dX7_year_25 rfl (lv_at hl 1 rfl) ?_
      refine lv_iload hx hb dX7_year_26 (lv_at hl 0 rfl) ?_
      have hPc := hP.sub (ws' := gw6 Y (a2 2) a3 u10) [3, 4, 5, 6] rfl
      have hDc := hD.sub (ws' := gw6 Y (a2 2) a3 u10) [3, 4, 5, 6] (by decide) rfl
      refine mb_cP (wc := gw6 Y (a2 2) a3 u10) (wr := gw7 Y o a (u2.1) ++ grB Y (a 2) (u2.2) ++ gw1 Y o2 a2 M_2) hP hD hS hA [3, 4, 5, 6] [0, 1, 2] rfl rfl (by decide) (by decide) (va_runV (As := [.int r10]) (rest := []) ⟨hx, hb, hml, hown, hts⟩ (cnX6_lastByEnds l D Y N (a2 2) a3 u10 _ r10 _ hF) (cwV 1 hts gX7_year_X6_lastByEnds rfl rfl rfl (by decide +kernel) ⟨Nat.le_of_ble_eq_true rfl, Nat.le_of_ble_eq_true rfl⟩) (mb_preV hG hPc hDc 0 rfl rfl) rfl rfl hl.1 rfl (lv_room (Nat.le_of_ble_eq_true rfl)) dX7_year_28 ⟨Nat.le_of_ble_eq_true rfl, Nat.le_of_ble_eq_true rfl⟩) (fun r28 u28 H locs hF hP hD hS => ?_)
      have hP := hP.sub (ws' := gw7 Y o a (u2.1) ++ grB Y (a 2) (u2.2) ++ gw1 Y o2 a2 M_2 ++ gw6 Y (a2 2) a3 u28) [0, 1, 2, 3, 4, 5, 6] rfl
      have hD := hD.sub (ws' := gw7 Y o a (u2.1) ++ grB Y (a 2) (u2.2) ++ gw1 Y o2 a2 M_2 ++ gw6 Y (a2 2) a3 u28) [0, 1, 2, 3, 4, 5, 6] (by decide) rfl
      refine lv_goto (tgt := 36) hx hb dX7_year_31 (by decide) ?_
      refine vx_ret ?_
      exact mb_ri (S := mb_m × (Nat → Option Nat) × mb_m × mb_m) (mc := 1) (ms := 6) (wf := fun u => gw7 Y o a u.1 ++ grB Y (a 2) u.2.1 ++ gw1 Y o2 a2 u.2.2.1 ++ gw6 Y (a2 2) a3 u.2.2.2) C.1 rfl (u := ((u2.1), (u2.2), M_2, u28)) hF hP hD hS dX7_year_36 (Nat.le_of_ble_eq_true rfl) (Nat.le_of_ble_eq_true rfl)
end
section
noncomputable def PX7_year_n (N : Nat) (M : mb_m) (f1 : (Nat → Option Nat)) (x1 x2 : Int32) (K : Int32 → (mb_m × (Nat → Option Nat)) → Prop) (KX : String → (mb_m × (Nat → Option Nat)) → Prop) : Prop := PX7_bookOf N M f1 x1 (fun r2 u2 => False) (fun E u2 => KX E ((u2.1), (u2.2)))
set_option maxHeartbeats 4000000 in
set_option maxRecDepth 100000 in
theorem cnX7_year_n (l : Launch) (hl0 : l.stackTraces = false) (D : va_G) (Y : Nat → ClassId) (N : Nat) (o : Nat) (a : Nat → Nat) (M : mb_m) (f1 : (Nat → Option Nat)) (sz : Nat) (x1 x2 : Int32) (K : Int32 → (mb_m × (Nat → Option Nat)) → Prop) (KX : String → (mb_m × (Nat → Option Nat)) → Prop) (hF : PX7_year_n N M f1 x1 x2 K KX) : vx_Met l yX7_year wsX7_year ({ frames := 7, cells := 1, slots := 6, locals := 112 } : Room) (va_Pc [.ref o, .int x1, .int x2] (mb_BX D Y (gw7 Y o a M ++ grB Y (a 2) f1) sz)) (va_Qi K (fun u t => mb_T D (va_A (gw7 Y o a M ++ grB Y (a 2) f1) sz) (gw7 Y o a u.1 ++ grB Y (a 2) u.2) t) (va_A (gw7 Y o a M ++ grB Y (a 2) f1) sz)) (mb_XC D (va_A (gw7 Y o a M ++ grB Y (a 2) f1) sz) KX (fun u : mb_m × (Nat → Option Nat) => gw7 Y o a u.1 ++ grB Y (a 2) u.2)) 1 6 (va_A (gw7 Y o a M ++ grB Y (a 2) f1) sz) := by
  refine mbx_begin (cc := cX7_year) (maxL := 5) (ret := (some .int)) hl0 (by decide +kernel) rfl (Nat.le_of_ble_eq_true rfl) ?_
  intro p e s m below meth c ls C hsz hnm hP hD hl
  generalize hAe : va_A (gw7 Y o a M ++ grB Y (a 2) f1) sz = A at C hD ⊢
  have C : mb_CX l p s m meth c ([.ref o, .int x1, .int x2] : List Value).toArray cX7_year 5 (some .int) wsX7_year RX7 D Y A := C
  obtain ⟨⟨hx, hb, hr, hml, hts, hown, hlocks, hA, hG⟩, hT, hX, hl0⟩ := id C
  have hK := hG.1
  have hS : va_S A s.heap s.heap [] := va_S.rf
  have hl : lv_has ls 5 [(0, .ref o), (1, .int x1), (2, .int x2)] := hl
  refine lv_aload_n hx hb dX7_year_0 rfl (lv_at hl 0 rfl) ?_
  refine lv_iload_n hx hb dX7_year_1 rfl (lv_at hl 1 rfl) ?_
  have hPc := hP.sub (ws' := gw7 Y o a M ++ grB Y (a 2) f1) [0, 1] rfl
  have hDc := hD.sub (ws' := gw7 Y o a M ++ grB Y (a 2) f1) [0, 1] (by decide) rfl
  refine mbx_cPr (S := mb_m × (Nat → Option Nat)) (wf := fun u => gw7 Y o a u.1 ++ grB Y (a 2) u.2) (wc := gw7 Y o a M ++ grB Y (a 2) f1) (wr := ([] : va_W)) C hP hD hS [0, 1] [] rfl rfl (by decide) (by decide) (vx_runV (As := [.int x1]) (rest := []) ⟨hx, hb, hml, hown, hts⟩ (cnX7_bookOf l C.2.2.2 D Y N o a M f1 _ x1 _ _ hF) (cwV 1 hts gX7_year_X7_bookOf rfl rfl rfl (by decide +kernel) ⟨Nat.le_of_ble_eq_true rfl, Nat.le_of_ble_eq_true rfl⟩) (mbx_preV C hPc hDc hS 0 rfl rfl) rfl rfl hl.1 rfl (lv_room (Nat.le_of_ble_eq_true rfl)) dX7_year_2 ⟨Nat.le_of_ble_eq_true rfl, Nat.le_of_ble_eq_true rfl⟩) (Nat.le_of_ble_eq_true rfl) (Nat.le_of_ble_eq_true rfl) (fun E u2 H hF hP hD => ⟨((u2.1), (u2.2)), hF, hP.sub (ws' := gw7 Y o a (u2.1) ++ grB Y (a 2) (u2.2)) [0, 1] rfl, hD.sub (ws' := gw7 Y o a (u2.1) ++ grB Y (a 2) (u2.2)) [0, 1] (by decide) rfl⟩) (fun r2 u2 H locs hF hP hD hS => ?_)
  have hP := hP.sub (ws' := gw7 Y o a (u2.1) ++ grB Y (a 2) (u2.2)) [0, 1] rfl
  have hD := hD.sub (ws' := gw7 Y o a (u2.1) ++ grB Y (a 2) (u2.2)) [0, 1] (by decide) rfl
  exact hF.elim
end
section
noncomputable def PX7_yearAnew (N : Nat) (M : mb_m) (f1 : (Nat → Option Nat)) (o2 : Nat) (M_2 : mb_m) (M_3 : mb_m) (x1 x2 : Int32) (K : Int32 → (mb_m × (Nat → Option Nat) × mb_m × mb_m) → Prop) (KX : String → (mb_m × (Nat → Option Nat) × mb_m × mb_m) → Prop) : Prop := PX7_bookOf N M f1 x1 (fun r2 u2 => r2 = o2 ∧ (PX6_firstByYears N M_3  (fun r10 u10 => (x2 = 0 → K r10 ((u2.1), (u2.2), M_2, u10)) ∧ (¬ x2 = 0 → (r10 = (-1 : Int32) → K r10 ((u2.1), (u2.2), M_2, u10)) ∧ (¬ r10 = (-1 : Int32) → PX6_lastByYears N u10 r10 (fun r28 u28 => K r28 ((u2.1), (u2.2), M_2, u28))))))) (fun E u2 => KX E ((u2.1), (u2.2), M_2, M_3))
set_option maxHeartbeats 4000000 in
set_option maxRecDepth 100000 in
theorem cnX7_yearAnew (l : Launch) (hl0 : l.stackTraces = false) (D : va_G) (Y : Nat → ClassId) (N : Nat) (o : Nat) (a : Nat → Nat) (M : mb_m) (f1 : (Nat → Option Nat)) (o2 : Nat) (a2 : Nat → Nat) (M_2 : mb_m) (a3 : Nat → Nat) (M_3 : mb_m) (sz : Nat) (x1 x2 : Int32) (K : Int32 → (mb_m × (Nat → Option Nat) × mb_m × mb_m) → Prop) (KX : String → (mb_m × (Nat → Option Nat) × mb_m × mb_m) → Prop) (hF : PX7_yearAnew N M f1 o2 M_2 M_3 x1 x2 K KX) : vx_Met l yX7_yearAnew wsX7_yearAnew ({ frames := 7, cells := 1, slots := 6, locals := 112 } : Room) (va_Pc [.ref o, .int x1, .int x2] (mb_BX D Y (gw7 Y o a M ++ grB Y (a 2) f1 ++ gw1 Y o2 a2 M_2 ++ gw6 Y (a2 2) a3 M_3) sz)) (va_Qi K (fun u t => mb_T D (va_A (gw7 Y o a M ++ grB Y (a 2) f1 ++ gw1 Y o2 a2 M_2 ++ gw6 Y (a2 2) a3 M_3) sz) (gw7 Y o a u.1 ++ grB Y (a 2) u.2.1 ++ gw1 Y o2 a2 u.2.2.1 ++ gw6 Y (a2 2) a3 u.2.2.2) t) (va_A (gw7 Y o a M ++ grB Y (a 2) f1 ++ gw1 Y o2 a2 M_2 ++ gw6 Y (a2 2) a3 M_3) sz)) (mb_XC D (va_A (gw7 Y o a M ++ grB Y (a 2) f1 ++ gw1 Y o2 a2 M_2 ++ gw6 Y (a2 2) a3 M_3) sz) KX (fun u : mb_m × (Nat → Option Nat) × mb_m × mb_m => gw7 Y o a u.1 ++ grB Y (a 2) u.2.1 ++ gw1 Y o2 a2 u.2.2.1 ++ gw6 Y (a2 2) a3 u.2.2.2)) 1 6 (va_A (gw7 Y o a M ++ grB Y (a 2) f1 ++ gw1 Y o2 a2 M_2 ++ gw6 Y (a2 2) a3 M_3) sz) := by
  refine mbx_begin (cc := cX7_yearAnew) (maxL := 5) (ret := (some .int)) hl0 (by decide +kernel) rfl (Nat.le_of_ble_eq_true rfl) ?_
  intro p e s m below meth c ls C hsz hnm hP hD hl
  generalize hAe : va_A (gw7 Y o a M ++ grB Y (a 2) f1 ++ gw1 Y o2 a2 M_2 ++ gw6 Y (a2 2) a3 M_3) sz = A at C hD ⊢
  have C : mb_CX l p s m meth c ([.ref o, .int x1, .int x2] : List Value).toArray cX7_yearAnew 5 (some .int) wsX7_yearAnew RX7 D Y A := C
  obtain ⟨⟨hx, hb, hr, hml, hts, hown, hlocks, hA, hG⟩, hT, hX, hl0⟩ := id C
  have hK := hG.1
  have hS : va_S A s.heap s.heap [] := va_S.rf
  have hl : lv_has ls 5 [(0, .ref o), (1, .int x1), (2, .int x2)] := hl
  refine lv_aload_n hx hb dX7_yearAnew_0 rfl (lv_at hl 0 rfl) ?_
  refine lv_iload_n hx hb dX7_yearAnew_1 rfl (lv_at hl 1 rfl) ?_
  have hPc := hP.sub (ws' := gw7 Y o a M ++ grB Y (a 2) f1) [0, 1] rfl
  have hDc := hD.sub (ws' := gw7 Y o a M ++ grB Y (a 2) f1) [0, 1] (by decide) rfl
  refine mbx_cPr (S := mb_m × (Nat → Option Nat) × mb_m × mb_m) (wf := fun u => gw7 Y o a u.1 ++ grB Y (a 2) u.2.1 ++ gw1 Y o2 a2 u.2.2.1 ++ gw6 Y (a2 2) a3 u.2.2.2) (wc := gw7 Y o a M ++ grB Y (a 2) f1) (wr := gw1 Y o2 a2 M_2 ++ gw6 Y (a2 2) a3 M_3) C hP hD hS [0, 1] [2, 3, 4, 5, 6] rfl rfl (by decide) (by decide) (vx_runV (As := [.int x1]) (rest := []) ⟨hx, hb, hml, hown, hts⟩ (cnX7_bookOf l C.2.2.2 D Y N o a M f1 _ x1 _ _ hF) (cwV 1 hts gX7_yearAnew_X7_bookOf rfl rfl rfl (by decide +kernel) ⟨Nat.le_of_ble_eq_true rfl, Nat.le_of_ble_eq_true rfl⟩) (mbx_preV C hPc hDc hS 0 rfl rfl) rfl rfl hl.1 rfl (lv_room (Nat.le_of_ble_eq_true rfl)) dX7_yearAnew_2 ⟨Nat.le_of_ble_eq_true rfl, Nat.le_of_ble_eq_true rfl⟩) (Nat.le_of_ble_eq_true rfl) (Nat.le_of_ble_eq_true rfl) (fun E u2 H hF hP hD => ⟨((u2.1), (u2.2), M_2, M_3), hF, hP.sub (ws' := gw7 Y o a (u2.1) ++ grB Y (a 2) (u2.2) ++ gw1 Y o2 a2 M_2 ++ gw6 Y (a2 2) a3 M_3) [5, 6, 0, 1, 2, 3, 4] rfl, hD.sub (ws' := gw7 Y o a (u2.1) ++ grB Y (a 2) (u2.2) ++ gw1 Y o2 a2 M_2 ++ gw6 Y (a2 2) a3 M_3) [5, 6, 0, 1, 2, 3, 4] (by decide) rfl⟩) (fun r2 u2 H locs hF hP hD hS => ?_)
  have hP := hP.sub (ws' := gw7 Y o a (u2.1) ++ grB Y (a 2) (u2.2) ++ gw1 Y o2 a2 M_2 ++ gw6 Y (a2 2) a3 M_3) [5, 6, 0, 1, 2, 3, 4] rfl
  have hD := hD.sub (ws' := gw7 Y o a (u2.1) ++ grB Y (a 2) (u2.2) ++ gw1 Y o2 a2 M_2 ++ gw6 Y (a2 2) a3 M_3) [5, 6, 0, 1, 2, 3, 4] (by decide) rfl
  obtain ⟨hq5, hF⟩ := hF
  try rw [hq5] at hl
  try rw [hq5]
  refine va_getN (D := D) (ci := 1) (v := .ref (a2 2)) (C := RX1) (T := TX1) (N := 7) hx hb hts (fun _ h9 => List.mem_cons_of_mem _ (List.mem_append_left _ (List.mem_append_left _ (List.mem_append_left _ (List.mem_append_right _ (h9)))))) hown hK hP 2 rfl rfl 2 (by decide) (va_Nw.use rfl (hG.2.1 _ (List.mem_of_getElem? (i := 17) rfl))) (fun _ h9 => h9) rfl dX7_yearAnew_5 ?_
  refine lv_astore_n (lv' := [(3, .ref (a2 2)), (0, .ref o), (1, .int x1), (2, .int x2)]) hx hb dX7_yearAnew_8 rfl hl (by decide) rfl (fun ls hl => ?_)
  refine lv_aload_n hx hb dX7_yearAnew_9 rfl (lv_at hl 0 rfl) ?_
  have hPc := hP.sub (ws' := gw6 Y (a2 2) a3 M_3) [3, 4, 5, 6] rfl
  have hDc := hD.sub (ws' := gw6 Y (a2 2) a3 M_3) [3, 4, 5, 6] (by decide) rfl
  refine mb_cP (wc := gw6 Y (a2 2) a3 M_3) (wr := gw7 Y o a (u2.1) ++ grB Y (a 2) (u2.2) ++ gw1 Y o2 a2 M_2) hP hD hS hA [3, 4, 5, 6] [0, 1, 2] rfl rfl (by decide) (by decide) (va_runV (As := []) (rest := []) ⟨hx, hb, hml, hown, hts⟩ (cnX6_firstByYears l D Y N (a2 2) a3 M_3 _  _ hF) (cwV 0 hts gX7_yearAnew_X6_firstByYears rfl rfl rfl (by decide +kernel) ⟨Nat.le_of_ble_eq_true rfl, Nat.le_of_ble_eq_true rfl⟩) (mb_preV hG hPc hDc 0 rfl rfl) rfl rfl hl.1 rfl (lv_room (Nat.le_of_ble_eq_true rfl)) dX7_yearAnew_10 ⟨Nat.le_of_ble_eq_true rfl, Nat.le_of_ble_eq_true rfl⟩) (fun r10 u10 H locs hF hP hD hS => ?_)
  have hP := hP.sub (ws' := gw7 Y o a (u2.1) ++ grB Y (a 2) (u2.2) ++ gw1 Y o2 a2 M_2 ++ gw6 Y (a2 2) a3 u10) [0, 1, 2, 3, 4, 5, 6] rfl
  have hD := hD.sub (ws' := gw7 Y o a (u2.1) ++ grB Y (a 2) (u2.2) ++ gw1 Y o2 a2 M_2 ++ gw6 Y (a2 2) a3 u10) [0, 1, 2, 3, 4, 5, 6] (by decide) rfl
  refine lv_istore (lv' := [(4, .int r10), (3, .ref (a2 2)), (0, .ref o), (1, .int x1), (2, .int x2)]) hx hb dX7_yearAnew_13 hl (by decide) rfl (fun ls hl => ?_)
  refine lv_iload_n hx hb dX7_yearAnew_15 rfl (lv_at hl 4 rfl) ?_
  refine lv_if_eq (tgt := 34) hx hb dX7_yearAnew_16 (by decide) (fun c_16 => ?_) (fun c_16 => ?_)
  · have hF := hF.1 c_16
    refine lv_iload hx hb dX7_yearAnew_34 (lv_at hl 0 rfl) ?_
    refine vx_ret ?_
    exact mb_ri (S := mb_m × (Nat → Option Nat) × mb_m × mb_m) (mc := 1) (ms := 6) (wf := fun u => gw7 Y o a u.1 ++ grB Y (a 2) u.2.1 ++ gw1 Y o2 a2 u.2.2.1 ++ gw6 Y (a2 2) a3 u.2.2.2) C.1 rfl (u := ((u2.1), (u2.2), M_2, u10)) hF hP hD hS dX7_yearAnew_36 (Nat.le_of_ble_eq_true rfl) (Nat.le_of_ble_eq_true rfl)
  · have hF := hF.2 c_16
    refine lv_iload hx hb dX7_yearAnew_19 (lv_at hl 0 rfl) ?_
    refine lv_iconst (v := -1) hx hb dX7_yearAnew_21 (by decide) ?_
    refine lv_icmp_eq (tgt := 34) hx hb dX7_yearAnew_22 (by decide) (fun c_22 => ?_) (fun c_22 => ?_)
    · have hF := hF.1 c_22
      refine lv_iload hx hb dX7_yearAnew_34 (lv_at hl 0 rfl) ?_
      refine vx_ret ?_
      exact mb_ri (S := mb_m × (Nat → Option Nat) × mb_m × mb_m) (mc := 1) (ms := 6) (wf := fun u => gw7 Y o a u.1 ++ grB Y (a 2) u.2.1 ++ gw1 Y o2 a2 u.2.2.1 ++ gw6 Y (a2 2) a3 u.2.2.2) C.1 rfl (u := ((u2.1), (u2.2), M_2, u10)) hF hP hD hS dX7_yearAnew_36 (Nat.le_of_ble_eq_true rfl) (Nat.le_of_ble_eq_true rfl)
    · have hF := hF.2 c_22
      refine lv_aload_n hx hb dX7_yearAnew_25 rfl (lv_at hl 1 rfl) ?_
      refine lv_iload hx hb dX7_yearAnew_26 (lv_at hl 0 rfl) ?_
      have hPc := hP.sub (ws' := gw6 Y (a2 2) a3 u10) [3, 4, 5, 6] rfl
      have hDc := hD.sub (ws' := gw6 Y (a2 2) a3 u10) [3, 4, 5, 6] (by decide) rfl
      refine mb_cP (wc := gw6 Y (a2 2) a3 u10) (wr := gw7 Y o a (u2.1) ++ grB Y (a 2) (u2.2) ++ gw1 Y o2 a2 M_2) hP hD hS hA [3, 4, 5, 6] [0, 1, 2] rfl rfl (by decide) (by decide) (va_runV (As := [.int r10]) (rest := []) ⟨hx, hb, hml, hown, hts⟩ (cnX6_lastByYears l D Y N (a2 2) a3 u10 _ r10 _ hF) (cwV 1 hts gX7_yearAnew_X6_lastByYears rfl rfl rfl (by decide +kernel) ⟨Nat.le_of_ble_eq_true rfl, Nat.le_of_ble_eq_true rfl⟩) (mb_preV hG hPc hDc 0 rfl rfl) rfl rfl hl.1 rfl (lv_room (Nat.le_of_ble_eq_true rfl)) dX7_yearAnew_28 ⟨Nat.le_of_ble_eq_true rfl, Nat.le_of_ble_eq_true rfl⟩) (fun r28 u28 H locs hF hP hD hS => ?_)
      have hP := hP.sub (ws' := gw7 Y o a (u2.1) ++ grB Y (a 2) (u2.2) ++ gw1 Y o2 a2 M_2 ++ gw6 Y (a2 2) a3 u28) [0, 1, 2, 3, 4, 5, 6] rfl
      have hD := hD.sub (ws' := gw7 Y o a (u2.1) ++ grB Y (a 2) (u2.2) ++ gw1 Y o2 a2 M_2 ++ gw6 Y (a2 2) a3 u28) [0, 1, 2, 3, 4, 5, 6] (by decide) rfl
      refine lv_goto (tgt := 36) hx hb dX7_yearAnew_31 (by decide) ?_
      refine vx_ret ?_
      exact mb_ri (S := mb_m × (Nat → Option Nat) × mb_m × mb_m) (mc := 1) (ms := 6) (wf := fun u => gw7 Y o a u.1 ++ grB Y (a 2) u.2.1 ++ gw1 Y o2 a2 u.2.2.1 ++ gw6 Y (a2 2) a3 u.2.2.2) C.1 rfl (u := ((u2.1), (u2.2), M_2, u28)) hF hP hD hS dX7_yearAnew_36 (Nat.le_of_ble_eq_true rfl) (Nat.le_of_ble_eq_true rfl)
end
section
noncomputable def PX7_yearAnew_n (N : Nat) (M : mb_m) (f1 : (Nat → Option Nat)) (x1 x2 : Int32) (K : Int32 → (mb_m × (Nat → Option Nat)) → Prop) (KX : String → (mb_m × (Nat → Option Nat)) → Prop) : Prop := PX7_bookOf N M f1 x1 (fun r2 u2 => False) (fun E u2 => KX E ((u2.1), (u2.2)))
set_option maxHeartbeats 4000000 in
set_option maxRecDepth 100000 in
theorem cnX7_yearAnew_n (l : Launch) (hl0 : l.stackTraces = false) (D : va_G) (Y : Nat → ClassId) (N : Nat) (o : Nat) (a : Nat → Nat) (M : mb_m) (f1 : (Nat → Option Nat)) (sz : Nat) (x1 x2 : Int32) (K : Int32 → (mb_m × (Nat → Option Nat)) → Prop) (KX : String → (mb_m × (Nat → Option Nat)) → Prop) (hF : PX7_yearAnew_n N M f1 x1 x2 K KX) : vx_Met l yX7_yearAnew wsX7_yearAnew ({ frames := 7, cells := 1, slots := 6, locals := 112 } : Room) (va_Pc [.ref o, .int x1, .int x2] (mb_BX D Y (gw7 Y o a M ++ grB Y (a 2) f1) sz)) (va_Qi K (fun u t => mb_T D (va_A (gw7 Y o a M ++ grB Y (a 2) f1) sz) (gw7 Y o a u.1 ++ grB Y (a 2) u.2) t) (va_A (gw7 Y o a M ++ grB Y (a 2) f1) sz)) (mb_XC D (va_A (gw7 Y o a M ++ grB Y (a 2) f1) sz) KX (fun u : mb_m × (Nat → Option Nat) => gw7 Y o a u.1 ++ grB Y (a 2) u.2)) 1 6 (va_A (gw7 Y o a M ++ grB Y (a 2) f1) sz) := by
  refine mbx_begin (cc := cX7_yearAnew) (maxL := 5) (ret := (some .int)) hl0 (by decide +kernel) rfl (Nat.le_of_ble_eq_true rfl) ?_
  intro p e s m below meth c ls C hsz hnm hP hD hl
  generalize hAe : va_A (gw7 Y o a M ++ grB Y (a 2) f1) sz = A at C hD ⊢
  have C : mb_CX l p s m meth c ([.ref o, .int x1, .int x2] : List Value).toArray cX7_yearAnew 5 (some .int) wsX7_yearAnew RX7 D Y A := C
  obtain ⟨⟨hx, hb, hr, hml, hts, hown, hlocks, hA, hG⟩, hT, hX, hl0⟩ := id C
  have hK := hG.1
  have hS : va_S A s.heap s.heap [] := va_S.rf
  have hl : lv_has ls 5 [(0, .ref o), (1, .int x1), (2, .int x2)] := hl
  refine lv_aload_n hx hb dX7_yearAnew_0 rfl (lv_at hl 0 rfl) ?_
  refine lv_iload_n hx hb dX7_yearAnew_1 rfl (lv_at hl 1 rfl) ?_
  have hPc := hP.sub (ws' := gw7 Y o a M ++ grB Y (a 2) f1) [0, 1] rfl
  have hDc := hD.sub (ws' := gw7 Y o a M ++ grB Y (a 2) f1) [0, 1] (by decide) rfl
  refine mbx_cPr (S := mb_m × (Nat → Option Nat)) (wf := fun u => gw7 Y o a u.1 ++ grB Y (a 2) u.2) (wc := gw7 Y o a M ++ grB Y (a 2) f1) (wr := ([] : va_W)) C hP hD hS [0, 1] [] rfl rfl (by decide) (by decide) (vx_runV (As := [.int x1]) (rest := []) ⟨hx, hb, hml, hown, hts⟩ (cnX7_bookOf l C.2.2.2 D Y N o a M f1 _ x1 _ _ hF) (cwV 1 hts gX7_yearAnew_X7_bookOf rfl rfl rfl (by decide +kernel) ⟨Nat.le_of_ble_eq_true rfl, Nat.le_of_ble_eq_true rfl⟩) (mbx_preV C hPc hDc hS 0 rfl rfl) rfl rfl hl.1 rfl (lv_room (Nat.le_of_ble_eq_true rfl)) dX7_yearAnew_2 ⟨Nat.le_of_ble_eq_true rfl, Nat.le_of_ble_eq_true rfl⟩) (Nat.le_of_ble_eq_true rfl) (Nat.le_of_ble_eq_true rfl) (fun E u2 H hF hP hD => ⟨((u2.1), (u2.2)), hF, hP.sub (ws' := gw7 Y o a (u2.1) ++ grB Y (a 2) (u2.2)) [0, 1] rfl, hD.sub (ws' := gw7 Y o a (u2.1) ++ grB Y (a 2) (u2.2)) [0, 1] (by decide) rfl⟩) (fun r2 u2 H locs hF hP hD hS => ?_)
  have hP := hP.sub (ws' := gw7 Y o a (u2.1) ++ grB Y (a 2) (u2.2)) [0, 1] rfl
  have hD := hD.sub (ws' := gw7 Y o a (u2.1) ++ grB Y (a 2) (u2.2)) [0, 1] (by decide) rfl
  exact hF.elim
end
