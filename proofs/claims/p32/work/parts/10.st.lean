theorem mb_lk2 {a b o1 o2 dflt k : Int} (h1 : ¬ k = a) (h2 : ¬ k = b) : Op.lookupswitch.offset [(a, o1), (b, o2)] dflt k = dflt := by
  rw [Op.lookupswitch.offset_cons, Op.lookupswitch.offset_cons, Op.lookupswitch.offset_nil]
  simp [Ne.symm h1, Ne.symm h2, h1, h2]
def mb_isB (x : Int32) : Prop := x = 0 ∨ x = 1
theorem mb_isB_n {x : Int32} (h : mb_isB x) : narrow .boolean (.int x) = .int x := by rcases h with rfl | rfl <;> rfl
theorem mb_isB_f {x : Int32} (h : mb_isB x) : fits .boolean (.int x) = true := by rcases h with rfl | rfl <;> rfl

section
noncomputable def PX0_distance (N : Nat) (x0 x1 x2 : Int32) (K : Int32 → Unit → Prop) : Prop := ∀ v6 : Int32, v6 = ((x0 - x0 / (8 : Int32) * (8 : Int32)) - x1) → (∀ v13 : Int32, v13 = ((x0 / (8 : Int32)) - x2) → (K ((v6 * v6) + (v13 * v13)) ()))
set_option maxHeartbeats 4000000 in
set_option maxRecDepth 100000 in
theorem cnX0_distance (l : Launch) (D : va_G) (Y : Nat → ClassId) (N : Nat) (sz : Nat) (x0 x1 x2 : Int32) (K : Int32 → Unit → Prop) (hF : PX0_distance N x0 x1 x2 K) : Met l yX0_distance wsX0_distance ({ frames := 0, cells := 0, slots := 0, locals := 0 } : Room) (va_Pc [.int x0, .int x1, .int x2] (mb_B D Y (([] : va_W)) sz)) (va_Qi K (fun u t => mb_T D (va_A (([] : va_W)) sz) ([]) t) (va_A (([] : va_W)) sz)) 0 0 (va_A (([] : va_W)) sz) := by
  refine mb_begin (cc := cX0_distance) (maxL := 5) (ret := (some .int)) (by decide +kernel) rfl (Nat.le_of_ble_eq_true rfl) ?_
  intro p e s m below meth c ls C hsz hnm hP hD hl
  generalize hAe : va_A (([] : va_W)) sz = A at C hD ⊢
  have C : mb_Cx p s m meth c ([.int x0, .int x1, .int x2] : List Value).toArray cX0_distance 5 (some .int) wsX0_distance RX0 D Y A := C
  obtain ⟨hx, hb, hr, hml, hts, hown, hlocks, hA, hG⟩ := id C
  have hK := hG.1
  have hS : va_S A s.heap s.heap [] := va_S.rf
  have hl : lv_has ls 5 [(0, .int x0), (1, .int x1), (2, .int x2)] := hl
  refine lv_iload_n hx hb dX0_distance_0 rfl (lv_at hl 0 rfl) ?_
  refine lv_bipush (v := 8) hx hb dX0_distance_1 (by decide) ?_
  refine lv_irem hx hb dX0_distance_3 (by decide) ?_
  refine lv_iload_n hx hb dX0_distance_4 rfl (lv_at hl 1 rfl) ?_
  refine lv_isub hx hb dX0_distance_5 ?_
  refine lv_topi (fun v6 ev6 => ?_)
  have hF := hF v6 ev6
  refine lv_istore_n (lv' := [(3, .int v6), (0, .int x0), (1, .int x1), (2, .int x2)]) hx hb dX0_distance_6 rfl hl (by decide) rfl (fun ls hl => ?_)
  refine lv_iload_n hx hb dX0_distance_7 rfl (lv_at hl 1 rfl) ?_
  refine lv_bipush (v := 8) hx hb dX0_distance_8 (by decide) ?_
  refine lv_idiv hx hb dX0_distance_10 (by decide) ?_
  refine lv_iload_n hx hb dX0_distance_11 rfl (lv_at hl 3 rfl) ?_
  refine lv_isub hx hb dX0_distance_12 ?_
  refine lv_topi (fun v13 ev13 => ?_)
  have hF := hF v13 ev13
  refine lv_istore (lv' := [(4, .int v13), (3, .int v6), (0, .int x0), (1, .int x1), (2, .int x2)]) hx hb dX0_distance_13 hl (by decide) rfl (fun ls hl => ?_)
  refine lv_iload_n hx hb dX0_distance_15 rfl (lv_at hl 1 rfl) ?_
  refine lv_iload_n hx hb dX0_distance_16 rfl (lv_at hl 1 rfl) ?_
  refine lv_imul hx hb dX0_distance_17 ?_
  refine lv_iload hx hb dX0_distance_18 (lv_at hl 0 rfl) ?_
  refine lv_iload hx hb dX0_distance_20 (lv_at hl 0 rfl) ?_
  refine lv_imul hx hb dX0_distance_22 ?_
  refine lv_iadd hx hb dX0_distance_23 ?_
  exact mb_ri (S := Unit) (mc := 0) (ms := 0) (wf := fun u => []) C rfl (u := ()) hF hP hD hS dX0_distance_24 (Nat.le_of_ble_eq_true rfl) (Nat.le_of_ble_eq_true rfl)
end
section
noncomputable def PX4_opposite (N : Nat) (x0 : Int32) (K : Int32 → Unit → Prop) : Prop := ((x0.toInt < 1 ∨ 4 < x0.toInt) → K (0 : Int32) ()) ∧ (x0.toInt = 1 → K (2 : Int32) ()) ∧ (x0.toInt = 2 → K (1 : Int32) ()) ∧ (x0.toInt = 3 → K (4 : Int32) ()) ∧ (x0.toInt = 4 → K (3 : Int32) ())
set_option maxHeartbeats 4000000 in
set_option maxRecDepth 100000 in
theorem cnX4_opposite (l : Launch) (D : va_G) (Y : Nat → ClassId) (N : Nat) (sz : Nat) (x0 : Int32) (K : Int32 → Unit → Prop) (hF : PX4_opposite N x0 K) : Met l yX4_opposite wsX4_opposite ({ frames := 0, cells := 0, slots := 0, locals := 0 } : Room) (va_Pc [.int x0] (mb_B D Y (([] : va_W)) sz)) (va_Qi K (fun u t => mb_T D (va_A (([] : va_W)) sz) ([]) t) (va_A (([] : va_W)) sz)) 0 0 (va_A (([] : va_W)) sz) := by
  refine mb_begin (cc := cX4_opposite) (maxL := 1) (ret := (some .int)) (by decide +kernel) rfl (Nat.le_of_ble_eq_true rfl) ?_
  intro p e s m below meth c ls C hsz hnm hP hD hl
  generalize hAe : va_A (([] : va_W)) sz = A at C hD ⊢
  have C : mb_Cx p s m meth c ([.int x0] : List Value).toArray cX4_opposite 1 (some .int) wsX4_opposite RX4 D Y A := C
  obtain ⟨hx, hb, hr, hml, hts, hown, hlocks, hA, hG⟩ := id C
  have hK := hG.1
  have hS : va_S A s.heap s.heap [] := va_S.rf
  have hl : lv_has ls 1 [(0, .int x0)] := hl
  refine lv_iload_n hx hb dX4_opposite_0 rfl (lv_at hl 0 rfl) ?_
  rcases (show (x0.toInt < 1 ∨ 4 < x0.toInt) ∨ x0.toInt = 1 ∨ x0.toInt = 2 ∨ x0.toInt = 3 ∨ x0.toInt = 4 by omega) with c_1 | c_1 | c_1 | c_1 | c_1
  · have hF := hF.1 c_1
    refine lv_tableOut (tgt := 40) hx hb dX4_opposite_1 c_1 (by decide) ?_
    refine lv_iconst (v := 0) hx hb dX4_opposite_40 (by decide) ?_
    exact mb_ri (S := Unit) (mc := 0) (ms := 0) (wf := fun u => []) C rfl (u := ()) hF hP hD hS dX4_opposite_41 (Nat.le_of_ble_eq_true rfl) (Nat.le_of_ble_eq_true rfl)
  · have hF := hF.2.1 c_1
    refine lv_tableIn (off := 31) (tgt := 32) hx hb dX4_opposite_1 (by omega) (by omega) (by rw [c_1]; rfl) (by decide) ?_
    refine lv_iconst (v := 2) hx hb dX4_opposite_32 (by decide) ?_
    exact mb_ri (S := Unit) (mc := 0) (ms := 0) (wf := fun u => []) C rfl (u := ()) hF hP hD hS dX4_opposite_33 (Nat.le_of_ble_eq_true rfl) (Nat.le_of_ble_eq_true rfl)
  · have hF := hF.2.2.1 c_1
    refine lv_tableIn (off := 33) (tgt := 34) hx hb dX4_opposite_1 (by omega) (by omega) (by rw [c_1]; rfl) (by decide) ?_
    refine lv_iconst (v := 1) hx hb dX4_opposite_34 (by decide) ?_
    exact mb_ri (S := Unit) (mc := 0) (ms := 0) (wf := fun u => []) C rfl (u := ()) hF hP hD hS dX4_opposite_35 (Nat.le_of_ble_eq_true rfl) (Nat.le_of_ble_eq_true rfl)
  · have hF := hF.2.2.2.1 c_1
    refine lv_tableIn (off := 35) (tgt := 36) hx hb dX4_opposite_1 (by omega) (by omega) (by rw [c_1]; rfl) (by decide) ?_
    refine lv_iconst (v := 4) hx hb dX4_opposite_36 (by decide) ?_
    exact mb_ri (S := Unit) (mc := 0) (ms := 0) (wf := fun u => []) C rfl (u := ()) hF hP hD hS dX4_opposite_37 (Nat.le_of_ble_eq_true rfl) (Nat.le_of_ble_eq_true rfl)
  · have hF := hF.2.2.2.2 c_1
    refine lv_tableIn (off := 37) (tgt := 38) hx hb dX4_opposite_1 (by omega) (by omega) (by rw [c_1]; rfl) (by decide) ?_
    refine lv_iconst (v := 3) hx hb dX4_opposite_38 (by decide) ?_
    exact mb_ri (S := Unit) (mc := 0) (ms := 0) (wf := fun u => []) C rfl (u := ()) hF hP hD hS dX4_opposite_39 (Nat.le_of_ble_eq_true rfl) (Nat.le_of_ble_eq_true rfl)
end
section
noncomputable def PX7_isWithin (N : Nat) (x0 x1 x2 : Int32) (K : Int32 → Unit → Prop) : Prop := (x0 < x1 → K (0 : Int32) ()) ∧ (¬ x0 < x1 → (x2 < x0 → K (0 : Int32) ()) ∧ (¬ x2 < x0 → K (1 : Int32) ()))
set_option maxHeartbeats 4000000 in
set_option maxRecDepth 100000 in
theorem cnX7_isWithin (l : Launch) (D : va_G) (Y : Nat → ClassId) (N : Nat) (sz : Nat) (x0 x1 x2 : Int32) (K : Int32 → Unit → Prop) (hF : PX7_isWithin N x0 x1 x2 K) : Met l yX7_isWithin wsX7_isWithin ({ frames := 0, cells := 0, slots := 0, locals := 0 } : Room) (va_Pc [.int x0, .int x1, .int x2] (mb_B D Y (([] : va_W)) sz)) (va_Qi K (fun u t => mb_T D (va_A (([] : va_W)) sz) ([]) t) (va_A (([] : va_W)) sz)) 0 0 (va_A (([] : va_W)) sz) := by
  refine mb_begin (cc := cX7_isWithin) (maxL := 3) (ret := (some .boolean)) (by decide +kernel) rfl (Nat.le_of_ble_eq_true rfl) ?_
  intro p e s m below meth c ls C hsz hnm hP hD hl
  generalize hAe : va_A (([] : va_W)) sz = A at C hD ⊢
  have C : mb_Cx p s m meth c ([.int x0, .int x1, .int x2] : List Value).toArray cX7_isWithin 3 (some .boolean) wsX7_isWithin RX7 D Y A := C
  obtain ⟨hx, hb, hr, hml, hts, hown, hlocks, hA, hG⟩ := id C
  have hK := hG.1
  have hS : va_S A s.heap s.heap [] := va_S.rf
  have hl : lv_has ls 3 [(0, .int x0), (1, .int x1), (2, .int x2)] := hl
  refine lv_iload_n hx hb dX7_isWithin_0 rfl (lv_at hl 0 rfl) ?_
  refine lv_iload_n hx hb dX7_isWithin_1 rfl (lv_at hl 1 rfl) ?_
  refine lv_icmp_lt (tgt := 14) hx hb dX7_isWithin_2 (by decide) (fun c_2 => ?_) (fun c_2 => ?_)
  · have hF := hF.1 c_2
    refine lv_iconst (v := 0) hx hb dX7_isWithin_14 (by decide) ?_
    exact mb_ri (S := Unit) (mc := 0) (ms := 0) (wf := fun u => []) C rfl (u := ()) hF hP hD hS dX7_isWithin_15 (Nat.le_of_ble_eq_true rfl) (Nat.le_of_ble_eq_true rfl)
  · have hF := hF.2 c_2
    refine lv_iload_n hx hb dX7_isWithin_5 rfl (lv_at hl 0 rfl) ?_
    refine lv_iload_n hx hb dX7_isWithin_6 rfl (lv_at hl 2 rfl) ?_
    refine lv_icmp_gt (tgt := 14) hx hb dX7_isWithin_7 (by decide) (fun c_7 => ?_) (fun c_7 => ?_)
    · have hF := hF.1 c_7
      refine lv_iconst (v := 0) hx hb dX7_isWithin_14 (by decide) ?_
      exact mb_ri (S := Unit) (mc := 0) (ms := 0) (wf := fun u => []) C rfl (u := ()) hF hP hD hS dX7_isWithin_15 (Nat.le_of_ble_eq_true rfl) (Nat.le_of_ble_eq_true rfl)
    · have hF := hF.2 c_7
      refine lv_iconst (v := 1) hx hb dX7_isWithin_10 (by decide) ?_
      refine lv_goto (tgt := 15) hx hb dX7_isWithin_11 (by decide) ?_
      exact mb_ri (S := Unit) (mc := 0) (ms := 0) (wf := fun u => []) C rfl (u := ()) hF hP hD hS dX7_isWithin_15 (Nat.le_of_ble_eq_true rfl) (Nat.le_of_ble_eq_true rfl)
end
section
noncomputable def PX5_mostAt_25 (N : Nat) (K : Int32 → Unit → Prop) (y0 : Int32) : Prop := (y0 = 0 → K (6 : Int32) ()) ∧ (¬ y0 = 0 → K (12 : Int32) ())
set_option maxHeartbeats 4000000 in
set_option maxRecDepth 100000 in
theorem wX5_mostAt_25 {p : Program} {l : Launch} {e : Env} {s : State} {m : MethodId} {below : List Frame} {meth : Method} {c : Code} {args : Array Value} {D : va_G} {Y : Nat → ClassId} {A : Nat → Prop} {N : Nat} {K : Int32 → Unit → Prop} (C : mb_Cx p s m meth c args cX5_mostAt 3 (some .int) wsX5_mostAt RX5 D Y A) : ∀ (y0 : Int32) (H : Heap) (locs : List Loc) (ls : Array Slot), PX5_mostAt_25 N K  y0 → va_P D vwCl (([] : va_W)) H → va_D A (([] : va_W)) → va_S A s.heap H locs → lv_has ls 3 [] → W p l e ({ frames := 1, cells := 0, slots := 0, locals := 22 } : Room) s m args below meth c H locs 0 0 (MQ below (va_Qi K (fun u t => mb_T D A ([]) t) A) args s 0 0 A) (F0 m 25 ls [.int y0]) := by
  obtain ⟨hx, hb, hr, hml, hts, hown, hlocks, hA, hG⟩ := id C
  have hK := hG.1
  intro y0 H locs ls hF hP hD hS hl
  refine lv_istore_n (lv' := [(2, .int y0)]) hx hb dX5_mostAt_25 rfl hl (by decide) rfl (fun ls hl => ?_)
  refine lv_iload_n hx hb dX5_mostAt_26 rfl (lv_at hl 0 rfl) ?_
  refine lv_if_eq (tgt := 35) hx hb dX5_mostAt_27 (by decide) (fun c_27 => ?_) (fun c_27 => ?_)
  · have hF := hF.1 c_27
    refine lv_bipush (v := 6) hx hb dX5_mostAt_35 (by decide) ?_
    exact mb_ri (S := Unit) (mc := 0) (ms := 0) (wf := fun u => []) C rfl (u := ()) hF hP hD hS dX5_mostAt_37 (Nat.le_of_ble_eq_true rfl) (Nat.le_of_ble_eq_true rfl)
  · have hF := hF.2 c_27
    refine lv_bipush (v := 12) hx hb dX5_mostAt_30 (by decide) ?_
    refine lv_goto (tgt := 37) hx hb dX5_mostAt_32 (by decide) ?_
    exact mb_ri (S := Unit) (mc := 0) (ms := 0) (wf := fun u => []) C rfl (u := ()) hF hP hD hS dX5_mostAt_37 (Nat.le_of_ble_eq_true rfl) (Nat.le_of_ble_eq_true rfl)
noncomputable def PX5_mostAt_24 (N : Nat) (K : Int32 → Unit → Prop) : Prop := PX5_mostAt_25 N K (0 : Int32)
set_option maxHeartbeats 4000000 in
set_option maxRecDepth 100000 in
theorem wX5_mostAt_24 {p : Program} {l : Launch} {e : Env} {s : State} {m : MethodId} {below : List Frame} {meth : Method} {c : Code} {args : Array Value} {D : va_G} {Y : Nat → ClassId} {A : Nat → Prop} {N : Nat} {K : Int32 → Unit → Prop} (C : mb_Cx p s m meth c args cX5_mostAt 3 (some .int) wsX5_mostAt RX5 D Y A) : ∀ (H : Heap) (locs : List Loc) (ls : Array Slot), PX5_mostAt_24 N K   → va_P D vwCl (([] : va_W)) H → va_D A (([] : va_W)) → va_S A s.heap H locs → lv_has ls 3 [] → W p l e ({ frames := 1, cells := 0, slots := 0, locals := 22 } : Room) s m args below meth c H locs 0 0 (MQ below (va_Qi K (fun u t => mb_T D A ([]) t) A) args s 0 0 A) (F0 m 24 ls []) := by
  obtain ⟨hx, hb, hr, hml, hts, hown, hlocks, hA, hG⟩ := id C
  have hK := hG.1
  intro  H locs ls hF hP hD hS hl
  refine lv_iconst (v := 0) hx hb dX5_mostAt_24 (by decide) ?_
  exact wX5_mostAt_25 C (0 : Int32) _ _ _ hF hP hD hS (lv_sub hl [] rfl)
noncomputable def PX5_mostAt (N : Nat) (x0 x1 : Int32) (K : Int32 → Unit → Prop) : Prop := PX7_isWithin N x0 (1 : Int32) (6 : Int32) (fun r4 _ => (r4 = 0 → PX5_mostAt_24 N K ) ∧ (¬ r4 = 0 → PX7_isWithin N x1 (1 : Int32) (6 : Int32) (fun r14 _ => (r14 = 0 → PX5_mostAt_24 N K ) ∧ (¬ r14 = 0 → PX5_mostAt_25 N K (1 : Int32)))))
set_option maxHeartbeats 4000000 in
set_option maxRecDepth 100000 in
theorem cnX5_mostAt (l : Launch) (D : va_G) (Y : Nat → ClassId) (N : Nat) (sz : Nat) (x0 x1 : Int32) (K : Int32 → Unit → Prop) (hF : PX5_mostAt N x0 x1 K) : Met l yX5_mostAt wsX5_mostAt ({ frames := 1, cells := 0, slots := 0, locals := 22 } : Room) (va_Pc [.int x0, .int x1] (mb_B D Y (([] : va_W)) sz)) (va_Qi K (fun u t => mb_T D (va_A (([] : va_W)) sz) ([]) t) (va_A (([] : va_W)) sz)) 0 0 (va_A (([] : va_W)) sz) := by
  refine mb_begin (cc := cX5_mostAt) (maxL := 3) (ret := (some .int)) (by decide +kernel) rfl (Nat.le_of_ble_eq_true rfl) ?_
  intro p e s m below meth c ls C hsz hnm hP hD hl
  generalize hAe : va_A (([] : va_W)) sz = A at C hD ⊢
  have C : mb_Cx p s m meth c ([.int x0, .int x1] : List Value).toArray cX5_mostAt 3 (some .int) wsX5_mostAt RX5 D Y A := C
  obtain ⟨hx, hb, hr, hml, hts, hown, hlocks, hA, hG⟩ := id C
  have hK := hG.1
  have hS : va_S A s.heap s.heap [] := va_S.rf
  have hl : lv_has ls 3 [(0, .int x0), (1, .int x1)] := hl
  refine lv_iload_n hx hb dX5_mostAt_0 rfl (lv_at hl 0 rfl) ?_
  refine lv_iconst (v := 1) hx hb dX5_mostAt_1 (by decide) ?_
  refine lv_bipush (v := 6) hx hb dX5_mostAt_2 (by decide) ?_
  refine mb_cE hP hS hA (va_runSN (As := [.int x0, .int (1 : Int32), .int (6 : Int32)]) (rest := []) ⟨hx, hb, hml, hown, hts⟩ (cnX7_isWithin l D Y N _ x0 (1 : Int32) (6 : Int32) _ hF) ⟨va_cnB 3 hts gX5_mostAt_X7_isWithin_n27 rfl rfl rfl (hG.2.1 _ (List.mem_of_getElem? (i := 25) rfl)) (hts (.initialized RX7) (List.mem_of_getElem? (i := 2) rfl)) (by decide +kernel) ⟨Nat.le_of_ble_eq_true rfl, Nat.le_of_ble_eq_true rfl⟩, hts (.static yX7_isWithin) (List.mem_of_getElem? (i := 1) rfl), trivial⟩ (mb_preS (A := A) hG mb_P0 mb_D0) rfl rfl hl.1 rfl (lv_room (Nat.le_of_ble_eq_true rfl)) dX5_mostAt_4 ⟨Nat.le_of_ble_eq_true rfl, Nat.le_of_ble_eq_true rfl⟩) (fun r4 H locs hF hP hS => ?_)
  refine lv_if_eq (tgt := 24) hx hb dX5_mostAt_7 (by decide) (fun c_7 => ?_) (fun c_7 => ?_)
  · have hF := hF.1 c_7
    exact wX5_mostAt_24 C  _ _ _ hF hP hD hS (lv_sub hl [] rfl)
  · have hF := hF.2 c_7
    refine lv_iload_n hx hb dX5_mostAt_10 rfl (lv_at hl 1 rfl) ?_
    refine lv_iconst (v := 1) hx hb dX5_mostAt_11 (by decide) ?_
    refine lv_bipush (v := 6) hx hb dX5_mostAt_12 (by decide) ?_
    refine mb_cE hP hS hA (va_runSN (As := [.int x1, .int (1 : Int32), .int (6 : Int32)]) (rest := []) ⟨hx, hb, hml, hown, hts⟩ (cnX7_isWithin l D Y N _ x1 (1 : Int32) (6 : Int32) _ hF) ⟨va_cnB 3 hts gX5_mostAt_X7_isWithin_n27 rfl rfl rfl (hG.2.1 _ (List.mem_of_getElem? (i := 25) rfl)) (hts (.initialized RX7) (List.mem_of_getElem? (i := 2) rfl)) (by decide +kernel) ⟨Nat.le_of_ble_eq_true rfl, Nat.le_of_ble_eq_true rfl⟩, hts (.static yX7_isWithin) (List.mem_of_getElem? (i := 1) rfl), trivial⟩ (mb_preS (A := A) hG mb_P0 mb_D0) rfl rfl hl.1 rfl (lv_room (Nat.le_of_ble_eq_true rfl)) dX5_mostAt_14 ⟨Nat.le_of_ble_eq_true rfl, Nat.le_of_ble_eq_true rfl⟩) (fun r14 H locs hF hP hS => ?_)
    refine lv_if_eq (tgt := 24) hx hb dX5_mostAt_17 (by decide) (fun c_17 => ?_) (fun c_17 => ?_)
    · have hF := hF.1 c_17
      exact wX5_mostAt_24 C  _ _ _ hF hP hD hS (lv_sub hl [] rfl)
    · have hF := hF.2 c_17
      refine lv_iconst (v := 1) hx hb dX5_mostAt_20 (by decide) ?_
      refine lv_goto (tgt := 25) hx hb dX5_mostAt_21 (by decide) ?_
      exact wX5_mostAt_25 C (1 : Int32) _ _ _ hF hP hD hS (lv_sub hl [] rfl)
end
section
noncomputable def PX7_isOnSide (N : Nat) (x0 : Int32) (K : Int32 → Unit → Prop) : Prop := PX7_isWithin N x0 (0 : Int32) (7 : Int32) (fun r4 _ => mb_isB r4 ∧ (K r4 ()))
set_option maxHeartbeats 4000000 in
set_option maxRecDepth 100000 in
theorem cnX7_isOnSide (l : Launch) (D : va_G) (Y : Nat → ClassId) (N : Nat) (sz : Nat) (x0 : Int32) (K : Int32 → Unit → Prop) (hF : PX7_isOnSide N x0 K) : Met l yX7_isOnSide wsX7_isOnSide ({ frames := 1, cells := 0, slots := 0, locals := 22 } : Room) (va_Pc [.int x0] (mb_B D Y (([] : va_W)) sz)) (va_Qi K (fun u t => mb_T D (va_A (([] : va_W)) sz) ([]) t) (va_A (([] : va_W)) sz)) 0 0 (va_A (([] : va_W)) sz) := by
  refine mb_begin (cc := cX7_isOnSide) (maxL := 1) (ret := (some .boolean)) (by decide +kernel) rfl (Nat.le_of_ble_eq_true rfl) ?_
  intro p e s m below meth c ls C hsz hnm hP hD hl
  generalize hAe : va_A (([] : va_W)) sz = A at C hD ⊢
  have C : mb_Cx p s m meth c ([.int x0] : List Value).toArray cX7_isOnSide 1 (some .boolean) wsX7_isOnSide RX7 D Y A := C
  obtain ⟨hx, hb, hr, hml, hts, hown, hlocks, hA, hG⟩ := id C
  have hK := hG.1
  have hS : va_S A s.heap s.heap [] := va_S.rf
  have hl : lv_has ls 1 [(0, .int x0)] := hl
  refine lv_iload_n hx hb dX7_isOnSide_0 rfl (lv_at hl 0 rfl) ?_
  refine lv_iconst (v := 0) hx hb dX7_isOnSide_1 (by decide) ?_
  refine lv_bipush (v := 7) hx hb dX7_isOnSide_2 (by decide) ?_
  refine mb_cE hP hS hA (va_runS (As := [.int x0, .int (0 : Int32), .int (7 : Int32)]) (rest := []) ⟨hx, hb, hml, hown, hts⟩ (cnX7_isWithin l D Y N _ x0 (0 : Int32) (7 : Int32) _ hF) (va_cwS 3 hts gX7_isOnSide_X7_isWithin rfl rfl rfl (by decide +kernel) ⟨Nat.le_of_ble_eq_true rfl, Nat.le_of_ble_eq_true rfl⟩) (mb_preS (A := A) hG mb_P0 mb_D0) rfl rfl hl.1 rfl (lv_room (Nat.le_of_ble_eq_true rfl)) dX7_isOnSide_4 ⟨Nat.le_of_ble_eq_true rfl, Nat.le_of_ble_eq_true rfl⟩) (fun r4 H locs hF hP hS => ?_)
  obtain ⟨hz7, hF⟩ := hF
  exact mb_ri (S := Unit) (mc := 0) (ms := 0) (wf := fun u => []) C (mb_isB_n hz7) (u := ()) hF hP hD hS dX7_isOnSide_7 (Nat.le_of_ble_eq_true rfl) (Nat.le_of_ble_eq_true rfl)
end
section
noncomputable def PX7_isOnGrid (N : Nat) (x0 x1 : Int32) (K : Int32 → Unit → Prop) : Prop := PX7_isOnSide N x0 (fun r1 _ => (r1 = 0 → K (0 : Int32) ()) ∧ (¬ r1 = 0 → PX7_isOnSide N x1 (fun r8 _ => (r8 = 0 → K (0 : Int32) ()) ∧ (¬ r8 = 0 → K (1 : Int32) ()))))
set_option maxHeartbeats 4000000 in
set_option maxRecDepth 100000 in
theorem cnX7_isOnGrid (l : Launch) (D : va_G) (Y : Nat → ClassId) (N : Nat) (sz : Nat) (x0 x1 : Int32) (K : Int32 → Unit → Prop) (hF : PX7_isOnGrid N x0 x1 K) : Met l yX7_isOnGrid wsX7_isOnGrid ({ frames := 2, cells := 0, slots := 0, locals := 42 } : Room) (va_Pc [.int x0, .int x1] (mb_B D Y (([] : va_W)) sz)) (va_Qi K (fun u t => mb_T D (va_A (([] : va_W)) sz) ([]) t) (va_A (([] : va_W)) sz)) 0 0 (va_A (([] : va_W)) sz) := by
  refine mb_begin (cc := cX7_isOnGrid) (maxL := 2) (ret := (some .boolean)) (by decide +kernel) rfl (Nat.le_of_ble_eq_true rfl) ?_
  intro p e s m below meth c ls C hsz hnm hP hD hl
  generalize hAe : va_A (([] : va_W)) sz = A at C hD ⊢
  have C : mb_Cx p s m meth c ([.int x0, .int x1] : List Value).toArray cX7_isOnGrid 2 (some .boolean) wsX7_isOnGrid RX7 D Y A := C
  obtain ⟨hx, hb, hr, hml, hts, hown, hlocks, hA, hG⟩ := id C
  have hK := hG.1
  have hS : va_S A s.heap s.heap [] := va_S.rf
  have hl : lv_has ls 2 [(0, .int x0), (1, .int x1)] := hl
  refine lv_iload_n hx hb dX7_isOnGrid_0 rfl (lv_at hl 0 rfl) ?_
  refine mb_cE hP hS hA (va_runS (As := [.int x0]) (rest := []) ⟨hx, hb, hml, hown, hts⟩ (cnX7_isOnSide l D Y N _ x0 _ hF) (va_cwS 1 hts gX7_isOnGrid_X7_isOnSide rfl rfl rfl (by decide +kernel) ⟨Nat.le_of_ble_eq_true rfl, Nat.le_of_ble_eq_true rfl⟩) (mb_preS (A := A) hG mb_P0 mb_D0) rfl rfl hl.1 rfl (lv_room (Nat.le_of_ble_eq_true rfl)) dX7_isOnGrid_1 ⟨Nat.le_of_ble_eq_true rfl, Nat.le_of_ble_eq_true rfl⟩) (fun r1 H locs hF hP hS => ?_)
  refine lv_if_eq (tgt := 18) hx hb dX7_isOnGrid_4 (by decide) (fun c_4 => ?_) (fun c_4 => ?_)
  · have hF := hF.1 c_4
    refine lv_iconst (v := 0) hx hb dX7_isOnGrid_18 (by decide) ?_
    exact mb_ri (S := Unit) (mc := 0) (ms := 0) (wf := fun u => []) C rfl (u := ()) hF hP hD hS dX7_isOnGrid_19 (Nat.le_of_ble_eq_true rfl) (Nat.le_of_ble_eq_true rfl)
  · have hF := hF.2 c_4
    refine lv_iload_n hx hb dX7_isOnGrid_7 rfl (lv_at hl 1 rfl) ?_
    refine mb_cE hP hS hA (va_runS (As := [.int x1]) (rest := []) ⟨hx, hb, hml, hown, hts⟩ (cnX7_isOnSide l D Y N _ x1 _ hF) (va_cwS 1 hts gX7_isOnGrid_X7_isOnSide rfl rfl rfl (by decide +kernel) ⟨Nat.le_of_ble_eq_true rfl, Nat.le_of_ble_eq_true rfl⟩) (mb_preS (A := A) hG mb_P0 mb_D0) rfl rfl hl.1 rfl (lv_room (Nat.le_of_ble_eq_true rfl)) dX7_isOnGrid_8 ⟨Nat.le_of_ble_eq_true rfl, Nat.le_of_ble_eq_true rfl⟩) (fun r8 H locs hF hP hS => ?_)
    refine lv_if_eq (tgt := 18) hx hb dX7_isOnGrid_11 (by decide) (fun c_11 => ?_) (fun c_11 => ?_)
    · have hF := hF.1 c_11
      refine lv_iconst (v := 0) hx hb dX7_isOnGrid_18 (by decide) ?_
      exact mb_ri (S := Unit) (mc := 0) (ms := 0) (wf := fun u => []) C rfl (u := ()) hF hP hD hS dX7_isOnGrid_19 (Nat.le_of_ble_eq_true rfl) (Nat.le_of_ble_eq_true rfl)
    · have hF := hF.2 c_11
      refine lv_iconst (v := 1) hx hb dX7_isOnGrid_14 (by decide) ?_
      refine lv_goto (tgt := 19) hx hb dX7_isOnGrid_15 (by decide) ?_
      exact mb_ri (S := Unit) (mc := 0) (ms := 0) (wf := fun u => []) C rfl (u := ()) hF hP hD hS dX7_isOnGrid_19 (Nat.le_of_ble_eq_true rfl) (Nat.le_of_ble_eq_true rfl)
end
section
noncomputable def PX7_cellOf (N : Nat) (x0 x1 : Int32) (K : Int32 → Unit → Prop) : Prop := K ((x1 * (8 : Int32)) + x0) ()
set_option maxHeartbeats 4000000 in
set_option maxRecDepth 100000 in
theorem cnX7_cellOf (l : Launch) (D : va_G) (Y : Nat → ClassId) (N : Nat) (sz : Nat) (x0 x1 : Int32) (K : Int32 → Unit → Prop) (hF : PX7_cellOf N x0 x1 K) : Met l yX7_cellOf wsX7_cellOf ({ frames := 0, cells := 0, slots := 0, locals := 0 } : Room) (va_Pc [.int x0, .int x1] (mb_B D Y (([] : va_W)) sz)) (va_Qi K (fun u t => mb_T D (va_A (([] : va_W)) sz) ([]) t) (va_A (([] : va_W)) sz)) 0 0 (va_A (([] : va_W)) sz) := by
  refine mb_begin (cc := cX7_cellOf) (maxL := 2) (ret := (some .int)) (by decide +kernel) rfl (Nat.le_of_ble_eq_true rfl) ?_
  intro p e s m below meth c ls C hsz hnm hP hD hl
  generalize hAe : va_A (([] : va_W)) sz = A at C hD ⊢
  have C : mb_Cx p s m meth c ([.int x0, .int x1] : List Value).toArray cX7_cellOf 2 (some .int) wsX7_cellOf RX7 D Y A := C
  obtain ⟨hx, hb, hr, hml, hts, hown, hlocks, hA, hG⟩ := id C
  have hK := hG.1
  have hS : va_S A s.heap s.heap [] := va_S.rf
  have hl : lv_has ls 2 [(0, .int x0), (1, .int x1)] := hl
  refine lv_iload_n hx hb dX7_cellOf_0 rfl (lv_at hl 1 rfl) ?_
  refine lv_bipush (v := 8) hx hb dX7_cellOf_1 (by decide) ?_
  refine lv_imul hx hb dX7_cellOf_3 ?_
  refine lv_iload_n hx hb dX7_cellOf_4 rfl (lv_at hl 0 rfl) ?_
  refine lv_iadd hx hb dX7_cellOf_5 ?_
  exact mb_ri (S := Unit) (mc := 0) (ms := 0) (wf := fun u => []) C rfl (u := ()) hF hP hD hS dX7_cellOf_6 (Nat.le_of_ble_eq_true rfl) (Nat.le_of_ble_eq_true rfl)
end
section
noncomputable def PX7_canBeUndone (N : Nat) (x0 : Int32) (K : Int32 → Unit → Prop) : Prop := ((2 : Int32) < x0 → K (0 : Int32) ()) ∧ (¬ (2 : Int32) < x0 → K (1 : Int32) ())
set_option maxHeartbeats 4000000 in
set_option maxRecDepth 100000 in
theorem cnX7_canBeUndone (l : Launch) (D : va_G) (Y : Nat → ClassId) (N : Nat) (sz : Nat) (x0 : Int32) (K : Int32 → Unit → Prop) (hF : PX7_canBeUndone N x0 K) : Met l yX7_canBeUndone wsX7_canBeUndone ({ frames := 0, cells := 0, slots := 0, locals := 0 } : Room) (va_Pc [.int x0] (mb_B D Y (([] : va_W)) sz)) (va_Qi K (fun u t => mb_T D (va_A (([] : va_W)) sz) ([]) t) (va_A (([] : va_W)) sz)) 0 0 (va_A (([] : va_W)) sz) := by
  refine mb_begin (cc := cX7_canBeUndone) (maxL := 1) (ret := (some .boolean)) (by decide +kernel) rfl (Nat.le_of_ble_eq_true rfl) ?_
  intro p e s m below meth c ls C hsz hnm hP hD hl
  generalize hAe : va_A (([] : va_W)) sz = A at C hD ⊢
  have C : mb_Cx p s m meth c ([.int x0] : List Value).toArray cX7_canBeUndone 1 (some .boolean) wsX7_canBeUndone RX7 D Y A := C
  obtain ⟨hx, hb, hr, hml, hts, hown, hlocks, hA, hG⟩ := id C
  have hK := hG.1
  have hS : va_S A s.heap s.heap [] := va_S.rf
  have hl : lv_has ls 1 [(0, .int x0)] := hl
  refine lv_iload_n hx hb dX7_canBeUndone_0 rfl (lv_at hl 0 rfl) ?_
  refine lv_iconst (v := 2) hx hb dX7_canBeUndone_1 (by decide) ?_
  refine lv_icmp_gt (tgt := 9) hx hb dX7_canBeUndone_2 (by decide) (fun c_2 => ?_) (fun c_2 => ?_)
  · have hF := hF.1 c_2
    refine lv_iconst (v := 0) hx hb dX7_canBeUndone_9 (by decide) ?_
    exact mb_ri (S := Unit) (mc := 0) (ms := 0) (wf := fun u => []) C rfl (u := ()) hF hP hD hS dX7_canBeUndone_10 (Nat.le_of_ble_eq_true rfl) (Nat.le_of_ble_eq_true rfl)
  · have hF := hF.2 c_2
    refine lv_iconst (v := 1) hx hb dX7_canBeUndone_5 (by decide) ?_
    refine lv_goto (tgt := 10) hx hb dX7_canBeUndone_6 (by decide) ?_
    exact mb_ri (S := Unit) (mc := 0) (ms := 0) (wf := fun u => []) C rfl (u := ()) hF hP hD hS dX7_canBeUndone_10 (Nat.le_of_ble_eq_true rfl) (Nat.le_of_ble_eq_true rfl)
end
section
noncomputable def PX7_columnsOf (N : Nat) (x0 : Int32) (K : Int32 → Unit → Prop) : Prop := K ((1 : Int32) <<< (((x0 + (1 : Int32)) / (2 : Int32)) &&& 31)) ()
set_option maxHeartbeats 4000000 in
set_option maxRecDepth 100000 in
theorem cnX7_columnsOf (l : Launch) (D : va_G) (Y : Nat → ClassId) (N : Nat) (sz : Nat) (x0 : Int32) (K : Int32 → Unit → Prop) (hF : PX7_columnsOf N x0 K) : Met l yX7_columnsOf wsX7_columnsOf ({ frames := 0, cells := 0, slots := 0, locals := 0 } : Room) (va_Pc [.int x0] (mb_B D Y (([] : va_W)) sz)) (va_Qi K (fun u t => mb_T D (va_A (([] : va_W)) sz) ([]) t) (va_A (([] : va_W)) sz)) 0 0 (va_A (([] : va_W)) sz) := by
  refine mb_begin (cc := cX7_columnsOf) (maxL := 1) (ret := (some .int)) (by decide +kernel) rfl (Nat.le_of_ble_eq_true rfl) ?_
  intro p e s m below meth c ls C hsz hnm hP hD hl
  generalize hAe : va_A (([] : va_W)) sz = A at C hD ⊢
  have C : mb_Cx p s m meth c ([.int x0] : List Value).toArray cX7_columnsOf 1 (some .int) wsX7_columnsOf RX7 D Y A := C
  obtain ⟨hx, hb, hr, hml, hts, hown, hlocks, hA, hG⟩ := id C
  have hK := hG.1
  have hS : va_S A s.heap s.heap [] := va_S.rf
  have hl : lv_has ls 1 [(0, .int x0)] := hl
  refine lv_iconst (v := 1) hx hb dX7_columnsOf_0 (by decide) ?_
  refine lv_iload_n hx hb dX7_columnsOf_1 rfl (lv_at hl 0 rfl) ?_
  refine lv_iconst (v := 1) hx hb dX7_columnsOf_2 (by decide) ?_
  refine lv_iadd hx hb dX7_columnsOf_3 ?_
  refine lv_iconst (v := 2) hx hb dX7_columnsOf_4 (by decide) ?_
  refine lv_idiv hx hb dX7_columnsOf_5 (by decide) ?_
  refine lv_ishl hx hb dX7_columnsOf_6 ?_
  exact mb_ri (S := Unit) (mc := 0) (ms := 0) (wf := fun u => []) C rfl (u := ()) hF hP hD hS dX7_columnsOf_7 (Nat.le_of_ble_eq_true rfl) (Nat.le_of_ble_eq_true rfl)
end
section
noncomputable def PX7_rowsOf (N : Nat) (x0 : Int32) (K : Int32 → Unit → Prop) : Prop := K ((1 : Int32) <<< ((x0 / (2 : Int32)) &&& 31)) ()
set_option maxHeartbeats 4000000 in
set_option maxRecDepth 100000 in
theorem cnX7_rowsOf (l : Launch) (D : va_G) (Y : Nat → ClassId) (N : Nat) (sz : Nat) (x0 : Int32) (K : Int32 → Unit → Prop) (hF : PX7_rowsOf N x0 K) : Met l yX7_rowsOf wsX7_rowsOf ({ frames := 0, cells := 0, slots := 0, locals := 0 } : Room) (va_Pc [.int x0] (mb_B D Y (([] : va_W)) sz)) (va_Qi K (fun u t => mb_T D (va_A (([] : va_W)) sz) ([]) t) (va_A (([] : va_W)) sz)) 0 0 (va_A (([] : va_W)) sz) := by
  refine mb_begin (cc := cX7_rowsOf) (maxL := 1) (ret := (some .int)) (by decide +kernel) rfl (Nat.le_of_ble_eq_true rfl) ?_
  intro p e s m below meth c ls C hsz hnm hP hD hl
  generalize hAe : va_A (([] : va_W)) sz = A at C hD ⊢
  have C : mb_Cx p s m meth c ([.int x0] : List Value).toArray cX7_rowsOf 1 (some .int) wsX7_rowsOf RX7 D Y A := C
  obtain ⟨hx, hb, hr, hml, hts, hown, hlocks, hA, hG⟩ := id C
  have hK := hG.1
  have hS : va_S A s.heap s.heap [] := va_S.rf
  have hl : lv_has ls 1 [(0, .int x0)] := hl
  refine lv_iconst (v := 1) hx hb dX7_rowsOf_0 (by decide) ?_
  refine lv_iload_n hx hb dX7_rowsOf_1 rfl (lv_at hl 0 rfl) ?_
  refine lv_iconst (v := 2) hx hb dX7_rowsOf_2 (by decide) ?_
  refine lv_idiv hx hb dX7_rowsOf_3 (by decide) ?_
  refine lv_ishl hx hb dX7_rowsOf_4 ?_
  exact mb_ri (S := Unit) (mc := 0) (ms := 0) (wf := fun u => []) C rfl (u := ()) hF hP hD hS dX7_rowsOf_5 (Nat.le_of_ble_eq_true rfl) (Nat.le_of_ble_eq_true rfl)
end
section
noncomputable def PX7_foldedPage_139 (N : Nat) (K : Int32 → Unit → Prop) (b29 : Int32 → Int32 → Int32 → Int32 → Int32 → Int32 → Int32 → Int32 → Prop) (x0 x2 x3 x4 x5 x6 x8 y0 : Int32) : Prop := ∀ v145 : Int32, v145 = (x6 * (2 : Int32)) → (∀ v147 : Int32, v147 = x8 + (1 : Int32) → (b29 x0 x2 x3 x4 x5 v145 y0 v147))
set_option maxHeartbeats 4000000 in
set_option maxRecDepth 100000 in
theorem wX7_foldedPage_139 {p : Program} {l : Launch} {e : Env} {s : State} {m : MethodId} {below : List Frame} {meth : Method} {c : Code} {args : Array Value} {D : va_G} {Y : Nat → ClassId} {A : Nat → Prop} {N : Nat} {K : Int32 → Unit → Prop} {b29 : Int32 → Int32 → Int32 → Int32 → Int32 → Int32 → Int32 → Int32 → Prop} (C : mb_Cx p s m meth c args cX7_foldedPage 10 (some .int) wsX7_foldedPage RX7 D Y A) (hb29 : ∀ (x0 x2 x3 x4 x5 x6 x7 x8 : Int32) (H : Heap) (locs : List Loc) (ls : Array Slot), b29 x0 x2 x3 x4 x5 x6 x7 x8 → va_P D vwCl (([] : va_W)) H → va_D A (([] : va_W)) → va_S A s.heap H locs → lv_has ls 10 [(0, .int x0), (2, .int x2), (3, .int x3), (4, .int x4), (5, .int x5), (6, .int x6), (7, .int x7), (8, .int x8)] → W p l e ({ frames := 1, cells := 0, slots := 0, locals := 20 } : Room) s m args below meth c H locs 0 0 (MQ below (va_Qi K (fun u t => mb_T D A ([]) t) A) args s 0 0 A) (F0 m 29 ls [])) : ∀ (x0 x2 x3 x4 x5 x6 x8 y0 : Int32) (H : Heap) (locs : List Loc) (ls : Array Slot), PX7_foldedPage_139 N K b29 x0 x2 x3 x4 x5 x6 x8 y0 → va_P D vwCl (([] : va_W)) H → va_D A (([] : va_W)) → va_S A s.heap H locs → lv_has ls 10 [(0, .int x0), (2, .int x2), (3, .int x3), (4, .int x4), (5, .int x5), (6, .int x6), (8, .int x8)] → W p l e ({ frames := 1, cells := 0, slots := 0, locals := 20 } : Room) s m args below meth c H locs 0 0 (MQ below (va_Qi K (fun u t => mb_T D A ([]) t) A) args s 0 0 A) (F0 m 139 ls [.int y0]) := by
  obtain ⟨hx, hb, hr, hml, hts, hown, hlocks, hA, hG⟩ := id C
  have hK := hG.1
  intro x0 x2 x3 x4 x5 x6 x8 y0 H locs ls hF hP hD hS hl
  refine lv_istore (lv' := [(7, .int y0), (0, .int x0), (2, .int x2), (3, .int x3), (4, .int x4), (5, .int x5), (6, .int x6), (8, .int x8)]) hx hb dX7_foldedPage_139 hl (by decide) rfl (fun ls hl => ?_)
  refine lv_iload hx hb dX7_foldedPage_141 (lv_at hl 6 rfl) ?_
  refine lv_iconst (v := 2) hx hb dX7_foldedPage_143 (by decide) ?_
  refine lv_imul hx hb dX7_foldedPage_144 ?_
  refine lv_topi (fun v145 ev145 => ?_)
  have hF := hF v145 ev145
  refine lv_istore (lv' := [(6, .int v145), (7, .int y0), (0, .int x0), (2, .int x2), (3, .int x3), (4, .int x4), (5, .int x5), (8, .int x8)]) hx hb dX7_foldedPage_145 hl (by decide) rfl (fun ls hl => ?_)
  obtain ⟨v147, ev147⟩ : ∃ y : Int32, y = x8 + (1 : Int32) := ⟨_, rfl⟩
  have hF := hF v147 ev147
  refine lv_iinc (v := v147) (lv' := [(8, .int v147), (6, .int v145), (7, .int y0), (0, .int x0), (2, .int x2), (3, .int x3), (4, .int x4), (5, .int x5)]) hx hb dX7_foldedPage_147 hl (k := 7) rfl (by rw [ev147]; rfl) (by decide) rfl (fun ls hl => ?_)
  refine lv_goto (tgt := 29) hx hb dX7_foldedPage_150 (by decide) ?_
  exact hb29 x0 x2 x3 x4 x5 v145 y0 v147 _ _ _ hF hP hD hS (lv_sub hl [3, 4, 5, 6, 7, 1, 2, 0] rfl)
noncomputable def PX7_foldedPage_119 (N : Nat) (K : Int32 → Unit → Prop) (b29 : Int32 → Int32 → Int32 → Int32 → Int32 → Int32 → Int32 → Int32 → Prop) (x0 x2 x3 x4 x5 x6 x7 x8 x9 : Int32) : Prop := (x9 = 0 → PX7_foldedPage_139 N K b29 x0 x2 x3 x4 x5 x6 x8 (x6 + x7)) ∧ (¬ x9 = 0 → PX7_foldedPage_139 N K b29 x0 x2 x3 x4 x5 x6 x8 ((x6 + (1 : Int32)) - x7))
set_option maxHeartbeats 4000000 in
set_option maxRecDepth 100000 in
theorem wX7_foldedPage_119 {p : Program} {l : Launch} {e : Env} {s : State} {m : MethodId} {below : List Frame} {meth : Method} {c : Code} {args : Array Value} {D : va_G} {Y : Nat → ClassId} {A : Nat → Prop} {N : Nat} {K : Int32 → Unit → Prop} {b29 : Int32 → Int32 → Int32 → Int32 → Int32 → Int32 → Int32 → Int32 → Prop} (C : mb_Cx p s m meth c args cX7_foldedPage 10 (some .int) wsX7_foldedPage RX7 D Y A) (hb29 : ∀ (x0 x2 x3 x4 x5 x6 x7 x8 : Int32) (H : Heap) (locs : List Loc) (ls : Array Slot), b29 x0 x2 x3 x4 x5 x6 x7 x8 → va_P D vwCl (([] : va_W)) H → va_D A (([] : va_W)) → va_S A s.heap H locs → lv_has ls 10 [(0, .int x0), (2, .int x2), (3, .int x3), (4, .int x4), (5, .int x5), (6, .int x6), (7, .int x7), (8, .int x8)] → W p l e ({ frames := 1, cells := 0, slots := 0, locals := 20 } : Room) s m args below meth c H locs 0 0 (MQ below (va_Qi K (fun u t => mb_T D A ([]) t) A) args s 0 0 A) (F0 m 29 ls [])) : ∀ (x0 x2 x3 x4 x5 x6 x7 x8 x9 : Int32) (H : Heap) (locs : List Loc) (ls : Array Slot), PX7_foldedPage_119 N K b29 x0 x2 x3 x4 x5 x6 x7 x8 x9 → va_P D vwCl (([] : va_W)) H → va_D A (([] : va_W)) → va_S A s.heap H locs → lv_has ls 10 [(0, .int x0), (2, .int x2), (3, .int x3), (4, .int x4), (5, .int x5), (6, .int x6), (7, .int x7), (8, .int x8), (9, .int x9)] → W p l e ({ frames := 1, cells := 0, slots := 0, locals := 20 } : Room) s m args below meth c H locs 0 0 (MQ below (va_Qi K (fun u t => mb_T D A ([]) t) A) args s 0 0 A) (F0 m 119 ls []) := by
  obtain ⟨hx, hb, hr, hml, hts, hown, hlocks, hA, hG⟩ := id C
  have hK := hG.1
  intro x0 x2 x3 x4 x5 x6 x7 x8 x9 H locs ls hF hP hD hS hl
  refine lv_iload hx hb dX7_foldedPage_119 (lv_at hl 8 rfl) ?_
  refine lv_if_eq (tgt := 134) hx hb dX7_foldedPage_121 (by decide) (fun c_121 => ?_) (fun c_121 => ?_)
  · have hF := hF.1 c_121
    refine lv_iload hx hb dX7_foldedPage_134 (lv_at hl 5 rfl) ?_
    refine lv_iload hx hb dX7_foldedPage_136 (lv_at hl 6 rfl) ?_
    refine lv_iadd hx hb dX7_foldedPage_138 ?_
    exact wX7_foldedPage_139 C hb29 x0 x2 x3 x4 x5 x6 x8 (x6 + x7) _ _ _ hF hP hD hS (lv_sub hl [0, 1, 2, 3, 4, 5, 7] rfl)
  · have hF := hF.2 c_121
    refine lv_iload hx hb dX7_foldedPage_124 (lv_at hl 5 rfl) ?_
    refine lv_iconst (v := 1) hx hb dX7_foldedPage_126 (by decide) ?_
    refine lv_iadd hx hb dX7_foldedPage_127 ?_
    refine lv_iload hx hb dX7_foldedPage_128 (lv_at hl 6 rfl) ?_
    refine lv_isub hx hb dX7_foldedPage_130 ?_
    refine lv_goto (tgt := 139) hx hb dX7_foldedPage_131 (by decide) ?_
    exact wX7_foldedPage_139 C hb29 x0 x2 x3 x4 x5 x6 x8 ((x6 + (1 : Int32)) - x7) _ _ _ hF hP hD hS (lv_sub hl [0, 1, 2, 3, 4, 5, 7] rfl)
noncomputable def PX7_foldedPage_78 (N : Nat) (K : Int32 → Unit → Prop) (b29 : Int32 → Int32 → Int32 → Int32 → Int32 → Int32 → Int32 → Int32 → Prop) (x0 x3 x4 x5 x6 x7 x8 x9 y0 : Int32) : Prop := PX7_foldedPage_119 N K b29 x0 y0 x3 x4 x5 x6 x7 x8 x9
set_option maxHeartbeats 4000000 in
set_option maxRecDepth 100000 in
theorem wX7_foldedPage_78 {p : Program} {l : Launch} {e : Env} {s : State} {m : MethodId} {below : List Frame} {meth : Method} {c : Code} {args : Array Value} {D : va_G} {Y : Nat → ClassId} {A : Nat → Prop} {N : Nat} {K : Int32 → Unit → Prop} {b29 : Int32 → Int32 → Int32 → Int32 → Int32 → Int32 → Int32 → Int32 → Prop} (C : mb_Cx p s m meth c args cX7_foldedPage 10 (some .int) wsX7_foldedPage RX7 D Y A) (hb29 : ∀ (x0 x2 x3 x4 x5 x6 x7 x8 : Int32) (H : Heap) (locs : List Loc) (ls : Array Slot), b29 x0 x2 x3 x4 x5 x6 x7 x8 → va_P D vwCl (([] : va_W)) H → va_D A (([] : va_W)) → va_S A s.heap H locs → lv_has ls 10 [(0, .int x0), (2, .int x2), (3, .int x3), (4, .int x4), (5, .int x5), (6, .int x6), (7, .int x7), (8, .int x8)] → W p l e ({ frames := 1, cells := 0, slots := 0, locals := 20 } : Room) s m args below meth c H locs 0 0 (MQ below (va_Qi K (fun u t => mb_T D A ([]) t) A) args s 0 0 A) (F0 m 29 ls [])) : ∀ (x0 x3 x4 x5 x6 x7 x8 x9 y0 : Int32) (H : Heap) (locs : List Loc) (ls : Array Slot), PX7_foldedPage_78 N K b29 x0 x3 x4 x5 x6 x7 x8 x9 y0 → va_P D vwCl (([] : va_W)) H → va_D A (([] : va_W)) → va_S A s.heap H locs → lv_has ls 10 [(0, .int x0), (3, .int x3), (4, .int x4), (5, .int x5), (6, .int x6), (7, .int x7), (8, .int x8), (9, .int x9)] → W p l e ({ frames := 1, cells := 0, slots := 0, locals := 20 } : Room) s m args below meth c H locs 0 0 (MQ below (va_Qi K (fun u t => mb_T D A ([]) t) A) args s 0 0 A) (F0 m 78 ls [.int y0]) := by
  obtain ⟨hx, hb, hr, hml, hts, hown, hlocks, hA, hG⟩ := id C
  have hK := hG.1
  intro x0 x3 x4 x5 x6 x7 x8 x9 y0 H locs ls hF hP hD hS hl
  refine lv_istore_n (lv' := [(2, .int y0), (0, .int x0), (3, .int x3), (4, .int x4), (5, .int x5), (6, .int x6), (7, .int x7), (8, .int x8), (9, .int x9)]) hx hb dX7_foldedPage_78 rfl hl (by decide) rfl (fun ls hl => ?_)
  refine lv_goto (tgt := 119) hx hb dX7_foldedPage_79 (by decide) ?_
  exact wX7_foldedPage_119 C hb29 x0 y0 x3 x4 x5 x6 x7 x8 x9 _ _ _ hF hP hD hS (lv_sub hl [1, 0, 2, 3, 4, 5, 6, 7, 8] rfl)
noncomputable def PX7_foldedPage_59 (N : Nat) (K : Int32 → Unit → Prop) (b29 : Int32 → Int32 → Int32 → Int32 → Int32 → Int32 → Int32 → Int32 → Prop) (x0 x2 x3 x4 x5 x6 x7 x8 y0 : Int32) : Prop := (y0 = 0 → PX7_foldedPage_78 N K b29 x0 x3 x4 x5 x6 x7 x8 y0 x2) ∧ (¬ y0 = 0 → PX7_foldedPage_78 N K b29 x0 x3 x4 x5 x6 x7 x8 y0 ((((2 : Int32) * x4) - (1 : Int32)) - x2))
set_option maxHeartbeats 4000000 in
set_option maxRecDepth 100000 in
theorem wX7_foldedPage_59 {p : Program} {l : Launch} {e : Env} {s : State} {m : MethodId} {below : List Frame} {meth : Method} {c : Code} {args : Array Value} {D : va_G} {Y : Nat → ClassId} {A : Nat → Prop} {N : Nat} {K : Int32 → Unit → Prop} {b29 : Int32 → Int32 → Int32 → Int32 → Int32 → Int32 → Int32 → Int32 → Prop} (C : mb_Cx p s m meth c args cX7_foldedPage 10 (some .int) wsX7_foldedPage RX7 D Y A) (hb29 : ∀ (x0 x2 x3 x4 x5 x6 x7 x8 : Int32) (H : Heap) (locs : List Loc) (ls : Array Slot), b29 x0 x2 x3 x4 x5 x6 x7 x8 → va_P D vwCl (([] : va_W)) H → va_D A (([] : va_W)) → va_S A s.heap H locs → lv_has ls 10 [(0, .int x0), (2, .int x2), (3, .int x3), (4, .int x4), (5, .int x5), (6, .int x6), (7, .int x7), (8, .int x8)] → W p l e ({ frames := 1, cells := 0, slots := 0, locals := 20 } : Room) s m args below meth c H locs 0 0 (MQ below (va_Qi K (fun u t => mb_T D A ([]) t) A) args s 0 0 A) (F0 m 29 ls [])) : ∀ (x0 x2 x3 x4 x5 x6 x7 x8 y0 : Int32) (H : Heap) (locs : List Loc) (ls : Array Slot), PX7_foldedPage_59 N K b29 x0 x2 x3 x4 x5 x6 x7 x8 y0 → va_P D vwCl (([] : va_W)) H → va_D A (([] : va_W)) → va_S A s.heap H locs → lv_has ls 10 [(0, .int x0), (2, .int x2), (3, .int x3), (4, .int x4), (5, .int x5), (6, .int x6), (7, .int x7), (8, .int x8)] → W p l e ({ frames := 1, cells := 0, slots := 0, locals := 20 } : Room) s m args below meth c H locs 0 0 (MQ below (va_Qi K (fun u t => mb_T D A ([]) t) A) args s 0 0 A) (F0 m 59 ls [.int y0]) := by
  obtain ⟨hx, hb, hr, hml, hts, hown, hlocks, hA, hG⟩ := id C
  have hK := hG.1
  intro x0 x2 x3 x4 x5 x6 x7 x8 y0 H locs ls hF hP hD hS hl
  refine lv_istore (lv' := [(9, .int y0), (0, .int x0), (2, .int x2), (3, .int x3), (4, .int x4), (5, .int x5), (6, .int x6), (7, .int x7), (8, .int x8)]) hx hb dX7_foldedPage_59 hl (by decide) rfl (fun ls hl => ?_)
  refine lv_iload hx hb dX7_foldedPage_61 (lv_at hl 0 rfl) ?_
  refine lv_if_eq (tgt := 77) hx hb dX7_foldedPage_63 (by decide) (fun c_63 => ?_) (fun c_63 => ?_)
  · have hF := hF.1 c_63
    refine lv_iload_n hx hb dX7_foldedPage_77 rfl (lv_at hl 2 rfl) ?_
    exact wX7_foldedPage_78 C hb29 x0 x3 x4 x5 x6 x7 x8 y0 x2 _ _ _ hF hP hD hS (lv_sub hl [1, 3, 4, 5, 6, 7, 8, 0] rfl)
  · have hF := hF.2 c_63
    refine lv_iconst (v := 2) hx hb dX7_foldedPage_66 (by decide) ?_
    refine lv_iload hx hb dX7_foldedPage_67 (lv_at hl 4 rfl) ?_
    refine lv_imul hx hb dX7_foldedPage_69 ?_
    refine lv_iconst (v := 1) hx hb dX7_foldedPage_70 (by decide) ?_
    refine lv_isub hx hb dX7_foldedPage_71 ?_
    refine lv_iload_n hx hb dX7_foldedPage_72 rfl (lv_at hl 2 rfl) ?_
    refine lv_isub hx hb dX7_foldedPage_73 ?_
    refine lv_goto (tgt := 78) hx hb dX7_foldedPage_74 (by decide) ?_
    exact wX7_foldedPage_78 C hb29 x0 x3 x4 x5 x6 x7 x8 y0 ((((2 : Int32) * x4) - (1 : Int32)) - x2) _ _ _ hF hP hD hS (lv_sub hl [1, 3, 4, 5, 6, 7, 8, 0] rfl)
noncomputable def PX7_foldedPage_118 (N : Nat) (K : Int32 → Unit → Prop) (b29 : Int32 → Int32 → Int32 → Int32 → Int32 → Int32 → Int32 → Int32 → Prop) (x0 x2 x4 x5 x6 x7 x8 x9 y0 : Int32) : Prop := PX7_foldedPage_119 N K b29 x0 x2 y0 x4 x5 x6 x7 x8 x9
set_option maxHeartbeats 4000000 in
set_option maxRecDepth 100000 in
theorem wX7_foldedPage_118 {p : Program} {l : Launch} {e : Env} {s : State} {m : MethodId} {below : List Frame} {meth : Method} {c : Code} {args : Array Value} {D : va_G} {Y : Nat → ClassId} {A : Nat → Prop} {N : Nat} {K : Int32 → Unit → Prop} {b29 : Int32 → Int32 → Int32 → Int32 → Int32 → Int32 → Int32 → Int32 → Prop} (C : mb_Cx p s m meth c args cX7_foldedPage 10 (some .int) wsX7_foldedPage RX7 D Y A) (hb29 : ∀ (x0 x2 x3 x4 x5 x6 x7 x8 : Int32) (H : Heap) (locs : List Loc) (ls : Array Slot), b29 x0 x2 x3 x4 x5 x6 x7 x8 → va_P D vwCl (([] : va_W)) H → va_D A (([] : va_W)) → va_S A s.heap H locs → lv_has ls 10 [(0, .int x0), (2, .int x2), (3, .int x3), (4, .int x4), (5, .int x5), (6, .int x6), (7, .int x7), (8, .int x8)] → W p l e ({ frames := 1, cells := 0, slots := 0, locals := 20 } : Room) s m args below meth c H locs 0 0 (MQ below (va_Qi K (fun u t => mb_T D A ([]) t) A) args s 0 0 A) (F0 m 29 ls [])) : ∀ (x0 x2 x4 x5 x6 x7 x8 x9 y0 : Int32) (H : Heap) (locs : List Loc) (ls : Array Slot), PX7_foldedPage_118 N K b29 x0 x2 x4 x5 x6 x7 x8 x9 y0 → va_P D vwCl (([] : va_W)) H → va_D A (([] : va_W)) → va_S A s.heap H locs → lv_has ls 10 [(0, .int x0), (2, .int x2), (4, .int x4), (5, .int x5), (6, .int x6), (7, .int x7), (8, .int x8), (9, .int x9)] → W p l e ({ frames := 1, cells := 0, slots := 0, locals := 20 } : Room) s m args below meth c H locs 0 0 (MQ below (va_Qi K (fun u t => mb_T D A ([]) t) A) args s 0 0 A) (F0 m 118 ls [.int y0]) := by
  obtain ⟨hx, hb, hr, hml, hts, hown, hlocks, hA, hG⟩ := id C
  have hK := hG.1
  intro x0 x2 x4 x5 x6 x7 x8 x9 y0 H locs ls hF hP hD hS hl
  refine lv_istore_n (lv' := [(3, .int y0), (0, .int x0), (2, .int x2), (4, .int x4), (5, .int x5), (6, .int x6), (7, .int x7), (8, .int x8), (9, .int x9)]) hx hb dX7_foldedPage_118 rfl hl (by decide) rfl (fun ls hl => ?_)
  exact wX7_foldedPage_119 C hb29 x0 x2 y0 x4 x5 x6 x7 x8 x9 _ _ _ hF hP hD hS (lv_sub hl [1, 2, 0, 3, 4, 5, 6, 7, 8] rfl)
noncomputable def PX7_foldedPage_99 (N : Nat) (K : Int32 → Unit → Prop) (b29 : Int32 → Int32 → Int32 → Int32 → Int32 → Int32 → Int32 → Int32 → Prop) (x0 x2 x3 x4 x5 x6 x7 x8 y0 : Int32) : Prop := (y0 = 0 → PX7_foldedPage_118 N K b29 x0 x2 x4 x5 x6 x7 x8 y0 x3) ∧ (¬ y0 = 0 → PX7_foldedPage_118 N K b29 x0 x2 x4 x5 x6 x7 x8 y0 ((((2 : Int32) * x5) - (1 : Int32)) - x3))
set_option maxHeartbeats 4000000 in
set_option maxRecDepth 100000 in
theorem wX7_foldedPage_99 {p : Program} {l : Launch} {e : Env} {s : State} {m : MethodId} {below : List Frame} {meth : Method} {c : Code} {args : Array Value} {D : va_G} {Y : Nat → ClassId} {A : Nat → Prop} {N : Nat} {K : Int32 → Unit → Prop} {b29 : Int32 → Int32 → Int32 → Int32 → Int32 → Int32 → Int32 → Int32 → Prop} (C : mb_Cx p s m meth c args cX7_foldedPage 10 (some .int) wsX7_foldedPage RX7 D Y A) (hb29 : ∀ (x0 x2 x3 x4 x5 x6 x7 x8 : Int32) (H : Heap) (locs : List Loc) (ls : Array Slot), b29 x0 x2 x3 x4 x5 x6 x7 x8 → va_P D vwCl (([] : va_W)) H → va_D A (([] : va_W)) → va_S A s.heap H locs → lv_has ls 10 [(0, .int x0), (2, .int x2), (3, .int x3), (4, .int x4), (5, .int x5), (6, .int x6), (7, .int x7), (8, .int x8)] → W p l e ({ frames := 1, cells := 0, slots := 0, locals := 20 } : Room) s m args below meth c H locs 0 0 (MQ below (va_Qi K (fun u t => mb_T D A ([]) t) A) args s 0 0 A) (F0 m 29 ls [])) : ∀ (x0 x2 x3 x4 x5 x6 x7 x8 y0 : Int32) (H : Heap) (locs : List Loc) (ls : Array Slot), PX7_foldedPage_99 N K b29 x0 x2 x3 x4 x5 x6 x7 x8 y0 → va_P D vwCl (([] : va_W)) H → va_D A (([] : va_W)) → va_S A s.heap H locs → lv_has ls 10 [(0, .int x0), (2, .int x2), (3, .int x3), (4, .int x4), (5, .int x5), (6, .int x6), (7, .int x7), (8, .int x8)] → W p l e ({ frames := 1, cells := 0, slots := 0, locals := 20 } : Room) s m args below meth c H locs 0 0 (MQ below (va_Qi K (fun u t => mb_T D A ([]) t) A) args s 0 0 A) (F0 m 99 ls [.int y0]) := by
  obtain ⟨hx, hb, hr, hml, hts, hown, hlocks, hA, hG⟩ := id C
  have hK := hG.1
  intro x0 x2 x3 x4 x5 x6 x7 x8 y0 H locs ls hF hP hD hS hl
  refine lv_istore (lv' := [(9, .int y0), (0, .int x0), (2, .int x2), (3, .int x3), (4, .int x4), (5, .int x5), (6, .int x6), (7, .int x7), (8, .int x8)]) hx hb dX7_foldedPage_99 hl (by decide) rfl (fun ls hl => ?_)
  refine lv_iload hx hb dX7_foldedPage_101 (lv_at hl 0 rfl) ?_
  refine lv_if_eq (tgt := 117) hx hb dX7_foldedPage_103 (by decide) (fun c_103 => ?_) (fun c_103 => ?_)
  · have hF := hF.1 c_103
    refine lv_iload_n hx hb dX7_foldedPage_117 rfl (lv_at hl 3 rfl) ?_
    exact wX7_foldedPage_118 C hb29 x0 x2 x4 x5 x6 x7 x8 y0 x3 _ _ _ hF hP hD hS (lv_sub hl [1, 2, 4, 5, 6, 7, 8, 0] rfl)
  · have hF := hF.2 c_103
    refine lv_iconst (v := 2) hx hb dX7_foldedPage_106 (by decide) ?_
    refine lv_iload hx hb dX7_foldedPage_107 (lv_at hl 5 rfl) ?_
    refine lv_imul hx hb dX7_foldedPage_109 ?_
    refine lv_iconst (v := 1) hx hb dX7_foldedPage_110 (by decide) ?_
    refine lv_isub hx hb dX7_foldedPage_111 ?_
    refine lv_iload_n hx hb dX7_foldedPage_112 rfl (lv_at hl 3 rfl) ?_
    refine lv_isub hx hb dX7_foldedPage_113 ?_
    refine lv_goto (tgt := 118) hx hb dX7_foldedPage_114 (by decide) ?_
    exact wX7_foldedPage_118 C hb29 x0 x2 x4 x5 x6 x7 x8 y0 ((((2 : Int32) * x5) - (1 : Int32)) - x3) _ _ _ hF hP hD hS (lv_sub hl [1, 2, 4, 5, 6, 7, 8, 0] rfl)
noncomputable def PX7_foldedPage_29_b (N : Nat) (K : Int32 → Unit → Prop) (b29 : Int32 → Int32 → Int32 → Int32 → Int32 → Int32 → Int32 → Int32 → Prop) (x0 x2 x3 x4 x5 x6 x7 x8 : Int32) : Prop := (x0 ≤ x8 → K x7 ()) ∧ (¬ x0 ≤ x8 → (¬ (x8 - x8 / (2 : Int32) * (2 : Int32)) = 0 → ∀ v86 : Int32, v86 = (x5 / (2 : Int32)) → ((x3 < v86 → PX7_foldedPage_99 N K b29 x0 x2 x3 x4 v86 x6 x7 x8 (0 : Int32)) ∧ (¬ x3 < v86 → PX7_foldedPage_99 N K b29 x0 x2 x3 x4 v86 x6 x7 x8 (1 : Int32)))) ∧ ((x8 - x8 / (2 : Int32) * (2 : Int32)) = 0 → ∀ v46 : Int32, v46 = (x4 / (2 : Int32)) → ((x2 < v46 → PX7_foldedPage_59 N K b29 x0 x2 x3 v46 x5 x6 x7 x8 (0 : Int32)) ∧ (¬ x2 < v46 → PX7_foldedPage_59 N K b29 x0 x2 x3 v46 x5 x6 x7 x8 (1 : Int32)))))
noncomputable def PX7_foldedPage_29 (N : Nat) (K : Int32 → Unit → Prop) (n : Nat) : Int32 → Int32 → Int32 → Int32 → Int32 → Int32 → Int32 → Int32 → Prop := Nat.rec (motive := fun _ => Int32 → Int32 → Int32 → Int32 → Int32 → Int32 → Int32 → Int32 → Prop) (fun _ _ _ _ _ _ _ _ => False) (fun _ b29 => PX7_foldedPage_29_b N K  b29) n
set_option maxHeartbeats 4000000 in
set_option maxRecDepth 100000 in
theorem wX7_foldedPage_29 {p : Program} {l : Launch} {e : Env} {s : State} {m : MethodId} {below : List Frame} {meth : Method} {c : Code} {args : Array Value} {D : va_G} {Y : Nat → ClassId} {A : Nat → Prop} {N : Nat} {K : Int32 → Unit → Prop} (C : mb_Cx p s m meth c args cX7_foldedPage 10 (some .int) wsX7_foldedPage RX7 D Y A) : ∀ (n : Nat), (∀ (x0 x2 x3 x4 x5 x6 x7 x8 : Int32) (H : Heap) (locs : List Loc) (ls : Array Slot), PX7_foldedPage_29 N K  n x0 x2 x3 x4 x5 x6 x7 x8 → va_P D vwCl (([] : va_W)) H → va_D A (([] : va_W)) → va_S A s.heap H locs → lv_has ls 10 [(0, .int x0), (2, .int x2), (3, .int x3), (4, .int x4), (5, .int x5), (6, .int x6), (7, .int x7), (8, .int x8)] → W p l e ({ frames := 1, cells := 0, slots := 0, locals := 20 } : Room) s m args below meth c H locs 0 0 (MQ below (va_Qi K (fun u t => mb_T D A ([]) t) A) args s 0 0 A) (F0 m 29 ls [])) := by
  obtain ⟨hx, hb, hr, hml, hts, hown, hlocks, hA, hG⟩ := id C
  have hK := hG.1
  intro n
  induction n with
  | zero => intro x0 x2 x3 x4 x5 x6 x7 x8 H locs ls hF; exact (show False from hF).elim
  | succ n ih =>
    intro x0 x2 x3 x4 x5 x6 x7 x8 H locs ls hF hP hD hS hl
    have hF : PX7_foldedPage_29_b N K  (PX7_foldedPage_29 N K  n) x0 x2 x3 x4 x5 x6 x7 x8 := hF
    refine lv_iload hx hb dX7_foldedPage_29 (lv_at hl 7 rfl) ?_
    refine lv_iload_n hx hb dX7_foldedPage_31 rfl (lv_at hl 0 rfl) ?_
    refine lv_icmp_ge (tgt := 153) hx hb dX7_foldedPage_32 (by decide) (fun c_32 => ?_) (fun c_32 => ?_)
    · have hF := hF.1 c_32
      refine lv_iload hx hb dX7_foldedPage_153 (lv_at hl 6 rfl) ?_
      exact mb_ri (S := Unit) (mc := 0) (ms := 0) (wf := fun u => []) C rfl (u := ()) hF hP hD hS dX7_foldedPage_155 (Nat.le_of_ble_eq_true rfl) (Nat.le_of_ble_eq_true rfl)
    · have hF := hF.2 c_32
      refine lv_iload hx hb dX7_foldedPage_35 (lv_at hl 7 rfl) ?_
      refine lv_iconst (v := 2) hx hb dX7_foldedPage_37 (by decide) ?_
      refine lv_irem hx hb dX7_foldedPage_38 (by decide) ?_
      refine lv_if_ne (tgt := 82) hx hb dX7_foldedPage_39 (by decide) (fun c_39 => ?_) (fun c_39 => ?_)
      · have hF := hF.1 c_39
        refine lv_iload hx hb dX7_foldedPage_82 (lv_at hl 4 rfl) ?_
        refine lv_iconst (v := 2) hx hb dX7_foldedPage_84 (by decide) ?_
        refine lv_idiv hx hb dX7_foldedPage_85 (by decide) ?_
        refine lv_topi (fun v86 ev86 => ?_)
        have hF := hF v86 ev86
        refine lv_istore (lv' := [(5, .int v86), (0, .int x0), (2, .int x2), (3, .int x3), (4, .int x4), (6, .int x6), (7, .int x7), (8, .int x8)]) hx hb dX7_foldedPage_86 hl (by decide) rfl (fun ls hl => ?_)
        refine lv_iload_n hx hb dX7_foldedPage_88 rfl (lv_at hl 3 rfl) ?_
        refine lv_iload hx hb dX7_foldedPage_89 (lv_at hl 0 rfl) ?_
        refine lv_icmp_lt (tgt := 98) hx hb dX7_foldedPage_91 (by decide) (fun c_91 => ?_) (fun c_91 => ?_)
        · have hF := hF.1 c_91
          refine lv_iconst (v := 0) hx hb dX7_foldedPage_98 (by decide) ?_
          exact wX7_foldedPage_99 C ih x0 x2 x3 x4 v86 x6 x7 x8 (0 : Int32) _ _ _ hF hP hD hS (lv_sub hl [1, 2, 3, 4, 0, 5, 6, 7] rfl)
        · have hF := hF.2 c_91
          refine lv_iconst (v := 1) hx hb dX7_foldedPage_94 (by decide) ?_
          refine lv_goto (tgt := 99) hx hb dX7_foldedPage_95 (by decide) ?_
          exact wX7_foldedPage_99 C ih x0 x2 x3 x4 v86 x6 x7 x8 (1 : Int32) _ _ _ hF hP hD hS (lv_sub hl [1, 2, 3, 4, 0, 5, 6, 7] rfl)
      · have hF := hF.2 c_39
        refine lv_iload hx hb dX7_foldedPage_42 (lv_at hl 3 rfl) ?_
        refine lv_iconst (v := 2) hx hb dX7_foldedPage_44 (by decide) ?_
        refine lv_idiv hx hb dX7_foldedPage_45 (by decide) ?_
        refine lv_topi (fun v46 ev46 => ?_)
        have hF := hF v46 ev46
        refine lv_istore (lv' := [(4, .int v46), (0, .int x0), (2, .int x2), (3, .int x3), (5, .int x5), (6, .int x6), (7, .int x7), (8, .int x8)]) hx hb dX7_foldedPage_46 hl (by decide) rfl (fun ls hl => ?_)
        refine lv_iload_n hx hb dX7_foldedPage_48 rfl (lv_at hl 2 rfl) ?_
        refine lv_iload hx hb dX7_foldedPage_49 (lv_at hl 0 rfl) ?_
        refine lv_icmp_lt (tgt := 58) hx hb dX7_foldedPage_51 (by decide) (fun c_51 => ?_) (fun c_51 => ?_)
        · have hF := hF.1 c_51
          refine lv_iconst (v := 0) hx hb dX7_foldedPage_58 (by decide) ?_
          exact wX7_foldedPage_59 C ih x0 x2 x3 v46 x5 x6 x7 x8 (0 : Int32) _ _ _ hF hP hD hS (lv_sub hl [1, 2, 3, 0, 4, 5, 6, 7] rfl)
        · have hF := hF.2 c_51
          refine lv_iconst (v := 1) hx hb dX7_foldedPage_54 (by decide) ?_
          refine lv_goto (tgt := 59) hx hb dX7_foldedPage_55 (by decide) ?_
          exact wX7_foldedPage_59 C ih x0 x2 x3 v46 x5 x6 x7 x8 (1 : Int32) _ _ _ hF hP hD hS (lv_sub hl [1, 2, 3, 0, 4, 5, 6, 7] rfl)
noncomputable def PX7_foldedPage_24 (N : Nat) (K : Int32 → Unit → Prop) (x0 x2 x3 x4 x5 x6 y0 : Int32) : Prop := PX7_foldedPage_29 N K N x0 x2 x3 x4 x5 x6 y0 (0 : Int32)
set_option maxHeartbeats 4000000 in
set_option maxRecDepth 100000 in
theorem wX7_foldedPage_24 {p : Program} {l : Launch} {e : Env} {s : State} {m : MethodId} {below : List Frame} {meth : Method} {c : Code} {args : Array Value} {D : va_G} {Y : Nat → ClassId} {A : Nat → Prop} {N : Nat} {K : Int32 → Unit → Prop} (C : mb_Cx p s m meth c args cX7_foldedPage 10 (some .int) wsX7_foldedPage RX7 D Y A) : ∀ (x0 x2 x3 x4 x5 x6 y0 : Int32) (H : Heap) (locs : List Loc) (ls : Array Slot), PX7_foldedPage_24 N K  x0 x2 x3 x4 x5 x6 y0 → va_P D vwCl (([] : va_W)) H → va_D A (([] : va_W)) → va_S A s.heap H locs → lv_has ls 10 [(0, .int x0), (2, .int x2), (3, .int x3), (4, .int x4), (5, .int x5), (6, .int x6)] → W p l e ({ frames := 1, cells := 0, slots := 0, locals := 20 } : Room) s m args below meth c H locs 0 0 (MQ below (va_Qi K (fun u t => mb_T D A ([]) t) A) args s 0 0 A) (F0 m 24 ls [.int y0]) := by
  obtain ⟨hx, hb, hr, hml, hts, hown, hlocks, hA, hG⟩ := id C
  have hK := hG.1
  intro x0 x2 x3 x4 x5 x6 y0 H locs ls hF hP hD hS hl
  refine lv_istore (lv' := [(7, .int y0), (0, .int x0), (2, .int x2), (3, .int x3), (4, .int x4), (5, .int x5), (6, .int x6)]) hx hb dX7_foldedPage_24 hl (by decide) rfl (fun ls hl => ?_)
  refine lv_iconst (v := 0) hx hb dX7_foldedPage_26 (by decide) ?_
  refine lv_istore (lv' := [(8, .int (0 : Int32)), (7, .int y0), (0, .int x0), (2, .int x2), (3, .int x3), (4, .int x4), (5, .int x5), (6, .int x6)]) hx hb dX7_foldedPage_27 hl (by decide) rfl (fun ls hl => ?_)
  exact wX7_foldedPage_29 C N x0 x2 x3 x4 x5 x6 y0 (0 : Int32) _ _ _ hF hP hD hS (lv_sub hl [2, 3, 4, 5, 6, 7, 1, 0] rfl)
noncomputable def PX7_foldedPage (N : Nat) (x0 x1 x2 x3 : Int32) (K : Int32 → Unit → Prop) : Prop := PX7_columnsOf N x0 (fun r1 _ => PX7_rowsOf N x0 (fun r7 _ => (x1 = 0 → PX7_foldedPage_24 N K x0 x2 x3 r1 r7 (2 : Int32) (1 : Int32)) ∧ (¬ x1 = 0 → PX7_foldedPage_24 N K x0 x2 x3 r1 r7 (2 : Int32) (2 : Int32))))
set_option maxHeartbeats 4000000 in
set_option maxRecDepth 100000 in
theorem cnX7_foldedPage (l : Launch) (D : va_G) (Y : Nat → ClassId) (N : Nat) (sz : Nat) (x0 x1 x2 x3 : Int32) (K : Int32 → Unit → Prop) (hF : PX7_foldedPage N x0 x1 x2 x3 K) : Met l yX7_foldedPage wsX7_foldedPage ({ frames := 1, cells := 0, slots := 0, locals := 20 } : Room) (va_Pc [.int x0, .int x1, .int x2, .int x3] (mb_B D Y (([] : va_W)) sz)) (va_Qi K (fun u t => mb_T D (va_A (([] : va_W)) sz) ([]) t) (va_A (([] : va_W)) sz)) 0 0 (va_A (([] : va_W)) sz) := by
  refine mb_begin (cc := cX7_foldedPage) (maxL := 10) (ret := (some .int)) (by decide +kernel) rfl (Nat.le_of_ble_eq_true rfl) ?_
  intro p e s m below meth c ls C hsz hnm hP hD hl
  generalize hAe : va_A (([] : va_W)) sz = A at C hD ⊢
  have C : mb_Cx p s m meth c ([.int x0, .int x1, .int x2, .int x3] : List Value).toArray cX7_foldedPage 10 (some .int) wsX7_foldedPage RX7 D Y A := C
  obtain ⟨hx, hb, hr, hml, hts, hown, hlocks, hA, hG⟩ := id C
  have hK := hG.1
  have hS : va_S A s.heap s.heap [] := va_S.rf
  have hl : lv_has ls 10 [(0, .int x0), (1, .int x1), (2, .int x2), (3, .int x3)] := hl
  refine lv_iload_n hx hb dX7_foldedPage_0 rfl (lv_at hl 0 rfl) ?_
  refine mb_cE hP hS hA (va_runS (As := [.int x0]) (rest := []) ⟨hx, hb, hml, hown, hts⟩ (cnX7_columnsOf l D Y N _ x0 _ hF) (va_cwS 1 hts gX7_foldedPage_X7_columnsOf rfl rfl rfl (by decide +kernel) ⟨Nat.le_of_ble_eq_true rfl, Nat.le_of_ble_eq_true rfl⟩) (mb_preS (A := A) hG mb_P0 mb_D0) rfl rfl hl.1 rfl (lv_room (Nat.le_of_ble_eq_true rfl)) dX7_foldedPage_1 ⟨Nat.le_of_ble_eq_true rfl, Nat.le_of_ble_eq_true rfl⟩) (fun r1 H locs hF hP hS => ?_)
  refine lv_istore (lv' := [(4, .int r1), (0, .int x0), (1, .int x1), (2, .int x2), (3, .int x3)]) hx hb dX7_foldedPage_4 hl (by decide) rfl (fun ls hl => ?_)
  refine lv_iload_n hx hb dX7_foldedPage_6 rfl (lv_at hl 1 rfl) ?_
  refine mb_cE hP hS hA (va_runS (As := [.int x0]) (rest := []) ⟨hx, hb, hml, hown, hts⟩ (cnX7_rowsOf l D Y N _ x0 _ hF) (va_cwS 1 hts gX7_foldedPage_X7_rowsOf rfl rfl rfl (by decide +kernel) ⟨Nat.le_of_ble_eq_true rfl, Nat.le_of_ble_eq_true rfl⟩) (mb_preS (A := A) hG mb_P0 mb_D0) rfl rfl hl.1 rfl (lv_room (Nat.le_of_ble_eq_true rfl)) dX7_foldedPage_7 ⟨Nat.le_of_ble_eq_true rfl, Nat.le_of_ble_eq_true rfl⟩) (fun r7 H locs hF hP hS => ?_)
  refine lv_istore (lv' := [(5, .int r7), (4, .int r1), (0, .int x0), (1, .int x1), (2, .int x2), (3, .int x3)]) hx hb dX7_foldedPage_10 hl (by decide) rfl (fun ls hl => ?_)
  refine lv_iconst (v := 2) hx hb dX7_foldedPage_12 (by decide) ?_
  refine lv_istore (lv' := [(6, .int (2 : Int32)), (5, .int r7), (4, .int r1), (0, .int x0), (1, .int x1), (2, .int x2), (3, .int x3)]) hx hb dX7_foldedPage_13 hl (by decide) rfl (fun ls hl => ?_)
  refine lv_iload_n hx hb dX7_foldedPage_15 rfl (lv_at hl 4 rfl) ?_
  refine lv_if_eq (tgt := 23) hx hb dX7_foldedPage_16 (by decide) (fun c_16 => ?_) (fun c_16 => ?_)
  · have hF := hF.1 c_16
    refine lv_iconst (v := 1) hx hb dX7_foldedPage_23 (by decide) ?_
    exact wX7_foldedPage_24 C x0 x2 x3 r1 r7 (2 : Int32) (1 : Int32) _ _ _ hF hP hD hS (lv_sub hl [3, 5, 6, 2, 1, 0] rfl)
  · have hF := hF.2 c_16
    refine lv_iconst (v := 2) hx hb dX7_foldedPage_19 (by decide) ?_
    refine lv_goto (tgt := 24) hx hb dX7_foldedPage_20 (by decide) ?_
    exact wX7_foldedPage_24 C x0 x2 x3 r1 r7 (2 : Int32) (2 : Int32) _ _ _ hF hP hD hS (lv_sub hl [3, 5, 6, 2, 1, 0] rfl)
end
section
noncomputable def PX7_unfoldedPlace_12_b (N : Nat) (K : Int32 → Unit → Prop) (b2 : Int32 → Int32 → Int32 → Prop) (b12 : Int32 → Int32 → Int32 → Int32 → Prop) (x0 x1 x2 x3 : Int32) : Prop := PX7_columnsOf N x0 (fun r14 _ => (r14 ≤ x3 → ∀ v65 : Int32, v65 = x2 + (1 : Int32) → (b2 x0 x1 v65)) ∧ (¬ r14 ≤ x3 → PX7_foldedPage N x0 (0 : Int32) x3 x2 (fun r24 _ => (¬ r24 = x1 → PX7_foldedPage N x0 (1 : Int32) x3 x2 (fun r42 _ => (¬ r42 = x1 → ∀ v59 : Int32, v59 = x3 + (1 : Int32) → (b12 x0 x1 x2 v59)) ∧ (r42 = x1 → K (((100 : Int32) + ((10 : Int32) * x2)) + x3) ()))) ∧ (r24 = x1 → K (((10 : Int32) * x2) + x3) ()))))
noncomputable def PX7_unfoldedPlace_12 (N : Nat) (K : Int32 → Unit → Prop) (b2 : Int32 → Int32 → Int32 → Prop) (n : Nat) : Int32 → Int32 → Int32 → Int32 → Prop := Nat.rec (motive := fun _ => Int32 → Int32 → Int32 → Int32 → Prop) (fun _ _ _ _ => False) (fun _ b12 => PX7_unfoldedPlace_12_b N K b2 b12) n
set_option maxHeartbeats 4000000 in
set_option maxRecDepth 100000 in
theorem wX7_unfoldedPlace_12 {p : Program} {l : Launch} {e : Env} {s : State} {m : MethodId} {below : List Frame} {meth : Method} {c : Code} {args : Array Value} {D : va_G} {Y : Nat → ClassId} {A : Nat → Prop} {N : Nat} {K : Int32 → Unit → Prop} {b2 : Int32 → Int32 → Int32 → Prop} (C : mb_Cx p s m meth c args cX7_unfoldedPlace 4 (some .int) wsX7_unfoldedPlace RX7 D Y A) (hb2 : ∀ (x0 x1 x2 : Int32) (H : Heap) (locs : List Loc) (ls : Array Slot), b2 x0 x1 x2 → va_P D vwCl (([] : va_W)) H → va_D A (([] : va_W)) → va_S A s.heap H locs → lv_has ls 4 [(0, .int x0), (1, .int x1), (2, .int x2)] → W p l e ({ frames := 2, cells := 0, slots := 0, locals := 49 } : Room) s m args below meth c H locs 0 0 (MQ below (va_Qi K (fun u t => mb_T D A ([]) t) A) args s 0 0 A) (F0 m 2 ls [])) : ∀ (n : Nat), (∀ (x0 x1 x2 x3 : Int32) (H : Heap) (locs : List Loc) (ls : Array Slot), PX7_unfoldedPlace_12 N K b2 n x0 x1 x2 x3 → va_P D vwCl (([] : va_W)) H → va_D A (([] : va_W)) → va_S A s.heap H locs → lv_has ls 4 [(0, .int x0), (1, .int x1), (2, .int x2), (3, .int x3)] → W p l e ({ frames := 2, cells := 0, slots := 0, locals := 49 } : Room) s m args below meth c H locs 0 0 (MQ below (va_Qi K (fun u t => mb_T D A ([]) t) A) args s 0 0 A) (F0 m 12 ls [])) := by
  obtain ⟨hx, hb, hr, hml, hts, hown, hlocks, hA, hG⟩ := id C
  have hK := hG.1
  intro n
  induction n with
  | zero => intro x0 x1 x2 x3 H locs ls hF; exact (show False from hF).elim
  | succ n ih =>
    intro x0 x1 x2 x3 H locs ls hF hP hD hS hl
    have hF : PX7_unfoldedPlace_12_b N K b2 (PX7_unfoldedPlace_12 N K b2 n) x0 x1 x2 x3 := hF
    refine lv_iload_n hx hb dX7_unfoldedPlace_12 rfl (lv_at hl 3 rfl) ?_
    refine lv_iload_n hx hb dX7_unfoldedPlace_13 rfl (lv_at hl 0 rfl) ?_
    refine mb_cE hP hS hA (va_runS (As := [.int x0]) (rest := [.int x3]) ⟨hx, hb, hml, hown, hts⟩ (cnX7_columnsOf l D Y N _ x0 _ hF) (va_cwS 1 hts gX7_unfoldedPlace_X7_columnsOf rfl rfl rfl (by decide +kernel) ⟨Nat.le_of_ble_eq_true rfl, Nat.le_of_ble_eq_true rfl⟩) (mb_preS (A := A) hG mb_P0 mb_D0) rfl rfl hl.1 rfl (lv_room (Nat.le_of_ble_eq_true rfl)) dX7_unfoldedPlace_14 ⟨Nat.le_of_ble_eq_true rfl, Nat.le_of_ble_eq_true rfl⟩) (fun r14 H locs hF hP hS => ?_)
    refine lv_icmp_ge (tgt := 65) hx hb dX7_unfoldedPlace_17 (by decide) (fun c_17 => ?_) (fun c_17 => ?_)
    · have hF := hF.1 c_17
      obtain ⟨v65, ev65⟩ : ∃ y : Int32, y = x2 + (1 : Int32) := ⟨_, rfl⟩
      have hF := hF v65 ev65
      refine lv_iinc (v := v65) (lv' := [(2, .int v65), (0, .int x0), (1, .int x1), (3, .int x3)]) hx hb dX7_unfoldedPlace_65 hl (k := 2) rfl (by rw [ev65]; rfl) (by decide) rfl (fun ls hl => ?_)
      refine lv_goto (tgt := 2) hx hb dX7_unfoldedPlace_68 (by decide) ?_
      exact hb2 x0 x1 v65 _ _ _ hF hP hD hS (lv_sub hl [1, 2, 0] rfl)
    · have hF := hF.2 c_17
      refine lv_iload_n hx hb dX7_unfoldedPlace_20 rfl (lv_at hl 0 rfl) ?_
      refine lv_iconst (v := 0) hx hb dX7_unfoldedPlace_21 (by decide) ?_
      refine lv_iload_n hx hb dX7_unfoldedPlace_22 rfl (lv_at hl 3 rfl) ?_
      refine lv_iload_n hx hb dX7_unfoldedPlace_23 rfl (lv_at hl 2 rfl) ?_
      refine mb_cE hP hS hA (va_runS (As := [.int x0, .int (0 : Int32), .int x3, .int x2]) (rest := []) ⟨hx, hb, hml, hown, hts⟩ (cnX7_foldedPage l D Y N _ x0 (0 : Int32) x3 x2 _ hF) (va_cwS 4 hts gX7_unfoldedPlace_X7_foldedPage rfl rfl rfl (by decide +kernel) ⟨Nat.le_of_ble_eq_true rfl, Nat.le_of_ble_eq_true rfl⟩) (mb_preS (A := A) hG mb_P0 mb_D0) rfl rfl hl.1 rfl (lv_room (Nat.le_of_ble_eq_true rfl)) dX7_unfoldedPlace_24 ⟨Nat.le_of_ble_eq_true rfl, Nat.le_of_ble_eq_true rfl⟩) (fun r24 H locs hF hP hS => ?_)
      refine lv_iload_n hx hb dX7_unfoldedPlace_27 rfl (lv_at hl 1 rfl) ?_
      refine lv_icmp_ne (tgt := 38) hx hb dX7_unfoldedPlace_28 (by decide) (fun c_28 => ?_) (fun c_28 => ?_)
      · have hF := hF.1 c_28
        refine lv_iload_n hx hb dX7_unfoldedPlace_38 rfl (lv_at hl 0 rfl) ?_
        refine lv_iconst (v := 1) hx hb dX7_unfoldedPlace_39 (by decide) ?_
        refine lv_iload_n hx hb dX7_unfoldedPlace_40 rfl (lv_at hl 3 rfl) ?_
        refine lv_iload_n hx hb dX7_unfoldedPlace_41 rfl (lv_at hl 2 rfl) ?_
        refine mb_cE hP hS hA (va_runS (As := [.int x0, .int (1 : Int32), .int x3, .int x2]) (rest := []) ⟨hx, hb, hml, hown, hts⟩ (cnX7_foldedPage l D Y N _ x0 (1 : Int32) x3 x2 _ hF) (va_cwS 4 hts gX7_unfoldedPlace_X7_foldedPage rfl rfl rfl (by decide +kernel) ⟨Nat.le_of_ble_eq_true rfl, Nat.le_of_ble_eq_true rfl⟩) (mb_preS (A := A) hG mb_P0 mb_D0) rfl rfl hl.1 rfl (lv_room (Nat.le_of_ble_eq_true rfl)) dX7_unfoldedPlace_42 ⟨Nat.le_of_ble_eq_true rfl, Nat.le_of_ble_eq_true rfl⟩) (fun r42 H locs hF hP hS => ?_)
        refine lv_iload_n hx hb dX7_unfoldedPlace_45 rfl (lv_at hl 1 rfl) ?_
        refine lv_icmp_ne (tgt := 59) hx hb dX7_unfoldedPlace_46 (by decide) (fun c_46 => ?_) (fun c_46 => ?_)
        · have hF := hF.1 c_46
          obtain ⟨v59, ev59⟩ : ∃ y : Int32, y = x3 + (1 : Int32) := ⟨_, rfl⟩
          have hF := hF v59 ev59
          refine lv_iinc (v := v59) (lv' := [(3, .int v59), (0, .int x0), (1, .int x1), (2, .int x2)]) hx hb dX7_unfoldedPlace_59 hl (k := 3) rfl (by rw [ev59]; rfl) (by decide) rfl (fun ls hl => ?_)
          refine lv_goto (tgt := 12) hx hb dX7_unfoldedPlace_62 (by decide) ?_
          exact ih x0 x1 x2 v59 _ _ _ hF hP hD hS (lv_sub hl [1, 2, 3, 0] rfl)
        · have hF := hF.2 c_46
          refine lv_bipush (v := 100) hx hb dX7_unfoldedPlace_49 (by decide) ?_
          refine lv_bipush (v := 10) hx hb dX7_unfoldedPlace_51 (by decide) ?_
          refine lv_iload_n hx hb dX7_unfoldedPlace_53 rfl (lv_at hl 2 rfl) ?_
          refine lv_imul hx hb dX7_unfoldedPlace_54 ?_
          refine lv_iadd hx hb dX7_unfoldedPlace_55 ?_
          refine lv_iload_n hx hb dX7_unfoldedPlace_56 rfl (lv_at hl 3 rfl) ?_
          refine lv_iadd hx hb dX7_unfoldedPlace_57 ?_
          exact mb_ri (S := Unit) (mc := 0) (ms := 0) (wf := fun u => []) C rfl (u := ()) hF hP hD hS dX7_unfoldedPlace_58 (Nat.le_of_ble_eq_true rfl) (Nat.le_of_ble_eq_true rfl)
      · have hF := hF.2 c_28
        refine lv_bipush (v := 10) hx hb dX7_unfoldedPlace_31 (by decide) ?_
        refine lv_iload_n hx hb dX7_unfoldedPlace_33 rfl (lv_at hl 2 rfl) ?_
        refine lv_imul hx hb dX7_unfoldedPlace_34 ?_
        refine lv_iload_n hx hb dX7_unfoldedPlace_35 rfl (lv_at hl 3 rfl) ?_
        refine lv_iadd hx hb dX7_unfoldedPlace_36 ?_
        exact mb_ri (S := Unit) (mc := 0) (ms := 0) (wf := fun u => []) C rfl (u := ()) hF hP hD hS dX7_unfoldedPlace_37 (Nat.le_of_ble_eq_true rfl) (Nat.le_of_ble_eq_true rfl)
noncomputable def PX7_unfoldedPlace_2_b (N : Nat) (K : Int32 → Unit → Prop) (b2 : Int32 → Int32 → Int32 → Prop) (x0 x1 x2 : Int32) : Prop := PX7_rowsOf N x0 (fun r4 _ => (r4 ≤ x2 → K (-1 : Int32) ()) ∧ (¬ r4 ≤ x2 → PX7_unfoldedPlace_12 N K b2 N x0 x1 x2 (0 : Int32)))
noncomputable def PX7_unfoldedPlace_2 (N : Nat) (K : Int32 → Unit → Prop) (n : Nat) : Int32 → Int32 → Int32 → Prop := Nat.rec (motive := fun _ => Int32 → Int32 → Int32 → Prop) (fun _ _ _ => False) (fun _ b2 => PX7_unfoldedPlace_2_b N K  b2) n
set_option maxHeartbeats 4000000 in
set_option maxRecDepth 100000 in
theorem wX7_unfoldedPlace_2 {p : Program} {l : Launch} {e : Env} {s : State} {m : MethodId} {below : List Frame} {meth : Method} {c : Code} {args : Array Value} {D : va_G} {Y : Nat → ClassId} {A : Nat → Prop} {N : Nat} {K : Int32 → Unit → Prop} (C : mb_Cx p s m meth c args cX7_unfoldedPlace 4 (some .int) wsX7_unfoldedPlace RX7 D Y A) : ∀ (n : Nat), (∀ (x0 x1 x2 : Int32) (H : Heap) (locs : List Loc) (ls : Array Slot), PX7_unfoldedPlace_2 N K  n x0 x1 x2 → va_P D vwCl (([] : va_W)) H → va_D A (([] : va_W)) → va_S A s.heap H locs → lv_has ls 4 [(0, .int x0), (1, .int x1), (2, .int x2)] → W p l e ({ frames := 2, cells := 0, slots := 0, locals := 49 } : Room) s m args below meth c H locs 0 0 (MQ below (va_Qi K (fun u t => mb_T D A ([]) t) A) args s 0 0 A) (F0 m 2 ls [])) := by
  obtain ⟨hx, hb, hr, hml, hts, hown, hlocks, hA, hG⟩ := id C
  have hK := hG.1
  intro n
  induction n with
  | zero => intro x0 x1 x2 H locs ls hF; exact (show False from hF).elim
  | succ n ih =>
    intro x0 x1 x2 H locs ls hF hP hD hS hl
    have hF : PX7_unfoldedPlace_2_b N K  (PX7_unfoldedPlace_2 N K  n) x0 x1 x2 := hF
    refine lv_iload_n hx hb dX7_unfoldedPlace_2 rfl (lv_at hl 2 rfl) ?_
    refine lv_iload_n hx hb dX7_unfoldedPlace_3 rfl (lv_at hl 0 rfl) ?_
    refine mb_cE hP hS hA (va_runS (As := [.int x0]) (rest := [.int x2]) ⟨hx, hb, hml, hown, hts⟩ (cnX7_rowsOf l D Y N _ x0 _ hF) (va_cwS 1 hts gX7_unfoldedPlace_X7_rowsOf rfl rfl rfl (by decide +kernel) ⟨Nat.le_of_ble_eq_true rfl, Nat.le_of_ble_eq_true rfl⟩) (mb_preS (A := A) hG mb_P0 mb_D0) rfl rfl hl.1 rfl (lv_room (Nat.le_of_ble_eq_true rfl)) dX7_unfoldedPlace_4 ⟨Nat.le_of_ble_eq_true rfl, Nat.le_of_ble_eq_true rfl⟩) (fun r4 H locs hF hP hS => ?_)
    refine lv_icmp_ge (tgt := 71) hx hb dX7_unfoldedPlace_7 (by decide) (fun c_7 => ?_) (fun c_7 => ?_)
    · have hF := hF.1 c_7
      refine lv_iconst (v := -1) hx hb dX7_unfoldedPlace_71 (by decide) ?_
      exact mb_ri (S := Unit) (mc := 0) (ms := 0) (wf := fun u => []) C rfl (u := ()) hF hP hD hS dX7_unfoldedPlace_72 (Nat.le_of_ble_eq_true rfl) (Nat.le_of_ble_eq_true rfl)
    · have hF := hF.2 c_7
      refine lv_iconst (v := 0) hx hb dX7_unfoldedPlace_10 (by decide) ?_
      refine lv_istore_n (lv' := [(3, .int (0 : Int32)), (0, .int x0), (1, .int x1), (2, .int x2)]) hx hb dX7_unfoldedPlace_11 rfl hl (by decide) rfl (fun ls hl => ?_)
      exact wX7_unfoldedPlace_12 C ih N x0 x1 x2 (0 : Int32) _ _ _ hF hP hD hS (lv_sub hl [1, 2, 3, 0] rfl)
noncomputable def PX7_unfoldedPlace (N : Nat) (x0 x1 : Int32) (K : Int32 → Unit → Prop) : Prop := PX7_unfoldedPlace_2 N K N x0 x1 (0 : Int32)
set_option maxHeartbeats 4000000 in
set_option maxRecDepth 100000 in
theorem cnX7_unfoldedPlace (l : Launch) (D : va_G) (Y : Nat → ClassId) (N : Nat) (sz : Nat) (x0 x1 : Int32) (K : Int32 → Unit → Prop) (hF : PX7_unfoldedPlace N x0 x1 K) : Met l yX7_unfoldedPlace wsX7_unfoldedPlace ({ frames := 2, cells := 0, slots := 0, locals := 49 } : Room) (va_Pc [.int x0, .int x1] (mb_B D Y (([] : va_W)) sz)) (va_Qi K (fun u t => mb_T D (va_A (([] : va_W)) sz) ([]) t) (va_A (([] : va_W)) sz)) 0 0 (va_A (([] : va_W)) sz) := by
  refine mb_begin (cc := cX7_unfoldedPlace) (maxL := 4) (ret := (some .int)) (by decide +kernel) rfl (Nat.le_of_ble_eq_true rfl) ?_
  intro p e s m below meth c ls C hsz hnm hP hD hl
  generalize hAe : va_A (([] : va_W)) sz = A at C hD ⊢
  have C : mb_Cx p s m meth c ([.int x0, .int x1] : List Value).toArray cX7_unfoldedPlace 4 (some .int) wsX7_unfoldedPlace RX7 D Y A := C
  obtain ⟨hx, hb, hr, hml, hts, hown, hlocks, hA, hG⟩ := id C
  have hK := hG.1
  have hS : va_S A s.heap s.heap [] := va_S.rf
  have hl : lv_has ls 4 [(0, .int x0), (1, .int x1)] := hl
  refine lv_iconst (v := 0) hx hb dX7_unfoldedPlace_0 (by decide) ?_
  refine lv_istore_n (lv' := [(2, .int (0 : Int32)), (0, .int x0), (1, .int x1)]) hx hb dX7_unfoldedPlace_1 rfl hl (by decide) rfl (fun ls hl => ?_)
  exact wX7_unfoldedPlace_2 C N x0 x1 (0 : Int32) _ _ _ hF hP hD hS (lv_sub hl [1, 2, 0] rfl)
end
section
noncomputable def PJ9_floorMod_7cf53 (N : Nat) (x0 x1 : Int32) (K : Int32 → Unit → Prop) : Prop := ¬ x1 = 0 ∧ (∀ v3 : Int32, v3 = (x0 - x0 / x1 * x1) → ((0 ≤ (x0 ^^^ x1) → K v3 ()) ∧ (¬ 0 ≤ (x0 ^^^ x1) → (v3 = 0 → K v3 ()) ∧ (¬ v3 = 0 → K (v3 + x1) ()))))
set_option maxHeartbeats 4000000 in
set_option maxRecDepth 100000 in
theorem cnJ9_floorMod_7cf53 (l : Launch) (D : va_G) (Y : Nat → ClassId) (N : Nat) (sz : Nat) (x0 x1 : Int32) (K : Int32 → Unit → Prop) (hF : PJ9_floorMod_7cf53 N x0 x1 K) : Met l yJ9_floorMod_7cf53 wsJ9_floorMod_7cf53 ({ frames := 0, cells := 0, slots := 0, locals := 0 } : Room) (va_Pc [.int x0, .int x1] (mb_B D Y (([] : va_W)) sz)) (va_Qi K (fun u t => mb_T D (va_A (([] : va_W)) sz) ([]) t) (va_A (([] : va_W)) sz)) 0 0 (va_A (([] : va_W)) sz) := by
  refine mb_beginF (cc := cJ9_floorMod_7cf53) (maxL := 3) (ret := (some .int)) (by decide +kernel) rfl (Nat.le_of_ble_eq_true rfl) ?_
  intro p e s m below meth c ls C hsz hnm hP hD hl
  generalize hAe : va_A (([] : va_W)) sz = A at C hD ⊢
  have C : mb_Cx p s m meth c ([.int x0, .int x1] : List Value).toArray cJ9_floorMod_7cf53 3 (some .int) wsJ9_floorMod_7cf53 RJ9 D Y A := C
  obtain ⟨hx, hb, hr, hml, hts, hown, hlocks, hA, hG⟩ := id C
  have hK := hG.1
  have hS : va_S A s.heap s.heap [] := va_S.rf
  have hl : lv_has ls 3 [(0, .int x0), (1, .int x1)] := hl
  refine lv_iload_n hx hb dJ9_floorMod_7cf53_0 rfl (lv_at hl 0 rfl) ?_
  refine lv_iload_n hx hb dJ9_floorMod_7cf53_1 rfl (lv_at hl 1 rfl) ?_
  obtain ⟨hz2, hF⟩ := hF
  refine lv_irem hx hb dJ9_floorMod_7cf53_2 hz2 ?_
  refine lv_topi (fun v3 ev3 => ?_)
  have hF := hF v3 ev3
  refine lv_istore_n (lv' := [(2, .int v3), (0, .int x0), (1, .int x1)]) hx hb dJ9_floorMod_7cf53_3 rfl hl (by decide) rfl (fun ls hl => ?_)
  refine lv_iload_n hx hb dJ9_floorMod_7cf53_4 rfl (lv_at hl 1 rfl) ?_
  refine lv_iload_n hx hb dJ9_floorMod_7cf53_5 rfl (lv_at hl 2 rfl) ?_
  refine lv_ixor hx hb dJ9_floorMod_7cf53_6 ?_
  refine lv_if_ge (tgt := 18) hx hb dJ9_floorMod_7cf53_7 (by decide) (fun c_7 => ?_) (fun c_7 => ?_)
  · have hF := hF.1 c_7
    refine lv_iload_n hx hb dJ9_floorMod_7cf53_18 rfl (lv_at hl 0 rfl) ?_
    exact mb_ri (S := Unit) (mc := 0) (ms := 0) (wf := fun u => []) C rfl (u := ()) hF hP hD hS dJ9_floorMod_7cf53_19 (Nat.le_of_ble_eq_true rfl) (Nat.le_of_ble_eq_true rfl)
  · have hF := hF.2 c_7
    refine lv_iload_n hx hb dJ9_floorMod_7cf53_10 rfl (lv_at hl 0 rfl) ?_
    refine lv_if_eq (tgt := 18) hx hb dJ9_floorMod_7cf53_11 (by decide) (fun c_11 => ?_) (fun c_11 => ?_)
    · have hF := hF.1 c_11
      refine lv_iload_n hx hb dJ9_floorMod_7cf53_18 rfl (lv_at hl 0 rfl) ?_
      exact mb_ri (S := Unit) (mc := 0) (ms := 0) (wf := fun u => []) C rfl (u := ()) hF hP hD hS dJ9_floorMod_7cf53_19 (Nat.le_of_ble_eq_true rfl) (Nat.le_of_ble_eq_true rfl)
    · have hF := hF.2 c_11
      refine lv_iload_n hx hb dJ9_floorMod_7cf53_14 rfl (lv_at hl 0 rfl) ?_
      refine lv_iload_n hx hb dJ9_floorMod_7cf53_15 rfl (lv_at hl 2 rfl) ?_
      refine lv_iadd hx hb dJ9_floorMod_7cf53_16 ?_
      exact mb_ri (S := Unit) (mc := 0) (ms := 0) (wf := fun u => []) C rfl (u := ()) hF hP hD hS dJ9_floorMod_7cf53_17 (Nat.le_of_ble_eq_true rfl) (Nat.le_of_ble_eq_true rfl)
end
