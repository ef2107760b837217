section
noncomputable def PX8_thrown (N : Nat) (M : mb_m) (K : Int32 → mb_m → Prop) : Prop := K (M 27 0) M
set_option maxHeartbeats 4000000 in
set_option maxRecDepth 100000 in
theorem cnX8_thrown (l : Launch) (D : va_G) (Y : Nat → ClassId) (N : Nat) (o : Nat) (a : Nat → Nat) (M : mb_m) (sz : Nat) (K : Int32 → mb_m → Prop) (hF : PX8_thrown N M K) : Met l yX8_thrown wsX8_thrown ({ frames := 0, cells := 0, slots := 0, locals := 0 } : Room) (va_Pc [.ref o] (mb_B D Y (gw8 Y o a M) sz)) (va_Qi K (fun u t => mb_T D (va_A (gw8 Y o a M) sz) (gw8 Y o a u) t) (va_A (gw8 Y o a M) sz)) 0 0 (va_A (gw8 Y o a M) sz) := by
  refine mb_begin (cc := cX8_thrown) (maxL := 1) (ret := (some .int)) (by decide +kernel) rfl (Nat.le_of_ble_eq_true rfl) ?_
  intro p e s m below meth c ls C hsz hnm hP hD hl
  generalize hAe : va_A (gw8 Y o a M) sz = A at C hD ⊢
  have C : mb_Cx p s m meth c ([.ref o] : List Value).toArray cX8_thrown 1 (some .int) wsX8_thrown RX8 D Y A := C
  obtain ⟨hx, hb, hr, hml, hts, hown, hlocks, hA, hG⟩ := id C
  have hK := hG.1
  have hS : va_S A s.heap s.heap [] := va_S.rf
  have hl : lv_has ls 1 [(0, .ref o)] := hl
  refine lv_aload_n hx hb dX8_thrown_0 rfl (lv_at hl 0 rfl) ?_
  refine va_get (D := D) (ci := 8) (v := .int (M 27 0)) (C := RX8) (T := TX8) (N := 28) hx hb hts (fun _ h9 => List.mem_cons_of_mem _ (List.mem_append_right _ (h9))) hown hK hP 0 rfl rfl 27 (by decide) (hts (.fieldLink RX8 71 "MarbleBenchModel" "thrown" "I") (List.mem_of_getElem? (i := 1) rfl)) (fun _ h9 => h9) rfl dX8_thrown_1 ?_
  exact mb_ri (S := mb_m) (mc := 0) (ms := 0) (wf := fun u => gw8 Y o a u) C rfl (u := M) hF hP hD hS dX8_thrown_4 (Nat.le_of_ble_eq_true rfl) (Nat.le_of_ble_eq_true rfl)
end
section
noncomputable def PX8_goes_26 (N : Nat) (K : Int32 → mb_m → Prop) (M : mb_m) (y0 : Int32) : Prop := ∀ M26 : mb_m, M26 = mb_u M 27 (mb_c y0) → ((¬ (M26 27 0) = 0 → K (0 : Int32) M26) ∧ ((M26 27 0) = 0 → K (1 : Int32) M26))
set_option maxHeartbeats 4000000 in
set_option maxRecDepth 100000 in
theorem wX8_goes_26 {p : Program} {l : Launch} {e : Env} {s : State} {m : MethodId} {below : List Frame} {meth : Method} {c : Code} {args : Array Value} {D : va_G} {Y : Nat → ClassId} {A : Nat → Prop} {o : Nat} {a : Nat → Nat} {N : Nat} {K : Int32 → mb_m → Prop} (C : mb_Cx p s m meth c args cX8_goes 4 (some .boolean) wsX8_goes RX8 D Y A) : ∀ (M : mb_m) (y0 : Int32) (H : Heap) (locs : List Loc) (ls : Array Slot), PX8_goes_26 N K  M y0 → va_P D vwCl (gw8 Y o a M) H → va_D A (gw8 Y o a M) → va_S A s.heap H locs → lv_has ls 4 [(0, .ref o)] → W p l e ({ frames := 0, cells := 0, slots := 0, locals := 0 } : Room) s m args below meth c H locs 0 0 (MQ below (va_Qi K (fun u t => mb_T D A (gw8 Y o a u) t) A) args s 0 0 A) (F0 m 26 ls [.int y0, .ref o]) := by
  obtain ⟨hx, hb, hr, hml, hts, hown, hlocks, hA, hG⟩ := id C
  have hK := hG.1
  intro M y0 H locs ls hF hP hD hS hl
  refine va_put (D := D) (ci := 8) (v := .int y0) (ty := .int) (C := RX8) (T := TX8) (N := 28) hx hb hts (fun _ h9 => List.mem_cons_of_mem _ (List.mem_append_right _ (h9))) tyX8 tyX8_ok nmX8 hown hK hP hD hS 0 rfl rfl 27 (by decide) (hts (.fieldLink RX8 71 "MarbleBenchModel" "thrown" "I") (List.mem_of_getElem? (i := 1) rfl)) (fun _ h9 => h9) rfl (by decide +kernel) rfl rfl (Nat.le_of_ble_eq_true rfl) dX8_goes_26 (fun H locs hP hD hS => ?_)
  obtain ⟨M26, eM26⟩ : ∃ y : mb_m, y = mb_u M 27 (mb_c y0) := ⟨_, rfl⟩
  have hF := hF M26 eM26
  have hP : va_P D vwCl (gw8 Y o a (mb_u M 27 (mb_c y0))) H := hP
  have hD : va_D A (gw8 Y o a (mb_u M 27 (mb_c y0))) := hD
  rw [← eM26] at hP hD
  refine lv_aload_n hx hb dX8_goes_29 rfl (lv_at hl 0 rfl) ?_
  refine va_get (D := D) (ci := 8) (v := .int (M26 27 0)) (C := RX8) (T := TX8) (N := 28) hx hb hts (fun _ h9 => List.mem_cons_of_mem _ (List.mem_append_right _ (h9))) hown hK hP 0 rfl rfl 27 (by decide) (hts (.fieldLink RX8 71 "MarbleBenchModel" "thrown" "I") (List.mem_of_getElem? (i := 1) rfl)) (fun _ h9 => h9) rfl dX8_goes_30 ?_
  refine lv_if_ne (tgt := 40) hx hb dX8_goes_33 (by decide) (fun c_33 => ?_) (fun c_33 => ?_)
  · have hF := hF.1 c_33
    refine lv_iconst (v := 0) hx hb dX8_goes_40 (by decide) ?_
    exact mb_ri (S := mb_m) (mc := 0) (ms := 0) (wf := fun u => gw8 Y o a u) C rfl (u := M26) hF hP hD hS dX8_goes_41 (Nat.le_of_ble_eq_true rfl) (Nat.le_of_ble_eq_true rfl)
  · have hF := hF.2 c_33
    refine lv_iconst (v := 1) hx hb dX8_goes_36 (by decide) ?_
    refine lv_goto (tgt := 41) hx hb dX8_goes_37 (by decide) ?_
    exact mb_ri (S := mb_m) (mc := 0) (ms := 0) (wf := fun u => gw8 Y o a u) C rfl (u := M26) hF hP hD hS dX8_goes_41 (Nat.le_of_ble_eq_true rfl) (Nat.le_of_ble_eq_true rfl)
noncomputable def PX8_goes (N : Nat) (M : mb_m) (x1 x2 x3 : Int32) (K : Int32 → mb_m → Prop) : Prop := (¬ x1 = 0 → (¬ x2 = 0 → (¬ x3 = 0 → PX8_goes_26 N K M (0 : Int32)) ∧ (x3 = 0 → PX8_goes_26 N K M (3 : Int32))) ∧ (x2 = 0 → PX8_goes_26 N K M (2 : Int32))) ∧ (x1 = 0 → PX8_goes_26 N K M (1 : Int32))
set_option maxHeartbeats 4000000 in
set_option maxRecDepth 100000 in
theorem cnX8_goes (l : Launch) (D : va_G) (Y : Nat → ClassId) (N : Nat) (o : Nat) (a : Nat → Nat) (M : mb_m) (sz : Nat) (x1 x2 x3 : Int32) (K : Int32 → mb_m → Prop) (hF : PX8_goes N M x1 x2 x3 K) : Met l yX8_goes wsX8_goes ({ frames := 0, cells := 0, slots := 0, locals := 0 } : Room) (va_Pc [.ref o, .int x1, .int x2, .int x3] (mb_B D Y (gw8 Y o a M) sz)) (va_Qi K (fun u t => mb_T D (va_A (gw8 Y o a M) sz) (gw8 Y o a u) t) (va_A (gw8 Y o a M) sz)) 0 0 (va_A (gw8 Y o a M) sz) := by
  refine mb_begin (cc := cX8_goes) (maxL := 4) (ret := (some .boolean)) (by decide +kernel) rfl (Nat.le_of_ble_eq_true rfl) ?_
  intro p e s m below meth c ls C hsz hnm hP hD hl
  generalize hAe : va_A (gw8 Y o a M) sz = A at C hD ⊢
  have C : mb_Cx p s m meth c ([.ref o, .int x1, .int x2, .int x3] : List Value).toArray cX8_goes 4 (some .boolean) wsX8_goes RX8 D Y A := C
  obtain ⟨hx, hb, hr, hml, hts, hown, hlocks, hA, hG⟩ := id C
  have hK := hG.1
  have hS : va_S A s.heap s.heap [] := va_S.rf
  have hl : lv_has ls 4 [(0, .ref o), (1, .int x1), (2, .int x2), (3, .int x3)] := hl
  refine lv_aload_n hx hb dX8_goes_0 rfl (lv_at hl 0 rfl) ?_
  refine lv_iload_n hx hb dX8_goes_1 rfl (lv_at hl 1 rfl) ?_
  refine lv_if_ne (tgt := 9) hx hb dX8_goes_2 (by decide) (fun c_2 => ?_) (fun c_2 => ?_)
  · have hF := hF.1 c_2
    refine lv_iload_n hx hb dX8_goes_9 rfl (lv_at hl 2 rfl) ?_
    refine lv_if_ne (tgt := 17) hx hb dX8_goes_10 (by decide) (fun c_10 => ?_) (fun c_10 => ?_)
    · have hF := hF.1 c_10
      refine lv_iload_n hx hb dX8_goes_17 rfl (lv_at hl 3 rfl) ?_
      refine lv_if_ne (tgt := 25) hx hb dX8_goes_18 (by decide) (fun c_18 => ?_) (fun c_18 => ?_)
      · have hF := hF.1 c_18
        refine lv_iconst (v := 0) hx hb dX8_goes_25 (by decide) ?_
        exact wX8_goes_26 C M (0 : Int32) _ _ _ hF hP hD hS (lv_sub hl [0] rfl)
      · have hF := hF.2 c_18
        refine lv_iconst (v := 3) hx hb dX8_goes_21 (by decide) ?_
        refine lv_goto (tgt := 26) hx hb dX8_goes_22 (by decide) ?_
        exact wX8_goes_26 C M (3 : Int32) _ _ _ hF hP hD hS (lv_sub hl [0] rfl)
    · have hF := hF.2 c_10
      refine lv_iconst (v := 2) hx hb dX8_goes_13 (by decide) ?_
      refine lv_goto (tgt := 26) hx hb dX8_goes_14 (by decide) ?_
      exact wX8_goes_26 C M (2 : Int32) _ _ _ hF hP hD hS (lv_sub hl [0] rfl)
  · have hF := hF.2 c_2
    refine lv_iconst (v := 1) hx hb dX8_goes_5 (by decide) ?_
    refine lv_goto (tgt := 26) hx hb dX8_goes_6 (by decide) ?_
    exact wX8_goes_26 C M (1 : Int32) _ _ _ hF hP hD hS (lv_sub hl [0] rfl)
end
section
noncomputable def PX8_drop_104 (N : Nat) (K : Int32 → mb_m → Prop) (b60 : mb_m → Int32 → Int32 → Int32 → Int32 → Int32 → Int32 → Prop) (b73 : mb_m → Int32 → Int32 → Int32 → Int32 → Int32 → Int32 → Int32 → Int32 → Prop) (M : mb_m) (x1 x2 x3 x4 x5 x6 x8 y0 y1 : Int32) : Prop := ∀ v105 : Int32, v105 = (y1 + y0) → (∀ v107 : Int32, v107 = x8 + (1 : Int32) → (b73 M x1 x2 x3 x4 x5 x6 v105 v107))
set_option maxHeartbeats 4000000 in
set_option maxRecDepth 100000 in
theorem wX8_drop_104 {p : Program} {l : Launch} {e : Env} {s : State} {m : MethodId} {below : List Frame} {meth : Method} {c : Code} {args : Array Value} {D : va_G} {Y : Nat → ClassId} {A : Nat → Prop} {o : Nat} {a : Nat → Nat} {N : Nat} {K : Int32 → mb_m → Prop} {b60 : mb_m → Int32 → Int32 → Int32 → Int32 → Int32 → Int32 → Prop} {b73 : mb_m → Int32 → Int32 → Int32 → Int32 → Int32 → Int32 → Int32 → Int32 → Prop} (C : mb_Cx p s m meth c args cX8_drop 9 (some .int) wsX8_drop RX8 D Y A) (hb60 : ∀ (M : mb_m) (x1 x2 x3 x4 x5 x6 : Int32) (H : Heap) (locs : List Loc) (ls : Array Slot), b60 M x1 x2 x3 x4 x5 x6 → va_P D vwCl (gw8 Y o a M) H → va_D A (gw8 Y o a M) → va_S A s.heap H locs → lv_has ls 9 [(0, .ref o), (1, .int x1), (2, .int x2), (3, .int x3), (4, .int x4), (5, .int x5), (6, .int x6)] → W p l e ({ frames := 2, cells := 0, slots := 0, locals := 42 } : Room) s m args below meth c H locs 0 0 (MQ below (va_Qi K (fun u t => mb_T D A (gw8 Y o a u) t) A) args s 0 0 A) (F0 m 60 ls [])) (hb73 : ∀ (M : mb_m) (x1 x2 x3 x4 x5 x6 x7 x8 : Int32) (H : Heap) (locs : List Loc) (ls : Array Slot), b73 M x1 x2 x3 x4 x5 x6 x7 x8 → va_P D vwCl (gw8 Y o a M) H → va_D A (gw8 Y o a M) → va_S A s.heap H locs → lv_has ls 9 [(0, .ref o), (1, .int x1), (2, .int x2), (3, .int x3), (4, .int x4), (5, .int x5), (6, .int x6), (7, .int x7), (8, .int x8)] → W p l e ({ frames := 2, cells := 0, slots := 0, locals := 42 } : Room) s m args below meth c H locs 0 0 (MQ below (va_Qi K (fun u t => mb_T D A (gw8 Y o a u) t) A) args s 0 0 A) (F0 m 73 ls [])) : ∀ (M : mb_m) (x1 x2 x3 x4 x5 x6 x8 y0 y1 : Int32) (H : Heap) (locs : List Loc) (ls : Array Slot), PX8_drop_104 N K b60 b73 M x1 x2 x3 x4 x5 x6 x8 y0 y1 → va_P D vwCl (gw8 Y o a M) H → va_D A (gw8 Y o a M) → va_S A s.heap H locs → lv_has ls 9 [(0, .ref o), (1, .int x1), (2, .int x2), (3, .int x3), (4, .int x4), (5, .int x5), (6, .int x6), (8, .int x8)] → W p l e ({ frames := 2, cells := 0, slots := 0, locals := 42 } : Room) s m args below meth c H locs 0 0 (MQ below (va_Qi K (fun u t => mb_T D A (gw8 Y o a u) t) A) args s 0 0 A) (F0 m 104 ls [.int y0, .int y1]) := by
  obtain ⟨hx, hb, hr, hml, hts, hown, hlocks, hA, hG⟩ := id C
  have hK := hG.1
  intro M x1 x2 x3 x4 x5 x6 x8 y0 y1 H locs ls hF hP hD hS hl
  refine lv_iadd hx hb dX8_drop_104 ?_
  refine lv_topi (fun v105 ev105 => ?_)
  have hF := hF v105 ev105
  refine lv_istore (lv' := [(7, .int v105), (0, .ref o), (1, .int x1), (2, .int x2), (3, .int x3), (4, .int x4), (5, .int x5), (6, .int x6), (8, .int x8)]) hx hb dX8_drop_105 hl (by decide) rfl (fun ls hl => ?_)
  obtain ⟨v107, ev107⟩ : ∃ y : Int32, y = x8 + (1 : Int32) := ⟨_, rfl⟩
  have hF := hF v107 ev107
  refine lv_iinc (v := v107) (lv' := [(8, .int v107), (7, .int v105), (0, .ref o), (1, .int x1), (2, .int x2), (3, .int x3), (4, .int x4), (5, .int x5), (6, .int x6)]) hx hb dX8_drop_107 hl (k := 8) rfl (by rw [ev107]; rfl) (by decide) rfl (fun ls hl => ?_)
  refine lv_goto (tgt := 73) hx hb dX8_drop_110 (by decide) ?_
  exact hb73 M x1 x2 x3 x4 x5 x6 v105 v107 _ _ _ hF hP hD hS (lv_sub hl [2, 3, 4, 5, 6, 7, 8, 1, 0] rfl)
noncomputable def PX8_drop_154 (N : Nat) (K : Int32 → mb_m → Prop) (b60 : mb_m → Int32 → Int32 → Int32 → Int32 → Int32 → Int32 → Prop) (M : mb_m) (x1 x2 x3 x4 x5 x6 : Int32) : Prop := ∀ v154 : Int32, v154 = x6 + (1 : Int32) → (b60 M x1 x2 x3 x4 x5 v154)
set_option maxHeartbeats 4000000 in
set_option maxRecDepth 100000 in
theorem wX8_drop_154 {p : Program} {l : Launch} {e : Env} {s : State} {m : MethodId} {below : List Frame} {meth : Method} {c : Code} {args : Array Value} {D : va_G} {Y : Nat → ClassId} {A : Nat → Prop} {o : Nat} {a : Nat → Nat} {N : Nat} {K : Int32 → mb_m → Prop} {b60 : mb_m → Int32 → Int32 → Int32 → Int32 → Int32 → Int32 → Prop} (C : mb_Cx p s m meth c args cX8_drop 9 (some .int) wsX8_drop RX8 D Y A) (hb60 : ∀ (M : mb_m) (x1 x2 x3 x4 x5 x6 : Int32) (H : Heap) (locs : List Loc) (ls : Array Slot), b60 M x1 x2 x3 x4 x5 x6 → va_P D vwCl (gw8 Y o a M) H → va_D A (gw8 Y o a M) → va_S A s.heap H locs → lv_has ls 9 [(0, .ref o), (1, .int x1), (2, .int x2), (3, .int x3), (4, .int x4), (5, .int x5), (6, .int x6)] → W p l e ({ frames := 2, cells := 0, slots := 0, locals := 42 } : Room) s m args below meth c H locs 0 0 (MQ below (va_Qi K (fun u t => mb_T D A (gw8 Y o a u) t) A) args s 0 0 A) (F0 m 60 ls [])) : ∀ (M : mb_m) (x1 x2 x3 x4 x5 x6 : Int32) (H : Heap) (locs : List Loc) (ls : Array Slot), PX8_drop_154 N K b60 M x1 x2 x3 x4 x5 x6 → va_P D vwCl (gw8 Y o a M) H → va_D A (gw8 Y o a M) → va_S A s.heap H locs → lv_has ls 9 [(0, .ref o), (1, .int x1), (2, .int x2), (3, .int x3), (4, .int x4), (5, .int x5), (6, .int x6)] → W p l e ({ frames := 2, cells := 0, slots := 0, locals := 42 } : Room) s m args below meth c H locs 0 0 (MQ below (va_Qi K (fun u t => mb_T D A (gw8 Y o a u) t) A) args s 0 0 A) (F0 m 154 ls []) := by
  obtain ⟨hx, hb, hr, hml, hts, hown, hlocks, hA, hG⟩ := id C
  have hK := hG.1
  intro M x1 x2 x3 x4 x5 x6 H locs ls hF hP hD hS hl
  obtain ⟨v154, ev154⟩ : ∃ y : Int32, y = x6 + (1 : Int32) := ⟨_, rfl⟩
  have hF := hF v154 ev154
  refine lv_iinc (v := v154) (lv' := [(6, .int v154), (0, .ref o), (1, .int x1), (2, .int x2), (3, .int x3), (4, .int x4), (5, .int x5)]) hx hb dX8_drop_154 hl (k := 6) rfl (by rw [ev154]; rfl) (by decide) rfl (fun ls hl => ?_)
  refine lv_goto (tgt := 60) hx hb dX8_drop_157 (by decide) ?_
  exact hb60 M x1 x2 x3 x4 x5 v154 _ _ _ hF hP hD hS (lv_sub hl [1, 2, 3, 4, 5, 6, 0] rfl)
noncomputable def PX8_drop_73_b (N : Nat) (K : Int32 → mb_m → Prop) (b60 : mb_m → Int32 → Int32 → Int32 → Int32 → Int32 → Int32 → Prop) (b73 : mb_m → Int32 → Int32 → Int32 → Int32 → Int32 → Int32 → Int32 → Int32 → Prop) (M : mb_m) (x1 x2 x3 x4 x5 x6 x7 x8 : Int32) : Prop := ((64 : Int32) ≤ x8 → (x4 ≤ x7 → PX8_drop_154 N K b60 M x1 x2 x3 x4 x5 x6) ∧ (¬ x4 ≤ x7 → vp_in x6 64 ∧ (((x3 + (1 : Int32)) < (M 0 x6.toNatClampNeg) → PX8_drop_154 N K b60 M x1 x2 x3 x4 x5 x6) ∧ (¬ (x3 + (1 : Int32)) < (M 0 x6.toNatClampNeg) → ∀ v142 : Int32, v142 = (x3 + (1 : Int32)) → (vp_in x6 64 ∧ (∀ M142 : mb_m, M142 = mb_u M 0 (upd (M 0) x6.toNatClampNeg v142) → (vp_in x6 64 ∧ (∀ M150 : mb_m, M150 = mb_u M142 1 (upd (M142 1) x6.toNatClampNeg (2 : Int32)) → (∀ v151 : Int32, v151 = x5 + (1 : Int32) → (PX8_drop_154 N K b60 M150 x1 x2 x3 x4 v151 x6)))))))))) ∧ (¬ (64 : Int32) ≤ x8 → PX8_order N x8 x1 x2 (fun r86 _ => PX8_order N x6 x1 x2 (fun r93 _ => (r93 ≤ r86 → PX8_drop_104 N K b60 b73 M x1 x2 x3 x4 x5 x6 x8 (0 : Int32) x7) ∧ (¬ r93 ≤ r86 → PX8_drop_104 N K b60 b73 M x1 x2 x3 x4 x5 x6 x8 (1 : Int32) x7))))
noncomputable def PX8_drop_73 (N : Nat) (K : Int32 → mb_m → Prop) (b60 : mb_m → Int32 → Int32 → Int32 → Int32 → Int32 → Int32 → Prop) (n : Nat) : mb_m → Int32 → Int32 → Int32 → Int32 → Int32 → Int32 → Int32 → Int32 → Prop := Nat.rec (motive := fun _ => mb_m → Int32 → Int32 → Int32 → Int32 → Int32 → Int32 → Int32 → Int32 → Prop) (fun _ _ _ _ _ _ _ _ _ => False) (fun _ b73 => PX8_drop_73_b N K b60 b73) n
set_option maxHeartbeats 4000000 in
set_option maxRecDepth 100000 in
theorem wX8_drop_73 {p : Program} {l : Launch} {e : Env} {s : State} {m : MethodId} {below : List Frame} {meth : Method} {c : Code} {args : Array Value} {D : va_G} {Y : Nat → ClassId} {A : Nat → Prop} {o : Nat} {a : Nat → Nat} {N : Nat} {K : Int32 → mb_m → Prop} {b60 : mb_m → Int32 → Int32 → Int32 → Int32 → Int32 → Int32 → Prop} (C : mb_Cx p s m meth c args cX8_drop 9 (some .int) wsX8_drop RX8 D Y A) (hb60 : ∀ (M : mb_m) (x1 x2 x3 x4 x5 x6 : Int32) (H : Heap) (locs : List Loc) (ls : Array Slot), b60 M x1 x2 x3 x4 x5 x6 → va_P D vwCl (gw8 Y o a M) H → va_D A (gw8 Y o a M) → va_S A s.heap H locs → lv_has ls 9 [(0, .ref o), (1, .int x1), (2, .int x2), (3, .int x3), (4, .int x4), (5, .int x5), (6, .int x6)] → W p l e ({ frames := 2, cells := 0, slots := 0, locals := 42 } : Room) s m args below meth c H locs 0 0 (MQ below (va_Qi K (fun u t => mb_T D A (gw8 Y o a u) t) A) args s 0 0 A) (F0 m 60 ls [])) : ∀ (n : Nat), (∀ (M : mb_m) (x1 x2 x3 x4 x5 x6 x7 x8 : Int32) (H : Heap) (locs : List Loc) (ls : Array Slot), PX8_drop_73 N K b60 n M x1 x2 x3 x4 x5 x6 x7 x8 → va_P D vwCl (gw8 Y o a M) H → va_D A (gw8 Y o a M) → va_S A s.heap H locs → lv_has ls 9 [(0, .ref o), (1, .int x1), (2, .int x2), (3, .int x3), (4, .int x4), (5, .int x5), (6, .int x6), (7, .int x7), (8, .int x8)] → W p l e ({ frames := 2, cells := 0, slots := 0, locals := 42 } : Room) s m args below meth c H locs 0 0 (MQ below (va_Qi K (fun u t => mb_T D A (gw8 Y o a u) t) A) args s 0 0 A) (F0 m 73 ls [])) := by
  obtain ⟨hx, hb, hr, hml, hts, hown, hlocks, hA, hG⟩ := id C
  have hK := hG.1
  intro n
  induction n with
  | zero => intro M x1 x2 x3 x4 x5 x6 x7 x8 H locs ls hF; exact (show False from hF).elim
  | succ n ih =>
    intro M x1 x2 x3 x4 x5 x6 x7 x8 H locs ls hF hP hD hS hl
    have hF : PX8_drop_73_b N K b60 (PX8_drop_73 N K b60 n) M x1 x2 x3 x4 x5 x6 x7 x8 := hF
    refine lv_iload hx hb dX8_drop_73 (lv_at hl 8 rfl) ?_
    refine lv_bipush (v := 64) hx hb dX8_drop_75 (by decide) ?_
    refine lv_icmp_ge (tgt := 113) hx hb dX8_drop_77 (by decide) (fun c_77 => ?_) (fun c_77 => ?_)
    · have hF := hF.1 c_77
      refine lv_iload hx hb dX8_drop_113 (lv_at hl 7 rfl) ?_
      refine lv_iload hx hb dX8_drop_115 (lv_at hl 4 rfl) ?_
      refine lv_icmp_ge (tgt := 154) hx hb dX8_drop_117 (by decide) (fun c_117 => ?_) (fun c_117 => ?_)
      · have hF := hF.1 c_117
        exact wX8_drop_154 C hb60 M x1 x2 x3 x4 x5 x6 _ _ _ hF hP hD hS (lv_sub hl [0, 1, 2, 3, 4, 5, 6] rfl)
      · have hF := hF.2 c_117
        refine lv_aload_n hx hb dX8_drop_120 rfl (lv_at hl 0 rfl) ?_
        refine va_get (D := D) (ci := 8) (v := .ref (a 0)) (C := RX8) (T := TX8) (N := 28) hx hb hts (fun _ h9 => List.mem_cons_of_mem _ (List.mem_append_right _ (h9))) hown hK hP 0 rfl rfl 0 (by decide) (hts (.fieldLink RX8 7 "MarbleBenchModel" "bath" "[I") (List.mem_of_getElem? (i := 1) rfl)) (fun _ h9 => h9) rfl dX8_drop_121 ?_
        refine lv_iload hx hb dX8_drop_124 (lv_at hl 6 rfl) ?_
        obtain ⟨hi126, hF⟩ := hF
        refine va_iald hx hb hK hP 1 0 rfl rfl hi126 dX8_drop_126 ?_
        refine lv_iload_n hx hb dX8_drop_127 rfl (lv_at hl 3 rfl) ?_
        refine lv_iconst (v := 1) hx hb dX8_drop_128 (by decide) ?_
        refine lv_iadd hx hb dX8_drop_129 ?_
        refine lv_icmp_gt (tgt := 154) hx hb dX8_drop_130 (by decide) (fun c_130 => ?_) (fun c_130 => ?_)
        · have hF := hF.1 c_130
          exact wX8_drop_154 C hb60 M x1 x2 x3 x4 x5 x6 _ _ _ hF hP hD hS (lv_sub hl [0, 1, 2, 3, 4, 5, 6] rfl)
        · have hF := hF.2 c_130
          refine lv_aload_n hx hb dX8_drop_133 rfl (lv_at hl 0 rfl) ?_
          refine va_get (D := D) (ci := 8) (v := .ref (a 0)) (C := RX8) (T := TX8) (N := 28) hx hb hts (fun _ h9 => List.mem_cons_of_mem _ (List.mem_append_right _ (h9))) hown hK hP 0 rfl rfl 0 (by decide) (hts (.fieldLink RX8 7 "MarbleBenchModel" "bath" "[I") (List.mem_of_getElem? (i := 1) rfl)) (fun _ h9 => h9) rfl dX8_drop_134 ?_
          refine lv_iload hx hb dX8_drop_137 (lv_at hl 6 rfl) ?_
          refine lv_iload_n hx hb dX8_drop_139 rfl (lv_at hl 3 rfl) ?_
          refine lv_iconst (v := 1) hx hb dX8_drop_140 (by decide) ?_
          refine lv_iadd hx hb dX8_drop_141 ?_
          refine lv_topi (fun v142 ev142 => ?_)
          have hF := hF v142 ev142
          obtain ⟨hi142, hF⟩ := hF
          refine va_iast hx hb hK hP hD hS 1 0 rfl rfl hi142 dX8_drop_142 (fun H locs hP hD hS => ?_)
          obtain ⟨M142, eM142⟩ : ∃ y : mb_m, y = mb_u M 0 (upd (M 0) x6.toNatClampNeg v142) := ⟨_, rfl⟩
          have hF := hF M142 eM142
          have hP : va_P D vwCl (gw8 Y o a (mb_u M 0 (upd (M 0) x6.toNatClampNeg v142))) H := hP
          have hD : va_D A (gw8 Y o a (mb_u M 0 (upd (M 0) x6.toNatClampNeg v142))) := hD
          rw [← eM142] at hP hD
          refine lv_aload_n hx hb dX8_drop_143 rfl (lv_at hl 0 rfl) ?_
          refine va_get (D := D) (ci := 8) (v := .ref (a 1)) (C := RX8) (T := TX8) (N := 28) hx hb hts (fun _ h9 => List.mem_cons_of_mem _ (List.mem_append_right _ (h9))) hown hK hP 0 rfl rfl 1 (by decide) (hts (.fieldLink RX8 13 "MarbleBenchModel" "strength" "[I") (List.mem_of_getElem? (i := 2) rfl)) (fun _ h9 => h9) rfl dX8_drop_144 ?_
          refine lv_iload hx hb dX8_drop_147 (lv_at hl 6 rfl) ?_
          refine lv_iconst (v := 2) hx hb dX8_drop_149 (by decide) ?_
          obtain ⟨hi150, hF⟩ := hF
          refine va_iast hx hb hK hP hD hS 2 0 rfl rfl hi150 dX8_drop_150 (fun H locs hP hD hS => ?_)
          obtain ⟨M150, eM150⟩ : ∃ y : mb_m, y = mb_u M142 1 (upd (M142 1) x6.toNatClampNeg (2 : Int32)) := ⟨_, rfl⟩
          have hF := hF M150 eM150
          have hP : va_P D vwCl (gw8 Y o a (mb_u M142 1 (upd (M142 1) x6.toNatClampNeg (2 : Int32)))) H := hP
          have hD : va_D A (gw8 Y o a (mb_u M142 1 (upd (M142 1) x6.toNatClampNeg (2 : Int32)))) := hD
          rw [← eM150] at hP hD
          obtain ⟨v151, ev151⟩ : ∃ y : Int32, y = x5 + (1 : Int32) := ⟨_, rfl⟩
          have hF := hF v151 ev151
          refine lv_iinc (v := v151) (lv' := [(5, .int v151), (0, .ref o), (1, .int x1), (2, .int x2), (3, .int x3), (4, .int x4), (6, .int x6), (7, .int x7), (8, .int x8)]) hx hb dX8_drop_151 hl (k := 5) rfl (by rw [ev151]; rfl) (by decide) rfl (fun ls hl => ?_)
          exact wX8_drop_154 C hb60 M150 x1 x2 x3 x4 v151 x6 _ _ _ hF hP hD hS (lv_sub hl [1, 2, 3, 4, 5, 0, 6] rfl)
    · have hF := hF.2 c_77
      refine lv_iload hx hb dX8_drop_80 (lv_at hl 7 rfl) ?_
      refine lv_iload hx hb dX8_drop_82 (lv_at hl 8 rfl) ?_
      refine lv_iload_n hx hb dX8_drop_84 rfl (lv_at hl 1 rfl) ?_
      refine lv_iload_n hx hb dX8_drop_85 rfl (lv_at hl 2 rfl) ?_
      refine mb_cE hP hS hA (va_runS (As := [.int x8, .int x1, .int x2]) (rest := [.int x7]) ⟨hx, hb, hml, hown, hts⟩ (cnX8_order l D Y N _ x8 x1 x2 _ hF) (va_cwS 3 hts gX8_drop_X8_order rfl rfl rfl (by decide +kernel) ⟨Nat.le_of_ble_eq_true rfl, Nat.le_of_ble_eq_true rfl⟩) (mb_preS (A := A) hG mb_P0 mb_D0) rfl rfl hl.1 rfl (lv_room (Nat.le_of_ble_eq_true rfl)) dX8_drop_86 ⟨Nat.le_of_ble_eq_true rfl, Nat.le_of_ble_eq_true rfl⟩) (fun r86 H locs hF hP hS => ?_)
      refine lv_iload hx hb dX8_drop_89 (lv_at hl 6 rfl) ?_
      refine lv_iload_n hx hb dX8_drop_91 rfl (lv_at hl 1 rfl) ?_
      refine lv_iload_n hx hb dX8_drop_92 rfl (lv_at hl 2 rfl) ?_
      refine mb_cE hP hS hA (va_runS (As := [.int x6, .int x1, .int x2]) (rest := [.int r86, .int x7]) ⟨hx, hb, hml, hown, hts⟩ (cnX8_order l D Y N _ x6 x1 x2 _ hF) (va_cwS 3 hts gX8_drop_X8_order rfl rfl rfl (by decide +kernel) ⟨Nat.le_of_ble_eq_true rfl, Nat.le_of_ble_eq_true rfl⟩) (mb_preS (A := A) hG mb_P0 mb_D0) rfl rfl hl.1 rfl (lv_room (Nat.le_of_ble_eq_true rfl)) dX8_drop_93 ⟨Nat.le_of_ble_eq_true rfl, Nat.le_of_ble_eq_true rfl⟩) (fun r93 H locs hF hP hS => ?_)
      refine lv_icmp_ge (tgt := 103) hx hb dX8_drop_96 (by decide) (fun c_96 => ?_) (fun c_96 => ?_)
      · have hF := hF.1 c_96
        refine lv_iconst (v := 0) hx hb dX8_drop_103 (by decide) ?_
        exact wX8_drop_104 C hb60 ih M x1 x2 x3 x4 x5 x6 x8 (0 : Int32) x7 _ _ _ hF hP hD hS (lv_sub hl [0, 1, 2, 3, 4, 5, 6, 8] rfl)
      · have hF := hF.2 c_96
        refine lv_iconst (v := 1) hx hb dX8_drop_99 (by decide) ?_
        refine lv_goto (tgt := 104) hx hb dX8_drop_100 (by decide) ?_
        exact wX8_drop_104 C hb60 ih M x1 x2 x3 x4 x5 x6 x8 (1 : Int32) x7 _ _ _ hF hP hD hS (lv_sub hl [0, 1, 2, 3, 4, 5, 6, 8] rfl)
noncomputable def PX8_drop_60_b (N : Nat) (K : Int32 → mb_m → Prop) (b60 : mb_m → Int32 → Int32 → Int32 → Int32 → Int32 → Int32 → Prop) (M : mb_m) (x1 x2 x3 x4 x5 x6 : Int32) : Prop := ((64 : Int32) ≤ x6 → K x5 M) ∧ (¬ (64 : Int32) ≤ x6 → PX8_drop_73 N K b60 N M x1 x2 x3 x4 x5 x6 (0 : Int32) (0 : Int32))
noncomputable def PX8_drop_60 (N : Nat) (K : Int32 → mb_m → Prop) (n : Nat) : mb_m → Int32 → Int32 → Int32 → Int32 → Int32 → Int32 → Prop := Nat.rec (motive := fun _ => mb_m → Int32 → Int32 → Int32 → Int32 → Int32 → Int32 → Prop) (fun _ _ _ _ _ _ _ => False) (fun _ b60 => PX8_drop_60_b N K  b60) n
set_option maxHeartbeats 4000000 in
set_option maxRecDepth 100000 in
theorem wX8_drop_60 {p : Program} {l : Launch} {e : Env} {s : State} {m : MethodId} {below : List Frame} {meth : Method} {c : Code} {args : Array Value} {D : va_G} {Y : Nat → ClassId} {A : Nat → Prop} {o : Nat} {a : Nat → Nat} {N : Nat} {K : Int32 → mb_m → Prop} (C : mb_Cx p s m meth c args cX8_drop 9 (some .int) wsX8_drop RX8 D Y A) : ∀ (n : Nat), (∀ (M : mb_m) (x1 x2 x3 x4 x5 x6 : Int32) (H : Heap) (locs : List Loc) (ls : Array Slot), PX8_drop_60 N K  n M x1 x2 x3 x4 x5 x6 → va_P D vwCl (gw8 Y o a M) H → va_D A (gw8 Y o a M) → va_S A s.heap H locs → lv_has ls 9 [(0, .ref o), (1, .int x1), (2, .int x2), (3, .int x3), (4, .int x4), (5, .int x5), (6, .int x6)] → W p l e ({ frames := 2, cells := 0, slots := 0, locals := 42 } : Room) s m args below meth c H locs 0 0 (MQ below (va_Qi K (fun u t => mb_T D A (gw8 Y o a u) t) A) args s 0 0 A) (F0 m 60 ls [])) := by
  obtain ⟨hx, hb, hr, hml, hts, hown, hlocks, hA, hG⟩ := id C
  have hK := hG.1
  intro n
  induction n with
  | zero => intro M x1 x2 x3 x4 x5 x6 H locs ls hF; exact (show False from hF).elim
  | succ n ih =>
    intro M x1 x2 x3 x4 x5 x6 H locs ls hF hP hD hS hl
    have hF : PX8_drop_60_b N K  (PX8_drop_60 N K  n) M x1 x2 x3 x4 x5 x6 := hF
    refine lv_iload hx hb dX8_drop_60 (lv_at hl 6 rfl) ?_
    refine lv_bipush (v := 64) hx hb dX8_drop_62 (by decide) ?_
    refine lv_icmp_ge (tgt := 160) hx hb dX8_drop_64 (by decide) (fun c_64 => ?_) (fun c_64 => ?_)
    · have hF := hF.1 c_64
      refine lv_iload hx hb dX8_drop_160 (lv_at hl 5 rfl) ?_
      exact mb_ri (S := mb_m) (mc := 0) (ms := 0) (wf := fun u => gw8 Y o a u) C rfl (u := M) hF hP hD hS dX8_drop_162 (Nat.le_of_ble_eq_true rfl) (Nat.le_of_ble_eq_true rfl)
    · have hF := hF.2 c_64
      refine lv_iconst (v := 0) hx hb dX8_drop_67 (by decide) ?_
      refine lv_istore (lv' := [(7, .int (0 : Int32)), (0, .ref o), (1, .int x1), (2, .int x2), (3, .int x3), (4, .int x4), (5, .int x5), (6, .int x6)]) hx hb dX8_drop_68 hl (by decide) rfl (fun ls hl => ?_)
      refine lv_iconst (v := 0) hx hb dX8_drop_70 (by decide) ?_
      refine lv_istore (lv' := [(8, .int (0 : Int32)), (7, .int (0 : Int32)), (0, .ref o), (1, .int x1), (2, .int x2), (3, .int x3), (4, .int x4), (5, .int x5), (6, .int x6)]) hx hb dX8_drop_71 hl (by decide) rfl (fun ls hl => ?_)
      exact wX8_drop_73 C ih N M x1 x2 x3 x4 x5 x6 (0 : Int32) (0 : Int32) _ _ _ hF hP hD hS (lv_sub hl [2, 3, 4, 5, 6, 7, 8, 1, 0] rfl)
noncomputable def PX8_drop_45 (N : Nat) (K : Int32 → mb_m → Prop) (M : mb_m) (x1 x2 x3 x4 y0 y1 : Int32) : Prop := PX8_goes N M y1 y0 (1 : Int32) (fun r46 M46 => (¬ r46 = 0 → PX8_drop_60 N K N M46 x1 x2 x3 x4 (0 : Int32) (0 : Int32)) ∧ (r46 = 0 → K (0 : Int32) M46))
set_option maxHeartbeats 4000000 in
set_option maxRecDepth 100000 in
theorem wX8_drop_45 {p : Program} {l : Launch} {e : Env} {s : State} {m : MethodId} {below : List Frame} {meth : Method} {c : Code} {args : Array Value} {D : va_G} {Y : Nat → ClassId} {A : Nat → Prop} {o : Nat} {a : Nat → Nat} {N : Nat} {K : Int32 → mb_m → Prop} (C : mb_Cx p s m meth c args cX8_drop 9 (some .int) wsX8_drop RX8 D Y A) : ∀ (M : mb_m) (x1 x2 x3 x4 y0 y1 : Int32) (H : Heap) (locs : List Loc) (ls : Array Slot), PX8_drop_45 N K  M x1 x2 x3 x4 y0 y1 → va_P D vwCl (gw8 Y o a M) H → va_D A (gw8 Y o a M) → va_S A s.heap H locs → lv_has ls 9 [(0, .ref o), (1, .int x1), (2, .int x2), (3, .int x3), (4, .int x4)] → W p l e ({ frames := 2, cells := 0, slots := 0, locals := 42 } : Room) s m args below meth c H locs 0 0 (MQ below (va_Qi K (fun u t => mb_T D A (gw8 Y o a u) t) A) args s 0 0 A) (F0 m 45 ls [.int y0, .int y1, .ref o]) := by
  obtain ⟨hx, hb, hr, hml, hts, hown, hlocks, hA, hG⟩ := id C
  have hK := hG.1
  intro M x1 x2 x3 x4 y0 y1 H locs ls hF hP hD hS hl
  refine lv_iconst (v := 1) hx hb dX8_drop_45 (by decide) ?_
  refine mb_cW hD hS hA (va_runV (As := [.int y1, .int y0, .int (1 : Int32)]) (rest := []) ⟨hx, hb, hml, hown, hts⟩ (cnX8_goes l D Y N o a M _ y1 y0 (1 : Int32) _ hF) (cwV 3 hts gX8_drop_X8_goes rfl rfl rfl (by decide +kernel) ⟨Nat.le_of_ble_eq_true rfl, Nat.le_of_ble_eq_true rfl⟩) (mb_preV hG hP hD 0 rfl rfl) rfl rfl hl.1 rfl (lv_room (Nat.le_of_ble_eq_true rfl)) dX8_drop_46 ⟨Nat.le_of_ble_eq_true rfl, Nat.le_of_ble_eq_true rfl⟩) (fun r46 M46 H locs hF hP hD hS => ?_)
  refine lv_if_ne (tgt := 54) hx hb dX8_drop_49 (by decide) (fun c_49 => ?_) (fun c_49 => ?_)
  · have hF := hF.1 c_49
    refine lv_iconst (v := 0) hx hb dX8_drop_54 (by decide) ?_
    refine lv_istore (lv' := [(5, .int (0 : Int32)), (0, .ref o), (1, .int x1), (2, .int x2), (3, .int x3), (4, .int x4)]) hx hb dX8_drop_55 hl (by decide) rfl (fun ls hl => ?_)
    refine lv_iconst (v := 0) hx hb dX8_drop_57 (by decide) ?_
    refine lv_istore (lv' := [(6, .int (0 : Int32)), (5, .int (0 : Int32)), (0, .ref o), (1, .int x1), (2, .int x2), (3, .int x3), (4, .int x4)]) hx hb dX8_drop_58 hl (by decide) rfl (fun ls hl => ?_)
    exact wX8_drop_60 C N M46 x1 x2 x3 x4 (0 : Int32) (0 : Int32) _ _ _ hF hP hD hS (lv_sub hl [2, 3, 4, 5, 6, 1, 0] rfl)
  · have hF := hF.2 c_49
    refine lv_iconst (v := 0) hx hb dX8_drop_52 (by decide) ?_
    exact mb_ri (S := mb_m) (mc := 0) (ms := 0) (wf := fun u => gw8 Y o a u) C rfl (u := M46) hF hP hD hS dX8_drop_53 (Nat.le_of_ble_eq_true rfl) (Nat.le_of_ble_eq_true rfl)
noncomputable def PX8_drop_44 (N : Nat) (K : Int32 → mb_m → Prop) (M : mb_m) (x1 x2 x3 x4 y0 : Int32) : Prop := PX8_drop_45 N K M x1 x2 x3 x4 (0 : Int32) y0
set_option maxHeartbeats 4000000 in
set_option maxRecDepth 100000 in
theorem wX8_drop_44 {p : Program} {l : Launch} {e : Env} {s : State} {m : MethodId} {below : List Frame} {meth : Method} {c : Code} {args : Array Value} {D : va_G} {Y : Nat → ClassId} {A : Nat → Prop} {o : Nat} {a : Nat → Nat} {N : Nat} {K : Int32 → mb_m → Prop} (C : mb_Cx p s m meth c args cX8_drop 9 (some .int) wsX8_drop RX8 D Y A) : ∀ (M : mb_m) (x1 x2 x3 x4 y0 : Int32) (H : Heap) (locs : List Loc) (ls : Array Slot), PX8_drop_44 N K  M x1 x2 x3 x4 y0 → va_P D vwCl (gw8 Y o a M) H → va_D A (gw8 Y o a M) → va_S A s.heap H locs → lv_has ls 9 [(0, .ref o), (1, .int x1), (2, .int x2), (3, .int x3), (4, .int x4)] → W p l e ({ frames := 2, cells := 0, slots := 0, locals := 42 } : Room) s m args below meth c H locs 0 0 (MQ below (va_Qi K (fun u t => mb_T D A (gw8 Y o a u) t) A) args s 0 0 A) (F0 m 44 ls [.int y0, .ref o]) := by
  obtain ⟨hx, hb, hr, hml, hts, hown, hlocks, hA, hG⟩ := id C
  have hK := hG.1
  intro M x1 x2 x3 x4 y0 H locs ls hF hP hD hS hl
  refine lv_iconst (v := 0) hx hb dX8_drop_44 (by decide) ?_
  exact wX8_drop_45 C M x1 x2 x3 x4 (0 : Int32) y0 _ _ _ hF hP hD hS (lv_sub hl [0, 1, 2, 3, 4] rfl)
noncomputable def PX8_drop_20 (N : Nat) (K : Int32 → mb_m → Prop) (M : mb_m) (x1 x2 x3 x4 y0 : Int32) : Prop := PX8_in N x3 (0 : Int32) (5 : Int32) (fun r23 _ => (r23 = 0 → PX8_drop_44 N K M x1 x2 x3 x4 y0) ∧ (¬ r23 = 0 → PX8_in N x4 (1 : Int32) (64 : Int32) (fun r34 _ => (r34 = 0 → PX8_drop_44 N K M x1 x2 x3 x4 y0) ∧ (¬ r34 = 0 → PX8_drop_45 N K M x1 x2 x3 x4 (1 : Int32) y0))))
set_option maxHeartbeats 4000000 in
set_option maxRecDepth 100000 in
theorem wX8_drop_20 {p : Program} {l : Launch} {e : Env} {s : State} {m : MethodId} {below : List Frame} {meth : Method} {c : Code} {args : Array Value} {D : va_G} {Y : Nat → ClassId} {A : Nat → Prop} {o : Nat} {a : Nat → Nat} {N : Nat} {K : Int32 → mb_m → Prop} (C : mb_Cx p s m meth c args cX8_drop 9 (some .int) wsX8_drop RX8 D Y A) : ∀ (M : mb_m) (x1 x2 x3 x4 y0 : Int32) (H : Heap) (locs : List Loc) (ls : Array Slot), PX8_drop_20 N K  M x1 x2 x3 x4 y0 → va_P D vwCl (gw8 Y o a M) H → va_D A (gw8 Y o a M) → va_S A s.heap H locs → lv_has ls 9 [(0, .ref o), (1, .int x1), (2, .int x2), (3, .int x3), (4, .int x4)] → W p l e ({ frames := 2, cells := 0, slots := 0, locals := 42 } : Room) s m args below meth c H locs 0 0 (MQ below (va_Qi K (fun u t => mb_T D A (gw8 Y o a u) t) A) args s 0 0 A) (F0 m 20 ls [.int y0, .ref o]) := by
  obtain ⟨hx, hb, hr, hml, hts, hown, hlocks, hA, hG⟩ := id C
  have hK := hG.1
  intro M x1 x2 x3 x4 y0 H locs ls hF hP hD hS hl
  refine lv_iload_n hx hb dX8_drop_20 rfl (lv_at hl 3 rfl) ?_
  refine lv_iconst (v := 0) hx hb dX8_drop_21 (by decide) ?_
  refine lv_iconst (v := 5) hx hb dX8_drop_22 (by decide) ?_
  refine mb_cE hP hS hA (va_runS (As := [.int x3, .int (0 : Int32), .int (5 : Int32)]) (rest := [.int y0, .ref o]) ⟨hx, hb, hml, hown, hts⟩ (cnX8_in l D Y N _ x3 (0 : Int32) (5 : Int32) _ hF) (va_cwS 3 hts gX8_drop_X8_in rfl rfl rfl (by decide +kernel) ⟨Nat.le_of_ble_eq_true rfl, Nat.le_of_ble_eq_true rfl⟩) (mb_preS (A := A) hG mb_P0 mb_D0) rfl rfl hl.1 rfl (lv_room (Nat.le_of_ble_eq_true rfl)) dX8_drop_23 ⟨Nat.le_of_ble_eq_true rfl, Nat.le_of_ble_eq_true rfl⟩) (fun r23 H locs hF hP hS => ?_)
  refine lv_if_eq (tgt := 44) hx hb dX8_drop_26 (by decide) (fun c_26 => ?_) (fun c_26 => ?_)
  · have hF := hF.1 c_26
    exact wX8_drop_44 C M x1 x2 x3 x4 y0 _ _ _ hF hP hD hS (lv_sub hl [0, 1, 2, 3, 4] rfl)
  · have hF := hF.2 c_26
    refine lv_iload hx hb dX8_drop_29 (lv_at hl 4 rfl) ?_
    refine lv_iconst (v := 1) hx hb dX8_drop_31 (by decide) ?_
    refine lv_bipush (v := 64) hx hb dX8_drop_32 (by decide) ?_
    refine mb_cE hP hS hA (va_runS (As := [.int x4, .int (1 : Int32), .int (64 : Int32)]) (rest := [.int y0, .ref o]) ⟨hx, hb, hml, hown, hts⟩ (cnX8_in l D Y N _ x4 (1 : Int32) (64 : Int32) _ hF) (va_cwS 3 hts gX8_drop_X8_in rfl rfl rfl (by decide +kernel) ⟨Nat.le_of_ble_eq_true rfl, Nat.le_of_ble_eq_true rfl⟩) (mb_preS (A := A) hG mb_P0 mb_D0) rfl rfl hl.1 rfl (lv_room (Nat.le_of_ble_eq_true rfl)) dX8_drop_34 ⟨Nat.le_of_ble_eq_true rfl, Nat.le_of_ble_eq_true rfl⟩) (fun r34 H locs hF hP hS => ?_)
    refine lv_if_eq (tgt := 44) hx hb dX8_drop_37 (by decide) (fun c_37 => ?_) (fun c_37 => ?_)
    · have hF := hF.1 c_37
      exact wX8_drop_44 C M x1 x2 x3 x4 y0 _ _ _ hF hP hD hS (lv_sub hl [0, 1, 2, 3, 4] rfl)
    · have hF := hF.2 c_37
      refine lv_iconst (v := 1) hx hb dX8_drop_40 (by decide) ?_
      refine lv_goto (tgt := 45) hx hb dX8_drop_41 (by decide) ?_
      exact wX8_drop_45 C M x1 x2 x3 x4 (1 : Int32) y0 _ _ _ hF hP hD hS (lv_sub hl [0, 1, 2, 3, 4] rfl)
noncomputable def PX8_drop_19 (N : Nat) (K : Int32 → mb_m → Prop) (M : mb_m) (x1 x2 x3 x4 : Int32) : Prop := PX8_drop_20 N K M x1 x2 x3 x4 (0 : Int32)
set_option maxHeartbeats 4000000 in
set_option maxRecDepth 100000 in
theorem wX8_drop_19 {p : Program} {l : Launch} {e : Env} {s : State} {m : MethodId} {below : List Frame} {meth : Method} {c : Code} {args : Array Value} {D : va_G} {Y : Nat → ClassId} {A : Nat → Prop} {o : Nat} {a : Nat → Nat} {N : Nat} {K : Int32 → mb_m → Prop} (C : mb_Cx p s m meth c args cX8_drop 9 (some .int) wsX8_drop RX8 D Y A) : ∀ (M : mb_m) (x1 x2 x3 x4 : Int32) (H : Heap) (locs : List Loc) (ls : Array Slot), PX8_drop_19 N K  M x1 x2 x3 x4 → va_P D vwCl (gw8 Y o a M) H → va_D A (gw8 Y o a M) → va_S A s.heap H locs → lv_has ls 9 [(0, .ref o), (1, .int x1), (2, .int x2), (3, .int x3), (4, .int x4)] → W p l e ({ frames := 2, cells := 0, slots := 0, locals := 42 } : Room) s m args below meth c H locs 0 0 (MQ below (va_Qi K (fun u t => mb_T D A (gw8 Y o a u) t) A) args s 0 0 A) (F0 m 19 ls [.ref o]) := by
  obtain ⟨hx, hb, hr, hml, hts, hown, hlocks, hA, hG⟩ := id C
  have hK := hG.1
  intro M x1 x2 x3 x4 H locs ls hF hP hD hS hl
  refine lv_iconst (v := 0) hx hb dX8_drop_19 (by decide) ?_
  exact wX8_drop_20 C M x1 x2 x3 x4 (0 : Int32) _ _ _ hF hP hD hS (lv_sub hl [0, 1, 2, 3, 4] rfl)
noncomputable def PX8_drop (N : Nat) (M : mb_m) (x1 x2 x3 x4 : Int32) (K : Int32 → mb_m → Prop) : Prop := PX8_isEdge N x1 (fun r2 _ => (r2 = 0 → PX8_drop_19 N K M x1 x2 x3 x4) ∧ (¬ r2 = 0 → PX8_isEdge N x2 (fun r9 _ => (r9 = 0 → PX8_drop_19 N K M x1 x2 x3 x4) ∧ (¬ r9 = 0 → PX8_drop_20 N K M x1 x2 x3 x4 (1 : Int32)))))
set_option maxHeartbeats 4000000 in
set_option maxRecDepth 100000 in
theorem cnX8_drop (l : Launch) (D : va_G) (Y : Nat → ClassId) (N : Nat) (o : Nat) (a : Nat → Nat) (M : mb_m) (sz : Nat) (x1 x2 x3 x4 : Int32) (K : Int32 → mb_m → Prop) (hF : PX8_drop N M x1 x2 x3 x4 K) : Met l yX8_drop wsX8_drop ({ frames := 2, cells := 0, slots := 0, locals := 42 } : Room) (va_Pc [.ref o, .int x1, .int x2, .int x3, .int x4] (mb_B D Y (gw8 Y o a M) sz)) (va_Qi K (fun u t => mb_T D (va_A (gw8 Y o a M) sz) (gw8 Y o a u) t) (va_A (gw8 Y o a M) sz)) 0 0 (va_A (gw8 Y o a M) sz) := by
  refine mb_begin (cc := cX8_drop) (maxL := 9) (ret := (some .int)) (by decide +kernel) rfl (Nat.le_of_ble_eq_true rfl) ?_
  intro p e s m below meth c ls C hsz hnm hP hD hl
  generalize hAe : va_A (gw8 Y o a M) sz = A at C hD ⊢
  have C : mb_Cx p s m meth c ([.ref o, .int x1, .int x2, .int x3, .int x4] : List Value).toArray cX8_drop 9 (some .int) wsX8_drop RX8 D Y A := C
  obtain ⟨hx, hb, hr, hml, hts, hown, hlocks, hA, hG⟩ := id C
  have hK := hG.1
  have hS : va_S A s.heap s.heap [] := va_S.rf
  have hl : lv_has ls 9 [(0, .ref o), (1, .int x1), (2, .int x2), (3, .int x3), (4, .int x4)] := hl
  refine lv_aload_n hx hb dX8_drop_0 rfl (lv_at hl 0 rfl) ?_
  refine lv_iload_n hx hb dX8_drop_1 rfl (lv_at hl 1 rfl) ?_
  refine mb_cE hP hS hA (va_runS (As := [.int x1]) (rest := [.ref o]) ⟨hx, hb, hml, hown, hts⟩ (cnX8_isEdge l D Y N _ x1 _ hF) (va_cwS 1 hts gX8_drop_X8_isEdge rfl rfl rfl (by decide +kernel) ⟨Nat.le_of_ble_eq_true rfl, Nat.le_of_ble_eq_true rfl⟩) (mb_preS (A := A) hG mb_P0 mb_D0) rfl rfl hl.1 rfl (lv_room (Nat.le_of_ble_eq_true rfl)) dX8_drop_2 ⟨Nat.le_of_ble_eq_true rfl, Nat.le_of_ble_eq_true rfl⟩) (fun r2 H locs hF hP hS => ?_)
  refine lv_if_eq (tgt := 19) hx hb dX8_drop_5 (by decide) (fun c_5 => ?_) (fun c_5 => ?_)
  · have hF := hF.1 c_5
    exact wX8_drop_19 C M x1 x2 x3 x4 _ _ _ hF hP hD hS (lv_sub hl [0, 1, 2, 3, 4] rfl)
  · have hF := hF.2 c_5
    refine lv_iload_n hx hb dX8_drop_8 rfl (lv_at hl 2 rfl) ?_
    refine mb_cE hP hS hA (va_runS (As := [.int x2]) (rest := [.ref o]) ⟨hx, hb, hml, hown, hts⟩ (cnX8_isEdge l D Y N _ x2 _ hF) (va_cwS 1 hts gX8_drop_X8_isEdge rfl rfl rfl (by decide +kernel) ⟨Nat.le_of_ble_eq_true rfl, Nat.le_of_ble_eq_true rfl⟩) (mb_preS (A := A) hG mb_P0 mb_D0) rfl rfl hl.1 rfl (lv_room (Nat.le_of_ble_eq_true rfl)) dX8_drop_9 ⟨Nat.le_of_ble_eq_true rfl, Nat.le_of_ble_eq_true rfl⟩) (fun r9 H locs hF hP hS => ?_)
    refine lv_if_eq (tgt := 19) hx hb dX8_drop_12 (by decide) (fun c_12 => ?_) (fun c_12 => ?_)
    · have hF := hF.1 c_12
      exact wX8_drop_19 C M x1 x2 x3 x4 _ _ _ hF hP hD hS (lv_sub hl [0, 1, 2, 3, 4] rfl)
    · have hF := hF.2 c_12
      refine lv_iconst (v := 1) hx hb dX8_drop_15 (by decide) ?_
      refine lv_goto (tgt := 20) hx hb dX8_drop_16 (by decide) ?_
      exact wX8_drop_20 C M x1 x2 x3 x4 (1 : Int32) _ _ _ hF hP hD hS (lv_sub hl [0, 1, 2, 3, 4] rfl)
end
section
noncomputable def PX8_turns_31_b (N : Nat) (K : mb_m → Prop) (b31 : mb_m → Int32 → Int32 → Int32 → Int32 → Int32 → Prop) (M : mb_m) (x1 x2 x3 x4 x5 : Int32) : Prop := (x5 ≤ 0 → PX8_cellIn N x1 x2 (0 : Int32) (fun r101 _ => vp_in r101 64 ∧ (∀ M105 : mb_m, M105 = mb_u M 0 (upd (M 0) r101.toNatClampNeg x3) → (PX8_cellIn N x1 x2 (0 : Int32) (fun r113 _ => vp_in r113 64 ∧ (∀ M118 : mb_m, M118 = mb_u M105 1 (upd (M105 1) r113.toNatClampNeg x4) → (K M118))))))) ∧ (¬ x5 ≤ 0 → PX8_cellIn N x1 x2 x5 (fun r44 _ => PX8_cellIn N x1 x2 (x5 - (1 : Int32)) (fun r57 _ => vp_in r57 64 ∧ (∀ v61 : Int32, v61 = (M 0 r57.toNatClampNeg) → (vp_in r44 64 ∧ (∀ M61 : mb_m, M61 = mb_u M 0 (upd (M 0) r44.toNatClampNeg v61) → (PX8_cellIn N x1 x2 x5 (fun r70 _ => PX8_cellIn N x1 x2 (x5 - (1 : Int32)) (fun r83 _ => vp_in r83 64 ∧ (∀ v87 : Int32, v87 = (M61 1 r83.toNatClampNeg) → (vp_in r70 64 ∧ (∀ M87 : mb_m, M87 = mb_u M61 1 (upd (M61 1) r70.toNatClampNeg v87) → (∀ v88 : Int32, v88 = x5 + (-1 : Int32) → (b31 M87 x1 x2 x3 x4 v88))))))))))))))
noncomputable def PX8_turns_31 (N : Nat) (K : mb_m → Prop) (n : Nat) : mb_m → Int32 → Int32 → Int32 → Int32 → Int32 → Prop := Nat.rec (motive := fun _ => mb_m → Int32 → Int32 → Int32 → Int32 → Int32 → Prop) (fun _ _ _ _ _ _ => False) (fun _ b31 => PX8_turns_31_b N K  b31) n
set_option maxHeartbeats 4000000 in
set_option maxRecDepth 100000 in
theorem wX8_turns_31 {p : Program} {l : Launch} {e : Env} {s : State} {m : MethodId} {below : List Frame} {meth : Method} {c : Code} {args : Array Value} {D : va_G} {Y : Nat → ClassId} {A : Nat → Prop} {o : Nat} {a : Nat → Nat} {N : Nat} {K : mb_m → Prop} (C : mb_Cx p s m meth c args cX8_turns 6 none wsX8_turns RX8 D Y A) : ∀ (n : Nat), (∀ (M : mb_m) (x1 x2 x3 x4 x5 : Int32) (H : Heap) (locs : List Loc) (ls : Array Slot), PX8_turns_31 N K  n M x1 x2 x3 x4 x5 → va_P D vwCl (gw8 Y o a M) H → va_D A (gw8 Y o a M) → va_S A s.heap H locs → lv_has ls 6 [(0, .ref o), (1, .int x1), (2, .int x2), (3, .int x3), (4, .int x4), (5, .int x5)] → W p l e ({ frames := 1, cells := 0, slots := 0, locals := 22 } : Room) s m args below meth c H locs 0 0 (MQ below (va_Qv K (fun u t => mb_T D A (gw8 Y o a u) t) A) args s 0 0 A) (F0 m 31 ls [])) := by
  obtain ⟨hx, hb, hr, hml, hts, hown, hlocks, hA, hG⟩ := id C
  have hK := hG.1
  intro n
  induction n with
  | zero => intro M x1 x2 x3 x4 x5 H locs ls hF; exact (show False from hF).elim
  | succ n ih =>
    intro M x1 x2 x3 x4 x5 H locs ls hF hP hD hS hl
    have hF : PX8_turns_31_b N K  (PX8_turns_31 N K  n) M x1 x2 x3 x4 x5 := hF
    refine lv_iload hx hb dX8_turns_31 (lv_at hl 5 rfl) ?_
    refine lv_if_le (tgt := 94) hx hb dX8_turns_33 (by decide) (fun c_33 => ?_) (fun c_33 => ?_)
    · have hF := hF.1 c_33
      refine lv_aload_n hx hb dX8_turns_94 rfl (lv_at hl 0 rfl) ?_
      refine va_get (D := D) (ci := 8) (v := .ref (a 0)) (C := RX8) (T := TX8) (N := 28) hx hb hts (fun _ h9 => List.mem_cons_of_mem _ (List.mem_append_right _ (h9))) hown hK hP 0 rfl rfl 0 (by decide) (hts (.fieldLink RX8 7 "MarbleBenchModel" "bath" "[I") (List.mem_of_getElem? (i := 1) rfl)) (fun _ h9 => h9) rfl dX8_turns_95 ?_
      refine lv_iload_n hx hb dX8_turns_98 rfl (lv_at hl 1 rfl) ?_
      refine lv_iload_n hx hb dX8_turns_99 rfl (lv_at hl 2 rfl) ?_
      refine lv_iconst (v := 0) hx hb dX8_turns_100 (by decide) ?_
      refine mb_cE hP hS hA (va_runS (As := [.int x1, .int x2, .int (0 : Int32)]) (rest := [.ref (a 0)]) ⟨hx, hb, hml, hown, hts⟩ (cnX8_cellIn l D Y N _ x1 x2 (0 : Int32) _ hF) (va_cwS 3 hts gX8_turns_X8_cellIn rfl rfl rfl (by decide +kernel) ⟨Nat.le_of_ble_eq_true rfl, Nat.le_of_ble_eq_true rfl⟩) (mb_preS (A := A) hG mb_P0 mb_D0) rfl rfl hl.1 rfl (lv_room (Nat.le_of_ble_eq_true rfl)) dX8_turns_101 ⟨Nat.le_of_ble_eq_true rfl, Nat.le_of_ble_eq_true rfl⟩) (fun r101 H locs hF hP hS => ?_)
      refine lv_iload_n hx hb dX8_turns_104 rfl (lv_at hl 3 rfl) ?_
      obtain ⟨hi105, hF⟩ := hF
      refine va_iast hx hb hK hP hD hS 1 0 rfl rfl hi105 dX8_turns_105 (fun H locs hP hD hS => ?_)
      obtain ⟨M105, eM105⟩ : ∃ y : mb_m, y = mb_u M 0 (upd (M 0) r101.toNatClampNeg x3) := ⟨_, rfl⟩
      have hF := hF M105 eM105
      have hP : va_P D vwCl (gw8 Y o a (mb_u M 0 (upd (M 0) r101.toNatClampNeg x3))) H := hP
      have hD : va_D A (gw8 Y o a (mb_u M 0 (upd (M 0) r101.toNatClampNeg x3))) := hD
      rw [← eM105] at hP hD
      refine lv_aload_n hx hb dX8_turns_106 rfl (lv_at hl 0 rfl) ?_
      refine va_get (D := D) (ci := 8) (v := .ref (a 1)) (C := RX8) (T := TX8) (N := 28) hx hb hts (fun _ h9 => List.mem_cons_of_mem _ (List.mem_append_right _ (h9))) hown hK hP 0 rfl rfl 1 (by decide) (hts (.fieldLink RX8 13 "MarbleBenchModel" "strength" "[I") (List.mem_of_getElem? (i := 2) rfl)) (fun _ h9 => h9) rfl dX8_turns_107 ?_
      refine lv_iload_n hx hb dX8_turns_110 rfl (lv_at hl 1 rfl) ?_
      refine lv_iload_n hx hb dX8_turns_111 rfl (lv_at hl 2 rfl) ?_
      refine lv_iconst (v := 0) hx hb dX8_turns_112 (by decide) ?_
      refine mb_cE hP hS hA (va_runS (As := [.int x1, .int x2, .int (0 : Int32)]) (rest := [.ref (a 1)]) ⟨hx, hb, hml, hown, hts⟩ (cnX8_cellIn l D Y N _ x1 x2 (0 : Int32) _ hF) (va_cwS 3 hts gX8_turns_X8_cellIn rfl rfl rfl (by decide +kernel) ⟨Nat.le_of_ble_eq_true rfl, Nat.le_of_ble_eq_true rfl⟩) (mb_preS (A := A) hG mb_P0 mb_D0) rfl rfl hl.1 rfl (lv_room (Nat.le_of_ble_eq_true rfl)) dX8_turns_113 ⟨Nat.le_of_ble_eq_true rfl, Nat.le_of_ble_eq_true rfl⟩) (fun r113 H locs hF hP hS => ?_)
      refine lv_iload hx hb dX8_turns_116 (lv_at hl 4 rfl) ?_
      obtain ⟨hi118, hF⟩ := hF
      refine va_iast hx hb hK hP hD hS 2 0 rfl rfl hi118 dX8_turns_118 (fun H locs hP hD hS => ?_)
      obtain ⟨M118, eM118⟩ : ∃ y : mb_m, y = mb_u M105 1 (upd (M105 1) r113.toNatClampNeg x4) := ⟨_, rfl⟩
      have hF := hF M118 eM118
      have hP : va_P D vwCl (gw8 Y o a (mb_u M105 1 (upd (M105 1) r113.toNatClampNeg x4))) H := hP
      have hD : va_D A (gw8 Y o a (mb_u M105 1 (upd (M105 1) r113.toNatClampNeg x4))) := hD
      rw [← eM118] at hP hD
      exact mb_rv (S := mb_m) (mc := 0) (ms := 0) (wf := fun u => gw8 Y o a u) C (u := M118) hF hP hD hS dX8_turns_119 (Nat.le_of_ble_eq_true rfl) (Nat.le_of_ble_eq_true rfl)
    · have hF := hF.2 c_33
      refine lv_aload_n hx hb dX8_turns_36 rfl (lv_at hl 0 rfl) ?_
      refine va_get (D := D) (ci := 8) (v := .ref (a 0)) (C := RX8) (T := TX8) (N := 28) hx hb hts (fun _ h9 => List.mem_cons_of_mem _ (List.mem_append_right _ (h9))) hown hK hP 0 rfl rfl 0 (by decide) (hts (.fieldLink RX8 7 "MarbleBenchModel" "bath" "[I") (List.mem_of_getElem? (i := 1) rfl)) (fun _ h9 => h9) rfl dX8_turns_37 ?_
      refine lv_iload_n hx hb dX8_turns_40 rfl (lv_at hl 1 rfl) ?_
      refine lv_iload_n hx hb dX8_turns_41 rfl (lv_at hl 2 rfl) ?_
      refine lv_iload hx hb dX8_turns_42 (lv_at hl 5 rfl) ?_
      refine mb_cE hP hS hA (va_runS (As := [.int x1, .int x2, .int x5]) (rest := [.ref (a 0)]) ⟨hx, hb, hml, hown, hts⟩ (cnX8_cellIn l D Y N _ x1 x2 x5 _ hF) (va_cwS 3 hts gX8_turns_X8_cellIn rfl rfl rfl (by decide +kernel) ⟨Nat.le_of_ble_eq_true rfl, Nat.le_of_ble_eq_true rfl⟩) (mb_preS (A := A) hG mb_P0 mb_D0) rfl rfl hl.1 rfl (lv_room (Nat.le_of_ble_eq_true rfl)) dX8_turns_44 ⟨Nat.le_of_ble_eq_true rfl, Nat.le_of_ble_eq_true rfl⟩) (fun r44 H locs hF hP hS => ?_)
      refine lv_aload_n hx hb dX8_turns_47 rfl (lv_at hl 0 rfl) ?_
      refine va_get (D := D) (ci := 8) (v := .ref (a 0)) (C := RX8) (T := TX8) (N := 28) hx hb hts (fun _ h9 => List.mem_cons_of_mem _ (List.mem_append_right _ (h9))) hown hK hP 0 rfl rfl 0 (by decide) (hts (.fieldLink RX8 7 "MarbleBenchModel" "bath" "[I") (List.mem_of_getElem? (i := 1) rfl)) (fun _ h9 => h9) rfl dX8_turns_48 ?_
      refine lv_iload_n hx hb dX8_turns_51 rfl (lv_at hl 1 rfl) ?_
      refine lv_iload_n hx hb dX8_turns_52 rfl (lv_at hl 2 rfl) ?_
      refine lv_iload hx hb dX8_turns_53 (lv_at hl 5 rfl) ?_
      refine lv_iconst (v := 1) hx hb dX8_turns_55 (by decide) ?_
      refine lv_isub hx hb dX8_turns_56 ?_
      refine mb_cE hP hS hA (va_runS (As := [.int x1, .int x2, .int (x5 - (1 : Int32))]) (rest := [.ref (a 0), .int r44, .ref (a 0)]) ⟨hx, hb, hml, hown, hts⟩ (cnX8_cellIn l D Y N _ x1 x2 (x5 - (1 : Int32)) _ hF) (va_cwS 3 hts gX8_turns_X8_cellIn rfl rfl rfl (by decide +kernel) ⟨Nat.le_of_ble_eq_true rfl, Nat.le_of_ble_eq_true rfl⟩) (mb_preS (A := A) hG mb_P0 mb_D0) rfl rfl hl.1 rfl (lv_room (Nat.le_of_ble_eq_true rfl)) dX8_turns_57 ⟨Nat.le_of_ble_eq_true rfl, Nat.le_of_ble_eq_true rfl⟩) (fun r57 H locs hF hP hS => ?_)
      obtain ⟨hi60, hF⟩ := hF
      refine va_iald hx hb hK hP 1 0 rfl rfl hi60 dX8_turns_60 ?_
      refine lv_topi (fun v61 ev61 => ?_)
      have hF := hF v61 ev61
      obtain ⟨hi61, hF⟩ := hF
      refine va_iast hx hb hK hP hD hS 1 0 rfl rfl hi61 dX8_turns_61 (fun H locs hP hD hS => ?_)
      obtain ⟨M61, eM61⟩ : ∃ y : mb_m, y = mb_u M 0 (upd (M 0) r44.toNatClampNeg v61) := ⟨_, rfl⟩
      have hF := hF M61 eM61
      have hP : va_P D vwCl (gw8 Y o a (mb_u M 0 (upd (M 0) r44.toNatClampNeg v61))) H := hP
      have hD : va_D A (gw8 Y o a (mb_u M 0 (upd (M 0) r44.toNatClampNeg v61))) := hD
      rw [← eM61] at hP hD
      refine lv_aload_n hx hb dX8_turns_62 rfl (lv_at hl 0 rfl) ?_
      refine va_get (D := D) (ci := 8) (v := .ref (a 1)) (C := RX8) (T := TX8) (N := 28) hx hb hts (fun _ h9 => List.mem_cons_of_mem _ (List.mem_append_right _ (h9))) hown hK hP 0 rfl rfl 1 (by decide) (hts (.fieldLink RX8 13 "MarbleBenchModel" "strength" "[I") (List.mem_of_getElem? (i := 2) rfl)) (fun _ h9 => h9) rfl dX8_turns_63 ?_
      refine lv_iload_n hx hb dX8_turns_66 rfl (lv_at hl 1 rfl) ?_
      refine lv_iload_n hx hb dX8_turns_67 rfl (lv_at hl 2 rfl) ?_
      refine lv_iload hx hb dX8_turns_68 (lv_at hl 5 rfl) ?_
      refine mb_cE hP hS hA (va_runS (As := [.int x1, .int x2, .int x5]) (rest := [.ref (a 1)]) ⟨hx, hb, hml, hown, hts⟩ (cnX8_cellIn l D Y N _ x1 x2 x5 _ hF) (va_cwS 3 hts gX8_turns_X8_cellIn rfl rfl rfl (by decide +kernel) ⟨Nat.le_of_ble_eq_true rfl, Nat.le_of_ble_eq_true rfl⟩) (mb_preS (A := A) hG mb_P0 mb_D0) rfl rfl hl.1 rfl (lv_room (Nat.le_of_ble_eq_true rfl)) dX8_turns_70 ⟨Nat.le_of_ble_eq_true rfl, Nat.le_of_ble_eq_true rfl⟩) (fun r70 H locs hF hP hS => ?_)
      refine lv_aload_n hx hb dX8_turns_73 rfl (lv_at hl 0 rfl) ?_
      refine va_get (D := D) (ci := 8) (v := .ref (a 1)) (C := RX8) (T := TX8) (N := 28) hx hb hts (fun _ h9 => List.mem_cons_of_mem _ (List.mem_append_right _ (h9))) hown hK hP 0 rfl rfl 1 (by decide) (hts (.fieldLink RX8 13 "MarbleBenchModel" "strength" "[I") (List.mem_of_getElem? (i := 2) rfl)) (fun _ h9 => h9) rfl dX8_turns_74 ?_
      refine lv_iload_n hx hb dX8_turns_77 rfl (lv_at hl 1 rfl) ?_
      refine lv_iload_n hx hb dX8_turns_78 rfl (lv_at hl 2 rfl) ?_
      refine lv_iload hx hb dX8_turns_79 (lv_at hl 5 rfl) ?_
      refine lv_iconst (v := 1) hx hb dX8_turns_81 (by decide) ?_
      refine lv_isub hx hb dX8_turns_82 ?_
      refine mb_cE hP hS hA (va_runS (As := [.int x1, .int x2, .int (x5 - (1 : Int32))]) (rest := [.ref (a 1), .int r70, .ref (a 1)]) ⟨hx, hb, hml, hown, hts⟩ (cnX8_cellIn l D Y N _ x1 x2 (x5 - (1 : Int32)) _ hF) (va_cwS 3 hts gX8_turns_X8_cellIn rfl rfl rfl (by decide +kernel) ⟨Nat.le_of_ble_eq_true rfl, Nat.le_of_ble_eq_true rfl⟩) (mb_preS (A := A) hG mb_P0 mb_D0) rfl rfl hl.1 rfl (lv_room (Nat.le_of_ble_eq_true rfl)) dX8_turns_83 ⟨Nat.le_of_ble_eq_true rfl, Nat.le_of_ble_eq_true rfl⟩) (fun r83 H locs hF hP hS => ?_)
      obtain ⟨hi86, hF⟩ := hF
      refine va_iald hx hb hK hP 2 0 rfl rfl hi86 dX8_turns_86 ?_
      refine lv_topi (fun v87 ev87 => ?_)
      have hF := hF v87 ev87
      obtain ⟨hi87, hF⟩ := hF
      refine va_iast hx hb hK hP hD hS 2 0 rfl rfl hi87 dX8_turns_87 (fun H locs hP hD hS => ?_)
      obtain ⟨M87, eM87⟩ : ∃ y : mb_m, y = mb_u M61 1 (upd (M61 1) r70.toNatClampNeg v87) := ⟨_, rfl⟩
      have hF := hF M87 eM87
      have hP : va_P D vwCl (gw8 Y o a (mb_u M61 1 (upd (M61 1) r70.toNatClampNeg v87))) H := hP
      have hD : va_D A (gw8 Y o a (mb_u M61 1 (upd (M61 1) r70.toNatClampNeg v87))) := hD
      rw [← eM87] at hP hD
      obtain ⟨v88, ev88⟩ : ∃ y : Int32, y = x5 + (-1 : Int32) := ⟨_, rfl⟩
      have hF := hF v88 ev88
      refine lv_iinc (v := v88) (lv' := [(5, .int v88), (0, .ref o), (1, .int x1), (2, .int x2), (3, .int x3), (4, .int x4)]) hx hb dX8_turns_88 hl (k := 5) rfl (by rw [ev88]; rfl) (by decide) rfl (fun ls hl => ?_)
      refine lv_goto (tgt := 31) hx hb dX8_turns_91 (by decide) ?_
      exact ih M87 x1 x2 x3 x4 v88 _ _ _ hF hP hD hS (lv_sub hl [1, 2, 3, 4, 5, 0] rfl)
noncomputable def PX8_turns (N : Nat) (M : mb_m) (x1 x2 : Int32) (K : mb_m → Prop) : Prop := PX8_cellIn N x1 x2 (7 : Int32) (fun r8 _ => vp_in r8 64 ∧ (∀ v12 : Int32, v12 = (M 0 r8.toNatClampNeg) → (PX8_cellIn N x1 x2 (7 : Int32) (fun r21 _ => vp_in r21 64 ∧ (∀ v25 : Int32, v25 = (M 1 r21.toNatClampNeg) → (PX8_turns_31 N K N M x1 x2 v12 v25 (7 : Int32)))))))
set_option maxHeartbeats 4000000 in
set_option maxRecDepth 100000 in
theorem cnX8_turns (l : Launch) (D : va_G) (Y : Nat → ClassId) (N : Nat) (o : Nat) (a : Nat → Nat) (M : mb_m) (sz : Nat) (x1 x2 : Int32) (K : mb_m → Prop) (hF : PX8_turns N M x1 x2 K) : Met l yX8_turns wsX8_turns ({ frames := 1, cells := 0, slots := 0, locals := 22 } : Room) (va_Pc [.ref o, .int x1, .int x2] (mb_B D Y (gw8 Y o a M) sz)) (va_Qv K (fun u t => mb_T D (va_A (gw8 Y o a M) sz) (gw8 Y o a u) t) (va_A (gw8 Y o a M) sz)) 0 0 (va_A (gw8 Y o a M) sz) := by
  refine mb_begin (cc := cX8_turns) (maxL := 6) (ret := none) (by decide +kernel) rfl (Nat.le_of_ble_eq_true rfl) ?_
  intro p e s m below meth c ls C hsz hnm hP hD hl
  generalize hAe : va_A (gw8 Y o a M) sz = A at C hD ⊢
  have C : mb_Cx p s m meth c ([.ref o, .int x1, .int x2] : List Value).toArray cX8_turns 6 none wsX8_turns RX8 D Y A := C
  obtain ⟨hx, hb, hr, hml, hts, hown, hlocks, hA, hG⟩ := id C
  have hK := hG.1
  have hS : va_S A s.heap s.heap [] := va_S.rf
  have hl : lv_has ls 6 [(0, .ref o), (1, .int x1), (2, .int x2)] := hl
  refine lv_aload_n hx hb dX8_turns_0 rfl (lv_at hl 0 rfl) ?_
  refine va_get (D := D) (ci := 8) (v := .ref (a 0)) (C := RX8) (T := TX8) (N := 28) hx hb hts (fun _ h9 => List.mem_cons_of_mem _ (List.mem_append_right _ (h9))) hown hK hP 0 rfl rfl 0 (by decide) (hts (.fieldLink RX8 7 "MarbleBenchModel" "bath" "[I") (List.mem_of_getElem? (i := 1) rfl)) (fun _ h9 => h9) rfl dX8_turns_1 ?_
  refine lv_iload_n hx hb dX8_turns_4 rfl (lv_at hl 1 rfl) ?_
  refine lv_iload_n hx hb dX8_turns_5 rfl (lv_at hl 2 rfl) ?_
  refine lv_bipush (v := 7) hx hb dX8_turns_6 (by decide) ?_
  refine mb_cE hP hS hA (va_runS (As := [.int x1, .int x2, .int (7 : Int32)]) (rest := [.ref (a 0)]) ⟨hx, hb, hml, hown, hts⟩ (cnX8_cellIn l D Y N _ x1 x2 (7 : Int32) _ hF) (va_cwS 3 hts gX8_turns_X8_cellIn rfl rfl rfl (by decide +kernel) ⟨Nat.le_of_ble_eq_true rfl, Nat.le_of_ble_eq_true rfl⟩) (mb_preS (A := A) hG mb_P0 mb_D0) rfl rfl hl.1 rfl (lv_room (Nat.le_of_ble_eq_true rfl)) dX8_turns_8 ⟨Nat.le_of_ble_eq_true rfl, Nat.le_of_ble_eq_true rfl⟩) (fun r8 H locs hF hP hS => ?_)
  obtain ⟨hi11, hF⟩ := hF
  refine va_iald hx hb hK hP 1 0 rfl rfl hi11 dX8_turns_11 ?_
  refine lv_topi (fun v12 ev12 => ?_)
  have hF := hF v12 ev12
  refine lv_istore_n (lv' := [(3, .int v12), (0, .ref o), (1, .int x1), (2, .int x2)]) hx hb dX8_turns_12 rfl hl (by decide) rfl (fun ls hl => ?_)
  refine lv_aload_n hx hb dX8_turns_13 rfl (lv_at hl 1 rfl) ?_
  refine va_get (D := D) (ci := 8) (v := .ref (a 1)) (C := RX8) (T := TX8) (N := 28) hx hb hts (fun _ h9 => List.mem_cons_of_mem _ (List.mem_append_right _ (h9))) hown hK hP 0 rfl rfl 1 (by decide) (hts (.fieldLink RX8 13 "MarbleBenchModel" "strength" "[I") (List.mem_of_getElem? (i := 2) rfl)) (fun _ h9 => h9) rfl dX8_turns_14 ?_
  refine lv_iload_n hx hb dX8_turns_17 rfl (lv_at hl 2 rfl) ?_
  refine lv_iload_n hx hb dX8_turns_18 rfl (lv_at hl 3 rfl) ?_
  refine lv_bipush (v := 7) hx hb dX8_turns_19 (by decide) ?_
  refine mb_cE hP hS hA (va_runS (As := [.int x1, .int x2, .int (7 : Int32)]) (rest := [.ref (a 1)]) ⟨hx, hb, hml, hown, hts⟩ (cnX8_cellIn l D Y N _ x1 x2 (7 : Int32) _ hF) (va_cwS 3 hts gX8_turns_X8_cellIn rfl rfl rfl (by decide +kernel) ⟨Nat.le_of_ble_eq_true rfl, Nat.le_of_ble_eq_true rfl⟩) (mb_preS (A := A) hG mb_P0 mb_D0) rfl rfl hl.1 rfl (lv_room (Nat.le_of_ble_eq_true rfl)) dX8_turns_21 ⟨Nat.le_of_ble_eq_true rfl, Nat.le_of_ble_eq_true rfl⟩) (fun r21 H locs hF hP hS => ?_)
  obtain ⟨hi24, hF⟩ := hF
  refine va_iald hx hb hK hP 2 0 rfl rfl hi24 dX8_turns_24 ?_
  refine lv_topi (fun v25 ev25 => ?_)
  have hF := hF v25 ev25
  refine lv_istore (lv' := [(4, .int v25), (3, .int v12), (0, .ref o), (1, .int x1), (2, .int x2)]) hx hb dX8_turns_25 hl (by decide) rfl (fun ls hl => ?_)
  refine lv_bipush (v := 7) hx hb dX8_turns_27 (by decide) ?_
  refine lv_istore (lv' := [(5, .int (7 : Int32)), (4, .int v25), (3, .int v12), (0, .ref o), (1, .int x1), (2, .int x2)]) hx hb dX8_turns_29 hl (by decide) rfl (fun ls hl => ?_)
  exact wX8_turns_31 C N M x1 x2 v12 v25 (7 : Int32) _ _ _ hF hP hD hS (lv_sub hl [3, 4, 5, 2, 1, 0] rfl)
end
section
noncomputable def PX8_comb_84 (N : Nat) (K : Int32 → mb_m → Prop) (b55 : mb_m → Int32 → Int32 → Int32 → Int32 → Prop) (M : mb_m) (x1 x2 x5 y0 y1 : Int32) : Prop := ∀ v85 : Int32, v85 = (y1 + y0) → (∀ v87 : Int32, v87 = x5 + (1 : Int32) → (b55 M x1 x2 v85 v87))
set_option maxHeartbeats 4000000 in
set_option maxRecDepth 100000 in
theorem wX8_comb_84 {p : Program} {l : Launch} {e : Env} {s : State} {m : MethodId} {below : List Frame} {meth : Method} {c : Code} {args : Array Value} {D : va_G} {Y : Nat → ClassId} {A : Nat → Prop} {o : Nat} {a : Nat → Nat} {N : Nat} {K : Int32 → mb_m → Prop} {b55 : mb_m → Int32 → Int32 → Int32 → Int32 → Prop} (C : mb_Cx p s m meth c args cX8_comb 6 (some .int) wsX8_comb RX8 D Y A) (hb55 : ∀ (M : mb_m) (x1 x2 x4 x5 : Int32) (H : Heap) (locs : List Loc) (ls : Array Slot), b55 M x1 x2 x4 x5 → va_P D vwCl (gw8 Y o a M) H → va_D A (gw8 Y o a M) → va_S A s.heap H locs → lv_has ls 6 [(0, .ref o), (1, .int x1), (2, .int x2), (4, .int x4), (5, .int x5)] → W p l e ({ frames := 2, cells := 0, slots := 0, locals := 47 } : Room) s m args below meth c H locs 0 0 (MQ below (va_Qi K (fun u t => mb_T D A (gw8 Y o a u) t) A) args s 0 0 A) (F0 m 55 ls [])) : ∀ (M : mb_m) (x1 x2 x5 y0 y1 : Int32) (H : Heap) (locs : List Loc) (ls : Array Slot), PX8_comb_84 N K b55 M x1 x2 x5 y0 y1 → va_P D vwCl (gw8 Y o a M) H → va_D A (gw8 Y o a M) → va_S A s.heap H locs → lv_has ls 6 [(0, .ref o), (1, .int x1), (2, .int x2), (5, .int x5)] → W p l e ({ frames := 2, cells := 0, slots := 0, locals := 47 } : Room) s m args below meth c H locs 0 0 (MQ below (va_Qi K (fun u t => mb_T D A (gw8 Y o a u) t) A) args s 0 0 A) (F0 m 84 ls [.int y0, .int y1]) := by
  obtain ⟨hx, hb, hr, hml, hts, hown, hlocks, hA, hG⟩ := id C
  have hK := hG.1
  intro M x1 x2 x5 y0 y1 H locs ls hF hP hD hS hl
  refine lv_iadd hx hb dX8_comb_84 ?_
  refine lv_topi (fun v85 ev85 => ?_)
  have hF := hF v85 ev85
  refine lv_istore (lv' := [(4, .int v85), (0, .ref o), (1, .int x1), (2, .int x2), (5, .int x5)]) hx hb dX8_comb_85 hl (by decide) rfl (fun ls hl => ?_)
  obtain ⟨v87, ev87⟩ : ∃ y : Int32, y = x5 + (1 : Int32) := ⟨_, rfl⟩
  have hF := hF v87 ev87
  refine lv_iinc (v := v87) (lv' := [(5, .int v87), (4, .int v85), (0, .ref o), (1, .int x1), (2, .int x2)]) hx hb dX8_comb_87 hl (k := 4) rfl (by rw [ev87]; rfl) (by decide) rfl (fun ls hl => ?_)
  refine lv_goto (tgt := 55) hx hb dX8_comb_90 (by decide) ?_
  exact hb55 M x1 x2 v85 v87 _ _ _ hF hP hD hS (lv_sub hl [2, 3, 4, 1, 0] rfl)
noncomputable def PX8_comb_55_b (N : Nat) (K : Int32 → mb_m → Prop) (b55 : mb_m → Int32 → Int32 → Int32 → Int32 → Prop) (M : mb_m) (x1 x2 x4 x5 : Int32) : Prop := ((8 : Int32) ≤ x5 → K x4 M) ∧ (¬ (8 : Int32) ≤ x5 → PX8_cellIn N x1 x2 x5 (fun r72 _ => vp_in r72 64 ∧ (((M 0 r72.toNatClampNeg) ≤ 0 → PX8_comb_84 N K b55 M x1 x2 x5 (0 : Int32) x4) ∧ (¬ (M 0 r72.toNatClampNeg) ≤ 0 → PX8_comb_84 N K b55 M x1 x2 x5 (1 : Int32) x4))))
noncomputable def PX8_comb_55 (N : Nat) (K : Int32 → mb_m → Prop) (n : Nat) : mb_m → Int32 → Int32 → Int32 → Int32 → Prop := Nat.rec (motive := fun _ => mb_m → Int32 → Int32 → Int32 → Int32 → Prop) (fun _ _ _ _ _ => False) (fun _ b55 => PX8_comb_55_b N K  b55) n
set_option maxHeartbeats 4000000 in
set_option maxRecDepth 100000 in
theorem wX8_comb_55 {p : Program} {l : Launch} {e : Env} {s : State} {m : MethodId} {below : List Frame} {meth : Method} {c : Code} {args : Array Value} {D : va_G} {Y : Nat → ClassId} {A : Nat → Prop} {o : Nat} {a : Nat → Nat} {N : Nat} {K : Int32 → mb_m → Prop} (C : mb_Cx p s m meth c args cX8_comb 6 (some .int) wsX8_comb RX8 D Y A) : ∀ (n : Nat), (∀ (M : mb_m) (x1 x2 x4 x5 : Int32) (H : Heap) (locs : List Loc) (ls : Array Slot), PX8_comb_55 N K  n M x1 x2 x4 x5 → va_P D vwCl (gw8 Y o a M) H → va_D A (gw8 Y o a M) → va_S A s.heap H locs → lv_has ls 6 [(0, .ref o), (1, .int x1), (2, .int x2), (4, .int x4), (5, .int x5)] → W p l e ({ frames := 2, cells := 0, slots := 0, locals := 47 } : Room) s m args below meth c H locs 0 0 (MQ below (va_Qi K (fun u t => mb_T D A (gw8 Y o a u) t) A) args s 0 0 A) (F0 m 55 ls [])) := by
  obtain ⟨hx, hb, hr, hml, hts, hown, hlocks, hA, hG⟩ := id C
  have hK := hG.1
  intro n
  induction n with
  | zero => intro M x1 x2 x4 x5 H locs ls hF; exact (show False from hF).elim
  | succ n ih =>
    intro M x1 x2 x4 x5 H locs ls hF hP hD hS hl
    have hF : PX8_comb_55_b N K  (PX8_comb_55 N K  n) M x1 x2 x4 x5 := hF
    refine lv_iload hx hb dX8_comb_55 (lv_at hl 4 rfl) ?_
    refine lv_bipush (v := 8) hx hb dX8_comb_57 (by decide) ?_
    refine lv_icmp_ge (tgt := 93) hx hb dX8_comb_59 (by decide) (fun c_59 => ?_) (fun c_59 => ?_)
    · have hF := hF.1 c_59
      refine lv_iload hx hb dX8_comb_93 (lv_at hl 3 rfl) ?_
      exact mb_ri (S := mb_m) (mc := 0) (ms := 0) (wf := fun u => gw8 Y o a u) C rfl (u := M) hF hP hD hS dX8_comb_95 (Nat.le_of_ble_eq_true rfl) (Nat.le_of_ble_eq_true rfl)
    · have hF := hF.2 c_59
      refine lv_iload hx hb dX8_comb_62 (lv_at hl 3 rfl) ?_
      refine lv_aload_n hx hb dX8_comb_64 rfl (lv_at hl 0 rfl) ?_
      refine va_get (D := D) (ci := 8) (v := .ref (a 0)) (C := RX8) (T := TX8) (N := 28) hx hb hts (fun _ h9 => List.mem_cons_of_mem _ (List.mem_append_right _ (h9))) hown hK hP 0 rfl rfl 0 (by decide) (hts (.fieldLink RX8 7 "MarbleBenchModel" "bath" "[I") (List.mem_of_getElem? (i := 1) rfl)) (fun _ h9 => h9) rfl dX8_comb_65 ?_
      refine lv_iload_n hx hb dX8_comb_68 rfl (lv_at hl 1 rfl) ?_
      refine lv_iload_n hx hb dX8_comb_69 rfl (lv_at hl 2 rfl) ?_
      refine lv_iload hx hb dX8_comb_70 (lv_at hl 4 rfl) ?_
      refine mb_cE hP hS hA (va_runS (As := [.int x1, .int x2, .int x5]) (rest := [.ref (a 0), .int x4]) ⟨hx, hb, hml, hown, hts⟩ (cnX8_cellIn l D Y N _ x1 x2 x5 _ hF) (va_cwS 3 hts gX8_comb_X8_cellIn rfl rfl rfl (by decide +kernel) ⟨Nat.le_of_ble_eq_true rfl, Nat.le_of_ble_eq_true rfl⟩) (mb_preS (A := A) hG mb_P0 mb_D0) rfl rfl hl.1 rfl (lv_room (Nat.le_of_ble_eq_true rfl)) dX8_comb_72 ⟨Nat.le_of_ble_eq_true rfl, Nat.le_of_ble_eq_true rfl⟩) (fun r72 H locs hF hP hS => ?_)
      obtain ⟨hi75, hF⟩ := hF
      refine va_iald hx hb hK hP 1 0 rfl rfl hi75 dX8_comb_75 ?_
      refine lv_if_le (tgt := 83) hx hb dX8_comb_76 (by decide) (fun c_76 => ?_) (fun c_76 => ?_)
      · have hF := hF.1 c_76
        refine lv_iconst (v := 0) hx hb dX8_comb_83 (by decide) ?_
        exact wX8_comb_84 C ih M x1 x2 x5 (0 : Int32) x4 _ _ _ hF hP hD hS (lv_sub hl [0, 1, 2, 4] rfl)
      · have hF := hF.2 c_76
        refine lv_iconst (v := 1) hx hb dX8_comb_79 (by decide) ?_
        refine lv_goto (tgt := 84) hx hb dX8_comb_80 (by decide) ?_
        exact wX8_comb_84 C ih M x1 x2 x5 (1 : Int32) x4 _ _ _ hF hP hD hS (lv_sub hl [0, 1, 2, 4] rfl)
noncomputable def PX8_comb_25_b (N : Nat) (K : Int32 → mb_m → Prop) (b25 : mb_m → Int32 → Int32 → Int32 → Int32 → Prop) (M : mb_m) (x1 x2 x3 x4 : Int32) : Prop := (((x3 + (8 : Int32)) - (x3 + (8 : Int32)) / (8 : Int32) * (8 : Int32)) ≤ x4 → PX8_comb_55 N K N M x1 x2 (0 : Int32) (0 : Int32)) ∧ (¬ ((x3 + (8 : Int32)) - (x3 + (8 : Int32)) / (8 : Int32) * (8 : Int32)) ≤ x4 → PX8_turns N M x1 x2 (fun M40 => ∀ v43 : Int32, v43 = x4 + (1 : Int32) → (b25 M40 x1 x2 x3 v43)))
noncomputable def PX8_comb_25 (N : Nat) (K : Int32 → mb_m → Prop) (n : Nat) : mb_m → Int32 → Int32 → Int32 → Int32 → Prop := Nat.rec (motive := fun _ => mb_m → Int32 → Int32 → Int32 → Int32 → Prop) (fun _ _ _ _ _ => False) (fun _ b25 => PX8_comb_25_b N K  b25) n
set_option maxHeartbeats 4000000 in
set_option maxRecDepth 100000 in
theorem wX8_comb_25 {p : Program} {l : Launch} {e : Env} {s : State} {m : MethodId} {below : List Frame} {meth : Method} {c : Code} {args : Array Value} {D : va_G} {Y : Nat → ClassId} {A : Nat → Prop} {o : Nat} {a : Nat → Nat} {N : Nat} {K : Int32 → mb_m → Prop} (C : mb_Cx p s m meth c args cX8_comb 6 (some .int) wsX8_comb RX8 D Y A) : ∀ (n : Nat), (∀ (M : mb_m) (x1 x2 x3 x4 : Int32) (H : Heap) (locs : List Loc) (ls : Array Slot), PX8_comb_25 N K  n M x1 x2 x3 x4 → va_P D vwCl (gw8 Y o a M) H → va_D A (gw8 Y o a M) → va_S A s.heap H locs → lv_has ls 6 [(0, .ref o), (1, .int x1), (2, .int x2), (3, .int x3), (4, .int x4)] → W p l e ({ frames := 2, cells := 0, slots := 0, locals := 47 } : Room) s m args below meth c H locs 0 0 (MQ below (va_Qi K (fun u t => mb_T D A (gw8 Y o a u) t) A) args s 0 0 A) (F0 m 25 ls [])) := by
  obtain ⟨hx, hb, hr, hml, hts, hown, hlocks, hA, hG⟩ := id C
  have hK := hG.1
  intro n
  induction n with
  | zero => intro M x1 x2 x3 x4 H locs ls hF; exact (show False from hF).elim
  | succ n ih =>
    intro M x1 x2 x3 x4 H locs ls hF hP hD hS hl
    have hF : PX8_comb_25_b N K  (PX8_comb_25 N K  n) M x1 x2 x3 x4 := hF
    refine lv_iload hx hb dX8_comb_25 (lv_at hl 4 rfl) ?_
    refine lv_iload_n hx hb dX8_comb_27 rfl (lv_at hl 3 rfl) ?_
    refine lv_bipush (v := 8) hx hb dX8_comb_28 (by decide) ?_
    refine lv_iadd hx hb dX8_comb_30 ?_
    refine lv_bipush (v := 8) hx hb dX8_comb_31 (by decide) ?_
    refine lv_irem hx hb dX8_comb_33 (by decide) ?_
    refine lv_icmp_ge (tgt := 49) hx hb dX8_comb_34 (by decide) (fun c_34 => ?_) (fun c_34 => ?_)
    · have hF := hF.1 c_34
      refine lv_iconst (v := 0) hx hb dX8_comb_49 (by decide) ?_
      refine lv_istore (lv' := [(4, .int (0 : Int32)), (0, .ref o), (1, .int x1), (2, .int x2), (3, .int x3)]) hx hb dX8_comb_50 hl (by decide) rfl (fun ls hl => ?_)
      refine lv_iconst (v := 0) hx hb dX8_comb_52 (by decide) ?_
      refine lv_istore (lv' := [(5, .int (0 : Int32)), (4, .int (0 : Int32)), (0, .ref o), (1, .int x1), (2, .int x2), (3, .int x3)]) hx hb dX8_comb_53 hl (by decide) rfl (fun ls hl => ?_)
      exact wX8_comb_55 C N M x1 x2 (0 : Int32) (0 : Int32) _ _ _ hF hP hD hS (lv_sub hl [2, 3, 4, 1, 0] rfl)
    · have hF := hF.2 c_34
      refine lv_aload_n hx hb dX8_comb_37 rfl (lv_at hl 0 rfl) ?_
      refine lv_iload_n hx hb dX8_comb_38 rfl (lv_at hl 1 rfl) ?_
      refine lv_iload_n hx hb dX8_comb_39 rfl (lv_at hl 2 rfl) ?_
      refine mb_cWv hD hS hA (va_runV (As := [.int x1, .int x2]) (rest := []) ⟨hx, hb, hml, hown, hts⟩ (cnX8_turns l D Y N o a M _ x1 x2 _ hF) (cwV 2 hts gX8_comb_X8_turns rfl rfl rfl (by decide +kernel) ⟨Nat.le_of_ble_eq_true rfl, Nat.le_of_ble_eq_true rfl⟩) (mb_preV hG hP hD 0 rfl rfl) rfl rfl hl.1 rfl (lv_room (Nat.le_of_ble_eq_true rfl)) dX8_comb_40 ⟨Nat.le_of_ble_eq_true rfl, Nat.le_of_ble_eq_true rfl⟩) (fun M40 H locs hF hP hD hS => ?_)
      obtain ⟨v43, ev43⟩ : ∃ y : Int32, y = x4 + (1 : Int32) := ⟨_, rfl⟩
      have hF := hF v43 ev43
      refine lv_iinc (v := v43) (lv' := [(4, .int v43), (0, .ref o), (1, .int x1), (2, .int x2), (3, .int x3)]) hx hb dX8_comb_43 hl (k := 4) rfl (by rw [ev43]; rfl) (by decide) rfl (fun ls hl => ?_)
      refine lv_goto (tgt := 25) hx hb dX8_comb_46 (by decide) ?_
      exact ih M40 x1 x2 x3 v43 _ _ _ hF hP hD hS (lv_sub hl [1, 2, 3, 4, 0] rfl)
noncomputable def PX8_comb (N : Nat) (M : mb_m) (x1 x2 x3 : Int32) (K : Int32 → mb_m → Prop) : Prop := PX8_isEdge N x2 (fun r2 _ => PX8_in N x3 (-7 : Int32) (7 : Int32) (fun r10 _ => PX8_goes N M r2 r10 (1 : Int32) (fun r14 M14 => (¬ r14 = 0 → PX8_comb_25 N K N M14 x1 x2 x3 (0 : Int32)) ∧ (r14 = 0 → K (0 : Int32) M14))))
set_option maxHeartbeats 4000000 in
set_option maxRecDepth 100000 in
theorem cnX8_comb (l : Launch) (D : va_G) (Y : Nat → ClassId) (N : Nat) (o : Nat) (a : Nat → Nat) (M : mb_m) (sz : Nat) (x1 x2 x3 : Int32) (K : Int32 → mb_m → Prop) (hF : PX8_comb N M x1 x2 x3 K) : Met l yX8_comb wsX8_comb ({ frames := 2, cells := 0, slots := 0, locals := 47 } : Room) (va_Pc [.ref o, .int x1, .int x2, .int x3] (mb_B D Y (gw8 Y o a M) sz)) (va_Qi K (fun u t => mb_T D (va_A (gw8 Y o a M) sz) (gw8 Y o a u) t) (va_A (gw8 Y o a M) sz)) 0 0 (va_A (gw8 Y o a M) sz) := by
  refine mb_begin (cc := cX8_comb) (maxL := 6) (ret := (some .int)) (by decide +kernel) rfl (Nat.le_of_ble_eq_true rfl) ?_
  intro p e s m below meth c ls C hsz hnm hP hD hl
  generalize hAe : va_A (gw8 Y o a M) sz = A at C hD ⊢
  have C : mb_Cx p s m meth c ([.ref o, .int x1, .int x2, .int x3] : List Value).toArray cX8_comb 6 (some .int) wsX8_comb RX8 D Y A := C
  obtain ⟨hx, hb, hr, hml, hts, hown, hlocks, hA, hG⟩ := id C
  have hK := hG.1
  have hS : va_S A s.heap s.heap [] := va_S.rf
  have hl : lv_has ls 6 [(0, .ref o), (1, .int x1), (2, .int x2), (3, .int x3)] := hl
  refine lv_aload_n hx hb dX8_comb_0 rfl (lv_at hl 0 rfl) ?_
  refine lv_iload_n hx hb dX8_comb_1 rfl (lv_at hl 2 rfl) ?_
  refine mb_cE hP hS hA (va_runS (As := [.int x2]) (rest := [.ref o]) ⟨hx, hb, hml, hown, hts⟩ (cnX8_isEdge l D Y N _ x2 _ hF) (va_cwS 1 hts gX8_comb_X8_isEdge rfl rfl rfl (by decide +kernel) ⟨Nat.le_of_ble_eq_true rfl, Nat.le_of_ble_eq_true rfl⟩) (mb_preS (A := A) hG mb_P0 mb_D0) rfl rfl hl.1 rfl (lv_room (Nat.le_of_ble_eq_true rfl)) dX8_comb_2 ⟨Nat.le_of_ble_eq_true rfl, Nat.le_of_ble_eq_true rfl⟩) (fun r2 H locs hF hP hS => ?_)
  refine lv_iload_n hx hb dX8_comb_5 rfl (lv_at hl 3 rfl) ?_
  refine lv_bipush (v := -7) hx hb dX8_comb_6 (by decide) ?_
  refine lv_bipush (v := 7) hx hb dX8_comb_8 (by decide) ?_
  refine mb_cE hP hS hA (va_runS (As := [.int x3, .int (-7 : Int32), .int (7 : Int32)]) (rest := [.int r2, .ref o]) ⟨hx, hb, hml, hown, hts⟩ (cnX8_in l D Y N _ x3 (-7 : Int32) (7 : Int32) _ hF) (va_cwS 3 hts gX8_comb_X8_in rfl rfl rfl (by decide +kernel) ⟨Nat.le_of_ble_eq_true rfl, Nat.le_of_ble_eq_true rfl⟩) (mb_preS (A := A) hG mb_P0 mb_D0) rfl rfl hl.1 rfl (lv_room (Nat.le_of_ble_eq_true rfl)) dX8_comb_10 ⟨Nat.le_of_ble_eq_true rfl, Nat.le_of_ble_eq_true rfl⟩) (fun r10 H locs hF hP hS => ?_)
  refine lv_iconst (v := 1) hx hb dX8_comb_13 (by decide) ?_
  refine mb_cW hD hS hA (va_runV (As := [.int r2, .int r10, .int (1 : Int32)]) (rest := []) ⟨hx, hb, hml, hown, hts⟩ (cnX8_goes l D Y N o a M _ r2 r10 (1 : Int32) _ hF) (cwV 3 hts gX8_comb_X8_goes rfl rfl rfl (by decide +kernel) ⟨Nat.le_of_ble_eq_true rfl, Nat.le_of_ble_eq_true rfl⟩) (mb_preV hG hP hD 0 rfl rfl) rfl rfl hl.1 rfl (lv_room (Nat.le_of_ble_eq_true rfl)) dX8_comb_14 ⟨Nat.le_of_ble_eq_true rfl, Nat.le_of_ble_eq_true rfl⟩) (fun r14 M14 H locs hF hP hD hS => ?_)
  refine lv_if_ne (tgt := 22) hx hb dX8_comb_17 (by decide) (fun c_17 => ?_) (fun c_17 => ?_)
  · have hF := hF.1 c_17
    refine lv_iconst (v := 0) hx hb dX8_comb_22 (by decide) ?_
    refine lv_istore (lv' := [(4, .int (0 : Int32)), (0, .ref o), (1, .int x1), (2, .int x2), (3, .int x3)]) hx hb dX8_comb_23 hl (by decide) rfl (fun ls hl => ?_)
    exact wX8_comb_25 C N M14 x1 x2 x3 (0 : Int32) _ _ _ hF hP hD hS (lv_sub hl [1, 2, 3, 4, 0] rfl)
  · have hF := hF.2 c_17
    refine lv_iconst (v := 0) hx hb dX8_comb_20 (by decide) ?_
    exact mb_ri (S := mb_m) (mc := 0) (ms := 0) (wf := fun u => gw8 Y o a u) C rfl (u := M14) hF hP hD hS dX8_comb_21 (Nat.le_of_ble_eq_true rfl) (Nat.le_of_ble_eq_true rfl)
end
section
noncomputable def PX8_lift_100 (N : Nat) (K : Int32 → mb_m → Prop) (b27 : mb_m → Int32 → Prop) (M : mb_m) (x1 y0 y1 : Int32) : Prop := vp_in y1 64 ∧ (∀ M100 : mb_m, M100 = mb_u M 0 (upd (M 0) y1.toNatClampNeg y0) → (∀ v101 : Int32, v101 = x1 + (1 : Int32) → (b27 M100 v101)))
set_option maxHeartbeats 4000000 in
set_option maxRecDepth 100000 in
theorem wX8_lift_100 {p : Program} {l : Launch} {e : Env} {s : State} {m : MethodId} {below : List Frame} {meth : Method} {c : Code} {args : Array Value} {D : va_G} {Y : Nat → ClassId} {A : Nat → Prop} {o : Nat} {a : Nat → Nat} {N : Nat} {K : Int32 → mb_m → Prop} {b27 : mb_m → Int32 → Prop} (C : mb_Cx p s m meth c args cX8_lift 2 (some .int) wsX8_lift RX8 D Y A) (hb27 : ∀ (M : mb_m) (x1 : Int32) (H : Heap) (locs : List Loc) (ls : Array Slot), b27 M x1 → va_P D vwCl (gw8 Y o a M) H → va_D A (gw8 Y o a M) → va_S A s.heap H locs → lv_has ls 2 [(0, .ref o), (1, .int x1)] → W p l e ({ frames := 1, cells := 0, slots := 0, locals := 23 } : Room) s m args below meth c H locs 0 0 (MQ below (va_Qi K (fun u t => mb_T D A (gw8 Y o a u) t) A) args s 0 0 A) (F0 m 27 ls [])) : ∀ (M : mb_m) (x1 y0 y1 : Int32) (H : Heap) (locs : List Loc) (ls : Array Slot), PX8_lift_100 N K b27 M x1 y0 y1 → va_P D vwCl (gw8 Y o a M) H → va_D A (gw8 Y o a M) → va_S A s.heap H locs → lv_has ls 2 [(0, .ref o), (1, .int x1)] → W p l e ({ frames := 1, cells := 0, slots := 0, locals := 23 } : Room) s m args below meth c H locs 0 0 (MQ below (va_Qi K (fun u t => mb_T D A (gw8 Y o a u) t) A) args s 0 0 A) (F0 m 100 ls [.int y0, .int y1, .ref (a 0)]) := by
  obtain ⟨hx, hb, hr, hml, hts, hown, hlocks, hA, hG⟩ := id C
  have hK := hG.1
  intro M x1 y0 y1 H locs ls hF hP hD hS hl
  obtain ⟨hi100, hF⟩ := hF
  refine va_iast hx hb hK hP hD hS 1 0 rfl rfl hi100 dX8_lift_100 (fun H locs hP hD hS => ?_)
  obtain ⟨M100, eM100⟩ : ∃ y : mb_m, y = mb_u M 0 (upd (M 0) y1.toNatClampNeg y0) := ⟨_, rfl⟩
  have hF := hF M100 eM100
  have hP : va_P D vwCl (gw8 Y o a (mb_u M 0 (upd (M 0) y1.toNatClampNeg y0))) H := hP
  have hD : va_D A (gw8 Y o a (mb_u M 0 (upd (M 0) y1.toNatClampNeg y0))) := hD
  rw [← eM100] at hP hD
  obtain ⟨v101, ev101⟩ : ∃ y : Int32, y = x1 + (1 : Int32) := ⟨_, rfl⟩
  have hF := hF v101 ev101
  refine lv_iinc (v := v101) (lv' := [(1, .int v101), (0, .ref o)]) hx hb dX8_lift_101 hl (k := 1) rfl (by rw [ev101]; rfl) (by decide) rfl (fun ls hl => ?_)
  refine lv_goto (tgt := 27) hx hb dX8_lift_104 (by decide) ?_
  exact hb27 M100 v101 _ _ _ hF hP hD hS (lv_sub hl [1, 0] rfl)
noncomputable def PX8_lift_74 (N : Nat) (K : Int32 → mb_m → Prop) (b27 : mb_m → Int32 → Prop) (M : mb_m) (x1 y0 y1 y2 : Int32) : Prop := ∀ v75 : Int32, v75 = (y1 - y0) → (vp_in y2 64 ∧ (∀ M75 : mb_m, M75 = mb_u M 1 (upd (M 1) y2.toNatClampNeg v75) → (vp_in x1 64 ∧ (((M75 1 x1.toNatClampNeg) ≤ 0 → PX8_lift_100 N K b27 M75 x1 (0 : Int32) x1) ∧ (¬ (M75 1 x1.toNatClampNeg) ≤ 0 → vp_in x1 64 ∧ (PX8_lift_100 N K b27 M75 x1 (M75 0 x1.toNatClampNeg) x1))))))
set_option maxHeartbeats 4000000 in
set_option maxRecDepth 100000 in
theorem wX8_lift_74 {p : Program} {l : Launch} {e : Env} {s : State} {m : MethodId} {below : List Frame} {meth : Method} {c : Code} {args : Array Value} {D : va_G} {Y : Nat → ClassId} {A : Nat → Prop} {o : Nat} {a : Nat → Nat} {N : Nat} {K : Int32 → mb_m → Prop} {b27 : mb_m → Int32 → Prop} (C : mb_Cx p s m meth c args cX8_lift 2 (some .int) wsX8_lift RX8 D Y A) (hb27 : ∀ (M : mb_m) (x1 : Int32) (H : Heap) (locs : List Loc) (ls : Array Slot), b27 M x1 → va_P D vwCl (gw8 Y o a M) H → va_D A (gw8 Y o a M) → va_S A s.heap H locs → lv_has ls 2 [(0, .ref o), (1, .int x1)] → W p l e ({ frames := 1, cells := 0, slots := 0, locals := 23 } : Room) s m args below meth c H locs 0 0 (MQ below (va_Qi K (fun u t => mb_T D A (gw8 Y o a u) t) A) args s 0 0 A) (F0 m 27 ls [])) : ∀ (M : mb_m) (x1 y0 y1 y2 : Int32) (H : Heap) (locs : List Loc) (ls : Array Slot), PX8_lift_74 N K b27 M x1 y0 y1 y2 → va_P D vwCl (gw8 Y o a M) H → va_D A (gw8 Y o a M) → va_S A s.heap H locs → lv_has ls 2 [(0, .ref o), (1, .int x1)] → W p l e ({ frames := 1, cells := 0, slots := 0, locals := 23 } : Room) s m args below meth c H locs 0 0 (MQ below (va_Qi K (fun u t => mb_T D A (gw8 Y o a u) t) A) args s 0 0 A) (F0 m 74 ls [.int y0, .int y1, .int y2, .ref (a 1)]) := by
  obtain ⟨hx, hb, hr, hml, hts, hown, hlocks, hA, hG⟩ := id C
  have hK := hG.1
  intro M x1 y0 y1 y2 H locs ls hF hP hD hS hl
  refine lv_isub hx hb dX8_lift_74 ?_
  refine lv_topi (fun v75 ev75 => ?_)
  have hF := hF v75 ev75
  obtain ⟨hi75, hF⟩ := hF
  refine va_iast hx hb hK hP hD hS 2 0 rfl rfl hi75 dX8_lift_75 (fun H locs hP hD hS => ?_)
  obtain ⟨M75, eM75⟩ : ∃ y : mb_m, y = mb_u M 1 (upd (M 1) y2.toNatClampNeg v75) := ⟨_, rfl⟩
  have hF := hF M75 eM75
  have hP : va_P D vwCl (gw8 Y o a (mb_u M 1 (upd (M 1) y2.toNatClampNeg v75))) H := hP
  have hD : va_D A (gw8 Y o a (mb_u M 1 (upd (M 1) y2.toNatClampNeg v75))) := hD
  rw [← eM75] at hP hD
  refine lv_aload_n hx hb dX8_lift_76 rfl (lv_at hl 0 rfl) ?_
  refine va_get (D := D) (ci := 8) (v := .ref (a 0)) (C := RX8) (T := TX8) (N := 28) hx hb hts (fun _ h9 => List.mem_cons_of_mem _ (List.mem_append_right _ (h9))) hown hK hP 0 rfl rfl 0 (by decide) (hts (.fieldLink RX8 7 "MarbleBenchModel" "bath" "[I") (List.mem_of_getElem? (i := 3) rfl)) (fun _ h9 => h9) rfl dX8_lift_77 ?_
  refine lv_iload_n hx hb dX8_lift_80 rfl (lv_at hl 1 rfl) ?_
  refine lv_aload_n hx hb dX8_lift_81 rfl (lv_at hl 0 rfl) ?_
  refine va_get (D := D) (ci := 8) (v := .ref (a 1)) (C := RX8) (T := TX8) (N := 28) hx hb hts (fun _ h9 => List.mem_cons_of_mem _ (List.mem_append_right _ (h9))) hown hK hP 0 rfl rfl 1 (by decide) (hts (.fieldLink RX8 13 "MarbleBenchModel" "strength" "[I") (List.mem_of_getElem? (i := 4) rfl)) (fun _ h9 => h9) rfl dX8_lift_82 ?_
  refine lv_iload_n hx hb dX8_lift_85 rfl (lv_at hl 1 rfl) ?_
  obtain ⟨hi86, hF⟩ := hF
  refine va_iald hx hb hK hP 2 0 rfl rfl hi86 dX8_lift_86 ?_
  refine lv_if_le (tgt := 99) hx hb dX8_lift_87 (by decide) (fun c_87 => ?_) (fun c_87 => ?_)
  · have hF := hF.1 c_87
    refine lv_iconst (v := 0) hx hb dX8_lift_99 (by decide) ?_
    exact wX8_lift_100 C hb27 M75 x1 (0 : Int32) x1 _ _ _ hF hP hD hS (lv_sub hl [0, 1] rfl)
  · have hF := hF.2 c_87
    refine lv_aload_n hx hb dX8_lift_90 rfl (lv_at hl 0 rfl) ?_
    refine va_get (D := D) (ci := 8) (v := .ref (a 0)) (C := RX8) (T := TX8) (N := 28) hx hb hts (fun _ h9 => List.mem_cons_of_mem _ (List.mem_append_right _ (h9))) hown hK hP 0 rfl rfl 0 (by decide) (hts (.fieldLink RX8 7 "MarbleBenchModel" "bath" "[I") (List.mem_of_getElem? (i := 3) rfl)) (fun _ h9 => h9) rfl dX8_lift_91 ?_
    refine lv_iload_n hx hb dX8_lift_94 rfl (lv_at hl 1 rfl) ?_
    obtain ⟨hi95, hF⟩ := hF
    refine va_iald hx hb hK hP 1 0 rfl rfl hi95 dX8_lift_95 ?_
    refine lv_goto (tgt := 100) hx hb dX8_lift_96 (by decide) ?_
    exact wX8_lift_100 C hb27 M75 x1 (M75 0 x1.toNatClampNeg) x1 _ _ _ hF hP hD hS (lv_sub hl [0, 1] rfl)
noncomputable def PX8_lift_27_b (N : Nat) (K : Int32 → mb_m → Prop) (b27 : mb_m → Int32 → Prop) (M : mb_m) (x1 : Int32) : Prop := ((64 : Int32) ≤ x1 → ∀ v114 : Int32, v114 = ((M 2 0) + (1 : Int32)) → (∀ M114 : mb_m, M114 = mb_u M 2 (mb_c v114) → (K ((M114 2 0) - (1 : Int32)) M114))) ∧ (¬ (64 : Int32) ≤ x1 → vp_in x1 64 ∧ (∀ v52 : Int32, v52 = (M 0 x1.toNatClampNeg) → (vp_in (((64 : Int32) * (M 2 0)) + x1) 640 ∧ (∀ M52 : mb_m, M52 = mb_u M 3 (upd (M 3) (((64 : Int32) * (M 2 0)) + x1).toNatClampNeg v52) → (vp_in x1 64 ∧ (vp_in x1 64 ∧ (((M52 0 x1.toNatClampNeg) ≤ 0 → PX8_lift_74 N K b27 M52 x1 (0 : Int32) (M52 1 x1.toNatClampNeg) x1) ∧ (¬ (M52 0 x1.toNatClampNeg) ≤ 0 → PX8_lift_74 N K b27 M52 x1 (1 : Int32) (M52 1 x1.toNatClampNeg) x1))))))))
noncomputable def PX8_lift_27 (N : Nat) (K : Int32 → mb_m → Prop) (n : Nat) : mb_m → Int32 → Prop := Nat.rec (motive := fun _ => mb_m → Int32 → Prop) (fun _ _ => False) (fun _ b27 => PX8_lift_27_b N K  b27) n
set_option maxHeartbeats 4000000 in
set_option maxRecDepth 100000 in
theorem wX8_lift_27 {p : Program} {l : Launch} {e : Env} {s : State} {m : MethodId} {below : List Frame} {meth : Method} {c : Code} {args : Array Value} {D : va_G} {Y : Nat → ClassId} {A : Nat → Prop} {o : Nat} {a : Nat → Nat} {N : Nat} {K : Int32 → mb_m → Prop} (C : mb_Cx p s m meth c args cX8_lift 2 (some .int) wsX8_lift RX8 D Y A) : ∀ (n : Nat), (∀ (M : mb_m) (x1 : Int32) (H : Heap) (locs : List Loc) (ls : Array Slot), PX8_lift_27 N K  n M x1 → va_P D vwCl (gw8 Y o a M) H → va_D A (gw8 Y o a M) → va_S A s.heap H locs → lv_has ls 2 [(0, .ref o), (1, .int x1)] → W p l e ({ frames := 1, cells := 0, slots := 0, locals := 23 } : Room) s m args below meth c H locs 0 0 (MQ below (va_Qi K (fun u t => mb_T D A (gw8 Y o a u) t) A) args s 0 0 A) (F0 m 27 ls [])) := by
  obtain ⟨hx, hb, hr, hml, hts, hown, hlocks, hA, hG⟩ := id C
  have hK := hG.1
  intro n
  induction n with
  | zero => intro M x1 H locs ls hF; exact (show False from hF).elim
  | succ n ih =>
    intro M x1 H locs ls hF hP hD hS hl
    have hF : PX8_lift_27_b N K  (PX8_lift_27 N K  n) M x1 := hF
    refine lv_iload_n hx hb dX8_lift_27 rfl (lv_at hl 1 rfl) ?_
    refine lv_bipush (v := 64) hx hb dX8_lift_28 (by decide) ?_
    refine lv_icmp_ge (tgt := 107) hx hb dX8_lift_30 (by decide) (fun c_30 => ?_) (fun c_30 => ?_)
    · have hF := hF.1 c_30
      refine lv_aload_n hx hb dX8_lift_107 rfl (lv_at hl 0 rfl) ?_
      refine lv_dup hx hb dX8_lift_108 rfl ?_
      refine va_get (D := D) (ci := 8) (v := .int (M 2 0)) (C := RX8) (T := TX8) (N := 28) hx hb hts (fun _ h9 => List.mem_cons_of_mem _ (List.mem_append_right _ (h9))) hown hK hP 0 rfl rfl 2 (by decide) (hts (.fieldLink RX8 99 "MarbleBenchModel" "prints" "I") (List.mem_of_getElem? (i := 1) rfl)) (fun _ h9 => h9) rfl dX8_lift_109 ?_
      refine lv_iconst (v := 1) hx hb dX8_lift_112 (by decide) ?_
      refine lv_iadd hx hb dX8_lift_113 ?_
      refine lv_topi (fun v114 ev114 => ?_)
      have hF := hF v114 ev114
      refine va_put (D := D) (ci := 8) (v := .int v114) (ty := .int) (C := RX8) (T := TX8) (N := 28) hx hb hts (fun _ h9 => List.mem_cons_of_mem _ (List.mem_append_right _ (h9))) tyX8 tyX8_ok nmX8 hown hK hP hD hS 0 rfl rfl 2 (by decide) (hts (.fieldLink RX8 99 "MarbleBenchModel" "prints" "I") (List.mem_of_getElem? (i := 1) rfl)) (fun _ h9 => h9) rfl (by decide +kernel) rfl rfl (Nat.le_of_ble_eq_true rfl) dX8_lift_114 (fun H locs hP hD hS => ?_)
      obtain ⟨M114, eM114⟩ : ∃ y : mb_m, y = mb_u M 2 (mb_c v114) := ⟨_, rfl⟩
      have hF := hF M114 eM114
      have hP : va_P D vwCl (gw8 Y o a (mb_u M 2 (mb_c v114))) H := hP
      have hD : va_D A (gw8 Y o a (mb_u M 2 (mb_c v114))) := hD
      rw [← eM114] at hP hD
      refine lv_aload_n hx hb dX8_lift_117 rfl (lv_at hl 0 rfl) ?_
      refine va_get (D := D) (ci := 8) (v := .int (M114 2 0)) (C := RX8) (T := TX8) (N := 28) hx hb hts (fun _ h9 => List.mem_cons_of_mem _ (List.mem_append_right _ (h9))) hown hK hP 0 rfl rfl 2 (by decide) (hts (.fieldLink RX8 99 "MarbleBenchModel" "prints" "I") (List.mem_of_getElem? (i := 1) rfl)) (fun _ h9 => h9) rfl dX8_lift_118 ?_
      refine lv_iconst (v := 1) hx hb dX8_lift_121 (by decide) ?_
      refine lv_isub hx hb dX8_lift_122 ?_
      exact mb_ri (S := mb_m) (mc := 0) (ms := 0) (wf := fun u => gw8 Y o a u) C rfl (u := M114) hF hP hD hS dX8_lift_123 (Nat.le_of_ble_eq_true rfl) (Nat.le_of_ble_eq_true rfl)
    · have hF := hF.2 c_30
      refine lv_aload_n hx hb dX8_lift_33 rfl (lv_at hl 0 rfl) ?_
      refine va_get (D := D) (ci := 8) (v := .ref (a 3)) (C := RX8) (T := TX8) (N := 28) hx hb hts (fun _ h9 => List.mem_cons_of_mem _ (List.mem_append_right _ (h9))) hown hK hP 0 rfl rfl 3 (by decide) (hts (.fieldLink RX8 16 "MarbleBenchModel" "printed" "[I") (List.mem_of_getElem? (i := 2) rfl)) (fun _ h9 => h9) rfl dX8_lift_34 ?_
      refine lv_bipush (v := 64) hx hb dX8_lift_37 (by decide) ?_
      refine lv_aload_n hx hb dX8_lift_39 rfl (lv_at hl 0 rfl) ?_
      refine va_get (D := D) (ci := 8) (v := .int (M 2 0)) (C := RX8) (T := TX8) (N := 28) hx hb hts (fun _ h9 => List.mem_cons_of_mem _ (List.mem_append_right _ (h9))) hown hK hP 0 rfl rfl 2 (by decide) (hts (.fieldLink RX8 99 "MarbleBenchModel" "prints" "I") (List.mem_of_getElem? (i := 1) rfl)) (fun _ h9 => h9) rfl dX8_lift_40 ?_
      refine lv_imul hx hb dX8_lift_43 ?_
      refine lv_iload_n hx hb dX8_lift_44 rfl (lv_at hl 1 rfl) ?_
      refine lv_iadd hx hb dX8_lift_45 ?_
      refine lv_aload_n hx hb dX8_lift_46 rfl (lv_at hl 0 rfl) ?_
      refine va_get (D := D) (ci := 8) (v := .ref (a 0)) (C := RX8) (T := TX8) (N := 28) hx hb hts (fun _ h9 => List.mem_cons_of_mem _ (List.mem_append_right _ (h9))) hown hK hP 0 rfl rfl 0 (by decide) (hts (.fieldLink RX8 7 "MarbleBenchModel" "bath" "[I") (List.mem_of_getElem? (i := 3) rfl)) (fun _ h9 => h9) rfl dX8_lift_47 ?_
      refine lv_iload_n hx hb dX8_lift_50 rfl (lv_at hl 1 rfl) ?_
      obtain ⟨hi51, hF⟩ := hF
      refine va_iald hx hb hK hP 1 0 rfl rfl hi51 dX8_lift_51 ?_
      refine lv_topi (fun v52 ev52 => ?_)
      have hF := hF v52 ev52
      obtain ⟨hi52, hF⟩ := hF
      refine va_iast hx hb hK hP hD hS 3 0 rfl rfl hi52 dX8_lift_52 (fun H locs hP hD hS => ?_)
      obtain ⟨M52, eM52⟩ : ∃ y : mb_m, y = mb_u M 3 (upd (M 3) (((64 : Int32) * (M 2 0)) + x1).toNatClampNeg v52) := ⟨_, rfl⟩
      have hF := hF M52 eM52
      have hP : va_P D vwCl (gw8 Y o a (mb_u M 3 (upd (M 3) (((64 : Int32) * (M 2 0)) + x1).toNatClampNeg v52))) H := hP
      have hD : va_D A (gw8 Y o a (mb_u M 3 (upd (M 3) (((64 : Int32) * (M 2 0)) + x1).toNatClampNeg v52))) := hD
      rw [← eM52] at hP hD
      refine lv_aload_n hx hb dX8_lift_53 rfl (lv_at hl 0 rfl) ?_
      refine va_get (D := D) (ci := 8) (v := .ref (a 1)) (C := RX8) (T := TX8) (N := 28) hx hb hts (fun _ h9 => List.mem_cons_of_mem _ (List.mem_append_right _ (h9))) hown hK hP 0 rfl rfl 1 (by decide) (hts (.fieldLink RX8 13 "MarbleBenchModel" "strength" "[I") (List.mem_of_getElem? (i := 4) rfl)) (fun _ h9 => h9) rfl dX8_lift_54 ?_
      refine lv_iload_n hx hb dX8_lift_57 rfl (lv_at hl 1 rfl) ?_
      refine lv_dup2_11 hx hb dX8_lift_58 rfl rfl ?_
      obtain ⟨hi59, hF⟩ := hF
      refine va_iald hx hb hK hP 2 0 rfl rfl hi59 dX8_lift_59 ?_
      refine lv_aload_n hx hb dX8_lift_60 rfl (lv_at hl 0 rfl) ?_
      refine va_get (D := D) (ci := 8) (v := .ref (a 0)) (C := RX8) (T := TX8) (N := 28) hx hb hts (fun _ h9 => List.mem_cons_of_mem _ (List.mem_append_right _ (h9))) hown hK hP 0 rfl rfl 0 (by decide) (hts (.fieldLink RX8 7 "MarbleBenchModel" "bath" "[I") (List.mem_of_getElem? (i := 3) rfl)) (fun _ h9 => h9) rfl dX8_lift_61 ?_
      refine lv_iload_n hx hb dX8_lift_64 rfl (lv_at hl 1 rfl) ?_
      obtain ⟨hi65, hF⟩ := hF
      refine va_iald hx hb hK hP 1 0 rfl rfl hi65 dX8_lift_65 ?_
      refine lv_if_le (tgt := 73) hx hb dX8_lift_66 (by decide) (fun c_66 => ?_) (fun c_66 => ?_)
      · have hF := hF.1 c_66
        refine lv_iconst (v := 0) hx hb dX8_lift_73 (by decide) ?_
        exact wX8_lift_74 C ih M52 x1 (0 : Int32) (M52 1 x1.toNatClampNeg) x1 _ _ _ hF hP hD hS (lv_sub hl [0, 1] rfl)
      · have hF := hF.2 c_66
        refine lv_iconst (v := 1) hx hb dX8_lift_69 (by decide) ?_
        refine lv_goto (tgt := 74) hx hb dX8_lift_70 (by decide) ?_
        exact wX8_lift_74 C ih M52 x1 (1 : Int32) (M52 1 x1.toNatClampNeg) x1 _ _ _ hF hP hD hS (lv_sub hl [0, 1] rfl)
noncomputable def PX8_lift_15 (N : Nat) (K : Int32 → mb_m → Prop) (M : mb_m) (y0 : Int32) : Prop := PX8_goes N M y0 (1 : Int32) (1 : Int32) (fun r17 M17 => (¬ r17 = 0 → PX8_lift_27 N K N M17 (0 : Int32)) ∧ (r17 = 0 → K (0 : Int32) M17))
set_option maxHeartbeats 4000000 in
set_option maxRecDepth 100000 in
theorem wX8_lift_15 {p : Program} {l : Launch} {e : Env} {s : State} {m : MethodId} {below : List Frame} {meth : Method} {c : Code} {args : Array Value} {D : va_G} {Y : Nat → ClassId} {A : Nat → Prop} {o : Nat} {a : Nat → Nat} {N : Nat} {K : Int32 → mb_m → Prop} (C : mb_Cx p s m meth c args cX8_lift 2 (some .int) wsX8_lift RX8 D Y A) : ∀ (M : mb_m) (y0 : Int32) (H : Heap) (locs : List Loc) (ls : Array Slot), PX8_lift_15 N K  M y0 → va_P D vwCl (gw8 Y o a M) H → va_D A (gw8 Y o a M) → va_S A s.heap H locs → lv_has ls 2 [(0, .ref o)] → W p l e ({ frames := 1, cells := 0, slots := 0, locals := 23 } : Room) s m args below meth c H locs 0 0 (MQ below (va_Qi K (fun u t => mb_T D A (gw8 Y o a u) t) A) args s 0 0 A) (F0 m 15 ls [.int y0, .ref o]) := by
  obtain ⟨hx, hb, hr, hml, hts, hown, hlocks, hA, hG⟩ := id C
  have hK := hG.1
  intro M y0 H locs ls hF hP hD hS hl
  refine lv_iconst (v := 1) hx hb dX8_lift_15 (by decide) ?_
  refine lv_iconst (v := 1) hx hb dX8_lift_16 (by decide) ?_
  refine mb_cW hD hS hA (va_runV (As := [.int y0, .int (1 : Int32), .int (1 : Int32)]) (rest := []) ⟨hx, hb, hml, hown, hts⟩ (cnX8_goes l D Y N o a M _ y0 (1 : Int32) (1 : Int32) _ hF) (cwV 3 hts gX8_lift_X8_goes rfl rfl rfl (by decide +kernel) ⟨Nat.le_of_ble_eq_true rfl, Nat.le_of_ble_eq_true rfl⟩) (mb_preV hG hP hD 0 rfl rfl) rfl rfl hl.1 rfl (lv_room (Nat.le_of_ble_eq_true rfl)) dX8_lift_17 ⟨Nat.le_of_ble_eq_true rfl, Nat.le_of_ble_eq_true rfl⟩) (fun r17 M17 H locs hF hP hD hS => ?_)
  refine lv_if_ne (tgt := 25) hx hb dX8_lift_20 (by decide) (fun c_20 => ?_) (fun c_20 => ?_)
  · have hF := hF.1 c_20
    refine lv_iconst (v := 0) hx hb dX8_lift_25 (by decide) ?_
    refine lv_istore_n (lv' := [(1, .int (0 : Int32)), (0, .ref o)]) hx hb dX8_lift_26 rfl hl (by decide) rfl (fun ls hl => ?_)
    exact wX8_lift_27 C N M17 (0 : Int32) _ _ _ hF hP hD hS (lv_sub hl [1, 0] rfl)
  · have hF := hF.2 c_20
    refine lv_iconst (v := 0) hx hb dX8_lift_23 (by decide) ?_
    exact mb_ri (S := mb_m) (mc := 0) (ms := 0) (wf := fun u => gw8 Y o a u) C rfl (u := M17) hF hP hD hS dX8_lift_24 (Nat.le_of_ble_eq_true rfl) (Nat.le_of_ble_eq_true rfl)
noncomputable def PX8_lift (N : Nat) (M : mb_m) (K : Int32 → mb_m → Prop) : Prop := ((10 : Int32) ≤ (M 2 0) → PX8_lift_15 N K M (0 : Int32)) ∧ (¬ (10 : Int32) ≤ (M 2 0) → PX8_lift_15 N K M (1 : Int32))
set_option maxHeartbeats 4000000 in
set_option maxRecDepth 100000 in
theorem cnX8_lift (l : Launch) (D : va_G) (Y : Nat → ClassId) (N : Nat) (o : Nat) (a : Nat → Nat) (M : mb_m) (sz : Nat) (K : Int32 → mb_m → Prop) (hF : PX8_lift N M K) : Met l yX8_lift wsX8_lift ({ frames := 1, cells := 0, slots := 0, locals := 23 } : Room) (va_Pc [.ref o] (mb_B D Y (gw8 Y o a M) sz)) (va_Qi K (fun u t => mb_T D (va_A (gw8 Y o a M) sz) (gw8 Y o a u) t) (va_A (gw8 Y o a M) sz)) 0 0 (va_A (gw8 Y o a M) sz) := by
  refine mb_begin (cc := cX8_lift) (maxL := 2) (ret := (some .int)) (by decide +kernel) rfl (Nat.le_of_ble_eq_true rfl) ?_
  intro p e s m below meth c ls C hsz hnm hP hD hl
  generalize hAe : va_A (gw8 Y o a M) sz = A at C hD ⊢
  have C : mb_Cx p s m meth c ([.ref o] : List Value).toArray cX8_lift 2 (some .int) wsX8_lift RX8 D Y A := C
  obtain ⟨hx, hb, hr, hml, hts, hown, hlocks, hA, hG⟩ := id C
  have hK := hG.1
  have hS : va_S A s.heap s.heap [] := va_S.rf
  have hl : lv_has ls 2 [(0, .ref o)] := hl
  refine lv_aload_n hx hb dX8_lift_0 rfl (lv_at hl 0 rfl) ?_
  refine lv_aload_n hx hb dX8_lift_1 rfl (lv_at hl 0 rfl) ?_
  refine va_get (D := D) (ci := 8) (v := .int (M 2 0)) (C := RX8) (T := TX8) (N := 28) hx hb hts (fun _ h9 => List.mem_cons_of_mem _ (List.mem_append_right _ (h9))) hown hK hP 0 rfl rfl 2 (by decide) (hts (.fieldLink RX8 99 "MarbleBenchModel" "prints" "I") (List.mem_of_getElem? (i := 1) rfl)) (fun _ h9 => h9) rfl dX8_lift_2 ?_
  refine lv_bipush (v := 10) hx hb dX8_lift_5 (by decide) ?_
  refine lv_icmp_ge (tgt := 14) hx hb dX8_lift_7 (by decide) (fun c_7 => ?_) (fun c_7 => ?_)
  · have hF := hF.1 c_7
    refine lv_iconst (v := 0) hx hb dX8_lift_14 (by decide) ?_
    exact wX8_lift_15 C M (0 : Int32) _ _ _ hF hP hD hS (lv_sub hl [0] rfl)
  · have hF := hF.2 c_7
    refine lv_iconst (v := 1) hx hb dX8_lift_10 (by decide) ?_
    refine lv_goto (tgt := 15) hx hb dX8_lift_11 (by decide) ?_
    exact wX8_lift_15 C M (1 : Int32) _ _ _ hF hP hD hS (lv_sub hl [0] rfl)
end
section
noncomputable def PX8_clean_30 (N : Nat) (K : Int32 → mb_m → Prop) (b9 : mb_m → Int32 → Int32 → Prop) (M : mb_m) (x2 y0 y1 : Int32) : Prop := ∀ v31 : Int32, v31 = (y1 + y0) → (vp_in x2 64 ∧ (∀ M38 : mb_m, M38 = mb_u M 0 (upd (M 0) x2.toNatClampNeg (0 : Int32)) → (vp_in x2 64 ∧ (∀ M45 : mb_m, M45 = mb_u M38 1 (upd (M38 1) x2.toNatClampNeg (0 : Int32)) → (∀ v46 : Int32, v46 = x2 + (1 : Int32) → (b9 M45 v31 v46))))))
set_option maxHeartbeats 4000000 in
set_option maxRecDepth 100000 in
theorem wX8_clean_30 {p : Program} {l : Launch} {e : Env} {s : State} {m : MethodId} {below : List Frame} {meth : Method} {c : Code} {args : Array Value} {D : va_G} {Y : Nat → ClassId} {A : Nat → Prop} {o : Nat} {a : Nat → Nat} {N : Nat} {K : Int32 → mb_m → Prop} {b9 : mb_m → Int32 → Int32 → Prop} (C : mb_Cx p s m meth c args cX8_clean 3 (some .int) wsX8_clean RX8 D Y A) (hb9 : ∀ (M : mb_m) (x1 x2 : Int32) (H : Heap) (locs : List Loc) (ls : Array Slot), b9 M x1 x2 → va_P D vwCl (gw8 Y o a M) H → va_D A (gw8 Y o a M) → va_S A s.heap H locs → lv_has ls 3 [(0, .ref o), (1, .int x1), (2, .int x2)] → W p l e ({ frames := 0, cells := 0, slots := 0, locals := 0 } : Room) s m args below meth c H locs 0 0 (MQ below (va_Qi K (fun u t => mb_T D A (gw8 Y o a u) t) A) args s 0 0 A) (F0 m 9 ls [])) : ∀ (M : mb_m) (x2 y0 y1 : Int32) (H : Heap) (locs : List Loc) (ls : Array Slot), PX8_clean_30 N K b9 M x2 y0 y1 → va_P D vwCl (gw8 Y o a M) H → va_D A (gw8 Y o a M) → va_S A s.heap H locs → lv_has ls 3 [(0, .ref o), (2, .int x2)] → W p l e ({ frames := 0, cells := 0, slots := 0, locals := 0 } : Room) s m args below meth c H locs 0 0 (MQ below (va_Qi K (fun u t => mb_T D A (gw8 Y o a u) t) A) args s 0 0 A) (F0 m 30 ls [.int y0, .int y1]) := by
  obtain ⟨hx, hb, hr, hml, hts, hown, hlocks, hA, hG⟩ := id C
  have hK := hG.1
  intro M x2 y0 y1 H locs ls hF hP hD hS hl
  refine lv_iadd hx hb dX8_clean_30 ?_
  refine lv_topi (fun v31 ev31 => ?_)
  have hF := hF v31 ev31
  refine lv_istore_n (lv' := [(1, .int v31), (0, .ref o), (2, .int x2)]) hx hb dX8_clean_31 rfl hl (by decide) rfl (fun ls hl => ?_)
  refine lv_aload_n hx hb dX8_clean_32 rfl (lv_at hl 1 rfl) ?_
  refine va_get (D := D) (ci := 8) (v := .ref (a 0)) (C := RX8) (T := TX8) (N := 28) hx hb hts (fun _ h9 => List.mem_cons_of_mem _ (List.mem_append_right _ (h9))) hown hK hP 0 rfl rfl 0 (by decide) (hts (.fieldLink RX8 7 "MarbleBenchModel" "bath" "[I") (List.mem_of_getElem? (i := 2) rfl)) (fun _ h9 => h9) rfl dX8_clean_33 ?_
  refine lv_iload_n hx hb dX8_clean_36 rfl (lv_at hl 2 rfl) ?_
  refine lv_iconst (v := 0) hx hb dX8_clean_37 (by decide) ?_
  obtain ⟨hi38, hF⟩ := hF
  refine va_iast hx hb hK hP hD hS 1 0 rfl rfl hi38 dX8_clean_38 (fun H locs hP hD hS => ?_)
  obtain ⟨M38, eM38⟩ : ∃ y : mb_m, y = mb_u M 0 (upd (M 0) x2.toNatClampNeg (0 : Int32)) := ⟨_, rfl⟩
  have hF := hF M38 eM38
  have hP : va_P D vwCl (gw8 Y o a (mb_u M 0 (upd (M 0) x2.toNatClampNeg (0 : Int32)))) H := hP
  have hD : va_D A (gw8 Y o a (mb_u M 0 (upd (M 0) x2.toNatClampNeg (0 : Int32)))) := hD
  rw [← eM38] at hP hD
  refine lv_aload_n hx hb dX8_clean_39 rfl (lv_at hl 1 rfl) ?_
  refine va_get (D := D) (ci := 8) (v := .ref (a 1)) (C := RX8) (T := TX8) (N := 28) hx hb hts (fun _ h9 => List.mem_cons_of_mem _ (List.mem_append_right _ (h9))) hown hK hP 0 rfl rfl 1 (by decide) (hts (.fieldLink RX8 13 "MarbleBenchModel" "strength" "[I") (List.mem_of_getElem? (i := 3) rfl)) (fun _ h9 => h9) rfl dX8_clean_40 ?_
  refine lv_iload_n hx hb dX8_clean_43 rfl (lv_at hl 2 rfl) ?_
  refine lv_iconst (v := 0) hx hb dX8_clean_44 (by decide) ?_
  obtain ⟨hi45, hF⟩ := hF
  refine va_iast hx hb hK hP hD hS 2 0 rfl rfl hi45 dX8_clean_45 (fun H locs hP hD hS => ?_)
  obtain ⟨M45, eM45⟩ : ∃ y : mb_m, y = mb_u M38 1 (upd (M38 1) x2.toNatClampNeg (0 : Int32)) := ⟨_, rfl⟩
  have hF := hF M45 eM45
  have hP : va_P D vwCl (gw8 Y o a (mb_u M38 1 (upd (M38 1) x2.toNatClampNeg (0 : Int32)))) H := hP
  have hD : va_D A (gw8 Y o a (mb_u M38 1 (upd (M38 1) x2.toNatClampNeg (0 : Int32)))) := hD
  rw [← eM45] at hP hD
  obtain ⟨v46, ev46⟩ : ∃ y : Int32, y = x2 + (1 : Int32) := ⟨_, rfl⟩
  have hF := hF v46 ev46
  refine lv_iinc (v := v46) (lv' := [(2, .int v46), (1, .int v31), (0, .ref o)]) hx hb dX8_clean_46 hl (k := 2) rfl (by rw [ev46]; rfl) (by decide) rfl (fun ls hl => ?_)
  refine lv_goto (tgt := 9) hx hb dX8_clean_49 (by decide) ?_
  exact hb9 M45 v31 v46 _ _ _ hF hP hD hS (lv_sub hl [2, 1, 0] rfl)
noncomputable def PX8_clean_9_b (N : Nat) (K : Int32 → mb_m → Prop) (b9 : mb_m → Int32 → Int32 → Prop) (M : mb_m) (x1 x2 : Int32) : Prop := ((64 : Int32) ≤ x2 → K x1 M) ∧ (¬ (64 : Int32) ≤ x2 → vp_in x2 64 ∧ (((M 0 x2.toNatClampNeg) ≤ 0 → PX8_clean_30 N K b9 M x2 (0 : Int32) x1) ∧ (¬ (M 0 x2.toNatClampNeg) ≤ 0 → PX8_clean_30 N K b9 M x2 (1 : Int32) x1)))
noncomputable def PX8_clean_9 (N : Nat) (K : Int32 → mb_m → Prop) (n : Nat) : mb_m → Int32 → Int32 → Prop := Nat.rec (motive := fun _ => mb_m → Int32 → Int32 → Prop) (fun _ _ _ => False) (fun _ b9 => PX8_clean_9_b N K  b9) n
set_option maxHeartbeats 4000000 in
set_option maxRecDepth 100000 in
theorem wX8_clean_9 {p : Program} {l : Launch} {e : Env} {s : State} {m : MethodId} {below : List Frame} {meth : Method} {c : Code} {args : Array Value} {D : va_G} {Y : Nat → ClassId} {A : Nat → Prop} {o : Nat} {a : Nat → Nat} {N : Nat} {K : Int32 → mb_m → Prop} (C : mb_Cx p s m meth c args cX8_clean 3 (some .int) wsX8_clean RX8 D Y A) : ∀ (n : Nat), (∀ (M : mb_m) (x1 x2 : Int32) (H : Heap) (locs : List Loc) (ls : Array Slot), PX8_clean_9 N K  n M x1 x2 → va_P D vwCl (gw8 Y o a M) H → va_D A (gw8 Y o a M) → va_S A s.heap H locs → lv_has ls 3 [(0, .ref o), (1, .int x1), (2, .int x2)] → W p l e ({ frames := 0, cells := 0, slots := 0, locals := 0 } : Room) s m args below meth c H locs 0 0 (MQ below (va_Qi K (fun u t => mb_T D A (gw8 Y o a u) t) A) args s 0 0 A) (F0 m 9 ls [])) := by
  obtain ⟨hx, hb, hr, hml, hts, hown, hlocks, hA, hG⟩ := id C
  have hK := hG.1
  intro n
  induction n with
  | zero => intro M x1 x2 H locs ls hF; exact (show False from hF).elim
  | succ n ih =>
    intro M x1 x2 H locs ls hF hP hD hS hl
    have hF : PX8_clean_9_b N K  (PX8_clean_9 N K  n) M x1 x2 := hF
    refine lv_iload_n hx hb dX8_clean_9 rfl (lv_at hl 2 rfl) ?_
    refine lv_bipush (v := 64) hx hb dX8_clean_10 (by decide) ?_
    refine lv_icmp_ge (tgt := 52) hx hb dX8_clean_12 (by decide) (fun c_12 => ?_) (fun c_12 => ?_)
    · have hF := hF.1 c_12
      refine lv_iload_n hx hb dX8_clean_52 rfl (lv_at hl 1 rfl) ?_
      exact mb_ri (S := mb_m) (mc := 0) (ms := 0) (wf := fun u => gw8 Y o a u) C rfl (u := M) hF hP hD hS dX8_clean_53 (Nat.le_of_ble_eq_true rfl) (Nat.le_of_ble_eq_true rfl)
    · have hF := hF.2 c_12
      refine lv_iload_n hx hb dX8_clean_15 rfl (lv_at hl 1 rfl) ?_
      refine lv_aload_n hx hb dX8_clean_16 rfl (lv_at hl 0 rfl) ?_
      refine va_get (D := D) (ci := 8) (v := .ref (a 0)) (C := RX8) (T := TX8) (N := 28) hx hb hts (fun _ h9 => List.mem_cons_of_mem _ (List.mem_append_right _ (h9))) hown hK hP 0 rfl rfl 0 (by decide) (hts (.fieldLink RX8 7 "MarbleBenchModel" "bath" "[I") (List.mem_of_getElem? (i := 2) rfl)) (fun _ h9 => h9) rfl dX8_clean_17 ?_
      refine lv_iload_n hx hb dX8_clean_20 rfl (lv_at hl 2 rfl) ?_
      obtain ⟨hi21, hF⟩ := hF
      refine va_iald hx hb hK hP 1 0 rfl rfl hi21 dX8_clean_21 ?_
      refine lv_if_le (tgt := 29) hx hb dX8_clean_22 (by decide) (fun c_22 => ?_) (fun c_22 => ?_)
      · have hF := hF.1 c_22
        refine lv_iconst (v := 0) hx hb dX8_clean_29 (by decide) ?_
        exact wX8_clean_30 C ih M x2 (0 : Int32) x1 _ _ _ hF hP hD hS (lv_sub hl [0, 2] rfl)
      · have hF := hF.2 c_22
        refine lv_iconst (v := 1) hx hb dX8_clean_25 (by decide) ?_
        refine lv_goto (tgt := 30) hx hb dX8_clean_26 (by decide) ?_
        exact wX8_clean_30 C ih M x2 (1 : Int32) x1 _ _ _ hF hP hD hS (lv_sub hl [0, 2] rfl)
noncomputable def PX8_clean (N : Nat) (M : mb_m) (K : Int32 → mb_m → Prop) : Prop := ∀ M2 : mb_m, M2 = mb_u M 27 (mb_c (0 : Int32)) → (PX8_clean_9 N K N M2 (0 : Int32) (0 : Int32))
set_option maxHeartbeats 4000000 in
set_option maxRecDepth 100000 in
theorem cnX8_clean (l : Launch) (D : va_G) (Y : Nat → ClassId) (N : Nat) (o : Nat) (a : Nat → Nat) (M : mb_m) (sz : Nat) (K : Int32 → mb_m → Prop) (hF : PX8_clean N M K) : Met l yX8_clean wsX8_clean ({ frames := 0, cells := 0, slots := 0, locals := 0 } : Room) (va_Pc [.ref o] (mb_B D Y (gw8 Y o a M) sz)) (va_Qi K (fun u t => mb_T D (va_A (gw8 Y o a M) sz) (gw8 Y o a u) t) (va_A (gw8 Y o a M) sz)) 0 0 (va_A (gw8 Y o a M) sz) := by
  refine mb_begin (cc := cX8_clean) (maxL := 3) (ret := (some .int)) (by decide +kernel) rfl (Nat.le_of_ble_eq_true rfl) ?_
  intro p e s m below meth c ls C hsz hnm hP hD hl
  generalize hAe : va_A (gw8 Y o a M) sz = A at C hD ⊢
  have C : mb_Cx p s m meth c ([.ref o] : List Value).toArray cX8_clean 3 (some .int) wsX8_clean RX8 D Y A := C
  obtain ⟨hx, hb, hr, hml, hts, hown, hlocks, hA, hG⟩ := id C
  have hK := hG.1
  have hS : va_S A s.heap s.heap [] := va_S.rf
  have hl : lv_has ls 3 [(0, .ref o)] := hl
  refine lv_aload_n hx hb dX8_clean_0 rfl (lv_at hl 0 rfl) ?_
  refine lv_iconst (v := 0) hx hb dX8_clean_1 (by decide) ?_
  refine va_put (D := D) (ci := 8) (v := .int (0 : Int32)) (ty := .int) (C := RX8) (T := TX8) (N := 28) hx hb hts (fun _ h9 => List.mem_cons_of_mem _ (List.mem_append_right _ (h9))) tyX8 tyX8_ok nmX8 hown hK hP hD hS 0 rfl rfl 27 (by decide) (hts (.fieldLink RX8 71 "MarbleBenchModel" "thrown" "I") (List.mem_of_getElem? (i := 1) rfl)) (fun _ h9 => h9) rfl (by decide +kernel) rfl rfl (Nat.le_of_ble_eq_true rfl) dX8_clean_2 (fun H locs hP hD hS => ?_)
  obtain ⟨M2, eM2⟩ : ∃ y : mb_m, y = mb_u M 27 (mb_c (0 : Int32)) := ⟨_, rfl⟩
  have hF := hF M2 eM2
  have hP : va_P D vwCl (gw8 Y o a (mb_u M 27 (mb_c (0 : Int32)))) H := hP
  have hD : va_D A (gw8 Y o a (mb_u M 27 (mb_c (0 : Int32)))) := hD
  rw [← eM2] at hP hD
  refine lv_iconst (v := 0) hx hb dX8_clean_5 (by decide) ?_
  refine lv_istore_n (lv' := [(1, .int (0 : Int32)), (0, .ref o)]) hx hb dX8_clean_6 rfl hl (by decide) rfl (fun ls hl => ?_)
  refine lv_iconst (v := 0) hx hb dX8_clean_7 (by decide) ?_
  refine lv_istore_n (lv' := [(2, .int (0 : Int32)), (1, .int (0 : Int32)), (0, .ref o)]) hx hb dX8_clean_8 rfl hl (by decide) rfl (fun ls hl => ?_)
  exact wX8_clean_9 C N M2 (0 : Int32) (0 : Int32) _ _ _ hF hP hD hS (lv_sub hl [2, 1, 0] rfl)
end
section
noncomputable def PX8_cellAt_20 (N : Nat) (K : Int32 → mb_m → Prop) (M : mb_m) (x1 x2 x3 y0 : Int32) : Prop := PX8_in N x3 (0 : Int32) (1 : Int32) (fun r23 _ => PX8_goes N M y0 r23 (1 : Int32) (fun r27 M27 => (¬ r27 = 0 → (¬ x3 = 0 → vp_in (((8 : Int32) * x2) + x1) 64 ∧ (K (M27 1 (((8 : Int32) * x2) + x1).toNatClampNeg) M27)) ∧ (x3 = 0 → vp_in (((8 : Int32) * x2) + x1) 64 ∧ (K ((M27 0 (((8 : Int32) * x2) + x1).toNatClampNeg) - (1 : Int32)) M27))) ∧ (r27 = 0 → K (0 : Int32) M27)))
set_option maxHeartbeats 4000000 in
set_option maxRecDepth 100000 in
theorem wX8_cellAt_20 {p : Program} {l : Launch} {e : Env} {s : State} {m : MethodId} {below : List Frame} {meth : Method} {c : Code} {args : Array Value} {D : va_G} {Y : Nat → ClassId} {A : Nat → Prop} {o : Nat} {a : Nat → Nat} {N : Nat} {K : Int32 → mb_m → Prop} (C : mb_Cx p s m meth c args cX8_cellAt 4 (some .int) wsX8_cellAt RX8 D Y A) : ∀ (M : mb_m) (x1 x2 x3 y0 : Int32) (H : Heap) (locs : List Loc) (ls : Array Slot), PX8_cellAt_20 N K  M x1 x2 x3 y0 → va_P D vwCl (gw8 Y o a M) H → va_D A (gw8 Y o a M) → va_S A s.heap H locs → lv_has ls 4 [(0, .ref o), (1, .int x1), (2, .int x2), (3, .int x3)] → W p l e ({ frames := 2, cells := 0, slots := 0, locals := 42 } : Room) s m args below meth c H locs 0 0 (MQ below (va_Qi K (fun u t => mb_T D A (gw8 Y o a u) t) A) args s 0 0 A) (F0 m 20 ls [.int y0, .ref o]) := by
  obtain ⟨hx, hb, hr, hml, hts, hown, hlocks, hA, hG⟩ := id C
  have hK := hG.1
  intro M x1 x2 x3 y0 H locs ls hF hP hD hS hl
  refine lv_iload_n hx hb dX8_cellAt_20 rfl (lv_at hl 3 rfl) ?_
  refine lv_iconst (v := 0) hx hb dX8_cellAt_21 (by decide) ?_
  refine lv_iconst (v := 1) hx hb dX8_cellAt_22 (by decide) ?_
  refine mb_cE hP hS hA (va_runS (As := [.int x3, .int (0 : Int32), .int (1 : Int32)]) (rest := [.int y0, .ref o]) ⟨hx, hb, hml, hown, hts⟩ (cnX8_in l D Y N _ x3 (0 : Int32) (1 : Int32) _ hF) (va_cwS 3 hts gX8_cellAt_X8_in rfl rfl rfl (by decide +kernel) ⟨Nat.le_of_ble_eq_true rfl, Nat.le_of_ble_eq_true rfl⟩) (mb_preS (A := A) hG mb_P0 mb_D0) rfl rfl hl.1 rfl (lv_room (Nat.le_of_ble_eq_true rfl)) dX8_cellAt_23 ⟨Nat.le_of_ble_eq_true rfl, Nat.le_of_ble_eq_true rfl⟩) (fun r23 H locs hF hP hS => ?_)
  refine lv_iconst (v := 1) hx hb dX8_cellAt_26 (by decide) ?_
  refine mb_cW hD hS hA (va_runV (As := [.int y0, .int r23, .int (1 : Int32)]) (rest := []) ⟨hx, hb, hml, hown, hts⟩ (cnX8_goes l D Y N o a M _ y0 r23 (1 : Int32) _ hF) (cwV 3 hts gX8_cellAt_X8_goes rfl rfl rfl (by decide +kernel) ⟨Nat.le_of_ble_eq_true rfl, Nat.le_of_ble_eq_true rfl⟩) (mb_preV hG hP hD 0 rfl rfl) rfl rfl hl.1 rfl (lv_room (Nat.le_of_ble_eq_true rfl)) dX8_cellAt_27 ⟨Nat.le_of_ble_eq_true rfl, Nat.le_of_ble_eq_true rfl⟩) (fun r27 M27 H locs hF hP hD hS => ?_)
  refine lv_if_ne (tgt := 35) hx hb dX8_cellAt_30 (by decide) (fun c_30 => ?_) (fun c_30 => ?_)
  · have hF := hF.1 c_30
    refine lv_iload_n hx hb dX8_cellAt_35 rfl (lv_at hl 3 rfl) ?_
    refine lv_if_ne (tgt := 55) hx hb dX8_cellAt_36 (by decide) (fun c_36 => ?_) (fun c_36 => ?_)
    · have hF := hF.1 c_36
      refine lv_aload_n hx hb dX8_cellAt_55 rfl (lv_at hl 0 rfl) ?_
      refine va_get (D := D) (ci := 8) (v := .ref (a 1)) (C := RX8) (T := TX8) (N := 28) hx hb hts (fun _ h9 => List.mem_cons_of_mem _ (List.mem_append_right _ (h9))) hown hK hP 0 rfl rfl 1 (by decide) (hts (.fieldLink RX8 13 "MarbleBenchModel" "strength" "[I") (List.mem_of_getElem? (i := 2) rfl)) (fun _ h9 => h9) rfl dX8_cellAt_56 ?_
      refine lv_bipush (v := 8) hx hb dX8_cellAt_59 (by decide) ?_
      refine lv_iload_n hx hb dX8_cellAt_61 rfl (lv_at hl 2 rfl) ?_
      refine lv_imul hx hb dX8_cellAt_62 ?_
      refine lv_iload_n hx hb dX8_cellAt_63 rfl (lv_at hl 1 rfl) ?_
      refine lv_iadd hx hb dX8_cellAt_64 ?_
      obtain ⟨hi65, hF⟩ := hF
      refine va_iald hx hb hK hP 2 0 rfl rfl hi65 dX8_cellAt_65 ?_
      exact mb_ri (S := mb_m) (mc := 0) (ms := 0) (wf := fun u => gw8 Y o a u) C rfl (u := M27) hF hP hD hS dX8_cellAt_66 (Nat.le_of_ble_eq_true rfl) (Nat.le_of_ble_eq_true rfl)
    · have hF := hF.2 c_36
      refine lv_aload_n hx hb dX8_cellAt_39 rfl (lv_at hl 0 rfl) ?_
      refine va_get (D := D) (ci := 8) (v := .ref (a 0)) (C := RX8) (T := TX8) (N := 28) hx hb hts (fun _ h9 => List.mem_cons_of_mem _ (List.mem_append_right _ (h9))) hown hK hP 0 rfl rfl 0 (by decide) (hts (.fieldLink RX8 7 "MarbleBenchModel" "bath" "[I") (List.mem_of_getElem? (i := 1) rfl)) (fun _ h9 => h9) rfl dX8_cellAt_40 ?_
      refine lv_bipush (v := 8) hx hb dX8_cellAt_43 (by decide) ?_
      refine lv_iload_n hx hb dX8_cellAt_45 rfl (lv_at hl 2 rfl) ?_
      refine lv_imul hx hb dX8_cellAt_46 ?_
      refine lv_iload_n hx hb dX8_cellAt_47 rfl (lv_at hl 1 rfl) ?_
      refine lv_iadd hx hb dX8_cellAt_48 ?_
      obtain ⟨hi49, hF⟩ := hF
      refine va_iald hx hb hK hP 1 0 rfl rfl hi49 dX8_cellAt_49 ?_
      refine lv_iconst (v := 1) hx hb dX8_cellAt_50 (by decide) ?_
      refine lv_isub hx hb dX8_cellAt_51 ?_
      refine lv_goto (tgt := 66) hx hb dX8_cellAt_52 (by decide) ?_
      exact mb_ri (S := mb_m) (mc := 0) (ms := 0) (wf := fun u => gw8 Y o a u) C rfl (u := M27) hF hP hD hS dX8_cellAt_66 (Nat.le_of_ble_eq_true rfl) (Nat.le_of_ble_eq_true rfl)
  · have hF := hF.2 c_30
    refine lv_iconst (v := 0) hx hb dX8_cellAt_33 (by decide) ?_
    exact mb_ri (S := mb_m) (mc := 0) (ms := 0) (wf := fun u => gw8 Y o a u) C rfl (u := M27) hF hP hD hS dX8_cellAt_34 (Nat.le_of_ble_eq_true rfl) (Nat.le_of_ble_eq_true rfl)
noncomputable def PX8_cellAt_19 (N : Nat) (K : Int32 → mb_m → Prop) (M : mb_m) (x1 x2 x3 : Int32) : Prop := PX8_cellAt_20 N K M x1 x2 x3 (0 : Int32)
set_option maxHeartbeats 4000000 in
set_option maxRecDepth 100000 in
theorem wX8_cellAt_19 {p : Program} {l : Launch} {e : Env} {s : State} {m : MethodId} {below : List Frame} {meth : Method} {c : Code} {args : Array Value} {D : va_G} {Y : Nat → ClassId} {A : Nat → Prop} {o : Nat} {a : Nat → Nat} {N : Nat} {K : Int32 → mb_m → Prop} (C : mb_Cx p s m meth c args cX8_cellAt 4 (some .int) wsX8_cellAt RX8 D Y A) : ∀ (M : mb_m) (x1 x2 x3 : Int32) (H : Heap) (locs : List Loc) (ls : Array Slot), PX8_cellAt_19 N K  M x1 x2 x3 → va_P D vwCl (gw8 Y o a M) H → va_D A (gw8 Y o a M) → va_S A s.heap H locs → lv_has ls 4 [(0, .ref o), (1, .int x1), (2, .int x2), (3, .int x3)] → W p l e ({ frames := 2, cells := 0, slots := 0, locals := 42 } : Room) s m args below meth c H locs 0 0 (MQ below (va_Qi K (fun u t => mb_T D A (gw8 Y o a u) t) A) args s 0 0 A) (F0 m 19 ls [.ref o]) := by
  obtain ⟨hx, hb, hr, hml, hts, hown, hlocks, hA, hG⟩ := id C
  have hK := hG.1
  intro M x1 x2 x3 H locs ls hF hP hD hS hl
  refine lv_iconst (v := 0) hx hb dX8_cellAt_19 (by decide) ?_
  exact wX8_cellAt_20 C M x1 x2 x3 (0 : Int32) _ _ _ hF hP hD hS (lv_sub hl [0, 1, 2, 3] rfl)
noncomputable def PX8_cellAt (N : Nat) (M : mb_m) (x1 x2 x3 : Int32) (K : Int32 → mb_m → Prop) : Prop := PX8_isEdge N x1 (fun r2 _ => (r2 = 0 → PX8_cellAt_19 N K M x1 x2 x3) ∧ (¬ r2 = 0 → PX8_isEdge N x2 (fun r9 _ => (r9 = 0 → PX8_cellAt_19 N K M x1 x2 x3) ∧ (¬ r9 = 0 → PX8_cellAt_20 N K M x1 x2 x3 (1 : Int32)))))
set_option maxHeartbeats 4000000 in
set_option maxRecDepth 100000 in
theorem cnX8_cellAt (l : Launch) (D : va_G) (Y : Nat → ClassId) (N : Nat) (o : Nat) (a : Nat → Nat) (M : mb_m) (sz : Nat) (x1 x2 x3 : Int32) (K : Int32 → mb_m → Prop) (hF : PX8_cellAt N M x1 x2 x3 K) : Met l yX8_cellAt wsX8_cellAt ({ frames := 2, cells := 0, slots := 0, locals := 42 } : Room) (va_Pc [.ref o, .int x1, .int x2, .int x3] (mb_B D Y (gw8 Y o a M) sz)) (va_Qi K (fun u t => mb_T D (va_A (gw8 Y o a M) sz) (gw8 Y o a u) t) (va_A (gw8 Y o a M) sz)) 0 0 (va_A (gw8 Y o a M) sz) := by
  refine mb_begin (cc := cX8_cellAt) (maxL := 4) (ret := (some .int)) (by decide +kernel) rfl (Nat.le_of_ble_eq_true rfl) ?_
  intro p e s m below meth c ls C hsz hnm hP hD hl
  generalize hAe : va_A (gw8 Y o a M) sz = A at C hD ⊢
  have C : mb_Cx p s m meth c ([.ref o, .int x1, .int x2, .int x3] : List Value).toArray cX8_cellAt 4 (some .int) wsX8_cellAt RX8 D Y A := C
  obtain ⟨hx, hb, hr, hml, hts, hown, hlocks, hA, hG⟩ := id C
  have hK := hG.1
  have hS : va_S A s.heap s.heap [] := va_S.rf
  have hl : lv_has ls 4 [(0, .ref o), (1, .int x1), (2, .int x2), (3, .int x3)] := hl
  refine lv_aload_n hx hb dX8_cellAt_0 rfl (lv_at hl 0 rfl) ?_
  refine lv_iload_n hx hb dX8_cellAt_1 rfl (lv_at hl 1 rfl) ?_
  refine mb_cE hP hS hA (va_runS (As := [.int x1]) (rest := [.ref o]) ⟨hx, hb, hml, hown, hts⟩ (cnX8_isEdge l D Y N _ x1 _ hF) (va_cwS 1 hts gX8_cellAt_X8_isEdge rfl rfl rfl (by decide +kernel) ⟨Nat.le_of_ble_eq_true rfl, Nat.le_of_ble_eq_true rfl⟩) (mb_preS (A := A) hG mb_P0 mb_D0) rfl rfl hl.1 rfl (lv_room (Nat.le_of_ble_eq_true rfl)) dX8_cellAt_2 ⟨Nat.le_of_ble_eq_true rfl, Nat.le_of_ble_eq_true rfl⟩) (fun r2 H locs hF hP hS => ?_)
  refine lv_if_eq (tgt := 19) hx hb dX8_cellAt_5 (by decide) (fun c_5 => ?_) (fun c_5 => ?_)
  · have hF := hF.1 c_5
    exact wX8_cellAt_19 C M x1 x2 x3 _ _ _ hF hP hD hS (lv_sub hl [0, 1, 2, 3] rfl)
  · have hF := hF.2 c_5
    refine lv_iload_n hx hb dX8_cellAt_8 rfl (lv_at hl 2 rfl) ?_
    refine mb_cE hP hS hA (va_runS (As := [.int x2]) (rest := [.ref o]) ⟨hx, hb, hml, hown, hts⟩ (cnX8_isEdge l D Y N _ x2 _ hF) (va_cwS 1 hts gX8_cellAt_X8_isEdge rfl rfl rfl (by decide +kernel) ⟨Nat.le_of_ble_eq_true rfl, Nat.le_of_ble_eq_true rfl⟩) (mb_preS (A := A) hG mb_P0 mb_D0) rfl rfl hl.1 rfl (lv_room (Nat.le_of_ble_eq_true rfl)) dX8_cellAt_9 ⟨Nat.le_of_ble_eq_true rfl, Nat.le_of_ble_eq_true rfl⟩) (fun r9 H locs hF hP hS => ?_)
    refine lv_if_eq (tgt := 19) hx hb dX8_cellAt_12 (by decide) (fun c_12 => ?_) (fun c_12 => ?_)
    · have hF := hF.1 c_12
      exact wX8_cellAt_19 C M x1 x2 x3 _ _ _ hF hP hD hS (lv_sub hl [0, 1, 2, 3] rfl)
    · have hF := hF.2 c_12
      refine lv_iconst (v := 1) hx hb dX8_cellAt_15 (by decide) ?_
      refine lv_goto (tgt := 20) hx hb dX8_cellAt_16 (by decide) ?_
      exact wX8_cellAt_20 C M x1 x2 x3 (1 : Int32) _ _ _ hF hP hD hS (lv_sub hl [0, 1, 2, 3] rfl)
end
section
noncomputable def PX8_isPrint (N : Nat) (M : mb_m) (x1 : Int32) (K : Int32 → mb_m → Prop) : Prop := PX8_in N x1 (0 : Int32) ((M 2 0) - (1 : Int32)) (fun r8 _ => mb_isB r8 ∧ (K r8 M))
set_option maxHeartbeats 4000000 in
set_option maxRecDepth 100000 in
theorem cnX8_isPrint (l : Launch) (D : va_G) (Y : Nat → ClassId) (N : Nat) (o : Nat) (a : Nat → Nat) (M : mb_m) (sz : Nat) (x1 : Int32) (K : Int32 → mb_m → Prop) (hF : PX8_isPrint N M x1 K) : Met l yX8_isPrint wsX8_isPrint ({ frames := 1, cells := 0, slots := 0, locals := 22 } : Room) (va_Pc [.ref o, .int x1] (mb_B D Y (gw8 Y o a M) sz)) (va_Qi K (fun u t => mb_T D (va_A (gw8 Y o a M) sz) (gw8 Y o a u) t) (va_A (gw8 Y o a M) sz)) 0 0 (va_A (gw8 Y o a M) sz) := by
  refine mb_begin (cc := cX8_isPrint) (maxL := 2) (ret := (some .boolean)) (by decide +kernel) rfl (Nat.le_of_ble_eq_true rfl) ?_
  intro p e s m below meth c ls C hsz hnm hP hD hl
  generalize hAe : va_A (gw8 Y o a M) sz = A at C hD ⊢
  have C : mb_Cx p s m meth c ([.ref o, .int x1] : List Value).toArray cX8_isPrint 2 (some .boolean) wsX8_isPrint RX8 D Y A := C
  obtain ⟨hx, hb, hr, hml, hts, hown, hlocks, hA, hG⟩ := id C
  have hK := hG.1
  have hS : va_S A s.heap s.heap [] := va_S.rf
  have hl : lv_has ls 2 [(0, .ref o), (1, .int x1)] := hl
  refine lv_iload_n hx hb dX8_isPrint_0 rfl (lv_at hl 1 rfl) ?_
  refine lv_iconst (v := 0) hx hb dX8_isPrint_1 (by decide) ?_
  refine lv_aload_n hx hb dX8_isPrint_2 rfl (lv_at hl 0 rfl) ?_
  refine va_get (D := D) (ci := 8) (v := .int (M 2 0)) (C := RX8) (T := TX8) (N := 28) hx hb hts (fun _ h9 => List.mem_cons_of_mem _ (List.mem_append_right _ (h9))) hown hK hP 0 rfl rfl 2 (by decide) (hts (.fieldLink RX8 99 "MarbleBenchModel" "prints" "I") (List.mem_of_getElem? (i := 1) rfl)) (fun _ h9 => h9) rfl dX8_isPrint_3 ?_
  refine lv_iconst (v := 1) hx hb dX8_isPrint_6 (by decide) ?_
  refine lv_isub hx hb dX8_isPrint_7 ?_
  refine mb_cE hP hS hA (va_runS (As := [.int x1, .int (0 : Int32), .int ((M 2 0) - (1 : Int32))]) (rest := []) ⟨hx, hb, hml, hown, hts⟩ (cnX8_in l D Y N _ x1 (0 : Int32) ((M 2 0) - (1 : Int32)) _ hF) (va_cwS 3 hts gX8_isPrint_X8_in rfl rfl rfl (by decide +kernel) ⟨Nat.le_of_ble_eq_true rfl, Nat.le_of_ble_eq_true rfl⟩) (mb_preS (A := A) hG mb_P0 mb_D0) rfl rfl hl.1 rfl (lv_room (Nat.le_of_ble_eq_true rfl)) dX8_isPrint_8 ⟨Nat.le_of_ble_eq_true rfl, Nat.le_of_ble_eq_true rfl⟩) (fun r8 H locs hF hP hS => ?_)
  obtain ⟨hz11, hF⟩ := hF
  exact mb_ri (S := mb_m) (mc := 0) (ms := 0) (wf := fun u => gw8 Y o a u) C (mb_isB_n hz11) (u := M) hF hP hD hS dX8_isPrint_11 (Nat.le_of_ble_eq_true rfl) (Nat.le_of_ble_eq_true rfl)
end
section
noncomputable def PX8_printAt_28 (N : Nat) (K : Int32 → mb_m → Prop) (M : mb_m) (x1 x2 x3 y0 : Int32) : Prop := PX8_goes N M y0 (1 : Int32) (1 : Int32) (fun r30 M30 => (r30 = 0 → K (0 : Int32) M30) ∧ (¬ r30 = 0 → vp_in ((((64 : Int32) * x1) + ((8 : Int32) * x3)) + x2) 640 ∧ (K ((M30 3 ((((64 : Int32) * x1) + ((8 : Int32) * x3)) + x2).toNatClampNeg) - (1 : Int32)) M30)))
set_option maxHeartbeats 4000000 in
set_option maxRecDepth 100000 in
theorem wX8_printAt_28 {p : Program} {l : Launch} {e : Env} {s : State} {m : MethodId} {below : List Frame} {meth : Method} {c : Code} {args : Array Value} {D : va_G} {Y : Nat → ClassId} {A : Nat → Prop} {o : Nat} {a : Nat → Nat} {N : Nat} {K : Int32 → mb_m → Prop} (C : mb_Cx p s m meth c args cX8_printAt 4 (some .int) wsX8_printAt RX8 D Y A) : ∀ (M : mb_m) (x1 x2 x3 y0 : Int32) (H : Heap) (locs : List Loc) (ls : Array Slot), PX8_printAt_28 N K  M x1 x2 x3 y0 → va_P D vwCl (gw8 Y o a M) H → va_D A (gw8 Y o a M) → va_S A s.heap H locs → lv_has ls 4 [(0, .ref o), (1, .int x1), (2, .int x2), (3, .int x3)] → W p l e ({ frames := 2, cells := 0, slots := 0, locals := 43 } : Room) s m args below meth c H locs 0 0 (MQ below (va_Qi K (fun u t => mb_T D A (gw8 Y o a u) t) A) args s 0 0 A) (F0 m 28 ls [.int y0, .ref o]) := by
  obtain ⟨hx, hb, hr, hml, hts, hown, hlocks, hA, hG⟩ := id C
  have hK := hG.1
  intro M x1 x2 x3 y0 H locs ls hF hP hD hS hl
  refine lv_iconst (v := 1) hx hb dX8_printAt_28 (by decide) ?_
  refine lv_iconst (v := 1) hx hb dX8_printAt_29 (by decide) ?_
  refine mb_cW hD hS hA (va_runV (As := [.int y0, .int (1 : Int32), .int (1 : Int32)]) (rest := []) ⟨hx, hb, hml, hown, hts⟩ (cnX8_goes l D Y N o a M _ y0 (1 : Int32) (1 : Int32) _ hF) (cwV 3 hts gX8_printAt_X8_goes rfl rfl rfl (by decide +kernel) ⟨Nat.le_of_ble_eq_true rfl, Nat.le_of_ble_eq_true rfl⟩) (mb_preV hG hP hD 0 rfl rfl) rfl rfl hl.1 rfl (lv_room (Nat.le_of_ble_eq_true rfl)) dX8_printAt_30 ⟨Nat.le_of_ble_eq_true rfl, Nat.le_of_ble_eq_true rfl⟩) (fun r30 M30 H locs hF hP hD hS => ?_)
  refine lv_if_eq (tgt := 57) hx hb dX8_printAt_33 (by decide) (fun c_33 => ?_) (fun c_33 => ?_)
  · have hF := hF.1 c_33
    refine lv_iconst (v := 0) hx hb dX8_printAt_57 (by decide) ?_
    exact mb_ri (S := mb_m) (mc := 0) (ms := 0) (wf := fun u => gw8 Y o a u) C rfl (u := M30) hF hP hD hS dX8_printAt_58 (Nat.le_of_ble_eq_true rfl) (Nat.le_of_ble_eq_true rfl)
  · have hF := hF.2 c_33
    refine lv_aload_n hx hb dX8_printAt_36 rfl (lv_at hl 0 rfl) ?_
    refine va_get (D := D) (ci := 8) (v := .ref (a 3)) (C := RX8) (T := TX8) (N := 28) hx hb hts (fun _ h9 => List.mem_cons_of_mem _ (List.mem_append_right _ (h9))) hown hK hP 0 rfl rfl 3 (by decide) (hts (.fieldLink RX8 16 "MarbleBenchModel" "printed" "[I") (List.mem_of_getElem? (i := 1) rfl)) (fun _ h9 => h9) rfl dX8_printAt_37 ?_
    refine lv_bipush (v := 64) hx hb dX8_printAt_40 (by decide) ?_
    refine lv_iload_n hx hb dX8_printAt_42 rfl (lv_at hl 1 rfl) ?_
    refine lv_imul hx hb dX8_printAt_43 ?_
    refine lv_bipush (v := 8) hx hb dX8_printAt_44 (by decide) ?_
    refine lv_iload_n hx hb dX8_printAt_46 rfl (lv_at hl 3 rfl) ?_
    refine lv_imul hx hb dX8_printAt_47 ?_
    refine lv_iadd hx hb dX8_printAt_48 ?_
    refine lv_iload_n hx hb dX8_printAt_49 rfl (lv_at hl 2 rfl) ?_
    refine lv_iadd hx hb dX8_printAt_50 ?_
    obtain ⟨hi51, hF⟩ := hF
    refine va_iald hx hb hK hP 3 0 rfl rfl hi51 dX8_printAt_51 ?_
    refine lv_iconst (v := 1) hx hb dX8_printAt_52 (by decide) ?_
    refine lv_isub hx hb dX8_printAt_53 ?_
    refine lv_goto (tgt := 58) hx hb dX8_printAt_54 (by decide) ?_
    exact mb_ri (S := mb_m) (mc := 0) (ms := 0) (wf := fun u => gw8 Y o a u) C rfl (u := M30) hF hP hD hS dX8_printAt_58 (Nat.le_of_ble_eq_true rfl) (Nat.le_of_ble_eq_true rfl)
noncomputable def PX8_printAt_27 (N : Nat) (K : Int32 → mb_m → Prop) (M : mb_m) (x1 x2 x3 : Int32) : Prop := PX8_printAt_28 N K M x1 x2 x3 (0 : Int32)
set_option maxHeartbeats 4000000 in
set_option maxRecDepth 100000 in
theorem wX8_printAt_27 {p : Program} {l : Launch} {e : Env} {s : State} {m : MethodId} {below : List Frame} {meth : Method} {c : Code} {args : Array Value} {D : va_G} {Y : Nat → ClassId} {A : Nat → Prop} {o : Nat} {a : Nat → Nat} {N : Nat} {K : Int32 → mb_m → Prop} (C : mb_Cx p s m meth c args cX8_printAt 4 (some .int) wsX8_printAt RX8 D Y A) : ∀ (M : mb_m) (x1 x2 x3 : Int32) (H : Heap) (locs : List Loc) (ls : Array Slot), PX8_printAt_27 N K  M x1 x2 x3 → va_P D vwCl (gw8 Y o a M) H → va_D A (gw8 Y o a M) → va_S A s.heap H locs → lv_has ls 4 [(0, .ref o), (1, .int x1), (2, .int x2), (3, .int x3)] → W p l e ({ frames := 2, cells := 0, slots := 0, locals := 43 } : Room) s m args below meth c H locs 0 0 (MQ below (va_Qi K (fun u t => mb_T D A (gw8 Y o a u) t) A) args s 0 0 A) (F0 m 27 ls [.ref o]) := by
  obtain ⟨hx, hb, hr, hml, hts, hown, hlocks, hA, hG⟩ := id C
  have hK := hG.1
  intro M x1 x2 x3 H locs ls hF hP hD hS hl
  refine lv_iconst (v := 0) hx hb dX8_printAt_27 (by decide) ?_
  exact wX8_printAt_28 C M x1 x2 x3 (0 : Int32) _ _ _ hF hP hD hS (lv_sub hl [0, 1, 2, 3] rfl)
noncomputable def PX8_printAt (N : Nat) (M : mb_m) (x1 x2 x3 : Int32) (K : Int32 → mb_m → Prop) : Prop := PX8_isPrint N M x1 (fun r3 M3 => (r3 = 0 → PX8_printAt_27 N K M3 x1 x2 x3) ∧ (¬ r3 = 0 → PX8_isEdge N x2 (fun r10 _ => (r10 = 0 → PX8_printAt_27 N K M3 x1 x2 x3) ∧ (¬ r10 = 0 → PX8_isEdge N x3 (fun r17 _ => (r17 = 0 → PX8_printAt_27 N K M3 x1 x2 x3) ∧ (¬ r17 = 0 → PX8_printAt_28 N K M3 x1 x2 x3 (1 : Int32)))))))
set_option maxHeartbeats 4000000 in
set_option maxRecDepth 100000 in
theorem cnX8_printAt (l : Launch) (D : va_G) (Y : Nat → ClassId) (N : Nat) (o : Nat) (a : Nat → Nat) (M : mb_m) (sz : Nat) (x1 x2 x3 : Int32) (K : Int32 → mb_m → Prop) (hF : PX8_printAt N M x1 x2 x3 K) : Met l yX8_printAt wsX8_printAt ({ frames := 2, cells := 0, slots := 0, locals := 43 } : Room) (va_Pc [.ref o, .int x1, .int x2, .int x3] (mb_B D Y (gw8 Y o a M) sz)) (va_Qi K (fun u t => mb_T D (va_A (gw8 Y o a M) sz) (gw8 Y o a u) t) (va_A (gw8 Y o a M) sz)) 0 0 (va_A (gw8 Y o a M) sz) := by
  refine mb_begin (cc := cX8_printAt) (maxL := 4) (ret := (some .int)) (by decide +kernel) rfl (Nat.le_of_ble_eq_true rfl) ?_
  intro p e s m below meth c ls C hsz hnm hP hD hl
  generalize hAe : va_A (gw8 Y o a M) sz = A at C hD ⊢
  have C : mb_Cx p s m meth c ([.ref o, .int x1, .int x2, .int x3] : List Value).toArray cX8_printAt 4 (some .int) wsX8_printAt RX8 D Y A := C
  obtain ⟨hx, hb, hr, hml, hts, hown, hlocks, hA, hG⟩ := id C
  have hK := hG.1
  have hS : va_S A s.heap s.heap [] := va_S.rf
  have hl : lv_has ls 4 [(0, .ref o), (1, .int x1), (2, .int x2), (3, .int x3)] := hl
  refine lv_aload_n hx hb dX8_printAt_0 rfl (lv_at hl 0 rfl) ?_
  refine lv_aload_n hx hb dX8_printAt_1 rfl (lv_at hl 0 rfl) ?_
  refine lv_iload_n hx hb dX8_printAt_2 rfl (lv_at hl 1 rfl) ?_
  refine mb_cW hD hS hA (va_runV (As := [.int x1]) (rest := [.ref o]) ⟨hx, hb, hml, hown, hts⟩ (cnX8_isPrint l D Y N o a M _ x1 _ hF) (cwV 1 hts gX8_printAt_X8_isPrint rfl rfl rfl (by decide +kernel) ⟨Nat.le_of_ble_eq_true rfl, Nat.le_of_ble_eq_true rfl⟩) (mb_preV hG hP hD 0 rfl rfl) rfl rfl hl.1 rfl (lv_room (Nat.le_of_ble_eq_true rfl)) dX8_printAt_3 ⟨Nat.le_of_ble_eq_true rfl, Nat.le_of_ble_eq_true rfl⟩) (fun r3 M3 H locs hF hP hD hS => ?_)
  refine lv_if_eq (tgt := 27) hx hb dX8_printAt_6 (by decide) (fun c_6 => ?_) (fun c_6 => ?_)
  · have hF := hF.1 c_6
    exact wX8_printAt_27 C M3 x1 x2 x3 _ _ _ hF hP hD hS (lv_sub hl [0, 1, 2, 3] rfl)
  · have hF := hF.2 c_6
    refine lv_iload_n hx hb dX8_printAt_9 rfl (lv_at hl 2 rfl) ?_
    refine mb_cE hP hS hA (va_runS (As := [.int x2]) (rest := [.ref o]) ⟨hx, hb, hml, hown, hts⟩ (cnX8_isEdge l D Y N _ x2 _ hF) (va_cwS 1 hts gX8_printAt_X8_isEdge rfl rfl rfl (by decide +kernel) ⟨Nat.le_of_ble_eq_true rfl, Nat.le_of_ble_eq_true rfl⟩) (mb_preS (A := A) hG mb_P0 mb_D0) rfl rfl hl.1 rfl (lv_room (Nat.le_of_ble_eq_true rfl)) dX8_printAt_10 ⟨Nat.le_of_ble_eq_true rfl, Nat.le_of_ble_eq_true rfl⟩) (fun r10 H locs hF hP hS => ?_)
    refine lv_if_eq (tgt := 27) hx hb dX8_printAt_13 (by decide) (fun c_13 => ?_) (fun c_13 => ?_)
    · have hF := hF.1 c_13
      exact wX8_printAt_27 C M3 x1 x2 x3 _ _ _ hF hP hD hS (lv_sub hl [0, 1, 2, 3] rfl)
    · have hF := hF.2 c_13
      refine lv_iload_n hx hb dX8_printAt_16 rfl (lv_at hl 3 rfl) ?_
      refine mb_cE hP hS hA (va_runS (As := [.int x3]) (rest := [.ref o]) ⟨hx, hb, hml, hown, hts⟩ (cnX8_isEdge l D Y N _ x3 _ hF) (va_cwS 1 hts gX8_printAt_X8_isEdge rfl rfl rfl (by decide +kernel) ⟨Nat.le_of_ble_eq_true rfl, Nat.le_of_ble_eq_true rfl⟩) (mb_preS (A := A) hG mb_P0 mb_D0) rfl rfl hl.1 rfl (lv_room (Nat.le_of_ble_eq_true rfl)) dX8_printAt_17 ⟨Nat.le_of_ble_eq_true rfl, Nat.le_of_ble_eq_true rfl⟩) (fun r17 H locs hF hP hS => ?_)
      refine lv_if_eq (tgt := 27) hx hb dX8_printAt_20 (by decide) (fun c_20 => ?_) (fun c_20 => ?_)
      · have hF := hF.1 c_20
        exact wX8_printAt_27 C M3 x1 x2 x3 _ _ _ hF hP hD hS (lv_sub hl [0, 1, 2, 3] rfl)
      · have hF := hF.2 c_20
        refine lv_iconst (v := 1) hx hb dX8_printAt_23 (by decide) ?_
        refine lv_goto (tgt := 28) hx hb dX8_printAt_24 (by decide) ?_
        exact wX8_printAt_28 C M3 x1 x2 x3 (1 : Int32) _ _ _ hF hP hD hS (lv_sub hl [0, 1, 2, 3] rfl)
end
section
noncomputable def PX8_count_60 (N : Nat) (K : Int32 → mb_m → Prop) (b29 : mb_m → Int32 → Int32 → Int32 → Int32 → Prop) (M : mb_m) (x1 x2 x4 y0 y1 : Int32) : Prop := ∀ v61 : Int32, v61 = (y1 + y0) → (∀ v62 : Int32, v62 = x4 + (1 : Int32) → (b29 M x1 x2 v61 v62))
set_option maxHeartbeats 4000000 in
set_option maxRecDepth 100000 in
theorem wX8_count_60 {p : Program} {l : Launch} {e : Env} {s : State} {m : MethodId} {below : List Frame} {meth : Method} {c : Code} {args : Array Value} {D : va_G} {Y : Nat → ClassId} {A : Nat → Prop} {o : Nat} {a : Nat → Nat} {N : Nat} {K : Int32 → mb_m → Prop} {b29 : mb_m → Int32 → Int32 → Int32 → Int32 → Prop} (C : mb_Cx p s m meth c args cX8_count 5 (some .int) wsX8_count RX8 D Y A) (hb29 : ∀ (M : mb_m) (x1 x2 x3 x4 : Int32) (H : Heap) (locs : List Loc) (ls : Array Slot), b29 M x1 x2 x3 x4 → va_P D vwCl (gw8 Y o a M) H → va_D A (gw8 Y o a M) → va_S A s.heap H locs → lv_has ls 5 [(0, .ref o), (1, .int x1), (2, .int x2), (3, .int x3), (4, .int x4)] → W p l e ({ frames := 2, cells := 0, slots := 0, locals := 43 } : Room) s m args below meth c H locs 0 0 (MQ below (va_Qi K (fun u t => mb_T D A (gw8 Y o a u) t) A) args s 0 0 A) (F0 m 29 ls [])) : ∀ (M : mb_m) (x1 x2 x4 y0 y1 : Int32) (H : Heap) (locs : List Loc) (ls : Array Slot), PX8_count_60 N K b29 M x1 x2 x4 y0 y1 → va_P D vwCl (gw8 Y o a M) H → va_D A (gw8 Y o a M) → va_S A s.heap H locs → lv_has ls 5 [(0, .ref o), (1, .int x1), (2, .int x2), (4, .int x4)] → W p l e ({ frames := 2, cells := 0, slots := 0, locals := 43 } : Room) s m args below meth c H locs 0 0 (MQ below (va_Qi K (fun u t => mb_T D A (gw8 Y o a u) t) A) args s 0 0 A) (F0 m 60 ls [.int y0, .int y1]) := by
  obtain ⟨hx, hb, hr, hml, hts, hown, hlocks, hA, hG⟩ := id C
  have hK := hG.1
  intro M x1 x2 x4 y0 y1 H locs ls hF hP hD hS hl
  refine lv_iadd hx hb dX8_count_60 ?_
  refine lv_topi (fun v61 ev61 => ?_)
  have hF := hF v61 ev61
  refine lv_istore_n (lv' := [(3, .int v61), (0, .ref o), (1, .int x1), (2, .int x2), (4, .int x4)]) hx hb dX8_count_61 rfl hl (by decide) rfl (fun ls hl => ?_)
  obtain ⟨v62, ev62⟩ : ∃ y : Int32, y = x4 + (1 : Int32) := ⟨_, rfl⟩
  have hF := hF v62 ev62
  refine lv_iinc (v := v62) (lv' := [(4, .int v62), (3, .int v61), (0, .ref o), (1, .int x1), (2, .int x2)]) hx hb dX8_count_62 hl (k := 4) rfl (by rw [ev62]; rfl) (by decide) rfl (fun ls hl => ?_)
  refine lv_goto (tgt := 29) hx hb dX8_count_65 (by decide) ?_
  exact hb29 M x1 x2 v61 v62 _ _ _ hF hP hD hS (lv_sub hl [2, 3, 4, 1, 0] rfl)
noncomputable def PX8_count_29_b (N : Nat) (K : Int32 → mb_m → Prop) (b29 : mb_m → Int32 → Int32 → Int32 → Int32 → Prop) (M : mb_m) (x1 x2 x3 x4 : Int32) : Prop := ((((64 : Int32) * x1) + (64 : Int32)) ≤ x4 → K x3 M) ∧ (¬ (((64 : Int32) * x1) + (64 : Int32)) ≤ x4 → vp_in x4 640 ∧ ((¬ (M 3 x4.toNatClampNeg) = (x2 + (1 : Int32)) → PX8_count_60 N K b29 M x1 x2 x4 (0 : Int32) x3) ∧ ((M 3 x4.toNatClampNeg) = (x2 + (1 : Int32)) → PX8_count_60 N K b29 M x1 x2 x4 (1 : Int32) x3)))
noncomputable def PX8_count_29 (N : Nat) (K : Int32 → mb_m → Prop) (n : Nat) : mb_m → Int32 → Int32 → Int32 → Int32 → Prop := Nat.rec (motive := fun _ => mb_m → Int32 → Int32 → Int32 → Int32 → Prop) (fun _ _ _ _ _ => False) (fun _ b29 => PX8_count_29_b N K  b29) n
set_option maxHeartbeats 4000000 in
set_option maxRecDepth 100000 in
theorem wX8_count_29 {p : Program} {l : Launch} {e : Env} {s : State} {m : MethodId} {below : List Frame} {meth : Method} {c : Code} {args : Array Value} {D : va_G} {Y : Nat → ClassId} {A : Nat → Prop} {o : Nat} {a : Nat → Nat} {N : Nat} {K : Int32 → mb_m → Prop} (C : mb_Cx p s m meth c args cX8_count 5 (some .int) wsX8_count RX8 D Y A) : ∀ (n : Nat), (∀ (M : mb_m) (x1 x2 x3 x4 : Int32) (H : Heap) (locs : List Loc) (ls : Array Slot), PX8_count_29 N K  n M x1 x2 x3 x4 → va_P D vwCl (gw8 Y o a M) H → va_D A (gw8 Y o a M) → va_S A s.heap H locs → lv_has ls 5 [(0, .ref o), (1, .int x1), (2, .int x2), (3, .int x3), (4, .int x4)] → W p l e ({ frames := 2, cells := 0, slots := 0, locals := 43 } : Room) s m args below meth c H locs 0 0 (MQ below (va_Qi K (fun u t => mb_T D A (gw8 Y o a u) t) A) args s 0 0 A) (F0 m 29 ls [])) := by
  obtain ⟨hx, hb, hr, hml, hts, hown, hlocks, hA, hG⟩ := id C
  have hK := hG.1
  intro n
  induction n with
  | zero => intro M x1 x2 x3 x4 H locs ls hF; exact (show False from hF).elim
  | succ n ih =>
    intro M x1 x2 x3 x4 H locs ls hF hP hD hS hl
    have hF : PX8_count_29_b N K  (PX8_count_29 N K  n) M x1 x2 x3 x4 := hF
    refine lv_iload hx hb dX8_count_29 (lv_at hl 4 rfl) ?_
    refine lv_bipush (v := 64) hx hb dX8_count_31 (by decide) ?_
    refine lv_iload_n hx hb dX8_count_33 rfl (lv_at hl 1 rfl) ?_
    refine lv_imul hx hb dX8_count_34 ?_
    refine lv_bipush (v := 64) hx hb dX8_count_35 (by decide) ?_
    refine lv_iadd hx hb dX8_count_37 ?_
    refine lv_icmp_ge (tgt := 68) hx hb dX8_count_38 (by decide) (fun c_38 => ?_) (fun c_38 => ?_)
    · have hF := hF.1 c_38
      refine lv_iload_n hx hb dX8_count_68 rfl (lv_at hl 3 rfl) ?_
      exact mb_ri (S := mb_m) (mc := 0) (ms := 0) (wf := fun u => gw8 Y o a u) C rfl (u := M) hF hP hD hS dX8_count_69 (Nat.le_of_ble_eq_true rfl) (Nat.le_of_ble_eq_true rfl)
    · have hF := hF.2 c_38
      refine lv_iload_n hx hb dX8_count_41 rfl (lv_at hl 3 rfl) ?_
      refine lv_aload_n hx hb dX8_count_42 rfl (lv_at hl 0 rfl) ?_
      refine va_get (D := D) (ci := 8) (v := .ref (a 3)) (C := RX8) (T := TX8) (N := 28) hx hb hts (fun _ h9 => List.mem_cons_of_mem _ (List.mem_append_right _ (h9))) hown hK hP 0 rfl rfl 3 (by decide) (hts (.fieldLink RX8 16 "MarbleBenchModel" "printed" "[I") (List.mem_of_getElem? (i := 1) rfl)) (fun _ h9 => h9) rfl dX8_count_43 ?_
      refine lv_iload hx hb dX8_count_46 (lv_at hl 4 rfl) ?_
      obtain ⟨hi48, hF⟩ := hF
      refine va_iald hx hb hK hP 3 0 rfl rfl hi48 dX8_count_48 ?_
      refine lv_iload_n hx hb dX8_count_49 rfl (lv_at hl 2 rfl) ?_
      refine lv_iconst (v := 1) hx hb dX8_count_50 (by decide) ?_
      refine lv_iadd hx hb dX8_count_51 ?_
      refine lv_icmp_ne (tgt := 59) hx hb dX8_count_52 (by decide) (fun c_52 => ?_) (fun c_52 => ?_)
      · have hF := hF.1 c_52
        refine lv_iconst (v := 0) hx hb dX8_count_59 (by decide) ?_
        exact wX8_count_60 C ih M x1 x2 x4 (0 : Int32) x3 _ _ _ hF hP hD hS (lv_sub hl [0, 1, 2, 4] rfl)
      · have hF := hF.2 c_52
        refine lv_iconst (v := 1) hx hb dX8_count_55 (by decide) ?_
        refine lv_goto (tgt := 60) hx hb dX8_count_56 (by decide) ?_
        exact wX8_count_60 C ih M x1 x2 x4 (1 : Int32) x3 _ _ _ hF hP hD hS (lv_sub hl [0, 1, 2, 4] rfl)
noncomputable def PX8_count (N : Nat) (M : mb_m) (x1 x2 : Int32) (K : Int32 → mb_m → Prop) : Prop := PX8_isPrint N M x1 (fun r3 M3 => PX8_in N x2 (-1 : Int32) (5 : Int32) (fun r9 _ => PX8_goes N M3 r3 r9 (1 : Int32) (fun r13 M13 => (¬ r13 = 0 → ∀ v27 : Int32, v27 = ((64 : Int32) * x1) → (PX8_count_29 N K N M13 x1 x2 (0 : Int32) v27)) ∧ (r13 = 0 → K (0 : Int32) M13))))
set_option maxHeartbeats 4000000 in
set_option maxRecDepth 100000 in
theorem cnX8_count (l : Launch) (D : va_G) (Y : Nat → ClassId) (N : Nat) (o : Nat) (a : Nat → Nat) (M : mb_m) (sz : Nat) (x1 x2 : Int32) (K : Int32 → mb_m → Prop) (hF : PX8_count N M x1 x2 K) : Met l yX8_count wsX8_count ({ frames := 2, cells := 0, slots := 0, locals := 43 } : Room) (va_Pc [.ref o, .int x1, .int x2] (mb_B D Y (gw8 Y o a M) sz)) (va_Qi K (fun u t => mb_T D (va_A (gw8 Y o a M) sz) (gw8 Y o a u) t) (va_A (gw8 Y o a M) sz)) 0 0 (va_A (gw8 Y o a M) sz) := by
  refine mb_begin (cc := cX8_count) (maxL := 5) (ret := (some .int)) (by decide +kernel) rfl (Nat.le_of_ble_eq_true rfl) ?_
  intro p e s m below meth c ls C hsz hnm hP hD hl
  generalize hAe : va_A (gw8 Y o a M) sz = A at C hD ⊢
  have C : mb_Cx p s m meth c ([.ref o, .int x1, .int x2] : List Value).toArray cX8_count 5 (some .int) wsX8_count RX8 D Y A := C
  obtain ⟨hx, hb, hr, hml, hts, hown, hlocks, hA, hG⟩ := id C
  have hK := hG.1
  have hS : va_S A s.heap s.heap [] := va_S.rf
  have hl : lv_has ls 5 [(0, .ref o), (1, .int x1), (2, .int x2)] := hl
  refine lv_aload_n hx hb dX8_count_0 rfl (lv_at hl 0 rfl) ?_
  refine lv_aload_n hx hb dX8_count_1 rfl (lv_at hl 0 rfl) ?_
  refine lv_iload_n hx hb dX8_count_2 rfl (lv_at hl 1 rfl) ?_
  refine mb_cW hD hS hA (va_runV (As := [.int x1]) (rest := [.ref o]) ⟨hx, hb, hml, hown, hts⟩ (cnX8_isPrint l D Y N o a M _ x1 _ hF) (cwV 1 hts gX8_count_X8_isPrint rfl rfl rfl (by decide +kernel) ⟨Nat.le_of_ble_eq_true rfl, Nat.le_of_ble_eq_true rfl⟩) (mb_preV hG hP hD 0 rfl rfl) rfl rfl hl.1 rfl (lv_room (Nat.le_of_ble_eq_true rfl)) dX8_count_3 ⟨Nat.le_of_ble_eq_true rfl, Nat.le_of_ble_eq_true rfl⟩) (fun r3 M3 H locs hF hP hD hS => ?_)
  refine lv_iload_n hx hb dX8_count_6 rfl (lv_at hl 2 rfl) ?_
  refine lv_iconst (v := -1) hx hb dX8_count_7 (by decide) ?_
  refine lv_iconst (v := 5) hx hb dX8_count_8 (by decide) ?_
  refine mb_cE hP hS hA (va_runS (As := [.int x2, .int (-1 : Int32), .int (5 : Int32)]) (rest := [.int r3, .ref o]) ⟨hx, hb, hml, hown, hts⟩ (cnX8_in l D Y N _ x2 (-1 : Int32) (5 : Int32) _ hF) (va_cwS 3 hts gX8_count_X8_in rfl rfl rfl (by decide +kernel) ⟨Nat.le_of_ble_eq_true rfl, Nat.le_of_ble_eq_true rfl⟩) (mb_preS (A := A) hG mb_P0 mb_D0) rfl rfl hl.1 rfl (lv_room (Nat.le_of_ble_eq_true rfl)) dX8_count_9 ⟨Nat.le_of_ble_eq_true rfl, Nat.le_of_ble_eq_true rfl⟩) (fun r9 H locs hF hP hS => ?_)
  refine lv_iconst (v := 1) hx hb dX8_count_12 (by decide) ?_
  refine mb_cW hD hS hA (va_runV (As := [.int r3, .int r9, .int (1 : Int32)]) (rest := []) ⟨hx, hb, hml, hown, hts⟩ (cnX8_goes l D Y N o a M3 _ r3 r9 (1 : Int32) _ hF) (cwV 3 hts gX8_count_X8_goes rfl rfl rfl (by decide +kernel) ⟨Nat.le_of_ble_eq_true rfl, Nat.le_of_ble_eq_true rfl⟩) (mb_preV hG hP hD 0 rfl rfl) rfl rfl hl.1 rfl (lv_room (Nat.le_of_ble_eq_true rfl)) dX8_count_13 ⟨Nat.le_of_ble_eq_true rfl, Nat.le_of_ble_eq_true rfl⟩) (fun r13 M13 H locs hF hP hD hS => ?_)
  refine lv_if_ne (tgt := 21) hx hb dX8_count_16 (by decide) (fun c_16 => ?_) (fun c_16 => ?_)
  · have hF := hF.1 c_16
    refine lv_iconst (v := 0) hx hb dX8_count_21 (by decide) ?_
    refine lv_istore_n (lv' := [(3, .int (0 : Int32)), (0, .ref o), (1, .int x1), (2, .int x2)]) hx hb dX8_count_22 rfl hl (by decide) rfl (fun ls hl => ?_)
    refine lv_bipush (v := 64) hx hb dX8_count_23 (by decide) ?_
    refine lv_iload_n hx hb dX8_count_25 rfl (lv_at hl 2 rfl) ?_
    refine lv_imul hx hb dX8_count_26 ?_
    refine lv_topi (fun v27 ev27 => ?_)
    have hF := hF v27 ev27
    refine lv_istore (lv' := [(4, .int v27), (3, .int (0 : Int32)), (0, .ref o), (1, .int x1), (2, .int x2)]) hx hb dX8_count_27 hl (by decide) rfl (fun ls hl => ?_)
    exact wX8_count_29 C N M13 x1 x2 (0 : Int32) v27 _ _ _ hF hP hD hS (lv_sub hl [2, 3, 4, 1, 0] rfl)
  · have hF := hF.2 c_16
    refine lv_iconst (v := 0) hx hb dX8_count_19 (by decide) ?_
    exact mb_ri (S := mb_m) (mc := 0) (ms := 0) (wf := fun u => gw8 Y o a u) C rfl (u := M13) hF hP hD hS dX8_count_20 (Nat.le_of_ble_eq_true rfl) (Nat.le_of_ble_eq_true rfl)
end
section
noncomputable def PX8_pageAt_43 (N : Nat) (K : Int32 → mb_m → Prop) (M : mb_m) (x1 x2 x3 x4 y0 : Int32) : Prop := PX8_goes N M y0 (1 : Int32) (1 : Int32) (fun r50 M50 => (r50 = 0 → K (0 : Int32) M50) ∧ (¬ r50 = 0 → PX8_pageOf N x1 x2 x3 x4 (fun r61 _ => K r61 M50)))
set_option maxHeartbeats 4000000 in
set_option maxRecDepth 100000 in
theorem wX8_pageAt_43 {p : Program} {l : Launch} {e : Env} {s : State} {m : MethodId} {below : List Frame} {meth : Method} {c : Code} {args : Array Value} {D : va_G} {Y : Nat → ClassId} {A : Nat → Prop} {o : Nat} {a : Nat → Nat} {N : Nat} {K : Int32 → mb_m → Prop} (C : mb_Cx p s m meth c args cX8_pageAt 6 (some .int) wsX8_pageAt RX8 D Y A) : ∀ (M : mb_m) (x1 x2 x3 x4 y0 : Int32) (H : Heap) (locs : List Loc) (ls : Array Slot), PX8_pageAt_43 N K  M x1 x2 x3 x4 y0 → va_P D vwCl (gw8 Y o a M) H → va_D A (gw8 Y o a M) → va_S A s.heap H locs → lv_has ls 6 [(0, .ref o), (1, .int x1), (2, .int x2), (3, .int x3), (4, .int x4)] → W p l e ({ frames := 3, cells := 0, slots := 0, locals := 76 } : Room) s m args below meth c H locs 0 0 (MQ below (va_Qi K (fun u t => mb_T D A (gw8 Y o a u) t) A) args s 0 0 A) (F0 m 43 ls [.int y0]) := by
  obtain ⟨hx, hb, hr, hml, hts, hown, hlocks, hA, hG⟩ := id C
  have hK := hG.1
  intro M x1 x2 x3 x4 y0 H locs ls hF hP hD hS hl
  refine lv_istore (lv' := [(5, .int y0), (0, .ref o), (1, .int x1), (2, .int x2), (3, .int x3), (4, .int x4)]) hx hb dX8_pageAt_43 hl (by decide) rfl (fun ls hl => ?_)
  refine lv_aload_n hx hb dX8_pageAt_45 rfl (lv_at hl 1 rfl) ?_
  refine lv_iload hx hb dX8_pageAt_46 (lv_at hl 0 rfl) ?_
  refine lv_iconst (v := 1) hx hb dX8_pageAt_48 (by decide) ?_
  refine lv_iconst (v := 1) hx hb dX8_pageAt_49 (by decide) ?_
  refine mb_cW hD hS hA (va_runV (As := [.int y0, .int (1 : Int32), .int (1 : Int32)]) (rest := []) ⟨hx, hb, hml, hown, hts⟩ (cnX8_goes l D Y N o a M _ y0 (1 : Int32) (1 : Int32) _ hF) (cwV 3 hts gX8_pageAt_X8_goes rfl rfl rfl (by decide +kernel) ⟨Nat.le_of_ble_eq_true rfl, Nat.le_of_ble_eq_true rfl⟩) (mb_preV hG hP hD 0 rfl rfl) rfl rfl hl.1 rfl (lv_room (Nat.le_of_ble_eq_true rfl)) dX8_pageAt_50 ⟨Nat.le_of_ble_eq_true rfl, Nat.le_of_ble_eq_true rfl⟩) (fun r50 M50 H locs hF hP hD hS => ?_)
  refine lv_if_eq (tgt := 67) hx hb dX8_pageAt_53 (by decide) (fun c_53 => ?_) (fun c_53 => ?_)
  · have hF := hF.1 c_53
    refine lv_iconst (v := 0) hx hb dX8_pageAt_67 (by decide) ?_
    exact mb_ri (S := mb_m) (mc := 0) (ms := 0) (wf := fun u => gw8 Y o a u) C rfl (u := M50) hF hP hD hS dX8_pageAt_68 (Nat.le_of_ble_eq_true rfl) (Nat.le_of_ble_eq_true rfl)
  · have hF := hF.2 c_53
    refine lv_iload_n hx hb dX8_pageAt_56 rfl (lv_at hl 2 rfl) ?_
    refine lv_iload_n hx hb dX8_pageAt_57 rfl (lv_at hl 3 rfl) ?_
    refine lv_iload_n hx hb dX8_pageAt_58 rfl (lv_at hl 4 rfl) ?_
    refine lv_iload hx hb dX8_pageAt_59 (lv_at hl 5 rfl) ?_
    refine mb_cE hP hS hA (va_runS (As := [.int x1, .int x2, .int x3, .int x4]) (rest := []) ⟨hx, hb, hml, hown, hts⟩ (cnX8_pageOf l D Y N _ x1 x2 x3 x4 _ hF) (va_cwS 4 hts gX8_pageAt_X8_pageOf rfl rfl rfl (by decide +kernel) ⟨Nat.le_of_ble_eq_true rfl, Nat.le_of_ble_eq_true rfl⟩) (mb_preS (A := A) hG mb_P0 mb_D0) rfl rfl hl.1 rfl (lv_room (Nat.le_of_ble_eq_true rfl)) dX8_pageAt_61 ⟨Nat.le_of_ble_eq_true rfl, Nat.le_of_ble_eq_true rfl⟩) (fun r61 H locs hF hP hS => ?_)
    refine lv_goto (tgt := 68) hx hb dX8_pageAt_64 (by decide) ?_
    exact mb_ri (S := mb_m) (mc := 0) (ms := 0) (wf := fun u => gw8 Y o a u) C rfl (u := M50) hF hP hD hS dX8_pageAt_68 (Nat.le_of_ble_eq_true rfl) (Nat.le_of_ble_eq_true rfl)
noncomputable def PX8_pageAt_42 (N : Nat) (K : Int32 → mb_m → Prop) (M : mb_m) (x1 x2 x3 x4 : Int32) : Prop := PX8_pageAt_43 N K M x1 x2 x3 x4 (0 : Int32)
set_option maxHeartbeats 4000000 in
set_option maxRecDepth 100000 in
theorem wX8_pageAt_42 {p : Program} {l : Launch} {e : Env} {s : State} {m : MethodId} {below : List Frame} {meth : Method} {c : Code} {args : Array Value} {D : va_G} {Y : Nat → ClassId} {A : Nat → Prop} {o : Nat} {a : Nat → Nat} {N : Nat} {K : Int32 → mb_m → Prop} (C : mb_Cx p s m meth c args cX8_pageAt 6 (some .int) wsX8_pageAt RX8 D Y A) : ∀ (M : mb_m) (x1 x2 x3 x4 : Int32) (H : Heap) (locs : List Loc) (ls : Array Slot), PX8_pageAt_42 N K  M x1 x2 x3 x4 → va_P D vwCl (gw8 Y o a M) H → va_D A (gw8 Y o a M) → va_S A s.heap H locs → lv_has ls 6 [(0, .ref o), (1, .int x1), (2, .int x2), (3, .int x3), (4, .int x4)] → W p l e ({ frames := 3, cells := 0, slots := 0, locals := 76 } : Room) s m args below meth c H locs 0 0 (MQ below (va_Qi K (fun u t => mb_T D A (gw8 Y o a u) t) A) args s 0 0 A) (F0 m 42 ls []) := by
  obtain ⟨hx, hb, hr, hml, hts, hown, hlocks, hA, hG⟩ := id C
  have hK := hG.1
  intro M x1 x2 x3 x4 H locs ls hF hP hD hS hl
  refine lv_iconst (v := 0) hx hb dX8_pageAt_42 (by decide) ?_
  exact wX8_pageAt_43 C M x1 x2 x3 x4 (0 : Int32) _ _ _ hF hP hD hS (lv_sub hl [0, 1, 2, 3, 4] rfl)
noncomputable def PX8_pageAt (N : Nat) (M : mb_m) (x1 x2 x3 x4 : Int32) (K : Int32 → mb_m → Prop) : Prop := PX8_in N x1 (1 : Int32) (4 : Int32) (fun r3 _ => (r3 = 0 → PX8_pageAt_42 N K M x1 x2 x3 x4) ∧ (¬ r3 = 0 → PX8_columnsOf N x1 (fun r12 _ => PX8_in N x3 (0 : Int32) (r12 - (1 : Int32)) (fun r17 _ => (r17 = 0 → PX8_pageAt_42 N K M x1 x2 x3 x4) ∧ (¬ r17 = 0 → PX8_rowsOf N x1 (fun r27 _ => PX8_in N x4 (0 : Int32) (r27 - (1 : Int32)) (fun r32 _ => (r32 = 0 → PX8_pageAt_42 N K M x1 x2 x3 x4) ∧ (¬ r32 = 0 → PX8_pageAt_43 N K M x1 x2 x3 x4 (1 : Int32)))))))))
set_option maxHeartbeats 4000000 in
set_option maxRecDepth 100000 in
theorem cnX8_pageAt (l : Launch) (D : va_G) (Y : Nat → ClassId) (N : Nat) (o : Nat) (a : Nat → Nat) (M : mb_m) (sz : Nat) (x1 x2 x3 x4 : Int32) (K : Int32 → mb_m → Prop) (hF : PX8_pageAt N M x1 x2 x3 x4 K) : Met l yX8_pageAt wsX8_pageAt ({ frames := 3, cells := 0, slots := 0, locals := 76 } : Room) (va_Pc [.ref o, .int x1, .int x2, .int x3, .int x4] (mb_B D Y (gw8 Y o a M) sz)) (va_Qi K (fun u t => mb_T D (va_A (gw8 Y o a M) sz) (gw8 Y o a u) t) (va_A (gw8 Y o a M) sz)) 0 0 (va_A (gw8 Y o a M) sz) := by
  refine mb_begin (cc := cX8_pageAt) (maxL := 6) (ret := (some .int)) (by decide +kernel) rfl (Nat.le_of_ble_eq_true rfl) ?_
  intro p e s m below meth c ls C hsz hnm hP hD hl
  generalize hAe : va_A (gw8 Y o a M) sz = A at C hD ⊢
  have C : mb_Cx p s m meth c ([.ref o, .int x1, .int x2, .int x3, .int x4] : List Value).toArray cX8_pageAt 6 (some .int) wsX8_pageAt RX8 D Y A := C
  obtain ⟨hx, hb, hr, hml, hts, hown, hlocks, hA, hG⟩ := id C
  have hK := hG.1
  have hS : va_S A s.heap s.heap [] := va_S.rf
  have hl : lv_has ls 6 [(0, .ref o), (1, .int x1), (2, .int x2), (3, .int x3), (4, .int x4)] := hl
  refine lv_iload_n hx hb dX8_pageAt_0 rfl (lv_at hl 1 rfl) ?_
  refine lv_iconst (v := 1) hx hb dX8_pageAt_1 (by decide) ?_
  refine lv_iconst (v := 4) hx hb dX8_pageAt_2 (by decide) ?_
  refine mb_cE hP hS hA (va_runS (As := [.int x1, .int (1 : Int32), .int (4 : Int32)]) (rest := []) ⟨hx, hb, hml, hown, hts⟩ (cnX8_in l D Y N _ x1 (1 : Int32) (4 : Int32) _ hF) (va_cwS 3 hts gX8_pageAt_X8_in rfl rfl rfl (by decide +kernel) ⟨Nat.le_of_ble_eq_true rfl, Nat.le_of_ble_eq_true rfl⟩) (mb_preS (A := A) hG mb_P0 mb_D0) rfl rfl hl.1 rfl (lv_room (Nat.le_of_ble_eq_true rfl)) dX8_pageAt_3 ⟨Nat.le_of_ble_eq_true rfl, Nat.le_of_ble_eq_true rfl⟩) (fun r3 H locs hF hP hS => ?_)
  refine lv_if_eq (tgt := 42) hx hb dX8_pageAt_6 (by decide) (fun c_6 => ?_) (fun c_6 => ?_)
  · have hF := hF.1 c_6
    exact wX8_pageAt_42 C M x1 x2 x3 x4 _ _ _ hF hP hD hS (lv_sub hl [0, 1, 2, 3, 4] rfl)
  · have hF := hF.2 c_6
    refine lv_iload_n hx hb dX8_pageAt_9 rfl (lv_at hl 3 rfl) ?_
    refine lv_iconst (v := 0) hx hb dX8_pageAt_10 (by decide) ?_
    refine lv_iload_n hx hb dX8_pageAt_11 rfl (lv_at hl 1 rfl) ?_
    refine mb_cE hP hS hA (va_runS (As := [.int x1]) (rest := [.int (0 : Int32), .int x3]) ⟨hx, hb, hml, hown, hts⟩ (cnX8_columnsOf l D Y N _ x1 _ hF) (va_cwS 1 hts gX8_pageAt_X8_columnsOf rfl rfl rfl (by decide +kernel) ⟨Nat.le_of_ble_eq_true rfl, Nat.le_of_ble_eq_true rfl⟩) (mb_preS (A := A) hG mb_P0 mb_D0) rfl rfl hl.1 rfl (lv_room (Nat.le_of_ble_eq_true rfl)) dX8_pageAt_12 ⟨Nat.le_of_ble_eq_true rfl, Nat.le_of_ble_eq_true rfl⟩) (fun r12 H locs hF hP hS => ?_)
    refine lv_iconst (v := 1) hx hb dX8_pageAt_15 (by decide) ?_
    refine lv_isub hx hb dX8_pageAt_16 ?_
    refine mb_cE hP hS hA (va_runS (As := [.int x3, .int (0 : Int32), .int (r12 - (1 : Int32))]) (rest := []) ⟨hx, hb, hml, hown, hts⟩ (cnX8_in l D Y N _ x3 (0 : Int32) (r12 - (1 : Int32)) _ hF) (va_cwS 3 hts gX8_pageAt_X8_in rfl rfl rfl (by decide +kernel) ⟨Nat.le_of_ble_eq_true rfl, Nat.le_of_ble_eq_true rfl⟩) (mb_preS (A := A) hG mb_P0 mb_D0) rfl rfl hl.1 rfl (lv_room (Nat.le_of_ble_eq_true rfl)) dX8_pageAt_17 ⟨Nat.le_of_ble_eq_true rfl, Nat.le_of_ble_eq_true rfl⟩) (fun r17 H locs hF hP hS => ?_)
    refine lv_if_eq (tgt := 42) hx hb dX8_pageAt_20 (by decide) (fun c_20 => ?_) (fun c_20 => ?_)
    · have hF := hF.1 c_20
      exact wX8_pageAt_42 C M x1 x2 x3 x4 _ _ _ hF hP hD hS (lv_sub hl [0, 1, 2, 3, 4] rfl)
    · have hF := hF.2 c_20
      refine lv_iload hx hb dX8_pageAt_23 (lv_at hl 4 rfl) ?_
      refine lv_iconst (v := 0) hx hb dX8_pageAt_25 (by decide) ?_
      refine lv_iload_n hx hb dX8_pageAt_26 rfl (lv_at hl 1 rfl) ?_
      refine mb_cE hP hS hA (va_runS (As := [.int x1]) (rest := [.int (0 : Int32), .int x4]) ⟨hx, hb, hml, hown, hts⟩ (cnX8_rowsOf l D Y N _ x1 _ hF) (va_cwS 1 hts gX8_pageAt_X8_rowsOf rfl rfl rfl (by decide +kernel) ⟨Nat.le_of_ble_eq_true rfl, Nat.le_of_ble_eq_true rfl⟩) (mb_preS (A := A) hG mb_P0 mb_D0) rfl rfl hl.1 rfl (lv_room (Nat.le_of_ble_eq_true rfl)) dX8_pageAt_27 ⟨Nat.le_of_ble_eq_true rfl, Nat.le_of_ble_eq_true rfl⟩) (fun r27 H locs hF hP hS => ?_)
      refine lv_iconst (v := 1) hx hb dX8_pageAt_30 (by decide) ?_
      refine lv_isub hx hb dX8_pageAt_31 ?_
      refine mb_cE hP hS hA (va_runS (As := [.int x4, .int (0 : Int32), .int (r27 - (1 : Int32))]) (rest := []) ⟨hx, hb, hml, hown, hts⟩ (cnX8_in l D Y N _ x4 (0 : Int32) (r27 - (1 : Int32)) _ hF) (va_cwS 3 hts gX8_pageAt_X8_in rfl rfl rfl (by decide +kernel) ⟨Nat.le_of_ble_eq_true rfl, Nat.le_of_ble_eq_true rfl⟩) (mb_preS (A := A) hG mb_P0 mb_D0) rfl rfl hl.1 rfl (lv_room (Nat.le_of_ble_eq_true rfl)) dX8_pageAt_32 ⟨Nat.le_of_ble_eq_true rfl, Nat.le_of_ble_eq_true rfl⟩) (fun r32 H locs hF hP hS => ?_)
      refine lv_if_eq (tgt := 42) hx hb dX8_pageAt_35 (by decide) (fun c_35 => ?_) (fun c_35 => ?_)
      · have hF := hF.1 c_35
        exact wX8_pageAt_42 C M x1 x2 x3 x4 _ _ _ hF hP hD hS (lv_sub hl [0, 1, 2, 3, 4] rfl)
      · have hF := hF.2 c_35
        refine lv_iconst (v := 1) hx hb dX8_pageAt_38 (by decide) ?_
        refine lv_goto (tgt := 43) hx hb dX8_pageAt_39 (by decide) ?_
        exact wX8_pageAt_43 C M x1 x2 x3 x4 (1 : Int32) _ _ _ hF hP hD hS (lv_sub hl [0, 1, 2, 3, 4] rfl)
end
section
noncomputable def PX8_placeOf_133 (N : Nat) (K : Int32 → mb_m → Prop) (b49 : mb_m → Int32 → Int32 → Int32 → Int32 → Prop) (M : mb_m) (x1 x2 x4 y0 : Int32) : Prop := ∀ v134 : Int32, v134 = x4 + (1 : Int32) → (b49 M x1 x2 y0 v134)
set_option maxHeartbeats 4000000 in
set_option maxRecDepth 100000 in
theorem wX8_placeOf_133 {p : Program} {l : Launch} {e : Env} {s : State} {m : MethodId} {below : List Frame} {meth : Method} {c : Code} {args : Array Value} {D : va_G} {Y : Nat → ClassId} {A : Nat → Prop} {o : Nat} {a : Nat → Nat} {N : Nat} {K : Int32 → mb_m → Prop} {b49 : mb_m → Int32 → Int32 → Int32 → Int32 → Prop} (C : mb_Cx p s m meth c args cX8_placeOf 7 (some .int) wsX8_placeOf RX8 D Y A) (hb49 : ∀ (M : mb_m) (x1 x2 x3 x4 : Int32) (H : Heap) (locs : List Loc) (ls : Array Slot), b49 M x1 x2 x3 x4 → va_P D vwCl (gw8 Y o a M) H → va_D A (gw8 Y o a M) → va_S A s.heap H locs → lv_has ls 7 [(1, .int x1), (2, .int x2), (3, .int x3), (4, .int x4)] → W p l e ({ frames := 3, cells := 0, slots := 0, locals := 76 } : Room) s m args below meth c H locs 0 0 (MQ below (va_Qi K (fun u t => mb_T D A (gw8 Y o a u) t) A) args s 0 0 A) (F0 m 49 ls [])) : ∀ (M : mb_m) (x1 x2 x4 y0 : Int32) (H : Heap) (locs : List Loc) (ls : Array Slot), PX8_placeOf_133 N K b49 M x1 x2 x4 y0 → va_P D vwCl (gw8 Y o a M) H → va_D A (gw8 Y o a M) → va_S A s.heap H locs → lv_has ls 7 [(1, .int x1), (2, .int x2), (4, .int x4)] → W p l e ({ frames := 3, cells := 0, slots := 0, locals := 76 } : Room) s m args below meth c H locs 0 0 (MQ below (va_Qi K (fun u t => mb_T D A (gw8 Y o a u) t) A) args s 0 0 A) (F0 m 133 ls [.int y0]) := by
  obtain ⟨hx, hb, hr, hml, hts, hown, hlocks, hA, hG⟩ := id C
  have hK := hG.1
  intro M x1 x2 x4 y0 H locs ls hF hP hD hS hl
  refine lv_istore_n (lv' := [(3, .int y0), (1, .int x1), (2, .int x2), (4, .int x4)]) hx hb dX8_placeOf_133 rfl hl (by decide) rfl (fun ls hl => ?_)
  obtain ⟨v134, ev134⟩ : ∃ y : Int32, y = x4 + (1 : Int32) := ⟨_, rfl⟩
  have hF := hF v134 ev134
  refine lv_iinc (v := v134) (lv' := [(4, .int v134), (3, .int y0), (1, .int x1), (2, .int x2)]) hx hb dX8_placeOf_134 hl (k := 3) rfl (by rw [ev134]; rfl) (by decide) rfl (fun ls hl => ?_)
  refine lv_goto (tgt := 49) hx hb dX8_placeOf_137 (by decide) ?_
  exact hb49 M x1 x2 y0 v134 _ _ _ hF hP hD hS (lv_sub hl [2, 3, 1, 0] rfl)
noncomputable def PX8_placeOf_49_b (N : Nat) (K : Int32 → mb_m → Prop) (b49 : mb_m → Int32 → Int32 → Int32 → Int32 → Prop) (M : mb_m) (x1 x2 x3 x4 : Int32) : Prop := PX8_columnsOf N x1 (fun r52 _ => PX8_rowsOf N x1 (fun r56 _ => ((r52 * r56) ≤ x4 → K x3 M) ∧ (¬ (r52 * r56) ≤ x4 → PX8_columnsOf N x1 (fun r66 _ => ¬ r66 = 0 ∧ (∀ v70 : Int32, v70 = (x4 - x4 / r66 * r66) → (PX8_columnsOf N x1 (fun r75 _ => ¬ r75 = 0 ∧ (∀ v79 : Int32, v79 = (x4 / r75) → (PX8_pageOf N x1 (0 : Int32) v70 v79 (fun r87 _ => (¬ r87 = x2 → PX8_pageOf N x1 (1 : Int32) v70 v79 (fun r111 _ => (¬ r111 = x2 → PX8_placeOf_133 N K b49 M x1 x2 x4 x3) ∧ (r111 = x2 → PX8_placeOf_133 N K b49 M x1 x2 x4 (((100 : Int32) + ((10 : Int32) * v79)) + v70)))) ∧ (r87 = x2 → PX8_placeOf_133 N K b49 M x1 x2 x4 (((10 : Int32) * v79) + v70))))))))))))
noncomputable def PX8_placeOf_49 (N : Nat) (K : Int32 → mb_m → Prop) (n : Nat) : mb_m → Int32 → Int32 → Int32 → Int32 → Prop := Nat.rec (motive := fun _ => mb_m → Int32 → Int32 → Int32 → Int32 → Prop) (fun _ _ _ _ _ => False) (fun _ b49 => PX8_placeOf_49_b N K  b49) n
set_option maxHeartbeats 4000000 in
set_option maxRecDepth 100000 in
theorem wX8_placeOf_49 {p : Program} {l : Launch} {e : Env} {s : State} {m : MethodId} {below : List Frame} {meth : Method} {c : Code} {args : Array Value} {D : va_G} {Y : Nat → ClassId} {A : Nat → Prop} {o : Nat} {a : Nat → Nat} {N : Nat} {K : Int32 → mb_m → Prop} (C : mb_Cx p s m meth c args cX8_placeOf 7 (some .int) wsX8_placeOf RX8 D Y A) : ∀ (n : Nat), (∀ (M : mb_m) (x1 x2 x3 x4 : Int32) (H : Heap) (locs : List Loc) (ls : Array Slot), PX8_placeOf_49 N K  n M x1 x2 x3 x4 → va_P D vwCl (gw8 Y o a M) H → va_D A (gw8 Y o a M) → va_S A s.heap H locs → lv_has ls 7 [(1, .int x1), (2, .int x2), (3, .int x3), (4, .int x4)] → W p l e ({ frames := 3, cells := 0, slots := 0, locals := 76 } : Room) s m args below meth c H locs 0 0 (MQ below (va_Qi K (fun u t => mb_T D A (gw8 Y o a u) t) A) args s 0 0 A) (F0 m 49 ls [])) := by
  obtain ⟨hx, hb, hr, hml, hts, hown, hlocks, hA, hG⟩ := id C
  have hK := hG.1
  intro n
  induction n with
  | zero => intro M x1 x2 x3 x4 H locs ls hF; exact (show False from hF).elim
  | succ n ih =>
    intro M x1 x2 x3 x4 H locs ls hF hP hD hS hl
    have hF : PX8_placeOf_49_b N K  (PX8_placeOf_49 N K  n) M x1 x2 x3 x4 := hF
    refine lv_iload hx hb dX8_placeOf_49 (lv_at hl 3 rfl) ?_
    refine lv_iload_n hx hb dX8_placeOf_51 rfl (lv_at hl 0 rfl) ?_
    refine mb_cE hP hS hA (va_runS (As := [.int x1]) (rest := [.int x4]) ⟨hx, hb, hml, hown, hts⟩ (cnX8_columnsOf l D Y N _ x1 _ hF) (va_cwS 1 hts gX8_placeOf_X8_columnsOf rfl rfl rfl (by decide +kernel) ⟨Nat.le_of_ble_eq_true rfl, Nat.le_of_ble_eq_true rfl⟩) (mb_preS (A := A) hG mb_P0 mb_D0) rfl rfl hl.1 rfl (lv_room (Nat.le_of_ble_eq_true rfl)) dX8_placeOf_52 ⟨Nat.le_of_ble_eq_true rfl, Nat.le_of_ble_eq_true rfl⟩) (fun r52 H locs hF hP hS => ?_)
    refine lv_iload_n hx hb dX8_placeOf_55 rfl (lv_at hl 0 rfl) ?_
    refine mb_cE hP hS hA (va_runS (As := [.int x1]) (rest := [.int r52, .int x4]) ⟨hx, hb, hml, hown, hts⟩ (cnX8_rowsOf l D Y N _ x1 _ hF) (va_cwS 1 hts gX8_placeOf_X8_rowsOf rfl rfl rfl (by decide +kernel) ⟨Nat.le_of_ble_eq_true rfl, Nat.le_of_ble_eq_true rfl⟩) (mb_preS (A := A) hG mb_P0 mb_D0) rfl rfl hl.1 rfl (lv_room (Nat.le_of_ble_eq_true rfl)) dX8_placeOf_56 ⟨Nat.le_of_ble_eq_true rfl, Nat.le_of_ble_eq_true rfl⟩) (fun r56 H locs hF hP hS => ?_)
    refine lv_imul hx hb dX8_placeOf_59 ?_
    refine lv_icmp_ge (tgt := 140) hx hb dX8_placeOf_60 (by decide) (fun c_60 => ?_) (fun c_60 => ?_)
    · have hF := hF.1 c_60
      refine lv_iload_n hx hb dX8_placeOf_140 rfl (lv_at hl 2 rfl) ?_
      exact mb_ri (S := mb_m) (mc := 0) (ms := 0) (wf := fun u => gw8 Y o a u) C rfl (u := M) hF hP hD hS dX8_placeOf_141 (Nat.le_of_ble_eq_true rfl) (Nat.le_of_ble_eq_true rfl)
    · have hF := hF.2 c_60
      refine lv_iload hx hb dX8_placeOf_63 (lv_at hl 3 rfl) ?_
      refine lv_iload_n hx hb dX8_placeOf_65 rfl (lv_at hl 0 rfl) ?_
      refine mb_cE hP hS hA (va_runS (As := [.int x1]) (rest := [.int x4]) ⟨hx, hb, hml, hown, hts⟩ (cnX8_columnsOf l D Y N _ x1 _ hF) (va_cwS 1 hts gX8_placeOf_X8_columnsOf rfl rfl rfl (by decide +kernel) ⟨Nat.le_of_ble_eq_true rfl, Nat.le_of_ble_eq_true rfl⟩) (mb_preS (A := A) hG mb_P0 mb_D0) rfl rfl hl.1 rfl (lv_room (Nat.le_of_ble_eq_true rfl)) dX8_placeOf_66 ⟨Nat.le_of_ble_eq_true rfl, Nat.le_of_ble_eq_true rfl⟩) (fun r66 H locs hF hP hS => ?_)
      obtain ⟨hz69, hF⟩ := hF
      refine lv_irem hx hb dX8_placeOf_69 hz69 ?_
      refine lv_topi (fun v70 ev70 => ?_)
      have hF := hF v70 ev70
      refine lv_istore (lv' := [(5, .int v70), (1, .int x1), (2, .int x2), (3, .int x3), (4, .int x4)]) hx hb dX8_placeOf_70 hl (by decide) rfl (fun ls hl => ?_)
      refine lv_iload hx hb dX8_placeOf_72 (lv_at hl 4 rfl) ?_
      refine lv_iload_n hx hb dX8_placeOf_74 rfl (lv_at hl 1 rfl) ?_
      refine mb_cE hP hS hA (va_runS (As := [.int x1]) (rest := [.int x4]) ⟨hx, hb, hml, hown, hts⟩ (cnX8_columnsOf l D Y N _ x1 _ hF) (va_cwS 1 hts gX8_placeOf_X8_columnsOf rfl rfl rfl (by decide +kernel) ⟨Nat.le_of_ble_eq_true rfl, Nat.le_of_ble_eq_true rfl⟩) (mb_preS (A := A) hG mb_P0 mb_D0) rfl rfl hl.1 rfl (lv_room (Nat.le_of_ble_eq_true rfl)) dX8_placeOf_75 ⟨Nat.le_of_ble_eq_true rfl, Nat.le_of_ble_eq_true rfl⟩) (fun r75 H locs hF hP hS => ?_)
      obtain ⟨hz78, hF⟩ := hF
      refine lv_idiv hx hb dX8_placeOf_78 hz78 ?_
      refine lv_topi (fun v79 ev79 => ?_)
      have hF := hF v79 ev79
      refine lv_istore (lv' := [(6, .int v79), (5, .int v70), (1, .int x1), (2, .int x2), (3, .int x3), (4, .int x4)]) hx hb dX8_placeOf_79 hl (by decide) rfl (fun ls hl => ?_)
      refine lv_iload_n hx hb dX8_placeOf_81 rfl (lv_at hl 2 rfl) ?_
      refine lv_iconst (v := 0) hx hb dX8_placeOf_82 (by decide) ?_
      refine lv_iload hx hb dX8_placeOf_83 (lv_at hl 1 rfl) ?_
      refine lv_iload hx hb dX8_placeOf_85 (lv_at hl 0 rfl) ?_
      refine mb_cE hP hS hA (va_runS (As := [.int x1, .int (0 : Int32), .int v70, .int v79]) (rest := []) ⟨hx, hb, hml, hown, hts⟩ (cnX8_pageOf l D Y N _ x1 (0 : Int32) v70 v79 _ hF) (va_cwS 4 hts gX8_placeOf_X8_pageOf rfl rfl rfl (by decide +kernel) ⟨Nat.le_of_ble_eq_true rfl, Nat.le_of_ble_eq_true rfl⟩) (mb_preS (A := A) hG mb_P0 mb_D0) rfl rfl hl.1 rfl (lv_room (Nat.le_of_ble_eq_true rfl)) dX8_placeOf_87 ⟨Nat.le_of_ble_eq_true rfl, Nat.le_of_ble_eq_true rfl⟩) (fun r87 H locs hF hP hS => ?_)
      refine lv_iload_n hx hb dX8_placeOf_90 rfl (lv_at hl 3 rfl) ?_
      refine lv_icmp_ne (tgt := 105) hx hb dX8_placeOf_91 (by decide) (fun c_91 => ?_) (fun c_91 => ?_)
      · have hF := hF.1 c_91
        refine lv_iload_n hx hb dX8_placeOf_105 rfl (lv_at hl 2 rfl) ?_
        refine lv_iconst (v := 1) hx hb dX8_placeOf_106 (by decide) ?_
        refine lv_iload hx hb dX8_placeOf_107 (lv_at hl 1 rfl) ?_
        refine lv_iload hx hb dX8_placeOf_109 (lv_at hl 0 rfl) ?_
        refine mb_cE hP hS hA (va_runS (As := [.int x1, .int (1 : Int32), .int v70, .int v79]) (rest := []) ⟨hx, hb, hml, hown, hts⟩ (cnX8_pageOf l D Y N _ x1 (1 : Int32) v70 v79 _ hF) (va_cwS 4 hts gX8_placeOf_X8_pageOf rfl rfl rfl (by decide +kernel) ⟨Nat.le_of_ble_eq_true rfl, Nat.le_of_ble_eq_true rfl⟩) (mb_preS (A := A) hG mb_P0 mb_D0) rfl rfl hl.1 rfl (lv_room (Nat.le_of_ble_eq_true rfl)) dX8_placeOf_111 ⟨Nat.le_of_ble_eq_true rfl, Nat.le_of_ble_eq_true rfl⟩) (fun r111 H locs hF hP hS => ?_)
        refine lv_iload_n hx hb dX8_placeOf_114 rfl (lv_at hl 3 rfl) ?_
        refine lv_icmp_ne (tgt := 132) hx hb dX8_placeOf_115 (by decide) (fun c_115 => ?_) (fun c_115 => ?_)
        · have hF := hF.1 c_115
          refine lv_iload_n hx hb dX8_placeOf_132 rfl (lv_at hl 4 rfl) ?_
          exact wX8_placeOf_133 C ih M x1 x2 x4 x3 _ _ _ hF hP hD hS (lv_sub hl [2, 3, 5] rfl)
        · have hF := hF.2 c_115
          refine lv_bipush (v := 100) hx hb dX8_placeOf_118 (by decide) ?_
          refine lv_bipush (v := 10) hx hb dX8_placeOf_120 (by decide) ?_
          refine lv_iload hx hb dX8_placeOf_122 (lv_at hl 0 rfl) ?_
          refine lv_imul hx hb dX8_placeOf_124 ?_
          refine lv_iadd hx hb dX8_placeOf_125 ?_
          refine lv_iload hx hb dX8_placeOf_126 (lv_at hl 1 rfl) ?_
          refine lv_iadd hx hb dX8_placeOf_128 ?_
          refine lv_goto (tgt := 133) hx hb dX8_placeOf_129 (by decide) ?_
          exact wX8_placeOf_133 C ih M x1 x2 x4 (((100 : Int32) + ((10 : Int32) * v79)) + v70) _ _ _ hF hP hD hS (lv_sub hl [2, 3, 5] rfl)
      · have hF := hF.2 c_91
        refine lv_bipush (v := 10) hx hb dX8_placeOf_94 (by decide) ?_
        refine lv_iload hx hb dX8_placeOf_96 (lv_at hl 0 rfl) ?_
        refine lv_imul hx hb dX8_placeOf_98 ?_
        refine lv_iload hx hb dX8_placeOf_99 (lv_at hl 1 rfl) ?_
        refine lv_iadd hx hb dX8_placeOf_101 ?_
        refine lv_goto (tgt := 133) hx hb dX8_placeOf_102 (by decide) ?_
        exact wX8_placeOf_133 C ih M x1 x2 x4 (((10 : Int32) * v79) + v70) _ _ _ hF hP hD hS (lv_sub hl [2, 3, 5] rfl)
noncomputable def PX8_placeOf_34 (N : Nat) (K : Int32 → mb_m → Prop) (M : mb_m) (x1 x2 y0 : Int32) : Prop := PX8_goes N M y0 (1 : Int32) (1 : Int32) (fun r36 M36 => (¬ r36 = 0 → PX8_placeOf_49 N K N M36 x1 x2 (0 : Int32) (0 : Int32)) ∧ (r36 = 0 → K (0 : Int32) M36))
set_option maxHeartbeats 4000000 in
set_option maxRecDepth 100000 in
theorem wX8_placeOf_34 {p : Program} {l : Launch} {e : Env} {s : State} {m : MethodId} {below : List Frame} {meth : Method} {c : Code} {args : Array Value} {D : va_G} {Y : Nat → ClassId} {A : Nat → Prop} {o : Nat} {a : Nat → Nat} {N : Nat} {K : Int32 → mb_m → Prop} (C : mb_Cx p s m meth c args cX8_placeOf 7 (some .int) wsX8_placeOf RX8 D Y A) : ∀ (M : mb_m) (x1 x2 y0 : Int32) (H : Heap) (locs : List Loc) (ls : Array Slot), PX8_placeOf_34 N K  M x1 x2 y0 → va_P D vwCl (gw8 Y o a M) H → va_D A (gw8 Y o a M) → va_S A s.heap H locs → lv_has ls 7 [(1, .int x1), (2, .int x2)] → W p l e ({ frames := 3, cells := 0, slots := 0, locals := 76 } : Room) s m args below meth c H locs 0 0 (MQ below (va_Qi K (fun u t => mb_T D A (gw8 Y o a u) t) A) args s 0 0 A) (F0 m 34 ls [.int y0, .ref o]) := by
  obtain ⟨hx, hb, hr, hml, hts, hown, hlocks, hA, hG⟩ := id C
  have hK := hG.1
  intro M x1 x2 y0 H locs ls hF hP hD hS hl
  refine lv_iconst (v := 1) hx hb dX8_placeOf_34 (by decide) ?_
  refine lv_iconst (v := 1) hx hb dX8_placeOf_35 (by decide) ?_
  refine mb_cW hD hS hA (va_runV (As := [.int y0, .int (1 : Int32), .int (1 : Int32)]) (rest := []) ⟨hx, hb, hml, hown, hts⟩ (cnX8_goes l D Y N o a M _ y0 (1 : Int32) (1 : Int32) _ hF) (cwV 3 hts gX8_placeOf_X8_goes rfl rfl rfl (by decide +kernel) ⟨Nat.le_of_ble_eq_true rfl, Nat.le_of_ble_eq_true rfl⟩) (mb_preV hG hP hD 0 rfl rfl) rfl rfl hl.1 rfl (lv_room (Nat.le_of_ble_eq_true rfl)) dX8_placeOf_36 ⟨Nat.le_of_ble_eq_true rfl, Nat.le_of_ble_eq_true rfl⟩) (fun r36 M36 H locs hF hP hD hS => ?_)
  refine lv_if_ne (tgt := 44) hx hb dX8_placeOf_39 (by decide) (fun c_39 => ?_) (fun c_39 => ?_)
  · have hF := hF.1 c_39
    refine lv_iconst (v := 0) hx hb dX8_placeOf_44 (by decide) ?_
    refine lv_istore_n (lv' := [(3, .int (0 : Int32)), (1, .int x1), (2, .int x2)]) hx hb dX8_placeOf_45 rfl hl (by decide) rfl (fun ls hl => ?_)
    refine lv_iconst (v := 0) hx hb dX8_placeOf_46 (by decide) ?_
    refine lv_istore (lv' := [(4, .int (0 : Int32)), (3, .int (0 : Int32)), (1, .int x1), (2, .int x2)]) hx hb dX8_placeOf_47 hl (by decide) rfl (fun ls hl => ?_)
    exact wX8_placeOf_49 C N M36 x1 x2 (0 : Int32) (0 : Int32) _ _ _ hF hP hD hS (lv_sub hl [2, 3, 1, 0] rfl)
  · have hF := hF.2 c_39
    refine lv_iconst (v := 0) hx hb dX8_placeOf_42 (by decide) ?_
    exact mb_ri (S := mb_m) (mc := 0) (ms := 0) (wf := fun u => gw8 Y o a u) C rfl (u := M36) hF hP hD hS dX8_placeOf_43 (Nat.le_of_ble_eq_true rfl) (Nat.le_of_ble_eq_true rfl)
noncomputable def PX8_placeOf_33 (N : Nat) (K : Int32 → mb_m → Prop) (M : mb_m) (x1 x2 : Int32) : Prop := PX8_placeOf_34 N K M x1 x2 (0 : Int32)
set_option maxHeartbeats 4000000 in
set_option maxRecDepth 100000 in
theorem wX8_placeOf_33 {p : Program} {l : Launch} {e : Env} {s : State} {m : MethodId} {below : List Frame} {meth : Method} {c : Code} {args : Array Value} {D : va_G} {Y : Nat → ClassId} {A : Nat → Prop} {o : Nat} {a : Nat → Nat} {N : Nat} {K : Int32 → mb_m → Prop} (C : mb_Cx p s m meth c args cX8_placeOf 7 (some .int) wsX8_placeOf RX8 D Y A) : ∀ (M : mb_m) (x1 x2 : Int32) (H : Heap) (locs : List Loc) (ls : Array Slot), PX8_placeOf_33 N K  M x1 x2 → va_P D vwCl (gw8 Y o a M) H → va_D A (gw8 Y o a M) → va_S A s.heap H locs → lv_has ls 7 [(1, .int x1), (2, .int x2)] → W p l e ({ frames := 3, cells := 0, slots := 0, locals := 76 } : Room) s m args below meth c H locs 0 0 (MQ below (va_Qi K (fun u t => mb_T D A (gw8 Y o a u) t) A) args s 0 0 A) (F0 m 33 ls [.ref o]) := by
  obtain ⟨hx, hb, hr, hml, hts, hown, hlocks, hA, hG⟩ := id C
  have hK := hG.1
  intro M x1 x2 H locs ls hF hP hD hS hl
  refine lv_iconst (v := 0) hx hb dX8_placeOf_33 (by decide) ?_
  exact wX8_placeOf_34 C M x1 x2 (0 : Int32) _ _ _ hF hP hD hS (lv_sub hl [0, 1] rfl)
noncomputable def PX8_placeOf (N : Nat) (M : mb_m) (x1 x2 : Int32) (K : Int32 → mb_m → Prop) : Prop := PX8_in N x1 (1 : Int32) (4 : Int32) (fun r4 _ => (r4 = 0 → PX8_placeOf_33 N K M x1 x2) ∧ (¬ r4 = 0 → PX8_columnsOf N x1 (fun r14 _ => PX8_rowsOf N x1 (fun r19 _ => PX8_in N x2 (1 : Int32) (((2 : Int32) * r14) * r19) (fun r23 _ => (r23 = 0 → PX8_placeOf_33 N K M x1 x2) ∧ (¬ r23 = 0 → PX8_placeOf_34 N K M x1 x2 (1 : Int32)))))))
set_option maxHeartbeats 4000000 in
set_option maxRecDepth 100000 in
theorem cnX8_placeOf (l : Launch) (D : va_G) (Y : Nat → ClassId) (N : Nat) (o : Nat) (a : Nat → Nat) (M : mb_m) (sz : Nat) (x1 x2 : Int32) (K : Int32 → mb_m → Prop) (hF : PX8_placeOf N M x1 x2 K) : Met l yX8_placeOf wsX8_placeOf ({ frames := 3, cells := 0, slots := 0, locals := 76 } : Room) (va_Pc [.ref o, .int x1, .int x2] (mb_B D Y (gw8 Y o a M) sz)) (va_Qi K (fun u t => mb_T D (va_A (gw8 Y o a M) sz) (gw8 Y o a u) t) (va_A (gw8 Y o a M) sz)) 0 0 (va_A (gw8 Y o a M) sz) := by
  refine mb_begin (cc := cX8_placeOf) (maxL := 7) (ret := (some .int)) (by decide +kernel) rfl (Nat.le_of_ble_eq_true rfl) ?_
  intro p e s m below meth c ls C hsz hnm hP hD hl
  generalize hAe : va_A (gw8 Y o a M) sz = A at C hD ⊢
  have C : mb_Cx p s m meth c ([.ref o, .int x1, .int x2] : List Value).toArray cX8_placeOf 7 (some .int) wsX8_placeOf RX8 D Y A := C
  obtain ⟨hx, hb, hr, hml, hts, hown, hlocks, hA, hG⟩ := id C
  have hK := hG.1
  have hS : va_S A s.heap s.heap [] := va_S.rf
  have hl : lv_has ls 7 [(0, .ref o), (1, .int x1), (2, .int x2)] := hl
  refine lv_aload_n hx hb dX8_placeOf_0 rfl (lv_at hl 0 rfl) ?_
  refine lv_iload_n hx hb dX8_placeOf_1 rfl (lv_at hl 1 rfl) ?_
  refine lv_iconst (v := 1) hx hb dX8_placeOf_2 (by decide) ?_
  refine lv_iconst (v := 4) hx hb dX8_placeOf_3 (by decide) ?_
  refine mb_cE hP hS hA (va_runS (As := [.int x1, .int (1 : Int32), .int (4 : Int32)]) (rest := [.ref o]) ⟨hx, hb, hml, hown, hts⟩ (cnX8_in l D Y N _ x1 (1 : Int32) (4 : Int32) _ hF) (va_cwS 3 hts gX8_placeOf_X8_in rfl rfl rfl (by decide +kernel) ⟨Nat.le_of_ble_eq_true rfl, Nat.le_of_ble_eq_true rfl⟩) (mb_preS (A := A) hG mb_P0 mb_D0) rfl rfl hl.1 rfl (lv_room (Nat.le_of_ble_eq_true rfl)) dX8_placeOf_4 ⟨Nat.le_of_ble_eq_true rfl, Nat.le_of_ble_eq_true rfl⟩) (fun r4 H locs hF hP hS => ?_)
  refine lv_if_eq (tgt := 33) hx hb dX8_placeOf_7 (by decide) (fun c_7 => ?_) (fun c_7 => ?_)
  · have hF := hF.1 c_7
    exact wX8_placeOf_33 C M x1 x2 _ _ _ hF hP hD hS (lv_sub hl [1, 2] rfl)
  · have hF := hF.2 c_7
    refine lv_iload_n hx hb dX8_placeOf_10 rfl (lv_at hl 2 rfl) ?_
    refine lv_iconst (v := 1) hx hb dX8_placeOf_11 (by decide) ?_
    refine lv_iconst (v := 2) hx hb dX8_placeOf_12 (by decide) ?_
    refine lv_iload_n hx hb dX8_placeOf_13 rfl (lv_at hl 1 rfl) ?_
    refine mb_cE hP hS hA (va_runS (As := [.int x1]) (rest := [.int (2 : Int32), .int (1 : Int32), .int x2, .ref o]) ⟨hx, hb, hml, hown, hts⟩ (cnX8_columnsOf l D Y N _ x1 _ hF) (va_cwS 1 hts gX8_placeOf_X8_columnsOf rfl rfl rfl (by decide +kernel) ⟨Nat.le_of_ble_eq_true rfl, Nat.le_of_ble_eq_true rfl⟩) (mb_preS (A := A) hG mb_P0 mb_D0) rfl rfl hl.1 rfl (lv_room (Nat.le_of_ble_eq_true rfl)) dX8_placeOf_14 ⟨Nat.le_of_ble_eq_true rfl, Nat.le_of_ble_eq_true rfl⟩) (fun r14 H locs hF hP hS => ?_)
    refine lv_imul hx hb dX8_placeOf_17 ?_
    refine lv_iload_n hx hb dX8_placeOf_18 rfl (lv_at hl 1 rfl) ?_
    refine mb_cE hP hS hA (va_runS (As := [.int x1]) (rest := [.int ((2 : Int32) * r14), .int (1 : Int32), .int x2, .ref o]) ⟨hx, hb, hml, hown, hts⟩ (cnX8_rowsOf l D Y N _ x1 _ hF) (va_cwS 1 hts gX8_placeOf_X8_rowsOf rfl rfl rfl (by decide +kernel) ⟨Nat.le_of_ble_eq_true rfl, Nat.le_of_ble_eq_true rfl⟩) (mb_preS (A := A) hG mb_P0 mb_D0) rfl rfl hl.1 rfl (lv_room (Nat.le_of_ble_eq_true rfl)) dX8_placeOf_19 ⟨Nat.le_of_ble_eq_true rfl, Nat.le_of_ble_eq_true rfl⟩) (fun r19 H locs hF hP hS => ?_)
    refine lv_imul hx hb dX8_placeOf_22 ?_
    refine mb_cE hP hS hA (va_runS (As := [.int x2, .int (1 : Int32), .int (((2 : Int32) * r14) * r19)]) (rest := [.ref o]) ⟨hx, hb, hml, hown, hts⟩ (cnX8_in l D Y N _ x2 (1 : Int32) (((2 : Int32) * r14) * r19) _ hF) (va_cwS 3 hts gX8_placeOf_X8_in rfl rfl rfl (by decide +kernel) ⟨Nat.le_of_ble_eq_true rfl, Nat.le_of_ble_eq_true rfl⟩) (mb_preS (A := A) hG mb_P0 mb_D0) rfl rfl hl.1 rfl (lv_room (Nat.le_of_ble_eq_true rfl)) dX8_placeOf_23 ⟨Nat.le_of_ble_eq_true rfl, Nat.le_of_ble_eq_true rfl⟩) (fun r23 H locs hF hP hS => ?_)
    refine lv_if_eq (tgt := 33) hx hb dX8_placeOf_26 (by decide) (fun c_26 => ?_) (fun c_26 => ?_)
    · have hF := hF.1 c_26
      exact wX8_placeOf_33 C M x1 x2 _ _ _ hF hP hD hS (lv_sub hl [1, 2] rfl)
    · have hF := hF.2 c_26
      refine lv_iconst (v := 1) hx hb dX8_placeOf_29 (by decide) ?_
      refine lv_goto (tgt := 34) hx hb dX8_placeOf_30 (by decide) ?_
      exact wX8_placeOf_34 C M x1 x2 (1 : Int32) _ _ _ hF hP hD hS (lv_sub hl [1, 2] rfl)
end
section
noncomputable def PX8_isBook (N : Nat) (M : mb_m) (x1 : Int32) (K : Int32 → mb_m → Prop) : Prop := PX8_in N x1 (0 : Int32) ((M 4 0) - (1 : Int32)) (fun r8 _ => mb_isB r8 ∧ (K r8 M))
set_option maxHeartbeats 4000000 in
set_option maxRecDepth 100000 in
theorem cnX8_isBook (l : Launch) (D : va_G) (Y : Nat → ClassId) (N : Nat) (o : Nat) (a : Nat → Nat) (M : mb_m) (sz : Nat) (x1 : Int32) (K : Int32 → mb_m → Prop) (hF : PX8_isBook N M x1 K) : Met l yX8_isBook wsX8_isBook ({ frames := 1, cells := 0, slots := 0, locals := 22 } : Room) (va_Pc [.ref o, .int x1] (mb_B D Y (gw8 Y o a M) sz)) (va_Qi K (fun u t => mb_T D (va_A (gw8 Y o a M) sz) (gw8 Y o a u) t) (va_A (gw8 Y o a M) sz)) 0 0 (va_A (gw8 Y o a M) sz) := by
  refine mb_begin (cc := cX8_isBook) (maxL := 2) (ret := (some .boolean)) (by decide +kernel) rfl (Nat.le_of_ble_eq_true rfl) ?_
  intro p e s m below meth c ls C hsz hnm hP hD hl
  generalize hAe : va_A (gw8 Y o a M) sz = A at C hD ⊢
  have C : mb_Cx p s m meth c ([.ref o, .int x1] : List Value).toArray cX8_isBook 2 (some .boolean) wsX8_isBook RX8 D Y A := C
  obtain ⟨hx, hb, hr, hml, hts, hown, hlocks, hA, hG⟩ := id C
  have hK := hG.1
  have hS : va_S A s.heap s.heap [] := va_S.rf
  have hl : lv_has ls 2 [(0, .ref o), (1, .int x1)] := hl
  refine lv_iload_n hx hb dX8_isBook_0 rfl (lv_at hl 1 rfl) ?_
  refine lv_iconst (v := 0) hx hb dX8_isBook_1 (by decide) ?_
  refine lv_aload_n hx hb dX8_isBook_2 rfl (lv_at hl 0 rfl) ?_
  refine va_get (D := D) (ci := 8) (v := .int (M 4 0)) (C := RX8) (T := TX8) (N := 28) hx hb hts (fun _ h9 => List.mem_cons_of_mem _ (List.mem_append_right _ (h9))) hown hK hP 0 rfl rfl 4 (by decide) (hts (.fieldLink RX8 119 "MarbleBenchModel" "books" "I") (List.mem_of_getElem? (i := 1) rfl)) (fun _ h9 => h9) rfl dX8_isBook_3 ?_
  refine lv_iconst (v := 1) hx hb dX8_isBook_6 (by decide) ?_
  refine lv_isub hx hb dX8_isBook_7 ?_
  refine mb_cE hP hS hA (va_runS (As := [.int x1, .int (0 : Int32), .int ((M 4 0) - (1 : Int32))]) (rest := []) ⟨hx, hb, hml, hown, hts⟩ (cnX8_in l D Y N _ x1 (0 : Int32) ((M 4 0) - (1 : Int32)) _ hF) (va_cwS 3 hts gX8_isBook_X8_in rfl rfl rfl (by decide +kernel) ⟨Nat.le_of_ble_eq_true rfl, Nat.le_of_ble_eq_true rfl⟩) (mb_preS (A := A) hG mb_P0 mb_D0) rfl rfl hl.1 rfl (lv_room (Nat.le_of_ble_eq_true rfl)) dX8_isBook_8 ⟨Nat.le_of_ble_eq_true rfl, Nat.le_of_ble_eq_true rfl⟩) (fun r8 H locs hF hP hS => ?_)
  obtain ⟨hz11, hF⟩ := hF
  exact mb_ri (S := mb_m) (mc := 0) (ms := 0) (wf := fun u => gw8 Y o a u) C (mb_isB_n hz11) (u := M) hF hP hD hS dX8_isBook_11 (Nat.le_of_ble_eq_true rfl) (Nat.le_of_ble_eq_true rfl)
end
section
noncomputable def PX8_book_64 (N : Nat) (K : Int32 → mb_m → Prop) (M : mb_m) (x1 x2 x3 x4 x5 y0 y1 : Int32) : Prop := PX8_goes N M y1 y0 (1 : Int32) (fun r65 M65 => (¬ r65 = 0 → vp_in (M65 4 0) 4 ∧ (∀ M82 : mb_m, M82 = mb_u M65 5 (upd (M65 5) (M65 4 0).toNatClampNeg x1) → (vp_in (M82 4 0) 4 ∧ (∀ M92 : mb_m, M92 = mb_u M82 6 (upd (M82 6) (M82 4 0).toNatClampNeg x2) → (vp_in (M92 4 0) 4 ∧ (∀ M102 : mb_m, M102 = mb_u M92 7 (upd (M92 7) (M92 4 0).toNatClampNeg x3) → (vp_in (M102 4 0) 4 ∧ (∀ M113 : mb_m, M113 = mb_u M102 8 (upd (M102 8) (M102 4 0).toNatClampNeg x4) → (vp_in (M113 4 0) 4 ∧ (∀ M124 : mb_m, M124 = mb_u M113 9 (upd (M113 9) (M113 4 0).toNatClampNeg (vp_nar .boolean x5)) → (∀ v132 : Int32, v132 = ((M124 4 0) + (1 : Int32)) → (∀ M132 : mb_m, M132 = mb_u M124 4 (mb_c v132) → (K ((M132 4 0) - (1 : Int32)) M132))))))))))))) ∧ (r65 = 0 → K (0 : Int32) M65))
set_option maxHeartbeats 4000000 in
set_option maxRecDepth 100000 in
theorem wX8_book_64 {p : Program} {l : Launch} {e : Env} {s : State} {m : MethodId} {below : List Frame} {meth : Method} {c : Code} {args : Array Value} {D : va_G} {Y : Nat → ClassId} {A : Nat → Prop} {o : Nat} {a : Nat → Nat} {N : Nat} {K : Int32 → mb_m → Prop} (C : mb_Cx p s m meth c args cX8_book 7 (some .int) wsX8_book RX8 D Y A) : ∀ (M : mb_m) (x1 x2 x3 x4 x5 y0 y1 : Int32) (H : Heap) (locs : List Loc) (ls : Array Slot), PX8_book_64 N K  M x1 x2 x3 x4 x5 y0 y1 → va_P D vwCl (gw8 Y o a M) H → va_D A (gw8 Y o a M) → va_S A s.heap H locs → lv_has ls 7 [(0, .ref o), (1, .int x1), (2, .int x2), (3, .int x3), (4, .int x4), (5, .int x5)] → W p l e ({ frames := 1, cells := 0, slots := 0, locals := 23 } : Room) s m args below meth c H locs 0 0 (MQ below (va_Qi K (fun u t => mb_T D A (gw8 Y o a u) t) A) args s 0 0 A) (F0 m 64 ls [.int y0, .int y1, .ref o]) := by
  obtain ⟨hx, hb, hr, hml, hts, hown, hlocks, hA, hG⟩ := id C
  have hK := hG.1
  intro M x1 x2 x3 x4 x5 y0 y1 H locs ls hF hP hD hS hl
  refine lv_iconst (v := 1) hx hb dX8_book_64 (by decide) ?_
  refine mb_cW hD hS hA (va_runV (As := [.int y1, .int y0, .int (1 : Int32)]) (rest := []) ⟨hx, hb, hml, hown, hts⟩ (cnX8_goes l D Y N o a M _ y1 y0 (1 : Int32) _ hF) (cwV 3 hts gX8_book_X8_goes rfl rfl rfl (by decide +kernel) ⟨Nat.le_of_ble_eq_true rfl, Nat.le_of_ble_eq_true rfl⟩) (mb_preV hG hP hD 0 rfl rfl) rfl rfl hl.1 rfl (lv_room (Nat.le_of_ble_eq_true rfl)) dX8_book_65 ⟨Nat.le_of_ble_eq_true rfl, Nat.le_of_ble_eq_true rfl⟩) (fun r65 M65 H locs hF hP hD hS => ?_)
  refine lv_if_ne (tgt := 73) hx hb dX8_book_68 (by decide) (fun c_68 => ?_) (fun c_68 => ?_)
  · have hF := hF.1 c_68
    refine lv_aload_n hx hb dX8_book_73 rfl (lv_at hl 0 rfl) ?_
    refine va_get (D := D) (ci := 8) (v := .ref (a 5)) (C := RX8) (T := TX8) (N := 28) hx hb hts (fun _ h9 => List.mem_cons_of_mem _ (List.mem_append_right _ (h9))) hown hK hP 0 rfl rfl 5 (by decide) (hts (.fieldLink RX8 19 "MarbleBenchModel" "gatherings" "[I") (List.mem_of_getElem? (i := 2) rfl)) (fun _ h9 => h9) rfl dX8_book_74 ?_
    refine lv_aload_n hx hb dX8_book_77 rfl (lv_at hl 0 rfl) ?_
    refine va_get (D := D) (ci := 8) (v := .int (M65 4 0)) (C := RX8) (T := TX8) (N := 28) hx hb hts (fun _ h9 => List.mem_cons_of_mem _ (List.mem_append_right _ (h9))) hown hK hP 0 rfl rfl 4 (by decide) (hts (.fieldLink RX8 119 "MarbleBenchModel" "books" "I") (List.mem_of_getElem? (i := 1) rfl)) (fun _ h9 => h9) rfl dX8_book_78 ?_
    refine lv_iload_n hx hb dX8_book_81 rfl (lv_at hl 1 rfl) ?_
    obtain ⟨hi82, hF⟩ := hF
    refine va_iast hx hb hK hP hD hS 4 0 rfl rfl hi82 dX8_book_82 (fun H locs hP hD hS => ?_)
    obtain ⟨M82, eM82⟩ : ∃ y : mb_m, y = mb_u M65 5 (upd (M65 5) (M65 4 0).toNatClampNeg x1) := ⟨_, rfl⟩
    have hF := hF M82 eM82
    have hP : va_P D vwCl (gw8 Y o a (mb_u M65 5 (upd (M65 5) (M65 4 0).toNatClampNeg x1))) H := hP
    have hD : va_D A (gw8 Y o a (mb_u M65 5 (upd (M65 5) (M65 4 0).toNatClampNeg x1))) := hD
    rw [← eM82] at hP hD
    refine lv_aload_n hx hb dX8_book_83 rfl (lv_at hl 0 rfl) ?_
    refine va_get (D := D) (ci := 8) (v := .ref (a 6)) (C := RX8) (T := TX8) (N := 28) hx hb hts (fun _ h9 => List.mem_cons_of_mem _ (List.mem_append_right _ (h9))) hown hK hP 0 rfl rfl 6 (by decide) (hts (.fieldLink RX8 22 "MarbleBenchModel" "leaves" "[I") (List.mem_of_getElem? (i := 3) rfl)) (fun _ h9 => h9) rfl dX8_book_84 ?_
    refine lv_aload_n hx hb dX8_book_87 rfl (lv_at hl 0 rfl) ?_
    refine va_get (D := D) (ci := 8) (v := .int (M82 4 0)) (C := RX8) (T := TX8) (N := 28) hx hb hts (fun _ h9 => List.mem_cons_of_mem _ (List.mem_append_right _ (h9))) hown hK hP 0 rfl rfl 4 (by decide) (hts (.fieldLink RX8 119 "MarbleBenchModel" "books" "I") (List.mem_of_getElem? (i := 1) rfl)) (fun _ h9 => h9) rfl dX8_book_88 ?_
    refine lv_iload_n hx hb dX8_book_91 rfl (lv_at hl 2 rfl) ?_
    obtain ⟨hi92, hF⟩ := hF
    refine va_iast hx hb hK hP hD hS 5 0 rfl rfl hi92 dX8_book_92 (fun H locs hP hD hS => ?_)
    obtain ⟨M92, eM92⟩ : ∃ y : mb_m, y = mb_u M82 6 (upd (M82 6) (M82 4 0).toNatClampNeg x2) := ⟨_, rfl⟩
    have hF := hF M92 eM92
    have hP : va_P D vwCl (gw8 Y o a (mb_u M82 6 (upd (M82 6) (M82 4 0).toNatClampNeg x2))) H := hP
    have hD : va_D A (gw8 Y o a (mb_u M82 6 (upd (M82 6) (M82 4 0).toNatClampNeg x2))) := hD
    rw [← eM92] at hP hD
    refine lv_aload_n hx hb dX8_book_93 rfl (lv_at hl 0 rfl) ?_
    refine va_get (D := D) (ci := 8) (v := .ref (a 7)) (C := RX8) (T := TX8) (N := 28) hx hb hts (fun _ h9 => List.mem_cons_of_mem _ (List.mem_append_right _ (h9))) hown hK hP 0 rfl rfl 7 (by decide) (hts (.fieldLink RX8 25 "MarbleBenchModel" "stations" "[I") (List.mem_of_getElem? (i := 4) rfl)) (fun _ h9 => h9) rfl dX8_book_94 ?_
    refine lv_aload_n hx hb dX8_book_97 rfl (lv_at hl 0 rfl) ?_
    refine va_get (D := D) (ci := 8) (v := .int (M92 4 0)) (C := RX8) (T := TX8) (N := 28) hx hb hts (fun _ h9 => List.mem_cons_of_mem _ (List.mem_append_right _ (h9))) hown hK hP 0 rfl rfl 4 (by decide) (hts (.fieldLink RX8 119 "MarbleBenchModel" "books" "I") (List.mem_of_getElem? (i := 1) rfl)) (fun _ h9 => h9) rfl dX8_book_98 ?_
    refine lv_iload_n hx hb dX8_book_101 rfl (lv_at hl 3 rfl) ?_
    obtain ⟨hi102, hF⟩ := hF
    refine va_iast hx hb hK hP hD hS 6 0 rfl rfl hi102 dX8_book_102 (fun H locs hP hD hS => ?_)
    obtain ⟨M102, eM102⟩ : ∃ y : mb_m, y = mb_u M92 7 (upd (M92 7) (M92 4 0).toNatClampNeg x3) := ⟨_, rfl⟩
    have hF := hF M102 eM102
    have hP : va_P D vwCl (gw8 Y o a (mb_u M92 7 (upd (M92 7) (M92 4 0).toNatClampNeg x3))) H := hP
    have hD : va_D A (gw8 Y o a (mb_u M92 7 (upd (M92 7) (M92 4 0).toNatClampNeg x3))) := hD
    rw [← eM102] at hP hD
    refine lv_aload_n hx hb dX8_book_103 rfl (lv_at hl 0 rfl) ?_
    refine va_get (D := D) (ci := 8) (v := .ref (a 8)) (C := RX8) (T := TX8) (N := 28) hx hb hts (fun _ h9 => List.mem_cons_of_mem _ (List.mem_append_right _ (h9))) hown hK hP 0 rfl rfl 8 (by decide) (hts (.fieldLink RX8 28 "MarbleBenchModel" "thickness" "[I") (List.mem_of_getElem? (i := 5) rfl)) (fun _ h9 => h9) rfl dX8_book_104 ?_
    refine lv_aload_n hx hb dX8_book_107 rfl (lv_at hl 0 rfl) ?_
    refine va_get (D := D) (ci := 8) (v := .int (M102 4 0)) (C := RX8) (T := TX8) (N := 28) hx hb hts (fun _ h9 => List.mem_cons_of_mem _ (List.mem_append_right _ (h9))) hown hK hP 0 rfl rfl 4 (by decide) (hts (.fieldLink RX8 119 "MarbleBenchModel" "books" "I") (List.mem_of_getElem? (i := 1) rfl)) (fun _ h9 => h9) rfl dX8_book_108 ?_
    refine lv_iload hx hb dX8_book_111 (lv_at hl 4 rfl) ?_
    obtain ⟨hi113, hF⟩ := hF
    refine va_iast hx hb hK hP hD hS 7 0 rfl rfl hi113 dX8_book_113 (fun H locs hP hD hS => ?_)
    obtain ⟨M113, eM113⟩ : ∃ y : mb_m, y = mb_u M102 8 (upd (M102 8) (M102 4 0).toNatClampNeg x4) := ⟨_, rfl⟩
    have hF := hF M113 eM113
    have hP : va_P D vwCl (gw8 Y o a (mb_u M102 8 (upd (M102 8) (M102 4 0).toNatClampNeg x4))) H := hP
    have hD : va_D A (gw8 Y o a (mb_u M102 8 (upd (M102 8) (M102 4 0).toNatClampNeg x4))) := hD
    rw [← eM113] at hP hD
    refine lv_aload_n hx hb dX8_book_114 rfl (lv_at hl 0 rfl) ?_
    refine va_get (D := D) (ci := 8) (v := .ref (a 9)) (C := RX8) (T := TX8) (N := 28) hx hb hts (fun _ h9 => List.mem_cons_of_mem _ (List.mem_append_right _ (h9))) hown hK hP 0 rfl rfl 9 (by decide) (hts (.fieldLink RX8 31 "MarbleBenchModel" "isOld" "[Z") (List.mem_of_getElem? (i := 6) rfl)) (fun _ h9 => h9) rfl dX8_book_115 ?_
    refine lv_aload_n hx hb dX8_book_118 rfl (lv_at hl 0 rfl) ?_
    refine va_get (D := D) (ci := 8) (v := .int (M113 4 0)) (C := RX8) (T := TX8) (N := 28) hx hb hts (fun _ h9 => List.mem_cons_of_mem _ (List.mem_append_right _ (h9))) hown hK hP 0 rfl rfl 4 (by decide) (hts (.fieldLink RX8 119 "MarbleBenchModel" "books" "I") (List.mem_of_getElem? (i := 1) rfl)) (fun _ h9 => h9) rfl dX8_book_119 ?_
    refine lv_iload hx hb dX8_book_122 (lv_at hl 5 rfl) ?_
    obtain ⟨hi124, hF⟩ := hF
    refine va_zast hx hb hK hP hD hS 8 1 rfl rfl hi124 dX8_book_124 (fun H locs hP hD hS => ?_)
    obtain ⟨M124, eM124⟩ : ∃ y : mb_m, y = mb_u M113 9 (upd (M113 9) (M113 4 0).toNatClampNeg (vp_nar .boolean x5)) := ⟨_, rfl⟩
    have hF := hF M124 eM124
    have hP : va_P D vwCl (gw8 Y o a (mb_u M113 9 (upd (M113 9) (M113 4 0).toNatClampNeg (vp_nar .boolean x5)))) H := hP
    have hD : va_D A (gw8 Y o a (mb_u M113 9 (upd (M113 9) (M113 4 0).toNatClampNeg (vp_nar .boolean x5)))) := hD
    rw [← eM124] at hP hD
    refine lv_aload_n hx hb dX8_book_125 rfl (lv_at hl 0 rfl) ?_
    refine lv_dup hx hb dX8_book_126 rfl ?_
    refine va_get (D := D) (ci := 8) (v := .int (M124 4 0)) (C := RX8) (T := TX8) (N := 28) hx hb hts (fun _ h9 => List.mem_cons_of_mem _ (List.mem_append_right _ (h9))) hown hK hP 0 rfl rfl 4 (by decide) (hts (.fieldLink RX8 119 "MarbleBenchModel" "books" "I") (List.mem_of_getElem? (i := 1) rfl)) (fun _ h9 => h9) rfl dX8_book_127 ?_
    refine lv_iconst (v := 1) hx hb dX8_book_130 (by decide) ?_
    refine lv_iadd hx hb dX8_book_131 ?_
    refine lv_topi (fun v132 ev132 => ?_)
    have hF := hF v132 ev132
    refine va_put (D := D) (ci := 8) (v := .int v132) (ty := .int) (C := RX8) (T := TX8) (N := 28) hx hb hts (fun _ h9 => List.mem_cons_of_mem _ (List.mem_append_right _ (h9))) tyX8 tyX8_ok nmX8 hown hK hP hD hS 0 rfl rfl 4 (by decide) (hts (.fieldLink RX8 119 "MarbleBenchModel" "books" "I") (List.mem_of_getElem? (i := 1) rfl)) (fun _ h9 => h9) rfl (by decide +kernel) rfl rfl (Nat.le_of_ble_eq_true rfl) dX8_book_132 (fun H locs hP hD hS => ?_)
    obtain ⟨M132, eM132⟩ : ∃ y : mb_m, y = mb_u M124 4 (mb_c v132) := ⟨_, rfl⟩
    have hF := hF M132 eM132
    have hP : va_P D vwCl (gw8 Y o a (mb_u M124 4 (mb_c v132))) H := hP
    have hD : va_D A (gw8 Y o a (mb_u M124 4 (mb_c v132))) := hD
    rw [← eM132] at hP hD
    refine lv_aload_n hx hb dX8_book_135 rfl (lv_at hl 0 rfl) ?_
    refine va_get (D := D) (ci := 8) (v := .int (M132 4 0)) (C := RX8) (T := TX8) (N := 28) hx hb hts (fun _ h9 => List.mem_cons_of_mem _ (List.mem_append_right _ (h9))) hown hK hP 0 rfl rfl 4 (by decide) (hts (.fieldLink RX8 119 "MarbleBenchModel" "books" "I") (List.mem_of_getElem? (i := 1) rfl)) (fun _ h9 => h9) rfl dX8_book_136 ?_
    refine lv_iconst (v := 1) hx hb dX8_book_139 (by decide) ?_
    refine lv_isub hx hb dX8_book_140 ?_
    exact mb_ri (S := mb_m) (mc := 0) (ms := 0) (wf := fun u => gw8 Y o a u) C rfl (u := M132) hF hP hD hS dX8_book_141 (Nat.le_of_ble_eq_true rfl) (Nat.le_of_ble_eq_true rfl)
  · have hF := hF.2 c_68
    refine lv_iconst (v := 0) hx hb dX8_book_71 (by decide) ?_
    exact mb_ri (S := mb_m) (mc := 0) (ms := 0) (wf := fun u => gw8 Y o a u) C rfl (u := M65) hF hP hD hS dX8_book_72 (Nat.le_of_ble_eq_true rfl) (Nat.le_of_ble_eq_true rfl)
noncomputable def PX8_book_46 (N : Nat) (K : Int32 → mb_m → Prop) (M : mb_m) (x1 x2 x3 x4 x5 y0 : Int32) : Prop := ((4 : Int32) ≤ (M 4 0) → PX8_book_64 N K M x1 x2 x3 x4 x5 (0 : Int32) y0) ∧ (¬ (4 : Int32) ≤ (M 4 0) → PX8_book_64 N K M x1 x2 x3 x4 x5 (1 : Int32) y0)
set_option maxHeartbeats 4000000 in
set_option maxRecDepth 100000 in
theorem wX8_book_46 {p : Program} {l : Launch} {e : Env} {s : State} {m : MethodId} {below : List Frame} {meth : Method} {c : Code} {args : Array Value} {D : va_G} {Y : Nat → ClassId} {A : Nat → Prop} {o : Nat} {a : Nat → Nat} {N : Nat} {K : Int32 → mb_m → Prop} (C : mb_Cx p s m meth c args cX8_book 7 (some .int) wsX8_book RX8 D Y A) : ∀ (M : mb_m) (x1 x2 x3 x4 x5 y0 : Int32) (H : Heap) (locs : List Loc) (ls : Array Slot), PX8_book_46 N K  M x1 x2 x3 x4 x5 y0 → va_P D vwCl (gw8 Y o a M) H → va_D A (gw8 Y o a M) → va_S A s.heap H locs → lv_has ls 7 [(0, .ref o), (1, .int x1), (2, .int x2), (3, .int x3), (4, .int x4), (5, .int x5)] → W p l e ({ frames := 1, cells := 0, slots := 0, locals := 23 } : Room) s m args below meth c H locs 0 0 (MQ below (va_Qi K (fun u t => mb_T D A (gw8 Y o a u) t) A) args s 0 0 A) (F0 m 46 ls [.int y0]) := by
  obtain ⟨hx, hb, hr, hml, hts, hown, hlocks, hA, hG⟩ := id C
  have hK := hG.1
  intro M x1 x2 x3 x4 x5 y0 H locs ls hF hP hD hS hl
  refine lv_istore (lv' := [(6, .int y0), (0, .ref o), (1, .int x1), (2, .int x2), (3, .int x3), (4, .int x4), (5, .int x5)]) hx hb dX8_book_46 hl (by decide) rfl (fun ls hl => ?_)
  refine lv_aload_n hx hb dX8_book_48 rfl (lv_at hl 1 rfl) ?_
  refine lv_iload hx hb dX8_book_49 (lv_at hl 0 rfl) ?_
  refine lv_aload_n hx hb dX8_book_51 rfl (lv_at hl 1 rfl) ?_
  refine va_get (D := D) (ci := 8) (v := .int (M 4 0)) (C := RX8) (T := TX8) (N := 28) hx hb hts (fun _ h9 => List.mem_cons_of_mem _ (List.mem_append_right _ (h9))) hown hK hP 0 rfl rfl 4 (by decide) (hts (.fieldLink RX8 119 "MarbleBenchModel" "books" "I") (List.mem_of_getElem? (i := 1) rfl)) (fun _ h9 => h9) rfl dX8_book_52 ?_
  refine lv_iconst (v := 4) hx hb dX8_book_55 (by decide) ?_
  refine lv_icmp_ge (tgt := 63) hx hb dX8_book_56 (by decide) (fun c_56 => ?_) (fun c_56 => ?_)
  · have hF := hF.1 c_56
    refine lv_iconst (v := 0) hx hb dX8_book_63 (by decide) ?_
    exact wX8_book_64 C M x1 x2 x3 x4 x5 (0 : Int32) y0 _ _ _ hF hP hD hS (lv_sub hl [1, 2, 3, 4, 5, 6] rfl)
  · have hF := hF.2 c_56
    refine lv_iconst (v := 1) hx hb dX8_book_59 (by decide) ?_
    refine lv_goto (tgt := 64) hx hb dX8_book_60 (by decide) ?_
    exact wX8_book_64 C M x1 x2 x3 x4 x5 (1 : Int32) y0 _ _ _ hF hP hD hS (lv_sub hl [1, 2, 3, 4, 5, 6] rfl)
noncomputable def PX8_book_45 (N : Nat) (K : Int32 → mb_m → Prop) (M : mb_m) (x1 x2 x3 x4 x5 : Int32) : Prop := PX8_book_46 N K M x1 x2 x3 x4 x5 (0 : Int32)
set_option maxHeartbeats 4000000 in
set_option maxRecDepth 100000 in
theorem wX8_book_45 {p : Program} {l : Launch} {e : Env} {s : State} {m : MethodId} {below : List Frame} {meth : Method} {c : Code} {args : Array Value} {D : va_G} {Y : Nat → ClassId} {A : Nat → Prop} {o : Nat} {a : Nat → Nat} {N : Nat} {K : Int32 → mb_m → Prop} (C : mb_Cx p s m meth c args cX8_book 7 (some .int) wsX8_book RX8 D Y A) : ∀ (M : mb_m) (x1 x2 x3 x4 x5 : Int32) (H : Heap) (locs : List Loc) (ls : Array Slot), PX8_book_45 N K  M x1 x2 x3 x4 x5 → va_P D vwCl (gw8 Y o a M) H → va_D A (gw8 Y o a M) → va_S A s.heap H locs → lv_has ls 7 [(0, .ref o), (1, .int x1), (2, .int x2), (3, .int x3), (4, .int x4), (5, .int x5)] → W p l e ({ frames := 1, cells := 0, slots := 0, locals := 23 } : Room) s m args below meth c H locs 0 0 (MQ below (va_Qi K (fun u t => mb_T D A (gw8 Y o a u) t) A) args s 0 0 A) (F0 m 45 ls []) := by
  obtain ⟨hx, hb, hr, hml, hts, hown, hlocks, hA, hG⟩ := id C
  have hK := hG.1
  intro M x1 x2 x3 x4 x5 H locs ls hF hP hD hS hl
  refine lv_iconst (v := 0) hx hb dX8_book_45 (by decide) ?_
  exact wX8_book_46 C M x1 x2 x3 x4 x5 (0 : Int32) _ _ _ hF hP hD hS (lv_sub hl [0, 1, 2, 3, 4, 5] rfl)
noncomputable def PX8_book (N : Nat) (M : mb_m) (x1 x2 x3 x4 x5 : Int32) (K : Int32 → mb_m → Prop) : Prop := PX8_in N x1 (1 : Int32) (8 : Int32) (fun r4 _ => (r4 = 0 → PX8_book_45 N K M x1 x2 x3 x4 x5) ∧ (¬ r4 = 0 → PX8_in N x2 (2 : Int32) (16 : Int32) (fun r14 _ => (r14 = 0 → PX8_book_45 N K M x1 x2 x3 x4 x5) ∧ (¬ r14 = 0 → PX8_in N x3 (3 : Int32) (6 : Int32) (fun r24 _ => (r24 = 0 → PX8_book_45 N K M x1 x2 x3 x4 x5) ∧ (¬ r24 = 0 → PX8_in N x4 (1 : Int32) (9 : Int32) (fun r35 _ => (r35 = 0 → PX8_book_45 N K M x1 x2 x3 x4 x5) ∧ (¬ r35 = 0 → PX8_book_46 N K M x1 x2 x3 x4 x5 (1 : Int32)))))))))
set_option maxHeartbeats 4000000 in
set_option maxRecDepth 100000 in
theorem cnX8_book (l : Launch) (D : va_G) (Y : Nat → ClassId) (N : Nat) (o : Nat) (a : Nat → Nat) (M : mb_m) (sz : Nat) (x1 x2 x3 x4 x5 : Int32) (K : Int32 → mb_m → Prop) (hF : PX8_book N M x1 x2 x3 x4 x5 K) : Met l yX8_book wsX8_book ({ frames := 1, cells := 0, slots := 0, locals := 23 } : Room) (va_Pc [.ref o, .int x1, .int x2, .int x3, .int x4, .int x5] (mb_B D Y (gw8 Y o a M) sz)) (va_Qi K (fun u t => mb_T D (va_A (gw8 Y o a M) sz) (gw8 Y o a u) t) (va_A (gw8 Y o a M) sz)) 0 0 (va_A (gw8 Y o a M) sz) := by
  refine mb_begin (cc := cX8_book) (maxL := 7) (ret := (some .int)) (by decide +kernel) rfl (Nat.le_of_ble_eq_true rfl) ?_
  intro p e s m below meth c ls C hsz hnm hP hD hl
  generalize hAe : va_A (gw8 Y o a M) sz = A at C hD ⊢
  have C : mb_Cx p s m meth c ([.ref o, .int x1, .int x2, .int x3, .int x4, .int x5] : List Value).toArray cX8_book 7 (some .int) wsX8_book RX8 D Y A := C
  obtain ⟨hx, hb, hr, hml, hts, hown, hlocks, hA, hG⟩ := id C
  have hK := hG.1
  have hS : va_S A s.heap s.heap [] := va_S.rf
  have hl : lv_has ls 7 [(0, .ref o), (1, .int x1), (2, .int x2), (3, .int x3), (4, .int x4), (5, .int x5)] := hl
  refine lv_iload_n hx hb dX8_book_0 rfl (lv_at hl 1 rfl) ?_
  refine lv_iconst (v := 1) hx hb dX8_book_1 (by decide) ?_
  refine lv_bipush (v := 8) hx hb dX8_book_2 (by decide) ?_
  refine mb_cE hP hS hA (va_runS (As := [.int x1, .int (1 : Int32), .int (8 : Int32)]) (rest := []) ⟨hx, hb, hml, hown, hts⟩ (cnX8_in l D Y N _ x1 (1 : Int32) (8 : Int32) _ hF) (va_cwS 3 hts gX8_book_X8_in rfl rfl rfl (by decide +kernel) ⟨Nat.le_of_ble_eq_true rfl, Nat.le_of_ble_eq_true rfl⟩) (mb_preS (A := A) hG mb_P0 mb_D0) rfl rfl hl.1 rfl (lv_room (Nat.le_of_ble_eq_true rfl)) dX8_book_4 ⟨Nat.le_of_ble_eq_true rfl, Nat.le_of_ble_eq_true rfl⟩) (fun r4 H locs hF hP hS => ?_)
  refine lv_if_eq (tgt := 45) hx hb dX8_book_7 (by decide) (fun c_7 => ?_) (fun c_7 => ?_)
  · have hF := hF.1 c_7
    exact wX8_book_45 C M x1 x2 x3 x4 x5 _ _ _ hF hP hD hS (lv_sub hl [0, 1, 2, 3, 4, 5] rfl)
  · have hF := hF.2 c_7
    refine lv_iload_n hx hb dX8_book_10 rfl (lv_at hl 2 rfl) ?_
    refine lv_iconst (v := 2) hx hb dX8_book_11 (by decide) ?_
    refine lv_bipush (v := 16) hx hb dX8_book_12 (by decide) ?_
    refine mb_cE hP hS hA (va_runS (As := [.int x2, .int (2 : Int32), .int (16 : Int32)]) (rest := []) ⟨hx, hb, hml, hown, hts⟩ (cnX8_in l D Y N _ x2 (2 : Int32) (16 : Int32) _ hF) (va_cwS 3 hts gX8_book_X8_in rfl rfl rfl (by decide +kernel) ⟨Nat.le_of_ble_eq_true rfl, Nat.le_of_ble_eq_true rfl⟩) (mb_preS (A := A) hG mb_P0 mb_D0) rfl rfl hl.1 rfl (lv_room (Nat.le_of_ble_eq_true rfl)) dX8_book_14 ⟨Nat.le_of_ble_eq_true rfl, Nat.le_of_ble_eq_true rfl⟩) (fun r14 H locs hF hP hS => ?_)
    refine lv_if_eq (tgt := 45) hx hb dX8_book_17 (by decide) (fun c_17 => ?_) (fun c_17 => ?_)
    · have hF := hF.1 c_17
      exact wX8_book_45 C M x1 x2 x3 x4 x5 _ _ _ hF hP hD hS (lv_sub hl [0, 1, 2, 3, 4, 5] rfl)
    · have hF := hF.2 c_17
      refine lv_iload_n hx hb dX8_book_20 rfl (lv_at hl 3 rfl) ?_
      refine lv_iconst (v := 3) hx hb dX8_book_21 (by decide) ?_
      refine lv_bipush (v := 6) hx hb dX8_book_22 (by decide) ?_
      refine mb_cE hP hS hA (va_runS (As := [.int x3, .int (3 : Int32), .int (6 : Int32)]) (rest := []) ⟨hx, hb, hml, hown, hts⟩ (cnX8_in l D Y N _ x3 (3 : Int32) (6 : Int32) _ hF) (va_cwS 3 hts gX8_book_X8_in rfl rfl rfl (by decide +kernel) ⟨Nat.le_of_ble_eq_true rfl, Nat.le_of_ble_eq_true rfl⟩) (mb_preS (A := A) hG mb_P0 mb_D0) rfl rfl hl.1 rfl (lv_room (Nat.le_of_ble_eq_true rfl)) dX8_book_24 ⟨Nat.le_of_ble_eq_true rfl, Nat.le_of_ble_eq_true rfl⟩) (fun r24 H locs hF hP hS => ?_)
      refine lv_if_eq (tgt := 45) hx hb dX8_book_27 (by decide) (fun c_27 => ?_) (fun c_27 => ?_)
      · have hF := hF.1 c_27
        exact wX8_book_45 C M x1 x2 x3 x4 x5 _ _ _ hF hP hD hS (lv_sub hl [0, 1, 2, 3, 4, 5] rfl)
      · have hF := hF.2 c_27
        refine lv_iload hx hb dX8_book_30 (lv_at hl 4 rfl) ?_
        refine lv_iconst (v := 1) hx hb dX8_book_32 (by decide) ?_
        refine lv_bipush (v := 9) hx hb dX8_book_33 (by decide) ?_
        refine mb_cE hP hS hA (va_runS (As := [.int x4, .int (1 : Int32), .int (9 : Int32)]) (rest := []) ⟨hx, hb, hml, hown, hts⟩ (cnX8_in l D Y N _ x4 (1 : Int32) (9 : Int32) _ hF) (va_cwS 3 hts gX8_book_X8_in rfl rfl rfl (by decide +kernel) ⟨Nat.le_of_ble_eq_true rfl, Nat.le_of_ble_eq_true rfl⟩) (mb_preS (A := A) hG mb_P0 mb_D0) rfl rfl hl.1 rfl (lv_room (Nat.le_of_ble_eq_true rfl)) dX8_book_35 ⟨Nat.le_of_ble_eq_true rfl, Nat.le_of_ble_eq_true rfl⟩) (fun r35 H locs hF hP hS => ?_)
        refine lv_if_eq (tgt := 45) hx hb dX8_book_38 (by decide) (fun c_38 => ?_) (fun c_38 => ?_)
        · have hF := hF.1 c_38
          exact wX8_book_45 C M x1 x2 x3 x4 x5 _ _ _ hF hP hD hS (lv_sub hl [0, 1, 2, 3, 4, 5] rfl)
        · have hF := hF.2 c_38
          refine lv_iconst (v := 1) hx hb dX8_book_41 (by decide) ?_
          refine lv_goto (tgt := 46) hx hb dX8_book_42 (by decide) ?_
          exact wX8_book_46 C M x1 x2 x3 x4 x5 (1 : Int32) _ _ _ hF hP hD hS (lv_sub hl [0, 1, 2, 3, 4, 5] rfl)
end
section
noncomputable def PX8_lays_47 (N : Nat) (K : mb_m → Prop) (M : mb_m) (y0 y1 y2 : Int32) : Prop := ∀ v48 : Int32, v48 = (y1 + y0) → (vp_in y2 40 ∧ (∀ M48 : mb_m, M48 = mb_u M 13 (upd (M 13) y2.toNatClampNeg v48) → (K M48)))
set_option maxHeartbeats 4000000 in
set_option maxRecDepth 100000 in
theorem wX8_lays_47 {p : Program} {l : Launch} {e : Env} {s : State} {m : MethodId} {below : List Frame} {meth : Method} {c : Code} {args : Array Value} {D : va_G} {Y : Nat → ClassId} {A : Nat → Prop} {o : Nat} {a : Nat → Nat} {N : Nat} {K : mb_m → Prop} (C : mb_Cx p s m meth c args cX8_lays 3 none wsX8_lays RX8 D Y A) : ∀ (M : mb_m) (y0 y1 y2 : Int32) (H : Heap) (locs : List Loc) (ls : Array Slot), PX8_lays_47 N K  M y0 y1 y2 → va_P D vwCl (gw8 Y o a M) H → va_D A (gw8 Y o a M) → va_S A s.heap H locs → lv_has ls 3 [] → W p l e ({ frames := 0, cells := 0, slots := 0, locals := 0 } : Room) s m args below meth c H locs 0 0 (MQ below (va_Qv K (fun u t => mb_T D A (gw8 Y o a u) t) A) args s 0 0 A) (F0 m 47 ls [.int y0, .int y1, .int y2, .ref (a 13)]) := by
  obtain ⟨hx, hb, hr, hml, hts, hown, hlocks, hA, hG⟩ := id C
  have hK := hG.1
  intro M y0 y1 y2 H locs ls hF hP hD hS hl
  refine lv_iadd hx hb dX8_lays_47 ?_
  refine lv_topi (fun v48 ev48 => ?_)
  have hF := hF v48 ev48
  obtain ⟨hi48, hF⟩ := hF
  refine va_iast hx hb hK hP hD hS 12 0 rfl rfl hi48 dX8_lays_48 (fun H locs hP hD hS => ?_)
  obtain ⟨M48, eM48⟩ : ∃ y : mb_m, y = mb_u M 13 (upd (M 13) y2.toNatClampNeg v48) := ⟨_, rfl⟩
  have hF := hF M48 eM48
  have hP : va_P D vwCl (gw8 Y o a (mb_u M 13 (upd (M 13) y2.toNatClampNeg v48))) H := hP
  have hD : va_D A (gw8 Y o a (mb_u M 13 (upd (M 13) y2.toNatClampNeg v48))) := hD
  rw [← eM48] at hP hD
  exact mb_rv (S := mb_m) (mc := 0) (ms := 0) (wf := fun u => gw8 Y o a u) C (u := M48) hF hP hD hS dX8_lays_49 (Nat.le_of_ble_eq_true rfl) (Nat.le_of_ble_eq_true rfl)
noncomputable def PX8_lays (N : Nat) (M : mb_m) (x1 x2 : Int32) (K : mb_m → Prop) : Prop := ∀ v7 : Int32, v7 = ((M 17 0) + x1) → (∀ M7 : mb_m, M7 = mb_u M 17 (mb_c v7) → (∀ v18 : Int32, v18 = ((M7 15 0) + (10 : Int32)) → (∀ M18 : mb_m, M18 = mb_u M7 15 (mb_c v18) → (vp_in (((5 : Int32) * (M18 16 0)) + x2) 40 ∧ (((M18 18 0) = 0 → PX8_lays_47 N K M18 (0 : Int32) (M18 13 (((5 : Int32) * (M18 16 0)) + x2).toNatClampNeg) (((5 : Int32) * (M18 16 0)) + x2)) ∧ (¬ (M18 18 0) = 0 → PX8_lays_47 N K M18 (1 : Int32) (M18 13 (((5 : Int32) * (M18 16 0)) + x2).toNatClampNeg) (((5 : Int32) * (M18 16 0)) + x2)))))))
set_option maxHeartbeats 4000000 in
set_option maxRecDepth 100000 in
theorem cnX8_lays (l : Launch) (D : va_G) (Y : Nat → ClassId) (N : Nat) (o : Nat) (a : Nat → Nat) (M : mb_m) (sz : Nat) (x1 x2 : Int32) (K : mb_m → Prop) (hF : PX8_lays N M x1 x2 K) : Met l yX8_lays wsX8_lays ({ frames := 0, cells := 0, slots := 0, locals := 0 } : Room) (va_Pc [.ref o, .int x1, .int x2] (mb_B D Y (gw8 Y o a M) sz)) (va_Qv K (fun u t => mb_T D (va_A (gw8 Y o a M) sz) (gw8 Y o a u) t) (va_A (gw8 Y o a M) sz)) 0 0 (va_A (gw8 Y o a M) sz) := by
  refine mb_begin (cc := cX8_lays) (maxL := 3) (ret := none) (by decide +kernel) rfl (Nat.le_of_ble_eq_true rfl) ?_
  intro p e s m below meth c ls C hsz hnm hP hD hl
  generalize hAe : va_A (gw8 Y o a M) sz = A at C hD ⊢
  have C : mb_Cx p s m meth c ([.ref o, .int x1, .int x2] : List Value).toArray cX8_lays 3 none wsX8_lays RX8 D Y A := C
  obtain ⟨hx, hb, hr, hml, hts, hown, hlocks, hA, hG⟩ := id C
  have hK := hG.1
  have hS : va_S A s.heap s.heap [] := va_S.rf
  have hl : lv_has ls 3 [(0, .ref o), (1, .int x1), (2, .int x2)] := hl
  refine lv_aload_n hx hb dX8_lays_0 rfl (lv_at hl 0 rfl) ?_
  refine lv_dup hx hb dX8_lays_1 rfl ?_
  refine va_get (D := D) (ci := 8) (v := .int (M 17 0)) (C := RX8) (T := TX8) (N := 28) hx hb hts (fun _ h9 => List.mem_cons_of_mem _ (List.mem_append_right _ (h9))) hown hK hP 0 rfl rfl 17 (by decide) (hts (.fieldLink RX8 122 "MarbleBenchModel" "station" "I") (List.mem_of_getElem? (i := 1) rfl)) (fun _ h9 => h9) rfl dX8_lays_2 ?_
  refine lv_iload_n hx hb dX8_lays_5 rfl (lv_at hl 1 rfl) ?_
  refine lv_iadd hx hb dX8_lays_6 ?_
  refine lv_topi (fun v7 ev7 => ?_)
  have hF := hF v7 ev7
  refine va_put (D := D) (ci := 8) (v := .int v7) (ty := .int) (C := RX8) (T := TX8) (N := 28) hx hb hts (fun _ h9 => List.mem_cons_of_mem _ (List.mem_append_right _ (h9))) tyX8 tyX8_ok nmX8 hown hK hP hD hS 0 rfl rfl 17 (by decide) (hts (.fieldLink RX8 122 "MarbleBenchModel" "station" "I") (List.mem_of_getElem? (i := 1) rfl)) (fun _ h9 => h9) rfl (by decide +kernel) rfl rfl (Nat.le_of_ble_eq_true rfl) dX8_lays_7 (fun H locs hP hD hS => ?_)
  obtain ⟨M7, eM7⟩ : ∃ y : mb_m, y = mb_u M 17 (mb_c v7) := ⟨_, rfl⟩
  have hF := hF M7 eM7
  have hP : va_P D vwCl (gw8 Y o a (mb_u M 17 (mb_c v7))) H := hP
  have hD : va_D A (gw8 Y o a (mb_u M 17 (mb_c v7))) := hD
  rw [← eM7] at hP hD
  refine lv_aload_n hx hb dX8_lays_10 rfl (lv_at hl 0 rfl) ?_
  refine lv_dup hx hb dX8_lays_11 rfl ?_
  refine va_get (D := D) (ci := 8) (v := .int (M7 15 0)) (C := RX8) (T := TX8) (N := 28) hx hb hts (fun _ h9 => List.mem_cons_of_mem _ (List.mem_append_right _ (h9))) hown hK hP 0 rfl rfl 15 (by decide) (hts (.fieldLink RX8 125 "MarbleBenchModel" "length" "I") (List.mem_of_getElem? (i := 2) rfl)) (fun _ h9 => h9) rfl dX8_lays_12 ?_
  refine lv_bipush (v := 10) hx hb dX8_lays_15 (by decide) ?_
  refine lv_iadd hx hb dX8_lays_17 ?_
  refine lv_topi (fun v18 ev18 => ?_)
  have hF := hF v18 ev18
  refine va_put (D := D) (ci := 8) (v := .int v18) (ty := .int) (C := RX8) (T := TX8) (N := 28) hx hb hts (fun _ h9 => List.mem_cons_of_mem _ (List.mem_append_right _ (h9))) tyX8 tyX8_ok nmX8 hown hK hP hD hS 0 rfl rfl 15 (by decide) (hts (.fieldLink RX8 125 "MarbleBenchModel" "length" "I") (List.mem_of_getElem? (i := 2) rfl)) (fun _ h9 => h9) rfl (by decide +kernel) rfl rfl (Nat.le_of_ble_eq_true rfl) dX8_lays_18 (fun H locs hP hD hS => ?_)
  obtain ⟨M18, eM18⟩ : ∃ y : mb_m, y = mb_u M7 15 (mb_c v18) := ⟨_, rfl⟩
  have hF := hF M18 eM18
  have hP : va_P D vwCl (gw8 Y o a (mb_u M7 15 (mb_c v18))) H := hP
  have hD : va_D A (gw8 Y o a (mb_u M7 15 (mb_c v18))) := hD
  rw [← eM18] at hP hD
  refine lv_aload_n hx hb dX8_lays_21 rfl (lv_at hl 0 rfl) ?_
  refine va_get (D := D) (ci := 8) (v := .ref (a 13)) (C := RX8) (T := TX8) (N := 28) hx hb hts (fun _ h9 => List.mem_cons_of_mem _ (List.mem_append_right _ (h9))) hown hK hP 0 rfl rfl 13 (by decide) (hts (.fieldLink RX8 44 "MarbleBenchModel" "stitch" "[I") (List.mem_of_getElem? (i := 3) rfl)) (fun _ h9 => h9) rfl dX8_lays_22 ?_
  refine lv_iconst (v := 5) hx hb dX8_lays_25 (by decide) ?_
  refine lv_aload_n hx hb dX8_lays_26 rfl (lv_at hl 0 rfl) ?_
  refine va_get (D := D) (ci := 8) (v := .int (M18 16 0)) (C := RX8) (T := TX8) (N := 28) hx hb hts (fun _ h9 => List.mem_cons_of_mem _ (List.mem_append_right _ (h9))) hown hK hP 0 rfl rfl 16 (by decide) (hts (.fieldLink RX8 128 "MarbleBenchModel" "gathering" "I") (List.mem_of_getElem? (i := 4) rfl)) (fun _ h9 => h9) rfl dX8_lays_27 ?_
  refine lv_imul hx hb dX8_lays_30 ?_
  refine lv_iload_n hx hb dX8_lays_31 rfl (lv_at hl 2 rfl) ?_
  refine lv_iadd hx hb dX8_lays_32 ?_
  refine lv_dup2_11 hx hb dX8_lays_33 rfl rfl ?_
  obtain ⟨hi34, hF⟩ := hF
  refine va_iald hx hb hK hP 12 0 rfl rfl hi34 dX8_lays_34 ?_
  refine lv_aload_n hx hb dX8_lays_35 rfl (lv_at hl 0 rfl) ?_
  refine va_get (D := D) (ci := 8) (v := .int (M18 18 0)) (C := RX8) (T := TX8) (N := 28) hx hb hts (fun _ h9 => List.mem_cons_of_mem _ (List.mem_append_right _ (h9))) hown hK hP 0 rfl rfl 18 (by decide) (hts (.fieldLink RX8 131 "MarbleBenchModel" "isInside" "Z") (List.mem_of_getElem? (i := 5) rfl)) (fun _ h9 => h9) rfl dX8_lays_36 ?_
  refine lv_if_eq (tgt := 46) hx hb dX8_lays_39 (by decide) (fun c_39 => ?_) (fun c_39 => ?_)
  · have hF := hF.1 c_39
    refine lv_iconst (v := 0) hx hb dX8_lays_46 (by decide) ?_
    exact wX8_lays_47 C M18 (0 : Int32) (M18 13 (((5 : Int32) * (M18 16 0)) + x2).toNatClampNeg) (((5 : Int32) * (M18 16 0)) + x2) _ _ _ hF hP hD hS (lv_sub hl [] rfl)
  · have hF := hF.2 c_39
    refine lv_iconst (v := 1) hx hb dX8_lays_42 (by decide) ?_
    refine lv_goto (tgt := 47) hx hb dX8_lays_43 (by decide) ?_
    exact wX8_lays_47 C M18 (1 : Int32) (M18 13 (((5 : Int32) * (M18 16 0)) + x2).toNatClampNeg) (((5 : Int32) * (M18 16 0)) + x2) _ _ _ hF hP hD hS (lv_sub hl [] rfl)
end
section
noncomputable def PX8_links_21 (N : Nat) (K : mb_m → Prop) (M : mb_m) (x1 y0 : Int32) : Prop := vp_in y0 8 ∧ (∀ M22 : mb_m, M22 = mb_u M 14 (upd (M 14) y0.toNatClampNeg (vp_nar .boolean (1 : Int32))) → (∀ v30 : Int32, v30 = ((M22 16 0) + x1) → (∀ M30 : mb_m, M30 = mb_u M22 16 (mb_c v30) → (∀ v40 : Int32, v40 = ((M30 15 0) + (4 : Int32)) → (∀ M40 : mb_m, M40 = mb_u M30 15 (mb_c v40) → (K M40))))))
set_option maxHeartbeats 4000000 in
set_option maxRecDepth 100000 in
theorem wX8_links_21 {p : Program} {l : Launch} {e : Env} {s : State} {m : MethodId} {below : List Frame} {meth : Method} {c : Code} {args : Array Value} {D : va_G} {Y : Nat → ClassId} {A : Nat → Prop} {o : Nat} {a : Nat → Nat} {N : Nat} {K : mb_m → Prop} (C : mb_Cx p s m meth c args cX8_links 2 none wsX8_links RX8 D Y A) : ∀ (M : mb_m) (x1 y0 : Int32) (H : Heap) (locs : List Loc) (ls : Array Slot), PX8_links_21 N K  M x1 y0 → va_P D vwCl (gw8 Y o a M) H → va_D A (gw8 Y o a M) → va_S A s.heap H locs → lv_has ls 2 [(0, .ref o), (1, .int x1)] → W p l e ({ frames := 0, cells := 0, slots := 0, locals := 0 } : Room) s m args below meth c H locs 0 0 (MQ below (va_Qv K (fun u t => mb_T D A (gw8 Y o a u) t) A) args s 0 0 A) (F0 m 21 ls [.int y0, .ref (a 14)]) := by
  obtain ⟨hx, hb, hr, hml, hts, hown, hlocks, hA, hG⟩ := id C
  have hK := hG.1
  intro M x1 y0 H locs ls hF hP hD hS hl
  refine lv_iconst (v := 1) hx hb dX8_links_21 (by decide) ?_
  obtain ⟨hi22, hF⟩ := hF
  refine va_zast hx hb hK hP hD hS 13 1 rfl rfl hi22 dX8_links_22 (fun H locs hP hD hS => ?_)
  obtain ⟨M22, eM22⟩ : ∃ y : mb_m, y = mb_u M 14 (upd (M 14) y0.toNatClampNeg (vp_nar .boolean (1 : Int32))) := ⟨_, rfl⟩
  have hF := hF M22 eM22
  have hP : va_P D vwCl (gw8 Y o a (mb_u M 14 (upd (M 14) y0.toNatClampNeg (vp_nar .boolean (1 : Int32))))) H := hP
  have hD : va_D A (gw8 Y o a (mb_u M 14 (upd (M 14) y0.toNatClampNeg (vp_nar .boolean (1 : Int32))))) := hD
  rw [← eM22] at hP hD
  refine lv_aload_n hx hb dX8_links_23 rfl (lv_at hl 0 rfl) ?_
  refine lv_dup hx hb dX8_links_24 rfl ?_
  refine va_get (D := D) (ci := 8) (v := .int (M22 16 0)) (C := RX8) (T := TX8) (N := 28) hx hb hts (fun _ h9 => List.mem_cons_of_mem _ (List.mem_append_right _ (h9))) hown hK hP 0 rfl rfl 16 (by decide) (hts (.fieldLink RX8 128 "MarbleBenchModel" "gathering" "I") (List.mem_of_getElem? (i := 2) rfl)) (fun _ h9 => h9) rfl dX8_links_25 ?_
  refine lv_iload_n hx hb dX8_links_28 rfl (lv_at hl 1 rfl) ?_
  refine lv_iadd hx hb dX8_links_29 ?_
  refine lv_topi (fun v30 ev30 => ?_)
  have hF := hF v30 ev30
  refine va_put (D := D) (ci := 8) (v := .int v30) (ty := .int) (C := RX8) (T := TX8) (N := 28) hx hb hts (fun _ h9 => List.mem_cons_of_mem _ (List.mem_append_right _ (h9))) tyX8 tyX8_ok nmX8 hown hK hP hD hS 0 rfl rfl 16 (by decide) (hts (.fieldLink RX8 128 "MarbleBenchModel" "gathering" "I") (List.mem_of_getElem? (i := 2) rfl)) (fun _ h9 => h9) rfl (by decide +kernel) rfl rfl (Nat.le_of_ble_eq_true rfl) dX8_links_30 (fun H locs hP hD hS => ?_)
  obtain ⟨M30, eM30⟩ : ∃ y : mb_m, y = mb_u M22 16 (mb_c v30) := ⟨_, rfl⟩
  have hF := hF M30 eM30
  have hP : va_P D vwCl (gw8 Y o a (mb_u M22 16 (mb_c v30))) H := hP
  have hD : va_D A (gw8 Y o a (mb_u M22 16 (mb_c v30))) := hD
  rw [← eM30] at hP hD
  refine lv_aload_n hx hb dX8_links_33 rfl (lv_at hl 0 rfl) ?_
  refine lv_dup hx hb dX8_links_34 rfl ?_
  refine va_get (D := D) (ci := 8) (v := .int (M30 15 0)) (C := RX8) (T := TX8) (N := 28) hx hb hts (fun _ h9 => List.mem_cons_of_mem _ (List.mem_append_right _ (h9))) hown hK hP 0 rfl rfl 15 (by decide) (hts (.fieldLink RX8 125 "MarbleBenchModel" "length" "I") (List.mem_of_getElem? (i := 3) rfl)) (fun _ h9 => h9) rfl dX8_links_35 ?_
  refine lv_iconst (v := 4) hx hb dX8_links_38 (by decide) ?_
  refine lv_iadd hx hb dX8_links_39 ?_
  refine lv_topi (fun v40 ev40 => ?_)
  have hF := hF v40 ev40
  refine va_put (D := D) (ci := 8) (v := .int v40) (ty := .int) (C := RX8) (T := TX8) (N := 28) hx hb hts (fun _ h9 => List.mem_cons_of_mem _ (List.mem_append_right _ (h9))) tyX8 tyX8_ok nmX8 hown hK hP hD hS 0 rfl rfl 15 (by decide) (hts (.fieldLink RX8 125 "MarbleBenchModel" "length" "I") (List.mem_of_getElem? (i := 3) rfl)) (fun _ h9 => h9) rfl (by decide +kernel) rfl rfl (Nat.le_of_ble_eq_true rfl) dX8_links_40 (fun H locs hP hD hS => ?_)
  obtain ⟨M40, eM40⟩ : ∃ y : mb_m, y = mb_u M30 15 (mb_c v40) := ⟨_, rfl⟩
  have hF := hF M40 eM40
  have hP : va_P D vwCl (gw8 Y o a (mb_u M30 15 (mb_c v40))) H := hP
  have hD : va_D A (gw8 Y o a (mb_u M30 15 (mb_c v40))) := hD
  rw [← eM40] at hP hD
  exact mb_rv (S := mb_m) (mc := 0) (ms := 0) (wf := fun u => gw8 Y o a u) C (u := M40) hF hP hD hS dX8_links_43 (Nat.le_of_ble_eq_true rfl) (Nat.le_of_ble_eq_true rfl)
noncomputable def PX8_links (N : Nat) (M : mb_m) (x1 : Int32) (K : mb_m → Prop) : Prop := (x1 ≤ 0 → PX8_links_21 N K M x1 ((M 16 0) - (1 : Int32))) ∧ (¬ x1 ≤ 0 → PX8_links_21 N K M x1 (M 16 0))
set_option maxHeartbeats 4000000 in
set_option maxRecDepth 100000 in
theorem cnX8_links (l : Launch) (D : va_G) (Y : Nat → ClassId) (N : Nat) (o : Nat) (a : Nat → Nat) (M : mb_m) (sz : Nat) (x1 : Int32) (K : mb_m → Prop) (hF : PX8_links N M x1 K) : Met l yX8_links wsX8_links ({ frames := 0, cells := 0, slots := 0, locals := 0 } : Room) (va_Pc [.ref o, .int x1] (mb_B D Y (gw8 Y o a M) sz)) (va_Qv K (fun u t => mb_T D (va_A (gw8 Y o a M) sz) (gw8 Y o a u) t) (va_A (gw8 Y o a M) sz)) 0 0 (va_A (gw8 Y o a M) sz) := by
  refine mb_begin (cc := cX8_links) (maxL := 2) (ret := none) (by decide +kernel) rfl (Nat.le_of_ble_eq_true rfl) ?_
  intro p e s m below meth c ls C hsz hnm hP hD hl
  generalize hAe : va_A (gw8 Y o a M) sz = A at C hD ⊢
  have C : mb_Cx p s m meth c ([.ref o, .int x1] : List Value).toArray cX8_links 2 none wsX8_links RX8 D Y A := C
  obtain ⟨hx, hb, hr, hml, hts, hown, hlocks, hA, hG⟩ := id C
  have hK := hG.1
  have hS : va_S A s.heap s.heap [] := va_S.rf
  have hl : lv_has ls 2 [(0, .ref o), (1, .int x1)] := hl
  refine lv_aload_n hx hb dX8_links_0 rfl (lv_at hl 0 rfl) ?_
  refine va_get (D := D) (ci := 8) (v := .ref (a 14)) (C := RX8) (T := TX8) (N := 28) hx hb hts (fun _ h9 => List.mem_cons_of_mem _ (List.mem_append_right _ (h9))) hown hK hP 0 rfl rfl 14 (by decide) (hts (.fieldLink RX8 47 "MarbleBenchModel" "isLinked" "[Z") (List.mem_of_getElem? (i := 1) rfl)) (fun _ h9 => h9) rfl dX8_links_1 ?_
  refine lv_iload_n hx hb dX8_links_4 rfl (lv_at hl 1 rfl) ?_
  refine lv_if_le (tgt := 15) hx hb dX8_links_5 (by decide) (fun c_5 => ?_) (fun c_5 => ?_)
  · have hF := hF.1 c_5
    refine lv_aload_n hx hb dX8_links_15 rfl (lv_at hl 0 rfl) ?_
    refine va_get (D := D) (ci := 8) (v := .int (M 16 0)) (C := RX8) (T := TX8) (N := 28) hx hb hts (fun _ h9 => List.mem_cons_of_mem _ (List.mem_append_right _ (h9))) hown hK hP 0 rfl rfl 16 (by decide) (hts (.fieldLink RX8 128 "MarbleBenchModel" "gathering" "I") (List.mem_of_getElem? (i := 2) rfl)) (fun _ h9 => h9) rfl dX8_links_16 ?_
    refine lv_iconst (v := 1) hx hb dX8_links_19 (by decide) ?_
    refine lv_isub hx hb dX8_links_20 ?_
    exact wX8_links_21 C M x1 ((M 16 0) - (1 : Int32)) _ _ _ hF hP hD hS (lv_sub hl [0, 1] rfl)
  · have hF := hF.2 c_5
    refine lv_aload_n hx hb dX8_links_8 rfl (lv_at hl 0 rfl) ?_
    refine va_get (D := D) (ci := 8) (v := .int (M 16 0)) (C := RX8) (T := TX8) (N := 28) hx hb hts (fun _ h9 => List.mem_cons_of_mem _ (List.mem_append_right _ (h9))) hown hK hP 0 rfl rfl 16 (by decide) (hts (.fieldLink RX8 128 "MarbleBenchModel" "gathering" "I") (List.mem_of_getElem? (i := 2) rfl)) (fun _ h9 => h9) rfl dX8_links_9 ?_
    refine lv_goto (tgt := 21) hx hb dX8_links_12 (by decide) ?_
    exact wX8_links_21 C M x1 (M 16 0) _ _ _ hF hP hD hS (lv_sub hl [0, 1] rfl)
end
section
noncomputable def PX8_moves_45 (N : Nat) (K : mb_m → Prop) (M : mb_m) (y0 : Int32) : Prop := mb_isB y0 ∧ (∀ M45 : mb_m, M45 = mb_u M 18 (mb_c y0) → (K M45))
set_option maxHeartbeats 4000000 in
set_option maxRecDepth 100000 in
theorem wX8_moves_45 {p : Program} {l : Launch} {e : Env} {s : State} {m : MethodId} {below : List Frame} {meth : Method} {c : Code} {args : Array Value} {D : va_G} {Y : Nat → ClassId} {A : Nat → Prop} {o : Nat} {a : Nat → Nat} {N : Nat} {K : mb_m → Prop} (C : mb_Cx p s m meth c args cX8_moves 2 none wsX8_moves RX8 D Y A) : ∀ (M : mb_m) (y0 : Int32) (H : Heap) (locs : List Loc) (ls : Array Slot), PX8_moves_45 N K  M y0 → va_P D vwCl (gw8 Y o a M) H → va_D A (gw8 Y o a M) → va_S A s.heap H locs → lv_has ls 2 [] → W p l e ({ frames := 1, cells := 0, slots := 0, locals := 22 } : Room) s m args below meth c H locs 0 0 (MQ below (va_Qv K (fun u t => mb_T D A (gw8 Y o a u) t) A) args s 0 0 A) (F0 m 45 ls [.int y0, .ref o]) := by
  obtain ⟨hx, hb, hr, hml, hts, hown, hlocks, hA, hG⟩ := id C
  have hK := hG.1
  intro M y0 H locs ls hF hP hD hS hl
  obtain ⟨hz45, hF⟩ := hF
  refine va_put (D := D) (ci := 8) (v := .int y0) (ty := .boolean) (C := RX8) (T := TX8) (N := 28) hx hb hts (fun _ h9 => List.mem_cons_of_mem _ (List.mem_append_right _ (h9))) tyX8 tyX8_ok nmX8 hown hK hP hD hS 0 rfl rfl 18 (by decide) (hts (.fieldLink RX8 131 "MarbleBenchModel" "isInside" "Z") (List.mem_of_getElem? (i := 1) rfl)) (fun _ h9 => h9) rfl (by decide +kernel) (mb_isB_n hz45) (mb_isB_f hz45) (Nat.le_of_ble_eq_true rfl) dX8_moves_45 (fun H locs hP hD hS => ?_)
  obtain ⟨M45, eM45⟩ : ∃ y : mb_m, y = mb_u M 18 (mb_c y0) := ⟨_, rfl⟩
  have hF := hF M45 eM45
  have hP : va_P D vwCl (gw8 Y o a (mb_u M 18 (mb_c y0))) H := hP
  have hD : va_D A (gw8 Y o a (mb_u M 18 (mb_c y0))) := hD
  rw [← eM45] at hP hD
  refine lv_goto (tgt := 90) hx hb dX8_moves_48 (by decide) ?_
  exact mb_rv (S := mb_m) (mc := 0) (ms := 0) (wf := fun u => gw8 Y o a u) C (u := M45) hF hP hD hS dX8_moves_90 (Nat.le_of_ble_eq_true rfl) (Nat.le_of_ble_eq_true rfl)
noncomputable def PX8_moves (N : Nat) (M : mb_m) (x1 : Int32) (K : mb_m → Prop) : Prop := ((x1.toInt < 0 ∨ 3 < x1.toInt) → PX8_links N M (-1 : Int32) (fun M87 => K M87)) ∧ (x1.toInt = 0 → (¬ (M 18 0) = 0 → PX8_moves_45 N K M (0 : Int32)) ∧ ((M 18 0) = 0 → PX8_moves_45 N K M (1 : Int32))) ∧ (x1.toInt = 1 → PX8_lays N M (1 : Int32) (M 17 0) (fun M57 => K M57)) ∧ (x1.toInt = 2 → PX8_lays N M (-1 : Int32) ((M 17 0) - (1 : Int32)) (fun M71 => K M71)) ∧ (x1.toInt = 3 → PX8_links N M (1 : Int32) (fun M79 => K M79))
set_option maxHeartbeats 4000000 in
set_option maxRecDepth 100000 in
theorem cnX8_moves (l : Launch) (D : va_G) (Y : Nat → ClassId) (N : Nat) (o : Nat) (a : Nat → Nat) (M : mb_m) (sz : Nat) (x1 : Int32) (K : mb_m → Prop) (hF : PX8_moves N M x1 K) : Met l yX8_moves wsX8_moves ({ frames := 1, cells := 0, slots := 0, locals := 22 } : Room) (va_Pc [.ref o, .int x1] (mb_B D Y (gw8 Y o a M) sz)) (va_Qv K (fun u t => mb_T D (va_A (gw8 Y o a M) sz) (gw8 Y o a u) t) (va_A (gw8 Y o a M) sz)) 0 0 (va_A (gw8 Y o a M) sz) := by
  refine mb_begin (cc := cX8_moves) (maxL := 2) (ret := none) (by decide +kernel) rfl (Nat.le_of_ble_eq_true rfl) ?_
  intro p e s m below meth c ls C hsz hnm hP hD hl
  generalize hAe : va_A (gw8 Y o a M) sz = A at C hD ⊢
  have C : mb_Cx p s m meth c ([.ref o, .int x1] : List Value).toArray cX8_moves 2 none wsX8_moves RX8 D Y A := C
  obtain ⟨hx, hb, hr, hml, hts, hown, hlocks, hA, hG⟩ := id C
  have hK := hG.1
  have hS : va_S A s.heap s.heap [] := va_S.rf
  have hl : lv_has ls 2 [(0, .ref o), (1, .int x1)] := hl
  refine lv_iload_n hx hb dX8_moves_0 rfl (lv_at hl 1 rfl) ?_
  rcases (show (x1.toInt < 0 ∨ 3 < x1.toInt) ∨ x1.toInt = 0 ∨ x1.toInt = 1 ∨ x1.toInt = 2 ∨ x1.toInt = 3 by omega) with c_1 | c_1 | c_1 | c_1 | c_1
  · have hF := hF.1 c_1
    refine lv_tableOut (tgt := 85) hx hb dX8_moves_1 c_1 (by decide) ?_
    refine lv_aload_n hx hb dX8_moves_85 rfl (lv_at hl 0 rfl) ?_
    refine lv_iconst (v := -1) hx hb dX8_moves_86 (by decide) ?_
    refine mb_cWv hD hS hA (va_runV (As := [.int (-1 : Int32)]) (rest := []) ⟨hx, hb, hml, hown, hts⟩ (cnX8_links l D Y N o a M _ (-1 : Int32) _ hF) (cwV 1 hts gX8_moves_X8_links rfl rfl rfl (by decide +kernel) ⟨Nat.le_of_ble_eq_true rfl, Nat.le_of_ble_eq_true rfl⟩) (mb_preV hG hP hD 0 rfl rfl) rfl rfl hl.1 rfl (lv_room (Nat.le_of_ble_eq_true rfl)) dX8_moves_87 ⟨Nat.le_of_ble_eq_true rfl, Nat.le_of_ble_eq_true rfl⟩) (fun M87 H locs hF hP hD hS => ?_)
    exact mb_rv (S := mb_m) (mc := 0) (ms := 0) (wf := fun u => gw8 Y o a u) C (u := M87) hF hP hD hS dX8_moves_90 (Nat.le_of_ble_eq_true rfl) (Nat.le_of_ble_eq_true rfl)
  · have hF := hF.2.1 c_1
    refine lv_tableIn (off := 31) (tgt := 32) hx hb dX8_moves_1 (by omega) (by omega) (by rw [c_1]; rfl) (by decide) ?_
    refine lv_aload_n hx hb dX8_moves_32 rfl (lv_at hl 0 rfl) ?_
    refine lv_aload_n hx hb dX8_moves_33 rfl (lv_at hl 0 rfl) ?_
    refine va_get (D := D) (ci := 8) (v := .int (M 18 0)) (C := RX8) (T := TX8) (N := 28) hx hb hts (fun _ h9 => List.mem_cons_of_mem _ (List.mem_append_right _ (h9))) hown hK hP 0 rfl rfl 18 (by decide) (hts (.fieldLink RX8 131 "MarbleBenchModel" "isInside" "Z") (List.mem_of_getElem? (i := 1) rfl)) (fun _ h9 => h9) rfl dX8_moves_34 ?_
    refine lv_if_ne (tgt := 44) hx hb dX8_moves_37 (by decide) (fun c_37 => ?_) (fun c_37 => ?_)
    · have hF := hF.1 c_37
      refine lv_iconst (v := 0) hx hb dX8_moves_44 (by decide) ?_
      exact wX8_moves_45 C M (0 : Int32) _ _ _ hF hP hD hS (lv_sub hl [] rfl)
    · have hF := hF.2 c_37
      refine lv_iconst (v := 1) hx hb dX8_moves_40 (by decide) ?_
      refine lv_goto (tgt := 45) hx hb dX8_moves_41 (by decide) ?_
      exact wX8_moves_45 C M (1 : Int32) _ _ _ hF hP hD hS (lv_sub hl [] rfl)
  · have hF := hF.2.2.1 c_1
    refine lv_tableIn (off := 50) (tgt := 51) hx hb dX8_moves_1 (by omega) (by omega) (by rw [c_1]; rfl) (by decide) ?_
    refine lv_aload_n hx hb dX8_moves_51 rfl (lv_at hl 0 rfl) ?_
    refine lv_iconst (v := 1) hx hb dX8_moves_52 (by decide) ?_
    refine lv_aload_n hx hb dX8_moves_53 rfl (lv_at hl 0 rfl) ?_
    refine va_get (D := D) (ci := 8) (v := .int (M 17 0)) (C := RX8) (T := TX8) (N := 28) hx hb hts (fun _ h9 => List.mem_cons_of_mem _ (List.mem_append_right _ (h9))) hown hK hP 0 rfl rfl 17 (by decide) (hts (.fieldLink RX8 122 "MarbleBenchModel" "station" "I") (List.mem_of_getElem? (i := 2) rfl)) (fun _ h9 => h9) rfl dX8_moves_54 ?_
    refine mb_cWv hD hS hA (va_runV (As := [.int (1 : Int32), .int (M 17 0)]) (rest := []) ⟨hx, hb, hml, hown, hts⟩ (cnX8_lays l D Y N o a M _ (1 : Int32) (M 17 0) _ hF) (cwV 2 hts gX8_moves_X8_lays rfl rfl rfl (by decide +kernel) ⟨Nat.le_of_ble_eq_true rfl, Nat.le_of_ble_eq_true rfl⟩) (mb_preV hG hP hD 0 rfl rfl) rfl rfl hl.1 rfl (lv_room (Nat.le_of_ble_eq_true rfl)) dX8_moves_57 ⟨Nat.le_of_ble_eq_true rfl, Nat.le_of_ble_eq_true rfl⟩) (fun M57 H locs hF hP hD hS => ?_)
    refine lv_goto (tgt := 90) hx hb dX8_moves_60 (by decide) ?_
    exact mb_rv (S := mb_m) (mc := 0) (ms := 0) (wf := fun u => gw8 Y o a u) C (u := M57) hF hP hD hS dX8_moves_90 (Nat.le_of_ble_eq_true rfl) (Nat.le_of_ble_eq_true rfl)
  · have hF := hF.2.2.2.1 c_1
    refine lv_tableIn (off := 62) (tgt := 63) hx hb dX8_moves_1 (by omega) (by omega) (by rw [c_1]; rfl) (by decide) ?_
    refine lv_aload_n hx hb dX8_moves_63 rfl (lv_at hl 0 rfl) ?_
    refine lv_iconst (v := -1) hx hb dX8_moves_64 (by decide) ?_
    refine lv_aload_n hx hb dX8_moves_65 rfl (lv_at hl 0 rfl) ?_
    refine va_get (D := D) (ci := 8) (v := .int (M 17 0)) (C := RX8) (T := TX8) (N := 28) hx hb hts (fun _ h9 => List.mem_cons_of_mem _ (List.mem_append_right _ (h9))) hown hK hP 0 rfl rfl 17 (by decide) (hts (.fieldLink RX8 122 "MarbleBenchModel" "station" "I") (List.mem_of_getElem? (i := 2) rfl)) (fun _ h9 => h9) rfl dX8_moves_66 ?_
    refine lv_iconst (v := 1) hx hb dX8_moves_69 (by decide) ?_
    refine lv_isub hx hb dX8_moves_70 ?_
    refine mb_cWv hD hS hA (va_runV (As := [.int (-1 : Int32), .int ((M 17 0) - (1 : Int32))]) (rest := []) ⟨hx, hb, hml, hown, hts⟩ (cnX8_lays l D Y N o a M _ (-1 : Int32) ((M 17 0) - (1 : Int32)) _ hF) (cwV 2 hts gX8_moves_X8_lays rfl rfl rfl (by decide +kernel) ⟨Nat.le_of_ble_eq_true rfl, Nat.le_of_ble_eq_true rfl⟩) (mb_preV hG hP hD 0 rfl rfl) rfl rfl hl.1 rfl (lv_room (Nat.le_of_ble_eq_true rfl)) dX8_moves_71 ⟨Nat.le_of_ble_eq_true rfl, Nat.le_of_ble_eq_true rfl⟩) (fun M71 H locs hF hP hD hS => ?_)
    refine lv_goto (tgt := 90) hx hb dX8_moves_74 (by decide) ?_
    exact mb_rv (S := mb_m) (mc := 0) (ms := 0) (wf := fun u => gw8 Y o a u) C (u := M71) hF hP hD hS dX8_moves_90 (Nat.le_of_ble_eq_true rfl) (Nat.le_of_ble_eq_true rfl)
  · have hF := hF.2.2.2.2 c_1
    refine lv_tableIn (off := 76) (tgt := 77) hx hb dX8_moves_1 (by omega) (by omega) (by rw [c_1]; rfl) (by decide) ?_
    refine lv_aload_n hx hb dX8_moves_77 rfl (lv_at hl 0 rfl) ?_
    refine lv_iconst (v := 1) hx hb dX8_moves_78 (by decide) ?_
    refine mb_cWv hD hS hA (va_runV (As := [.int (1 : Int32)]) (rest := []) ⟨hx, hb, hml, hown, hts⟩ (cnX8_links l D Y N o a M _ (1 : Int32) _ hF) (cwV 1 hts gX8_moves_X8_links rfl rfl rfl (by decide +kernel) ⟨Nat.le_of_ble_eq_true rfl, Nat.le_of_ble_eq_true rfl⟩) (mb_preV hG hP hD 0 rfl rfl) rfl rfl hl.1 rfl (lv_room (Nat.le_of_ble_eq_true rfl)) dX8_moves_79 ⟨Nat.le_of_ble_eq_true rfl, Nat.le_of_ble_eq_true rfl⟩) (fun M79 H locs hF hP hD hS => ?_)
    refine lv_goto (tgt := 90) hx hb dX8_moves_82 (by decide) ?_
    exact mb_rv (S := mb_m) (mc := 0) (ms := 0) (wf := fun u => gw8 Y o a u) C (u := M79) hF hP hD hS dX8_moves_90 (Nat.le_of_ble_eq_true rfl) (Nat.le_of_ble_eq_true rfl)
end
section
noncomputable def PX8_follows_68_b (N : Nat) (K : mb_m → Prop) (b68 : mb_m → Int32 → Int32 → Prop) (M : mb_m) (x1 x2 : Int32) : Prop := vp_in x1 4 ∧ (((((200 : Int32) * x1) + (M 11 x1.toNatClampNeg)) ≤ x2 → K M) ∧ (¬ (((200 : Int32) * x1) + (M 11 x1.toNatClampNeg)) ≤ x2 → vp_in x2 800 ∧ (PX8_moves N M (M 12 x2.toNatClampNeg) (fun M91 => ∀ v94 : Int32, v94 = x2 + (1 : Int32) → (b68 M91 x1 v94)))))
noncomputable def PX8_follows_68 (N : Nat) (K : mb_m → Prop) (n : Nat) : mb_m → Int32 → Int32 → Prop := Nat.rec (motive := fun _ => mb_m → Int32 → Int32 → Prop) (fun _ _ _ => False) (fun _ b68 => PX8_follows_68_b N K  b68) n
set_option maxHeartbeats 4000000 in
set_option maxRecDepth 100000 in
theorem wX8_follows_68 {p : Program} {l : Launch} {e : Env} {s : State} {m : MethodId} {below : List Frame} {meth : Method} {c : Code} {args : Array Value} {D : va_G} {Y : Nat → ClassId} {A : Nat → Prop} {o : Nat} {a : Nat → Nat} {N : Nat} {K : mb_m → Prop} (C : mb_Cx p s m meth c args cX8_follows 3 none wsX8_follows RX8 D Y A) : ∀ (n : Nat), (∀ (M : mb_m) (x1 x2 : Int32) (H : Heap) (locs : List Loc) (ls : Array Slot), PX8_follows_68 N K  n M x1 x2 → va_P D vwCl (gw8 Y o a M) H → va_D A (gw8 Y o a M) → va_S A s.heap H locs → lv_has ls 3 [(0, .ref o), (1, .int x1), (2, .int x2)] → W p l e ({ frames := 2, cells := 0, slots := 0, locals := 43 } : Room) s m args below meth c H locs 0 0 (MQ below (va_Qv K (fun u t => mb_T D A (gw8 Y o a u) t) A) args s 0 0 A) (F0 m 68 ls [])) := by
  obtain ⟨hx, hb, hr, hml, hts, hown, hlocks, hA, hG⟩ := id C
  have hK := hG.1
  intro n
  induction n with
  | zero => intro M x1 x2 H locs ls hF; exact (show False from hF).elim
  | succ n ih =>
    intro M x1 x2 H locs ls hF hP hD hS hl
    have hF : PX8_follows_68_b N K  (PX8_follows_68 N K  n) M x1 x2 := hF
    refine lv_iload_n hx hb dX8_follows_68 rfl (lv_at hl 2 rfl) ?_
    refine lv_sipush (v := 200) hx hb dX8_follows_69 (by decide) ?_
    refine lv_iload_n hx hb dX8_follows_72 rfl (lv_at hl 1 rfl) ?_
    refine lv_imul hx hb dX8_follows_73 ?_
    refine lv_aload_n hx hb dX8_follows_74 rfl (lv_at hl 0 rfl) ?_
    refine va_get (D := D) (ci := 8) (v := .ref (a 11)) (C := RX8) (T := TX8) (N := 28) hx hb hts (fun _ h9 => List.mem_cons_of_mem _ (List.mem_append_right _ (h9))) hown hK hP 0 rfl rfl 11 (by decide) (hts (.fieldLink RX8 38 "MarbleBenchModel" "moves" "[I") (List.mem_of_getElem? (i := 7) rfl)) (fun _ h9 => h9) rfl dX8_follows_75 ?_
    refine lv_iload_n hx hb dX8_follows_78 rfl (lv_at hl 1 rfl) ?_
    obtain ⟨hi79, hF⟩ := hF
    refine va_iald hx hb hK hP 10 0 rfl rfl hi79 dX8_follows_79 ?_
    refine lv_iadd hx hb dX8_follows_80 ?_
    refine lv_icmp_ge (tgt := 100) hx hb dX8_follows_81 (by decide) (fun c_81 => ?_) (fun c_81 => ?_)
    · have hF := hF.1 c_81
      exact mb_rv (S := mb_m) (mc := 0) (ms := 0) (wf := fun u => gw8 Y o a u) C (u := M) hF hP hD hS dX8_follows_100 (Nat.le_of_ble_eq_true rfl) (Nat.le_of_ble_eq_true rfl)
    · have hF := hF.2 c_81
      refine lv_aload_n hx hb dX8_follows_84 rfl (lv_at hl 0 rfl) ?_
      refine lv_aload_n hx hb dX8_follows_85 rfl (lv_at hl 0 rfl) ?_
      refine va_get (D := D) (ci := 8) (v := .ref (a 12)) (C := RX8) (T := TX8) (N := 28) hx hb hts (fun _ h9 => List.mem_cons_of_mem _ (List.mem_append_right _ (h9))) hown hK hP 0 rfl rfl 12 (by decide) (hts (.fieldLink RX8 41 "MarbleBenchModel" "moved" "[I") (List.mem_of_getElem? (i := 8) rfl)) (fun _ h9 => h9) rfl dX8_follows_86 ?_
      refine lv_iload_n hx hb dX8_follows_89 rfl (lv_at hl 2 rfl) ?_
      obtain ⟨hi90, hF⟩ := hF
      refine va_iald hx hb hK hP 11 0 rfl rfl hi90 dX8_follows_90 ?_
      refine mb_cWv hD hS hA (va_runV (As := [.int (M 12 x2.toNatClampNeg)]) (rest := []) ⟨hx, hb, hml, hown, hts⟩ (cnX8_moves l D Y N o a M _ (M 12 x2.toNatClampNeg) _ hF) (cwV 1 hts gX8_follows_X8_moves rfl rfl rfl (by decide +kernel) ⟨Nat.le_of_ble_eq_true rfl, Nat.le_of_ble_eq_true rfl⟩) (mb_preV hG hP hD 0 rfl rfl) rfl rfl hl.1 rfl (lv_room (Nat.le_of_ble_eq_true rfl)) dX8_follows_91 ⟨Nat.le_of_ble_eq_true rfl, Nat.le_of_ble_eq_true rfl⟩) (fun M91 H locs hF hP hD hS => ?_)
      obtain ⟨v94, ev94⟩ : ∃ y : Int32, y = x2 + (1 : Int32) := ⟨_, rfl⟩
      have hF := hF v94 ev94
      refine lv_iinc (v := v94) (lv' := [(2, .int v94), (0, .ref o), (1, .int x1)]) hx hb dX8_follows_94 hl (k := 2) rfl (by rw [ev94]; rfl) (by decide) rfl (fun ls hl => ?_)
      refine lv_goto (tgt := 68) hx hb dX8_follows_97 (by decide) ?_
      exact ih M91 x1 v94 _ _ _ hF hP hD hS (lv_sub hl [1, 2, 0] rfl)
noncomputable def PX8_follows_23_b (N : Nat) (K : mb_m → Prop) (b23 : mb_m → Int32 → Int32 → Prop) (M : mb_m) (x1 x2 : Int32) : Prop := ((8 : Int32) ≤ x2 → ∀ M44 : mb_m, M44 = mb_u M 15 (mb_c (0 : Int32)) → (∀ M49 : mb_m, M49 = mb_u M44 16 (mb_c (0 : Int32)) → (∀ M54 : mb_m, M54 = mb_u M49 17 (mb_c (0 : Int32)) → (∀ M59 : mb_m, M59 = mb_u M54 18 (mb_c (0 : Int32)) → (∀ v67 : Int32, v67 = ((200 : Int32) * x1) → (PX8_follows_68 N K N M59 x1 v67)))))) ∧ (¬ (8 : Int32) ≤ x2 → vp_in x2 8 ∧ (∀ M35 : mb_m, M35 = mb_u M 14 (upd (M 14) x2.toNatClampNeg (vp_nar .boolean (0 : Int32))) → (∀ v36 : Int32, v36 = x2 + (1 : Int32) → (b23 M35 x1 v36))))
noncomputable def PX8_follows_23 (N : Nat) (K : mb_m → Prop) (n : Nat) : mb_m → Int32 → Int32 → Prop := Nat.rec (motive := fun _ => mb_m → Int32 → Int32 → Prop) (fun _ _ _ => False) (fun _ b23 => PX8_follows_23_b N K  b23) n
set_option maxHeartbeats 4000000 in
set_option maxRecDepth 100000 in
theorem wX8_follows_23 {p : Program} {l : Launch} {e : Env} {s : State} {m : MethodId} {below : List Frame} {meth : Method} {c : Code} {args : Array Value} {D : va_G} {Y : Nat → ClassId} {A : Nat → Prop} {o : Nat} {a : Nat → Nat} {N : Nat} {K : mb_m → Prop} (C : mb_Cx p s m meth c args cX8_follows 3 none wsX8_follows RX8 D Y A) : ∀ (n : Nat), (∀ (M : mb_m) (x1 x2 : Int32) (H : Heap) (locs : List Loc) (ls : Array Slot), PX8_follows_23 N K  n M x1 x2 → va_P D vwCl (gw8 Y o a M) H → va_D A (gw8 Y o a M) → va_S A s.heap H locs → lv_has ls 3 [(0, .ref o), (1, .int x1), (2, .int x2)] → W p l e ({ frames := 2, cells := 0, slots := 0, locals := 43 } : Room) s m args below meth c H locs 0 0 (MQ below (va_Qv K (fun u t => mb_T D A (gw8 Y o a u) t) A) args s 0 0 A) (F0 m 23 ls [])) := by
  obtain ⟨hx, hb, hr, hml, hts, hown, hlocks, hA, hG⟩ := id C
  have hK := hG.1
  intro n
  induction n with
  | zero => intro M x1 x2 H locs ls hF; exact (show False from hF).elim
  | succ n ih =>
    intro M x1 x2 H locs ls hF hP hD hS hl
    have hF : PX8_follows_23_b N K  (PX8_follows_23 N K  n) M x1 x2 := hF
    refine lv_iload_n hx hb dX8_follows_23 rfl (lv_at hl 2 rfl) ?_
    refine lv_bipush (v := 8) hx hb dX8_follows_24 (by decide) ?_
    refine lv_icmp_ge (tgt := 42) hx hb dX8_follows_26 (by decide) (fun c_26 => ?_) (fun c_26 => ?_)
    · have hF := hF.1 c_26
      refine lv_aload_n hx hb dX8_follows_42 rfl (lv_at hl 0 rfl) ?_
      refine lv_iconst (v := 0) hx hb dX8_follows_43 (by decide) ?_
      refine va_put (D := D) (ci := 8) (v := .int (0 : Int32)) (ty := .int) (C := RX8) (T := TX8) (N := 28) hx hb hts (fun _ h9 => List.mem_cons_of_mem _ (List.mem_append_right _ (h9))) tyX8 tyX8_ok nmX8 hown hK hP hD hS 0 rfl rfl 15 (by decide) (hts (.fieldLink RX8 125 "MarbleBenchModel" "length" "I") (List.mem_of_getElem? (i := 3) rfl)) (fun _ h9 => h9) rfl (by decide +kernel) rfl rfl (Nat.le_of_ble_eq_true rfl) dX8_follows_44 (fun H locs hP hD hS => ?_)
      obtain ⟨M44, eM44⟩ : ∃ y : mb_m, y = mb_u M 15 (mb_c (0 : Int32)) := ⟨_, rfl⟩
      have hF := hF M44 eM44
      have hP : va_P D vwCl (gw8 Y o a (mb_u M 15 (mb_c (0 : Int32)))) H := hP
      have hD : va_D A (gw8 Y o a (mb_u M 15 (mb_c (0 : Int32)))) := hD
      rw [← eM44] at hP hD
      refine lv_aload_n hx hb dX8_follows_47 rfl (lv_at hl 0 rfl) ?_
      refine lv_iconst (v := 0) hx hb dX8_follows_48 (by decide) ?_
      refine va_put (D := D) (ci := 8) (v := .int (0 : Int32)) (ty := .int) (C := RX8) (T := TX8) (N := 28) hx hb hts (fun _ h9 => List.mem_cons_of_mem _ (List.mem_append_right _ (h9))) tyX8 tyX8_ok nmX8 hown hK hP hD hS 0 rfl rfl 16 (by decide) (hts (.fieldLink RX8 128 "MarbleBenchModel" "gathering" "I") (List.mem_of_getElem? (i := 4) rfl)) (fun _ h9 => h9) rfl (by decide +kernel) rfl rfl (Nat.le_of_ble_eq_true rfl) dX8_follows_49 (fun H locs hP hD hS => ?_)
      obtain ⟨M49, eM49⟩ : ∃ y : mb_m, y = mb_u M44 16 (mb_c (0 : Int32)) := ⟨_, rfl⟩
      have hF := hF M49 eM49
      have hP : va_P D vwCl (gw8 Y o a (mb_u M44 16 (mb_c (0 : Int32)))) H := hP
      have hD : va_D A (gw8 Y o a (mb_u M44 16 (mb_c (0 : Int32)))) := hD
      rw [← eM49] at hP hD
      refine lv_aload_n hx hb dX8_follows_52 rfl (lv_at hl 0 rfl) ?_
      refine lv_iconst (v := 0) hx hb dX8_follows_53 (by decide) ?_
      refine va_put (D := D) (ci := 8) (v := .int (0 : Int32)) (ty := .int) (C := RX8) (T := TX8) (N := 28) hx hb hts (fun _ h9 => List.mem_cons_of_mem _ (List.mem_append_right _ (h9))) tyX8 tyX8_ok nmX8 hown hK hP hD hS 0 rfl rfl 17 (by decide) (hts (.fieldLink RX8 122 "MarbleBenchModel" "station" "I") (List.mem_of_getElem? (i := 5) rfl)) (fun _ h9 => h9) rfl (by decide +kernel) rfl rfl (Nat.le_of_ble_eq_true rfl) dX8_follows_54 (fun H locs hP hD hS => ?_)
      obtain ⟨M54, eM54⟩ : ∃ y : mb_m, y = mb_u M49 17 (mb_c (0 : Int32)) := ⟨_, rfl⟩
      have hF := hF M54 eM54
      have hP : va_P D vwCl (gw8 Y o a (mb_u M49 17 (mb_c (0 : Int32)))) H := hP
      have hD : va_D A (gw8 Y o a (mb_u M49 17 (mb_c (0 : Int32)))) := hD
      rw [← eM54] at hP hD
      refine lv_aload_n hx hb dX8_follows_57 rfl (lv_at hl 0 rfl) ?_
      refine lv_iconst (v := 0) hx hb dX8_follows_58 (by decide) ?_
      refine va_put (D := D) (ci := 8) (v := .int (0 : Int32)) (ty := .boolean) (C := RX8) (T := TX8) (N := 28) hx hb hts (fun _ h9 => List.mem_cons_of_mem _ (List.mem_append_right _ (h9))) tyX8 tyX8_ok nmX8 hown hK hP hD hS 0 rfl rfl 18 (by decide) (hts (.fieldLink RX8 131 "MarbleBenchModel" "isInside" "Z") (List.mem_of_getElem? (i := 6) rfl)) (fun _ h9 => h9) rfl (by decide +kernel) rfl rfl (Nat.le_of_ble_eq_true rfl) dX8_follows_59 (fun H locs hP hD hS => ?_)
      obtain ⟨M59, eM59⟩ : ∃ y : mb_m, y = mb_u M54 18 (mb_c (0 : Int32)) := ⟨_, rfl⟩
      have hF := hF M59 eM59
      have hP : va_P D vwCl (gw8 Y o a (mb_u M54 18 (mb_c (0 : Int32)))) H := hP
      have hD : va_D A (gw8 Y o a (mb_u M54 18 (mb_c (0 : Int32)))) := hD
      rw [← eM59] at hP hD
      refine lv_sipush (v := 200) hx hb dX8_follows_62 (by decide) ?_
      refine lv_iload_n hx hb dX8_follows_65 rfl (lv_at hl 1 rfl) ?_
      refine lv_imul hx hb dX8_follows_66 ?_
      refine lv_topi (fun v67 ev67 => ?_)
      have hF := hF v67 ev67
      refine lv_istore_n (lv' := [(2, .int v67), (0, .ref o), (1, .int x1)]) hx hb dX8_follows_67 rfl hl (by decide) rfl (fun ls hl => ?_)
      exact wX8_follows_68 C N M59 x1 v67 _ _ _ hF hP hD hS (lv_sub hl [1, 2, 0] rfl)
    · have hF := hF.2 c_26
      refine lv_aload_n hx hb dX8_follows_29 rfl (lv_at hl 0 rfl) ?_
      refine va_get (D := D) (ci := 8) (v := .ref (a 14)) (C := RX8) (T := TX8) (N := 28) hx hb hts (fun _ h9 => List.mem_cons_of_mem _ (List.mem_append_right _ (h9))) hown hK hP 0 rfl rfl 14 (by decide) (hts (.fieldLink RX8 47 "MarbleBenchModel" "isLinked" "[Z") (List.mem_of_getElem? (i := 2) rfl)) (fun _ h9 => h9) rfl dX8_follows_30 ?_
      refine lv_iload_n hx hb dX8_follows_33 rfl (lv_at hl 2 rfl) ?_
      refine lv_iconst (v := 0) hx hb dX8_follows_34 (by decide) ?_
      obtain ⟨hi35, hF⟩ := hF
      refine va_zast hx hb hK hP hD hS 13 1 rfl rfl hi35 dX8_follows_35 (fun H locs hP hD hS => ?_)
      obtain ⟨M35, eM35⟩ : ∃ y : mb_m, y = mb_u M 14 (upd (M 14) x2.toNatClampNeg (vp_nar .boolean (0 : Int32))) := ⟨_, rfl⟩
      have hF := hF M35 eM35
      have hP : va_P D vwCl (gw8 Y o a (mb_u M 14 (upd (M 14) x2.toNatClampNeg (vp_nar .boolean (0 : Int32))))) H := hP
      have hD : va_D A (gw8 Y o a (mb_u M 14 (upd (M 14) x2.toNatClampNeg (vp_nar .boolean (0 : Int32))))) := hD
      rw [← eM35] at hP hD
      obtain ⟨v36, ev36⟩ : ∃ y : Int32, y = x2 + (1 : Int32) := ⟨_, rfl⟩
      have hF := hF v36 ev36
      refine lv_iinc (v := v36) (lv' := [(2, .int v36), (0, .ref o), (1, .int x1)]) hx hb dX8_follows_36 hl (k := 2) rfl (by rw [ev36]; rfl) (by decide) rfl (fun ls hl => ?_)
      refine lv_goto (tgt := 23) hx hb dX8_follows_39 (by decide) ?_
      exact ih M35 x1 v36 _ _ _ hF hP hD hS (lv_sub hl [1, 2, 0] rfl)
noncomputable def PX8_follows_2_b (N : Nat) (K : mb_m → Prop) (b2 : mb_m → Int32 → Int32 → Prop) (M : mb_m) (x1 x2 : Int32) : Prop := ((40 : Int32) ≤ x2 → PX8_follows_23 N K N M x1 (0 : Int32)) ∧ (¬ (40 : Int32) ≤ x2 → vp_in x2 40 ∧ (∀ M14 : mb_m, M14 = mb_u M 13 (upd (M 13) x2.toNatClampNeg (0 : Int32)) → (∀ v15 : Int32, v15 = x2 + (1 : Int32) → (b2 M14 x1 v15))))
noncomputable def PX8_follows_2 (N : Nat) (K : mb_m → Prop) (n : Nat) : mb_m → Int32 → Int32 → Prop := Nat.rec (motive := fun _ => mb_m → Int32 → Int32 → Prop) (fun _ _ _ => False) (fun _ b2 => PX8_follows_2_b N K  b2) n
set_option maxHeartbeats 4000000 in
set_option maxRecDepth 100000 in
theorem wX8_follows_2 {p : Program} {l : Launch} {e : Env} {s : State} {m : MethodId} {below : List Frame} {meth : Method} {c : Code} {args : Array Value} {D : va_G} {Y : Nat → ClassId} {A : Nat → Prop} {o : Nat} {a : Nat → Nat} {N : Nat} {K : mb_m → Prop} (C : mb_Cx p s m meth c args cX8_follows 3 none wsX8_follows RX8 D Y A) : ∀ (n : Nat), (∀ (M : mb_m) (x1 x2 : Int32) (H : Heap) (locs : List Loc) (ls : Array Slot), PX8_follows_2 N K  n M x1 x2 → va_P D vwCl (gw8 Y o a M) H → va_D A (gw8 Y o a M) → va_S A s.heap H locs → lv_has ls 3 [(0, .ref o), (1, .int x1), (2, .int x2)] → W p l e ({ frames := 2, cells := 0, slots := 0, locals := 43 } : Room) s m args below meth c H locs 0 0 (MQ below (va_Qv K (fun u t => mb_T D A (gw8 Y o a u) t) A) args s 0 0 A) (F0 m 2 ls [])) := by
  obtain ⟨hx, hb, hr, hml, hts, hown, hlocks, hA, hG⟩ := id C
  have hK := hG.1
  intro n
  induction n with
  | zero => intro M x1 x2 H locs ls hF; exact (show False from hF).elim
  | succ n ih =>
    intro M x1 x2 H locs ls hF hP hD hS hl
    have hF : PX8_follows_2_b N K  (PX8_follows_2 N K  n) M x1 x2 := hF
    refine lv_iload_n hx hb dX8_follows_2 rfl (lv_at hl 2 rfl) ?_
    refine lv_bipush (v := 40) hx hb dX8_follows_3 (by decide) ?_
    refine lv_icmp_ge (tgt := 21) hx hb dX8_follows_5 (by decide) (fun c_5 => ?_) (fun c_5 => ?_)
    · have hF := hF.1 c_5
      refine lv_iconst (v := 0) hx hb dX8_follows_21 (by decide) ?_
      refine lv_istore_n (lv' := [(2, .int (0 : Int32)), (0, .ref o), (1, .int x1)]) hx hb dX8_follows_22 rfl hl (by decide) rfl (fun ls hl => ?_)
      exact wX8_follows_23 C N M x1 (0 : Int32) _ _ _ hF hP hD hS (lv_sub hl [1, 2, 0] rfl)
    · have hF := hF.2 c_5
      refine lv_aload_n hx hb dX8_follows_8 rfl (lv_at hl 0 rfl) ?_
      refine va_get (D := D) (ci := 8) (v := .ref (a 13)) (C := RX8) (T := TX8) (N := 28) hx hb hts (fun _ h9 => List.mem_cons_of_mem _ (List.mem_append_right _ (h9))) hown hK hP 0 rfl rfl 13 (by decide) (hts (.fieldLink RX8 44 "MarbleBenchModel" "stitch" "[I") (List.mem_of_getElem? (i := 1) rfl)) (fun _ h9 => h9) rfl dX8_follows_9 ?_
      refine lv_iload_n hx hb dX8_follows_12 rfl (lv_at hl 2 rfl) ?_
      refine lv_iconst (v := 0) hx hb dX8_follows_13 (by decide) ?_
      obtain ⟨hi14, hF⟩ := hF
      refine va_iast hx hb hK hP hD hS 12 0 rfl rfl hi14 dX8_follows_14 (fun H locs hP hD hS => ?_)
      obtain ⟨M14, eM14⟩ : ∃ y : mb_m, y = mb_u M 13 (upd (M 13) x2.toNatClampNeg (0 : Int32)) := ⟨_, rfl⟩
      have hF := hF M14 eM14
      have hP : va_P D vwCl (gw8 Y o a (mb_u M 13 (upd (M 13) x2.toNatClampNeg (0 : Int32)))) H := hP
      have hD : va_D A (gw8 Y o a (mb_u M 13 (upd (M 13) x2.toNatClampNeg (0 : Int32)))) := hD
      rw [← eM14] at hP hD
      obtain ⟨v15, ev15⟩ : ∃ y : Int32, y = x2 + (1 : Int32) := ⟨_, rfl⟩
      have hF := hF v15 ev15
      refine lv_iinc (v := v15) (lv' := [(2, .int v15), (0, .ref o), (1, .int x1)]) hx hb dX8_follows_15 hl (k := 2) rfl (by rw [ev15]; rfl) (by decide) rfl (fun ls hl => ?_)
      refine lv_goto (tgt := 2) hx hb dX8_follows_18 (by decide) ?_
      exact ih M14 x1 v15 _ _ _ hF hP hD hS (lv_sub hl [1, 2, 0] rfl)
noncomputable def PX8_follows (N : Nat) (M : mb_m) (x1 : Int32) (K : mb_m → Prop) : Prop := PX8_follows_2 N K N M x1 (0 : Int32)
set_option maxHeartbeats 4000000 in
set_option maxRecDepth 100000 in
theorem cnX8_follows (l : Launch) (D : va_G) (Y : Nat → ClassId) (N : Nat) (o : Nat) (a : Nat → Nat) (M : mb_m) (sz : Nat) (x1 : Int32) (K : mb_m → Prop) (hF : PX8_follows N M x1 K) : Met l yX8_follows wsX8_follows ({ frames := 2, cells := 0, slots := 0, locals := 43 } : Room) (va_Pc [.ref o, .int x1] (mb_B D Y (gw8 Y o a M) sz)) (va_Qv K (fun u t => mb_T D (va_A (gw8 Y o a M) sz) (gw8 Y o a u) t) (va_A (gw8 Y o a M) sz)) 0 0 (va_A (gw8 Y o a M) sz) := by
  refine mb_begin (cc := cX8_follows) (maxL := 3) (ret := none) (by decide +kernel) rfl (Nat.le_of_ble_eq_true rfl) ?_
  intro p e s m below meth c ls C hsz hnm hP hD hl
  generalize hAe : va_A (gw8 Y o a M) sz = A at C hD ⊢
  have C : mb_Cx p s m meth c ([.ref o, .int x1] : List Value).toArray cX8_follows 3 none wsX8_follows RX8 D Y A := C
  obtain ⟨hx, hb, hr, hml, hts, hown, hlocks, hA, hG⟩ := id C
  have hK := hG.1
  have hS : va_S A s.heap s.heap [] := va_S.rf
  have hl : lv_has ls 3 [(0, .ref o), (1, .int x1)] := hl
  refine lv_iconst (v := 0) hx hb dX8_follows_0 (by decide) ?_
  refine lv_istore_n (lv' := [(2, .int (0 : Int32)), (0, .ref o), (1, .int x1)]) hx hb dX8_follows_1 rfl hl (by decide) rfl (fun ls hl => ?_)
  exact wX8_follows_2 C N M x1 (0 : Int32) _ _ _ hF hP hD hS (lv_sub hl [1, 2, 0] rfl)
end
section
noncomputable def PX8_can (N : Nat) (M : mb_m) (x1 x2 : Int32) (K : Int32 → mb_m → Prop) : Prop := ((x2.toInt < 0 ∨ 3 < x2.toInt) → (¬ (M 18 0) = 0 → K (0 : Int32) M) ∧ ((M 18 0) = 0 → ((M 16 0) ≤ 0 → K (0 : Int32) M) ∧ (¬ (M 16 0) ≤ 0 → K (1 : Int32) M))) ∧ (x2.toInt = 0 → K (1 : Int32) M) ∧ (x2.toInt = 1 → vp_in x1 4 ∧ ((((M 7 x1.toNatClampNeg) - (1 : Int32)) ≤ (M 17 0) → K (0 : Int32) M) ∧ (¬ ((M 7 x1.toNatClampNeg) - (1 : Int32)) ≤ (M 17 0) → K (1 : Int32) M))) ∧ (x2.toInt = 2 → ((M 17 0) ≤ 0 → K (0 : Int32) M) ∧ (¬ (M 17 0) ≤ 0 → K (1 : Int32) M)) ∧ (x2.toInt = 3 → (¬ (M 18 0) = 0 → K (0 : Int32) M) ∧ ((M 18 0) = 0 → vp_in x1 4 ∧ ((((M 5 x1.toNatClampNeg) - (1 : Int32)) ≤ (M 16 0) → K (0 : Int32) M) ∧ (¬ ((M 5 x1.toNatClampNeg) - (1 : Int32)) ≤ (M 16 0) → K (1 : Int32) M))))
set_option maxHeartbeats 4000000 in
set_option maxRecDepth 100000 in
theorem cnX8_can (l : Launch) (D : va_G) (Y : Nat → ClassId) (N : Nat) (o : Nat) (a : Nat → Nat) (M : mb_m) (sz : Nat) (x1 x2 : Int32) (K : Int32 → mb_m → Prop) (hF : PX8_can N M x1 x2 K) : Met l yX8_can wsX8_can ({ frames := 0, cells := 0, slots := 0, locals := 0 } : Room) (va_Pc [.ref o, .int x1, .int x2] (mb_B D Y (gw8 Y o a M) sz)) (va_Qi K (fun u t => mb_T D (va_A (gw8 Y o a M) sz) (gw8 Y o a u) t) (va_A (gw8 Y o a M) sz)) 0 0 (va_A (gw8 Y o a M) sz) := by
  refine mb_begin (cc := cX8_can) (maxL := 3) (ret := (some .boolean)) (by decide +kernel) rfl (Nat.le_of_ble_eq_true rfl) ?_
  intro p e s m below meth c ls C hsz hnm hP hD hl
  generalize hAe : va_A (gw8 Y o a M) sz = A at C hD ⊢
  have C : mb_Cx p s m meth c ([.ref o, .int x1, .int x2] : List Value).toArray cX8_can 3 (some .boolean) wsX8_can RX8 D Y A := C
  obtain ⟨hx, hb, hr, hml, hts, hown, hlocks, hA, hG⟩ := id C
  have hK := hG.1
  have hS : va_S A s.heap s.heap [] := va_S.rf
  have hl : lv_has ls 3 [(0, .ref o), (1, .int x1), (2, .int x2)] := hl
  refine lv_iload_n hx hb dX8_can_0 rfl (lv_at hl 2 rfl) ?_
  rcases (show (x2.toInt < 0 ∨ 3 < x2.toInt) ∨ x2.toInt = 0 ∨ x2.toInt = 1 ∨ x2.toInt = 2 ∨ x2.toInt = 3 by omega) with c_1 | c_1 | c_1 | c_1 | c_1
  · have hF := hF.1 c_1
    refine lv_tableOut (tgt := 96) hx hb dX8_can_1 c_1 (by decide) ?_
    refine lv_aload_n hx hb dX8_can_96 rfl (lv_at hl 0 rfl) ?_
    refine va_get (D := D) (ci := 8) (v := .int (M 18 0)) (C := RX8) (T := TX8) (N := 28) hx hb hts (fun _ h9 => List.mem_cons_of_mem _ (List.mem_append_right _ (h9))) hown hK hP 0 rfl rfl 18 (by decide) (hts (.fieldLink RX8 131 "MarbleBenchModel" "isInside" "Z") (List.mem_of_getElem? (i := 3) rfl)) (fun _ h9 => h9) rfl dX8_can_97 ?_
    refine lv_if_ne (tgt := 114) hx hb dX8_can_100 (by decide) (fun c_100 => ?_) (fun c_100 => ?_)
    · have hF := hF.1 c_100
      refine lv_iconst (v := 0) hx hb dX8_can_114 (by decide) ?_
      exact mb_ri (S := mb_m) (mc := 0) (ms := 0) (wf := fun u => gw8 Y o a u) C rfl (u := M) hF hP hD hS dX8_can_115 (Nat.le_of_ble_eq_true rfl) (Nat.le_of_ble_eq_true rfl)
    · have hF := hF.2 c_100
      refine lv_aload_n hx hb dX8_can_103 rfl (lv_at hl 0 rfl) ?_
      refine va_get (D := D) (ci := 8) (v := .int (M 16 0)) (C := RX8) (T := TX8) (N := 28) hx hb hts (fun _ h9 => List.mem_cons_of_mem _ (List.mem_append_right _ (h9))) hown hK hP 0 rfl rfl 16 (by decide) (hts (.fieldLink RX8 128 "MarbleBenchModel" "gathering" "I") (List.mem_of_getElem? (i := 4) rfl)) (fun _ h9 => h9) rfl dX8_can_104 ?_
      refine lv_if_le (tgt := 114) hx hb dX8_can_107 (by decide) (fun c_107 => ?_) (fun c_107 => ?_)
      · have hF := hF.1 c_107
        refine lv_iconst (v := 0) hx hb dX8_can_114 (by decide) ?_
        exact mb_ri (S := mb_m) (mc := 0) (ms := 0) (wf := fun u => gw8 Y o a u) C rfl (u := M) hF hP hD hS dX8_can_115 (Nat.le_of_ble_eq_true rfl) (Nat.le_of_ble_eq_true rfl)
      · have hF := hF.2 c_107
        refine lv_iconst (v := 1) hx hb dX8_can_110 (by decide) ?_
        refine lv_goto (tgt := 115) hx hb dX8_can_111 (by decide) ?_
        exact mb_ri (S := mb_m) (mc := 0) (ms := 0) (wf := fun u => gw8 Y o a u) C rfl (u := M) hF hP hD hS dX8_can_115 (Nat.le_of_ble_eq_true rfl) (Nat.le_of_ble_eq_true rfl)
  · have hF := hF.2.1 c_1
    refine lv_tableIn (off := 31) (tgt := 32) hx hb dX8_can_1 (by omega) (by omega) (by rw [c_1]; rfl) (by decide) ?_
    refine lv_iconst (v := 1) hx hb dX8_can_32 (by decide) ?_
    exact mb_ri (S := mb_m) (mc := 0) (ms := 0) (wf := fun u => gw8 Y o a u) C rfl (u := M) hF hP hD hS dX8_can_33 (Nat.le_of_ble_eq_true rfl) (Nat.le_of_ble_eq_true rfl)
  · have hF := hF.2.2.1 c_1
    refine lv_tableIn (off := 33) (tgt := 34) hx hb dX8_can_1 (by omega) (by omega) (by rw [c_1]; rfl) (by decide) ?_
    refine lv_aload_n hx hb dX8_can_34 rfl (lv_at hl 0 rfl) ?_
    refine va_get (D := D) (ci := 8) (v := .int (M 17 0)) (C := RX8) (T := TX8) (N := 28) hx hb hts (fun _ h9 => List.mem_cons_of_mem _ (List.mem_append_right _ (h9))) hown hK hP 0 rfl rfl 17 (by decide) (hts (.fieldLink RX8 122 "MarbleBenchModel" "station" "I") (List.mem_of_getElem? (i := 1) rfl)) (fun _ h9 => h9) rfl dX8_can_35 ?_
    refine lv_aload_n hx hb dX8_can_38 rfl (lv_at hl 0 rfl) ?_
    refine va_get (D := D) (ci := 8) (v := .ref (a 7)) (C := RX8) (T := TX8) (N := 28) hx hb hts (fun _ h9 => List.mem_cons_of_mem _ (List.mem_append_right _ (h9))) hown hK hP 0 rfl rfl 7 (by decide) (hts (.fieldLink RX8 25 "MarbleBenchModel" "stations" "[I") (List.mem_of_getElem? (i := 2) rfl)) (fun _ h9 => h9) rfl dX8_can_39 ?_
    refine lv_iload_n hx hb dX8_can_42 rfl (lv_at hl 1 rfl) ?_
    obtain ⟨hi43, hF⟩ := hF
    refine va_iald hx hb hK hP 6 0 rfl rfl hi43 dX8_can_43 ?_
    refine lv_iconst (v := 1) hx hb dX8_can_44 (by decide) ?_
    refine lv_isub hx hb dX8_can_45 ?_
    refine lv_icmp_ge (tgt := 53) hx hb dX8_can_46 (by decide) (fun c_46 => ?_) (fun c_46 => ?_)
    · have hF := hF.1 c_46
      refine lv_iconst (v := 0) hx hb dX8_can_53 (by decide) ?_
      exact mb_ri (S := mb_m) (mc := 0) (ms := 0) (wf := fun u => gw8 Y o a u) C rfl (u := M) hF hP hD hS dX8_can_54 (Nat.le_of_ble_eq_true rfl) (Nat.le_of_ble_eq_true rfl)
    · have hF := hF.2 c_46
      refine lv_iconst (v := 1) hx hb dX8_can_49 (by decide) ?_
      refine lv_goto (tgt := 54) hx hb dX8_can_50 (by decide) ?_
      exact mb_ri (S := mb_m) (mc := 0) (ms := 0) (wf := fun u => gw8 Y o a u) C rfl (u := M) hF hP hD hS dX8_can_54 (Nat.le_of_ble_eq_true rfl) (Nat.le_of_ble_eq_true rfl)
  · have hF := hF.2.2.2.1 c_1
    refine lv_tableIn (off := 54) (tgt := 55) hx hb dX8_can_1 (by omega) (by omega) (by rw [c_1]; rfl) (by decide) ?_
    refine lv_aload_n hx hb dX8_can_55 rfl (lv_at hl 0 rfl) ?_
    refine va_get (D := D) (ci := 8) (v := .int (M 17 0)) (C := RX8) (T := TX8) (N := 28) hx hb hts (fun _ h9 => List.mem_cons_of_mem _ (List.mem_append_right _ (h9))) hown hK hP 0 rfl rfl 17 (by decide) (hts (.fieldLink RX8 122 "MarbleBenchModel" "station" "I") (List.mem_of_getElem? (i := 1) rfl)) (fun _ h9 => h9) rfl dX8_can_56 ?_
    refine lv_if_le (tgt := 66) hx hb dX8_can_59 (by decide) (fun c_59 => ?_) (fun c_59 => ?_)
    · have hF := hF.1 c_59
      refine lv_iconst (v := 0) hx hb dX8_can_66 (by decide) ?_
      exact mb_ri (S := mb_m) (mc := 0) (ms := 0) (wf := fun u => gw8 Y o a u) C rfl (u := M) hF hP hD hS dX8_can_67 (Nat.le_of_ble_eq_true rfl) (Nat.le_of_ble_eq_true rfl)
    · have hF := hF.2 c_59
      refine lv_iconst (v := 1) hx hb dX8_can_62 (by decide) ?_
      refine lv_goto (tgt := 67) hx hb dX8_can_63 (by decide) ?_
      exact mb_ri (S := mb_m) (mc := 0) (ms := 0) (wf := fun u => gw8 Y o a u) C rfl (u := M) hF hP hD hS dX8_can_67 (Nat.le_of_ble_eq_true rfl) (Nat.le_of_ble_eq_true rfl)
  · have hF := hF.2.2.2.2 c_1
    refine lv_tableIn (off := 67) (tgt := 68) hx hb dX8_can_1 (by omega) (by omega) (by rw [c_1]; rfl) (by decide) ?_
    refine lv_aload_n hx hb dX8_can_68 rfl (lv_at hl 0 rfl) ?_
    refine va_get (D := D) (ci := 8) (v := .int (M 18 0)) (C := RX8) (T := TX8) (N := 28) hx hb hts (fun _ h9 => List.mem_cons_of_mem _ (List.mem_append_right _ (h9))) hown hK hP 0 rfl rfl 18 (by decide) (hts (.fieldLink RX8 131 "MarbleBenchModel" "isInside" "Z") (List.mem_of_getElem? (i := 3) rfl)) (fun _ h9 => h9) rfl dX8_can_69 ?_
    refine lv_if_ne (tgt := 94) hx hb dX8_can_72 (by decide) (fun c_72 => ?_) (fun c_72 => ?_)
    · have hF := hF.1 c_72
      refine lv_iconst (v := 0) hx hb dX8_can_94 (by decide) ?_
      exact mb_ri (S := mb_m) (mc := 0) (ms := 0) (wf := fun u => gw8 Y o a u) C rfl (u := M) hF hP hD hS dX8_can_95 (Nat.le_of_ble_eq_true rfl) (Nat.le_of_ble_eq_true rfl)
    · have hF := hF.2 c_72
      refine lv_aload_n hx hb dX8_can_75 rfl (lv_at hl 0 rfl) ?_
      refine va_get (D := D) (ci := 8) (v := .int (M 16 0)) (C := RX8) (T := TX8) (N := 28) hx hb hts (fun _ h9 => List.mem_cons_of_mem _ (List.mem_append_right _ (h9))) hown hK hP 0 rfl rfl 16 (by decide) (hts (.fieldLink RX8 128 "MarbleBenchModel" "gathering" "I") (List.mem_of_getElem? (i := 4) rfl)) (fun _ h9 => h9) rfl dX8_can_76 ?_
      refine lv_aload_n hx hb dX8_can_79 rfl (lv_at hl 0 rfl) ?_
      refine va_get (D := D) (ci := 8) (v := .ref (a 5)) (C := RX8) (T := TX8) (N := 28) hx hb hts (fun _ h9 => List.mem_cons_of_mem _ (List.mem_append_right _ (h9))) hown hK hP 0 rfl rfl 5 (by decide) (hts (.fieldLink RX8 19 "MarbleBenchModel" "gatherings" "[I") (List.mem_of_getElem? (i := 5) rfl)) (fun _ h9 => h9) rfl dX8_can_80 ?_
      refine lv_iload_n hx hb dX8_can_83 rfl (lv_at hl 1 rfl) ?_
      obtain ⟨hi84, hF⟩ := hF
      refine va_iald hx hb hK hP 4 0 rfl rfl hi84 dX8_can_84 ?_
      refine lv_iconst (v := 1) hx hb dX8_can_85 (by decide) ?_
      refine lv_isub hx hb dX8_can_86 ?_
      refine lv_icmp_ge (tgt := 94) hx hb dX8_can_87 (by decide) (fun c_87 => ?_) (fun c_87 => ?_)
      · have hF := hF.1 c_87
        refine lv_iconst (v := 0) hx hb dX8_can_94 (by decide) ?_
        exact mb_ri (S := mb_m) (mc := 0) (ms := 0) (wf := fun u => gw8 Y o a u) C rfl (u := M) hF hP hD hS dX8_can_95 (Nat.le_of_ble_eq_true rfl) (Nat.le_of_ble_eq_true rfl)
      · have hF := hF.2 c_87
        refine lv_iconst (v := 1) hx hb dX8_can_90 (by decide) ?_
        refine lv_goto (tgt := 95) hx hb dX8_can_91 (by decide) ?_
        exact mb_ri (S := mb_m) (mc := 0) (ms := 0) (wf := fun u => gw8 Y o a u) C rfl (u := M) hF hP hD hS dX8_can_95 (Nat.le_of_ble_eq_true rfl) (Nat.le_of_ble_eq_true rfl)
end
section
noncomputable def PX8_canMove (N : Nat) (M : mb_m) (x1 x2 : Int32) (K : Int32 → mb_m → Prop) : Prop := PX8_follows N M x1 (fun M2 => vp_in x1 4 ∧ (((200 : Int32) ≤ (M2 11 x1.toNatClampNeg) → K (0 : Int32) M2) ∧ (¬ (200 : Int32) ≤ (M2 11 x1.toNatClampNeg) → PX8_can N M2 x1 x2 (fun r20 M20 => (r20 = 0 → K (0 : Int32) M20) ∧ (¬ r20 = 0 → K (1 : Int32) M20)))))
set_option maxHeartbeats 4000000 in
set_option maxRecDepth 100000 in
theorem cnX8_canMove (l : Launch) (D : va_G) (Y : Nat → ClassId) (N : Nat) (o : Nat) (a : Nat → Nat) (M : mb_m) (sz : Nat) (x1 x2 : Int32) (K : Int32 → mb_m → Prop) (hF : PX8_canMove N M x1 x2 K) : Met l yX8_canMove wsX8_canMove ({ frames := 3, cells := 0, slots := 0, locals := 65 } : Room) (va_Pc [.ref o, .int x1, .int x2] (mb_B D Y (gw8 Y o a M) sz)) (va_Qi K (fun u t => mb_T D (va_A (gw8 Y o a M) sz) (gw8 Y o a u) t) (va_A (gw8 Y o a M) sz)) 0 0 (va_A (gw8 Y o a M) sz) := by
  refine mb_begin (cc := cX8_canMove) (maxL := 3) (ret := (some .boolean)) (by decide +kernel) rfl (Nat.le_of_ble_eq_true rfl) ?_
  intro p e s m below meth c ls C hsz hnm hP hD hl
  generalize hAe : va_A (gw8 Y o a M) sz = A at C hD ⊢
  have C : mb_Cx p s m meth c ([.ref o, .int x1, .int x2] : List Value).toArray cX8_canMove 3 (some .boolean) wsX8_canMove RX8 D Y A := C
  obtain ⟨hx, hb, hr, hml, hts, hown, hlocks, hA, hG⟩ := id C
  have hK := hG.1
  have hS : va_S A s.heap s.heap [] := va_S.rf
  have hl : lv_has ls 3 [(0, .ref o), (1, .int x1), (2, .int x2)] := hl
  refine lv_aload_n hx hb dX8_canMove_0 rfl (lv_at hl 0 rfl) ?_
  refine lv_iload_n hx hb dX8_canMove_1 rfl (lv_at hl 1 rfl) ?_
  refine mb_cWv hD hS hA (va_runV (As := [.int x1]) (rest := []) ⟨hx, hb, hml, hown, hts⟩ (cnX8_follows l D Y N o a M _ x1 _ hF) (cwV 1 hts gX8_canMove_X8_follows rfl rfl rfl (by decide +kernel) ⟨Nat.le_of_ble_eq_true rfl, Nat.le_of_ble_eq_true rfl⟩) (mb_preV hG hP hD 0 rfl rfl) rfl rfl hl.1 rfl (lv_room (Nat.le_of_ble_eq_true rfl)) dX8_canMove_2 ⟨Nat.le_of_ble_eq_true rfl, Nat.le_of_ble_eq_true rfl⟩) (fun M2 H locs hF hP hD hS => ?_)
  refine lv_aload_n hx hb dX8_canMove_5 rfl (lv_at hl 0 rfl) ?_
  refine va_get (D := D) (ci := 8) (v := .ref (a 11)) (C := RX8) (T := TX8) (N := 28) hx hb hts (fun _ h9 => List.mem_cons_of_mem _ (List.mem_append_right _ (h9))) hown hK hP 0 rfl rfl 11 (by decide) (hts (.fieldLink RX8 38 "MarbleBenchModel" "moves" "[I") (List.mem_of_getElem? (i := 1) rfl)) (fun _ h9 => h9) rfl dX8_canMove_6 ?_
  refine lv_iload_n hx hb dX8_canMove_9 rfl (lv_at hl 1 rfl) ?_
  obtain ⟨hi10, hF⟩ := hF
  refine va_iald hx hb hK hP 10 0 rfl rfl hi10 dX8_canMove_10 ?_
  refine lv_sipush (v := 200) hx hb dX8_canMove_11 (by decide) ?_
  refine lv_icmp_ge (tgt := 30) hx hb dX8_canMove_14 (by decide) (fun c_14 => ?_) (fun c_14 => ?_)
  · have hF := hF.1 c_14
    refine lv_iconst (v := 0) hx hb dX8_canMove_30 (by decide) ?_
    exact mb_ri (S := mb_m) (mc := 0) (ms := 0) (wf := fun u => gw8 Y o a u) C rfl (u := M2) hF hP hD hS dX8_canMove_31 (Nat.le_of_ble_eq_true rfl) (Nat.le_of_ble_eq_true rfl)
  · have hF := hF.2 c_14
    refine lv_aload_n hx hb dX8_canMove_17 rfl (lv_at hl 0 rfl) ?_
    refine lv_iload_n hx hb dX8_canMove_18 rfl (lv_at hl 1 rfl) ?_
    refine lv_iload_n hx hb dX8_canMove_19 rfl (lv_at hl 2 rfl) ?_
    refine mb_cW hD hS hA (va_runV (As := [.int x1, .int x2]) (rest := []) ⟨hx, hb, hml, hown, hts⟩ (cnX8_can l D Y N o a M2 _ x1 x2 _ hF) (cwV 2 hts gX8_canMove_X8_can rfl rfl rfl (by decide +kernel) ⟨Nat.le_of_ble_eq_true rfl, Nat.le_of_ble_eq_true rfl⟩) (mb_preV hG hP hD 0 rfl rfl) rfl rfl hl.1 rfl (lv_room (Nat.le_of_ble_eq_true rfl)) dX8_canMove_20 ⟨Nat.le_of_ble_eq_true rfl, Nat.le_of_ble_eq_true rfl⟩) (fun r20 M20 H locs hF hP hD hS => ?_)
    refine lv_if_eq (tgt := 30) hx hb dX8_canMove_23 (by decide) (fun c_23 => ?_) (fun c_23 => ?_)
    · have hF := hF.1 c_23
      refine lv_iconst (v := 0) hx hb dX8_canMove_30 (by decide) ?_
      exact mb_ri (S := mb_m) (mc := 0) (ms := 0) (wf := fun u => gw8 Y o a u) C rfl (u := M20) hF hP hD hS dX8_canMove_31 (Nat.le_of_ble_eq_true rfl) (Nat.le_of_ble_eq_true rfl)
    · have hF := hF.2 c_23
      refine lv_iconst (v := 1) hx hb dX8_canMove_26 (by decide) ?_
      refine lv_goto (tgt := 31) hx hb dX8_canMove_27 (by decide) ?_
      exact mb_ri (S := mb_m) (mc := 0) (ms := 0) (wf := fun u => gw8 Y o a u) C rfl (u := M20) hF hP hD hS dX8_canMove_31 (Nat.le_of_ble_eq_true rfl) (Nat.le_of_ble_eq_true rfl)
end
section
noncomputable def PX8_sew_41 (N : Nat) (K : Int32 → mb_m → Prop) (M : mb_m) (x1 x2 y0 y1 y2 : Int32) : Prop := PX8_goes N M y2 y1 y0 (fun r41 M41 => (¬ r41 = 0 → vp_in x1 4 ∧ (vp_in (((200 : Int32) * x1) + (M41 11 x1.toNatClampNeg)) 800 ∧ (∀ M66 : mb_m, M66 = mb_u M41 12 (upd (M41 12) (((200 : Int32) * x1) + (M41 11 x1.toNatClampNeg)).toNatClampNeg x2) → (vp_in x1 4 ∧ (∀ v76 : Int32, v76 = ((M66 11 x1.toNatClampNeg) + (1 : Int32)) → (vp_in x1 4 ∧ (∀ M76 : mb_m, M76 = mb_u M66 11 (upd (M66 11) x1.toNatClampNeg v76) → (PX8_moves N M76 x2 (fun M79 => K (M79 15 0) M79))))))))) ∧ (r41 = 0 → K (0 : Int32) M41))
set_option maxHeartbeats 4000000 in
set_option maxRecDepth 100000 in
theorem wX8_sew_41 {p : Program} {l : Launch} {e : Env} {s : State} {m : MethodId} {below : List Frame} {meth : Method} {c : Code} {args : Array Value} {D : va_G} {Y : Nat → ClassId} {A : Nat → Prop} {o : Nat} {a : Nat → Nat} {N : Nat} {K : Int32 → mb_m → Prop} (C : mb_Cx p s m meth c args cX8_sew 5 (some .int) wsX8_sew RX8 D Y A) : ∀ (M : mb_m) (x1 x2 y0 y1 y2 : Int32) (H : Heap) (locs : List Loc) (ls : Array Slot), PX8_sew_41 N K  M x1 x2 y0 y1 y2 → va_P D vwCl (gw8 Y o a M) H → va_D A (gw8 Y o a M) → va_S A s.heap H locs → lv_has ls 5 [(0, .ref o), (1, .int x1), (2, .int x2)] → W p l e ({ frames := 4, cells := 0, slots := 0, locals := 87 } : Room) s m args below meth c H locs 0 0 (MQ below (va_Qi K (fun u t => mb_T D A (gw8 Y o a u) t) A) args s 0 0 A) (F0 m 41 ls [.int y0, .int y1, .int y2, .ref o]) := by
  obtain ⟨hx, hb, hr, hml, hts, hown, hlocks, hA, hG⟩ := id C
  have hK := hG.1
  intro M x1 x2 y0 y1 y2 H locs ls hF hP hD hS hl
  refine mb_cW hD hS hA (va_runV (As := [.int y2, .int y1, .int y0]) (rest := []) ⟨hx, hb, hml, hown, hts⟩ (cnX8_goes l D Y N o a M _ y2 y1 y0 _ hF) (cwV 3 hts gX8_sew_X8_goes rfl rfl rfl (by decide +kernel) ⟨Nat.le_of_ble_eq_true rfl, Nat.le_of_ble_eq_true rfl⟩) (mb_preV hG hP hD 0 rfl rfl) rfl rfl hl.1 rfl (lv_room (Nat.le_of_ble_eq_true rfl)) dX8_sew_41 ⟨Nat.le_of_ble_eq_true rfl, Nat.le_of_ble_eq_true rfl⟩) (fun r41 M41 H locs hF hP hD hS => ?_)
  refine lv_if_ne (tgt := 49) hx hb dX8_sew_44 (by decide) (fun c_44 => ?_) (fun c_44 => ?_)
  · have hF := hF.1 c_44
    refine lv_aload_n hx hb dX8_sew_49 rfl (lv_at hl 0 rfl) ?_
    refine va_get (D := D) (ci := 8) (v := .ref (a 12)) (C := RX8) (T := TX8) (N := 28) hx hb hts (fun _ h9 => List.mem_cons_of_mem _ (List.mem_append_right _ (h9))) hown hK hP 0 rfl rfl 12 (by decide) (hts (.fieldLink RX8 41 "MarbleBenchModel" "moved" "[I") (List.mem_of_getElem? (i := 1) rfl)) (fun _ h9 => h9) rfl dX8_sew_50 ?_
    refine lv_sipush (v := 200) hx hb dX8_sew_53 (by decide) ?_
    refine lv_iload_n hx hb dX8_sew_56 rfl (lv_at hl 1 rfl) ?_
    refine lv_imul hx hb dX8_sew_57 ?_
    refine lv_aload_n hx hb dX8_sew_58 rfl (lv_at hl 0 rfl) ?_
    refine va_get (D := D) (ci := 8) (v := .ref (a 11)) (C := RX8) (T := TX8) (N := 28) hx hb hts (fun _ h9 => List.mem_cons_of_mem _ (List.mem_append_right _ (h9))) hown hK hP 0 rfl rfl 11 (by decide) (hts (.fieldLink RX8 38 "MarbleBenchModel" "moves" "[I") (List.mem_of_getElem? (i := 2) rfl)) (fun _ h9 => h9) rfl dX8_sew_59 ?_
    refine lv_iload_n hx hb dX8_sew_62 rfl (lv_at hl 1 rfl) ?_
    obtain ⟨hi63, hF⟩ := hF
    refine va_iald hx hb hK hP 10 0 rfl rfl hi63 dX8_sew_63 ?_
    refine lv_iadd hx hb dX8_sew_64 ?_
    refine lv_iload_n hx hb dX8_sew_65 rfl (lv_at hl 2 rfl) ?_
    obtain ⟨hi66, hF⟩ := hF
    refine va_iast hx hb hK hP hD hS 11 0 rfl rfl hi66 dX8_sew_66 (fun H locs hP hD hS => ?_)
    obtain ⟨M66, eM66⟩ : ∃ y : mb_m, y = mb_u M41 12 (upd (M41 12) (((200 : Int32) * x1) + (M41 11 x1.toNatClampNeg)).toNatClampNeg x2) := ⟨_, rfl⟩
    have hF := hF M66 eM66
    have hP : va_P D vwCl (gw8 Y o a (mb_u M41 12 (upd (M41 12) (((200 : Int32) * x1) + (M41 11 x1.toNatClampNeg)).toNatClampNeg x2))) H := hP
    have hD : va_D A (gw8 Y o a (mb_u M41 12 (upd (M41 12) (((200 : Int32) * x1) + (M41 11 x1.toNatClampNeg)).toNatClampNeg x2))) := hD
    rw [← eM66] at hP hD
    refine lv_aload_n hx hb dX8_sew_67 rfl (lv_at hl 0 rfl) ?_
    refine va_get (D := D) (ci := 8) (v := .ref (a 11)) (C := RX8) (T := TX8) (N := 28) hx hb hts (fun _ h9 => List.mem_cons_of_mem _ (List.mem_append_right _ (h9))) hown hK hP 0 rfl rfl 11 (by decide) (hts (.fieldLink RX8 38 "MarbleBenchModel" "moves" "[I") (List.mem_of_getElem? (i := 2) rfl)) (fun _ h9 => h9) rfl dX8_sew_68 ?_
    refine lv_iload_n hx hb dX8_sew_71 rfl (lv_at hl 1 rfl) ?_
    refine lv_dup2_11 hx hb dX8_sew_72 rfl rfl ?_
    obtain ⟨hi73, hF⟩ := hF
    refine va_iald hx hb hK hP 10 0 rfl rfl hi73 dX8_sew_73 ?_
    refine lv_iconst (v := 1) hx hb dX8_sew_74 (by decide) ?_
    refine lv_iadd hx hb dX8_sew_75 ?_
    refine lv_topi (fun v76 ev76 => ?_)
    have hF := hF v76 ev76
    obtain ⟨hi76, hF⟩ := hF
    refine va_iast hx hb hK hP hD hS 10 0 rfl rfl hi76 dX8_sew_76 (fun H locs hP hD hS => ?_)
    obtain ⟨M76, eM76⟩ : ∃ y : mb_m, y = mb_u M66 11 (upd (M66 11) x1.toNatClampNeg v76) := ⟨_, rfl⟩
    have hF := hF M76 eM76
    have hP : va_P D vwCl (gw8 Y o a (mb_u M66 11 (upd (M66 11) x1.toNatClampNeg v76))) H := hP
    have hD : va_D A (gw8 Y o a (mb_u M66 11 (upd (M66 11) x1.toNatClampNeg v76))) := hD
    rw [← eM76] at hP hD
    refine lv_aload_n hx hb dX8_sew_77 rfl (lv_at hl 0 rfl) ?_
    refine lv_iload_n hx hb dX8_sew_78 rfl (lv_at hl 2 rfl) ?_
    refine mb_cWv hD hS hA (va_runV (As := [.int x2]) (rest := []) ⟨hx, hb, hml, hown, hts⟩ (cnX8_moves l D Y N o a M76 _ x2 _ hF) (cwV 1 hts gX8_sew_X8_moves rfl rfl rfl (by decide +kernel) ⟨Nat.le_of_ble_eq_true rfl, Nat.le_of_ble_eq_true rfl⟩) (mb_preV hG hP hD 0 rfl rfl) rfl rfl hl.1 rfl (lv_room (Nat.le_of_ble_eq_true rfl)) dX8_sew_79 ⟨Nat.le_of_ble_eq_true rfl, Nat.le_of_ble_eq_true rfl⟩) (fun M79 H locs hF hP hD hS => ?_)
    refine lv_aload_n hx hb dX8_sew_82 rfl (lv_at hl 0 rfl) ?_
    refine va_get (D := D) (ci := 8) (v := .int (M79 15 0)) (C := RX8) (T := TX8) (N := 28) hx hb hts (fun _ h9 => List.mem_cons_of_mem _ (List.mem_append_right _ (h9))) hown hK hP 0 rfl rfl 15 (by decide) (hts (.fieldLink RX8 125 "MarbleBenchModel" "length" "I") (List.mem_of_getElem? (i := 3) rfl)) (fun _ h9 => h9) rfl dX8_sew_83 ?_
    exact mb_ri (S := mb_m) (mc := 0) (ms := 0) (wf := fun u => gw8 Y o a u) C rfl (u := M79) hF hP hD hS dX8_sew_86 (Nat.le_of_ble_eq_true rfl) (Nat.le_of_ble_eq_true rfl)
  · have hF := hF.2 c_44
    refine lv_iconst (v := 0) hx hb dX8_sew_47 (by decide) ?_
    exact mb_ri (S := mb_m) (mc := 0) (ms := 0) (wf := fun u => gw8 Y o a u) C rfl (u := M41) hF hP hD hS dX8_sew_48 (Nat.le_of_ble_eq_true rfl) (Nat.le_of_ble_eq_true rfl)
noncomputable def PX8_sew_40 (N : Nat) (K : Int32 → mb_m → Prop) (M : mb_m) (x1 x2 y0 y1 : Int32) : Prop := PX8_sew_41 N K M x1 x2 (0 : Int32) y0 y1
set_option maxHeartbeats 4000000 in
set_option maxRecDepth 100000 in
theorem wX8_sew_40 {p : Program} {l : Launch} {e : Env} {s : State} {m : MethodId} {below : List Frame} {meth : Method} {c : Code} {args : Array Value} {D : va_G} {Y : Nat → ClassId} {A : Nat → Prop} {o : Nat} {a : Nat → Nat} {N : Nat} {K : Int32 → mb_m → Prop} (C : mb_Cx p s m meth c args cX8_sew 5 (some .int) wsX8_sew RX8 D Y A) : ∀ (M : mb_m) (x1 x2 y0 y1 : Int32) (H : Heap) (locs : List Loc) (ls : Array Slot), PX8_sew_40 N K  M x1 x2 y0 y1 → va_P D vwCl (gw8 Y o a M) H → va_D A (gw8 Y o a M) → va_S A s.heap H locs → lv_has ls 5 [(0, .ref o), (1, .int x1), (2, .int x2)] → W p l e ({ frames := 4, cells := 0, slots := 0, locals := 87 } : Room) s m args below meth c H locs 0 0 (MQ below (va_Qi K (fun u t => mb_T D A (gw8 Y o a u) t) A) args s 0 0 A) (F0 m 40 ls [.int y0, .int y1, .ref o]) := by
  obtain ⟨hx, hb, hr, hml, hts, hown, hlocks, hA, hG⟩ := id C
  have hK := hG.1
  intro M x1 x2 y0 y1 H locs ls hF hP hD hS hl
  refine lv_iconst (v := 0) hx hb dX8_sew_40 (by decide) ?_
  exact wX8_sew_41 C M x1 x2 (0 : Int32) y0 y1 _ _ _ hF hP hD hS (lv_sub hl [0, 1, 2] rfl)
noncomputable def PX8_sew (N : Nat) (M : mb_m) (x1 x2 : Int32) (K : Int32 → mb_m → Prop) : Prop := PX8_isBook N M x1 (fun r2 M2 => PX8_in N x2 (0 : Int32) (4 : Int32) (fun r9 _ => (r2 = 0 → PX8_sew_40 N K M2 x1 x2 r9 r2) ∧ (¬ r2 = 0 → (r9 = 0 → PX8_sew_40 N K M2 x1 x2 r9 r2) ∧ (¬ r9 = 0 → PX8_canMove N M2 x1 x2 (fun r30 M30 => (r30 = 0 → PX8_sew_40 N K M30 x1 x2 r9 r2) ∧ (¬ r30 = 0 → PX8_sew_41 N K M30 x1 x2 (1 : Int32) r9 r2))))))
set_option maxHeartbeats 4000000 in
set_option maxRecDepth 100000 in
theorem cnX8_sew (l : Launch) (D : va_G) (Y : Nat → ClassId) (N : Nat) (o : Nat) (a : Nat → Nat) (M : mb_m) (sz : Nat) (x1 x2 : Int32) (K : Int32 → mb_m → Prop) (hF : PX8_sew N M x1 x2 K) : Met l yX8_sew wsX8_sew ({ frames := 4, cells := 0, slots := 0, locals := 87 } : Room) (va_Pc [.ref o, .int x1, .int x2] (mb_B D Y (gw8 Y o a M) sz)) (va_Qi K (fun u t => mb_T D (va_A (gw8 Y o a M) sz) (gw8 Y o a u) t) (va_A (gw8 Y o a M) sz)) 0 0 (va_A (gw8 Y o a M) sz) := by
  refine mb_begin (cc := cX8_sew) (maxL := 5) (ret := (some .int)) (by decide +kernel) rfl (Nat.le_of_ble_eq_true rfl) ?_
  intro p e s m below meth c ls C hsz hnm hP hD hl
  generalize hAe : va_A (gw8 Y o a M) sz = A at C hD ⊢
  have C : mb_Cx p s m meth c ([.ref o, .int x1, .int x2] : List Value).toArray cX8_sew 5 (some .int) wsX8_sew RX8 D Y A := C
  obtain ⟨hx, hb, hr, hml, hts, hown, hlocks, hA, hG⟩ := id C
  have hK := hG.1
  have hS : va_S A s.heap s.heap [] := va_S.rf
  have hl : lv_has ls 5 [(0, .ref o), (1, .int x1), (2, .int x2)] := hl
  refine lv_aload_n hx hb dX8_sew_0 rfl (lv_at hl 0 rfl) ?_
  refine lv_iload_n hx hb dX8_sew_1 rfl (lv_at hl 1 rfl) ?_
  refine mb_cW hD hS hA (va_runV (As := [.int x1]) (rest := []) ⟨hx, hb, hml, hown, hts⟩ (cnX8_isBook l D Y N o a M _ x1 _ hF) (cwV 1 hts gX8_sew_X8_isBook rfl rfl rfl (by decide +kernel) ⟨Nat.le_of_ble_eq_true rfl, Nat.le_of_ble_eq_true rfl⟩) (mb_preV hG hP hD 0 rfl rfl) rfl rfl hl.1 rfl (lv_room (Nat.le_of_ble_eq_true rfl)) dX8_sew_2 ⟨Nat.le_of_ble_eq_true rfl, Nat.le_of_ble_eq_true rfl⟩) (fun r2 M2 H locs hF hP hD hS => ?_)
  refine lv_istore_n (lv' := [(3, .int r2), (0, .ref o), (1, .int x1), (2, .int x2)]) hx hb dX8_sew_5 rfl hl (by decide) rfl (fun ls hl => ?_)
  refine lv_iload_n hx hb dX8_sew_6 rfl (lv_at hl 3 rfl) ?_
  refine lv_iconst (v := 0) hx hb dX8_sew_7 (by decide) ?_
  refine lv_iconst (v := 4) hx hb dX8_sew_8 (by decide) ?_
  refine mb_cE hP hS hA (va_runS (As := [.int x2, .int (0 : Int32), .int (4 : Int32)]) (rest := []) ⟨hx, hb, hml, hown, hts⟩ (cnX8_in l D Y N _ x2 (0 : Int32) (4 : Int32) _ hF) (va_cwS 3 hts gX8_sew_X8_in rfl rfl rfl (by decide +kernel) ⟨Nat.le_of_ble_eq_true rfl, Nat.le_of_ble_eq_true rfl⟩) (mb_preS (A := A) hG mb_P0 mb_D0) rfl rfl hl.1 rfl (lv_room (Nat.le_of_ble_eq_true rfl)) dX8_sew_9 ⟨Nat.le_of_ble_eq_true rfl, Nat.le_of_ble_eq_true rfl⟩) (fun r9 H locs hF hP hS => ?_)
  refine lv_istore (lv' := [(4, .int r9), (3, .int r2), (0, .ref o), (1, .int x1), (2, .int x2)]) hx hb dX8_sew_12 hl (by decide) rfl (fun ls hl => ?_)
  refine lv_aload_n hx hb dX8_sew_14 rfl (lv_at hl 2 rfl) ?_
  refine lv_iload_n hx hb dX8_sew_15 rfl (lv_at hl 1 rfl) ?_
  refine lv_iload hx hb dX8_sew_16 (lv_at hl 0 rfl) ?_
  refine lv_iload_n hx hb dX8_sew_18 rfl (lv_at hl 1 rfl) ?_
  refine lv_if_eq (tgt := 40) hx hb dX8_sew_19 (by decide) (fun c_19 => ?_) (fun c_19 => ?_)
  · have hF := hF.1 c_19
    exact wX8_sew_40 C M2 x1 x2 r9 r2 _ _ _ hF hP hD hS (lv_sub hl [2, 3, 4] rfl)
  · have hF := hF.2 c_19
    refine lv_iload hx hb dX8_sew_22 (lv_at hl 0 rfl) ?_
    refine lv_if_eq (tgt := 40) hx hb dX8_sew_24 (by decide) (fun c_24 => ?_) (fun c_24 => ?_)
    · have hF := hF.1 c_24
      exact wX8_sew_40 C M2 x1 x2 r9 r2 _ _ _ hF hP hD hS (lv_sub hl [2, 3, 4] rfl)
    · have hF := hF.2 c_24
      refine lv_aload_n hx hb dX8_sew_27 rfl (lv_at hl 2 rfl) ?_
      refine lv_iload_n hx hb dX8_sew_28 rfl (lv_at hl 3 rfl) ?_
      refine lv_iload_n hx hb dX8_sew_29 rfl (lv_at hl 4 rfl) ?_
      refine mb_cW hD hS hA (va_runV (As := [.int x1, .int x2]) (rest := [.int r9, .int r2, .ref o]) ⟨hx, hb, hml, hown, hts⟩ (cnX8_canMove l D Y N o a M2 _ x1 x2 _ hF) (cwV 2 hts gX8_sew_X8_canMove rfl rfl rfl (by decide +kernel) ⟨Nat.le_of_ble_eq_true rfl, Nat.le_of_ble_eq_true rfl⟩) (mb_preV hG hP hD 0 rfl rfl) rfl rfl hl.1 rfl (lv_room (Nat.le_of_ble_eq_true rfl)) dX8_sew_30 ⟨Nat.le_of_ble_eq_true rfl, Nat.le_of_ble_eq_true rfl⟩) (fun r30 M30 H locs hF hP hD hS => ?_)
      refine lv_if_eq (tgt := 40) hx hb dX8_sew_33 (by decide) (fun c_33 => ?_) (fun c_33 => ?_)
      · have hF := hF.1 c_33
        exact wX8_sew_40 C M30 x1 x2 r9 r2 _ _ _ hF hP hD hS (lv_sub hl [2, 3, 4] rfl)
      · have hF := hF.2 c_33
        refine lv_iconst (v := 1) hx hb dX8_sew_36 (by decide) ?_
        refine lv_goto (tgt := 41) hx hb dX8_sew_37 (by decide) ?_
        exact wX8_sew_41 C M30 x1 x2 (1 : Int32) r9 r2 _ _ _ hF hP hD hS (lv_sub hl [2, 3, 4] rfl)
end
section
noncomputable def PX8_unsew_43 (N : Nat) (K : Int32 → mb_m → Prop) (M : mb_m) (x1 x2 y0 y1 y2 : Int32) : Prop := PX8_goes N M y2 y1 y0 (fun r43 M43 => (¬ r43 = 0 → vp_in x1 4 ∧ (∀ v60 : Int32, v60 = ((M43 11 x1.toNatClampNeg) - x2) → (vp_in x1 4 ∧ (∀ M60 : mb_m, M60 = mb_u M43 11 (upd (M43 11) x1.toNatClampNeg v60) → (PX8_follows N M60 x1 (fun M63 => K (M63 15 0) M63)))))) ∧ (r43 = 0 → K (0 : Int32) M43))
set_option maxHeartbeats 4000000 in
set_option maxRecDepth 100000 in
theorem wX8_unsew_43 {p : Program} {l : Launch} {e : Env} {s : State} {m : MethodId} {below : List Frame} {meth : Method} {c : Code} {args : Array Value} {D : va_G} {Y : Nat → ClassId} {A : Nat → Prop} {o : Nat} {a : Nat → Nat} {N : Nat} {K : Int32 → mb_m → Prop} (C : mb_Cx p s m meth c args cX8_unsew 4 (some .int) wsX8_unsew RX8 D Y A) : ∀ (M : mb_m) (x1 x2 y0 y1 y2 : Int32) (H : Heap) (locs : List Loc) (ls : Array Slot), PX8_unsew_43 N K  M x1 x2 y0 y1 y2 → va_P D vwCl (gw8 Y o a M) H → va_D A (gw8 Y o a M) → va_S A s.heap H locs → lv_has ls 4 [(0, .ref o), (1, .int x1), (2, .int x2)] → W p l e ({ frames := 3, cells := 0, slots := 0, locals := 65 } : Room) s m args below meth c H locs 0 0 (MQ below (va_Qi K (fun u t => mb_T D A (gw8 Y o a u) t) A) args s 0 0 A) (F0 m 43 ls [.int y0, .int y1, .int y2, .ref o]) := by
  obtain ⟨hx, hb, hr, hml, hts, hown, hlocks, hA, hG⟩ := id C
  have hK := hG.1
  intro M x1 x2 y0 y1 y2 H locs ls hF hP hD hS hl
  refine mb_cW hD hS hA (va_runV (As := [.int y2, .int y1, .int y0]) (rest := []) ⟨hx, hb, hml, hown, hts⟩ (cnX8_goes l D Y N o a M _ y2 y1 y0 _ hF) (cwV 3 hts gX8_unsew_X8_goes rfl rfl rfl (by decide +kernel) ⟨Nat.le_of_ble_eq_true rfl, Nat.le_of_ble_eq_true rfl⟩) (mb_preV hG hP hD 0 rfl rfl) rfl rfl hl.1 rfl (lv_room (Nat.le_of_ble_eq_true rfl)) dX8_unsew_43 ⟨Nat.le_of_ble_eq_true rfl, Nat.le_of_ble_eq_true rfl⟩) (fun r43 M43 H locs hF hP hD hS => ?_)
  refine lv_if_ne (tgt := 51) hx hb dX8_unsew_46 (by decide) (fun c_46 => ?_) (fun c_46 => ?_)
  · have hF := hF.1 c_46
    refine lv_aload_n hx hb dX8_unsew_51 rfl (lv_at hl 0 rfl) ?_
    refine va_get (D := D) (ci := 8) (v := .ref (a 11)) (C := RX8) (T := TX8) (N := 28) hx hb hts (fun _ h9 => List.mem_cons_of_mem _ (List.mem_append_right _ (h9))) hown hK hP 0 rfl rfl 11 (by decide) (hts (.fieldLink RX8 38 "MarbleBenchModel" "moves" "[I") (List.mem_of_getElem? (i := 1) rfl)) (fun _ h9 => h9) rfl dX8_unsew_52 ?_
    refine lv_iload_n hx hb dX8_unsew_55 rfl (lv_at hl 1 rfl) ?_
    refine lv_dup2_11 hx hb dX8_unsew_56 rfl rfl ?_
    obtain ⟨hi57, hF⟩ := hF
    refine va_iald hx hb hK hP 10 0 rfl rfl hi57 dX8_unsew_57 ?_
    refine lv_iload_n hx hb dX8_unsew_58 rfl (lv_at hl 2 rfl) ?_
    refine lv_isub hx hb dX8_unsew_59 ?_
    refine lv_topi (fun v60 ev60 => ?_)
    have hF := hF v60 ev60
    obtain ⟨hi60, hF⟩ := hF
    refine va_iast hx hb hK hP hD hS 10 0 rfl rfl hi60 dX8_unsew_60 (fun H locs hP hD hS => ?_)
    obtain ⟨M60, eM60⟩ : ∃ y : mb_m, y = mb_u M43 11 (upd (M43 11) x1.toNatClampNeg v60) := ⟨_, rfl⟩
    have hF := hF M60 eM60
    have hP : va_P D vwCl (gw8 Y o a (mb_u M43 11 (upd (M43 11) x1.toNatClampNeg v60))) H := hP
    have hD : va_D A (gw8 Y o a (mb_u M43 11 (upd (M43 11) x1.toNatClampNeg v60))) := hD
    rw [← eM60] at hP hD
    refine lv_aload_n hx hb dX8_unsew_61 rfl (lv_at hl 0 rfl) ?_
    refine lv_iload_n hx hb dX8_unsew_62 rfl (lv_at hl 1 rfl) ?_
    refine mb_cWv hD hS hA (va_runV (As := [.int x1]) (rest := []) ⟨hx, hb, hml, hown, hts⟩ (cnX8_follows l D Y N o a M60 _ x1 _ hF) (cwV 1 hts gX8_unsew_X8_follows rfl rfl rfl (by decide +kernel) ⟨Nat.le_of_ble_eq_true rfl, Nat.le_of_ble_eq_true rfl⟩) (mb_preV hG hP hD 0 rfl rfl) rfl rfl hl.1 rfl (lv_room (Nat.le_of_ble_eq_true rfl)) dX8_unsew_63 ⟨Nat.le_of_ble_eq_true rfl, Nat.le_of_ble_eq_true rfl⟩) (fun M63 H locs hF hP hD hS => ?_)
    refine lv_aload_n hx hb dX8_unsew_66 rfl (lv_at hl 0 rfl) ?_
    refine va_get (D := D) (ci := 8) (v := .int (M63 15 0)) (C := RX8) (T := TX8) (N := 28) hx hb hts (fun _ h9 => List.mem_cons_of_mem _ (List.mem_append_right _ (h9))) hown hK hP 0 rfl rfl 15 (by decide) (hts (.fieldLink RX8 125 "MarbleBenchModel" "length" "I") (List.mem_of_getElem? (i := 2) rfl)) (fun _ h9 => h9) rfl dX8_unsew_67 ?_
    exact mb_ri (S := mb_m) (mc := 0) (ms := 0) (wf := fun u => gw8 Y o a u) C rfl (u := M63) hF hP hD hS dX8_unsew_70 (Nat.le_of_ble_eq_true rfl) (Nat.le_of_ble_eq_true rfl)
  · have hF := hF.2 c_46
    refine lv_iconst (v := 0) hx hb dX8_unsew_49 (by decide) ?_
    exact mb_ri (S := mb_m) (mc := 0) (ms := 0) (wf := fun u => gw8 Y o a u) C rfl (u := M43) hF hP hD hS dX8_unsew_50 (Nat.le_of_ble_eq_true rfl) (Nat.le_of_ble_eq_true rfl)
noncomputable def PX8_unsew_42 (N : Nat) (K : Int32 → mb_m → Prop) (M : mb_m) (x1 x2 y0 y1 : Int32) : Prop := PX8_unsew_43 N K M x1 x2 (0 : Int32) y0 y1
set_option maxHeartbeats 4000000 in
set_option maxRecDepth 100000 in
theorem wX8_unsew_42 {p : Program} {l : Launch} {e : Env} {s : State} {m : MethodId} {below : List Frame} {meth : Method} {c : Code} {args : Array Value} {D : va_G} {Y : Nat → ClassId} {A : Nat → Prop} {o : Nat} {a : Nat → Nat} {N : Nat} {K : Int32 → mb_m → Prop} (C : mb_Cx p s m meth c args cX8_unsew 4 (some .int) wsX8_unsew RX8 D Y A) : ∀ (M : mb_m) (x1 x2 y0 y1 : Int32) (H : Heap) (locs : List Loc) (ls : Array Slot), PX8_unsew_42 N K  M x1 x2 y0 y1 → va_P D vwCl (gw8 Y o a M) H → va_D A (gw8 Y o a M) → va_S A s.heap H locs → lv_has ls 4 [(0, .ref o), (1, .int x1), (2, .int x2)] → W p l e ({ frames := 3, cells := 0, slots := 0, locals := 65 } : Room) s m args below meth c H locs 0 0 (MQ below (va_Qi K (fun u t => mb_T D A (gw8 Y o a u) t) A) args s 0 0 A) (F0 m 42 ls [.int y0, .int y1, .ref o]) := by
  obtain ⟨hx, hb, hr, hml, hts, hown, hlocks, hA, hG⟩ := id C
  have hK := hG.1
  intro M x1 x2 y0 y1 H locs ls hF hP hD hS hl
  refine lv_iconst (v := 0) hx hb dX8_unsew_42 (by decide) ?_
  exact wX8_unsew_43 C M x1 x2 (0 : Int32) y0 y1 _ _ _ hF hP hD hS (lv_sub hl [0, 1, 2] rfl)
noncomputable def PX8_unsew_33 (N : Nat) (K : Int32 → mb_m → Prop) (M : mb_m) (x1 x2 y0 y2 y3 : Int32) : Prop := vp_in y0 4 ∧ (((M 11 y0.toNatClampNeg) < x2 → PX8_unsew_42 N K M x1 x2 y2 y3) ∧ (¬ (M 11 y0.toNatClampNeg) < x2 → PX8_unsew_43 N K M x1 x2 (1 : Int32) y2 y3))
set_option maxHeartbeats 4000000 in
set_option maxRecDepth 100000 in
theorem wX8_unsew_33 {p : Program} {l : Launch} {e : Env} {s : State} {m : MethodId} {below : List Frame} {meth : Method} {c : Code} {args : Array Value} {D : va_G} {Y : Nat → ClassId} {A : Nat → Prop} {o : Nat} {a : Nat → Nat} {N : Nat} {K : Int32 → mb_m → Prop} (C : mb_Cx p s m meth c args cX8_unsew 4 (some .int) wsX8_unsew RX8 D Y A) : ∀ (M : mb_m) (x1 x2 y0 y2 y3 : Int32) (H : Heap) (locs : List Loc) (ls : Array Slot), PX8_unsew_33 N K  M x1 x2 y0 y2 y3 → va_P D vwCl (gw8 Y o a M) H → va_D A (gw8 Y o a M) → va_S A s.heap H locs → lv_has ls 4 [(0, .ref o), (1, .int x1), (2, .int x2)] → W p l e ({ frames := 3, cells := 0, slots := 0, locals := 65 } : Room) s m args below meth c H locs 0 0 (MQ below (va_Qi K (fun u t => mb_T D A (gw8 Y o a u) t) A) args s 0 0 A) (F0 m 33 ls [.int y0, .ref (a 11), .int y2, .int y3, .ref o]) := by
  obtain ⟨hx, hb, hr, hml, hts, hown, hlocks, hA, hG⟩ := id C
  have hK := hG.1
  intro M x1 x2 y0 y2 y3 H locs ls hF hP hD hS hl
  obtain ⟨hi33, hF⟩ := hF
  refine va_iald hx hb hK hP 10 0 rfl rfl hi33 dX8_unsew_33 ?_
  refine lv_iload_n hx hb dX8_unsew_34 rfl (lv_at hl 2 rfl) ?_
  refine lv_icmp_lt (tgt := 42) hx hb dX8_unsew_35 (by decide) (fun c_35 => ?_) (fun c_35 => ?_)
  · have hF := hF.1 c_35
    exact wX8_unsew_42 C M x1 x2 y2 y3 _ _ _ hF hP hD hS (lv_sub hl [0, 1, 2] rfl)
  · have hF := hF.2 c_35
    refine lv_iconst (v := 1) hx hb dX8_unsew_38 (by decide) ?_
    refine lv_goto (tgt := 43) hx hb dX8_unsew_39 (by decide) ?_
    exact wX8_unsew_43 C M x1 x2 (1 : Int32) y2 y3 _ _ _ hF hP hD hS (lv_sub hl [0, 1, 2] rfl)
noncomputable def PX8_unsew (N : Nat) (M : mb_m) (x1 x2 : Int32) (K : Int32 → mb_m → Prop) : Prop := PX8_isBook N M x1 (fun r2 M2 => PX8_in N x2 (1 : Int32) (200 : Int32) (fun r13 _ => (r2 = 0 → PX8_unsew_42 N K M2 x1 x2 r13 r2) ∧ (¬ r2 = 0 → (r2 = 0 → PX8_unsew_33 N K M2 x1 x2 (0 : Int32) r13 r2) ∧ (¬ r2 = 0 → PX8_unsew_33 N K M2 x1 x2 x1 r13 r2))))
set_option maxHeartbeats 4000000 in
set_option maxRecDepth 100000 in
theorem cnX8_unsew (l : Launch) (D : va_G) (Y : Nat → ClassId) (N : Nat) (o : Nat) (a : Nat → Nat) (M : mb_m) (sz : Nat) (x1 x2 : Int32) (K : Int32 → mb_m → Prop) (hF : PX8_unsew N M x1 x2 K) : Met l yX8_unsew wsX8_unsew ({ frames := 3, cells := 0, slots := 0, locals := 65 } : Room) (va_Pc [.ref o, .int x1, .int x2] (mb_B D Y (gw8 Y o a M) sz)) (va_Qi K (fun u t => mb_T D (va_A (gw8 Y o a M) sz) (gw8 Y o a u) t) (va_A (gw8 Y o a M) sz)) 0 0 (va_A (gw8 Y o a M) sz) := by
  refine mb_begin (cc := cX8_unsew) (maxL := 4) (ret := (some .int)) (by decide +kernel) rfl (Nat.le_of_ble_eq_true rfl) ?_
  intro p e s m below meth c ls C hsz hnm hP hD hl
  generalize hAe : va_A (gw8 Y o a M) sz = A at C hD ⊢
  have C : mb_Cx p s m meth c ([.ref o, .int x1, .int x2] : List Value).toArray cX8_unsew 4 (some .int) wsX8_unsew RX8 D Y A := C
  obtain ⟨hx, hb, hr, hml, hts, hown, hlocks, hA, hG⟩ := id C
  have hK := hG.1
  have hS : va_S A s.heap s.heap [] := va_S.rf
  have hl : lv_has ls 4 [(0, .ref o), (1, .int x1), (2, .int x2)] := hl
  refine lv_aload_n hx hb dX8_unsew_0 rfl (lv_at hl 0 rfl) ?_
  refine lv_iload_n hx hb dX8_unsew_1 rfl (lv_at hl 1 rfl) ?_
  refine mb_cW hD hS hA (va_runV (As := [.int x1]) (rest := []) ⟨hx, hb, hml, hown, hts⟩ (cnX8_isBook l D Y N o a M _ x1 _ hF) (cwV 1 hts gX8_unsew_X8_isBook rfl rfl rfl (by decide +kernel) ⟨Nat.le_of_ble_eq_true rfl, Nat.le_of_ble_eq_true rfl⟩) (mb_preV hG hP hD 0 rfl rfl) rfl rfl hl.1 rfl (lv_room (Nat.le_of_ble_eq_true rfl)) dX8_unsew_2 ⟨Nat.le_of_ble_eq_true rfl, Nat.le_of_ble_eq_true rfl⟩) (fun r2 M2 H locs hF hP hD hS => ?_)
  refine lv_istore_n (lv' := [(3, .int r2), (0, .ref o), (1, .int x1), (2, .int x2)]) hx hb dX8_unsew_5 rfl hl (by decide) rfl (fun ls hl => ?_)
  refine lv_aload_n hx hb dX8_unsew_6 rfl (lv_at hl 1 rfl) ?_
  refine lv_iload_n hx hb dX8_unsew_7 rfl (lv_at hl 0 rfl) ?_
  refine lv_iload_n hx hb dX8_unsew_8 rfl (lv_at hl 3 rfl) ?_
  refine lv_iconst (v := 1) hx hb dX8_unsew_9 (by decide) ?_
  refine lv_sipush (v := 200) hx hb dX8_unsew_10 (by decide) ?_
  refine mb_cE hP hS hA (va_runS (As := [.int x2, .int (1 : Int32), .int (200 : Int32)]) (rest := [.int r2, .ref o]) ⟨hx, hb, hml, hown, hts⟩ (cnX8_in l D Y N _ x2 (1 : Int32) (200 : Int32) _ hF) (va_cwS 3 hts gX8_unsew_X8_in rfl rfl rfl (by decide +kernel) ⟨Nat.le_of_ble_eq_true rfl, Nat.le_of_ble_eq_true rfl⟩) (mb_preS (A := A) hG mb_P0 mb_D0) rfl rfl hl.1 rfl (lv_room (Nat.le_of_ble_eq_true rfl)) dX8_unsew_13 ⟨Nat.le_of_ble_eq_true rfl, Nat.le_of_ble_eq_true rfl⟩) (fun r13 H locs hF hP hS => ?_)
  refine lv_iload_n hx hb dX8_unsew_16 rfl (lv_at hl 0 rfl) ?_
  refine lv_if_eq (tgt := 42) hx hb dX8_unsew_17 (by decide) (fun c_17 => ?_) (fun c_17 => ?_)
  · have hF := hF.1 c_17
    exact wX8_unsew_42 C M2 x1 x2 r13 r2 _ _ _ hF hP hD hS (lv_sub hl [1, 2, 3] rfl)
  · have hF := hF.2 c_17
    refine lv_aload_n hx hb dX8_unsew_20 rfl (lv_at hl 1 rfl) ?_
    refine va_get (D := D) (ci := 8) (v := .ref (a 11)) (C := RX8) (T := TX8) (N := 28) hx hb hts (fun _ h9 => List.mem_cons_of_mem _ (List.mem_append_right _ (h9))) hown hK hP 0 rfl rfl 11 (by decide) (hts (.fieldLink RX8 38 "MarbleBenchModel" "moves" "[I") (List.mem_of_getElem? (i := 1) rfl)) (fun _ h9 => h9) rfl dX8_unsew_21 ?_
    refine lv_iload_n hx hb dX8_unsew_24 rfl (lv_at hl 0 rfl) ?_
    refine lv_if_eq (tgt := 32) hx hb dX8_unsew_25 (by decide) (fun c_25 => ?_) (fun c_25 => ?_)
    · have hF := hF.1 c_25
      refine lv_iconst (v := 0) hx hb dX8_unsew_32 (by decide) ?_
      exact wX8_unsew_33 C M2 x1 x2 (0 : Int32) r13 r2 _ _ _ hF hP hD hS (lv_sub hl [1, 2, 3] rfl)
    · have hF := hF.2 c_25
      refine lv_iload_n hx hb dX8_unsew_28 rfl (lv_at hl 2 rfl) ?_
      refine lv_goto (tgt := 33) hx hb dX8_unsew_29 (by decide) ?_
      exact wX8_unsew_33 C M2 x1 x2 x1 r13 r2 _ _ _ hF hP hD hS (lv_sub hl [1, 2, 3] rfl)
end
section
noncomputable def PX8_holds_38 (N : Nat) (K : Int32 → mb_m → Prop) (b5 : mb_m → Int32 → Int32 → Int32 → Int32 → Prop) (M : mb_m) (x1 x2 x4 y0 y1 : Int32) : Prop := ∀ v39 : Int32, v39 = (y1 + y0) → (∀ v40 : Int32, v40 = x4 + (1 : Int32) → (b5 M x1 x2 v39 v40))
set_option maxHeartbeats 4000000 in
set_option maxRecDepth 100000 in
theorem wX8_holds_38 {p : Program} {l : Launch} {e : Env} {s : State} {m : MethodId} {below : List Frame} {meth : Method} {c : Code} {args : Array Value} {D : va_G} {Y : Nat → ClassId} {A : Nat → Prop} {o : Nat} {a : Nat → Nat} {N : Nat} {K : Int32 → mb_m → Prop} {b5 : mb_m → Int32 → Int32 → Int32 → Int32 → Prop} (C : mb_Cx p s m meth c args cX8_holds 5 (some .boolean) wsX8_holds RX8 D Y A) (hb5 : ∀ (M : mb_m) (x1 x2 x3 x4 : Int32) (H : Heap) (locs : List Loc) (ls : Array Slot), b5 M x1 x2 x3 x4 → va_P D vwCl (gw8 Y o a M) H → va_D A (gw8 Y o a M) → va_S A s.heap H locs → lv_has ls 5 [(0, .ref o), (1, .int x1), (2, .int x2), (3, .int x3), (4, .int x4)] → W p l e ({ frames := 0, cells := 0, slots := 0, locals := 0 } : Room) s m args below meth c H locs 0 0 (MQ below (va_Qi K (fun u t => mb_T D A (gw8 Y o a u) t) A) args s 0 0 A) (F0 m 5 ls [])) : ∀ (M : mb_m) (x1 x2 x4 y0 y1 : Int32) (H : Heap) (locs : List Loc) (ls : Array Slot), PX8_holds_38 N K b5 M x1 x2 x4 y0 y1 → va_P D vwCl (gw8 Y o a M) H → va_D A (gw8 Y o a M) → va_S A s.heap H locs → lv_has ls 5 [(0, .ref o), (1, .int x1), (2, .int x2), (4, .int x4)] → W p l e ({ frames := 0, cells := 0, slots := 0, locals := 0 } : Room) s m args below meth c H locs 0 0 (MQ below (va_Qi K (fun u t => mb_T D A (gw8 Y o a u) t) A) args s 0 0 A) (F0 m 38 ls [.int y0, .int y1]) := by
  obtain ⟨hx, hb, hr, hml, hts, hown, hlocks, hA, hG⟩ := id C
  have hK := hG.1
  intro M x1 x2 x4 y0 y1 H locs ls hF hP hD hS hl
  refine lv_iadd hx hb dX8_holds_38 ?_
  refine lv_topi (fun v39 ev39 => ?_)
  have hF := hF v39 ev39
  refine lv_istore_n (lv' := [(3, .int v39), (0, .ref o), (1, .int x1), (2, .int x2), (4, .int x4)]) hx hb dX8_holds_39 rfl hl (by decide) rfl (fun ls hl => ?_)
  obtain ⟨v40, ev40⟩ : ∃ y : Int32, y = x4 + (1 : Int32) := ⟨_, rfl⟩
  have hF := hF v40 ev40
  refine lv_iinc (v := v40) (lv' := [(4, .int v40), (3, .int v39), (0, .ref o), (1, .int x1), (2, .int x2)]) hx hb dX8_holds_40 hl (k := 4) rfl (by rw [ev40]; rfl) (by decide) rfl (fun ls hl => ?_)
  refine lv_goto (tgt := 5) hx hb dX8_holds_43 (by decide) ?_
  exact hb5 M x1 x2 v39 v40 _ _ _ hF hP hD hS (lv_sub hl [2, 3, 4, 1, 0] rfl)
noncomputable def PX8_holds_5_b (N : Nat) (K : Int32 → mb_m → Prop) (b5 : mb_m → Int32 → Int32 → Int32 → Int32 → Prop) (M : mb_m) (x1 x2 x3 x4 : Int32) : Prop := vp_in x1 4 ∧ ((((M 7 x1.toNatClampNeg) - (1 : Int32)) ≤ x4 → vp_in x1 4 ∧ ((x3 < ((M 7 x1.toNatClampNeg) / (2 : Int32)) → K (0 : Int32) M) ∧ (¬ x3 < ((M 7 x1.toNatClampNeg) / (2 : Int32)) → K (1 : Int32) M))) ∧ (¬ ((M 7 x1.toNatClampNeg) - (1 : Int32)) ≤ x4 → vp_in (((5 : Int32) * x2) + x4) 40 ∧ (((M 13 (((5 : Int32) * x2) + x4).toNatClampNeg) ≤ 0 → PX8_holds_38 N K b5 M x1 x2 x4 (0 : Int32) x3) ∧ (¬ (M 13 (((5 : Int32) * x2) + x4).toNatClampNeg) ≤ 0 → PX8_holds_38 N K b5 M x1 x2 x4 (1 : Int32) x3))))
noncomputable def PX8_holds_5 (N : Nat) (K : Int32 → mb_m → Prop) (n : Nat) : mb_m → Int32 → Int32 → Int32 → Int32 → Prop := Nat.rec (motive := fun _ => mb_m → Int32 → Int32 → Int32 → Int32 → Prop) (fun _ _ _ _ _ => False) (fun _ b5 => PX8_holds_5_b N K  b5) n
set_option maxHeartbeats 4000000 in
set_option maxRecDepth 100000 in
theorem wX8_holds_5 {p : Program} {l : Launch} {e : Env} {s : State} {m : MethodId} {below : List Frame} {meth : Method} {c : Code} {args : Array Value} {D : va_G} {Y : Nat → ClassId} {A : Nat → Prop} {o : Nat} {a : Nat → Nat} {N : Nat} {K : Int32 → mb_m → Prop} (C : mb_Cx p s m meth c args cX8_holds 5 (some .boolean) wsX8_holds RX8 D Y A) : ∀ (n : Nat), (∀ (M : mb_m) (x1 x2 x3 x4 : Int32) (H : Heap) (locs : List Loc) (ls : Array Slot), PX8_holds_5 N K  n M x1 x2 x3 x4 → va_P D vwCl (gw8 Y o a M) H → va_D A (gw8 Y o a M) → va_S A s.heap H locs → lv_has ls 5 [(0, .ref o), (1, .int x1), (2, .int x2), (3, .int x3), (4, .int x4)] → W p l e ({ frames := 0, cells := 0, slots := 0, locals := 0 } : Room) s m args below meth c H locs 0 0 (MQ below (va_Qi K (fun u t => mb_T D A (gw8 Y o a u) t) A) args s 0 0 A) (F0 m 5 ls [])) := by
  obtain ⟨hx, hb, hr, hml, hts, hown, hlocks, hA, hG⟩ := id C
  have hK := hG.1
  intro n
  induction n with
  | zero => intro M x1 x2 x3 x4 H locs ls hF; exact (show False from hF).elim
  | succ n ih =>
    intro M x1 x2 x3 x4 H locs ls hF hP hD hS hl
    have hF : PX8_holds_5_b N K  (PX8_holds_5 N K  n) M x1 x2 x3 x4 := hF
    refine lv_iload hx hb dX8_holds_5 (lv_at hl 4 rfl) ?_
    refine lv_aload_n hx hb dX8_holds_7 rfl (lv_at hl 0 rfl) ?_
    refine va_get (D := D) (ci := 8) (v := .ref (a 7)) (C := RX8) (T := TX8) (N := 28) hx hb hts (fun _ h9 => List.mem_cons_of_mem _ (List.mem_append_right _ (h9))) hown hK hP 0 rfl rfl 7 (by decide) (hts (.fieldLink RX8 25 "MarbleBenchModel" "stations" "[I") (List.mem_of_getElem? (i := 1) rfl)) (fun _ h9 => h9) rfl dX8_holds_8 ?_
    refine lv_iload_n hx hb dX8_holds_11 rfl (lv_at hl 1 rfl) ?_
    obtain ⟨hi12, hF⟩ := hF
    refine va_iald hx hb hK hP 6 0 rfl rfl hi12 dX8_holds_12 ?_
    refine lv_iconst (v := 1) hx hb dX8_holds_13 (by decide) ?_
    refine lv_isub hx hb dX8_holds_14 ?_
    refine lv_icmp_ge (tgt := 46) hx hb dX8_holds_15 (by decide) (fun c_15 => ?_) (fun c_15 => ?_)
    · have hF := hF.1 c_15
      refine lv_iload_n hx hb dX8_holds_46 rfl (lv_at hl 3 rfl) ?_
      refine lv_aload_n hx hb dX8_holds_47 rfl (lv_at hl 0 rfl) ?_
      refine va_get (D := D) (ci := 8) (v := .ref (a 7)) (C := RX8) (T := TX8) (N := 28) hx hb hts (fun _ h9 => List.mem_cons_of_mem _ (List.mem_append_right _ (h9))) hown hK hP 0 rfl rfl 7 (by decide) (hts (.fieldLink RX8 25 "MarbleBenchModel" "stations" "[I") (List.mem_of_getElem? (i := 1) rfl)) (fun _ h9 => h9) rfl dX8_holds_48 ?_
      refine lv_iload_n hx hb dX8_holds_51 rfl (lv_at hl 1 rfl) ?_
      obtain ⟨hi52, hF⟩ := hF
      refine va_iald hx hb hK hP 6 0 rfl rfl hi52 dX8_holds_52 ?_
      refine lv_iconst (v := 2) hx hb dX8_holds_53 (by decide) ?_
      refine lv_idiv hx hb dX8_holds_54 (by decide) ?_
      refine lv_icmp_lt (tgt := 62) hx hb dX8_holds_55 (by decide) (fun c_55 => ?_) (fun c_55 => ?_)
      · have hF := hF.1 c_55
        refine lv_iconst (v := 0) hx hb dX8_holds_62 (by decide) ?_
        exact mb_ri (S := mb_m) (mc := 0) (ms := 0) (wf := fun u => gw8 Y o a u) C rfl (u := M) hF hP hD hS dX8_holds_63 (Nat.le_of_ble_eq_true rfl) (Nat.le_of_ble_eq_true rfl)
      · have hF := hF.2 c_55
        refine lv_iconst (v := 1) hx hb dX8_holds_58 (by decide) ?_
        refine lv_goto (tgt := 63) hx hb dX8_holds_59 (by decide) ?_
        exact mb_ri (S := mb_m) (mc := 0) (ms := 0) (wf := fun u => gw8 Y o a u) C rfl (u := M) hF hP hD hS dX8_holds_63 (Nat.le_of_ble_eq_true rfl) (Nat.le_of_ble_eq_true rfl)
    · have hF := hF.2 c_15
      refine lv_iload_n hx hb dX8_holds_18 rfl (lv_at hl 3 rfl) ?_
      refine lv_aload_n hx hb dX8_holds_19 rfl (lv_at hl 0 rfl) ?_
      refine va_get (D := D) (ci := 8) (v := .ref (a 13)) (C := RX8) (T := TX8) (N := 28) hx hb hts (fun _ h9 => List.mem_cons_of_mem _ (List.mem_append_right _ (h9))) hown hK hP 0 rfl rfl 13 (by decide) (hts (.fieldLink RX8 44 "MarbleBenchModel" "stitch" "[I") (List.mem_of_getElem? (i := 2) rfl)) (fun _ h9 => h9) rfl dX8_holds_20 ?_
      refine lv_iconst (v := 5) hx hb dX8_holds_23 (by decide) ?_
      refine lv_iload_n hx hb dX8_holds_24 rfl (lv_at hl 2 rfl) ?_
      refine lv_imul hx hb dX8_holds_25 ?_
      refine lv_iload hx hb dX8_holds_26 (lv_at hl 4 rfl) ?_
      refine lv_iadd hx hb dX8_holds_28 ?_
      obtain ⟨hi29, hF⟩ := hF
      refine va_iald hx hb hK hP 12 0 rfl rfl hi29 dX8_holds_29 ?_
      refine lv_if_le (tgt := 37) hx hb dX8_holds_30 (by decide) (fun c_30 => ?_) (fun c_30 => ?_)
      · have hF := hF.1 c_30
        refine lv_iconst (v := 0) hx hb dX8_holds_37 (by decide) ?_
        exact wX8_holds_38 C ih M x1 x2 x4 (0 : Int32) x3 _ _ _ hF hP hD hS (lv_sub hl [0, 1, 2, 4] rfl)
      · have hF := hF.2 c_30
        refine lv_iconst (v := 1) hx hb dX8_holds_33 (by decide) ?_
        refine lv_goto (tgt := 38) hx hb dX8_holds_34 (by decide) ?_
        exact wX8_holds_38 C ih M x1 x2 x4 (1 : Int32) x3 _ _ _ hF hP hD hS (lv_sub hl [0, 1, 2, 4] rfl)
noncomputable def PX8_holds (N : Nat) (M : mb_m) (x1 x2 : Int32) (K : Int32 → mb_m → Prop) : Prop := PX8_holds_5 N K N M x1 x2 (0 : Int32) (0 : Int32)
set_option maxHeartbeats 4000000 in
set_option maxRecDepth 100000 in
theorem cnX8_holds (l : Launch) (D : va_G) (Y : Nat → ClassId) (N : Nat) (o : Nat) (a : Nat → Nat) (M : mb_m) (sz : Nat) (x1 x2 : Int32) (K : Int32 → mb_m → Prop) (hF : PX8_holds N M x1 x2 K) : Met l yX8_holds wsX8_holds ({ frames := 0, cells := 0, slots := 0, locals := 0 } : Room) (va_Pc [.ref o, .int x1, .int x2] (mb_B D Y (gw8 Y o a M) sz)) (va_Qi K (fun u t => mb_T D (va_A (gw8 Y o a M) sz) (gw8 Y o a u) t) (va_A (gw8 Y o a M) sz)) 0 0 (va_A (gw8 Y o a M) sz) := by
  refine mb_begin (cc := cX8_holds) (maxL := 5) (ret := (some .boolean)) (by decide +kernel) rfl (Nat.le_of_ble_eq_true rfl) ?_
  intro p e s m below meth c ls C hsz hnm hP hD hl
  generalize hAe : va_A (gw8 Y o a M) sz = A at C hD ⊢
  have C : mb_Cx p s m meth c ([.ref o, .int x1, .int x2] : List Value).toArray cX8_holds 5 (some .boolean) wsX8_holds RX8 D Y A := C
  obtain ⟨hx, hb, hr, hml, hts, hown, hlocks, hA, hG⟩ := id C
  have hK := hG.1
  have hS : va_S A s.heap s.heap [] := va_S.rf
  have hl : lv_has ls 5 [(0, .ref o), (1, .int x1), (2, .int x2)] := hl
  refine lv_iconst (v := 0) hx hb dX8_holds_0 (by decide) ?_
  refine lv_istore_n (lv' := [(3, .int (0 : Int32)), (0, .ref o), (1, .int x1), (2, .int x2)]) hx hb dX8_holds_1 rfl hl (by decide) rfl (fun ls hl => ?_)
  refine lv_iconst (v := 0) hx hb dX8_holds_2 (by decide) ?_
  refine lv_istore (lv' := [(4, .int (0 : Int32)), (3, .int (0 : Int32)), (0, .ref o), (1, .int x1), (2, .int x2)]) hx hb dX8_holds_3 hl (by decide) rfl (fun ls hl => ?_)
  exact wX8_holds_5 C N M x1 x2 (0 : Int32) (0 : Int32) _ _ _ hF hP hD hS (lv_sub hl [2, 3, 4, 1, 0] rfl)
end
section
noncomputable def PX8_isSewn_64 (N : Nat) (K : Int32 → mb_m → Prop) (b15 : mb_m → Int32 → Int32 → Int32 → Prop) (M : mb_m) (x1 x3 y0 : Int32) : Prop := ∀ v65 : Int32, v65 = x3 + (1 : Int32) → (b15 M x1 y0 v65)
set_option maxHeartbeats 4000000 in
set_option maxRecDepth 100000 in
theorem wX8_isSewn_64 {p : Program} {l : Launch} {e : Env} {s : State} {m : MethodId} {below : List Frame} {meth : Method} {c : Code} {args : Array Value} {D : va_G} {Y : Nat → ClassId} {A : Nat → Prop} {o : Nat} {a : Nat → Nat} {N : Nat} {K : Int32 → mb_m → Prop} {b15 : mb_m → Int32 → Int32 → Int32 → Prop} (C : mb_Cx p s m meth c args cX8_isSewn 4 (some .boolean) wsX8_isSewn RX8 D Y A) (hb15 : ∀ (M : mb_m) (x1 x2 x3 : Int32) (H : Heap) (locs : List Loc) (ls : Array Slot), b15 M x1 x2 x3 → va_P D vwCl (gw8 Y o a M) H → va_D A (gw8 Y o a M) → va_S A s.heap H locs → lv_has ls 4 [(0, .ref o), (1, .int x1), (2, .int x2), (3, .int x3)] → W p l e ({ frames := 1, cells := 0, slots := 0, locals := 24 } : Room) s m args below meth c H locs 0 0 (MQ below (va_Qi K (fun u t => mb_T D A (gw8 Y o a u) t) A) args s 0 0 A) (F0 m 15 ls [])) : ∀ (M : mb_m) (x1 x3 y0 : Int32) (H : Heap) (locs : List Loc) (ls : Array Slot), PX8_isSewn_64 N K b15 M x1 x3 y0 → va_P D vwCl (gw8 Y o a M) H → va_D A (gw8 Y o a M) → va_S A s.heap H locs → lv_has ls 4 [(0, .ref o), (1, .int x1), (3, .int x3)] → W p l e ({ frames := 1, cells := 0, slots := 0, locals := 24 } : Room) s m args below meth c H locs 0 0 (MQ below (va_Qi K (fun u t => mb_T D A (gw8 Y o a u) t) A) args s 0 0 A) (F0 m 64 ls [.int y0]) := by
  obtain ⟨hx, hb, hr, hml, hts, hown, hlocks, hA, hG⟩ := id C
  have hK := hG.1
  intro M x1 x3 y0 H locs ls hF hP hD hS hl
  refine lv_istore_n (lv' := [(2, .int y0), (0, .ref o), (1, .int x1), (3, .int x3)]) hx hb dX8_isSewn_64 rfl hl (by decide) rfl (fun ls hl => ?_)
  obtain ⟨v65, ev65⟩ : ∃ y : Int32, y = x3 + (1 : Int32) := ⟨_, rfl⟩
  have hF := hF v65 ev65
  refine lv_iinc (v := v65) (lv' := [(3, .int v65), (2, .int y0), (0, .ref o), (1, .int x1)]) hx hb dX8_isSewn_65 hl (k := 3) rfl (by rw [ev65]; rfl) (by decide) rfl (fun ls hl => ?_)
  refine lv_goto (tgt := 15) hx hb dX8_isSewn_68 (by decide) ?_
  exact hb15 M x1 y0 v65 _ _ _ hF hP hD hS (lv_sub hl [2, 3, 1, 0] rfl)
noncomputable def PX8_isSewn_59 (N : Nat) (K : Int32 → mb_m → Prop) (b15 : mb_m → Int32 → Int32 → Int32 → Prop) (M : mb_m) (x1 x3 : Int32) : Prop := PX8_isSewn_64 N K b15 M x1 x3 (1 : Int32)
set_option maxHeartbeats 4000000 in
set_option maxRecDepth 100000 in
theorem wX8_isSewn_59 {p : Program} {l : Launch} {e : Env} {s : State} {m : MethodId} {below : List Frame} {meth : Method} {c : Code} {args : Array Value} {D : va_G} {Y : Nat → ClassId} {A : Nat → Prop} {o : Nat} {a : Nat → Nat} {N : Nat} {K : Int32 → mb_m → Prop} {b15 : mb_m → Int32 → Int32 → Int32 → Prop} (C : mb_Cx p s m meth c args cX8_isSewn 4 (some .boolean) wsX8_isSewn RX8 D Y A) (hb15 : ∀ (M : mb_m) (x1 x2 x3 : Int32) (H : Heap) (locs : List Loc) (ls : Array Slot), b15 M x1 x2 x3 → va_P D vwCl (gw8 Y o a M) H → va_D A (gw8 Y o a M) → va_S A s.heap H locs → lv_has ls 4 [(0, .ref o), (1, .int x1), (2, .int x2), (3, .int x3)] → W p l e ({ frames := 1, cells := 0, slots := 0, locals := 24 } : Room) s m args below meth c H locs 0 0 (MQ below (va_Qi K (fun u t => mb_T D A (gw8 Y o a u) t) A) args s 0 0 A) (F0 m 15 ls [])) : ∀ (M : mb_m) (x1 x3 : Int32) (H : Heap) (locs : List Loc) (ls : Array Slot), PX8_isSewn_59 N K b15 M x1 x3 → va_P D vwCl (gw8 Y o a M) H → va_D A (gw8 Y o a M) → va_S A s.heap H locs → lv_has ls 4 [(0, .ref o), (1, .int x1), (3, .int x3)] → W p l e ({ frames := 1, cells := 0, slots := 0, locals := 24 } : Room) s m args below meth c H locs 0 0 (MQ below (va_Qi K (fun u t => mb_T D A (gw8 Y o a u) t) A) args s 0 0 A) (F0 m 59 ls []) := by
  obtain ⟨hx, hb, hr, hml, hts, hown, hlocks, hA, hG⟩ := id C
  have hK := hG.1
  intro M x1 x3 H locs ls hF hP hD hS hl
  refine lv_iconst (v := 1) hx hb dX8_isSewn_59 (by decide) ?_
  refine lv_goto (tgt := 64) hx hb dX8_isSewn_60 (by decide) ?_
  exact wX8_isSewn_64 C hb15 M x1 x3 (1 : Int32) _ _ _ hF hP hD hS (lv_sub hl [0, 1, 2] rfl)
noncomputable def PX8_isSewn_63 (N : Nat) (K : Int32 → mb_m → Prop) (b15 : mb_m → Int32 → Int32 → Int32 → Prop) (M : mb_m) (x1 x3 : Int32) : Prop := PX8_isSewn_64 N K b15 M x1 x3 (0 : Int32)
set_option maxHeartbeats 4000000 in
set_option maxRecDepth 100000 in
theorem wX8_isSewn_63 {p : Program} {l : Launch} {e : Env} {s : State} {m : MethodId} {below : List Frame} {meth : Method} {c : Code} {args : Array Value} {D : va_G} {Y : Nat → ClassId} {A : Nat → Prop} {o : Nat} {a : Nat → Nat} {N : Nat} {K : Int32 → mb_m → Prop} {b15 : mb_m → Int32 → Int32 → Int32 → Prop} (C : mb_Cx p s m meth c args cX8_isSewn 4 (some .boolean) wsX8_isSewn RX8 D Y A) (hb15 : ∀ (M : mb_m) (x1 x2 x3 : Int32) (H : Heap) (locs : List Loc) (ls : Array Slot), b15 M x1 x2 x3 → va_P D vwCl (gw8 Y o a M) H → va_D A (gw8 Y o a M) → va_S A s.heap H locs → lv_has ls 4 [(0, .ref o), (1, .int x1), (2, .int x2), (3, .int x3)] → W p l e ({ frames := 1, cells := 0, slots := 0, locals := 24 } : Room) s m args below meth c H locs 0 0 (MQ below (va_Qi K (fun u t => mb_T D A (gw8 Y o a u) t) A) args s 0 0 A) (F0 m 15 ls [])) : ∀ (M : mb_m) (x1 x3 : Int32) (H : Heap) (locs : List Loc) (ls : Array Slot), PX8_isSewn_63 N K b15 M x1 x3 → va_P D vwCl (gw8 Y o a M) H → va_D A (gw8 Y o a M) → va_S A s.heap H locs → lv_has ls 4 [(0, .ref o), (1, .int x1), (3, .int x3)] → W p l e ({ frames := 1, cells := 0, slots := 0, locals := 24 } : Room) s m args below meth c H locs 0 0 (MQ below (va_Qi K (fun u t => mb_T D A (gw8 Y o a u) t) A) args s 0 0 A) (F0 m 63 ls []) := by
  obtain ⟨hx, hb, hr, hml, hts, hown, hlocks, hA, hG⟩ := id C
  have hK := hG.1
  intro M x1 x3 H locs ls hF hP hD hS hl
  refine lv_iconst (v := 0) hx hb dX8_isSewn_63 (by decide) ?_
  exact wX8_isSewn_64 C hb15 M x1 x3 (0 : Int32) _ _ _ hF hP hD hS (lv_sub hl [0, 1, 2] rfl)
noncomputable def PX8_isSewn_15_b (N : Nat) (K : Int32 → mb_m → Prop) (b15 : mb_m → Int32 → Int32 → Int32 → Prop) (M : mb_m) (x1 x2 x3 : Int32) : Prop := vp_in x1 4 ∧ (((M 5 x1.toNatClampNeg) ≤ x3 → mb_isB x2 ∧ (K x2 M)) ∧ (¬ (M 5 x1.toNatClampNeg) ≤ x3 → (x2 = 0 → PX8_isSewn_63 N K b15 M x1 x3) ∧ (¬ x2 = 0 → PX8_holds N M x1 x3 (fun r32 M32 => (r32 = 0 → PX8_isSewn_63 N K b15 M32 x1 x3) ∧ (¬ r32 = 0 → vp_in x1 4 ∧ ((x3 = ((M32 5 x1.toNatClampNeg) - (1 : Int32)) → PX8_isSewn_59 N K b15 M32 x1 x3) ∧ (¬ x3 = ((M32 5 x1.toNatClampNeg) - (1 : Int32)) → vp_in x3 8 ∧ (((M32 14 x3.toNatClampNeg) = 0 → PX8_isSewn_63 N K b15 M32 x1 x3) ∧ (¬ (M32 14 x3.toNatClampNeg) = 0 → PX8_isSewn_59 N K b15 M32 x1 x3)))))))))
noncomputable def PX8_isSewn_15 (N : Nat) (K : Int32 → mb_m → Prop) (n : Nat) : mb_m → Int32 → Int32 → Int32 → Prop := Nat.rec (motive := fun _ => mb_m → Int32 → Int32 → Int32 → Prop) (fun _ _ _ _ => False) (fun _ b15 => PX8_isSewn_15_b N K  b15) n
set_option maxHeartbeats 4000000 in
set_option maxRecDepth 100000 in
theorem wX8_isSewn_15 {p : Program} {l : Launch} {e : Env} {s : State} {m : MethodId} {below : List Frame} {meth : Method} {c : Code} {args : Array Value} {D : va_G} {Y : Nat → ClassId} {A : Nat → Prop} {o : Nat} {a : Nat → Nat} {N : Nat} {K : Int32 → mb_m → Prop} (C : mb_Cx p s m meth c args cX8_isSewn 4 (some .boolean) wsX8_isSewn RX8 D Y A) : ∀ (n : Nat), (∀ (M : mb_m) (x1 x2 x3 : Int32) (H : Heap) (locs : List Loc) (ls : Array Slot), PX8_isSewn_15 N K  n M x1 x2 x3 → va_P D vwCl (gw8 Y o a M) H → va_D A (gw8 Y o a M) → va_S A s.heap H locs → lv_has ls 4 [(0, .ref o), (1, .int x1), (2, .int x2), (3, .int x3)] → W p l e ({ frames := 1, cells := 0, slots := 0, locals := 24 } : Room) s m args below meth c H locs 0 0 (MQ below (va_Qi K (fun u t => mb_T D A (gw8 Y o a u) t) A) args s 0 0 A) (F0 m 15 ls [])) := by
  obtain ⟨hx, hb, hr, hml, hts, hown, hlocks, hA, hG⟩ := id C
  have hK := hG.1
  intro n
  induction n with
  | zero => intro M x1 x2 x3 H locs ls hF; exact (show False from hF).elim
  | succ n ih =>
    intro M x1 x2 x3 H locs ls hF hP hD hS hl
    have hF : PX8_isSewn_15_b N K  (PX8_isSewn_15 N K  n) M x1 x2 x3 := hF
    refine lv_iload_n hx hb dX8_isSewn_15 rfl (lv_at hl 3 rfl) ?_
    refine lv_aload_n hx hb dX8_isSewn_16 rfl (lv_at hl 0 rfl) ?_
    refine va_get (D := D) (ci := 8) (v := .ref (a 5)) (C := RX8) (T := TX8) (N := 28) hx hb hts (fun _ h9 => List.mem_cons_of_mem _ (List.mem_append_right _ (h9))) hown hK hP 0 rfl rfl 5 (by decide) (hts (.fieldLink RX8 19 "MarbleBenchModel" "gatherings" "[I") (List.mem_of_getElem? (i := 2) rfl)) (fun _ h9 => h9) rfl dX8_isSewn_17 ?_
    refine lv_iload_n hx hb dX8_isSewn_20 rfl (lv_at hl 1 rfl) ?_
    obtain ⟨hi21, hF⟩ := hF
    refine va_iald hx hb hK hP 4 0 rfl rfl hi21 dX8_isSewn_21 ?_
    refine lv_icmp_ge (tgt := 71) hx hb dX8_isSewn_22 (by decide) (fun c_22 => ?_) (fun c_22 => ?_)
    · have hF := hF.1 c_22
      refine lv_iload_n hx hb dX8_isSewn_71 rfl (lv_at hl 2 rfl) ?_
      obtain ⟨hz72, hF⟩ := hF
      exact mb_ri (S := mb_m) (mc := 0) (ms := 0) (wf := fun u => gw8 Y o a u) C (mb_isB_n hz72) (u := M) hF hP hD hS dX8_isSewn_72 (Nat.le_of_ble_eq_true rfl) (Nat.le_of_ble_eq_true rfl)
    · have hF := hF.2 c_22
      refine lv_iload_n hx hb dX8_isSewn_25 rfl (lv_at hl 2 rfl) ?_
      refine lv_if_eq (tgt := 63) hx hb dX8_isSewn_26 (by decide) (fun c_26 => ?_) (fun c_26 => ?_)
      · have hF := hF.1 c_26
        exact wX8_isSewn_63 C ih M x1 x3 _ _ _ hF hP hD hS (lv_sub hl [0, 1, 3] rfl)
      · have hF := hF.2 c_26
        refine lv_aload_n hx hb dX8_isSewn_29 rfl (lv_at hl 0 rfl) ?_
        refine lv_iload_n hx hb dX8_isSewn_30 rfl (lv_at hl 1 rfl) ?_
        refine lv_iload_n hx hb dX8_isSewn_31 rfl (lv_at hl 3 rfl) ?_
        refine mb_cW hD hS hA (va_runV (As := [.int x1, .int x3]) (rest := []) ⟨hx, hb, hml, hown, hts⟩ (cnX8_holds l D Y N o a M _ x1 x3 _ hF) (cwV 2 hts gX8_isSewn_X8_holds rfl rfl rfl (by decide +kernel) ⟨Nat.le_of_ble_eq_true rfl, Nat.le_of_ble_eq_true rfl⟩) (mb_preV hG hP hD 0 rfl rfl) rfl rfl hl.1 rfl (lv_room (Nat.le_of_ble_eq_true rfl)) dX8_isSewn_32 ⟨Nat.le_of_ble_eq_true rfl, Nat.le_of_ble_eq_true rfl⟩) (fun r32 M32 H locs hF hP hD hS => ?_)
        refine lv_if_eq (tgt := 63) hx hb dX8_isSewn_35 (by decide) (fun c_35 => ?_) (fun c_35 => ?_)
        · have hF := hF.1 c_35
          exact wX8_isSewn_63 C ih M32 x1 x3 _ _ _ hF hP hD hS (lv_sub hl [0, 1, 3] rfl)
        · have hF := hF.2 c_35
          refine lv_iload_n hx hb dX8_isSewn_38 rfl (lv_at hl 3 rfl) ?_
          refine lv_aload_n hx hb dX8_isSewn_39 rfl (lv_at hl 0 rfl) ?_
          refine va_get (D := D) (ci := 8) (v := .ref (a 5)) (C := RX8) (T := TX8) (N := 28) hx hb hts (fun _ h9 => List.mem_cons_of_mem _ (List.mem_append_right _ (h9))) hown hK hP 0 rfl rfl 5 (by decide) (hts (.fieldLink RX8 19 "MarbleBenchModel" "gatherings" "[I") (List.mem_of_getElem? (i := 2) rfl)) (fun _ h9 => h9) rfl dX8_isSewn_40 ?_
          refine lv_iload_n hx hb dX8_isSewn_43 rfl (lv_at hl 1 rfl) ?_
          obtain ⟨hi44, hF⟩ := hF
          refine va_iald hx hb hK hP 4 0 rfl rfl hi44 dX8_isSewn_44 ?_
          refine lv_iconst (v := 1) hx hb dX8_isSewn_45 (by decide) ?_
          refine lv_isub hx hb dX8_isSewn_46 ?_
          refine lv_icmp_eq (tgt := 59) hx hb dX8_isSewn_47 (by decide) (fun c_47 => ?_) (fun c_47 => ?_)
          · have hF := hF.1 c_47
            exact wX8_isSewn_59 C ih M32 x1 x3 _ _ _ hF hP hD hS (lv_sub hl [0, 1, 3] rfl)
          · have hF := hF.2 c_47
            refine lv_aload_n hx hb dX8_isSewn_50 rfl (lv_at hl 0 rfl) ?_
            refine va_get (D := D) (ci := 8) (v := .ref (a 14)) (C := RX8) (T := TX8) (N := 28) hx hb hts (fun _ h9 => List.mem_cons_of_mem _ (List.mem_append_right _ (h9))) hown hK hP 0 rfl rfl 14 (by decide) (hts (.fieldLink RX8 47 "MarbleBenchModel" "isLinked" "[Z") (List.mem_of_getElem? (i := 3) rfl)) (fun _ h9 => h9) rfl dX8_isSewn_51 ?_
            refine lv_iload_n hx hb dX8_isSewn_54 rfl (lv_at hl 3 rfl) ?_
            obtain ⟨hi55, hF⟩ := hF
            refine va_zald hx hb hK hP 13 1 rfl rfl hi55 dX8_isSewn_55 ?_
            refine lv_if_eq (tgt := 63) hx hb dX8_isSewn_56 (by decide) (fun c_56 => ?_) (fun c_56 => ?_)
            · have hF := hF.1 c_56
              exact wX8_isSewn_63 C ih M32 x1 x3 _ _ _ hF hP hD hS (lv_sub hl [0, 1, 3] rfl)
            · have hF := hF.2 c_56
              exact wX8_isSewn_59 C ih M32 x1 x3 _ _ _ hF hP hD hS (lv_sub hl [0, 1, 3] rfl)
noncomputable def PX8_isSewn_12 (N : Nat) (K : Int32 → mb_m → Prop) (M : mb_m) (x1 y0 : Int32) : Prop := PX8_isSewn_15 N K N M x1 y0 (0 : Int32)
set_option maxHeartbeats 4000000 in
set_option maxRecDepth 100000 in
theorem wX8_isSewn_12 {p : Program} {l : Launch} {e : Env} {s : State} {m : MethodId} {below : List Frame} {meth : Method} {c : Code} {args : Array Value} {D : va_G} {Y : Nat → ClassId} {A : Nat → Prop} {o : Nat} {a : Nat → Nat} {N : Nat} {K : Int32 → mb_m → Prop} (C : mb_Cx p s m meth c args cX8_isSewn 4 (some .boolean) wsX8_isSewn RX8 D Y A) : ∀ (M : mb_m) (x1 y0 : Int32) (H : Heap) (locs : List Loc) (ls : Array Slot), PX8_isSewn_12 N K  M x1 y0 → va_P D vwCl (gw8 Y o a M) H → va_D A (gw8 Y o a M) → va_S A s.heap H locs → lv_has ls 4 [(0, .ref o), (1, .int x1)] → W p l e ({ frames := 1, cells := 0, slots := 0, locals := 24 } : Room) s m args below meth c H locs 0 0 (MQ below (va_Qi K (fun u t => mb_T D A (gw8 Y o a u) t) A) args s 0 0 A) (F0 m 12 ls [.int y0]) := by
  obtain ⟨hx, hb, hr, hml, hts, hown, hlocks, hA, hG⟩ := id C
  have hK := hG.1
  intro M x1 y0 H locs ls hF hP hD hS hl
  refine lv_istore_n (lv' := [(2, .int y0), (0, .ref o), (1, .int x1)]) hx hb dX8_isSewn_12 rfl hl (by decide) rfl (fun ls hl => ?_)
  refine lv_iconst (v := 0) hx hb dX8_isSewn_13 (by decide) ?_
  refine lv_istore_n (lv' := [(3, .int (0 : Int32)), (2, .int y0), (0, .ref o), (1, .int x1)]) hx hb dX8_isSewn_14 rfl hl (by decide) rfl (fun ls hl => ?_)
  exact wX8_isSewn_15 C N M x1 y0 (0 : Int32) _ _ _ hF hP hD hS (lv_sub hl [2, 3, 1, 0] rfl)
noncomputable def PX8_isSewn (N : Nat) (M : mb_m) (x1 : Int32) (K : Int32 → mb_m → Prop) : Prop := (¬ (M 18 0) = 0 → PX8_isSewn_12 N K M x1 (0 : Int32)) ∧ ((M 18 0) = 0 → PX8_isSewn_12 N K M x1 (1 : Int32))
set_option maxHeartbeats 4000000 in
set_option maxRecDepth 100000 in
theorem cnX8_isSewn (l : Launch) (D : va_G) (Y : Nat → ClassId) (N : Nat) (o : Nat) (a : Nat → Nat) (M : mb_m) (sz : Nat) (x1 : Int32) (K : Int32 → mb_m → Prop) (hF : PX8_isSewn N M x1 K) : Met l yX8_isSewn wsX8_isSewn ({ frames := 1, cells := 0, slots := 0, locals := 24 } : Room) (va_Pc [.ref o, .int x1] (mb_B D Y (gw8 Y o a M) sz)) (va_Qi K (fun u t => mb_T D (va_A (gw8 Y o a M) sz) (gw8 Y o a u) t) (va_A (gw8 Y o a M) sz)) 0 0 (va_A (gw8 Y o a M) sz) := by
  refine mb_begin (cc := cX8_isSewn) (maxL := 4) (ret := (some .boolean)) (by decide +kernel) rfl (Nat.le_of_ble_eq_true rfl) ?_
  intro p e s m below meth c ls C hsz hnm hP hD hl
  generalize hAe : va_A (gw8 Y o a M) sz = A at C hD ⊢
  have C : mb_Cx p s m meth c ([.ref o, .int x1] : List Value).toArray cX8_isSewn 4 (some .boolean) wsX8_isSewn RX8 D Y A := C
  obtain ⟨hx, hb, hr, hml, hts, hown, hlocks, hA, hG⟩ := id C
  have hK := hG.1
  have hS : va_S A s.heap s.heap [] := va_S.rf
  have hl : lv_has ls 4 [(0, .ref o), (1, .int x1)] := hl
  refine lv_aload_n hx hb dX8_isSewn_0 rfl (lv_at hl 0 rfl) ?_
  refine va_get (D := D) (ci := 8) (v := .int (M 18 0)) (C := RX8) (T := TX8) (N := 28) hx hb hts (fun _ h9 => List.mem_cons_of_mem _ (List.mem_append_right _ (h9))) hown hK hP 0 rfl rfl 18 (by decide) (hts (.fieldLink RX8 131 "MarbleBenchModel" "isInside" "Z") (List.mem_of_getElem? (i := 1) rfl)) (fun _ h9 => h9) rfl dX8_isSewn_1 ?_
  refine lv_if_ne (tgt := 11) hx hb dX8_isSewn_4 (by decide) (fun c_4 => ?_) (fun c_4 => ?_)
  · have hF := hF.1 c_4
    refine lv_iconst (v := 0) hx hb dX8_isSewn_11 (by decide) ?_
    exact wX8_isSewn_12 C M x1 (0 : Int32) _ _ _ hF hP hD hS (lv_sub hl [0, 1] rfl)
  · have hF := hF.2 c_4
    refine lv_iconst (v := 1) hx hb dX8_isSewn_7 (by decide) ?_
    refine lv_goto (tgt := 12) hx hb dX8_isSewn_8 (by decide) ?_
    exact wX8_isSewn_12 C M x1 (1 : Int32) _ _ _ hF hP hD hS (lv_sub hl [0, 1] rfl)
end
