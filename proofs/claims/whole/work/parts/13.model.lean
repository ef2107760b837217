section
noncomputable def PX8_ofThread (N : Nat) (M : mb_m) (x1 x2 : Int32) (K : Int32 → mb_m → Prop) : Prop := PX8_isBook N M x1 (fun r3 M3 => PX8_in N x2 (0 : Int32) (5 : Int32) (fun r9 _ => PX8_goes N M3 r3 r9 (1 : Int32) (fun r13 M13 => (¬ r13 = 0 → PX8_follows N M13 x1 (fun M23 => (¬ x2 = 0 → (¬ x2 = (1 : Int32) → (¬ x2 = (2 : Int32) → (¬ x2 = (3 : Int32) → (¬ x2 = (4 : Int32) → PX8_isSewn N M23 x1 (fun r97 M97 => (r97 = 0 → K (0 : Int32) M97) ∧ (¬ r97 = 0 → K (1 : Int32) M97))) ∧ (x2 = (4 : Int32) → vp_in x1 4 ∧ (K (M23 11 x1.toNatClampNeg) M23))) ∧ (x2 = (3 : Int32) → ((M23 18 0) = 0 → K (0 : Int32) M23) ∧ (¬ (M23 18 0) = 0 → K (1 : Int32) M23))) ∧ (x2 = (2 : Int32) → K (M23 17 0) M23)) ∧ (x2 = (1 : Int32) → K (M23 16 0) M23)) ∧ (x2 = 0 → K (M23 15 0) M23))) ∧ (r13 = 0 → K (0 : Int32) M13))))
set_option maxHeartbeats 4000000 in
set_option maxRecDepth 100000 in
theorem cnX8_ofThread (l : Launch) (D : va_G) (Y : Nat → ClassId) (N : Nat) (o : Nat) (a : Nat → Nat) (M : mb_m) (sz : Nat) (x1 x2 : Int32) (K : Int32 → mb_m → Prop) (hF : PX8_ofThread N M x1 x2 K) : Met l yX8_ofThread wsX8_ofThread ({ frames := 3, cells := 0, slots := 0, locals := 65 } : Room) (va_Pc [.ref o, .int x1, .int x2] (mb_B D Y (gw8 Y o a M) sz)) (va_Qi K (fun u t => mb_T D (va_A (gw8 Y o a M) sz) (gw8 Y o a u) t) (va_A (gw8 Y o a M) sz)) 0 0 (va_A (gw8 Y o a M) sz) := by
  refine mb_begin (cc := cX8_ofThread) (maxL := 3) (ret := (some .int)) (by decide +kernel) rfl (Nat.le_of_ble_eq_true rfl) ?_
  intro p e s m below meth c ls C hsz hnm hP hD hl
  generalize hAe : va_A (gw8 Y o a M) sz = A at C hD ⊢
  have C : mb_Cx p s m meth c ([.ref o, .int x1, .int x2] : List Value).toArray cX8_ofThread 3 (some .int) wsX8_ofThread RX8 D Y A := C
  obtain ⟨hx, hb, hr, hml, hts, hown, hlocks, hA, hG⟩ := id C
  have hK := hG.1
  have hS : va_S A s.heap s.heap [] := va_S.rf
  have hl : lv_has ls 3 [(0, .ref o), (1, .int x1), (2, .int x2)] := hl
  refine lv_aload_n hx hb dX8_ofThread_0 rfl (lv_at hl 0 rfl) ?_
  refine lv_aload_n hx hb dX8_ofThread_1 rfl (lv_at hl 0 rfl) ?_
  refine lv_iload_n hx hb dX8_ofThread_2 rfl (lv_at hl 1 rfl) ?_
  refine mb_cW hD hS hA (va_runV (As := [.int x1]) (rest := [.ref o]) ⟨hx, hb, hml, hown, hts⟩ (cnX8_isBook l D Y N o a M _ x1 _ hF) (cwV 1 hts gX8_ofThread_X8_isBook rfl rfl rfl (by decide +kernel) ⟨Nat.le_of_ble_eq_true rfl, Nat.le_of_ble_eq_true rfl⟩) (mb_preV hG hP hD 0 rfl rfl) rfl rfl hl.1 rfl (lv_room (Nat.le_of_ble_eq_true rfl)) dX8_ofThread_3 ⟨Nat.le_of_ble_eq_true rfl, Nat.le_of_ble_eq_true rfl⟩) (fun r3 M3 H locs hF hP hD hS => ?_)
  refine lv_iload_n hx hb dX8_ofThread_6 rfl (lv_at hl 2 rfl) ?_
  refine lv_iconst (v := 0) hx hb dX8_ofThread_7 (by decide) ?_
  refine lv_iconst (v := 5) hx hb dX8_ofThread_8 (by decide) ?_
  refine mb_cE hP hS hA (va_runS (As := [.int x2, .int (0 : Int32), .int (5 : Int32)]) (rest := [.int r3, .ref o]) ⟨hx, hb, hml, hown, hts⟩ (cnX8_in l D Y N _ x2 (0 : Int32) (5 : Int32) _ hF) (va_cwS 3 hts gX8_ofThread_X8_in rfl rfl rfl (by decide +kernel) ⟨Nat.le_of_ble_eq_true rfl, Nat.le_of_ble_eq_true rfl⟩) (mb_preS (A := A) hG mb_P0 mb_D0) rfl rfl hl.1 rfl (lv_room (Nat.le_of_ble_eq_true rfl)) dX8_ofThread_9 ⟨Nat.le_of_ble_eq_true rfl, Nat.le_of_ble_eq_true rfl⟩) (fun r9 H locs hF hP hS => ?_)
  refine lv_iconst (v := 1) hx hb dX8_ofThread_12 (by decide) ?_
  refine mb_cW hD hS hA (va_runV (As := [.int r3, .int r9, .int (1 : Int32)]) (rest := []) ⟨hx, hb, hml, hown, hts⟩ (cnX8_goes l D Y N o a M3 _ r3 r9 (1 : Int32) _ hF) (cwV 3 hts gX8_ofThread_X8_goes rfl rfl rfl (by decide +kernel) ⟨Nat.le_of_ble_eq_true rfl, Nat.le_of_ble_eq_true rfl⟩) (mb_preV hG hP hD 0 rfl rfl) rfl rfl hl.1 rfl (lv_room (Nat.le_of_ble_eq_true rfl)) dX8_ofThread_13 ⟨Nat.le_of_ble_eq_true rfl, Nat.le_of_ble_eq_true rfl⟩) (fun r13 M13 H locs hF hP hD hS => ?_)
  refine lv_if_ne (tgt := 21) hx hb dX8_ofThread_16 (by decide) (fun c_16 => ?_) (fun c_16 => ?_)
  · have hF := hF.1 c_16
    refine lv_aload_n hx hb dX8_ofThread_21 rfl (lv_at hl 0 rfl) ?_
    refine lv_iload_n hx hb dX8_ofThread_22 rfl (lv_at hl 1 rfl) ?_
    refine mb_cWv hD hS hA (va_runV (As := [.int x1]) (rest := []) ⟨hx, hb, hml, hown, hts⟩ (cnX8_follows l D Y N o a M13 _ x1 _ hF) (cwV 1 hts gX8_ofThread_X8_follows rfl rfl rfl (by decide +kernel) ⟨Nat.le_of_ble_eq_true rfl, Nat.le_of_ble_eq_true rfl⟩) (mb_preV hG hP hD 0 rfl rfl) rfl rfl hl.1 rfl (lv_room (Nat.le_of_ble_eq_true rfl)) dX8_ofThread_23 ⟨Nat.le_of_ble_eq_true rfl, Nat.le_of_ble_eq_true rfl⟩) (fun M23 H locs hF hP hD hS => ?_)
    refine lv_iload_n hx hb dX8_ofThread_26 rfl (lv_at hl 2 rfl) ?_
    refine lv_if_ne (tgt := 37) hx hb dX8_ofThread_27 (by decide) (fun c_27 => ?_) (fun c_27 => ?_)
    · have hF := hF.1 c_27
      refine lv_iload_n hx hb dX8_ofThread_37 rfl (lv_at hl 2 rfl) ?_
      refine lv_iconst (v := 1) hx hb dX8_ofThread_38 (by decide) ?_
      refine lv_icmp_ne (tgt := 49) hx hb dX8_ofThread_39 (by decide) (fun c_39 => ?_) (fun c_39 => ?_)
      · have hF := hF.1 c_39
        refine lv_iload_n hx hb dX8_ofThread_49 rfl (lv_at hl 2 rfl) ?_
        refine lv_iconst (v := 2) hx hb dX8_ofThread_50 (by decide) ?_
        refine lv_icmp_ne (tgt := 61) hx hb dX8_ofThread_51 (by decide) (fun c_51 => ?_) (fun c_51 => ?_)
        · have hF := hF.1 c_51
          refine lv_iload_n hx hb dX8_ofThread_61 rfl (lv_at hl 2 rfl) ?_
          refine lv_iconst (v := 3) hx hb dX8_ofThread_62 (by decide) ?_
          refine lv_icmp_ne (tgt := 81) hx hb dX8_ofThread_63 (by decide) (fun c_63 => ?_) (fun c_63 => ?_)
          · have hF := hF.1 c_63
            refine lv_iload_n hx hb dX8_ofThread_81 rfl (lv_at hl 2 rfl) ?_
            refine lv_iconst (v := 4) hx hb dX8_ofThread_82 (by decide) ?_
            refine lv_icmp_ne (tgt := 95) hx hb dX8_ofThread_83 (by decide) (fun c_83 => ?_) (fun c_83 => ?_)
            · have hF := hF.1 c_83
              refine lv_aload_n hx hb dX8_ofThread_95 rfl (lv_at hl 0 rfl) ?_
              refine lv_iload_n hx hb dX8_ofThread_96 rfl (lv_at hl 1 rfl) ?_
              refine mb_cW hD hS hA (va_runV (As := [.int x1]) (rest := []) ⟨hx, hb, hml, hown, hts⟩ (cnX8_isSewn l D Y N o a M23 _ x1 _ hF) (cwV 1 hts gX8_ofThread_X8_isSewn rfl rfl rfl (by decide +kernel) ⟨Nat.le_of_ble_eq_true rfl, Nat.le_of_ble_eq_true rfl⟩) (mb_preV hG hP hD 0 rfl rfl) rfl rfl hl.1 rfl (lv_room (Nat.le_of_ble_eq_true rfl)) dX8_ofThread_97 ⟨Nat.le_of_ble_eq_true rfl, Nat.le_of_ble_eq_true rfl⟩) (fun r97 M97 H locs hF hP hD hS => ?_)
              refine lv_if_eq (tgt := 107) hx hb dX8_ofThread_100 (by decide) (fun c_100 => ?_) (fun c_100 => ?_)
              · have hF := hF.1 c_100
                refine lv_iconst (v := 0) hx hb dX8_ofThread_107 (by decide) ?_
                exact mb_ri (S := mb_m) (mc := 0) (ms := 0) (wf := fun u => gw8 Y o a u) C rfl (u := M97) hF hP hD hS dX8_ofThread_108 (Nat.le_of_ble_eq_true rfl) (Nat.le_of_ble_eq_true rfl)
              · have hF := hF.2 c_100
                refine lv_iconst (v := 1) hx hb dX8_ofThread_103 (by decide) ?_
                refine lv_goto (tgt := 108) hx hb dX8_ofThread_104 (by decide) ?_
                exact mb_ri (S := mb_m) (mc := 0) (ms := 0) (wf := fun u => gw8 Y o a u) C rfl (u := M97) hF hP hD hS dX8_ofThread_108 (Nat.le_of_ble_eq_true rfl) (Nat.le_of_ble_eq_true rfl)
            · have hF := hF.2 c_83
              refine lv_aload_n hx hb dX8_ofThread_86 rfl (lv_at hl 0 rfl) ?_
              refine va_get (D := D) (ci := 8) (v := .ref (a 11)) (C := RX8) (T := TX8) (N := 28) hx hb hts (fun _ h9 => List.mem_cons_of_mem _ (List.mem_append_right _ (h9))) hown hK hP 0 rfl rfl 11 (by decide) (hts (.fieldLink RX8 38 "MarbleBenchModel" "moves" "[I") (List.mem_of_getElem? (i := 5) rfl)) (fun _ h9 => h9) rfl dX8_ofThread_87 ?_
              refine lv_iload_n hx hb dX8_ofThread_90 rfl (lv_at hl 1 rfl) ?_
              obtain ⟨hi91, hF⟩ := hF
              refine va_iald hx hb hK hP 10 0 rfl rfl hi91 dX8_ofThread_91 ?_
              refine lv_goto (tgt := 108) hx hb dX8_ofThread_92 (by decide) ?_
              exact mb_ri (S := mb_m) (mc := 0) (ms := 0) (wf := fun u => gw8 Y o a u) C rfl (u := M23) hF hP hD hS dX8_ofThread_108 (Nat.le_of_ble_eq_true rfl) (Nat.le_of_ble_eq_true rfl)
          · have hF := hF.2 c_63
            refine lv_aload_n hx hb dX8_ofThread_66 rfl (lv_at hl 0 rfl) ?_
            refine va_get (D := D) (ci := 8) (v := .int (M23 18 0)) (C := RX8) (T := TX8) (N := 28) hx hb hts (fun _ h9 => List.mem_cons_of_mem _ (List.mem_append_right _ (h9))) hown hK hP 0 rfl rfl 18 (by decide) (hts (.fieldLink RX8 131 "MarbleBenchModel" "isInside" "Z") (List.mem_of_getElem? (i := 4) rfl)) (fun _ h9 => h9) rfl dX8_ofThread_67 ?_
            refine lv_if_eq (tgt := 77) hx hb dX8_ofThread_70 (by decide) (fun c_70 => ?_) (fun c_70 => ?_)
            · have hF := hF.1 c_70
              refine lv_iconst (v := 0) hx hb dX8_ofThread_77 (by decide) ?_
              refine lv_goto (tgt := 108) hx hb dX8_ofThread_78 (by decide) ?_
              exact mb_ri (S := mb_m) (mc := 0) (ms := 0) (wf := fun u => gw8 Y o a u) C rfl (u := M23) hF hP hD hS dX8_ofThread_108 (Nat.le_of_ble_eq_true rfl) (Nat.le_of_ble_eq_true rfl)
            · have hF := hF.2 c_70
              refine lv_iconst (v := 1) hx hb dX8_ofThread_73 (by decide) ?_
              refine lv_goto (tgt := 108) hx hb dX8_ofThread_74 (by decide) ?_
              exact mb_ri (S := mb_m) (mc := 0) (ms := 0) (wf := fun u => gw8 Y o a u) C rfl (u := M23) hF hP hD hS dX8_ofThread_108 (Nat.le_of_ble_eq_true rfl) (Nat.le_of_ble_eq_true rfl)
        · have hF := hF.2 c_51
          refine lv_aload_n hx hb dX8_ofThread_54 rfl (lv_at hl 0 rfl) ?_
          refine va_get (D := D) (ci := 8) (v := .int (M23 17 0)) (C := RX8) (T := TX8) (N := 28) hx hb hts (fun _ h9 => List.mem_cons_of_mem _ (List.mem_append_right _ (h9))) hown hK hP 0 rfl rfl 17 (by decide) (hts (.fieldLink RX8 122 "MarbleBenchModel" "station" "I") (List.mem_of_getElem? (i := 3) rfl)) (fun _ h9 => h9) rfl dX8_ofThread_55 ?_
          refine lv_goto (tgt := 108) hx hb dX8_ofThread_58 (by decide) ?_
          exact mb_ri (S := mb_m) (mc := 0) (ms := 0) (wf := fun u => gw8 Y o a u) C rfl (u := M23) hF hP hD hS dX8_ofThread_108 (Nat.le_of_ble_eq_true rfl) (Nat.le_of_ble_eq_true rfl)
      · have hF := hF.2 c_39
        refine lv_aload_n hx hb dX8_ofThread_42 rfl (lv_at hl 0 rfl) ?_
        refine va_get (D := D) (ci := 8) (v := .int (M23 16 0)) (C := RX8) (T := TX8) (N := 28) hx hb hts (fun _ h9 => List.mem_cons_of_mem _ (List.mem_append_right _ (h9))) hown hK hP 0 rfl rfl 16 (by decide) (hts (.fieldLink RX8 128 "MarbleBenchModel" "gathering" "I") (List.mem_of_getElem? (i := 2) rfl)) (fun _ h9 => h9) rfl dX8_ofThread_43 ?_
        refine lv_goto (tgt := 108) hx hb dX8_ofThread_46 (by decide) ?_
        exact mb_ri (S := mb_m) (mc := 0) (ms := 0) (wf := fun u => gw8 Y o a u) C rfl (u := M23) hF hP hD hS dX8_ofThread_108 (Nat.le_of_ble_eq_true rfl) (Nat.le_of_ble_eq_true rfl)
    · have hF := hF.2 c_27
      refine lv_aload_n hx hb dX8_ofThread_30 rfl (lv_at hl 0 rfl) ?_
      refine va_get (D := D) (ci := 8) (v := .int (M23 15 0)) (C := RX8) (T := TX8) (N := 28) hx hb hts (fun _ h9 => List.mem_cons_of_mem _ (List.mem_append_right _ (h9))) hown hK hP 0 rfl rfl 15 (by decide) (hts (.fieldLink RX8 125 "MarbleBenchModel" "length" "I") (List.mem_of_getElem? (i := 1) rfl)) (fun _ h9 => h9) rfl dX8_ofThread_31 ?_
      refine lv_goto (tgt := 108) hx hb dX8_ofThread_34 (by decide) ?_
      exact mb_ri (S := mb_m) (mc := 0) (ms := 0) (wf := fun u => gw8 Y o a u) C rfl (u := M23) hF hP hD hS dX8_ofThread_108 (Nat.le_of_ble_eq_true rfl) (Nat.le_of_ble_eq_true rfl)
  · have hF := hF.2 c_16
    refine lv_iconst (v := 0) hx hb dX8_ofThread_19 (by decide) ?_
    exact mb_ri (S := mb_m) (mc := 0) (ms := 0) (wf := fun u => gw8 Y o a u) C rfl (u := M13) hF hP hD hS dX8_ofThread_20 (Nat.le_of_ble_eq_true rfl) (Nat.le_of_ble_eq_true rfl)
end
section
noncomputable def PX8_isGathering_27 (N : Nat) (K : Int32 → mb_m → Prop) (M : mb_m) (y0 y2 y3 : Int32) : Prop := vp_in y0 4 ∧ (PX8_in N y3 y2 ((M 5 y0.toNatClampNeg) - (1 : Int32)) (fun r30 _ => (r30 = 0 → K (0 : Int32) M) ∧ (¬ r30 = 0 → K (1 : Int32) M)))
set_option maxHeartbeats 4000000 in
set_option maxRecDepth 100000 in
theorem wX8_isGathering_27 {p : Program} {l : Launch} {e : Env} {s : State} {m : MethodId} {below : List Frame} {meth : Method} {c : Code} {args : Array Value} {D : va_G} {Y : Nat → ClassId} {A : Nat → Prop} {o : Nat} {a : Nat → Nat} {N : Nat} {K : Int32 → mb_m → Prop} (C : mb_Cx p s m meth c args cX8_isGathering 3 (some .boolean) wsX8_isGathering RX8 D Y A) : ∀ (M : mb_m) (y0 y2 y3 : Int32) (H : Heap) (locs : List Loc) (ls : Array Slot), PX8_isGathering_27 N K  M y0 y2 y3 → va_P D vwCl (gw8 Y o a M) H → va_D A (gw8 Y o a M) → va_S A s.heap H locs → lv_has ls 3 [] → W p l e ({ frames := 2, cells := 0, slots := 0, locals := 43 } : Room) s m args below meth c H locs 0 0 (MQ below (va_Qi K (fun u t => mb_T D A (gw8 Y o a u) t) A) args s 0 0 A) (F0 m 27 ls [.int y0, .ref (a 5), .int y2, .int y3]) := by
  obtain ⟨hx, hb, hr, hml, hts, hown, hlocks, hA, hG⟩ := id C
  have hK := hG.1
  intro M y0 y2 y3 H locs ls hF hP hD hS hl
  obtain ⟨hi27, hF⟩ := hF
  refine va_iald hx hb hK hP 4 0 rfl rfl hi27 dX8_isGathering_27 ?_
  refine lv_iconst (v := 1) hx hb dX8_isGathering_28 (by decide) ?_
  refine lv_isub hx hb dX8_isGathering_29 ?_
  refine mb_cE hP hS hA (va_runS (As := [.int y3, .int y2, .int ((M 5 y0.toNatClampNeg) - (1 : Int32))]) (rest := []) ⟨hx, hb, hml, hown, hts⟩ (cnX8_in l D Y N _ y3 y2 ((M 5 y0.toNatClampNeg) - (1 : Int32)) _ hF) (va_cwS 3 hts gX8_isGathering_X8_in rfl rfl rfl (by decide +kernel) ⟨Nat.le_of_ble_eq_true rfl, Nat.le_of_ble_eq_true rfl⟩) (mb_preS (A := A) hG mb_P0 mb_D0) rfl rfl hl.1 rfl (lv_room (Nat.le_of_ble_eq_true rfl)) dX8_isGathering_30 ⟨Nat.le_of_ble_eq_true rfl, Nat.le_of_ble_eq_true rfl⟩) (fun r30 H locs hF hP hS => ?_)
  refine lv_if_eq (tgt := 40) hx hb dX8_isGathering_33 (by decide) (fun c_33 => ?_) (fun c_33 => ?_)
  · have hF := hF.1 c_33
    refine lv_iconst (v := 0) hx hb dX8_isGathering_40 (by decide) ?_
    exact mb_ri (S := mb_m) (mc := 0) (ms := 0) (wf := fun u => gw8 Y o a u) C rfl (u := M) hF hP hD hS dX8_isGathering_41 (Nat.le_of_ble_eq_true rfl) (Nat.le_of_ble_eq_true rfl)
  · have hF := hF.2 c_33
    refine lv_iconst (v := 1) hx hb dX8_isGathering_36 (by decide) ?_
    refine lv_goto (tgt := 41) hx hb dX8_isGathering_37 (by decide) ?_
    exact mb_ri (S := mb_m) (mc := 0) (ms := 0) (wf := fun u => gw8 Y o a u) C rfl (u := M) hF hP hD hS dX8_isGathering_41 (Nat.le_of_ble_eq_true rfl) (Nat.le_of_ble_eq_true rfl)
noncomputable def PX8_isGathering (N : Nat) (M : mb_m) (x1 x2 : Int32) (K : Int32 → mb_m → Prop) : Prop := PX8_isBook N M x1 (fun r2 M2 => (r2 = 0 → K (0 : Int32) M2) ∧ (¬ r2 = 0 → PX8_isBook N M2 x1 (fun r16 M16 => (r16 = 0 → PX8_isGathering_27 N K M16 (0 : Int32) (0 : Int32) x2) ∧ (¬ r16 = 0 → PX8_isGathering_27 N K M16 x1 (0 : Int32) x2))))
set_option maxHeartbeats 4000000 in
set_option maxRecDepth 100000 in
theorem cnX8_isGathering (l : Launch) (D : va_G) (Y : Nat → ClassId) (N : Nat) (o : Nat) (a : Nat → Nat) (M : mb_m) (sz : Nat) (x1 x2 : Int32) (K : Int32 → mb_m → Prop) (hF : PX8_isGathering N M x1 x2 K) : Met l yX8_isGathering wsX8_isGathering ({ frames := 2, cells := 0, slots := 0, locals := 43 } : Room) (va_Pc [.ref o, .int x1, .int x2] (mb_B D Y (gw8 Y o a M) sz)) (va_Qi K (fun u t => mb_T D (va_A (gw8 Y o a M) sz) (gw8 Y o a u) t) (va_A (gw8 Y o a M) sz)) 0 0 (va_A (gw8 Y o a M) sz) := by
  refine mb_begin (cc := cX8_isGathering) (maxL := 3) (ret := (some .boolean)) (by decide +kernel) rfl (Nat.le_of_ble_eq_true rfl) ?_
  intro p e s m below meth c ls C hsz hnm hP hD hl
  generalize hAe : va_A (gw8 Y o a M) sz = A at C hD ⊢
  have C : mb_Cx p s m meth c ([.ref o, .int x1, .int x2] : List Value).toArray cX8_isGathering 3 (some .boolean) wsX8_isGathering RX8 D Y A := C
  obtain ⟨hx, hb, hr, hml, hts, hown, hlocks, hA, hG⟩ := id C
  have hK := hG.1
  have hS : va_S A s.heap s.heap [] := va_S.rf
  have hl : lv_has ls 3 [(0, .ref o), (1, .int x1), (2, .int x2)] := hl
  refine lv_aload_n hx hb dX8_isGathering_0 rfl (lv_at hl 0 rfl) ?_
  refine lv_iload_n hx hb dX8_isGathering_1 rfl (lv_at hl 1 rfl) ?_
  refine mb_cW hD hS hA (va_runV (As := [.int x1]) (rest := []) ⟨hx, hb, hml, hown, hts⟩ (cnX8_isBook l D Y N o a M _ x1 _ hF) (cwV 1 hts gX8_isGathering_X8_isBook rfl rfl rfl (by decide +kernel) ⟨Nat.le_of_ble_eq_true rfl, Nat.le_of_ble_eq_true rfl⟩) (mb_preV hG hP hD 0 rfl rfl) rfl rfl hl.1 rfl (lv_room (Nat.le_of_ble_eq_true rfl)) dX8_isGathering_2 ⟨Nat.le_of_ble_eq_true rfl, Nat.le_of_ble_eq_true rfl⟩) (fun r2 M2 H locs hF hP hD hS => ?_)
  refine lv_if_eq (tgt := 40) hx hb dX8_isGathering_5 (by decide) (fun c_5 => ?_) (fun c_5 => ?_)
  · have hF := hF.1 c_5
    refine lv_iconst (v := 0) hx hb dX8_isGathering_40 (by decide) ?_
    exact mb_ri (S := mb_m) (mc := 0) (ms := 0) (wf := fun u => gw8 Y o a u) C rfl (u := M2) hF hP hD hS dX8_isGathering_41 (Nat.le_of_ble_eq_true rfl) (Nat.le_of_ble_eq_true rfl)
  · have hF := hF.2 c_5
    refine lv_iload_n hx hb dX8_isGathering_8 rfl (lv_at hl 2 rfl) ?_
    refine lv_iconst (v := 0) hx hb dX8_isGathering_9 (by decide) ?_
    refine lv_aload_n hx hb dX8_isGathering_10 rfl (lv_at hl 0 rfl) ?_
    refine va_get (D := D) (ci := 8) (v := .ref (a 5)) (C := RX8) (T := TX8) (N := 28) hx hb hts (fun _ h9 => List.mem_cons_of_mem _ (List.mem_append_right _ (h9))) hown hK hP 0 rfl rfl 5 (by decide) (hts (.fieldLink RX8 19 "MarbleBenchModel" "gatherings" "[I") (List.mem_of_getElem? (i := 1) rfl)) (fun _ h9 => h9) rfl dX8_isGathering_11 ?_
    refine lv_aload_n hx hb dX8_isGathering_14 rfl (lv_at hl 0 rfl) ?_
    refine lv_iload_n hx hb dX8_isGathering_15 rfl (lv_at hl 1 rfl) ?_
    refine mb_cW hD hS hA (va_runV (As := [.int x1]) (rest := [.ref (a 5), .int (0 : Int32), .int x2]) ⟨hx, hb, hml, hown, hts⟩ (cnX8_isBook l D Y N o a M2 _ x1 _ hF) (cwV 1 hts gX8_isGathering_X8_isBook rfl rfl rfl (by decide +kernel) ⟨Nat.le_of_ble_eq_true rfl, Nat.le_of_ble_eq_true rfl⟩) (mb_preV hG hP hD 0 rfl rfl) rfl rfl hl.1 rfl (lv_room (Nat.le_of_ble_eq_true rfl)) dX8_isGathering_16 ⟨Nat.le_of_ble_eq_true rfl, Nat.le_of_ble_eq_true rfl⟩) (fun r16 M16 H locs hF hP hD hS => ?_)
    refine lv_if_eq (tgt := 26) hx hb dX8_isGathering_19 (by decide) (fun c_19 => ?_) (fun c_19 => ?_)
    · have hF := hF.1 c_19
      refine lv_iconst (v := 0) hx hb dX8_isGathering_26 (by decide) ?_
      exact wX8_isGathering_27 C M16 (0 : Int32) (0 : Int32) x2 _ _ _ hF hP hD hS (lv_sub hl [] rfl)
    · have hF := hF.2 c_19
      refine lv_iload_n hx hb dX8_isGathering_22 rfl (lv_at hl 1 rfl) ?_
      refine lv_goto (tgt := 27) hx hb dX8_isGathering_23 (by decide) ?_
      exact wX8_isGathering_27 C M16 x1 (0 : Int32) x2 _ _ _ hF hP hD hS (lv_sub hl [] rfl)
end
section
noncomputable def PX8_stitches_43 (N : Nat) (K : Int32 → mb_m → Prop) (M : mb_m) (x1 x2 x3 y0 : Int32) : Prop := PX8_goes N M y0 (1 : Int32) (1 : Int32) (fun r45 M45 => (¬ r45 = 0 → PX8_follows N M45 x1 (fun M55 => vp_in (((5 : Int32) * x2) + x3) 40 ∧ (K (M55 13 (((5 : Int32) * x2) + x3).toNatClampNeg) M55))) ∧ (r45 = 0 → K (0 : Int32) M45))
set_option maxHeartbeats 4000000 in
set_option maxRecDepth 100000 in
theorem wX8_stitches_43 {p : Program} {l : Launch} {e : Env} {s : State} {m : MethodId} {below : List Frame} {meth : Method} {c : Code} {args : Array Value} {D : va_G} {Y : Nat → ClassId} {A : Nat → Prop} {o : Nat} {a : Nat → Nat} {N : Nat} {K : Int32 → mb_m → Prop} (C : mb_Cx p s m meth c args cX8_stitches 4 (some .int) wsX8_stitches RX8 D Y A) : ∀ (M : mb_m) (x1 x2 x3 y0 : Int32) (H : Heap) (locs : List Loc) (ls : Array Slot), PX8_stitches_43 N K  M x1 x2 x3 y0 → va_P D vwCl (gw8 Y o a M) H → va_D A (gw8 Y o a M) → va_S A s.heap H locs → lv_has ls 4 [(0, .ref o), (1, .int x1), (2, .int x2), (3, .int x3)] → W p l e ({ frames := 3, cells := 0, slots := 0, locals := 65 } : Room) s m args below meth c H locs 0 0 (MQ below (va_Qi K (fun u t => mb_T D A (gw8 Y o a u) t) A) args s 0 0 A) (F0 m 43 ls [.int y0, .ref o]) := by
  obtain ⟨hx, hb, hr, hml, hts, hown, hlocks, hA, hG⟩ := id C
  have hK := hG.1
  intro M x1 x2 x3 y0 H locs ls hF hP hD hS hl
  refine lv_iconst (v := 1) hx hb dX8_stitches_43 (by decide) ?_
  refine lv_iconst (v := 1) hx hb dX8_stitches_44 (by decide) ?_
  refine mb_cW hD hS hA (va_runV (As := [.int y0, .int (1 : Int32), .int (1 : Int32)]) (rest := []) ⟨hx, hb, hml, hown, hts⟩ (cnX8_goes l D Y N o a M _ y0 (1 : Int32) (1 : Int32) _ hF) (cwV 3 hts gX8_stitches_X8_goes rfl rfl rfl (by decide +kernel) ⟨Nat.le_of_ble_eq_true rfl, Nat.le_of_ble_eq_true rfl⟩) (mb_preV hG hP hD 0 rfl rfl) rfl rfl hl.1 rfl (lv_room (Nat.le_of_ble_eq_true rfl)) dX8_stitches_45 ⟨Nat.le_of_ble_eq_true rfl, Nat.le_of_ble_eq_true rfl⟩) (fun r45 M45 H locs hF hP hD hS => ?_)
  refine lv_if_ne (tgt := 53) hx hb dX8_stitches_48 (by decide) (fun c_48 => ?_) (fun c_48 => ?_)
  · have hF := hF.1 c_48
    refine lv_aload_n hx hb dX8_stitches_53 rfl (lv_at hl 0 rfl) ?_
    refine lv_iload_n hx hb dX8_stitches_54 rfl (lv_at hl 1 rfl) ?_
    refine mb_cWv hD hS hA (va_runV (As := [.int x1]) (rest := []) ⟨hx, hb, hml, hown, hts⟩ (cnX8_follows l D Y N o a M45 _ x1 _ hF) (cwV 1 hts gX8_stitches_X8_follows rfl rfl rfl (by decide +kernel) ⟨Nat.le_of_ble_eq_true rfl, Nat.le_of_ble_eq_true rfl⟩) (mb_preV hG hP hD 0 rfl rfl) rfl rfl hl.1 rfl (lv_room (Nat.le_of_ble_eq_true rfl)) dX8_stitches_55 ⟨Nat.le_of_ble_eq_true rfl, Nat.le_of_ble_eq_true rfl⟩) (fun M55 H locs hF hP hD hS => ?_)
    refine lv_aload_n hx hb dX8_stitches_58 rfl (lv_at hl 0 rfl) ?_
    refine va_get (D := D) (ci := 8) (v := .ref (a 13)) (C := RX8) (T := TX8) (N := 28) hx hb hts (fun _ h9 => List.mem_cons_of_mem _ (List.mem_append_right _ (h9))) hown hK hP 0 rfl rfl 13 (by decide) (hts (.fieldLink RX8 44 "MarbleBenchModel" "stitch" "[I") (List.mem_of_getElem? (i := 2) rfl)) (fun _ h9 => h9) rfl dX8_stitches_59 ?_
    refine lv_iconst (v := 5) hx hb dX8_stitches_62 (by decide) ?_
    refine lv_iload_n hx hb dX8_stitches_63 rfl (lv_at hl 2 rfl) ?_
    refine lv_imul hx hb dX8_stitches_64 ?_
    refine lv_iload_n hx hb dX8_stitches_65 rfl (lv_at hl 3 rfl) ?_
    refine lv_iadd hx hb dX8_stitches_66 ?_
    obtain ⟨hi67, hF⟩ := hF
    refine va_iald hx hb hK hP 12 0 rfl rfl hi67 dX8_stitches_67 ?_
    exact mb_ri (S := mb_m) (mc := 0) (ms := 0) (wf := fun u => gw8 Y o a u) C rfl (u := M55) hF hP hD hS dX8_stitches_68 (Nat.le_of_ble_eq_true rfl) (Nat.le_of_ble_eq_true rfl)
  · have hF := hF.2 c_48
    refine lv_iconst (v := 0) hx hb dX8_stitches_51 (by decide) ?_
    exact mb_ri (S := mb_m) (mc := 0) (ms := 0) (wf := fun u => gw8 Y o a u) C rfl (u := M45) hF hP hD hS dX8_stitches_52 (Nat.le_of_ble_eq_true rfl) (Nat.le_of_ble_eq_true rfl)
noncomputable def PX8_stitches_42 (N : Nat) (K : Int32 → mb_m → Prop) (M : mb_m) (x1 x2 x3 : Int32) : Prop := PX8_stitches_43 N K M x1 x2 x3 (0 : Int32)
set_option maxHeartbeats 4000000 in
set_option maxRecDepth 100000 in
theorem wX8_stitches_42 {p : Program} {l : Launch} {e : Env} {s : State} {m : MethodId} {below : List Frame} {meth : Method} {c : Code} {args : Array Value} {D : va_G} {Y : Nat → ClassId} {A : Nat → Prop} {o : Nat} {a : Nat → Nat} {N : Nat} {K : Int32 → mb_m → Prop} (C : mb_Cx p s m meth c args cX8_stitches 4 (some .int) wsX8_stitches RX8 D Y A) : ∀ (M : mb_m) (x1 x2 x3 : Int32) (H : Heap) (locs : List Loc) (ls : Array Slot), PX8_stitches_42 N K  M x1 x2 x3 → va_P D vwCl (gw8 Y o a M) H → va_D A (gw8 Y o a M) → va_S A s.heap H locs → lv_has ls 4 [(0, .ref o), (1, .int x1), (2, .int x2), (3, .int x3)] → W p l e ({ frames := 3, cells := 0, slots := 0, locals := 65 } : Room) s m args below meth c H locs 0 0 (MQ below (va_Qi K (fun u t => mb_T D A (gw8 Y o a u) t) A) args s 0 0 A) (F0 m 42 ls [.ref o]) := by
  obtain ⟨hx, hb, hr, hml, hts, hown, hlocks, hA, hG⟩ := id C
  have hK := hG.1
  intro M x1 x2 x3 H locs ls hF hP hD hS hl
  refine lv_iconst (v := 0) hx hb dX8_stitches_42 (by decide) ?_
  exact wX8_stitches_43 C M x1 x2 x3 (0 : Int32) _ _ _ hF hP hD hS (lv_sub hl [0, 1, 2, 3] rfl)
noncomputable def PX8_stitches_29 (N : Nat) (K : Int32 → mb_m → Prop) (M : mb_m) (x1 x2 x3 y0 y2 y3 : Int32) : Prop := vp_in y0 4 ∧ (PX8_in N y3 y2 ((M 7 y0.toNatClampNeg) - (2 : Int32)) (fun r32 _ => (r32 = 0 → PX8_stitches_42 N K M x1 x2 x3) ∧ (¬ r32 = 0 → PX8_stitches_43 N K M x1 x2 x3 (1 : Int32))))
set_option maxHeartbeats 4000000 in
set_option maxRecDepth 100000 in
theorem wX8_stitches_29 {p : Program} {l : Launch} {e : Env} {s : State} {m : MethodId} {below : List Frame} {meth : Method} {c : Code} {args : Array Value} {D : va_G} {Y : Nat → ClassId} {A : Nat → Prop} {o : Nat} {a : Nat → Nat} {N : Nat} {K : Int32 → mb_m → Prop} (C : mb_Cx p s m meth c args cX8_stitches 4 (some .int) wsX8_stitches RX8 D Y A) : ∀ (M : mb_m) (x1 x2 x3 y0 y2 y3 : Int32) (H : Heap) (locs : List Loc) (ls : Array Slot), PX8_stitches_29 N K  M x1 x2 x3 y0 y2 y3 → va_P D vwCl (gw8 Y o a M) H → va_D A (gw8 Y o a M) → va_S A s.heap H locs → lv_has ls 4 [(0, .ref o), (1, .int x1), (2, .int x2), (3, .int x3)] → W p l e ({ frames := 3, cells := 0, slots := 0, locals := 65 } : Room) s m args below meth c H locs 0 0 (MQ below (va_Qi K (fun u t => mb_T D A (gw8 Y o a u) t) A) args s 0 0 A) (F0 m 29 ls [.int y0, .ref (a 7), .int y2, .int y3, .ref o]) := by
  obtain ⟨hx, hb, hr, hml, hts, hown, hlocks, hA, hG⟩ := id C
  have hK := hG.1
  intro M x1 x2 x3 y0 y2 y3 H locs ls hF hP hD hS hl
  obtain ⟨hi29, hF⟩ := hF
  refine va_iald hx hb hK hP 6 0 rfl rfl hi29 dX8_stitches_29 ?_
  refine lv_iconst (v := 2) hx hb dX8_stitches_30 (by decide) ?_
  refine lv_isub hx hb dX8_stitches_31 ?_
  refine mb_cE hP hS hA (va_runS (As := [.int y3, .int y2, .int ((M 7 y0.toNatClampNeg) - (2 : Int32))]) (rest := [.ref o]) ⟨hx, hb, hml, hown, hts⟩ (cnX8_in l D Y N _ y3 y2 ((M 7 y0.toNatClampNeg) - (2 : Int32)) _ hF) (va_cwS 3 hts gX8_stitches_X8_in rfl rfl rfl (by decide +kernel) ⟨Nat.le_of_ble_eq_true rfl, Nat.le_of_ble_eq_true rfl⟩) (mb_preS (A := A) hG mb_P0 mb_D0) rfl rfl hl.1 rfl (lv_room (Nat.le_of_ble_eq_true rfl)) dX8_stitches_32 ⟨Nat.le_of_ble_eq_true rfl, Nat.le_of_ble_eq_true rfl⟩) (fun r32 H locs hF hP hS => ?_)
  refine lv_if_eq (tgt := 42) hx hb dX8_stitches_35 (by decide) (fun c_35 => ?_) (fun c_35 => ?_)
  · have hF := hF.1 c_35
    exact wX8_stitches_42 C M x1 x2 x3 _ _ _ hF hP hD hS (lv_sub hl [0, 1, 2, 3] rfl)
  · have hF := hF.2 c_35
    refine lv_iconst (v := 1) hx hb dX8_stitches_38 (by decide) ?_
    refine lv_goto (tgt := 43) hx hb dX8_stitches_39 (by decide) ?_
    exact wX8_stitches_43 C M x1 x2 x3 (1 : Int32) _ _ _ hF hP hD hS (lv_sub hl [0, 1, 2, 3] rfl)
noncomputable def PX8_stitches (N : Nat) (M : mb_m) (x1 x2 x3 : Int32) (K : Int32 → mb_m → Prop) : Prop := PX8_isGathering N M x1 x2 (fun r4 M4 => (r4 = 0 → PX8_stitches_42 N K M4 x1 x2 x3) ∧ (¬ r4 = 0 → PX8_isBook N M4 x1 (fun r18 M18 => (r18 = 0 → PX8_stitches_29 N K M18 x1 x2 x3 (0 : Int32) (0 : Int32) x3) ∧ (¬ r18 = 0 → PX8_stitches_29 N K M18 x1 x2 x3 x1 (0 : Int32) x3))))
set_option maxHeartbeats 4000000 in
set_option maxRecDepth 100000 in
theorem cnX8_stitches (l : Launch) (D : va_G) (Y : Nat → ClassId) (N : Nat) (o : Nat) (a : Nat → Nat) (M : mb_m) (sz : Nat) (x1 x2 x3 : Int32) (K : Int32 → mb_m → Prop) (hF : PX8_stitches N M x1 x2 x3 K) : Met l yX8_stitches wsX8_stitches ({ frames := 3, cells := 0, slots := 0, locals := 65 } : Room) (va_Pc [.ref o, .int x1, .int x2, .int x3] (mb_B D Y (gw8 Y o a M) sz)) (va_Qi K (fun u t => mb_T D (va_A (gw8 Y o a M) sz) (gw8 Y o a u) t) (va_A (gw8 Y o a M) sz)) 0 0 (va_A (gw8 Y o a M) sz) := by
  refine mb_begin (cc := cX8_stitches) (maxL := 4) (ret := (some .int)) (by decide +kernel) rfl (Nat.le_of_ble_eq_true rfl) ?_
  intro p e s m below meth c ls C hsz hnm hP hD hl
  generalize hAe : va_A (gw8 Y o a M) sz = A at C hD ⊢
  have C : mb_Cx p s m meth c ([.ref o, .int x1, .int x2, .int x3] : List Value).toArray cX8_stitches 4 (some .int) wsX8_stitches RX8 D Y A := C
  obtain ⟨hx, hb, hr, hml, hts, hown, hlocks, hA, hG⟩ := id C
  have hK := hG.1
  have hS : va_S A s.heap s.heap [] := va_S.rf
  have hl : lv_has ls 4 [(0, .ref o), (1, .int x1), (2, .int x2), (3, .int x3)] := hl
  refine lv_aload_n hx hb dX8_stitches_0 rfl (lv_at hl 0 rfl) ?_
  refine lv_aload_n hx hb dX8_stitches_1 rfl (lv_at hl 0 rfl) ?_
  refine lv_iload_n hx hb dX8_stitches_2 rfl (lv_at hl 1 rfl) ?_
  refine lv_iload_n hx hb dX8_stitches_3 rfl (lv_at hl 2 rfl) ?_
  refine mb_cW hD hS hA (va_runV (As := [.int x1, .int x2]) (rest := [.ref o]) ⟨hx, hb, hml, hown, hts⟩ (cnX8_isGathering l D Y N o a M _ x1 x2 _ hF) (cwV 2 hts gX8_stitches_X8_isGathering rfl rfl rfl (by decide +kernel) ⟨Nat.le_of_ble_eq_true rfl, Nat.le_of_ble_eq_true rfl⟩) (mb_preV hG hP hD 0 rfl rfl) rfl rfl hl.1 rfl (lv_room (Nat.le_of_ble_eq_true rfl)) dX8_stitches_4 ⟨Nat.le_of_ble_eq_true rfl, Nat.le_of_ble_eq_true rfl⟩) (fun r4 M4 H locs hF hP hD hS => ?_)
  refine lv_if_eq (tgt := 42) hx hb dX8_stitches_7 (by decide) (fun c_7 => ?_) (fun c_7 => ?_)
  · have hF := hF.1 c_7
    exact wX8_stitches_42 C M4 x1 x2 x3 _ _ _ hF hP hD hS (lv_sub hl [0, 1, 2, 3] rfl)
  · have hF := hF.2 c_7
    refine lv_iload_n hx hb dX8_stitches_10 rfl (lv_at hl 3 rfl) ?_
    refine lv_iconst (v := 0) hx hb dX8_stitches_11 (by decide) ?_
    refine lv_aload_n hx hb dX8_stitches_12 rfl (lv_at hl 0 rfl) ?_
    refine va_get (D := D) (ci := 8) (v := .ref (a 7)) (C := RX8) (T := TX8) (N := 28) hx hb hts (fun _ h9 => List.mem_cons_of_mem _ (List.mem_append_right _ (h9))) hown hK hP 0 rfl rfl 7 (by decide) (hts (.fieldLink RX8 25 "MarbleBenchModel" "stations" "[I") (List.mem_of_getElem? (i := 1) rfl)) (fun _ h9 => h9) rfl dX8_stitches_13 ?_
    refine lv_aload_n hx hb dX8_stitches_16 rfl (lv_at hl 0 rfl) ?_
    refine lv_iload_n hx hb dX8_stitches_17 rfl (lv_at hl 1 rfl) ?_
    refine mb_cW hD hS hA (va_runV (As := [.int x1]) (rest := [.ref (a 7), .int (0 : Int32), .int x3, .ref o]) ⟨hx, hb, hml, hown, hts⟩ (cnX8_isBook l D Y N o a M4 _ x1 _ hF) (cwV 1 hts gX8_stitches_X8_isBook rfl rfl rfl (by decide +kernel) ⟨Nat.le_of_ble_eq_true rfl, Nat.le_of_ble_eq_true rfl⟩) (mb_preV hG hP hD 0 rfl rfl) rfl rfl hl.1 rfl (lv_room (Nat.le_of_ble_eq_true rfl)) dX8_stitches_18 ⟨Nat.le_of_ble_eq_true rfl, Nat.le_of_ble_eq_true rfl⟩) (fun r18 M18 H locs hF hP hD hS => ?_)
    refine lv_if_eq (tgt := 28) hx hb dX8_stitches_21 (by decide) (fun c_21 => ?_) (fun c_21 => ?_)
    · have hF := hF.1 c_21
      refine lv_iconst (v := 0) hx hb dX8_stitches_28 (by decide) ?_
      exact wX8_stitches_29 C M18 x1 x2 x3 (0 : Int32) (0 : Int32) x3 _ _ _ hF hP hD hS (lv_sub hl [0, 1, 2, 3] rfl)
    · have hF := hF.2 c_21
      refine lv_iload_n hx hb dX8_stitches_24 rfl (lv_at hl 1 rfl) ?_
      refine lv_goto (tgt := 29) hx hb dX8_stitches_25 (by decide) ?_
      exact wX8_stitches_29 C M18 x1 x2 x3 x1 (0 : Int32) x3 _ _ _ hF hP hD hS (lv_sub hl [0, 1, 2, 3] rfl)
end
section
noncomputable def PX8_isHeld (N : Nat) (M : mb_m) (x1 x2 : Int32) (K : Int32 → mb_m → Prop) : Prop := PX8_isGathering N M x1 x2 (fun r4 M4 => PX8_goes N M4 r4 (1 : Int32) (1 : Int32) (fun r9 M9 => (¬ r9 = 0 → PX8_follows N M9 x1 (fun M19 => PX8_holds N M19 x1 x2 (fun r25 M25 => mb_isB r25 ∧ (K r25 M25)))) ∧ (r9 = 0 → K (0 : Int32) M9)))
set_option maxHeartbeats 4000000 in
set_option maxRecDepth 100000 in
theorem cnX8_isHeld (l : Launch) (D : va_G) (Y : Nat → ClassId) (N : Nat) (o : Nat) (a : Nat → Nat) (M : mb_m) (sz : Nat) (x1 x2 : Int32) (K : Int32 → mb_m → Prop) (hF : PX8_isHeld N M x1 x2 K) : Met l yX8_isHeld wsX8_isHeld ({ frames := 3, cells := 0, slots := 0, locals := 65 } : Room) (va_Pc [.ref o, .int x1, .int x2] (mb_B D Y (gw8 Y o a M) sz)) (va_Qi K (fun u t => mb_T D (va_A (gw8 Y o a M) sz) (gw8 Y o a u) t) (va_A (gw8 Y o a M) sz)) 0 0 (va_A (gw8 Y o a M) sz) := by
  refine mb_begin (cc := cX8_isHeld) (maxL := 3) (ret := (some .boolean)) (by decide +kernel) rfl (Nat.le_of_ble_eq_true rfl) ?_
  intro p e s m below meth c ls C hsz hnm hP hD hl
  generalize hAe : va_A (gw8 Y o a M) sz = A at C hD ⊢
  have C : mb_Cx p s m meth c ([.ref o, .int x1, .int x2] : List Value).toArray cX8_isHeld 3 (some .boolean) wsX8_isHeld RX8 D Y A := C
  obtain ⟨hx, hb, hr, hml, hts, hown, hlocks, hA, hG⟩ := id C
  have hK := hG.1
  have hS : va_S A s.heap s.heap [] := va_S.rf
  have hl : lv_has ls 3 [(0, .ref o), (1, .int x1), (2, .int x2)] := hl
  refine lv_aload_n hx hb dX8_isHeld_0 rfl (lv_at hl 0 rfl) ?_
  refine lv_aload_n hx hb dX8_isHeld_1 rfl (lv_at hl 0 rfl) ?_
  refine lv_iload_n hx hb dX8_isHeld_2 rfl (lv_at hl 1 rfl) ?_
  refine lv_iload_n hx hb dX8_isHeld_3 rfl (lv_at hl 2 rfl) ?_
  refine mb_cW hD hS hA (va_runV (As := [.int x1, .int x2]) (rest := [.ref o]) ⟨hx, hb, hml, hown, hts⟩ (cnX8_isGathering l D Y N o a M _ x1 x2 _ hF) (cwV 2 hts gX8_isHeld_X8_isGathering rfl rfl rfl (by decide +kernel) ⟨Nat.le_of_ble_eq_true rfl, Nat.le_of_ble_eq_true rfl⟩) (mb_preV hG hP hD 0 rfl rfl) rfl rfl hl.1 rfl (lv_room (Nat.le_of_ble_eq_true rfl)) dX8_isHeld_4 ⟨Nat.le_of_ble_eq_true rfl, Nat.le_of_ble_eq_true rfl⟩) (fun r4 M4 H locs hF hP hD hS => ?_)
  refine lv_iconst (v := 1) hx hb dX8_isHeld_7 (by decide) ?_
  refine lv_iconst (v := 1) hx hb dX8_isHeld_8 (by decide) ?_
  refine mb_cW hD hS hA (va_runV (As := [.int r4, .int (1 : Int32), .int (1 : Int32)]) (rest := []) ⟨hx, hb, hml, hown, hts⟩ (cnX8_goes l D Y N o a M4 _ r4 (1 : Int32) (1 : Int32) _ hF) (cwV 3 hts gX8_isHeld_X8_goes rfl rfl rfl (by decide +kernel) ⟨Nat.le_of_ble_eq_true rfl, Nat.le_of_ble_eq_true rfl⟩) (mb_preV hG hP hD 0 rfl rfl) rfl rfl hl.1 rfl (lv_room (Nat.le_of_ble_eq_true rfl)) dX8_isHeld_9 ⟨Nat.le_of_ble_eq_true rfl, Nat.le_of_ble_eq_true rfl⟩) (fun r9 M9 H locs hF hP hD hS => ?_)
  refine lv_if_ne (tgt := 17) hx hb dX8_isHeld_12 (by decide) (fun c_12 => ?_) (fun c_12 => ?_)
  · have hF := hF.1 c_12
    refine lv_aload_n hx hb dX8_isHeld_17 rfl (lv_at hl 0 rfl) ?_
    refine lv_iload_n hx hb dX8_isHeld_18 rfl (lv_at hl 1 rfl) ?_
    refine mb_cWv hD hS hA (va_runV (As := [.int x1]) (rest := []) ⟨hx, hb, hml, hown, hts⟩ (cnX8_follows l D Y N o a M9 _ x1 _ hF) (cwV 1 hts gX8_isHeld_X8_follows rfl rfl rfl (by decide +kernel) ⟨Nat.le_of_ble_eq_true rfl, Nat.le_of_ble_eq_true rfl⟩) (mb_preV hG hP hD 0 rfl rfl) rfl rfl hl.1 rfl (lv_room (Nat.le_of_ble_eq_true rfl)) dX8_isHeld_19 ⟨Nat.le_of_ble_eq_true rfl, Nat.le_of_ble_eq_true rfl⟩) (fun M19 H locs hF hP hD hS => ?_)
    refine lv_aload_n hx hb dX8_isHeld_22 rfl (lv_at hl 0 rfl) ?_
    refine lv_iload_n hx hb dX8_isHeld_23 rfl (lv_at hl 1 rfl) ?_
    refine lv_iload_n hx hb dX8_isHeld_24 rfl (lv_at hl 2 rfl) ?_
    refine mb_cW hD hS hA (va_runV (As := [.int x1, .int x2]) (rest := []) ⟨hx, hb, hml, hown, hts⟩ (cnX8_holds l D Y N o a M19 _ x1 x2 _ hF) (cwV 2 hts gX8_isHeld_X8_holds rfl rfl rfl (by decide +kernel) ⟨Nat.le_of_ble_eq_true rfl, Nat.le_of_ble_eq_true rfl⟩) (mb_preV hG hP hD 0 rfl rfl) rfl rfl hl.1 rfl (lv_room (Nat.le_of_ble_eq_true rfl)) dX8_isHeld_25 ⟨Nat.le_of_ble_eq_true rfl, Nat.le_of_ble_eq_true rfl⟩) (fun r25 M25 H locs hF hP hD hS => ?_)
    obtain ⟨hz28, hF⟩ := hF
    exact mb_ri (S := mb_m) (mc := 0) (ms := 0) (wf := fun u => gw8 Y o a u) C (mb_isB_n hz28) (u := M25) hF hP hD hS dX8_isHeld_28 (Nat.le_of_ble_eq_true rfl) (Nat.le_of_ble_eq_true rfl)
  · have hF := hF.2 c_12
    refine lv_iconst (v := 0) hx hb dX8_isHeld_15 (by decide) ?_
    exact mb_ri (S := mb_m) (mc := 0) (ms := 0) (wf := fun u => gw8 Y o a u) C rfl (u := M9) hF hP hD hS dX8_isHeld_16 (Nat.le_of_ble_eq_true rfl) (Nat.le_of_ble_eq_true rfl)
end
section
noncomputable def PX8_back (N : Nat) (M : mb_m) (x1 x2 : Int32) (K : Int32 → mb_m → Prop) : Prop := PX8_isBook N M x1 (fun r3 M3 => PX8_in N x2 (0 : Int32) (2 : Int32) (fun r9 _ => PX8_goes N M3 r3 r9 (1 : Int32) (fun r13 M13 => (¬ r13 = 0 → vp_in x1 4 ∧ (∀ v27 : Int32, v27 = (M13 10 x1.toNatClampNeg) → (vp_in x1 4 ∧ (∀ M34 : mb_m, M34 = mb_u M13 10 (upd (M13 10) x1.toNatClampNeg x2) → (K v27 M34))))) ∧ (r13 = 0 → K (0 : Int32) M13))))
set_option maxHeartbeats 4000000 in
set_option maxRecDepth 100000 in
theorem cnX8_back (l : Launch) (D : va_G) (Y : Nat → ClassId) (N : Nat) (o : Nat) (a : Nat → Nat) (M : mb_m) (sz : Nat) (x1 x2 : Int32) (K : Int32 → mb_m → Prop) (hF : PX8_back N M x1 x2 K) : Met l yX8_back wsX8_back ({ frames := 2, cells := 0, slots := 0, locals := 43 } : Room) (va_Pc [.ref o, .int x1, .int x2] (mb_B D Y (gw8 Y o a M) sz)) (va_Qi K (fun u t => mb_T D (va_A (gw8 Y o a M) sz) (gw8 Y o a u) t) (va_A (gw8 Y o a M) sz)) 0 0 (va_A (gw8 Y o a M) sz) := by
  refine mb_begin (cc := cX8_back) (maxL := 4) (ret := (some .int)) (by decide +kernel) rfl (Nat.le_of_ble_eq_true rfl) ?_
  intro p e s m below meth c ls C hsz hnm hP hD hl
  generalize hAe : va_A (gw8 Y o a M) sz = A at C hD ⊢
  have C : mb_Cx p s m meth c ([.ref o, .int x1, .int x2] : List Value).toArray cX8_back 4 (some .int) wsX8_back RX8 D Y A := C
  obtain ⟨hx, hb, hr, hml, hts, hown, hlocks, hA, hG⟩ := id C
  have hK := hG.1
  have hS : va_S A s.heap s.heap [] := va_S.rf
  have hl : lv_has ls 4 [(0, .ref o), (1, .int x1), (2, .int x2)] := hl
  refine lv_aload_n hx hb dX8_back_0 rfl (lv_at hl 0 rfl) ?_
  refine lv_aload_n hx hb dX8_back_1 rfl (lv_at hl 0 rfl) ?_
  refine lv_iload_n hx hb dX8_back_2 rfl (lv_at hl 1 rfl) ?_
  refine mb_cW hD hS hA (va_runV (As := [.int x1]) (rest := [.ref o]) ⟨hx, hb, hml, hown, hts⟩ (cnX8_isBook l D Y N o a M _ x1 _ hF) (cwV 1 hts gX8_back_X8_isBook rfl rfl rfl (by decide +kernel) ⟨Nat.le_of_ble_eq_true rfl, Nat.le_of_ble_eq_true rfl⟩) (mb_preV hG hP hD 0 rfl rfl) rfl rfl hl.1 rfl (lv_room (Nat.le_of_ble_eq_true rfl)) dX8_back_3 ⟨Nat.le_of_ble_eq_true rfl, Nat.le_of_ble_eq_true rfl⟩) (fun r3 M3 H locs hF hP hD hS => ?_)
  refine lv_iload_n hx hb dX8_back_6 rfl (lv_at hl 2 rfl) ?_
  refine lv_iconst (v := 0) hx hb dX8_back_7 (by decide) ?_
  refine lv_iconst (v := 2) hx hb dX8_back_8 (by decide) ?_
  refine mb_cE hP hS hA (va_runS (As := [.int x2, .int (0 : Int32), .int (2 : Int32)]) (rest := [.int r3, .ref o]) ⟨hx, hb, hml, hown, hts⟩ (cnX8_in l D Y N _ x2 (0 : Int32) (2 : Int32) _ hF) (va_cwS 3 hts gX8_back_X8_in rfl rfl rfl (by decide +kernel) ⟨Nat.le_of_ble_eq_true rfl, Nat.le_of_ble_eq_true rfl⟩) (mb_preS (A := A) hG mb_P0 mb_D0) rfl rfl hl.1 rfl (lv_room (Nat.le_of_ble_eq_true rfl)) dX8_back_9 ⟨Nat.le_of_ble_eq_true rfl, Nat.le_of_ble_eq_true rfl⟩) (fun r9 H locs hF hP hS => ?_)
  refine lv_iconst (v := 1) hx hb dX8_back_12 (by decide) ?_
  refine mb_cW hD hS hA (va_runV (As := [.int r3, .int r9, .int (1 : Int32)]) (rest := []) ⟨hx, hb, hml, hown, hts⟩ (cnX8_goes l D Y N o a M3 _ r3 r9 (1 : Int32) _ hF) (cwV 3 hts gX8_back_X8_goes rfl rfl rfl (by decide +kernel) ⟨Nat.le_of_ble_eq_true rfl, Nat.le_of_ble_eq_true rfl⟩) (mb_preV hG hP hD 0 rfl rfl) rfl rfl hl.1 rfl (lv_room (Nat.le_of_ble_eq_true rfl)) dX8_back_13 ⟨Nat.le_of_ble_eq_true rfl, Nat.le_of_ble_eq_true rfl⟩) (fun r13 M13 H locs hF hP hD hS => ?_)
  refine lv_if_ne (tgt := 21) hx hb dX8_back_16 (by decide) (fun c_16 => ?_) (fun c_16 => ?_)
  · have hF := hF.1 c_16
    refine lv_aload_n hx hb dX8_back_21 rfl (lv_at hl 0 rfl) ?_
    refine va_get (D := D) (ci := 8) (v := .ref (a 10)) (C := RX8) (T := TX8) (N := 28) hx hb hts (fun _ h9 => List.mem_cons_of_mem _ (List.mem_append_right _ (h9))) hown hK hP 0 rfl rfl 10 (by decide) (hts (.fieldLink RX8 35 "MarbleBenchModel" "back" "[I") (List.mem_of_getElem? (i := 1) rfl)) (fun _ h9 => h9) rfl dX8_back_22 ?_
    refine lv_iload_n hx hb dX8_back_25 rfl (lv_at hl 1 rfl) ?_
    obtain ⟨hi26, hF⟩ := hF
    refine va_iald hx hb hK hP 9 0 rfl rfl hi26 dX8_back_26 ?_
    refine lv_topi (fun v27 ev27 => ?_)
    have hF := hF v27 ev27
    refine lv_istore_n (lv' := [(3, .int v27), (0, .ref o), (1, .int x1), (2, .int x2)]) hx hb dX8_back_27 rfl hl (by decide) rfl (fun ls hl => ?_)
    refine lv_aload_n hx hb dX8_back_28 rfl (lv_at hl 1 rfl) ?_
    refine va_get (D := D) (ci := 8) (v := .ref (a 10)) (C := RX8) (T := TX8) (N := 28) hx hb hts (fun _ h9 => List.mem_cons_of_mem _ (List.mem_append_right _ (h9))) hown hK hP 0 rfl rfl 10 (by decide) (hts (.fieldLink RX8 35 "MarbleBenchModel" "back" "[I") (List.mem_of_getElem? (i := 1) rfl)) (fun _ h9 => h9) rfl dX8_back_29 ?_
    refine lv_iload_n hx hb dX8_back_32 rfl (lv_at hl 2 rfl) ?_
    refine lv_iload_n hx hb dX8_back_33 rfl (lv_at hl 3 rfl) ?_
    obtain ⟨hi34, hF⟩ := hF
    refine va_iast hx hb hK hP hD hS 9 0 rfl rfl hi34 dX8_back_34 (fun H locs hP hD hS => ?_)
    obtain ⟨M34, eM34⟩ : ∃ y : mb_m, y = mb_u M13 10 (upd (M13 10) x1.toNatClampNeg x2) := ⟨_, rfl⟩
    have hF := hF M34 eM34
    have hP : va_P D vwCl (gw8 Y o a (mb_u M13 10 (upd (M13 10) x1.toNatClampNeg x2))) H := hP
    have hD : va_D A (gw8 Y o a (mb_u M13 10 (upd (M13 10) x1.toNatClampNeg x2))) := hD
    rw [← eM34] at hP hD
    refine lv_iload_n hx hb dX8_back_35 rfl (lv_at hl 0 rfl) ?_
    exact mb_ri (S := mb_m) (mc := 0) (ms := 0) (wf := fun u => gw8 Y o a u) C rfl (u := M34) hF hP hD hS dX8_back_36 (Nat.le_of_ble_eq_true rfl) (Nat.le_of_ble_eq_true rfl)
  · have hF := hF.2 c_16
    refine lv_iconst (v := 0) hx hb dX8_back_19 (by decide) ?_
    exact mb_ri (S := mb_m) (mc := 0) (ms := 0) (wf := fun u => gw8 Y o a u) C rfl (u := M13) hF hP hD hS dX8_back_20 (Nat.le_of_ble_eq_true rfl) (Nat.le_of_ble_eq_true rfl)
end
section
noncomputable def PX8_swells_63 (N : Nat) (K : Int32 → mb_m → Prop) (b9 : mb_m → Int32 → Int32 → Int32 → Prop) (b25 : mb_m → Int32 → Int32 → Int32 → Int32 → Int32 → Prop) (M : mb_m) (x1 x2 x3 x5 y0 : Int32) : Prop := ∀ v65 : Int32, v65 = x5 + (1 : Int32) → (b25 M x1 x2 x3 y0 v65)
set_option maxHeartbeats 4000000 in
set_option maxRecDepth 100000 in
theorem wX8_swells_63 {p : Program} {l : Launch} {e : Env} {s : State} {m : MethodId} {below : List Frame} {meth : Method} {c : Code} {args : Array Value} {D : va_G} {Y : Nat → ClassId} {A : Nat → Prop} {o : Nat} {a : Nat → Nat} {N : Nat} {K : Int32 → mb_m → Prop} {b9 : mb_m → Int32 → Int32 → Int32 → Prop} {b25 : mb_m → Int32 → Int32 → Int32 → Int32 → Int32 → Prop} (C : mb_Cx p s m meth c args cX8_swells 6 (some .int) wsX8_swells RX8 D Y A) (hb9 : ∀ (M : mb_m) (x1 x2 x3 : Int32) (H : Heap) (locs : List Loc) (ls : Array Slot), b9 M x1 x2 x3 → va_P D vwCl (gw8 Y o a M) H → va_D A (gw8 Y o a M) → va_S A s.heap H locs → lv_has ls 6 [(0, .ref o), (1, .int x1), (2, .int x2), (3, .int x3)] → W p l e ({ frames := 3, cells := 0, slots := 0, locals := 65 } : Room) s m args below meth c H locs 0 0 (MQ below (va_Qi K (fun u t => mb_T D A (gw8 Y o a u) t) A) args s 0 0 A) (F0 m 9 ls [])) (hb25 : ∀ (M : mb_m) (x1 x2 x3 x4 x5 : Int32) (H : Heap) (locs : List Loc) (ls : Array Slot), b25 M x1 x2 x3 x4 x5 → va_P D vwCl (gw8 Y o a M) H → va_D A (gw8 Y o a M) → va_S A s.heap H locs → lv_has ls 6 [(0, .ref o), (1, .int x1), (2, .int x2), (3, .int x3), (4, .int x4), (5, .int x5)] → W p l e ({ frames := 3, cells := 0, slots := 0, locals := 65 } : Room) s m args below meth c H locs 0 0 (MQ below (va_Qi K (fun u t => mb_T D A (gw8 Y o a u) t) A) args s 0 0 A) (F0 m 25 ls [])) : ∀ (M : mb_m) (x1 x2 x3 x5 y0 : Int32) (H : Heap) (locs : List Loc) (ls : Array Slot), PX8_swells_63 N K b9 b25 M x1 x2 x3 x5 y0 → va_P D vwCl (gw8 Y o a M) H → va_D A (gw8 Y o a M) → va_S A s.heap H locs → lv_has ls 6 [(0, .ref o), (1, .int x1), (2, .int x2), (3, .int x3), (5, .int x5)] → W p l e ({ frames := 3, cells := 0, slots := 0, locals := 65 } : Room) s m args below meth c H locs 0 0 (MQ below (va_Qi K (fun u t => mb_T D A (gw8 Y o a u) t) A) args s 0 0 A) (F0 m 63 ls [.int y0]) := by
  obtain ⟨hx, hb, hr, hml, hts, hown, hlocks, hA, hG⟩ := id C
  have hK := hG.1
  intro M x1 x2 x3 x5 y0 H locs ls hF hP hD hS hl
  refine lv_istore (lv' := [(4, .int y0), (0, .ref o), (1, .int x1), (2, .int x2), (3, .int x3), (5, .int x5)]) hx hb dX8_swells_63 hl (by decide) rfl (fun ls hl => ?_)
  obtain ⟨v65, ev65⟩ : ∃ y : Int32, y = x5 + (1 : Int32) := ⟨_, rfl⟩
  have hF := hF v65 ev65
  refine lv_iinc (v := v65) (lv' := [(5, .int v65), (4, .int y0), (0, .ref o), (1, .int x1), (2, .int x2), (3, .int x3)]) hx hb dX8_swells_65 hl (k := 5) rfl (by rw [ev65]; rfl) (by decide) rfl (fun ls hl => ?_)
  refine lv_goto (tgt := 25) hx hb dX8_swells_68 (by decide) ?_
  exact hb25 M x1 x2 x3 y0 v65 _ _ _ hF hP hD hS (lv_sub hl [2, 3, 4, 5, 1, 0] rfl)
noncomputable def PX8_swells_25_b (N : Nat) (K : Int32 → mb_m → Prop) (b9 : mb_m → Int32 → Int32 → Int32 → Prop) (b25 : mb_m → Int32 → Int32 → Int32 → Int32 → Int32 → Prop) (M : mb_m) (x1 x2 x3 x4 x5 : Int32) : Prop := ((5 : Int32) ≤ x5 → ∀ v75 : Int32, v75 = (x2 + x4) → (∀ v76 : Int32, v76 = x3 + (1 : Int32) → (b9 M x1 v75 v76))) ∧ (¬ (5 : Int32) ≤ x5 → vp_in (((5 : Int32) * x3) + x5) 40 ∧ (((M 13 (((5 : Int32) * x3) + x5).toNatClampNeg) ≤ x4 → PX8_swells_63 N K b9 b25 M x1 x2 x3 x5 x4) ∧ (¬ (M 13 (((5 : Int32) * x3) + x5).toNatClampNeg) ≤ x4 → vp_in (((5 : Int32) * x3) + x5) 40 ∧ (PX8_swells_63 N K b9 b25 M x1 x2 x3 x5 (M 13 (((5 : Int32) * x3) + x5).toNatClampNeg)))))
noncomputable def PX8_swells_25 (N : Nat) (K : Int32 → mb_m → Prop) (b9 : mb_m → Int32 → Int32 → Int32 → Prop) (n : Nat) : mb_m → Int32 → Int32 → Int32 → Int32 → Int32 → Prop := Nat.rec (motive := fun _ => mb_m → Int32 → Int32 → Int32 → Int32 → Int32 → Prop) (fun _ _ _ _ _ _ => False) (fun _ b25 => PX8_swells_25_b N K b9 b25) n
set_option maxHeartbeats 4000000 in
set_option maxRecDepth 100000 in
theorem wX8_swells_25 {p : Program} {l : Launch} {e : Env} {s : State} {m : MethodId} {below : List Frame} {meth : Method} {c : Code} {args : Array Value} {D : va_G} {Y : Nat → ClassId} {A : Nat → Prop} {o : Nat} {a : Nat → Nat} {N : Nat} {K : Int32 → mb_m → Prop} {b9 : mb_m → Int32 → Int32 → Int32 → Prop} (C : mb_Cx p s m meth c args cX8_swells 6 (some .int) wsX8_swells RX8 D Y A) (hb9 : ∀ (M : mb_m) (x1 x2 x3 : Int32) (H : Heap) (locs : List Loc) (ls : Array Slot), b9 M x1 x2 x3 → va_P D vwCl (gw8 Y o a M) H → va_D A (gw8 Y o a M) → va_S A s.heap H locs → lv_has ls 6 [(0, .ref o), (1, .int x1), (2, .int x2), (3, .int x3)] → W p l e ({ frames := 3, cells := 0, slots := 0, locals := 65 } : Room) s m args below meth c H locs 0 0 (MQ below (va_Qi K (fun u t => mb_T D A (gw8 Y o a u) t) A) args s 0 0 A) (F0 m 9 ls [])) : ∀ (n : Nat), (∀ (M : mb_m) (x1 x2 x3 x4 x5 : Int32) (H : Heap) (locs : List Loc) (ls : Array Slot), PX8_swells_25 N K b9 n M x1 x2 x3 x4 x5 → va_P D vwCl (gw8 Y o a M) H → va_D A (gw8 Y o a M) → va_S A s.heap H locs → lv_has ls 6 [(0, .ref o), (1, .int x1), (2, .int x2), (3, .int x3), (4, .int x4), (5, .int x5)] → W p l e ({ frames := 3, cells := 0, slots := 0, locals := 65 } : Room) s m args below meth c H locs 0 0 (MQ below (va_Qi K (fun u t => mb_T D A (gw8 Y o a u) t) A) args s 0 0 A) (F0 m 25 ls [])) := by
  obtain ⟨hx, hb, hr, hml, hts, hown, hlocks, hA, hG⟩ := id C
  have hK := hG.1
  intro n
  induction n with
  | zero => intro M x1 x2 x3 x4 x5 H locs ls hF; exact (show False from hF).elim
  | succ n ih =>
    intro M x1 x2 x3 x4 x5 H locs ls hF hP hD hS hl
    have hF : PX8_swells_25_b N K b9 (PX8_swells_25 N K b9 n) M x1 x2 x3 x4 x5 := hF
    refine lv_iload hx hb dX8_swells_25 (lv_at hl 5 rfl) ?_
    refine lv_iconst (v := 5) hx hb dX8_swells_27 (by decide) ?_
    refine lv_icmp_ge (tgt := 71) hx hb dX8_swells_28 (by decide) (fun c_28 => ?_) (fun c_28 => ?_)
    · have hF := hF.1 c_28
      refine lv_iload_n hx hb dX8_swells_71 rfl (lv_at hl 2 rfl) ?_
      refine lv_iload hx hb dX8_swells_72 (lv_at hl 4 rfl) ?_
      refine lv_iadd hx hb dX8_swells_74 ?_
      refine lv_topi (fun v75 ev75 => ?_)
      have hF := hF v75 ev75
      refine lv_istore_n (lv' := [(2, .int v75), (0, .ref o), (1, .int x1), (3, .int x3), (4, .int x4), (5, .int x5)]) hx hb dX8_swells_75 rfl hl (by decide) rfl (fun ls hl => ?_)
      obtain ⟨v76, ev76⟩ : ∃ y : Int32, y = x3 + (1 : Int32) := ⟨_, rfl⟩
      have hF := hF v76 ev76
      refine lv_iinc (v := v76) (lv' := [(3, .int v76), (2, .int v75), (0, .ref o), (1, .int x1), (4, .int x4), (5, .int x5)]) hx hb dX8_swells_76 hl (k := 3) rfl (by rw [ev76]; rfl) (by decide) rfl (fun ls hl => ?_)
      refine lv_goto (tgt := 9) hx hb dX8_swells_79 (by decide) ?_
      exact hb9 M x1 v75 v76 _ _ _ hF hP hD hS (lv_sub hl [2, 3, 1, 0] rfl)
    · have hF := hF.2 c_28
      refine lv_aload_n hx hb dX8_swells_31 rfl (lv_at hl 0 rfl) ?_
      refine va_get (D := D) (ci := 8) (v := .ref (a 13)) (C := RX8) (T := TX8) (N := 28) hx hb hts (fun _ h9 => List.mem_cons_of_mem _ (List.mem_append_right _ (h9))) hown hK hP 0 rfl rfl 13 (by decide) (hts (.fieldLink RX8 44 "MarbleBenchModel" "stitch" "[I") (List.mem_of_getElem? (i := 2) rfl)) (fun _ h9 => h9) rfl dX8_swells_32 ?_
      refine lv_iconst (v := 5) hx hb dX8_swells_35 (by decide) ?_
      refine lv_iload_n hx hb dX8_swells_36 rfl (lv_at hl 3 rfl) ?_
      refine lv_imul hx hb dX8_swells_37 ?_
      refine lv_iload hx hb dX8_swells_38 (lv_at hl 5 rfl) ?_
      refine lv_iadd hx hb dX8_swells_40 ?_
      obtain ⟨hi41, hF⟩ := hF
      refine va_iald hx hb hK hP 12 0 rfl rfl hi41 dX8_swells_41 ?_
      refine lv_iload hx hb dX8_swells_42 (lv_at hl 4 rfl) ?_
      refine lv_icmp_le (tgt := 61) hx hb dX8_swells_44 (by decide) (fun c_44 => ?_) (fun c_44 => ?_)
      · have hF := hF.1 c_44
        refine lv_iload hx hb dX8_swells_61 (lv_at hl 4 rfl) ?_
        exact wX8_swells_63 C hb9 ih M x1 x2 x3 x5 x4 _ _ _ hF hP hD hS (lv_sub hl [0, 1, 2, 3, 5] rfl)
      · have hF := hF.2 c_44
        refine lv_aload_n hx hb dX8_swells_47 rfl (lv_at hl 0 rfl) ?_
        refine va_get (D := D) (ci := 8) (v := .ref (a 13)) (C := RX8) (T := TX8) (N := 28) hx hb hts (fun _ h9 => List.mem_cons_of_mem _ (List.mem_append_right _ (h9))) hown hK hP 0 rfl rfl 13 (by decide) (hts (.fieldLink RX8 44 "MarbleBenchModel" "stitch" "[I") (List.mem_of_getElem? (i := 2) rfl)) (fun _ h9 => h9) rfl dX8_swells_48 ?_
        refine lv_iconst (v := 5) hx hb dX8_swells_51 (by decide) ?_
        refine lv_iload_n hx hb dX8_swells_52 rfl (lv_at hl 3 rfl) ?_
        refine lv_imul hx hb dX8_swells_53 ?_
        refine lv_iload hx hb dX8_swells_54 (lv_at hl 5 rfl) ?_
        refine lv_iadd hx hb dX8_swells_56 ?_
        obtain ⟨hi57, hF⟩ := hF
        refine va_iald hx hb hK hP 12 0 rfl rfl hi57 dX8_swells_57 ?_
        refine lv_goto (tgt := 63) hx hb dX8_swells_58 (by decide) ?_
        exact wX8_swells_63 C hb9 ih M x1 x2 x3 x5 (M 13 (((5 : Int32) * x3) + x5).toNatClampNeg) _ _ _ hF hP hD hS (lv_sub hl [0, 1, 2, 3, 5] rfl)
noncomputable def PX8_swells_9_b (N : Nat) (K : Int32 → mb_m → Prop) (b9 : mb_m → Int32 → Int32 → Int32 → Prop) (M : mb_m) (x1 x2 x3 : Int32) : Prop := vp_in x1 4 ∧ (((M 5 x1.toNatClampNeg) ≤ x3 → K ((3 : Int32) * x2) M) ∧ (¬ (M 5 x1.toNatClampNeg) ≤ x3 → PX8_swells_25 N K b9 N M x1 x2 x3 (0 : Int32) (0 : Int32)))
noncomputable def PX8_swells_9 (N : Nat) (K : Int32 → mb_m → Prop) (n : Nat) : mb_m → Int32 → Int32 → Int32 → Prop := Nat.rec (motive := fun _ => mb_m → Int32 → Int32 → Int32 → Prop) (fun _ _ _ _ => False) (fun _ b9 => PX8_swells_9_b N K  b9) n
set_option maxHeartbeats 4000000 in
set_option maxRecDepth 100000 in
theorem wX8_swells_9 {p : Program} {l : Launch} {e : Env} {s : State} {m : MethodId} {below : List Frame} {meth : Method} {c : Code} {args : Array Value} {D : va_G} {Y : Nat → ClassId} {A : Nat → Prop} {o : Nat} {a : Nat → Nat} {N : Nat} {K : Int32 → mb_m → Prop} (C : mb_Cx p s m meth c args cX8_swells 6 (some .int) wsX8_swells RX8 D Y A) : ∀ (n : Nat), (∀ (M : mb_m) (x1 x2 x3 : Int32) (H : Heap) (locs : List Loc) (ls : Array Slot), PX8_swells_9 N K  n M x1 x2 x3 → va_P D vwCl (gw8 Y o a M) H → va_D A (gw8 Y o a M) → va_S A s.heap H locs → lv_has ls 6 [(0, .ref o), (1, .int x1), (2, .int x2), (3, .int x3)] → W p l e ({ frames := 3, cells := 0, slots := 0, locals := 65 } : Room) s m args below meth c H locs 0 0 (MQ below (va_Qi K (fun u t => mb_T D A (gw8 Y o a u) t) A) args s 0 0 A) (F0 m 9 ls [])) := by
  obtain ⟨hx, hb, hr, hml, hts, hown, hlocks, hA, hG⟩ := id C
  have hK := hG.1
  intro n
  induction n with
  | zero => intro M x1 x2 x3 H locs ls hF; exact (show False from hF).elim
  | succ n ih =>
    intro M x1 x2 x3 H locs ls hF hP hD hS hl
    have hF : PX8_swells_9_b N K  (PX8_swells_9 N K  n) M x1 x2 x3 := hF
    refine lv_iload_n hx hb dX8_swells_9 rfl (lv_at hl 3 rfl) ?_
    refine lv_aload_n hx hb dX8_swells_10 rfl (lv_at hl 0 rfl) ?_
    refine va_get (D := D) (ci := 8) (v := .ref (a 5)) (C := RX8) (T := TX8) (N := 28) hx hb hts (fun _ h9 => List.mem_cons_of_mem _ (List.mem_append_right _ (h9))) hown hK hP 0 rfl rfl 5 (by decide) (hts (.fieldLink RX8 19 "MarbleBenchModel" "gatherings" "[I") (List.mem_of_getElem? (i := 1) rfl)) (fun _ h9 => h9) rfl dX8_swells_11 ?_
    refine lv_iload_n hx hb dX8_swells_14 rfl (lv_at hl 1 rfl) ?_
    obtain ⟨hi15, hF⟩ := hF
    refine va_iald hx hb hK hP 4 0 rfl rfl hi15 dX8_swells_15 ?_
    refine lv_icmp_ge (tgt := 82) hx hb dX8_swells_16 (by decide) (fun c_16 => ?_) (fun c_16 => ?_)
    · have hF := hF.1 c_16
      refine lv_iconst (v := 3) hx hb dX8_swells_82 (by decide) ?_
      refine lv_iload_n hx hb dX8_swells_83 rfl (lv_at hl 2 rfl) ?_
      refine lv_imul hx hb dX8_swells_84 ?_
      exact mb_ri (S := mb_m) (mc := 0) (ms := 0) (wf := fun u => gw8 Y o a u) C rfl (u := M) hF hP hD hS dX8_swells_85 (Nat.le_of_ble_eq_true rfl) (Nat.le_of_ble_eq_true rfl)
    · have hF := hF.2 c_16
      refine lv_iconst (v := 0) hx hb dX8_swells_19 (by decide) ?_
      refine lv_istore (lv' := [(4, .int (0 : Int32)), (0, .ref o), (1, .int x1), (2, .int x2), (3, .int x3)]) hx hb dX8_swells_20 hl (by decide) rfl (fun ls hl => ?_)
      refine lv_iconst (v := 0) hx hb dX8_swells_22 (by decide) ?_
      refine lv_istore (lv' := [(5, .int (0 : Int32)), (4, .int (0 : Int32)), (0, .ref o), (1, .int x1), (2, .int x2), (3, .int x3)]) hx hb dX8_swells_23 hl (by decide) rfl (fun ls hl => ?_)
      exact wX8_swells_25 C ih N M x1 x2 x3 (0 : Int32) (0 : Int32) _ _ _ hF hP hD hS (lv_sub hl [2, 3, 4, 5, 1, 0] rfl)
noncomputable def PX8_swells (N : Nat) (M : mb_m) (x1 : Int32) (K : Int32 → mb_m → Prop) : Prop := PX8_follows N M x1 (fun M2 => PX8_swells_9 N K N M2 x1 (0 : Int32) (0 : Int32))
set_option maxHeartbeats 4000000 in
set_option maxRecDepth 100000 in
theorem cnX8_swells (l : Launch) (D : va_G) (Y : Nat → ClassId) (N : Nat) (o : Nat) (a : Nat → Nat) (M : mb_m) (sz : Nat) (x1 : Int32) (K : Int32 → mb_m → Prop) (hF : PX8_swells N M x1 K) : Met l yX8_swells wsX8_swells ({ frames := 3, cells := 0, slots := 0, locals := 65 } : Room) (va_Pc [.ref o, .int x1] (mb_B D Y (gw8 Y o a M) sz)) (va_Qi K (fun u t => mb_T D (va_A (gw8 Y o a M) sz) (gw8 Y o a u) t) (va_A (gw8 Y o a M) sz)) 0 0 (va_A (gw8 Y o a M) sz) := by
  refine mb_begin (cc := cX8_swells) (maxL := 6) (ret := (some .int)) (by decide +kernel) rfl (Nat.le_of_ble_eq_true rfl) ?_
  intro p e s m below meth c ls C hsz hnm hP hD hl
  generalize hAe : va_A (gw8 Y o a M) sz = A at C hD ⊢
  have C : mb_Cx p s m meth c ([.ref o, .int x1] : List Value).toArray cX8_swells 6 (some .int) wsX8_swells RX8 D Y A := C
  obtain ⟨hx, hb, hr, hml, hts, hown, hlocks, hA, hG⟩ := id C
  have hK := hG.1
  have hS : va_S A s.heap s.heap [] := va_S.rf
  have hl : lv_has ls 6 [(0, .ref o), (1, .int x1)] := hl
  refine lv_aload_n hx hb dX8_swells_0 rfl (lv_at hl 0 rfl) ?_
  refine lv_iload_n hx hb dX8_swells_1 rfl (lv_at hl 1 rfl) ?_
  refine mb_cWv hD hS hA (va_runV (As := [.int x1]) (rest := []) ⟨hx, hb, hml, hown, hts⟩ (cnX8_follows l D Y N o a M _ x1 _ hF) (cwV 1 hts gX8_swells_X8_follows rfl rfl rfl (by decide +kernel) ⟨Nat.le_of_ble_eq_true rfl, Nat.le_of_ble_eq_true rfl⟩) (mb_preV hG hP hD 0 rfl rfl) rfl rfl hl.1 rfl (lv_room (Nat.le_of_ble_eq_true rfl)) dX8_swells_2 ⟨Nat.le_of_ble_eq_true rfl, Nat.le_of_ble_eq_true rfl⟩) (fun M2 H locs hF hP hD hS => ?_)
  refine lv_iconst (v := 0) hx hb dX8_swells_5 (by decide) ?_
  refine lv_istore_n (lv' := [(2, .int (0 : Int32)), (0, .ref o), (1, .int x1)]) hx hb dX8_swells_6 rfl hl (by decide) rfl (fun ls hl => ?_)
  refine lv_iconst (v := 0) hx hb dX8_swells_7 (by decide) ?_
  refine lv_istore_n (lv' := [(3, .int (0 : Int32)), (2, .int (0 : Int32)), (0, .ref o), (1, .int x1)]) hx hb dX8_swells_8 rfl hl (by decide) rfl (fun ls hl => ?_)
  exact wX8_swells_9 C N M2 x1 (0 : Int32) (0 : Int32) _ _ _ hF hP hD hS (lv_sub hl [2, 3, 1, 0] rfl)
end
section
noncomputable def PX8_swelling (N : Nat) (M : mb_m) (x1 : Int32) (K : Int32 → mb_m → Prop) : Prop := PX8_isBook N M x1 (fun r3 M3 => PX8_goes N M3 r3 (1 : Int32) (1 : Int32) (fun r8 M8 => (r8 = 0 → K (0 : Int32) M8) ∧ (¬ r8 = 0 → PX8_swells N M8 x1 (fun r16 M16 => K r16 M16))))
set_option maxHeartbeats 4000000 in
set_option maxRecDepth 100000 in
theorem cnX8_swelling (l : Launch) (D : va_G) (Y : Nat → ClassId) (N : Nat) (o : Nat) (a : Nat → Nat) (M : mb_m) (sz : Nat) (x1 : Int32) (K : Int32 → mb_m → Prop) (hF : PX8_swelling N M x1 K) : Met l yX8_swelling wsX8_swelling ({ frames := 4, cells := 0, slots := 0, locals := 90 } : Room) (va_Pc [.ref o, .int x1] (mb_B D Y (gw8 Y o a M) sz)) (va_Qi K (fun u t => mb_T D (va_A (gw8 Y o a M) sz) (gw8 Y o a u) t) (va_A (gw8 Y o a M) sz)) 0 0 (va_A (gw8 Y o a M) sz) := by
  refine mb_begin (cc := cX8_swelling) (maxL := 2) (ret := (some .int)) (by decide +kernel) rfl (Nat.le_of_ble_eq_true rfl) ?_
  intro p e s m below meth c ls C hsz hnm hP hD hl
  generalize hAe : va_A (gw8 Y o a M) sz = A at C hD ⊢
  have C : mb_Cx p s m meth c ([.ref o, .int x1] : List Value).toArray cX8_swelling 2 (some .int) wsX8_swelling RX8 D Y A := C
  obtain ⟨hx, hb, hr, hml, hts, hown, hlocks, hA, hG⟩ := id C
  have hK := hG.1
  have hS : va_S A s.heap s.heap [] := va_S.rf
  have hl : lv_has ls 2 [(0, .ref o), (1, .int x1)] := hl
  refine lv_aload_n hx hb dX8_swelling_0 rfl (lv_at hl 0 rfl) ?_
  refine lv_aload_n hx hb dX8_swelling_1 rfl (lv_at hl 0 rfl) ?_
  refine lv_iload_n hx hb dX8_swelling_2 rfl (lv_at hl 1 rfl) ?_
  refine mb_cW hD hS hA (va_runV (As := [.int x1]) (rest := [.ref o]) ⟨hx, hb, hml, hown, hts⟩ (cnX8_isBook l D Y N o a M _ x1 _ hF) (cwV 1 hts gX8_swelling_X8_isBook rfl rfl rfl (by decide +kernel) ⟨Nat.le_of_ble_eq_true rfl, Nat.le_of_ble_eq_true rfl⟩) (mb_preV hG hP hD 0 rfl rfl) rfl rfl hl.1 rfl (lv_room (Nat.le_of_ble_eq_true rfl)) dX8_swelling_3 ⟨Nat.le_of_ble_eq_true rfl, Nat.le_of_ble_eq_true rfl⟩) (fun r3 M3 H locs hF hP hD hS => ?_)
  refine lv_iconst (v := 1) hx hb dX8_swelling_6 (by decide) ?_
  refine lv_iconst (v := 1) hx hb dX8_swelling_7 (by decide) ?_
  refine mb_cW hD hS hA (va_runV (As := [.int r3, .int (1 : Int32), .int (1 : Int32)]) (rest := []) ⟨hx, hb, hml, hown, hts⟩ (cnX8_goes l D Y N o a M3 _ r3 (1 : Int32) (1 : Int32) _ hF) (cwV 3 hts gX8_swelling_X8_goes rfl rfl rfl (by decide +kernel) ⟨Nat.le_of_ble_eq_true rfl, Nat.le_of_ble_eq_true rfl⟩) (mb_preV hG hP hD 0 rfl rfl) rfl rfl hl.1 rfl (lv_room (Nat.le_of_ble_eq_true rfl)) dX8_swelling_8 ⟨Nat.le_of_ble_eq_true rfl, Nat.le_of_ble_eq_true rfl⟩) (fun r8 M8 H locs hF hP hD hS => ?_)
  refine lv_if_eq (tgt := 22) hx hb dX8_swelling_11 (by decide) (fun c_11 => ?_) (fun c_11 => ?_)
  · have hF := hF.1 c_11
    refine lv_iconst (v := 0) hx hb dX8_swelling_22 (by decide) ?_
    exact mb_ri (S := mb_m) (mc := 0) (ms := 0) (wf := fun u => gw8 Y o a u) C rfl (u := M8) hF hP hD hS dX8_swelling_23 (Nat.le_of_ble_eq_true rfl) (Nat.le_of_ble_eq_true rfl)
  · have hF := hF.2 c_11
    refine lv_aload_n hx hb dX8_swelling_14 rfl (lv_at hl 0 rfl) ?_
    refine lv_iload_n hx hb dX8_swelling_15 rfl (lv_at hl 1 rfl) ?_
    refine mb_cW hD hS hA (va_runV (As := [.int x1]) (rest := []) ⟨hx, hb, hml, hown, hts⟩ (cnX8_swells l D Y N o a M8 _ x1 _ hF) (cwV 1 hts gX8_swelling_X8_swells rfl rfl rfl (by decide +kernel) ⟨Nat.le_of_ble_eq_true rfl, Nat.le_of_ble_eq_true rfl⟩) (mb_preV hG hP hD 0 rfl rfl) rfl rfl hl.1 rfl (lv_room (Nat.le_of_ble_eq_true rfl)) dX8_swelling_16 ⟨Nat.le_of_ble_eq_true rfl, Nat.le_of_ble_eq_true rfl⟩) (fun r16 M16 H locs hF hP hD hS => ?_)
    refine lv_goto (tgt := 23) hx hb dX8_swelling_19 (by decide) ?_
    exact mb_ri (S := mb_m) (mc := 0) (ms := 0) (wf := fun u => gw8 Y o a u) C rfl (u := M16) hF hP hD hS dX8_swelling_23 (Nat.le_of_ble_eq_true rfl) (Nat.le_of_ble_eq_true rfl)
end
section
noncomputable def PX8_all (N : Nat) (M : mb_m) (x1 : Int32) (K : Int32 → mb_m → Prop) : Prop := vp_in x1 4 ∧ (vp_in x1 4 ∧ (K ((M 5 x1.toNatClampNeg) * (M 6 x1.toNatClampNeg)) M))
set_option maxHeartbeats 4000000 in
set_option maxRecDepth 100000 in
theorem cnX8_all (l : Launch) (D : va_G) (Y : Nat → ClassId) (N : Nat) (o : Nat) (a : Nat → Nat) (M : mb_m) (sz : Nat) (x1 : Int32) (K : Int32 → mb_m → Prop) (hF : PX8_all N M x1 K) : Met l yX8_all wsX8_all ({ frames := 0, cells := 0, slots := 0, locals := 0 } : Room) (va_Pc [.ref o, .int x1] (mb_B D Y (gw8 Y o a M) sz)) (va_Qi K (fun u t => mb_T D (va_A (gw8 Y o a M) sz) (gw8 Y o a u) t) (va_A (gw8 Y o a M) sz)) 0 0 (va_A (gw8 Y o a M) sz) := by
  refine mb_begin (cc := cX8_all) (maxL := 2) (ret := (some .int)) (by decide +kernel) rfl (Nat.le_of_ble_eq_true rfl) ?_
  intro p e s m below meth c ls C hsz hnm hP hD hl
  generalize hAe : va_A (gw8 Y o a M) sz = A at C hD ⊢
  have C : mb_Cx p s m meth c ([.ref o, .int x1] : List Value).toArray cX8_all 2 (some .int) wsX8_all RX8 D Y A := C
  obtain ⟨hx, hb, hr, hml, hts, hown, hlocks, hA, hG⟩ := id C
  have hK := hG.1
  have hS : va_S A s.heap s.heap [] := va_S.rf
  have hl : lv_has ls 2 [(0, .ref o), (1, .int x1)] := hl
  refine lv_aload_n hx hb dX8_all_0 rfl (lv_at hl 0 rfl) ?_
  refine va_get (D := D) (ci := 8) (v := .ref (a 5)) (C := RX8) (T := TX8) (N := 28) hx hb hts (fun _ h9 => List.mem_cons_of_mem _ (List.mem_append_right _ (h9))) hown hK hP 0 rfl rfl 5 (by decide) (hts (.fieldLink RX8 19 "MarbleBenchModel" "gatherings" "[I") (List.mem_of_getElem? (i := 1) rfl)) (fun _ h9 => h9) rfl dX8_all_1 ?_
  refine lv_iload_n hx hb dX8_all_4 rfl (lv_at hl 1 rfl) ?_
  obtain ⟨hi5, hF⟩ := hF
  refine va_iald hx hb hK hP 4 0 rfl rfl hi5 dX8_all_5 ?_
  refine lv_aload_n hx hb dX8_all_6 rfl (lv_at hl 0 rfl) ?_
  refine va_get (D := D) (ci := 8) (v := .ref (a 6)) (C := RX8) (T := TX8) (N := 28) hx hb hts (fun _ h9 => List.mem_cons_of_mem _ (List.mem_append_right _ (h9))) hown hK hP 0 rfl rfl 6 (by decide) (hts (.fieldLink RX8 22 "MarbleBenchModel" "leaves" "[I") (List.mem_of_getElem? (i := 2) rfl)) (fun _ h9 => h9) rfl dX8_all_7 ?_
  refine lv_iload_n hx hb dX8_all_10 rfl (lv_at hl 1 rfl) ?_
  obtain ⟨hi11, hF⟩ := hF
  refine va_iald hx hb hK hP 5 0 rfl rfl hi11 dX8_all_11 ?_
  refine lv_imul hx hb dX8_all_12 ?_
  exact mb_ri (S := mb_m) (mc := 0) (ms := 0) (wf := fun u => gw8 Y o a u) C rfl (u := M) hF hP hD hS dX8_all_13 (Nat.le_of_ble_eq_true rfl) (Nat.le_of_ble_eq_true rfl)
end
section
noncomputable def PX8_bends_22 (N : Nat) (K : Int32 → mb_m → Prop) (M : mb_m) (x1 y0 : Int32) : Prop := vp_in x1 4 ∧ (vp_in x1 4 ∧ ((¬ (M 10 x1.toNatClampNeg) = 0 → vp_in x1 4 ∧ ((¬ (M 10 x1.toNatClampNeg) = (1 : Int32) → K ((y0 * (M 8 x1.toNatClampNeg)) * (2 : Int32)) M) ∧ ((M 10 x1.toNatClampNeg) = (1 : Int32) → K ((y0 * (M 8 x1.toNatClampNeg)) * (1 : Int32)) M))) ∧ ((M 10 x1.toNatClampNeg) = 0 → K ((y0 * (M 8 x1.toNatClampNeg)) * (4 : Int32)) M)))
set_option maxHeartbeats 4000000 in
set_option maxRecDepth 100000 in
theorem wX8_bends_22 {p : Program} {l : Launch} {e : Env} {s : State} {m : MethodId} {below : List Frame} {meth : Method} {c : Code} {args : Array Value} {D : va_G} {Y : Nat → ClassId} {A : Nat → Prop} {o : Nat} {a : Nat → Nat} {N : Nat} {K : Int32 → mb_m → Prop} (C : mb_Cx p s m meth c args cX8_bends 4 (some .int) wsX8_bends RX8 D Y A) : ∀ (M : mb_m) (x1 y0 : Int32) (H : Heap) (locs : List Loc) (ls : Array Slot), PX8_bends_22 N K  M x1 y0 → va_P D vwCl (gw8 Y o a M) H → va_D A (gw8 Y o a M) → va_S A s.heap H locs → lv_has ls 4 [(0, .ref o), (1, .int x1)] → W p l e ({ frames := 1, cells := 0, slots := 0, locals := 21 } : Room) s m args below meth c H locs 0 0 (MQ below (va_Qi K (fun u t => mb_T D A (gw8 Y o a u) t) A) args s 0 0 A) (F0 m 22 ls [.int y0]) := by
  obtain ⟨hx, hb, hr, hml, hts, hown, hlocks, hA, hG⟩ := id C
  have hK := hG.1
  intro M x1 y0 H locs ls hF hP hD hS hl
  refine lv_istore_n (lv' := [(3, .int y0), (0, .ref o), (1, .int x1)]) hx hb dX8_bends_22 rfl hl (by decide) rfl (fun ls hl => ?_)
  refine lv_iload_n hx hb dX8_bends_23 rfl (lv_at hl 0 rfl) ?_
  refine lv_aload_n hx hb dX8_bends_24 rfl (lv_at hl 1 rfl) ?_
  refine va_get (D := D) (ci := 8) (v := .ref (a 8)) (C := RX8) (T := TX8) (N := 28) hx hb hts (fun _ h9 => List.mem_cons_of_mem _ (List.mem_append_right _ (h9))) hown hK hP 0 rfl rfl 8 (by decide) (hts (.fieldLink RX8 28 "MarbleBenchModel" "thickness" "[I") (List.mem_of_getElem? (i := 1) rfl)) (fun _ h9 => h9) rfl dX8_bends_25 ?_
  refine lv_iload_n hx hb dX8_bends_28 rfl (lv_at hl 2 rfl) ?_
  obtain ⟨hi29, hF⟩ := hF
  refine va_iald hx hb hK hP 7 0 rfl rfl hi29 dX8_bends_29 ?_
  refine lv_imul hx hb dX8_bends_30 ?_
  refine lv_aload_n hx hb dX8_bends_31 rfl (lv_at hl 1 rfl) ?_
  refine va_get (D := D) (ci := 8) (v := .ref (a 10)) (C := RX8) (T := TX8) (N := 28) hx hb hts (fun _ h9 => List.mem_cons_of_mem _ (List.mem_append_right _ (h9))) hown hK hP 0 rfl rfl 10 (by decide) (hts (.fieldLink RX8 35 "MarbleBenchModel" "back" "[I") (List.mem_of_getElem? (i := 2) rfl)) (fun _ h9 => h9) rfl dX8_bends_32 ?_
  refine lv_iload_n hx hb dX8_bends_35 rfl (lv_at hl 2 rfl) ?_
  obtain ⟨hi36, hF⟩ := hF
  refine va_iald hx hb hK hP 9 0 rfl rfl hi36 dX8_bends_36 ?_
  refine lv_if_ne (tgt := 44) hx hb dX8_bends_37 (by decide) (fun c_37 => ?_) (fun c_37 => ?_)
  · have hF := hF.1 c_37
    refine lv_aload_n hx hb dX8_bends_44 rfl (lv_at hl 1 rfl) ?_
    refine va_get (D := D) (ci := 8) (v := .ref (a 10)) (C := RX8) (T := TX8) (N := 28) hx hb hts (fun _ h9 => List.mem_cons_of_mem _ (List.mem_append_right _ (h9))) hown hK hP 0 rfl rfl 10 (by decide) (hts (.fieldLink RX8 35 "MarbleBenchModel" "back" "[I") (List.mem_of_getElem? (i := 2) rfl)) (fun _ h9 => h9) rfl dX8_bends_45 ?_
    refine lv_iload_n hx hb dX8_bends_48 rfl (lv_at hl 2 rfl) ?_
    obtain ⟨hi49, hF⟩ := hF
    refine va_iald hx hb hK hP 9 0 rfl rfl hi49 dX8_bends_49 ?_
    refine lv_iconst (v := 1) hx hb dX8_bends_50 (by decide) ?_
    refine lv_icmp_ne (tgt := 58) hx hb dX8_bends_51 (by decide) (fun c_51 => ?_) (fun c_51 => ?_)
    · have hF := hF.1 c_51
      refine lv_iconst (v := 2) hx hb dX8_bends_58 (by decide) ?_
      refine lv_imul hx hb dX8_bends_59 ?_
      exact mb_ri (S := mb_m) (mc := 0) (ms := 0) (wf := fun u => gw8 Y o a u) C rfl (u := M) hF hP hD hS dX8_bends_60 (Nat.le_of_ble_eq_true rfl) (Nat.le_of_ble_eq_true rfl)
    · have hF := hF.2 c_51
      refine lv_iconst (v := 1) hx hb dX8_bends_54 (by decide) ?_
      refine lv_goto (tgt := 59) hx hb dX8_bends_55 (by decide) ?_
      refine lv_imul hx hb dX8_bends_59 ?_
      exact mb_ri (S := mb_m) (mc := 0) (ms := 0) (wf := fun u => gw8 Y o a u) C rfl (u := M) hF hP hD hS dX8_bends_60 (Nat.le_of_ble_eq_true rfl) (Nat.le_of_ble_eq_true rfl)
  · have hF := hF.2 c_37
    refine lv_iconst (v := 4) hx hb dX8_bends_40 (by decide) ?_
    refine lv_goto (tgt := 59) hx hb dX8_bends_41 (by decide) ?_
    refine lv_imul hx hb dX8_bends_59 ?_
    exact mb_ri (S := mb_m) (mc := 0) (ms := 0) (wf := fun u => gw8 Y o a u) C rfl (u := M) hF hP hD hS dX8_bends_60 (Nat.le_of_ble_eq_true rfl) (Nat.le_of_ble_eq_true rfl)
noncomputable def PX8_bends (N : Nat) (M : mb_m) (x1 x2 : Int32) (K : Int32 → mb_m → Prop) : Prop := PX8_all N M x1 (fun r3 M3 => ((r3 - x2) ≤ x2 → PX8_all N M3 x1 (fun r17 M17 => PX8_bends_22 N K M17 x1 (r17 - x2))) ∧ (¬ (r3 - x2) ≤ x2 → PX8_bends_22 N K M3 x1 x2))
set_option maxHeartbeats 4000000 in
set_option maxRecDepth 100000 in
theorem cnX8_bends (l : Launch) (D : va_G) (Y : Nat → ClassId) (N : Nat) (o : Nat) (a : Nat → Nat) (M : mb_m) (sz : Nat) (x1 x2 : Int32) (K : Int32 → mb_m → Prop) (hF : PX8_bends N M x1 x2 K) : Met l yX8_bends wsX8_bends ({ frames := 1, cells := 0, slots := 0, locals := 21 } : Room) (va_Pc [.ref o, .int x1, .int x2] (mb_B D Y (gw8 Y o a M) sz)) (va_Qi K (fun u t => mb_T D (va_A (gw8 Y o a M) sz) (gw8 Y o a u) t) (va_A (gw8 Y o a M) sz)) 0 0 (va_A (gw8 Y o a M) sz) := by
  refine mb_begin (cc := cX8_bends) (maxL := 4) (ret := (some .int)) (by decide +kernel) rfl (Nat.le_of_ble_eq_true rfl) ?_
  intro p e s m below meth c ls C hsz hnm hP hD hl
  generalize hAe : va_A (gw8 Y o a M) sz = A at C hD ⊢
  have C : mb_Cx p s m meth c ([.ref o, .int x1, .int x2] : List Value).toArray cX8_bends 4 (some .int) wsX8_bends RX8 D Y A := C
  obtain ⟨hx, hb, hr, hml, hts, hown, hlocks, hA, hG⟩ := id C
  have hK := hG.1
  have hS : va_S A s.heap s.heap [] := va_S.rf
  have hl : lv_has ls 4 [(0, .ref o), (1, .int x1), (2, .int x2)] := hl
  refine lv_iload_n hx hb dX8_bends_0 rfl (lv_at hl 2 rfl) ?_
  refine lv_aload_n hx hb dX8_bends_1 rfl (lv_at hl 0 rfl) ?_
  refine lv_iload_n hx hb dX8_bends_2 rfl (lv_at hl 1 rfl) ?_
  refine mb_cW hD hS hA (va_runV (As := [.int x1]) (rest := [.int x2]) ⟨hx, hb, hml, hown, hts⟩ (cnX8_all l D Y N o a M _ x1 _ hF) (cwV 1 hts gX8_bends_X8_all rfl rfl rfl (by decide +kernel) ⟨Nat.le_of_ble_eq_true rfl, Nat.le_of_ble_eq_true rfl⟩) (mb_preV hG hP hD 0 rfl rfl) rfl rfl hl.1 rfl (lv_room (Nat.le_of_ble_eq_true rfl)) dX8_bends_3 ⟨Nat.le_of_ble_eq_true rfl, Nat.le_of_ble_eq_true rfl⟩) (fun r3 M3 H locs hF hP hD hS => ?_)
  refine lv_iload_n hx hb dX8_bends_6 rfl (lv_at hl 2 rfl) ?_
  refine lv_isub hx hb dX8_bends_7 ?_
  refine lv_icmp_ge (tgt := 15) hx hb dX8_bends_8 (by decide) (fun c_8 => ?_) (fun c_8 => ?_)
  · have hF := hF.1 c_8
    refine lv_aload_n hx hb dX8_bends_15 rfl (lv_at hl 0 rfl) ?_
    refine lv_iload_n hx hb dX8_bends_16 rfl (lv_at hl 1 rfl) ?_
    refine mb_cW hD hS hA (va_runV (As := [.int x1]) (rest := []) ⟨hx, hb, hml, hown, hts⟩ (cnX8_all l D Y N o a M3 _ x1 _ hF) (cwV 1 hts gX8_bends_X8_all rfl rfl rfl (by decide +kernel) ⟨Nat.le_of_ble_eq_true rfl, Nat.le_of_ble_eq_true rfl⟩) (mb_preV hG hP hD 0 rfl rfl) rfl rfl hl.1 rfl (lv_room (Nat.le_of_ble_eq_true rfl)) dX8_bends_17 ⟨Nat.le_of_ble_eq_true rfl, Nat.le_of_ble_eq_true rfl⟩) (fun r17 M17 H locs hF hP hD hS => ?_)
    refine lv_iload_n hx hb dX8_bends_20 rfl (lv_at hl 2 rfl) ?_
    refine lv_isub hx hb dX8_bends_21 ?_
    exact wX8_bends_22 C M17 x1 (r17 - x2) _ _ _ hF hP hD hS (lv_sub hl [0, 1] rfl)
  · have hF := hF.2 c_8
    refine lv_iload_n hx hb dX8_bends_11 rfl (lv_at hl 2 rfl) ?_
    refine lv_goto (tgt := 22) hx hb dX8_bends_12 (by decide) ?_
    exact wX8_bends_22 C M3 x1 x2 _ _ _ hF hP hD hS (lv_sub hl [0, 1] rfl)
end
section
noncomputable def PX8_strain_20 (N : Nat) (K : Int32 → mb_m → Prop) (M : mb_m) (x1 x2 y0 y2 y3 y4 : Int32) : Prop := PX8_all N M y0 (fun r20 M20 => PX8_in N y3 y2 r20 (fun r23 _ => PX8_goes N M20 y4 r23 (1 : Int32) (fun r27 M27 => (r27 = 0 → K (0 : Int32) M27) ∧ (¬ r27 = 0 → PX8_bends N M27 x1 x2 (fun r36 M36 => PX8_swells N M36 x1 (fun r41 M41 => K (r36 + r41) M41))))))
set_option maxHeartbeats 4000000 in
set_option maxRecDepth 100000 in
theorem wX8_strain_20 {p : Program} {l : Launch} {e : Env} {s : State} {m : MethodId} {below : List Frame} {meth : Method} {c : Code} {args : Array Value} {D : va_G} {Y : Nat → ClassId} {A : Nat → Prop} {o : Nat} {a : Nat → Nat} {N : Nat} {K : Int32 → mb_m → Prop} (C : mb_Cx p s m meth c args cX8_strain 4 (some .int) wsX8_strain RX8 D Y A) : ∀ (M : mb_m) (x1 x2 y0 y2 y3 y4 : Int32) (H : Heap) (locs : List Loc) (ls : Array Slot), PX8_strain_20 N K  M x1 x2 y0 y2 y3 y4 → va_P D vwCl (gw8 Y o a M) H → va_D A (gw8 Y o a M) → va_S A s.heap H locs → lv_has ls 4 [(0, .ref o), (1, .int x1), (2, .int x2)] → W p l e ({ frames := 4, cells := 0, slots := 0, locals := 90 } : Room) s m args below meth c H locs 0 0 (MQ below (va_Qi K (fun u t => mb_T D A (gw8 Y o a u) t) A) args s 0 0 A) (F0 m 20 ls [.int y0, .ref o, .int y2, .int y3, .int y4, .ref o]) := by
  obtain ⟨hx, hb, hr, hml, hts, hown, hlocks, hA, hG⟩ := id C
  have hK := hG.1
  intro M x1 x2 y0 y2 y3 y4 H locs ls hF hP hD hS hl
  refine mb_cW hD hS hA (va_runV (As := [.int y0]) (rest := [.int y2, .int y3, .int y4, .ref o]) ⟨hx, hb, hml, hown, hts⟩ (cnX8_all l D Y N o a M _ y0 _ hF) (cwV 1 hts gX8_strain_X8_all rfl rfl rfl (by decide +kernel) ⟨Nat.le_of_ble_eq_true rfl, Nat.le_of_ble_eq_true rfl⟩) (mb_preV hG hP hD 0 rfl rfl) rfl rfl hl.1 rfl (lv_room (Nat.le_of_ble_eq_true rfl)) dX8_strain_20 ⟨Nat.le_of_ble_eq_true rfl, Nat.le_of_ble_eq_true rfl⟩) (fun r20 M20 H locs hF hP hD hS => ?_)
  refine mb_cE hP hS hA (va_runS (As := [.int y3, .int y2, .int r20]) (rest := [.int y4, .ref o]) ⟨hx, hb, hml, hown, hts⟩ (cnX8_in l D Y N _ y3 y2 r20 _ hF) (va_cwS 3 hts gX8_strain_X8_in rfl rfl rfl (by decide +kernel) ⟨Nat.le_of_ble_eq_true rfl, Nat.le_of_ble_eq_true rfl⟩) (mb_preS (A := A) hG mb_P0 mb_D0) rfl rfl hl.1 rfl (lv_room (Nat.le_of_ble_eq_true rfl)) dX8_strain_23 ⟨Nat.le_of_ble_eq_true rfl, Nat.le_of_ble_eq_true rfl⟩) (fun r23 H locs hF hP hS => ?_)
  refine lv_iconst (v := 1) hx hb dX8_strain_26 (by decide) ?_
  refine mb_cW hD hS hA (va_runV (As := [.int y4, .int r23, .int (1 : Int32)]) (rest := []) ⟨hx, hb, hml, hown, hts⟩ (cnX8_goes l D Y N o a M20 _ y4 r23 (1 : Int32) _ hF) (cwV 3 hts gX8_strain_X8_goes rfl rfl rfl (by decide +kernel) ⟨Nat.le_of_ble_eq_true rfl, Nat.le_of_ble_eq_true rfl⟩) (mb_preV hG hP hD 0 rfl rfl) rfl rfl hl.1 rfl (lv_room (Nat.le_of_ble_eq_true rfl)) dX8_strain_27 ⟨Nat.le_of_ble_eq_true rfl, Nat.le_of_ble_eq_true rfl⟩) (fun r27 M27 H locs hF hP hD hS => ?_)
  refine lv_if_eq (tgt := 48) hx hb dX8_strain_30 (by decide) (fun c_30 => ?_) (fun c_30 => ?_)
  · have hF := hF.1 c_30
    refine lv_iconst (v := 0) hx hb dX8_strain_48 (by decide) ?_
    exact mb_ri (S := mb_m) (mc := 0) (ms := 0) (wf := fun u => gw8 Y o a u) C rfl (u := M27) hF hP hD hS dX8_strain_49 (Nat.le_of_ble_eq_true rfl) (Nat.le_of_ble_eq_true rfl)
  · have hF := hF.2 c_30
    refine lv_aload_n hx hb dX8_strain_33 rfl (lv_at hl 0 rfl) ?_
    refine lv_iload_n hx hb dX8_strain_34 rfl (lv_at hl 1 rfl) ?_
    refine lv_iload_n hx hb dX8_strain_35 rfl (lv_at hl 2 rfl) ?_
    refine mb_cW hD hS hA (va_runV (As := [.int x1, .int x2]) (rest := []) ⟨hx, hb, hml, hown, hts⟩ (cnX8_bends l D Y N o a M27 _ x1 x2 _ hF) (cwV 2 hts gX8_strain_X8_bends rfl rfl rfl (by decide +kernel) ⟨Nat.le_of_ble_eq_true rfl, Nat.le_of_ble_eq_true rfl⟩) (mb_preV hG hP hD 0 rfl rfl) rfl rfl hl.1 rfl (lv_room (Nat.le_of_ble_eq_true rfl)) dX8_strain_36 ⟨Nat.le_of_ble_eq_true rfl, Nat.le_of_ble_eq_true rfl⟩) (fun r36 M36 H locs hF hP hD hS => ?_)
    refine lv_aload_n hx hb dX8_strain_39 rfl (lv_at hl 0 rfl) ?_
    refine lv_iload_n hx hb dX8_strain_40 rfl (lv_at hl 1 rfl) ?_
    refine mb_cW hD hS hA (va_runV (As := [.int x1]) (rest := [.int r36]) ⟨hx, hb, hml, hown, hts⟩ (cnX8_swells l D Y N o a M36 _ x1 _ hF) (cwV 1 hts gX8_strain_X8_swells rfl rfl rfl (by decide +kernel) ⟨Nat.le_of_ble_eq_true rfl, Nat.le_of_ble_eq_true rfl⟩) (mb_preV hG hP hD 0 rfl rfl) rfl rfl hl.1 rfl (lv_room (Nat.le_of_ble_eq_true rfl)) dX8_strain_41 ⟨Nat.le_of_ble_eq_true rfl, Nat.le_of_ble_eq_true rfl⟩) (fun r41 M41 H locs hF hP hD hS => ?_)
    refine lv_iadd hx hb dX8_strain_44 ?_
    refine lv_goto (tgt := 49) hx hb dX8_strain_45 (by decide) ?_
    exact mb_ri (S := mb_m) (mc := 0) (ms := 0) (wf := fun u => gw8 Y o a u) C rfl (u := M41) hF hP hD hS dX8_strain_49 (Nat.le_of_ble_eq_true rfl) (Nat.le_of_ble_eq_true rfl)
noncomputable def PX8_strain (N : Nat) (M : mb_m) (x1 x2 : Int32) (K : Int32 → mb_m → Prop) : Prop := PX8_isBook N M x1 (fun r2 M2 => (r2 = 0 → PX8_strain_20 N K M2 x1 x2 (0 : Int32) (0 : Int32) x2 r2) ∧ (¬ r2 = 0 → PX8_strain_20 N K M2 x1 x2 x1 (0 : Int32) x2 r2))
set_option maxHeartbeats 4000000 in
set_option maxRecDepth 100000 in
theorem cnX8_strain (l : Launch) (D : va_G) (Y : Nat → ClassId) (N : Nat) (o : Nat) (a : Nat → Nat) (M : mb_m) (sz : Nat) (x1 x2 : Int32) (K : Int32 → mb_m → Prop) (hF : PX8_strain N M x1 x2 K) : Met l yX8_strain wsX8_strain ({ frames := 4, cells := 0, slots := 0, locals := 90 } : Room) (va_Pc [.ref o, .int x1, .int x2] (mb_B D Y (gw8 Y o a M) sz)) (va_Qi K (fun u t => mb_T D (va_A (gw8 Y o a M) sz) (gw8 Y o a u) t) (va_A (gw8 Y o a M) sz)) 0 0 (va_A (gw8 Y o a M) sz) := by
  refine mb_begin (cc := cX8_strain) (maxL := 4) (ret := (some .int)) (by decide +kernel) rfl (Nat.le_of_ble_eq_true rfl) ?_
  intro p e s m below meth c ls C hsz hnm hP hD hl
  generalize hAe : va_A (gw8 Y o a M) sz = A at C hD ⊢
  have C : mb_Cx p s m meth c ([.ref o, .int x1, .int x2] : List Value).toArray cX8_strain 4 (some .int) wsX8_strain RX8 D Y A := C
  obtain ⟨hx, hb, hr, hml, hts, hown, hlocks, hA, hG⟩ := id C
  have hK := hG.1
  have hS : va_S A s.heap s.heap [] := va_S.rf
  have hl : lv_has ls 4 [(0, .ref o), (1, .int x1), (2, .int x2)] := hl
  refine lv_aload_n hx hb dX8_strain_0 rfl (lv_at hl 0 rfl) ?_
  refine lv_iload_n hx hb dX8_strain_1 rfl (lv_at hl 1 rfl) ?_
  refine mb_cW hD hS hA (va_runV (As := [.int x1]) (rest := []) ⟨hx, hb, hml, hown, hts⟩ (cnX8_isBook l D Y N o a M _ x1 _ hF) (cwV 1 hts gX8_strain_X8_isBook rfl rfl rfl (by decide +kernel) ⟨Nat.le_of_ble_eq_true rfl, Nat.le_of_ble_eq_true rfl⟩) (mb_preV hG hP hD 0 rfl rfl) rfl rfl hl.1 rfl (lv_room (Nat.le_of_ble_eq_true rfl)) dX8_strain_2 ⟨Nat.le_of_ble_eq_true rfl, Nat.le_of_ble_eq_true rfl⟩) (fun r2 M2 H locs hF hP hD hS => ?_)
  refine lv_istore_n (lv' := [(3, .int r2), (0, .ref o), (1, .int x1), (2, .int x2)]) hx hb dX8_strain_5 rfl hl (by decide) rfl (fun ls hl => ?_)
  refine lv_aload_n hx hb dX8_strain_6 rfl (lv_at hl 1 rfl) ?_
  refine lv_iload_n hx hb dX8_strain_7 rfl (lv_at hl 0 rfl) ?_
  refine lv_iload_n hx hb dX8_strain_8 rfl (lv_at hl 3 rfl) ?_
  refine lv_iconst (v := 0) hx hb dX8_strain_9 (by decide) ?_
  refine lv_aload_n hx hb dX8_strain_10 rfl (lv_at hl 1 rfl) ?_
  refine lv_iload_n hx hb dX8_strain_11 rfl (lv_at hl 0 rfl) ?_
  refine lv_if_eq (tgt := 19) hx hb dX8_strain_12 (by decide) (fun c_12 => ?_) (fun c_12 => ?_)
  · have hF := hF.1 c_12
    refine lv_iconst (v := 0) hx hb dX8_strain_19 (by decide) ?_
    exact wX8_strain_20 C M2 x1 x2 (0 : Int32) (0 : Int32) x2 r2 _ _ _ hF hP hD hS (lv_sub hl [1, 2, 3] rfl)
  · have hF := hF.2 c_12
    refine lv_iload_n hx hb dX8_strain_15 rfl (lv_at hl 2 rfl) ?_
    refine lv_goto (tgt := 20) hx hb dX8_strain_16 (by decide) ?_
    exact wX8_strain_20 C M2 x1 x2 x1 (0 : Int32) x2 r2 _ _ _ hF hP hD hS (lv_sub hl [1, 2, 3] rfl)
end
section
noncomputable def PX8_worst_49 (N : Nat) (K : Int32 → mb_m → Prop) (b20 : mb_m → Int32 → Int32 → Int32 → Prop) (M : mb_m) (x1 x3 y0 : Int32) : Prop := ∀ v50 : Int32, v50 = x3 + (1 : Int32) → (b20 M x1 y0 v50)
set_option maxHeartbeats 4000000 in
set_option maxRecDepth 100000 in
theorem wX8_worst_49 {p : Program} {l : Launch} {e : Env} {s : State} {m : MethodId} {below : List Frame} {meth : Method} {c : Code} {args : Array Value} {D : va_G} {Y : Nat → ClassId} {A : Nat → Prop} {o : Nat} {a : Nat → Nat} {N : Nat} {K : Int32 → mb_m → Prop} {b20 : mb_m → Int32 → Int32 → Int32 → Prop} (C : mb_Cx p s m meth c args cX8_worst 4 (some .int) wsX8_worst RX8 D Y A) (hb20 : ∀ (M : mb_m) (x1 x2 x3 : Int32) (H : Heap) (locs : List Loc) (ls : Array Slot), b20 M x1 x2 x3 → va_P D vwCl (gw8 Y o a M) H → va_D A (gw8 Y o a M) → va_S A s.heap H locs → lv_has ls 4 [(0, .ref o), (1, .int x1), (2, .int x2), (3, .int x3)] → W p l e ({ frames := 2, cells := 0, slots := 0, locals := 44 } : Room) s m args below meth c H locs 0 0 (MQ below (va_Qi K (fun u t => mb_T D A (gw8 Y o a u) t) A) args s 0 0 A) (F0 m 20 ls [])) : ∀ (M : mb_m) (x1 x3 y0 : Int32) (H : Heap) (locs : List Loc) (ls : Array Slot), PX8_worst_49 N K b20 M x1 x3 y0 → va_P D vwCl (gw8 Y o a M) H → va_D A (gw8 Y o a M) → va_S A s.heap H locs → lv_has ls 4 [(0, .ref o), (1, .int x1), (3, .int x3)] → W p l e ({ frames := 2, cells := 0, slots := 0, locals := 44 } : Room) s m args below meth c H locs 0 0 (MQ below (va_Qi K (fun u t => mb_T D A (gw8 Y o a u) t) A) args s 0 0 A) (F0 m 49 ls [.int y0]) := by
  obtain ⟨hx, hb, hr, hml, hts, hown, hlocks, hA, hG⟩ := id C
  have hK := hG.1
  intro M x1 x3 y0 H locs ls hF hP hD hS hl
  refine lv_istore_n (lv' := [(2, .int y0), (0, .ref o), (1, .int x1), (3, .int x3)]) hx hb dX8_worst_49 rfl hl (by decide) rfl (fun ls hl => ?_)
  obtain ⟨v50, ev50⟩ : ∃ y : Int32, y = x3 + (1 : Int32) := ⟨_, rfl⟩
  have hF := hF v50 ev50
  refine lv_iinc (v := v50) (lv' := [(3, .int v50), (2, .int y0), (0, .ref o), (1, .int x1)]) hx hb dX8_worst_50 hl (k := 3) rfl (by rw [ev50]; rfl) (by decide) rfl (fun ls hl => ?_)
  refine lv_goto (tgt := 20) hx hb dX8_worst_53 (by decide) ?_
  exact hb20 M x1 y0 v50 _ _ _ hF hP hD hS (lv_sub hl [2, 3, 1, 0] rfl)
noncomputable def PX8_worst_20_b (N : Nat) (K : Int32 → mb_m → Prop) (b20 : mb_m → Int32 → Int32 → Int32 → Prop) (M : mb_m) (x1 x2 x3 : Int32) : Prop := PX8_all N M x1 (fun r23 M23 => (r23 < x3 → K x2 M23) ∧ (¬ r23 < x3 → PX8_bends N M23 x1 x3 (fun r32 M32 => PX8_bends N M32 x1 x2 (fun r38 M38 => (r32 ≤ r38 → PX8_worst_49 N K b20 M38 x1 x3 x2) ∧ (¬ r32 ≤ r38 → PX8_worst_49 N K b20 M38 x1 x3 x3)))))
noncomputable def PX8_worst_20 (N : Nat) (K : Int32 → mb_m → Prop) (n : Nat) : mb_m → Int32 → Int32 → Int32 → Prop := Nat.rec (motive := fun _ => mb_m → Int32 → Int32 → Int32 → Prop) (fun _ _ _ _ => False) (fun _ b20 => PX8_worst_20_b N K  b20) n
set_option maxHeartbeats 4000000 in
set_option maxRecDepth 100000 in
theorem wX8_worst_20 {p : Program} {l : Launch} {e : Env} {s : State} {m : MethodId} {below : List Frame} {meth : Method} {c : Code} {args : Array Value} {D : va_G} {Y : Nat → ClassId} {A : Nat → Prop} {o : Nat} {a : Nat → Nat} {N : Nat} {K : Int32 → mb_m → Prop} (C : mb_Cx p s m meth c args cX8_worst 4 (some .int) wsX8_worst RX8 D Y A) : ∀ (n : Nat), (∀ (M : mb_m) (x1 x2 x3 : Int32) (H : Heap) (locs : List Loc) (ls : Array Slot), PX8_worst_20 N K  n M x1 x2 x3 → va_P D vwCl (gw8 Y o a M) H → va_D A (gw8 Y o a M) → va_S A s.heap H locs → lv_has ls 4 [(0, .ref o), (1, .int x1), (2, .int x2), (3, .int x3)] → W p l e ({ frames := 2, cells := 0, slots := 0, locals := 44 } : Room) s m args below meth c H locs 0 0 (MQ below (va_Qi K (fun u t => mb_T D A (gw8 Y o a u) t) A) args s 0 0 A) (F0 m 20 ls [])) := by
  obtain ⟨hx, hb, hr, hml, hts, hown, hlocks, hA, hG⟩ := id C
  have hK := hG.1
  intro n
  induction n with
  | zero => intro M x1 x2 x3 H locs ls hF; exact (show False from hF).elim
  | succ n ih =>
    intro M x1 x2 x3 H locs ls hF hP hD hS hl
    have hF : PX8_worst_20_b N K  (PX8_worst_20 N K  n) M x1 x2 x3 := hF
    refine lv_iload_n hx hb dX8_worst_20 rfl (lv_at hl 3 rfl) ?_
    refine lv_aload_n hx hb dX8_worst_21 rfl (lv_at hl 0 rfl) ?_
    refine lv_iload_n hx hb dX8_worst_22 rfl (lv_at hl 1 rfl) ?_
    refine mb_cW hD hS hA (va_runV (As := [.int x1]) (rest := [.int x3]) ⟨hx, hb, hml, hown, hts⟩ (cnX8_all l D Y N o a M _ x1 _ hF) (cwV 1 hts gX8_worst_X8_all rfl rfl rfl (by decide +kernel) ⟨Nat.le_of_ble_eq_true rfl, Nat.le_of_ble_eq_true rfl⟩) (mb_preV hG hP hD 0 rfl rfl) rfl rfl hl.1 rfl (lv_room (Nat.le_of_ble_eq_true rfl)) dX8_worst_23 ⟨Nat.le_of_ble_eq_true rfl, Nat.le_of_ble_eq_true rfl⟩) (fun r23 M23 H locs hF hP hD hS => ?_)
    refine lv_icmp_gt (tgt := 56) hx hb dX8_worst_26 (by decide) (fun c_26 => ?_) (fun c_26 => ?_)
    · have hF := hF.1 c_26
      refine lv_iload_n hx hb dX8_worst_56 rfl (lv_at hl 2 rfl) ?_
      exact mb_ri (S := mb_m) (mc := 0) (ms := 0) (wf := fun u => gw8 Y o a u) C rfl (u := M23) hF hP hD hS dX8_worst_57 (Nat.le_of_ble_eq_true rfl) (Nat.le_of_ble_eq_true rfl)
    · have hF := hF.2 c_26
      refine lv_aload_n hx hb dX8_worst_29 rfl (lv_at hl 0 rfl) ?_
      refine lv_iload_n hx hb dX8_worst_30 rfl (lv_at hl 1 rfl) ?_
      refine lv_iload_n hx hb dX8_worst_31 rfl (lv_at hl 3 rfl) ?_
      refine mb_cW hD hS hA (va_runV (As := [.int x1, .int x3]) (rest := []) ⟨hx, hb, hml, hown, hts⟩ (cnX8_bends l D Y N o a M23 _ x1 x3 _ hF) (cwV 2 hts gX8_worst_X8_bends rfl rfl rfl (by decide +kernel) ⟨Nat.le_of_ble_eq_true rfl, Nat.le_of_ble_eq_true rfl⟩) (mb_preV hG hP hD 0 rfl rfl) rfl rfl hl.1 rfl (lv_room (Nat.le_of_ble_eq_true rfl)) dX8_worst_32 ⟨Nat.le_of_ble_eq_true rfl, Nat.le_of_ble_eq_true rfl⟩) (fun r32 M32 H locs hF hP hD hS => ?_)
      refine lv_aload_n hx hb dX8_worst_35 rfl (lv_at hl 0 rfl) ?_
      refine lv_iload_n hx hb dX8_worst_36 rfl (lv_at hl 1 rfl) ?_
      refine lv_iload_n hx hb dX8_worst_37 rfl (lv_at hl 2 rfl) ?_
      refine mb_cW hD hS hA (va_runV (As := [.int x1, .int x2]) (rest := [.int r32]) ⟨hx, hb, hml, hown, hts⟩ (cnX8_bends l D Y N o a M32 _ x1 x2 _ hF) (cwV 2 hts gX8_worst_X8_bends rfl rfl rfl (by decide +kernel) ⟨Nat.le_of_ble_eq_true rfl, Nat.le_of_ble_eq_true rfl⟩) (mb_preV hG hP hD 0 rfl rfl) rfl rfl hl.1 rfl (lv_room (Nat.le_of_ble_eq_true rfl)) dX8_worst_38 ⟨Nat.le_of_ble_eq_true rfl, Nat.le_of_ble_eq_true rfl⟩) (fun r38 M38 H locs hF hP hD hS => ?_)
      refine lv_icmp_le (tgt := 48) hx hb dX8_worst_41 (by decide) (fun c_41 => ?_) (fun c_41 => ?_)
      · have hF := hF.1 c_41
        refine lv_iload_n hx hb dX8_worst_48 rfl (lv_at hl 2 rfl) ?_
        exact wX8_worst_49 C ih M38 x1 x3 x2 _ _ _ hF hP hD hS (lv_sub hl [0, 1, 3] rfl)
      · have hF := hF.2 c_41
        refine lv_iload_n hx hb dX8_worst_44 rfl (lv_at hl 3 rfl) ?_
        refine lv_goto (tgt := 49) hx hb dX8_worst_45 (by decide) ?_
        exact wX8_worst_49 C ih M38 x1 x3 x3 _ _ _ hF hP hD hS (lv_sub hl [0, 1, 3] rfl)
noncomputable def PX8_worst (N : Nat) (M : mb_m) (x1 : Int32) (K : Int32 → mb_m → Prop) : Prop := PX8_isBook N M x1 (fun r3 M3 => PX8_goes N M3 r3 (1 : Int32) (1 : Int32) (fun r8 M8 => (¬ r8 = 0 → PX8_worst_20 N K N M8 x1 (0 : Int32) (1 : Int32)) ∧ (r8 = 0 → K (0 : Int32) M8)))
set_option maxHeartbeats 4000000 in
set_option maxRecDepth 100000 in
theorem cnX8_worst (l : Launch) (D : va_G) (Y : Nat → ClassId) (N : Nat) (o : Nat) (a : Nat → Nat) (M : mb_m) (sz : Nat) (x1 : Int32) (K : Int32 → mb_m → Prop) (hF : PX8_worst N M x1 K) : Met l yX8_worst wsX8_worst ({ frames := 2, cells := 0, slots := 0, locals := 44 } : Room) (va_Pc [.ref o, .int x1] (mb_B D Y (gw8 Y o a M) sz)) (va_Qi K (fun u t => mb_T D (va_A (gw8 Y o a M) sz) (gw8 Y o a u) t) (va_A (gw8 Y o a M) sz)) 0 0 (va_A (gw8 Y o a M) sz) := by
  refine mb_begin (cc := cX8_worst) (maxL := 4) (ret := (some .int)) (by decide +kernel) rfl (Nat.le_of_ble_eq_true rfl) ?_
  intro p e s m below meth c ls C hsz hnm hP hD hl
  generalize hAe : va_A (gw8 Y o a M) sz = A at C hD ⊢
  have C : mb_Cx p s m meth c ([.ref o, .int x1] : List Value).toArray cX8_worst 4 (some .int) wsX8_worst RX8 D Y A := C
  obtain ⟨hx, hb, hr, hml, hts, hown, hlocks, hA, hG⟩ := id C
  have hK := hG.1
  have hS : va_S A s.heap s.heap [] := va_S.rf
  have hl : lv_has ls 4 [(0, .ref o), (1, .int x1)] := hl
  refine lv_aload_n hx hb dX8_worst_0 rfl (lv_at hl 0 rfl) ?_
  refine lv_aload_n hx hb dX8_worst_1 rfl (lv_at hl 0 rfl) ?_
  refine lv_iload_n hx hb dX8_worst_2 rfl (lv_at hl 1 rfl) ?_
  refine mb_cW hD hS hA (va_runV (As := [.int x1]) (rest := [.ref o]) ⟨hx, hb, hml, hown, hts⟩ (cnX8_isBook l D Y N o a M _ x1 _ hF) (cwV 1 hts gX8_worst_X8_isBook rfl rfl rfl (by decide +kernel) ⟨Nat.le_of_ble_eq_true rfl, Nat.le_of_ble_eq_true rfl⟩) (mb_preV hG hP hD 0 rfl rfl) rfl rfl hl.1 rfl (lv_room (Nat.le_of_ble_eq_true rfl)) dX8_worst_3 ⟨Nat.le_of_ble_eq_true rfl, Nat.le_of_ble_eq_true rfl⟩) (fun r3 M3 H locs hF hP hD hS => ?_)
  refine lv_iconst (v := 1) hx hb dX8_worst_6 (by decide) ?_
  refine lv_iconst (v := 1) hx hb dX8_worst_7 (by decide) ?_
  refine mb_cW hD hS hA (va_runV (As := [.int r3, .int (1 : Int32), .int (1 : Int32)]) (rest := []) ⟨hx, hb, hml, hown, hts⟩ (cnX8_goes l D Y N o a M3 _ r3 (1 : Int32) (1 : Int32) _ hF) (cwV 3 hts gX8_worst_X8_goes rfl rfl rfl (by decide +kernel) ⟨Nat.le_of_ble_eq_true rfl, Nat.le_of_ble_eq_true rfl⟩) (mb_preV hG hP hD 0 rfl rfl) rfl rfl hl.1 rfl (lv_room (Nat.le_of_ble_eq_true rfl)) dX8_worst_8 ⟨Nat.le_of_ble_eq_true rfl, Nat.le_of_ble_eq_true rfl⟩) (fun r8 M8 H locs hF hP hD hS => ?_)
  refine lv_if_ne (tgt := 16) hx hb dX8_worst_11 (by decide) (fun c_11 => ?_) (fun c_11 => ?_)
  · have hF := hF.1 c_11
    refine lv_iconst (v := 0) hx hb dX8_worst_16 (by decide) ?_
    refine lv_istore_n (lv' := [(2, .int (0 : Int32)), (0, .ref o), (1, .int x1)]) hx hb dX8_worst_17 rfl hl (by decide) rfl (fun ls hl => ?_)
    refine lv_iconst (v := 1) hx hb dX8_worst_18 (by decide) ?_
    refine lv_istore_n (lv' := [(3, .int (1 : Int32)), (2, .int (0 : Int32)), (0, .ref o), (1, .int x1)]) hx hb dX8_worst_19 rfl hl (by decide) rfl (fun ls hl => ?_)
    exact wX8_worst_20 C N M8 x1 (0 : Int32) (1 : Int32) _ _ _ hF hP hD hS (lv_sub hl [2, 3, 1, 0] rfl)
  · have hF := hF.2 c_11
    refine lv_iconst (v := 0) hx hb dX8_worst_14 (by decide) ?_
    exact mb_ri (S := mb_m) (mc := 0) (ms := 0) (wf := fun u => gw8 Y o a u) C rfl (u := M8) hF hP hD hS dX8_worst_15 (Nat.le_of_ble_eq_true rfl) (Nat.le_of_ble_eq_true rfl)
end
section
noncomputable def PX8_opens_64 (N : Nat) (K : Int32 → mb_m → Prop) (b34 : mb_m → Int32 → Int32 → Int32 → Int32 → Int32 → Prop) (M : mb_m) (x1 x2 x4 x5 y0 y1 : Int32) : Prop := ∀ v65 : Int32, v65 = (y1 + y0) → (∀ v66 : Int32, v66 = x5 + (1 : Int32) → (b34 M x1 x2 v65 x4 v66))
set_option maxHeartbeats 4000000 in
set_option maxRecDepth 100000 in
theorem wX8_opens_64 {p : Program} {l : Launch} {e : Env} {s : State} {m : MethodId} {below : List Frame} {meth : Method} {c : Code} {args : Array Value} {D : va_G} {Y : Nat → ClassId} {A : Nat → Prop} {o : Nat} {a : Nat → Nat} {N : Nat} {K : Int32 → mb_m → Prop} {b34 : mb_m → Int32 → Int32 → Int32 → Int32 → Int32 → Prop} (C : mb_Cx p s m meth c args cX8_opens 6 (some .int) wsX8_opens RX8 D Y A) (hb34 : ∀ (M : mb_m) (x1 x2 x3 x4 x5 : Int32) (H : Heap) (locs : List Loc) (ls : Array Slot), b34 M x1 x2 x3 x4 x5 → va_P D vwCl (gw8 Y o a M) H → va_D A (gw8 Y o a M) → va_S A s.heap H locs → lv_has ls 6 [(0, .ref o), (1, .int x1), (2, .int x2), (3, .int x3), (4, .int x4), (5, .int x5)] → W p l e ({ frames := 4, cells := 0, slots := 0, locals := 90 } : Room) s m args below meth c H locs 0 0 (MQ below (va_Qi K (fun u t => mb_T D A (gw8 Y o a u) t) A) args s 0 0 A) (F0 m 34 ls [])) : ∀ (M : mb_m) (x1 x2 x4 x5 y0 y1 : Int32) (H : Heap) (locs : List Loc) (ls : Array Slot), PX8_opens_64 N K b34 M x1 x2 x4 x5 y0 y1 → va_P D vwCl (gw8 Y o a M) H → va_D A (gw8 Y o a M) → va_S A s.heap H locs → lv_has ls 6 [(0, .ref o), (1, .int x1), (2, .int x2), (4, .int x4), (5, .int x5)] → W p l e ({ frames := 4, cells := 0, slots := 0, locals := 90 } : Room) s m args below meth c H locs 0 0 (MQ below (va_Qi K (fun u t => mb_T D A (gw8 Y o a u) t) A) args s 0 0 A) (F0 m 64 ls [.int y0, .int y1]) := by
  obtain ⟨hx, hb, hr, hml, hts, hown, hlocks, hA, hG⟩ := id C
  have hK := hG.1
  intro M x1 x2 x4 x5 y0 y1 H locs ls hF hP hD hS hl
  refine lv_iadd hx hb dX8_opens_64 ?_
  refine lv_topi (fun v65 ev65 => ?_)
  have hF := hF v65 ev65
  refine lv_istore_n (lv' := [(3, .int v65), (0, .ref o), (1, .int x1), (2, .int x2), (4, .int x4), (5, .int x5)]) hx hb dX8_opens_65 rfl hl (by decide) rfl (fun ls hl => ?_)
  obtain ⟨v66, ev66⟩ : ∃ y : Int32, y = x5 + (1 : Int32) := ⟨_, rfl⟩
  have hF := hF v66 ev66
  refine lv_iinc (v := v66) (lv' := [(5, .int v66), (3, .int v65), (0, .ref o), (1, .int x1), (2, .int x2), (4, .int x4)]) hx hb dX8_opens_66 hl (k := 5) rfl (by rw [ev66]; rfl) (by decide) rfl (fun ls hl => ?_)
  refine lv_goto (tgt := 34) hx hb dX8_opens_69 (by decide) ?_
  exact hb34 M x1 x2 v65 x4 v66 _ _ _ hF hP hD hS (lv_sub hl [2, 3, 4, 1, 5, 0] rfl)
noncomputable def PX8_opens_34_b (N : Nat) (K : Int32 → mb_m → Prop) (b34 : mb_m → Int32 → Int32 → Int32 → Int32 → Int32 → Prop) (M : mb_m) (x1 x2 x3 x4 x5 : Int32) : Prop := PX8_all N M x1 (fun r38 M38 => (r38 < x5 → K x3 M38) ∧ (¬ r38 < x5 → PX8_bends N M38 x1 x5 (fun r49 M49 => (x2 < (r49 + x4) → PX8_opens_64 N K b34 M49 x1 x2 x4 x5 (0 : Int32) x3) ∧ (¬ x2 < (r49 + x4) → PX8_opens_64 N K b34 M49 x1 x2 x4 x5 (1 : Int32) x3))))
noncomputable def PX8_opens_34 (N : Nat) (K : Int32 → mb_m → Prop) (n : Nat) : mb_m → Int32 → Int32 → Int32 → Int32 → Int32 → Prop := Nat.rec (motive := fun _ => mb_m → Int32 → Int32 → Int32 → Int32 → Int32 → Prop) (fun _ _ _ _ _ _ => False) (fun _ b34 => PX8_opens_34_b N K  b34) n
set_option maxHeartbeats 4000000 in
set_option maxRecDepth 100000 in
theorem wX8_opens_34 {p : Program} {l : Launch} {e : Env} {s : State} {m : MethodId} {below : List Frame} {meth : Method} {c : Code} {args : Array Value} {D : va_G} {Y : Nat → ClassId} {A : Nat → Prop} {o : Nat} {a : Nat → Nat} {N : Nat} {K : Int32 → mb_m → Prop} (C : mb_Cx p s m meth c args cX8_opens 6 (some .int) wsX8_opens RX8 D Y A) : ∀ (n : Nat), (∀ (M : mb_m) (x1 x2 x3 x4 x5 : Int32) (H : Heap) (locs : List Loc) (ls : Array Slot), PX8_opens_34 N K  n M x1 x2 x3 x4 x5 → va_P D vwCl (gw8 Y o a M) H → va_D A (gw8 Y o a M) → va_S A s.heap H locs → lv_has ls 6 [(0, .ref o), (1, .int x1), (2, .int x2), (3, .int x3), (4, .int x4), (5, .int x5)] → W p l e ({ frames := 4, cells := 0, slots := 0, locals := 90 } : Room) s m args below meth c H locs 0 0 (MQ below (va_Qi K (fun u t => mb_T D A (gw8 Y o a u) t) A) args s 0 0 A) (F0 m 34 ls [])) := by
  obtain ⟨hx, hb, hr, hml, hts, hown, hlocks, hA, hG⟩ := id C
  have hK := hG.1
  intro n
  induction n with
  | zero => intro M x1 x2 x3 x4 x5 H locs ls hF; exact (show False from hF).elim
  | succ n ih =>
    intro M x1 x2 x3 x4 x5 H locs ls hF hP hD hS hl
    have hF : PX8_opens_34_b N K  (PX8_opens_34 N K  n) M x1 x2 x3 x4 x5 := hF
    refine lv_iload hx hb dX8_opens_34 (lv_at hl 5 rfl) ?_
    refine lv_aload_n hx hb dX8_opens_36 rfl (lv_at hl 0 rfl) ?_
    refine lv_iload_n hx hb dX8_opens_37 rfl (lv_at hl 1 rfl) ?_
    refine mb_cW hD hS hA (va_runV (As := [.int x1]) (rest := [.int x5]) ⟨hx, hb, hml, hown, hts⟩ (cnX8_all l D Y N o a M _ x1 _ hF) (cwV 1 hts gX8_opens_X8_all rfl rfl rfl (by decide +kernel) ⟨Nat.le_of_ble_eq_true rfl, Nat.le_of_ble_eq_true rfl⟩) (mb_preV hG hP hD 0 rfl rfl) rfl rfl hl.1 rfl (lv_room (Nat.le_of_ble_eq_true rfl)) dX8_opens_38 ⟨Nat.le_of_ble_eq_true rfl, Nat.le_of_ble_eq_true rfl⟩) (fun r38 M38 H locs hF hP hD hS => ?_)
    refine lv_icmp_gt (tgt := 72) hx hb dX8_opens_41 (by decide) (fun c_41 => ?_) (fun c_41 => ?_)
    · have hF := hF.1 c_41
      refine lv_iload_n hx hb dX8_opens_72 rfl (lv_at hl 3 rfl) ?_
      exact mb_ri (S := mb_m) (mc := 0) (ms := 0) (wf := fun u => gw8 Y o a u) C rfl (u := M38) hF hP hD hS dX8_opens_73 (Nat.le_of_ble_eq_true rfl) (Nat.le_of_ble_eq_true rfl)
    · have hF := hF.2 c_41
      refine lv_iload_n hx hb dX8_opens_44 rfl (lv_at hl 3 rfl) ?_
      refine lv_aload_n hx hb dX8_opens_45 rfl (lv_at hl 0 rfl) ?_
      refine lv_iload_n hx hb dX8_opens_46 rfl (lv_at hl 1 rfl) ?_
      refine lv_iload hx hb dX8_opens_47 (lv_at hl 5 rfl) ?_
      refine mb_cW hD hS hA (va_runV (As := [.int x1, .int x5]) (rest := [.int x3]) ⟨hx, hb, hml, hown, hts⟩ (cnX8_bends l D Y N o a M38 _ x1 x5 _ hF) (cwV 2 hts gX8_opens_X8_bends rfl rfl rfl (by decide +kernel) ⟨Nat.le_of_ble_eq_true rfl, Nat.le_of_ble_eq_true rfl⟩) (mb_preV hG hP hD 0 rfl rfl) rfl rfl hl.1 rfl (lv_room (Nat.le_of_ble_eq_true rfl)) dX8_opens_49 ⟨Nat.le_of_ble_eq_true rfl, Nat.le_of_ble_eq_true rfl⟩) (fun r49 M49 H locs hF hP hD hS => ?_)
      refine lv_iload hx hb dX8_opens_52 (lv_at hl 4 rfl) ?_
      refine lv_iadd hx hb dX8_opens_54 ?_
      refine lv_iload_n hx hb dX8_opens_55 rfl (lv_at hl 2 rfl) ?_
      refine lv_icmp_gt (tgt := 63) hx hb dX8_opens_56 (by decide) (fun c_56 => ?_) (fun c_56 => ?_)
      · have hF := hF.1 c_56
        refine lv_iconst (v := 0) hx hb dX8_opens_63 (by decide) ?_
        exact wX8_opens_64 C ih M49 x1 x2 x4 x5 (0 : Int32) x3 _ _ _ hF hP hD hS (lv_sub hl [0, 1, 2, 4, 5] rfl)
      · have hF := hF.2 c_56
        refine lv_iconst (v := 1) hx hb dX8_opens_59 (by decide) ?_
        refine lv_goto (tgt := 64) hx hb dX8_opens_60 (by decide) ?_
        exact wX8_opens_64 C ih M49 x1 x2 x4 x5 (1 : Int32) x3 _ _ _ hF hP hD hS (lv_sub hl [0, 1, 2, 4, 5] rfl)
noncomputable def PX8_opens (N : Nat) (M : mb_m) (x1 x2 : Int32) (K : Int32 → mb_m → Prop) : Prop := PX8_isBook N M x1 (fun r3 M3 => PX8_in N x2 (0 : Int32) (100000 : Int32) (fun r10 _ => PX8_goes N M3 r3 r10 (1 : Int32) (fun r14 M14 => (¬ r14 = 0 → PX8_swells N M14 x1 (fun r26 M26 => PX8_opens_34 N K N M26 x1 x2 (0 : Int32) r26 (0 : Int32))) ∧ (r14 = 0 → K (0 : Int32) M14))))
set_option maxHeartbeats 4000000 in
set_option maxRecDepth 100000 in
theorem cnX8_opens (l : Launch) (D : va_G) (Y : Nat → ClassId) (N : Nat) (o : Nat) (a : Nat → Nat) (M : mb_m) (sz : Nat) (x1 x2 : Int32) (K : Int32 → mb_m → Prop) (hF : PX8_opens N M x1 x2 K) : Met l yX8_opens wsX8_opens ({ frames := 4, cells := 0, slots := 0, locals := 90 } : Room) (va_Pc [.ref o, .int x1, .int x2] (mb_B D Y (gw8 Y o a M) sz)) (va_Qi K (fun u t => mb_T D (va_A (gw8 Y o a M) sz) (gw8 Y o a u) t) (va_A (gw8 Y o a M) sz)) 0 0 (va_A (gw8 Y o a M) sz) := by
  refine mb_begin (cc := cX8_opens) (maxL := 6) (ret := (some .int)) (by decide +kernel) rfl (Nat.le_of_ble_eq_true rfl) ?_
  intro p e s m below meth c ls C hsz hnm hP hD hl
  generalize hAe : va_A (gw8 Y o a M) sz = A at C hD ⊢
  have C : mb_Cx p s m meth c ([.ref o, .int x1, .int x2] : List Value).toArray cX8_opens 6 (some .int) wsX8_opens RX8 D Y A := C
  obtain ⟨hx, hb, hr, hml, hts, hown, hlocks, hA, hG⟩ := id C
  have hK := hG.1
  have hS : va_S A s.heap s.heap [] := va_S.rf
  have hl : lv_has ls 6 [(0, .ref o), (1, .int x1), (2, .int x2)] := hl
  refine lv_aload_n hx hb dX8_opens_0 rfl (lv_at hl 0 rfl) ?_
  refine lv_aload_n hx hb dX8_opens_1 rfl (lv_at hl 0 rfl) ?_
  refine lv_iload_n hx hb dX8_opens_2 rfl (lv_at hl 1 rfl) ?_
  refine mb_cW hD hS hA (va_runV (As := [.int x1]) (rest := [.ref o]) ⟨hx, hb, hml, hown, hts⟩ (cnX8_isBook l D Y N o a M _ x1 _ hF) (cwV 1 hts gX8_opens_X8_isBook rfl rfl rfl (by decide +kernel) ⟨Nat.le_of_ble_eq_true rfl, Nat.le_of_ble_eq_true rfl⟩) (mb_preV hG hP hD 0 rfl rfl) rfl rfl hl.1 rfl (lv_room (Nat.le_of_ble_eq_true rfl)) dX8_opens_3 ⟨Nat.le_of_ble_eq_true rfl, Nat.le_of_ble_eq_true rfl⟩) (fun r3 M3 H locs hF hP hD hS => ?_)
  refine lv_iload_n hx hb dX8_opens_6 rfl (lv_at hl 2 rfl) ?_
  refine lv_iconst (v := 0) hx hb dX8_opens_7 (by decide) ?_
  refine lv_ldc (v := 100000) hx hb hown (hts (.constant RX8 177 (100000)) (List.mem_of_getElem? (i := 1) rfl)) dX8_opens_8 ?_
  refine mb_cE hP hS hA (va_runS (As := [.int x2, .int (0 : Int32), .int (100000 : Int32)]) (rest := [.int r3, .ref o]) ⟨hx, hb, hml, hown, hts⟩ (cnX8_in l D Y N _ x2 (0 : Int32) (100000 : Int32) _ hF) (va_cwS 3 hts gX8_opens_X8_in rfl rfl rfl (by decide +kernel) ⟨Nat.le_of_ble_eq_true rfl, Nat.le_of_ble_eq_true rfl⟩) (mb_preS (A := A) hG mb_P0 mb_D0) rfl rfl hl.1 rfl (lv_room (Nat.le_of_ble_eq_true rfl)) dX8_opens_10 ⟨Nat.le_of_ble_eq_true rfl, Nat.le_of_ble_eq_true rfl⟩) (fun r10 H locs hF hP hS => ?_)
  refine lv_iconst (v := 1) hx hb dX8_opens_13 (by decide) ?_
  refine mb_cW hD hS hA (va_runV (As := [.int r3, .int r10, .int (1 : Int32)]) (rest := []) ⟨hx, hb, hml, hown, hts⟩ (cnX8_goes l D Y N o a M3 _ r3 r10 (1 : Int32) _ hF) (cwV 3 hts gX8_opens_X8_goes rfl rfl rfl (by decide +kernel) ⟨Nat.le_of_ble_eq_true rfl, Nat.le_of_ble_eq_true rfl⟩) (mb_preV hG hP hD 0 rfl rfl) rfl rfl hl.1 rfl (lv_room (Nat.le_of_ble_eq_true rfl)) dX8_opens_14 ⟨Nat.le_of_ble_eq_true rfl, Nat.le_of_ble_eq_true rfl⟩) (fun r14 M14 H locs hF hP hD hS => ?_)
  refine lv_if_ne (tgt := 22) hx hb dX8_opens_17 (by decide) (fun c_17 => ?_) (fun c_17 => ?_)
  · have hF := hF.1 c_17
    refine lv_iconst (v := 0) hx hb dX8_opens_22 (by decide) ?_
    refine lv_istore_n (lv' := [(3, .int (0 : Int32)), (0, .ref o), (1, .int x1), (2, .int x2)]) hx hb dX8_opens_23 rfl hl (by decide) rfl (fun ls hl => ?_)
    refine lv_aload_n hx hb dX8_opens_24 rfl (lv_at hl 1 rfl) ?_
    refine lv_iload_n hx hb dX8_opens_25 rfl (lv_at hl 2 rfl) ?_
    refine mb_cW hD hS hA (va_runV (As := [.int x1]) (rest := []) ⟨hx, hb, hml, hown, hts⟩ (cnX8_swells l D Y N o a M14 _ x1 _ hF) (cwV 1 hts gX8_opens_X8_swells rfl rfl rfl (by decide +kernel) ⟨Nat.le_of_ble_eq_true rfl, Nat.le_of_ble_eq_true rfl⟩) (mb_preV hG hP hD 0 rfl rfl) rfl rfl hl.1 rfl (lv_room (Nat.le_of_ble_eq_true rfl)) dX8_opens_26 ⟨Nat.le_of_ble_eq_true rfl, Nat.le_of_ble_eq_true rfl⟩) (fun r26 M26 H locs hF hP hD hS => ?_)
    refine lv_istore (lv' := [(4, .int r26), (3, .int (0 : Int32)), (0, .ref o), (1, .int x1), (2, .int x2)]) hx hb dX8_opens_29 hl (by decide) rfl (fun ls hl => ?_)
    refine lv_iconst (v := 0) hx hb dX8_opens_31 (by decide) ?_
    refine lv_istore (lv' := [(5, .int (0 : Int32)), (4, .int r26), (3, .int (0 : Int32)), (0, .ref o), (1, .int x1), (2, .int x2)]) hx hb dX8_opens_32 hl (by decide) rfl (fun ls hl => ?_)
    exact wX8_opens_34 C N M26 x1 x2 (0 : Int32) r26 (0 : Int32) _ _ _ hF hP hD hS (lv_sub hl [3, 4, 5, 2, 1, 0] rfl)
  · have hF := hF.2 c_17
    refine lv_iconst (v := 0) hx hb dX8_opens_20 (by decide) ?_
    exact mb_ri (S := mb_m) (mc := 0) (ms := 0) (wf := fun u => gw8 Y o a u) C rfl (u := M14) hF hP hD hS dX8_opens_21 (Nat.le_of_ble_eq_true rfl) (Nat.le_of_ble_eq_true rfl)
end
section
noncomputable def PX8_isSkin (N : Nat) (M : mb_m) (x1 : Int32) (K : Int32 → mb_m → Prop) : Prop := PX8_in N x1 (0 : Int32) ((M 19 0) - (1 : Int32)) (fun r8 _ => mb_isB r8 ∧ (K r8 M))
set_option maxHeartbeats 4000000 in
set_option maxRecDepth 100000 in
theorem cnX8_isSkin (l : Launch) (D : va_G) (Y : Nat → ClassId) (N : Nat) (o : Nat) (a : Nat → Nat) (M : mb_m) (sz : Nat) (x1 : Int32) (K : Int32 → mb_m → Prop) (hF : PX8_isSkin N M x1 K) : Met l yX8_isSkin wsX8_isSkin ({ frames := 1, cells := 0, slots := 0, locals := 22 } : Room) (va_Pc [.ref o, .int x1] (mb_B D Y (gw8 Y o a M) sz)) (va_Qi K (fun u t => mb_T D (va_A (gw8 Y o a M) sz) (gw8 Y o a u) t) (va_A (gw8 Y o a M) sz)) 0 0 (va_A (gw8 Y o a M) sz) := by
  refine mb_begin (cc := cX8_isSkin) (maxL := 2) (ret := (some .boolean)) (by decide +kernel) rfl (Nat.le_of_ble_eq_true rfl) ?_
  intro p e s m below meth c ls C hsz hnm hP hD hl
  generalize hAe : va_A (gw8 Y o a M) sz = A at C hD ⊢
  have C : mb_Cx p s m meth c ([.ref o, .int x1] : List Value).toArray cX8_isSkin 2 (some .boolean) wsX8_isSkin RX8 D Y A := C
  obtain ⟨hx, hb, hr, hml, hts, hown, hlocks, hA, hG⟩ := id C
  have hK := hG.1
  have hS : va_S A s.heap s.heap [] := va_S.rf
  have hl : lv_has ls 2 [(0, .ref o), (1, .int x1)] := hl
  refine lv_iload_n hx hb dX8_isSkin_0 rfl (lv_at hl 1 rfl) ?_
  refine lv_iconst (v := 0) hx hb dX8_isSkin_1 (by decide) ?_
  refine lv_aload_n hx hb dX8_isSkin_2 rfl (lv_at hl 0 rfl) ?_
  refine va_get (D := D) (ci := 8) (v := .int (M 19 0)) (C := RX8) (T := TX8) (N := 28) hx hb hts (fun _ h9 => List.mem_cons_of_mem _ (List.mem_append_right _ (h9))) hown hK hP 0 rfl rfl 19 (by decide) (hts (.fieldLink RX8 178 "MarbleBenchModel" "skins" "I") (List.mem_of_getElem? (i := 1) rfl)) (fun _ h9 => h9) rfl dX8_isSkin_3 ?_
  refine lv_iconst (v := 1) hx hb dX8_isSkin_6 (by decide) ?_
  refine lv_isub hx hb dX8_isSkin_7 ?_
  refine mb_cE hP hS hA (va_runS (As := [.int x1, .int (0 : Int32), .int ((M 19 0) - (1 : Int32))]) (rest := []) ⟨hx, hb, hml, hown, hts⟩ (cnX8_in l D Y N _ x1 (0 : Int32) ((M 19 0) - (1 : Int32)) _ hF) (va_cwS 3 hts gX8_isSkin_X8_in rfl rfl rfl (by decide +kernel) ⟨Nat.le_of_ble_eq_true rfl, Nat.le_of_ble_eq_true rfl⟩) (mb_preS (A := A) hG mb_P0 mb_D0) rfl rfl hl.1 rfl (lv_room (Nat.le_of_ble_eq_true rfl)) dX8_isSkin_8 ⟨Nat.le_of_ble_eq_true rfl, Nat.le_of_ble_eq_true rfl⟩) (fun r8 H locs hF hP hS => ?_)
  obtain ⟨hz11, hF⟩ := hF
  exact mb_ri (S := mb_m) (mc := 0) (ms := 0) (wf := fun u => gw8 Y o a u) C (mb_isB_n hz11) (u := M) hF hP hD hS dX8_isSkin_11 (Nat.le_of_ble_eq_true rfl) (Nat.le_of_ble_eq_true rfl)
end
section
noncomputable def PX8_skin_33_b (N : Nat) (K : Int32 → mb_m → Prop) (b33 : mb_m → Int32 → Int32 → Prop) (M : mb_m) (x1 x2 : Int32) : Prop := ((64 : Int32) ≤ x2 → ∀ v67 : Int32, v67 = ((M 19 0) + (1 : Int32)) → (∀ M67 : mb_m, M67 = mb_u M 19 (mb_c v67) → (K ((M67 19 0) - (1 : Int32)) M67))) ∧ (¬ (64 : Int32) ≤ x2 → vp_in (((64 : Int32) * (M 19 0)) + x2) 192 ∧ (∀ M53 : mb_m, M53 = mb_u M 20 (upd (M 20) (((64 : Int32) * (M 19 0)) + x2).toNatClampNeg x1) → (∀ v54 : Int32, v54 = x2 + (1 : Int32) → (b33 M53 x1 v54))))
noncomputable def PX8_skin_33 (N : Nat) (K : Int32 → mb_m → Prop) (n : Nat) : mb_m → Int32 → Int32 → Prop := Nat.rec (motive := fun _ => mb_m → Int32 → Int32 → Prop) (fun _ _ _ => False) (fun _ b33 => PX8_skin_33_b N K  b33) n
set_option maxHeartbeats 4000000 in
set_option maxRecDepth 100000 in
theorem wX8_skin_33 {p : Program} {l : Launch} {e : Env} {s : State} {m : MethodId} {below : List Frame} {meth : Method} {c : Code} {args : Array Value} {D : va_G} {Y : Nat → ClassId} {A : Nat → Prop} {o : Nat} {a : Nat → Nat} {N : Nat} {K : Int32 → mb_m → Prop} (C : mb_Cx p s m meth c args cX8_skin 3 (some .int) wsX8_skin RX8 D Y A) : ∀ (n : Nat), (∀ (M : mb_m) (x1 x2 : Int32) (H : Heap) (locs : List Loc) (ls : Array Slot), PX8_skin_33 N K  n M x1 x2 → va_P D vwCl (gw8 Y o a M) H → va_D A (gw8 Y o a M) → va_S A s.heap H locs → lv_has ls 3 [(0, .ref o), (1, .int x1), (2, .int x2)] → W p l e ({ frames := 1, cells := 0, slots := 0, locals := 23 } : Room) s m args below meth c H locs 0 0 (MQ below (va_Qi K (fun u t => mb_T D A (gw8 Y o a u) t) A) args s 0 0 A) (F0 m 33 ls [])) := by
  obtain ⟨hx, hb, hr, hml, hts, hown, hlocks, hA, hG⟩ := id C
  have hK := hG.1
  intro n
  induction n with
  | zero => intro M x1 x2 H locs ls hF; exact (show False from hF).elim
  | succ n ih =>
    intro M x1 x2 H locs ls hF hP hD hS hl
    have hF : PX8_skin_33_b N K  (PX8_skin_33 N K  n) M x1 x2 := hF
    refine lv_iload_n hx hb dX8_skin_33 rfl (lv_at hl 2 rfl) ?_
    refine lv_bipush (v := 64) hx hb dX8_skin_34 (by decide) ?_
    refine lv_icmp_ge (tgt := 60) hx hb dX8_skin_36 (by decide) (fun c_36 => ?_) (fun c_36 => ?_)
    · have hF := hF.1 c_36
      refine lv_aload_n hx hb dX8_skin_60 rfl (lv_at hl 0 rfl) ?_
      refine lv_dup hx hb dX8_skin_61 rfl ?_
      refine va_get (D := D) (ci := 8) (v := .int (M 19 0)) (C := RX8) (T := TX8) (N := 28) hx hb hts (fun _ h9 => List.mem_cons_of_mem _ (List.mem_append_right _ (h9))) hown hK hP 0 rfl rfl 19 (by decide) (hts (.fieldLink RX8 178 "MarbleBenchModel" "skins" "I") (List.mem_of_getElem? (i := 1) rfl)) (fun _ h9 => h9) rfl dX8_skin_62 ?_
      refine lv_iconst (v := 1) hx hb dX8_skin_65 (by decide) ?_
      refine lv_iadd hx hb dX8_skin_66 ?_
      refine lv_topi (fun v67 ev67 => ?_)
      have hF := hF v67 ev67
      refine va_put (D := D) (ci := 8) (v := .int v67) (ty := .int) (C := RX8) (T := TX8) (N := 28) hx hb hts (fun _ h9 => List.mem_cons_of_mem _ (List.mem_append_right _ (h9))) tyX8 tyX8_ok nmX8 hown hK hP hD hS 0 rfl rfl 19 (by decide) (hts (.fieldLink RX8 178 "MarbleBenchModel" "skins" "I") (List.mem_of_getElem? (i := 1) rfl)) (fun _ h9 => h9) rfl (by decide +kernel) rfl rfl (Nat.le_of_ble_eq_true rfl) dX8_skin_67 (fun H locs hP hD hS => ?_)
      obtain ⟨M67, eM67⟩ : ∃ y : mb_m, y = mb_u M 19 (mb_c v67) := ⟨_, rfl⟩
      have hF := hF M67 eM67
      have hP : va_P D vwCl (gw8 Y o a (mb_u M 19 (mb_c v67))) H := hP
      have hD : va_D A (gw8 Y o a (mb_u M 19 (mb_c v67))) := hD
      rw [← eM67] at hP hD
      refine lv_aload_n hx hb dX8_skin_70 rfl (lv_at hl 0 rfl) ?_
      refine va_get (D := D) (ci := 8) (v := .int (M67 19 0)) (C := RX8) (T := TX8) (N := 28) hx hb hts (fun _ h9 => List.mem_cons_of_mem _ (List.mem_append_right _ (h9))) hown hK hP 0 rfl rfl 19 (by decide) (hts (.fieldLink RX8 178 "MarbleBenchModel" "skins" "I") (List.mem_of_getElem? (i := 1) rfl)) (fun _ h9 => h9) rfl dX8_skin_71 ?_
      refine lv_iconst (v := 1) hx hb dX8_skin_74 (by decide) ?_
      refine lv_isub hx hb dX8_skin_75 ?_
      exact mb_ri (S := mb_m) (mc := 0) (ms := 0) (wf := fun u => gw8 Y o a u) C rfl (u := M67) hF hP hD hS dX8_skin_76 (Nat.le_of_ble_eq_true rfl) (Nat.le_of_ble_eq_true rfl)
    · have hF := hF.2 c_36
      refine lv_aload_n hx hb dX8_skin_39 rfl (lv_at hl 0 rfl) ?_
      refine va_get (D := D) (ci := 8) (v := .ref (a 20)) (C := RX8) (T := TX8) (N := 28) hx hb hts (fun _ h9 => List.mem_cons_of_mem _ (List.mem_append_right _ (h9))) hown hK hP 0 rfl rfl 20 (by decide) (hts (.fieldLink RX8 50 "MarbleBenchModel" "thick" "[I") (List.mem_of_getElem? (i := 2) rfl)) (fun _ h9 => h9) rfl dX8_skin_40 ?_
      refine lv_bipush (v := 64) hx hb dX8_skin_43 (by decide) ?_
      refine lv_aload_n hx hb dX8_skin_45 rfl (lv_at hl 0 rfl) ?_
      refine va_get (D := D) (ci := 8) (v := .int (M 19 0)) (C := RX8) (T := TX8) (N := 28) hx hb hts (fun _ h9 => List.mem_cons_of_mem _ (List.mem_append_right _ (h9))) hown hK hP 0 rfl rfl 19 (by decide) (hts (.fieldLink RX8 178 "MarbleBenchModel" "skins" "I") (List.mem_of_getElem? (i := 1) rfl)) (fun _ h9 => h9) rfl dX8_skin_46 ?_
      refine lv_imul hx hb dX8_skin_49 ?_
      refine lv_iload_n hx hb dX8_skin_50 rfl (lv_at hl 2 rfl) ?_
      refine lv_iadd hx hb dX8_skin_51 ?_
      refine lv_iload_n hx hb dX8_skin_52 rfl (lv_at hl 1 rfl) ?_
      obtain ⟨hi53, hF⟩ := hF
      refine va_iast hx hb hK hP hD hS 14 0 rfl rfl hi53 dX8_skin_53 (fun H locs hP hD hS => ?_)
      obtain ⟨M53, eM53⟩ : ∃ y : mb_m, y = mb_u M 20 (upd (M 20) (((64 : Int32) * (M 19 0)) + x2).toNatClampNeg x1) := ⟨_, rfl⟩
      have hF := hF M53 eM53
      have hP : va_P D vwCl (gw8 Y o a (mb_u M 20 (upd (M 20) (((64 : Int32) * (M 19 0)) + x2).toNatClampNeg x1))) H := hP
      have hD : va_D A (gw8 Y o a (mb_u M 20 (upd (M 20) (((64 : Int32) * (M 19 0)) + x2).toNatClampNeg x1))) := hD
      rw [← eM53] at hP hD
      obtain ⟨v54, ev54⟩ : ∃ y : Int32, y = x2 + (1 : Int32) := ⟨_, rfl⟩
      have hF := hF v54 ev54
      refine lv_iinc (v := v54) (lv' := [(2, .int v54), (0, .ref o), (1, .int x1)]) hx hb dX8_skin_54 hl (k := 2) rfl (by rw [ev54]; rfl) (by decide) rfl (fun ls hl => ?_)
      refine lv_goto (tgt := 33) hx hb dX8_skin_57 (by decide) ?_
      exact ih M53 x1 v54 _ _ _ hF hP hD hS (lv_sub hl [1, 2, 0] rfl)
noncomputable def PX8_skin_22 (N : Nat) (K : Int32 → mb_m → Prop) (M : mb_m) (x1 y0 y1 : Int32) : Prop := PX8_goes N M y1 y0 (1 : Int32) (fun r23 M23 => (¬ r23 = 0 → PX8_skin_33 N K N M23 x1 (0 : Int32)) ∧ (r23 = 0 → K (0 : Int32) M23))
set_option maxHeartbeats 4000000 in
set_option maxRecDepth 100000 in
theorem wX8_skin_22 {p : Program} {l : Launch} {e : Env} {s : State} {m : MethodId} {below : List Frame} {meth : Method} {c : Code} {args : Array Value} {D : va_G} {Y : Nat → ClassId} {A : Nat → Prop} {o : Nat} {a : Nat → Nat} {N : Nat} {K : Int32 → mb_m → Prop} (C : mb_Cx p s m meth c args cX8_skin 3 (some .int) wsX8_skin RX8 D Y A) : ∀ (M : mb_m) (x1 y0 y1 : Int32) (H : Heap) (locs : List Loc) (ls : Array Slot), PX8_skin_22 N K  M x1 y0 y1 → va_P D vwCl (gw8 Y o a M) H → va_D A (gw8 Y o a M) → va_S A s.heap H locs → lv_has ls 3 [(0, .ref o), (1, .int x1)] → W p l e ({ frames := 1, cells := 0, slots := 0, locals := 23 } : Room) s m args below meth c H locs 0 0 (MQ below (va_Qi K (fun u t => mb_T D A (gw8 Y o a u) t) A) args s 0 0 A) (F0 m 22 ls [.int y0, .int y1, .ref o]) := by
  obtain ⟨hx, hb, hr, hml, hts, hown, hlocks, hA, hG⟩ := id C
  have hK := hG.1
  intro M x1 y0 y1 H locs ls hF hP hD hS hl
  refine lv_iconst (v := 1) hx hb dX8_skin_22 (by decide) ?_
  refine mb_cW hD hS hA (va_runV (As := [.int y1, .int y0, .int (1 : Int32)]) (rest := []) ⟨hx, hb, hml, hown, hts⟩ (cnX8_goes l D Y N o a M _ y1 y0 (1 : Int32) _ hF) (cwV 3 hts gX8_skin_X8_goes rfl rfl rfl (by decide +kernel) ⟨Nat.le_of_ble_eq_true rfl, Nat.le_of_ble_eq_true rfl⟩) (mb_preV hG hP hD 0 rfl rfl) rfl rfl hl.1 rfl (lv_room (Nat.le_of_ble_eq_true rfl)) dX8_skin_23 ⟨Nat.le_of_ble_eq_true rfl, Nat.le_of_ble_eq_true rfl⟩) (fun r23 M23 H locs hF hP hD hS => ?_)
  refine lv_if_ne (tgt := 31) hx hb dX8_skin_26 (by decide) (fun c_26 => ?_) (fun c_26 => ?_)
  · have hF := hF.1 c_26
    refine lv_iconst (v := 0) hx hb dX8_skin_31 (by decide) ?_
    refine lv_istore_n (lv' := [(2, .int (0 : Int32)), (0, .ref o), (1, .int x1)]) hx hb dX8_skin_32 rfl hl (by decide) rfl (fun ls hl => ?_)
    exact wX8_skin_33 C N M23 x1 (0 : Int32) _ _ _ hF hP hD hS (lv_sub hl [1, 2, 0] rfl)
  · have hF := hF.2 c_26
    refine lv_iconst (v := 0) hx hb dX8_skin_29 (by decide) ?_
    exact mb_ri (S := mb_m) (mc := 0) (ms := 0) (wf := fun u => gw8 Y o a u) C rfl (u := M23) hF hP hD hS dX8_skin_30 (Nat.le_of_ble_eq_true rfl) (Nat.le_of_ble_eq_true rfl)
noncomputable def PX8_skin (N : Nat) (M : mb_m) (x1 : Int32) (K : Int32 → mb_m → Prop) : Prop := PX8_in N x1 (8 : Int32) (30 : Int32) (fun r6 _ => ((3 : Int32) ≤ (M 19 0) → PX8_skin_22 N K M x1 (0 : Int32) r6) ∧ (¬ (3 : Int32) ≤ (M 19 0) → PX8_skin_22 N K M x1 (1 : Int32) r6))
set_option maxHeartbeats 4000000 in
set_option maxRecDepth 100000 in
theorem cnX8_skin (l : Launch) (D : va_G) (Y : Nat → ClassId) (N : Nat) (o : Nat) (a : Nat → Nat) (M : mb_m) (sz : Nat) (x1 : Int32) (K : Int32 → mb_m → Prop) (hF : PX8_skin N M x1 K) : Met l yX8_skin wsX8_skin ({ frames := 1, cells := 0, slots := 0, locals := 23 } : Room) (va_Pc [.ref o, .int x1] (mb_B D Y (gw8 Y o a M) sz)) (va_Qi K (fun u t => mb_T D (va_A (gw8 Y o a M) sz) (gw8 Y o a u) t) (va_A (gw8 Y o a M) sz)) 0 0 (va_A (gw8 Y o a M) sz) := by
  refine mb_begin (cc := cX8_skin) (maxL := 3) (ret := (some .int)) (by decide +kernel) rfl (Nat.le_of_ble_eq_true rfl) ?_
  intro p e s m below meth c ls C hsz hnm hP hD hl
  generalize hAe : va_A (gw8 Y o a M) sz = A at C hD ⊢
  have C : mb_Cx p s m meth c ([.ref o, .int x1] : List Value).toArray cX8_skin 3 (some .int) wsX8_skin RX8 D Y A := C
  obtain ⟨hx, hb, hr, hml, hts, hown, hlocks, hA, hG⟩ := id C
  have hK := hG.1
  have hS : va_S A s.heap s.heap [] := va_S.rf
  have hl : lv_has ls 3 [(0, .ref o), (1, .int x1)] := hl
  refine lv_aload_n hx hb dX8_skin_0 rfl (lv_at hl 0 rfl) ?_
  refine lv_iload_n hx hb dX8_skin_1 rfl (lv_at hl 1 rfl) ?_
  refine lv_bipush (v := 8) hx hb dX8_skin_2 (by decide) ?_
  refine lv_bipush (v := 30) hx hb dX8_skin_4 (by decide) ?_
  refine mb_cE hP hS hA (va_runS (As := [.int x1, .int (8 : Int32), .int (30 : Int32)]) (rest := [.ref o]) ⟨hx, hb, hml, hown, hts⟩ (cnX8_in l D Y N _ x1 (8 : Int32) (30 : Int32) _ hF) (va_cwS 3 hts gX8_skin_X8_in rfl rfl rfl (by decide +kernel) ⟨Nat.le_of_ble_eq_true rfl, Nat.le_of_ble_eq_true rfl⟩) (mb_preS (A := A) hG mb_P0 mb_D0) rfl rfl hl.1 rfl (lv_room (Nat.le_of_ble_eq_true rfl)) dX8_skin_6 ⟨Nat.le_of_ble_eq_true rfl, Nat.le_of_ble_eq_true rfl⟩) (fun r6 H locs hF hP hS => ?_)
  refine lv_aload_n hx hb dX8_skin_9 rfl (lv_at hl 0 rfl) ?_
  refine va_get (D := D) (ci := 8) (v := .int (M 19 0)) (C := RX8) (T := TX8) (N := 28) hx hb hts (fun _ h9 => List.mem_cons_of_mem _ (List.mem_append_right _ (h9))) hown hK hP 0 rfl rfl 19 (by decide) (hts (.fieldLink RX8 178 "MarbleBenchModel" "skins" "I") (List.mem_of_getElem? (i := 1) rfl)) (fun _ h9 => h9) rfl dX8_skin_10 ?_
  refine lv_iconst (v := 3) hx hb dX8_skin_13 (by decide) ?_
  refine lv_icmp_ge (tgt := 21) hx hb dX8_skin_14 (by decide) (fun c_14 => ?_) (fun c_14 => ?_)
  · have hF := hF.1 c_14
    refine lv_iconst (v := 0) hx hb dX8_skin_21 (by decide) ?_
    exact wX8_skin_22 C M x1 (0 : Int32) r6 _ _ _ hF hP hD hS (lv_sub hl [0, 1] rfl)
  · have hF := hF.2 c_14
    refine lv_iconst (v := 1) hx hb dX8_skin_17 (by decide) ?_
    refine lv_goto (tgt := 22) hx hb dX8_skin_18 (by decide) ?_
    exact wX8_skin_22 C M x1 (1 : Int32) r6 _ _ _ hF hP hD hS (lv_sub hl [0, 1] rfl)
end
section
noncomputable def PX8_least_88 (N : Nat) (K : Int32 → mb_m → Prop) (b7 : mb_m → Int32 → Int32 → Int32 → Int32 → Int32 → Int32 → Int32 → Prop) (M : mb_m) (x1 x2 x3 x4 x5 x7 y0 : Int32) : Prop := ∀ v90 : Int32, v90 = x7 + (1 : Int32) → (b7 M x1 x2 x3 x4 x5 y0 v90)
set_option maxHeartbeats 4000000 in
set_option maxRecDepth 100000 in
theorem wX8_least_88 {p : Program} {l : Launch} {e : Env} {s : State} {m : MethodId} {below : List Frame} {meth : Method} {c : Code} {args : Array Value} {D : va_G} {Y : Nat → ClassId} {A : Nat → Prop} {o : Nat} {a : Nat → Nat} {N : Nat} {K : Int32 → mb_m → Prop} {b7 : mb_m → Int32 → Int32 → Int32 → Int32 → Int32 → Int32 → Int32 → Prop} (C : mb_Cx p s m meth c args cX8_least 9 (some .int) wsX8_least RX8 D Y A) (hb7 : ∀ (M : mb_m) (x1 x2 x3 x4 x5 x6 x7 : Int32) (H : Heap) (locs : List Loc) (ls : Array Slot), b7 M x1 x2 x3 x4 x5 x6 x7 → va_P D vwCl (gw8 Y o a M) H → va_D A (gw8 Y o a M) → va_S A s.heap H locs → lv_has ls 9 [(0, .ref o), (1, .int x1), (2, .int x2), (3, .int x3), (4, .int x4), (5, .int x5), (6, .int x6), (7, .int x7)] → W p l e ({ frames := 1, cells := 0, slots := 0, locals := 22 } : Room) s m args below meth c H locs 0 0 (MQ below (va_Qi K (fun u t => mb_T D A (gw8 Y o a u) t) A) args s 0 0 A) (F0 m 7 ls [])) : ∀ (M : mb_m) (x1 x2 x3 x4 x5 x7 y0 : Int32) (H : Heap) (locs : List Loc) (ls : Array Slot), PX8_least_88 N K b7 M x1 x2 x3 x4 x5 x7 y0 → va_P D vwCl (gw8 Y o a M) H → va_D A (gw8 Y o a M) → va_S A s.heap H locs → lv_has ls 9 [(0, .ref o), (1, .int x1), (2, .int x2), (3, .int x3), (4, .int x4), (5, .int x5), (7, .int x7)] → W p l e ({ frames := 1, cells := 0, slots := 0, locals := 22 } : Room) s m args below meth c H locs 0 0 (MQ below (va_Qi K (fun u t => mb_T D A (gw8 Y o a u) t) A) args s 0 0 A) (F0 m 88 ls [.int y0]) := by
  obtain ⟨hx, hb, hr, hml, hts, hown, hlocks, hA, hG⟩ := id C
  have hK := hG.1
  intro M x1 x2 x3 x4 x5 x7 y0 H locs ls hF hP hD hS hl
  refine lv_istore (lv' := [(6, .int y0), (0, .ref o), (1, .int x1), (2, .int x2), (3, .int x3), (4, .int x4), (5, .int x5), (7, .int x7)]) hx hb dX8_least_88 hl (by decide) rfl (fun ls hl => ?_)
  obtain ⟨v90, ev90⟩ : ∃ y : Int32, y = x7 + (1 : Int32) := ⟨_, rfl⟩
  have hF := hF v90 ev90
  refine lv_iinc (v := v90) (lv' := [(7, .int v90), (6, .int y0), (0, .ref o), (1, .int x1), (2, .int x2), (3, .int x3), (4, .int x4), (5, .int x5)]) hx hb dX8_least_90 hl (k := 7) rfl (by rw [ev90]; rfl) (by decide) rfl (fun ls hl => ?_)
  refine lv_goto (tgt := 7) hx hb dX8_least_93 (by decide) ?_
  exact hb7 M x1 x2 x3 x4 x5 y0 v90 _ _ _ hF hP hD hS (lv_sub hl [2, 3, 4, 5, 6, 7, 1, 0] rfl)
noncomputable def PX8_least_86 (N : Nat) (K : Int32 → mb_m → Prop) (b7 : mb_m → Int32 → Int32 → Int32 → Int32 → Int32 → Int32 → Int32 → Prop) (M : mb_m) (x1 x2 x3 x4 x5 x6 x7 : Int32) : Prop := PX8_least_88 N K b7 M x1 x2 x3 x4 x5 x7 x6
set_option maxHeartbeats 4000000 in
set_option maxRecDepth 100000 in
theorem wX8_least_86 {p : Program} {l : Launch} {e : Env} {s : State} {m : MethodId} {below : List Frame} {meth : Method} {c : Code} {args : Array Value} {D : va_G} {Y : Nat → ClassId} {A : Nat → Prop} {o : Nat} {a : Nat → Nat} {N : Nat} {K : Int32 → mb_m → Prop} {b7 : mb_m → Int32 → Int32 → Int32 → Int32 → Int32 → Int32 → Int32 → Prop} (C : mb_Cx p s m meth c args cX8_least 9 (some .int) wsX8_least RX8 D Y A) (hb7 : ∀ (M : mb_m) (x1 x2 x3 x4 x5 x6 x7 : Int32) (H : Heap) (locs : List Loc) (ls : Array Slot), b7 M x1 x2 x3 x4 x5 x6 x7 → va_P D vwCl (gw8 Y o a M) H → va_D A (gw8 Y o a M) → va_S A s.heap H locs → lv_has ls 9 [(0, .ref o), (1, .int x1), (2, .int x2), (3, .int x3), (4, .int x4), (5, .int x5), (6, .int x6), (7, .int x7)] → W p l e ({ frames := 1, cells := 0, slots := 0, locals := 22 } : Room) s m args below meth c H locs 0 0 (MQ below (va_Qi K (fun u t => mb_T D A (gw8 Y o a u) t) A) args s 0 0 A) (F0 m 7 ls [])) : ∀ (M : mb_m) (x1 x2 x3 x4 x5 x6 x7 : Int32) (H : Heap) (locs : List Loc) (ls : Array Slot), PX8_least_86 N K b7 M x1 x2 x3 x4 x5 x6 x7 → va_P D vwCl (gw8 Y o a M) H → va_D A (gw8 Y o a M) → va_S A s.heap H locs → lv_has ls 9 [(0, .ref o), (1, .int x1), (2, .int x2), (3, .int x3), (4, .int x4), (5, .int x5), (6, .int x6), (7, .int x7)] → W p l e ({ frames := 1, cells := 0, slots := 0, locals := 22 } : Room) s m args below meth c H locs 0 0 (MQ below (va_Qi K (fun u t => mb_T D A (gw8 Y o a u) t) A) args s 0 0 A) (F0 m 86 ls []) := by
  obtain ⟨hx, hb, hr, hml, hts, hown, hlocks, hA, hG⟩ := id C
  have hK := hG.1
  intro M x1 x2 x3 x4 x5 x6 x7 H locs ls hF hP hD hS hl
  refine lv_iload hx hb dX8_least_86 (lv_at hl 6 rfl) ?_
  exact wX8_least_88 C hb7 M x1 x2 x3 x4 x5 x7 x6 _ _ _ hF hP hD hS (lv_sub hl [0, 1, 2, 3, 4, 5, 7] rfl)
noncomputable def PX8_least_47 (N : Nat) (K : Int32 → mb_m → Prop) (b7 : mb_m → Int32 → Int32 → Int32 → Int32 → Int32 → Int32 → Int32 → Prop) (M : mb_m) (x1 x2 x3 x4 x5 x6 x7 y0 : Int32) : Prop := (y0 = 0 → PX8_least_86 N K b7 M x1 x2 x3 x4 x5 x6 x7) ∧ (¬ y0 = 0 → vp_in (((64 : Int32) * x1) + x7) 192 ∧ ((x6 ≤ (M 20 (((64 : Int32) * x1) + x7).toNatClampNeg) → PX8_least_86 N K b7 M x1 x2 x3 x4 x5 x6 x7) ∧ (¬ x6 ≤ (M 20 (((64 : Int32) * x1) + x7).toNatClampNeg) → vp_in (((64 : Int32) * x1) + x7) 192 ∧ (PX8_least_88 N K b7 M x1 x2 x3 x4 x5 x7 (M 20 (((64 : Int32) * x1) + x7).toNatClampNeg)))))
set_option maxHeartbeats 4000000 in
set_option maxRecDepth 100000 in
theorem wX8_least_47 {p : Program} {l : Launch} {e : Env} {s : State} {m : MethodId} {below : List Frame} {meth : Method} {c : Code} {args : Array Value} {D : va_G} {Y : Nat → ClassId} {A : Nat → Prop} {o : Nat} {a : Nat → Nat} {N : Nat} {K : Int32 → mb_m → Prop} {b7 : mb_m → Int32 → Int32 → Int32 → Int32 → Int32 → Int32 → Int32 → Prop} (C : mb_Cx p s m meth c args cX8_least 9 (some .int) wsX8_least RX8 D Y A) (hb7 : ∀ (M : mb_m) (x1 x2 x3 x4 x5 x6 x7 : Int32) (H : Heap) (locs : List Loc) (ls : Array Slot), b7 M x1 x2 x3 x4 x5 x6 x7 → va_P D vwCl (gw8 Y o a M) H → va_D A (gw8 Y o a M) → va_S A s.heap H locs → lv_has ls 9 [(0, .ref o), (1, .int x1), (2, .int x2), (3, .int x3), (4, .int x4), (5, .int x5), (6, .int x6), (7, .int x7)] → W p l e ({ frames := 1, cells := 0, slots := 0, locals := 22 } : Room) s m args below meth c H locs 0 0 (MQ below (va_Qi K (fun u t => mb_T D A (gw8 Y o a u) t) A) args s 0 0 A) (F0 m 7 ls [])) : ∀ (M : mb_m) (x1 x2 x3 x4 x5 x6 x7 y0 : Int32) (H : Heap) (locs : List Loc) (ls : Array Slot), PX8_least_47 N K b7 M x1 x2 x3 x4 x5 x6 x7 y0 → va_P D vwCl (gw8 Y o a M) H → va_D A (gw8 Y o a M) → va_S A s.heap H locs → lv_has ls 9 [(0, .ref o), (1, .int x1), (2, .int x2), (3, .int x3), (4, .int x4), (5, .int x5), (6, .int x6), (7, .int x7)] → W p l e ({ frames := 1, cells := 0, slots := 0, locals := 22 } : Room) s m args below meth c H locs 0 0 (MQ below (va_Qi K (fun u t => mb_T D A (gw8 Y o a u) t) A) args s 0 0 A) (F0 m 47 ls [.int y0]) := by
  obtain ⟨hx, hb, hr, hml, hts, hown, hlocks, hA, hG⟩ := id C
  have hK := hG.1
  intro M x1 x2 x3 x4 x5 x6 x7 y0 H locs ls hF hP hD hS hl
  refine lv_istore (lv' := [(8, .int y0), (0, .ref o), (1, .int x1), (2, .int x2), (3, .int x3), (4, .int x4), (5, .int x5), (6, .int x6), (7, .int x7)]) hx hb dX8_least_47 hl (by decide) rfl (fun ls hl => ?_)
  refine lv_iload hx hb dX8_least_49 (lv_at hl 0 rfl) ?_
  refine lv_if_eq (tgt := 86) hx hb dX8_least_51 (by decide) (fun c_51 => ?_) (fun c_51 => ?_)
  · have hF := hF.1 c_51
    exact wX8_least_86 C hb7 M x1 x2 x3 x4 x5 x6 x7 _ _ _ hF hP hD hS (lv_sub hl [1, 2, 3, 4, 5, 6, 7, 8] rfl)
  · have hF := hF.2 c_51
    refine lv_aload_n hx hb dX8_least_54 rfl (lv_at hl 1 rfl) ?_
    refine va_get (D := D) (ci := 8) (v := .ref (a 20)) (C := RX8) (T := TX8) (N := 28) hx hb hts (fun _ h9 => List.mem_cons_of_mem _ (List.mem_append_right _ (h9))) hown hK hP 0 rfl rfl 20 (by decide) (hts (.fieldLink RX8 50 "MarbleBenchModel" "thick" "[I") (List.mem_of_getElem? (i := 1) rfl)) (fun _ h9 => h9) rfl dX8_least_55 ?_
    refine lv_bipush (v := 64) hx hb dX8_least_58 (by decide) ?_
    refine lv_iload_n hx hb dX8_least_60 rfl (lv_at hl 2 rfl) ?_
    refine lv_imul hx hb dX8_least_61 ?_
    refine lv_iload hx hb dX8_least_62 (lv_at hl 8 rfl) ?_
    refine lv_iadd hx hb dX8_least_64 ?_
    obtain ⟨hi65, hF⟩ := hF
    refine va_iald hx hb hK hP 14 0 rfl rfl hi65 dX8_least_65 ?_
    refine lv_iload hx hb dX8_least_66 (lv_at hl 7 rfl) ?_
    refine lv_icmp_ge (tgt := 86) hx hb dX8_least_68 (by decide) (fun c_68 => ?_) (fun c_68 => ?_)
    · have hF := hF.1 c_68
      exact wX8_least_86 C hb7 M x1 x2 x3 x4 x5 x6 x7 _ _ _ hF hP hD hS (lv_sub hl [1, 2, 3, 4, 5, 6, 7, 8] rfl)
    · have hF := hF.2 c_68
      refine lv_aload_n hx hb dX8_least_71 rfl (lv_at hl 1 rfl) ?_
      refine va_get (D := D) (ci := 8) (v := .ref (a 20)) (C := RX8) (T := TX8) (N := 28) hx hb hts (fun _ h9 => List.mem_cons_of_mem _ (List.mem_append_right _ (h9))) hown hK hP 0 rfl rfl 20 (by decide) (hts (.fieldLink RX8 50 "MarbleBenchModel" "thick" "[I") (List.mem_of_getElem? (i := 1) rfl)) (fun _ h9 => h9) rfl dX8_least_72 ?_
      refine lv_bipush (v := 64) hx hb dX8_least_75 (by decide) ?_
      refine lv_iload_n hx hb dX8_least_77 rfl (lv_at hl 2 rfl) ?_
      refine lv_imul hx hb dX8_least_78 ?_
      refine lv_iload hx hb dX8_least_79 (lv_at hl 8 rfl) ?_
      refine lv_iadd hx hb dX8_least_81 ?_
      obtain ⟨hi82, hF⟩ := hF
      refine va_iald hx hb hK hP 14 0 rfl rfl hi82 dX8_least_82 ?_
      refine lv_goto (tgt := 88) hx hb dX8_least_83 (by decide) ?_
      exact wX8_least_88 C hb7 M x1 x2 x3 x4 x5 x7 (M 20 (((64 : Int32) * x1) + x7).toNatClampNeg) _ _ _ hF hP hD hS (lv_sub hl [1, 2, 3, 4, 5, 6, 8] rfl)
noncomputable def PX8_least_46 (N : Nat) (K : Int32 → mb_m → Prop) (b7 : mb_m → Int32 → Int32 → Int32 → Int32 → Int32 → Int32 → Int32 → Prop) (M : mb_m) (x1 x2 x3 x4 x5 x6 x7 : Int32) : Prop := PX8_least_47 N K b7 M x1 x2 x3 x4 x5 x6 x7 (0 : Int32)
set_option maxHeartbeats 4000000 in
set_option maxRecDepth 100000 in
theorem wX8_least_46 {p : Program} {l : Launch} {e : Env} {s : State} {m : MethodId} {below : List Frame} {meth : Method} {c : Code} {args : Array Value} {D : va_G} {Y : Nat → ClassId} {A : Nat → Prop} {o : Nat} {a : Nat → Nat} {N : Nat} {K : Int32 → mb_m → Prop} {b7 : mb_m → Int32 → Int32 → Int32 → Int32 → Int32 → Int32 → Int32 → Prop} (C : mb_Cx p s m meth c args cX8_least 9 (some .int) wsX8_least RX8 D Y A) (hb7 : ∀ (M : mb_m) (x1 x2 x3 x4 x5 x6 x7 : Int32) (H : Heap) (locs : List Loc) (ls : Array Slot), b7 M x1 x2 x3 x4 x5 x6 x7 → va_P D vwCl (gw8 Y o a M) H → va_D A (gw8 Y o a M) → va_S A s.heap H locs → lv_has ls 9 [(0, .ref o), (1, .int x1), (2, .int x2), (3, .int x3), (4, .int x4), (5, .int x5), (6, .int x6), (7, .int x7)] → W p l e ({ frames := 1, cells := 0, slots := 0, locals := 22 } : Room) s m args below meth c H locs 0 0 (MQ below (va_Qi K (fun u t => mb_T D A (gw8 Y o a u) t) A) args s 0 0 A) (F0 m 7 ls [])) : ∀ (M : mb_m) (x1 x2 x3 x4 x5 x6 x7 : Int32) (H : Heap) (locs : List Loc) (ls : Array Slot), PX8_least_46 N K b7 M x1 x2 x3 x4 x5 x6 x7 → va_P D vwCl (gw8 Y o a M) H → va_D A (gw8 Y o a M) → va_S A s.heap H locs → lv_has ls 9 [(0, .ref o), (1, .int x1), (2, .int x2), (3, .int x3), (4, .int x4), (5, .int x5), (6, .int x6), (7, .int x7)] → W p l e ({ frames := 1, cells := 0, slots := 0, locals := 22 } : Room) s m args below meth c H locs 0 0 (MQ below (va_Qi K (fun u t => mb_T D A (gw8 Y o a u) t) A) args s 0 0 A) (F0 m 46 ls []) := by
  obtain ⟨hx, hb, hr, hml, hts, hown, hlocks, hA, hG⟩ := id C
  have hK := hG.1
  intro M x1 x2 x3 x4 x5 x6 x7 H locs ls hF hP hD hS hl
  refine lv_iconst (v := 0) hx hb dX8_least_46 (by decide) ?_
  exact wX8_least_47 C hb7 M x1 x2 x3 x4 x5 x6 x7 (0 : Int32) _ _ _ hF hP hD hS (lv_sub hl [0, 1, 2, 3, 4, 5, 6, 7] rfl)
noncomputable def PX8_least_7_b (N : Nat) (K : Int32 → mb_m → Prop) (b7 : mb_m → Int32 → Int32 → Int32 → Int32 → Int32 → Int32 → Int32 → Prop) (M : mb_m) (x1 x2 x3 x4 x5 x6 x7 : Int32) : Prop := ((64 : Int32) ≤ x7 → K x6 M) ∧ (¬ (64 : Int32) ≤ x7 → PX8_in N (x7 - x7 / (8 : Int32) * (8 : Int32)) x2 x3 (fun r21 _ => (r21 = 0 → PX8_least_46 N K b7 M x1 x2 x3 x4 x5 x6 x7) ∧ (¬ r21 = 0 → PX8_in N (x7 / (8 : Int32)) x4 x5 (fun r36 _ => (r36 = 0 → PX8_least_46 N K b7 M x1 x2 x3 x4 x5 x6 x7) ∧ (¬ r36 = 0 → PX8_least_47 N K b7 M x1 x2 x3 x4 x5 x6 x7 (1 : Int32))))))
noncomputable def PX8_least_7 (N : Nat) (K : Int32 → mb_m → Prop) (n : Nat) : mb_m → Int32 → Int32 → Int32 → Int32 → Int32 → Int32 → Int32 → Prop := Nat.rec (motive := fun _ => mb_m → Int32 → Int32 → Int32 → Int32 → Int32 → Int32 → Int32 → Prop) (fun _ _ _ _ _ _ _ _ => False) (fun _ b7 => PX8_least_7_b N K  b7) n
set_option maxHeartbeats 4000000 in
set_option maxRecDepth 100000 in
theorem wX8_least_7 {p : Program} {l : Launch} {e : Env} {s : State} {m : MethodId} {below : List Frame} {meth : Method} {c : Code} {args : Array Value} {D : va_G} {Y : Nat → ClassId} {A : Nat → Prop} {o : Nat} {a : Nat → Nat} {N : Nat} {K : Int32 → mb_m → Prop} (C : mb_Cx p s m meth c args cX8_least 9 (some .int) wsX8_least RX8 D Y A) : ∀ (n : Nat), (∀ (M : mb_m) (x1 x2 x3 x4 x5 x6 x7 : Int32) (H : Heap) (locs : List Loc) (ls : Array Slot), PX8_least_7 N K  n M x1 x2 x3 x4 x5 x6 x7 → va_P D vwCl (gw8 Y o a M) H → va_D A (gw8 Y o a M) → va_S A s.heap H locs → lv_has ls 9 [(0, .ref o), (1, .int x1), (2, .int x2), (3, .int x3), (4, .int x4), (5, .int x5), (6, .int x6), (7, .int x7)] → W p l e ({ frames := 1, cells := 0, slots := 0, locals := 22 } : Room) s m args below meth c H locs 0 0 (MQ below (va_Qi K (fun u t => mb_T D A (gw8 Y o a u) t) A) args s 0 0 A) (F0 m 7 ls [])) := by
  obtain ⟨hx, hb, hr, hml, hts, hown, hlocks, hA, hG⟩ := id C
  have hK := hG.1
  intro n
  induction n with
  | zero => intro M x1 x2 x3 x4 x5 x6 x7 H locs ls hF; exact (show False from hF).elim
  | succ n ih =>
    intro M x1 x2 x3 x4 x5 x6 x7 H locs ls hF hP hD hS hl
    have hF : PX8_least_7_b N K  (PX8_least_7 N K  n) M x1 x2 x3 x4 x5 x6 x7 := hF
    refine lv_iload hx hb dX8_least_7 (lv_at hl 7 rfl) ?_
    refine lv_bipush (v := 64) hx hb dX8_least_9 (by decide) ?_
    refine lv_icmp_ge (tgt := 96) hx hb dX8_least_11 (by decide) (fun c_11 => ?_) (fun c_11 => ?_)
    · have hF := hF.1 c_11
      refine lv_iload hx hb dX8_least_96 (lv_at hl 6 rfl) ?_
      exact mb_ri (S := mb_m) (mc := 0) (ms := 0) (wf := fun u => gw8 Y o a u) C rfl (u := M) hF hP hD hS dX8_least_98 (Nat.le_of_ble_eq_true rfl) (Nat.le_of_ble_eq_true rfl)
    · have hF := hF.2 c_11
      refine lv_iload hx hb dX8_least_14 (lv_at hl 7 rfl) ?_
      refine lv_bipush (v := 8) hx hb dX8_least_16 (by decide) ?_
      refine lv_irem hx hb dX8_least_18 (by decide) ?_
      refine lv_iload_n hx hb dX8_least_19 rfl (lv_at hl 2 rfl) ?_
      refine lv_iload_n hx hb dX8_least_20 rfl (lv_at hl 3 rfl) ?_
      refine mb_cE hP hS hA (va_runS (As := [.int (x7 - x7 / (8 : Int32) * (8 : Int32)), .int x2, .int x3]) (rest := []) ⟨hx, hb, hml, hown, hts⟩ (cnX8_in l D Y N _ (x7 - x7 / (8 : Int32) * (8 : Int32)) x2 x3 _ hF) (va_cwS 3 hts gX8_least_X8_in rfl rfl rfl (by decide +kernel) ⟨Nat.le_of_ble_eq_true rfl, Nat.le_of_ble_eq_true rfl⟩) (mb_preS (A := A) hG mb_P0 mb_D0) rfl rfl hl.1 rfl (lv_room (Nat.le_of_ble_eq_true rfl)) dX8_least_21 ⟨Nat.le_of_ble_eq_true rfl, Nat.le_of_ble_eq_true rfl⟩) (fun r21 H locs hF hP hS => ?_)
      refine lv_if_eq (tgt := 46) hx hb dX8_least_24 (by decide) (fun c_24 => ?_) (fun c_24 => ?_)
      · have hF := hF.1 c_24
        exact wX8_least_46 C ih M x1 x2 x3 x4 x5 x6 x7 _ _ _ hF hP hD hS (lv_sub hl [0, 1, 2, 3, 4, 5, 6, 7] rfl)
      · have hF := hF.2 c_24
        refine lv_iload hx hb dX8_least_27 (lv_at hl 7 rfl) ?_
        refine lv_bipush (v := 8) hx hb dX8_least_29 (by decide) ?_
        refine lv_idiv hx hb dX8_least_31 (by decide) ?_
        refine lv_iload hx hb dX8_least_32 (lv_at hl 4 rfl) ?_
        refine lv_iload hx hb dX8_least_34 (lv_at hl 5 rfl) ?_
        refine mb_cE hP hS hA (va_runS (As := [.int (x7 / (8 : Int32)), .int x4, .int x5]) (rest := []) ⟨hx, hb, hml, hown, hts⟩ (cnX8_in l D Y N _ (x7 / (8 : Int32)) x4 x5 _ hF) (va_cwS 3 hts gX8_least_X8_in rfl rfl rfl (by decide +kernel) ⟨Nat.le_of_ble_eq_true rfl, Nat.le_of_ble_eq_true rfl⟩) (mb_preS (A := A) hG mb_P0 mb_D0) rfl rfl hl.1 rfl (lv_room (Nat.le_of_ble_eq_true rfl)) dX8_least_36 ⟨Nat.le_of_ble_eq_true rfl, Nat.le_of_ble_eq_true rfl⟩) (fun r36 H locs hF hP hS => ?_)
        refine lv_if_eq (tgt := 46) hx hb dX8_least_39 (by decide) (fun c_39 => ?_) (fun c_39 => ?_)
        · have hF := hF.1 c_39
          exact wX8_least_46 C ih M x1 x2 x3 x4 x5 x6 x7 _ _ _ hF hP hD hS (lv_sub hl [0, 1, 2, 3, 4, 5, 6, 7] rfl)
        · have hF := hF.2 c_39
          refine lv_iconst (v := 1) hx hb dX8_least_42 (by decide) ?_
          refine lv_goto (tgt := 47) hx hb dX8_least_43 (by decide) ?_
          exact wX8_least_47 C ih M x1 x2 x3 x4 x5 x6 x7 (1 : Int32) _ _ _ hF hP hD hS (lv_sub hl [0, 1, 2, 3, 4, 5, 6, 7] rfl)
noncomputable def PX8_least (N : Nat) (M : mb_m) (x1 x2 x3 x4 x5 : Int32) (K : Int32 → mb_m → Prop) : Prop := PX8_least_7 N K N M x1 x2 x3 x4 x5 (99 : Int32) (0 : Int32)
set_option maxHeartbeats 4000000 in
set_option maxRecDepth 100000 in
theorem cnX8_least (l : Launch) (D : va_G) (Y : Nat → ClassId) (N : Nat) (o : Nat) (a : Nat → Nat) (M : mb_m) (sz : Nat) (x1 x2 x3 x4 x5 : Int32) (K : Int32 → mb_m → Prop) (hF : PX8_least N M x1 x2 x3 x4 x5 K) : Met l yX8_least wsX8_least ({ frames := 1, cells := 0, slots := 0, locals := 22 } : Room) (va_Pc [.ref o, .int x1, .int x2, .int x3, .int x4, .int x5] (mb_B D Y (gw8 Y o a M) sz)) (va_Qi K (fun u t => mb_T D (va_A (gw8 Y o a M) sz) (gw8 Y o a u) t) (va_A (gw8 Y o a M) sz)) 0 0 (va_A (gw8 Y o a M) sz) := by
  refine mb_begin (cc := cX8_least) (maxL := 9) (ret := (some .int)) (by decide +kernel) rfl (Nat.le_of_ble_eq_true rfl) ?_
  intro p e s m below meth c ls C hsz hnm hP hD hl
  generalize hAe : va_A (gw8 Y o a M) sz = A at C hD ⊢
  have C : mb_Cx p s m meth c ([.ref o, .int x1, .int x2, .int x3, .int x4, .int x5] : List Value).toArray cX8_least 9 (some .int) wsX8_least RX8 D Y A := C
  obtain ⟨hx, hb, hr, hml, hts, hown, hlocks, hA, hG⟩ := id C
  have hK := hG.1
  have hS : va_S A s.heap s.heap [] := va_S.rf
  have hl : lv_has ls 9 [(0, .ref o), (1, .int x1), (2, .int x2), (3, .int x3), (4, .int x4), (5, .int x5)] := hl
  refine lv_bipush (v := 99) hx hb dX8_least_0 (by decide) ?_
  refine lv_istore (lv' := [(6, .int (99 : Int32)), (0, .ref o), (1, .int x1), (2, .int x2), (3, .int x3), (4, .int x4), (5, .int x5)]) hx hb dX8_least_2 hl (by decide) rfl (fun ls hl => ?_)
  refine lv_iconst (v := 0) hx hb dX8_least_4 (by decide) ?_
  refine lv_istore (lv' := [(7, .int (0 : Int32)), (6, .int (99 : Int32)), (0, .ref o), (1, .int x1), (2, .int x2), (3, .int x3), (4, .int x4), (5, .int x5)]) hx hb dX8_least_5 hl (by decide) rfl (fun ls hl => ?_)
  exact wX8_least_7 C N M x1 x2 x3 x4 x5 (99 : Int32) (0 : Int32) _ _ _ hF hP hD hS (lv_sub hl [2, 3, 4, 5, 6, 7, 1, 0] rfl)
end
section
noncomputable def PX8_pare_165 (N : Nat) (K : Int32 → mb_m → Prop) (b111 : mb_m → Int32 → Int32 → Int32 → Int32 → Int32 → Int32 → Int32 → Prop) (M : mb_m) (x1 x2 x3 x4 x5 x6 x9 y0 y1 y2 : Int32) : Prop := ∀ v166 : Int32, v166 = (y1 - y0) → (vp_in y2 192 ∧ (∀ M166 : mb_m, M166 = mb_u M 20 (upd (M 20) y2.toNatClampNeg v166) → (∀ v167 : Int32, v167 = x9 + (1 : Int32) → (b111 M166 x1 x2 x3 x4 x5 x6 v167))))
set_option maxHeartbeats 4000000 in
set_option maxRecDepth 100000 in
theorem wX8_pare_165 {p : Program} {l : Launch} {e : Env} {s : State} {m : MethodId} {below : List Frame} {meth : Method} {c : Code} {args : Array Value} {D : va_G} {Y : Nat → ClassId} {A : Nat → Prop} {o : Nat} {a : Nat → Nat} {N : Nat} {K : Int32 → mb_m → Prop} {b111 : mb_m → Int32 → Int32 → Int32 → Int32 → Int32 → Int32 → Int32 → Prop} (C : mb_Cx p s m meth c args cX8_pare 10 (some .int) wsX8_pare RX8 D Y A) (hb111 : ∀ (M : mb_m) (x1 x2 x3 x4 x5 x6 x9 : Int32) (H : Heap) (locs : List Loc) (ls : Array Slot), b111 M x1 x2 x3 x4 x5 x6 x9 → va_P D vwCl (gw8 Y o a M) H → va_D A (gw8 Y o a M) → va_S A s.heap H locs → lv_has ls 10 [(0, .ref o), (1, .int x1), (2, .int x2), (3, .int x3), (4, .int x4), (5, .int x5), (6, .int x6), (9, .int x9)] → W p l e ({ frames := 2, cells := 0, slots := 0, locals := 50 } : Room) s m args below meth c H locs 0 0 (MQ below (va_Qi K (fun u t => mb_T D A (gw8 Y o a u) t) A) args s 0 0 A) (F0 m 111 ls [])) : ∀ (M : mb_m) (x1 x2 x3 x4 x5 x6 x9 y0 y1 y2 : Int32) (H : Heap) (locs : List Loc) (ls : Array Slot), PX8_pare_165 N K b111 M x1 x2 x3 x4 x5 x6 x9 y0 y1 y2 → va_P D vwCl (gw8 Y o a M) H → va_D A (gw8 Y o a M) → va_S A s.heap H locs → lv_has ls 10 [(0, .ref o), (1, .int x1), (2, .int x2), (3, .int x3), (4, .int x4), (5, .int x5), (6, .int x6), (9, .int x9)] → W p l e ({ frames := 2, cells := 0, slots := 0, locals := 50 } : Room) s m args below meth c H locs 0 0 (MQ below (va_Qi K (fun u t => mb_T D A (gw8 Y o a u) t) A) args s 0 0 A) (F0 m 165 ls [.int y0, .int y1, .int y2, .ref (a 20)]) := by
  obtain ⟨hx, hb, hr, hml, hts, hown, hlocks, hA, hG⟩ := id C
  have hK := hG.1
  intro M x1 x2 x3 x4 x5 x6 x9 y0 y1 y2 H locs ls hF hP hD hS hl
  refine lv_isub hx hb dX8_pare_165 ?_
  refine lv_topi (fun v166 ev166 => ?_)
  have hF := hF v166 ev166
  obtain ⟨hi166, hF⟩ := hF
  refine va_iast hx hb hK hP hD hS 14 0 rfl rfl hi166 dX8_pare_166 (fun H locs hP hD hS => ?_)
  obtain ⟨M166, eM166⟩ : ∃ y : mb_m, y = mb_u M 20 (upd (M 20) y2.toNatClampNeg v166) := ⟨_, rfl⟩
  have hF := hF M166 eM166
  have hP : va_P D vwCl (gw8 Y o a (mb_u M 20 (upd (M 20) y2.toNatClampNeg v166))) H := hP
  have hD : va_D A (gw8 Y o a (mb_u M 20 (upd (M 20) y2.toNatClampNeg v166))) := hD
  rw [← eM166] at hP hD
  obtain ⟨v167, ev167⟩ : ∃ y : Int32, y = x9 + (1 : Int32) := ⟨_, rfl⟩
  have hF := hF v167 ev167
  refine lv_iinc (v := v167) (lv' := [(9, .int v167), (0, .ref o), (1, .int x1), (2, .int x2), (3, .int x3), (4, .int x4), (5, .int x5), (6, .int x6)]) hx hb dX8_pare_167 hl (k := 7) rfl (by rw [ev167]; rfl) (by decide) rfl (fun ls hl => ?_)
  refine lv_goto (tgt := 111) hx hb dX8_pare_170 (by decide) ?_
  exact hb111 M166 x1 x2 x3 x4 x5 x6 v167 _ _ _ hF hP hD hS (lv_sub hl [1, 2, 3, 4, 5, 6, 7, 0] rfl)
noncomputable def PX8_pare_164 (N : Nat) (K : Int32 → mb_m → Prop) (b111 : mb_m → Int32 → Int32 → Int32 → Int32 → Int32 → Int32 → Int32 → Prop) (M : mb_m) (x1 x2 x3 x4 x5 x6 x9 y0 y1 : Int32) : Prop := PX8_pare_165 N K b111 M x1 x2 x3 x4 x5 x6 x9 (0 : Int32) y0 y1
set_option maxHeartbeats 4000000 in
set_option maxRecDepth 100000 in
theorem wX8_pare_164 {p : Program} {l : Launch} {e : Env} {s : State} {m : MethodId} {below : List Frame} {meth : Method} {c : Code} {args : Array Value} {D : va_G} {Y : Nat → ClassId} {A : Nat → Prop} {o : Nat} {a : Nat → Nat} {N : Nat} {K : Int32 → mb_m → Prop} {b111 : mb_m → Int32 → Int32 → Int32 → Int32 → Int32 → Int32 → Int32 → Prop} (C : mb_Cx p s m meth c args cX8_pare 10 (some .int) wsX8_pare RX8 D Y A) (hb111 : ∀ (M : mb_m) (x1 x2 x3 x4 x5 x6 x9 : Int32) (H : Heap) (locs : List Loc) (ls : Array Slot), b111 M x1 x2 x3 x4 x5 x6 x9 → va_P D vwCl (gw8 Y o a M) H → va_D A (gw8 Y o a M) → va_S A s.heap H locs → lv_has ls 10 [(0, .ref o), (1, .int x1), (2, .int x2), (3, .int x3), (4, .int x4), (5, .int x5), (6, .int x6), (9, .int x9)] → W p l e ({ frames := 2, cells := 0, slots := 0, locals := 50 } : Room) s m args below meth c H locs 0 0 (MQ below (va_Qi K (fun u t => mb_T D A (gw8 Y o a u) t) A) args s 0 0 A) (F0 m 111 ls [])) : ∀ (M : mb_m) (x1 x2 x3 x4 x5 x6 x9 y0 y1 : Int32) (H : Heap) (locs : List Loc) (ls : Array Slot), PX8_pare_164 N K b111 M x1 x2 x3 x4 x5 x6 x9 y0 y1 → va_P D vwCl (gw8 Y o a M) H → va_D A (gw8 Y o a M) → va_S A s.heap H locs → lv_has ls 10 [(0, .ref o), (1, .int x1), (2, .int x2), (3, .int x3), (4, .int x4), (5, .int x5), (6, .int x6), (9, .int x9)] → W p l e ({ frames := 2, cells := 0, slots := 0, locals := 50 } : Room) s m args below meth c H locs 0 0 (MQ below (va_Qi K (fun u t => mb_T D A (gw8 Y o a u) t) A) args s 0 0 A) (F0 m 164 ls [.int y0, .int y1, .ref (a 20)]) := by
  obtain ⟨hx, hb, hr, hml, hts, hown, hlocks, hA, hG⟩ := id C
  have hK := hG.1
  intro M x1 x2 x3 x4 x5 x6 x9 y0 y1 H locs ls hF hP hD hS hl
  refine lv_iconst (v := 0) hx hb dX8_pare_164 (by decide) ?_
  exact wX8_pare_165 C hb111 M x1 x2 x3 x4 x5 x6 x9 (0 : Int32) y0 y1 _ _ _ hF hP hD hS (lv_sub hl [0, 1, 2, 3, 4, 5, 6, 7] rfl)
noncomputable def PX8_pare_111_b (N : Nat) (K : Int32 → mb_m → Prop) (b111 : mb_m → Int32 → Int32 → Int32 → Int32 → Int32 → Int32 → Int32 → Prop) (M : mb_m) (x1 x2 x3 x4 x5 x6 x9 : Int32) : Prop := ((64 : Int32) ≤ x9 → PX8_least N M x1 x2 x3 x4 x5 (fun r181 M181 => K r181 M181)) ∧ (¬ (64 : Int32) ≤ x9 → vp_in (((64 : Int32) * x1) + x9) 192 ∧ (PX8_in N (x9 - x9 / (8 : Int32) * (8 : Int32)) x2 x3 (fun r138 _ => (r138 = 0 → PX8_pare_164 N K b111 M x1 x2 x3 x4 x5 x6 x9 (M 20 (((64 : Int32) * x1) + x9).toNatClampNeg) (((64 : Int32) * x1) + x9)) ∧ (¬ r138 = 0 → PX8_in N (x9 / (8 : Int32)) x4 x5 (fun r153 _ => (r153 = 0 → PX8_pare_164 N K b111 M x1 x2 x3 x4 x5 x6 x9 (M 20 (((64 : Int32) * x1) + x9).toNatClampNeg) (((64 : Int32) * x1) + x9)) ∧ (¬ r153 = 0 → PX8_pare_165 N K b111 M x1 x2 x3 x4 x5 x6 x9 x6 (M 20 (((64 : Int32) * x1) + x9).toNatClampNeg) (((64 : Int32) * x1) + x9)))))))
noncomputable def PX8_pare_111 (N : Nat) (K : Int32 → mb_m → Prop) (n : Nat) : mb_m → Int32 → Int32 → Int32 → Int32 → Int32 → Int32 → Int32 → Prop := Nat.rec (motive := fun _ => mb_m → Int32 → Int32 → Int32 → Int32 → Int32 → Int32 → Int32 → Prop) (fun _ _ _ _ _ _ _ _ => False) (fun _ b111 => PX8_pare_111_b N K  b111) n
set_option maxHeartbeats 4000000 in
set_option maxRecDepth 100000 in
theorem wX8_pare_111 {p : Program} {l : Launch} {e : Env} {s : State} {m : MethodId} {below : List Frame} {meth : Method} {c : Code} {args : Array Value} {D : va_G} {Y : Nat → ClassId} {A : Nat → Prop} {o : Nat} {a : Nat → Nat} {N : Nat} {K : Int32 → mb_m → Prop} (C : mb_Cx p s m meth c args cX8_pare 10 (some .int) wsX8_pare RX8 D Y A) : ∀ (n : Nat), (∀ (M : mb_m) (x1 x2 x3 x4 x5 x6 x9 : Int32) (H : Heap) (locs : List Loc) (ls : Array Slot), PX8_pare_111 N K  n M x1 x2 x3 x4 x5 x6 x9 → va_P D vwCl (gw8 Y o a M) H → va_D A (gw8 Y o a M) → va_S A s.heap H locs → lv_has ls 10 [(0, .ref o), (1, .int x1), (2, .int x2), (3, .int x3), (4, .int x4), (5, .int x5), (6, .int x6), (9, .int x9)] → W p l e ({ frames := 2, cells := 0, slots := 0, locals := 50 } : Room) s m args below meth c H locs 0 0 (MQ below (va_Qi K (fun u t => mb_T D A (gw8 Y o a u) t) A) args s 0 0 A) (F0 m 111 ls [])) := by
  obtain ⟨hx, hb, hr, hml, hts, hown, hlocks, hA, hG⟩ := id C
  have hK := hG.1
  intro n
  induction n with
  | zero => intro M x1 x2 x3 x4 x5 x6 x9 H locs ls hF; exact (show False from hF).elim
  | succ n ih =>
    intro M x1 x2 x3 x4 x5 x6 x9 H locs ls hF hP hD hS hl
    have hF : PX8_pare_111_b N K  (PX8_pare_111 N K  n) M x1 x2 x3 x4 x5 x6 x9 := hF
    refine lv_iload hx hb dX8_pare_111 (lv_at hl 7 rfl) ?_
    refine lv_bipush (v := 64) hx hb dX8_pare_113 (by decide) ?_
    refine lv_icmp_ge (tgt := 173) hx hb dX8_pare_115 (by decide) (fun c_115 => ?_) (fun c_115 => ?_)
    · have hF := hF.1 c_115
      refine lv_aload_n hx hb dX8_pare_173 rfl (lv_at hl 0 rfl) ?_
      refine lv_iload_n hx hb dX8_pare_174 rfl (lv_at hl 1 rfl) ?_
      refine lv_iload_n hx hb dX8_pare_175 rfl (lv_at hl 2 rfl) ?_
      refine lv_iload_n hx hb dX8_pare_176 rfl (lv_at hl 3 rfl) ?_
      refine lv_iload hx hb dX8_pare_177 (lv_at hl 4 rfl) ?_
      refine lv_iload hx hb dX8_pare_179 (lv_at hl 5 rfl) ?_
      refine mb_cW hD hS hA (va_runV (As := [.int x1, .int x2, .int x3, .int x4, .int x5]) (rest := []) ⟨hx, hb, hml, hown, hts⟩ (cnX8_least l D Y N o a M _ x1 x2 x3 x4 x5 _ hF) (cwV 5 hts gX8_pare_X8_least rfl rfl rfl (by decide +kernel) ⟨Nat.le_of_ble_eq_true rfl, Nat.le_of_ble_eq_true rfl⟩) (mb_preV hG hP hD 0 rfl rfl) rfl rfl hl.1 rfl (lv_room (Nat.le_of_ble_eq_true rfl)) dX8_pare_181 ⟨Nat.le_of_ble_eq_true rfl, Nat.le_of_ble_eq_true rfl⟩) (fun r181 M181 H locs hF hP hD hS => ?_)
      exact mb_ri (S := mb_m) (mc := 0) (ms := 0) (wf := fun u => gw8 Y o a u) C rfl (u := M181) hF hP hD hS dX8_pare_184 (Nat.le_of_ble_eq_true rfl) (Nat.le_of_ble_eq_true rfl)
    · have hF := hF.2 c_115
      refine lv_aload_n hx hb dX8_pare_118 rfl (lv_at hl 0 rfl) ?_
      refine va_get (D := D) (ci := 8) (v := .ref (a 20)) (C := RX8) (T := TX8) (N := 28) hx hb hts (fun _ h9 => List.mem_cons_of_mem _ (List.mem_append_right _ (h9))) hown hK hP 0 rfl rfl 20 (by decide) (hts (.fieldLink RX8 50 "MarbleBenchModel" "thick" "[I") (List.mem_of_getElem? (i := 1) rfl)) (fun _ h9 => h9) rfl dX8_pare_119 ?_
      refine lv_bipush (v := 64) hx hb dX8_pare_122 (by decide) ?_
      refine lv_iload_n hx hb dX8_pare_124 rfl (lv_at hl 1 rfl) ?_
      refine lv_imul hx hb dX8_pare_125 ?_
      refine lv_iload hx hb dX8_pare_126 (lv_at hl 7 rfl) ?_
      refine lv_iadd hx hb dX8_pare_128 ?_
      refine lv_dup2_11 hx hb dX8_pare_129 rfl rfl ?_
      obtain ⟨hi130, hF⟩ := hF
      refine va_iald hx hb hK hP 14 0 rfl rfl hi130 dX8_pare_130 ?_
      refine lv_iload hx hb dX8_pare_131 (lv_at hl 7 rfl) ?_
      refine lv_bipush (v := 8) hx hb dX8_pare_133 (by decide) ?_
      refine lv_irem hx hb dX8_pare_135 (by decide) ?_
      refine lv_iload_n hx hb dX8_pare_136 rfl (lv_at hl 2 rfl) ?_
      refine lv_iload_n hx hb dX8_pare_137 rfl (lv_at hl 3 rfl) ?_
      refine mb_cE hP hS hA (va_runS (As := [.int (x9 - x9 / (8 : Int32) * (8 : Int32)), .int x2, .int x3]) (rest := [.int (M 20 (((64 : Int32) * x1) + x9).toNatClampNeg), .int (((64 : Int32) * x1) + x9), .ref (a 20)]) ⟨hx, hb, hml, hown, hts⟩ (cnX8_in l D Y N _ (x9 - x9 / (8 : Int32) * (8 : Int32)) x2 x3 _ hF) (va_cwS 3 hts gX8_pare_X8_in rfl rfl rfl (by decide +kernel) ⟨Nat.le_of_ble_eq_true rfl, Nat.le_of_ble_eq_true rfl⟩) (mb_preS (A := A) hG mb_P0 mb_D0) rfl rfl hl.1 rfl (lv_room (Nat.le_of_ble_eq_true rfl)) dX8_pare_138 ⟨Nat.le_of_ble_eq_true rfl, Nat.le_of_ble_eq_true rfl⟩) (fun r138 H locs hF hP hS => ?_)
      refine lv_if_eq (tgt := 164) hx hb dX8_pare_141 (by decide) (fun c_141 => ?_) (fun c_141 => ?_)
      · have hF := hF.1 c_141
        exact wX8_pare_164 C ih M x1 x2 x3 x4 x5 x6 x9 (M 20 (((64 : Int32) * x1) + x9).toNatClampNeg) (((64 : Int32) * x1) + x9) _ _ _ hF hP hD hS (lv_sub hl [0, 1, 2, 3, 4, 5, 6, 7] rfl)
      · have hF := hF.2 c_141
        refine lv_iload hx hb dX8_pare_144 (lv_at hl 7 rfl) ?_
        refine lv_bipush (v := 8) hx hb dX8_pare_146 (by decide) ?_
        refine lv_idiv hx hb dX8_pare_148 (by decide) ?_
        refine lv_iload hx hb dX8_pare_149 (lv_at hl 4 rfl) ?_
        refine lv_iload hx hb dX8_pare_151 (lv_at hl 5 rfl) ?_
        refine mb_cE hP hS hA (va_runS (As := [.int (x9 / (8 : Int32)), .int x4, .int x5]) (rest := [.int (M 20 (((64 : Int32) * x1) + x9).toNatClampNeg), .int (((64 : Int32) * x1) + x9), .ref (a 20)]) ⟨hx, hb, hml, hown, hts⟩ (cnX8_in l D Y N _ (x9 / (8 : Int32)) x4 x5 _ hF) (va_cwS 3 hts gX8_pare_X8_in rfl rfl rfl (by decide +kernel) ⟨Nat.le_of_ble_eq_true rfl, Nat.le_of_ble_eq_true rfl⟩) (mb_preS (A := A) hG mb_P0 mb_D0) rfl rfl hl.1 rfl (lv_room (Nat.le_of_ble_eq_true rfl)) dX8_pare_153 ⟨Nat.le_of_ble_eq_true rfl, Nat.le_of_ble_eq_true rfl⟩) (fun r153 H locs hF hP hS => ?_)
        refine lv_if_eq (tgt := 164) hx hb dX8_pare_156 (by decide) (fun c_156 => ?_) (fun c_156 => ?_)
        · have hF := hF.1 c_156
          exact wX8_pare_164 C ih M x1 x2 x3 x4 x5 x6 x9 (M 20 (((64 : Int32) * x1) + x9).toNatClampNeg) (((64 : Int32) * x1) + x9) _ _ _ hF hP hD hS (lv_sub hl [0, 1, 2, 3, 4, 5, 6, 7] rfl)
        · have hF := hF.2 c_156
          refine lv_iload hx hb dX8_pare_159 (lv_at hl 6 rfl) ?_
          refine lv_goto (tgt := 165) hx hb dX8_pare_161 (by decide) ?_
          exact wX8_pare_165 C ih M x1 x2 x3 x4 x5 x6 x9 x6 (M 20 (((64 : Int32) * x1) + x9).toNatClampNeg) (((64 : Int32) * x1) + x9) _ _ _ hF hP hD hS (lv_sub hl [0, 1, 2, 3, 4, 5, 6, 7] rfl)
noncomputable def PX8_pare_100 (N : Nat) (K : Int32 → mb_m → Prop) (M : mb_m) (x1 x2 x3 x4 x5 x6 y0 y1 y2 : Int32) : Prop := PX8_goes N M y2 y1 y0 (fun r100 M100 => (¬ r100 = 0 → PX8_pare_111 N K N M100 x1 x2 x3 x4 x5 x6 (0 : Int32)) ∧ (r100 = 0 → K (0 : Int32) M100))
set_option maxHeartbeats 4000000 in
set_option maxRecDepth 100000 in
theorem wX8_pare_100 {p : Program} {l : Launch} {e : Env} {s : State} {m : MethodId} {below : List Frame} {meth : Method} {c : Code} {args : Array Value} {D : va_G} {Y : Nat → ClassId} {A : Nat → Prop} {o : Nat} {a : Nat → Nat} {N : Nat} {K : Int32 → mb_m → Prop} (C : mb_Cx p s m meth c args cX8_pare 10 (some .int) wsX8_pare RX8 D Y A) : ∀ (M : mb_m) (x1 x2 x3 x4 x5 x6 y0 y1 y2 : Int32) (H : Heap) (locs : List Loc) (ls : Array Slot), PX8_pare_100 N K  M x1 x2 x3 x4 x5 x6 y0 y1 y2 → va_P D vwCl (gw8 Y o a M) H → va_D A (gw8 Y o a M) → va_S A s.heap H locs → lv_has ls 10 [(0, .ref o), (1, .int x1), (2, .int x2), (3, .int x3), (4, .int x4), (5, .int x5), (6, .int x6)] → W p l e ({ frames := 2, cells := 0, slots := 0, locals := 50 } : Room) s m args below meth c H locs 0 0 (MQ below (va_Qi K (fun u t => mb_T D A (gw8 Y o a u) t) A) args s 0 0 A) (F0 m 100 ls [.int y0, .int y1, .int y2, .ref o]) := by
  obtain ⟨hx, hb, hr, hml, hts, hown, hlocks, hA, hG⟩ := id C
  have hK := hG.1
  intro M x1 x2 x3 x4 x5 x6 y0 y1 y2 H locs ls hF hP hD hS hl
  refine mb_cW hD hS hA (va_runV (As := [.int y2, .int y1, .int y0]) (rest := []) ⟨hx, hb, hml, hown, hts⟩ (cnX8_goes l D Y N o a M _ y2 y1 y0 _ hF) (cwV 3 hts gX8_pare_X8_goes rfl rfl rfl (by decide +kernel) ⟨Nat.le_of_ble_eq_true rfl, Nat.le_of_ble_eq_true rfl⟩) (mb_preV hG hP hD 0 rfl rfl) rfl rfl hl.1 rfl (lv_room (Nat.le_of_ble_eq_true rfl)) dX8_pare_100 ⟨Nat.le_of_ble_eq_true rfl, Nat.le_of_ble_eq_true rfl⟩) (fun r100 M100 H locs hF hP hD hS => ?_)
  refine lv_if_ne (tgt := 108) hx hb dX8_pare_103 (by decide) (fun c_103 => ?_) (fun c_103 => ?_)
  · have hF := hF.1 c_103
    refine lv_iconst (v := 0) hx hb dX8_pare_108 (by decide) ?_
    refine lv_istore (lv' := [(9, .int (0 : Int32)), (0, .ref o), (1, .int x1), (2, .int x2), (3, .int x3), (4, .int x4), (5, .int x5), (6, .int x6)]) hx hb dX8_pare_109 hl (by decide) rfl (fun ls hl => ?_)
    exact wX8_pare_111 C N M100 x1 x2 x3 x4 x5 x6 (0 : Int32) _ _ _ hF hP hD hS (lv_sub hl [1, 2, 3, 4, 5, 6, 7, 0] rfl)
  · have hF := hF.2 c_103
    refine lv_iconst (v := 0) hx hb dX8_pare_106 (by decide) ?_
    exact mb_ri (S := mb_m) (mc := 0) (ms := 0) (wf := fun u => gw8 Y o a u) C rfl (u := M100) hF hP hD hS dX8_pare_107 (Nat.le_of_ble_eq_true rfl) (Nat.le_of_ble_eq_true rfl)
noncomputable def PX8_pare_99 (N : Nat) (K : Int32 → mb_m → Prop) (M : mb_m) (x1 x2 x3 x4 x5 x6 y0 y1 : Int32) : Prop := PX8_pare_100 N K M x1 x2 x3 x4 x5 x6 (0 : Int32) y0 y1
set_option maxHeartbeats 4000000 in
set_option maxRecDepth 100000 in
theorem wX8_pare_99 {p : Program} {l : Launch} {e : Env} {s : State} {m : MethodId} {below : List Frame} {meth : Method} {c : Code} {args : Array Value} {D : va_G} {Y : Nat → ClassId} {A : Nat → Prop} {o : Nat} {a : Nat → Nat} {N : Nat} {K : Int32 → mb_m → Prop} (C : mb_Cx p s m meth c args cX8_pare 10 (some .int) wsX8_pare RX8 D Y A) : ∀ (M : mb_m) (x1 x2 x3 x4 x5 x6 y0 y1 : Int32) (H : Heap) (locs : List Loc) (ls : Array Slot), PX8_pare_99 N K  M x1 x2 x3 x4 x5 x6 y0 y1 → va_P D vwCl (gw8 Y o a M) H → va_D A (gw8 Y o a M) → va_S A s.heap H locs → lv_has ls 10 [(0, .ref o), (1, .int x1), (2, .int x2), (3, .int x3), (4, .int x4), (5, .int x5), (6, .int x6)] → W p l e ({ frames := 2, cells := 0, slots := 0, locals := 50 } : Room) s m args below meth c H locs 0 0 (MQ below (va_Qi K (fun u t => mb_T D A (gw8 Y o a u) t) A) args s 0 0 A) (F0 m 99 ls [.int y0, .int y1, .ref o]) := by
  obtain ⟨hx, hb, hr, hml, hts, hown, hlocks, hA, hG⟩ := id C
  have hK := hG.1
  intro M x1 x2 x3 x4 x5 x6 y0 y1 H locs ls hF hP hD hS hl
  refine lv_iconst (v := 0) hx hb dX8_pare_99 (by decide) ?_
  exact wX8_pare_100 C M x1 x2 x3 x4 x5 x6 (0 : Int32) y0 y1 _ _ _ hF hP hD hS (lv_sub hl [0, 1, 2, 3, 4, 5, 6] rfl)
noncomputable def PX8_pare_50 (N : Nat) (K : Int32 → mb_m → Prop) (M : mb_m) (x1 x2 x3 x4 x5 x6 y0 : Int32) : Prop := PX8_in N x6 (1 : Int32) (27 : Int32) (fun r57 _ => (y0 = 0 → PX8_pare_99 N K M x1 x2 x3 x4 x5 x6 r57 y0) ∧ (¬ y0 = 0 → (r57 = 0 → PX8_pare_99 N K M x1 x2 x3 x4 x5 x6 r57 y0) ∧ (¬ r57 = 0 → PX8_least N M x1 x2 x3 x4 x5 (fun r85 M85 => ((r85 - x6) < (3 : Int32) → PX8_pare_99 N K M85 x1 x2 x3 x4 x5 x6 r57 y0) ∧ (¬ (r85 - x6) < (3 : Int32) → PX8_pare_100 N K M85 x1 x2 x3 x4 x5 x6 (1 : Int32) r57 y0)))))
set_option maxHeartbeats 4000000 in
set_option maxRecDepth 100000 in
theorem wX8_pare_50 {p : Program} {l : Launch} {e : Env} {s : State} {m : MethodId} {below : List Frame} {meth : Method} {c : Code} {args : Array Value} {D : va_G} {Y : Nat → ClassId} {A : Nat → Prop} {o : Nat} {a : Nat → Nat} {N : Nat} {K : Int32 → mb_m → Prop} (C : mb_Cx p s m meth c args cX8_pare 10 (some .int) wsX8_pare RX8 D Y A) : ∀ (M : mb_m) (x1 x2 x3 x4 x5 x6 y0 : Int32) (H : Heap) (locs : List Loc) (ls : Array Slot), PX8_pare_50 N K  M x1 x2 x3 x4 x5 x6 y0 → va_P D vwCl (gw8 Y o a M) H → va_D A (gw8 Y o a M) → va_S A s.heap H locs → lv_has ls 10 [(0, .ref o), (1, .int x1), (2, .int x2), (3, .int x3), (4, .int x4), (5, .int x5), (6, .int x6)] → W p l e ({ frames := 2, cells := 0, slots := 0, locals := 50 } : Room) s m args below meth c H locs 0 0 (MQ below (va_Qi K (fun u t => mb_T D A (gw8 Y o a u) t) A) args s 0 0 A) (F0 m 50 ls [.int y0]) := by
  obtain ⟨hx, hb, hr, hml, hts, hown, hlocks, hA, hG⟩ := id C
  have hK := hG.1
  intro M x1 x2 x3 x4 x5 x6 y0 H locs ls hF hP hD hS hl
  refine lv_istore (lv' := [(7, .int y0), (0, .ref o), (1, .int x1), (2, .int x2), (3, .int x3), (4, .int x4), (5, .int x5), (6, .int x6)]) hx hb dX8_pare_50 hl (by decide) rfl (fun ls hl => ?_)
  refine lv_iload hx hb dX8_pare_52 (lv_at hl 7 rfl) ?_
  refine lv_iconst (v := 1) hx hb dX8_pare_54 (by decide) ?_
  refine lv_bipush (v := 27) hx hb dX8_pare_55 (by decide) ?_
  refine mb_cE hP hS hA (va_runS (As := [.int x6, .int (1 : Int32), .int (27 : Int32)]) (rest := []) ⟨hx, hb, hml, hown, hts⟩ (cnX8_in l D Y N _ x6 (1 : Int32) (27 : Int32) _ hF) (va_cwS 3 hts gX8_pare_X8_in rfl rfl rfl (by decide +kernel) ⟨Nat.le_of_ble_eq_true rfl, Nat.le_of_ble_eq_true rfl⟩) (mb_preS (A := A) hG mb_P0 mb_D0) rfl rfl hl.1 rfl (lv_room (Nat.le_of_ble_eq_true rfl)) dX8_pare_57 ⟨Nat.le_of_ble_eq_true rfl, Nat.le_of_ble_eq_true rfl⟩) (fun r57 H locs hF hP hS => ?_)
  refine lv_istore (lv' := [(8, .int r57), (7, .int y0), (0, .ref o), (1, .int x1), (2, .int x2), (3, .int x3), (4, .int x4), (5, .int x5), (6, .int x6)]) hx hb dX8_pare_60 hl (by decide) rfl (fun ls hl => ?_)
  refine lv_aload_n hx hb dX8_pare_62 rfl (lv_at hl 2 rfl) ?_
  refine lv_iload hx hb dX8_pare_63 (lv_at hl 1 rfl) ?_
  refine lv_iload hx hb dX8_pare_65 (lv_at hl 0 rfl) ?_
  refine lv_iload hx hb dX8_pare_67 (lv_at hl 1 rfl) ?_
  refine lv_if_eq (tgt := 99) hx hb dX8_pare_69 (by decide) (fun c_69 => ?_) (fun c_69 => ?_)
  · have hF := hF.1 c_69
    exact wX8_pare_99 C M x1 x2 x3 x4 x5 x6 r57 y0 _ _ _ hF hP hD hS (lv_sub hl [2, 3, 4, 5, 6, 7, 8] rfl)
  · have hF := hF.2 c_69
    refine lv_iload hx hb dX8_pare_72 (lv_at hl 0 rfl) ?_
    refine lv_if_eq (tgt := 99) hx hb dX8_pare_74 (by decide) (fun c_74 => ?_) (fun c_74 => ?_)
    · have hF := hF.1 c_74
      exact wX8_pare_99 C M x1 x2 x3 x4 x5 x6 r57 y0 _ _ _ hF hP hD hS (lv_sub hl [2, 3, 4, 5, 6, 7, 8] rfl)
    · have hF := hF.2 c_74
      refine lv_aload_n hx hb dX8_pare_77 rfl (lv_at hl 2 rfl) ?_
      refine lv_iload_n hx hb dX8_pare_78 rfl (lv_at hl 3 rfl) ?_
      refine lv_iload_n hx hb dX8_pare_79 rfl (lv_at hl 4 rfl) ?_
      refine lv_iload_n hx hb dX8_pare_80 rfl (lv_at hl 5 rfl) ?_
      refine lv_iload hx hb dX8_pare_81 (lv_at hl 6 rfl) ?_
      refine lv_iload hx hb dX8_pare_83 (lv_at hl 7 rfl) ?_
      refine mb_cW hD hS hA (va_runV (As := [.int x1, .int x2, .int x3, .int x4, .int x5]) (rest := [.int r57, .int y0, .ref o]) ⟨hx, hb, hml, hown, hts⟩ (cnX8_least l D Y N o a M _ x1 x2 x3 x4 x5 _ hF) (cwV 5 hts gX8_pare_X8_least rfl rfl rfl (by decide +kernel) ⟨Nat.le_of_ble_eq_true rfl, Nat.le_of_ble_eq_true rfl⟩) (mb_preV hG hP hD 0 rfl rfl) rfl rfl hl.1 rfl (lv_room (Nat.le_of_ble_eq_true rfl)) dX8_pare_85 ⟨Nat.le_of_ble_eq_true rfl, Nat.le_of_ble_eq_true rfl⟩) (fun r85 M85 H locs hF hP hD hS => ?_)
      refine lv_iload hx hb dX8_pare_88 (lv_at hl 8 rfl) ?_
      refine lv_isub hx hb dX8_pare_90 ?_
      refine lv_iconst (v := 3) hx hb dX8_pare_91 (by decide) ?_
      refine lv_icmp_lt (tgt := 99) hx hb dX8_pare_92 (by decide) (fun c_92 => ?_) (fun c_92 => ?_)
      · have hF := hF.1 c_92
        exact wX8_pare_99 C M85 x1 x2 x3 x4 x5 x6 r57 y0 _ _ _ hF hP hD hS (lv_sub hl [2, 3, 4, 5, 6, 7, 8] rfl)
      · have hF := hF.2 c_92
        refine lv_iconst (v := 1) hx hb dX8_pare_95 (by decide) ?_
        refine lv_goto (tgt := 100) hx hb dX8_pare_96 (by decide) ?_
        exact wX8_pare_100 C M85 x1 x2 x3 x4 x5 x6 (1 : Int32) r57 y0 _ _ _ hF hP hD hS (lv_sub hl [2, 3, 4, 5, 6, 7, 8] rfl)
noncomputable def PX8_pare_49 (N : Nat) (K : Int32 → mb_m → Prop) (M : mb_m) (x1 x2 x3 x4 x5 x6 : Int32) : Prop := PX8_pare_50 N K M x1 x2 x3 x4 x5 x6 (0 : Int32)
set_option maxHeartbeats 4000000 in
set_option maxRecDepth 100000 in
theorem wX8_pare_49 {p : Program} {l : Launch} {e : Env} {s : State} {m : MethodId} {below : List Frame} {meth : Method} {c : Code} {args : Array Value} {D : va_G} {Y : Nat → ClassId} {A : Nat → Prop} {o : Nat} {a : Nat → Nat} {N : Nat} {K : Int32 → mb_m → Prop} (C : mb_Cx p s m meth c args cX8_pare 10 (some .int) wsX8_pare RX8 D Y A) : ∀ (M : mb_m) (x1 x2 x3 x4 x5 x6 : Int32) (H : Heap) (locs : List Loc) (ls : Array Slot), PX8_pare_49 N K  M x1 x2 x3 x4 x5 x6 → va_P D vwCl (gw8 Y o a M) H → va_D A (gw8 Y o a M) → va_S A s.heap H locs → lv_has ls 10 [(0, .ref o), (1, .int x1), (2, .int x2), (3, .int x3), (4, .int x4), (5, .int x5), (6, .int x6)] → W p l e ({ frames := 2, cells := 0, slots := 0, locals := 50 } : Room) s m args below meth c H locs 0 0 (MQ below (va_Qi K (fun u t => mb_T D A (gw8 Y o a u) t) A) args s 0 0 A) (F0 m 49 ls []) := by
  obtain ⟨hx, hb, hr, hml, hts, hown, hlocks, hA, hG⟩ := id C
  have hK := hG.1
  intro M x1 x2 x3 x4 x5 x6 H locs ls hF hP hD hS hl
  refine lv_iconst (v := 0) hx hb dX8_pare_49 (by decide) ?_
  exact wX8_pare_50 C M x1 x2 x3 x4 x5 x6 (0 : Int32) _ _ _ hF hP hD hS (lv_sub hl [0, 1, 2, 3, 4, 5, 6] rfl)
noncomputable def PX8_pare (N : Nat) (M : mb_m) (x1 x2 x3 x4 x5 x6 : Int32) (K : Int32 → mb_m → Prop) : Prop := PX8_isSkin N M x1 (fun r2 M2 => (r2 = 0 → PX8_pare_49 N K M2 x1 x2 x3 x4 x5 x6) ∧ (¬ r2 = 0 → PX8_isEdge N x2 (fun r9 _ => (r9 = 0 → PX8_pare_49 N K M2 x1 x2 x3 x4 x5 x6) ∧ (¬ r9 = 0 → PX8_in N x3 x2 (7 : Int32) (fun r19 _ => (r19 = 0 → PX8_pare_49 N K M2 x1 x2 x3 x4 x5 x6) ∧ (¬ r19 = 0 → PX8_isEdge N x4 (fun r27 _ => (r27 = 0 → PX8_pare_49 N K M2 x1 x2 x3 x4 x5 x6) ∧ (¬ r27 = 0 → PX8_in N x5 x4 (7 : Int32) (fun r39 _ => (r39 = 0 → PX8_pare_49 N K M2 x1 x2 x3 x4 x5 x6) ∧ (¬ r39 = 0 → PX8_pare_50 N K M2 x1 x2 x3 x4 x5 x6 (1 : Int32)))))))))))
set_option maxHeartbeats 4000000 in
set_option maxRecDepth 100000 in
theorem cnX8_pare (l : Launch) (D : va_G) (Y : Nat → ClassId) (N : Nat) (o : Nat) (a : Nat → Nat) (M : mb_m) (sz : Nat) (x1 x2 x3 x4 x5 x6 : Int32) (K : Int32 → mb_m → Prop) (hF : PX8_pare N M x1 x2 x3 x4 x5 x6 K) : Met l yX8_pare wsX8_pare ({ frames := 2, cells := 0, slots := 0, locals := 50 } : Room) (va_Pc [.ref o, .int x1, .int x2, .int x3, .int x4, .int x5, .int x6] (mb_B D Y (gw8 Y o a M) sz)) (va_Qi K (fun u t => mb_T D (va_A (gw8 Y o a M) sz) (gw8 Y o a u) t) (va_A (gw8 Y o a M) sz)) 0 0 (va_A (gw8 Y o a M) sz) := by
  refine mb_begin (cc := cX8_pare) (maxL := 10) (ret := (some .int)) (by decide +kernel) rfl (Nat.le_of_ble_eq_true rfl) ?_
  intro p e s m below meth c ls C hsz hnm hP hD hl
  generalize hAe : va_A (gw8 Y o a M) sz = A at C hD ⊢
  have C : mb_Cx p s m meth c ([.ref o, .int x1, .int x2, .int x3, .int x4, .int x5, .int x6] : List Value).toArray cX8_pare 10 (some .int) wsX8_pare RX8 D Y A := C
  obtain ⟨hx, hb, hr, hml, hts, hown, hlocks, hA, hG⟩ := id C
  have hK := hG.1
  have hS : va_S A s.heap s.heap [] := va_S.rf
  have hl : lv_has ls 10 [(0, .ref o), (1, .int x1), (2, .int x2), (3, .int x3), (4, .int x4), (5, .int x5), (6, .int x6)] := hl
  refine lv_aload_n hx hb dX8_pare_0 rfl (lv_at hl 0 rfl) ?_
  refine lv_iload_n hx hb dX8_pare_1 rfl (lv_at hl 1 rfl) ?_
  refine mb_cW hD hS hA (va_runV (As := [.int x1]) (rest := []) ⟨hx, hb, hml, hown, hts⟩ (cnX8_isSkin l D Y N o a M _ x1 _ hF) (cwV 1 hts gX8_pare_X8_isSkin rfl rfl rfl (by decide +kernel) ⟨Nat.le_of_ble_eq_true rfl, Nat.le_of_ble_eq_true rfl⟩) (mb_preV hG hP hD 0 rfl rfl) rfl rfl hl.1 rfl (lv_room (Nat.le_of_ble_eq_true rfl)) dX8_pare_2 ⟨Nat.le_of_ble_eq_true rfl, Nat.le_of_ble_eq_true rfl⟩) (fun r2 M2 H locs hF hP hD hS => ?_)
  refine lv_if_eq (tgt := 49) hx hb dX8_pare_5 (by decide) (fun c_5 => ?_) (fun c_5 => ?_)
  · have hF := hF.1 c_5
    exact wX8_pare_49 C M2 x1 x2 x3 x4 x5 x6 _ _ _ hF hP hD hS (lv_sub hl [0, 1, 2, 3, 4, 5, 6] rfl)
  · have hF := hF.2 c_5
    refine lv_iload_n hx hb dX8_pare_8 rfl (lv_at hl 2 rfl) ?_
    refine mb_cE hP hS hA (va_runS (As := [.int x2]) (rest := []) ⟨hx, hb, hml, hown, hts⟩ (cnX8_isEdge l D Y N _ x2 _ hF) (va_cwS 1 hts gX8_pare_X8_isEdge rfl rfl rfl (by decide +kernel) ⟨Nat.le_of_ble_eq_true rfl, Nat.le_of_ble_eq_true rfl⟩) (mb_preS (A := A) hG mb_P0 mb_D0) rfl rfl hl.1 rfl (lv_room (Nat.le_of_ble_eq_true rfl)) dX8_pare_9 ⟨Nat.le_of_ble_eq_true rfl, Nat.le_of_ble_eq_true rfl⟩) (fun r9 H locs hF hP hS => ?_)
    refine lv_if_eq (tgt := 49) hx hb dX8_pare_12 (by decide) (fun c_12 => ?_) (fun c_12 => ?_)
    · have hF := hF.1 c_12
      exact wX8_pare_49 C M2 x1 x2 x3 x4 x5 x6 _ _ _ hF hP hD hS (lv_sub hl [0, 1, 2, 3, 4, 5, 6] rfl)
    · have hF := hF.2 c_12
      refine lv_iload_n hx hb dX8_pare_15 rfl (lv_at hl 3 rfl) ?_
      refine lv_iload_n hx hb dX8_pare_16 rfl (lv_at hl 2 rfl) ?_
      refine lv_bipush (v := 7) hx hb dX8_pare_17 (by decide) ?_
      refine mb_cE hP hS hA (va_runS (As := [.int x3, .int x2, .int (7 : Int32)]) (rest := []) ⟨hx, hb, hml, hown, hts⟩ (cnX8_in l D Y N _ x3 x2 (7 : Int32) _ hF) (va_cwS 3 hts gX8_pare_X8_in rfl rfl rfl (by decide +kernel) ⟨Nat.le_of_ble_eq_true rfl, Nat.le_of_ble_eq_true rfl⟩) (mb_preS (A := A) hG mb_P0 mb_D0) rfl rfl hl.1 rfl (lv_room (Nat.le_of_ble_eq_true rfl)) dX8_pare_19 ⟨Nat.le_of_ble_eq_true rfl, Nat.le_of_ble_eq_true rfl⟩) (fun r19 H locs hF hP hS => ?_)
      refine lv_if_eq (tgt := 49) hx hb dX8_pare_22 (by decide) (fun c_22 => ?_) (fun c_22 => ?_)
      · have hF := hF.1 c_22
        exact wX8_pare_49 C M2 x1 x2 x3 x4 x5 x6 _ _ _ hF hP hD hS (lv_sub hl [0, 1, 2, 3, 4, 5, 6] rfl)
      · have hF := hF.2 c_22
        refine lv_iload hx hb dX8_pare_25 (lv_at hl 4 rfl) ?_
        refine mb_cE hP hS hA (va_runS (As := [.int x4]) (rest := []) ⟨hx, hb, hml, hown, hts⟩ (cnX8_isEdge l D Y N _ x4 _ hF) (va_cwS 1 hts gX8_pare_X8_isEdge rfl rfl rfl (by decide +kernel) ⟨Nat.le_of_ble_eq_true rfl, Nat.le_of_ble_eq_true rfl⟩) (mb_preS (A := A) hG mb_P0 mb_D0) rfl rfl hl.1 rfl (lv_room (Nat.le_of_ble_eq_true rfl)) dX8_pare_27 ⟨Nat.le_of_ble_eq_true rfl, Nat.le_of_ble_eq_true rfl⟩) (fun r27 H locs hF hP hS => ?_)
        refine lv_if_eq (tgt := 49) hx hb dX8_pare_30 (by decide) (fun c_30 => ?_) (fun c_30 => ?_)
        · have hF := hF.1 c_30
          exact wX8_pare_49 C M2 x1 x2 x3 x4 x5 x6 _ _ _ hF hP hD hS (lv_sub hl [0, 1, 2, 3, 4, 5, 6] rfl)
        · have hF := hF.2 c_30
          refine lv_iload hx hb dX8_pare_33 (lv_at hl 5 rfl) ?_
          refine lv_iload hx hb dX8_pare_35 (lv_at hl 4 rfl) ?_
          refine lv_bipush (v := 7) hx hb dX8_pare_37 (by decide) ?_
          refine mb_cE hP hS hA (va_runS (As := [.int x5, .int x4, .int (7 : Int32)]) (rest := []) ⟨hx, hb, hml, hown, hts⟩ (cnX8_in l D Y N _ x5 x4 (7 : Int32) _ hF) (va_cwS 3 hts gX8_pare_X8_in rfl rfl rfl (by decide +kernel) ⟨Nat.le_of_ble_eq_true rfl, Nat.le_of_ble_eq_true rfl⟩) (mb_preS (A := A) hG mb_P0 mb_D0) rfl rfl hl.1 rfl (lv_room (Nat.le_of_ble_eq_true rfl)) dX8_pare_39 ⟨Nat.le_of_ble_eq_true rfl, Nat.le_of_ble_eq_true rfl⟩) (fun r39 H locs hF hP hS => ?_)
          refine lv_if_eq (tgt := 49) hx hb dX8_pare_42 (by decide) (fun c_42 => ?_) (fun c_42 => ?_)
          · have hF := hF.1 c_42
            exact wX8_pare_49 C M2 x1 x2 x3 x4 x5 x6 _ _ _ hF hP hD hS (lv_sub hl [0, 1, 2, 3, 4, 5, 6] rfl)
          · have hF := hF.2 c_42
            refine lv_iconst (v := 1) hx hb dX8_pare_45 (by decide) ?_
            refine lv_goto (tgt := 50) hx hb dX8_pare_46 (by decide) ?_
            exact wX8_pare_50 C M2 x1 x2 x3 x4 x5 x6 (1 : Int32) _ _ _ hF hP hD hS (lv_sub hl [0, 1, 2, 3, 4, 5, 6] rfl)
end
section
noncomputable def PX8_thickAt_28 (N : Nat) (K : Int32 → mb_m → Prop) (M : mb_m) (x1 x2 x3 y0 : Int32) : Prop := PX8_goes N M y0 (1 : Int32) (1 : Int32) (fun r30 M30 => (r30 = 0 → K (0 : Int32) M30) ∧ (¬ r30 = 0 → vp_in ((((64 : Int32) * x1) + ((8 : Int32) * x3)) + x2) 192 ∧ (K (M30 20 ((((64 : Int32) * x1) + ((8 : Int32) * x3)) + x2).toNatClampNeg) M30)))
set_option maxHeartbeats 4000000 in
set_option maxRecDepth 100000 in
theorem wX8_thickAt_28 {p : Program} {l : Launch} {e : Env} {s : State} {m : MethodId} {below : List Frame} {meth : Method} {c : Code} {args : Array Value} {D : va_G} {Y : Nat → ClassId} {A : Nat → Prop} {o : Nat} {a : Nat → Nat} {N : Nat} {K : Int32 → mb_m → Prop} (C : mb_Cx p s m meth c args cX8_thickAt 4 (some .int) wsX8_thickAt RX8 D Y A) : ∀ (M : mb_m) (x1 x2 x3 y0 : Int32) (H : Heap) (locs : List Loc) (ls : Array Slot), PX8_thickAt_28 N K  M x1 x2 x3 y0 → va_P D vwCl (gw8 Y o a M) H → va_D A (gw8 Y o a M) → va_S A s.heap H locs → lv_has ls 4 [(0, .ref o), (1, .int x1), (2, .int x2), (3, .int x3)] → W p l e ({ frames := 2, cells := 0, slots := 0, locals := 43 } : Room) s m args below meth c H locs 0 0 (MQ below (va_Qi K (fun u t => mb_T D A (gw8 Y o a u) t) A) args s 0 0 A) (F0 m 28 ls [.int y0, .ref o]) := by
  obtain ⟨hx, hb, hr, hml, hts, hown, hlocks, hA, hG⟩ := id C
  have hK := hG.1
  intro M x1 x2 x3 y0 H locs ls hF hP hD hS hl
  refine lv_iconst (v := 1) hx hb dX8_thickAt_28 (by decide) ?_
  refine lv_iconst (v := 1) hx hb dX8_thickAt_29 (by decide) ?_
  refine mb_cW hD hS hA (va_runV (As := [.int y0, .int (1 : Int32), .int (1 : Int32)]) (rest := []) ⟨hx, hb, hml, hown, hts⟩ (cnX8_goes l D Y N o a M _ y0 (1 : Int32) (1 : Int32) _ hF) (cwV 3 hts gX8_thickAt_X8_goes rfl rfl rfl (by decide +kernel) ⟨Nat.le_of_ble_eq_true rfl, Nat.le_of_ble_eq_true rfl⟩) (mb_preV hG hP hD 0 rfl rfl) rfl rfl hl.1 rfl (lv_room (Nat.le_of_ble_eq_true rfl)) dX8_thickAt_30 ⟨Nat.le_of_ble_eq_true rfl, Nat.le_of_ble_eq_true rfl⟩) (fun r30 M30 H locs hF hP hD hS => ?_)
  refine lv_if_eq (tgt := 55) hx hb dX8_thickAt_33 (by decide) (fun c_33 => ?_) (fun c_33 => ?_)
  · have hF := hF.1 c_33
    refine lv_iconst (v := 0) hx hb dX8_thickAt_55 (by decide) ?_
    exact mb_ri (S := mb_m) (mc := 0) (ms := 0) (wf := fun u => gw8 Y o a u) C rfl (u := M30) hF hP hD hS dX8_thickAt_56 (Nat.le_of_ble_eq_true rfl) (Nat.le_of_ble_eq_true rfl)
  · have hF := hF.2 c_33
    refine lv_aload_n hx hb dX8_thickAt_36 rfl (lv_at hl 0 rfl) ?_
    refine va_get (D := D) (ci := 8) (v := .ref (a 20)) (C := RX8) (T := TX8) (N := 28) hx hb hts (fun _ h9 => List.mem_cons_of_mem _ (List.mem_append_right _ (h9))) hown hK hP 0 rfl rfl 20 (by decide) (hts (.fieldLink RX8 50 "MarbleBenchModel" "thick" "[I") (List.mem_of_getElem? (i := 1) rfl)) (fun _ h9 => h9) rfl dX8_thickAt_37 ?_
    refine lv_bipush (v := 64) hx hb dX8_thickAt_40 (by decide) ?_
    refine lv_iload_n hx hb dX8_thickAt_42 rfl (lv_at hl 1 rfl) ?_
    refine lv_imul hx hb dX8_thickAt_43 ?_
    refine lv_bipush (v := 8) hx hb dX8_thickAt_44 (by decide) ?_
    refine lv_iload_n hx hb dX8_thickAt_46 rfl (lv_at hl 3 rfl) ?_
    refine lv_imul hx hb dX8_thickAt_47 ?_
    refine lv_iadd hx hb dX8_thickAt_48 ?_
    refine lv_iload_n hx hb dX8_thickAt_49 rfl (lv_at hl 2 rfl) ?_
    refine lv_iadd hx hb dX8_thickAt_50 ?_
    obtain ⟨hi51, hF⟩ := hF
    refine va_iald hx hb hK hP 14 0 rfl rfl hi51 dX8_thickAt_51 ?_
    refine lv_goto (tgt := 56) hx hb dX8_thickAt_52 (by decide) ?_
    exact mb_ri (S := mb_m) (mc := 0) (ms := 0) (wf := fun u => gw8 Y o a u) C rfl (u := M30) hF hP hD hS dX8_thickAt_56 (Nat.le_of_ble_eq_true rfl) (Nat.le_of_ble_eq_true rfl)
noncomputable def PX8_thickAt_27 (N : Nat) (K : Int32 → mb_m → Prop) (M : mb_m) (x1 x2 x3 : Int32) : Prop := PX8_thickAt_28 N K M x1 x2 x3 (0 : Int32)
set_option maxHeartbeats 4000000 in
set_option maxRecDepth 100000 in
theorem wX8_thickAt_27 {p : Program} {l : Launch} {e : Env} {s : State} {m : MethodId} {below : List Frame} {meth : Method} {c : Code} {args : Array Value} {D : va_G} {Y : Nat → ClassId} {A : Nat → Prop} {o : Nat} {a : Nat → Nat} {N : Nat} {K : Int32 → mb_m → Prop} (C : mb_Cx p s m meth c args cX8_thickAt 4 (some .int) wsX8_thickAt RX8 D Y A) : ∀ (M : mb_m) (x1 x2 x3 : Int32) (H : Heap) (locs : List Loc) (ls : Array Slot), PX8_thickAt_27 N K  M x1 x2 x3 → va_P D vwCl (gw8 Y o a M) H → va_D A (gw8 Y o a M) → va_S A s.heap H locs → lv_has ls 4 [(0, .ref o), (1, .int x1), (2, .int x2), (3, .int x3)] → W p l e ({ frames := 2, cells := 0, slots := 0, locals := 43 } : Room) s m args below meth c H locs 0 0 (MQ below (va_Qi K (fun u t => mb_T D A (gw8 Y o a u) t) A) args s 0 0 A) (F0 m 27 ls [.ref o]) := by
  obtain ⟨hx, hb, hr, hml, hts, hown, hlocks, hA, hG⟩ := id C
  have hK := hG.1
  intro M x1 x2 x3 H locs ls hF hP hD hS hl
  refine lv_iconst (v := 0) hx hb dX8_thickAt_27 (by decide) ?_
  exact wX8_thickAt_28 C M x1 x2 x3 (0 : Int32) _ _ _ hF hP hD hS (lv_sub hl [0, 1, 2, 3] rfl)
noncomputable def PX8_thickAt (N : Nat) (M : mb_m) (x1 x2 x3 : Int32) (K : Int32 → mb_m → Prop) : Prop := PX8_isSkin N M x1 (fun r3 M3 => (r3 = 0 → PX8_thickAt_27 N K M3 x1 x2 x3) ∧ (¬ r3 = 0 → PX8_isEdge N x2 (fun r10 _ => (r10 = 0 → PX8_thickAt_27 N K M3 x1 x2 x3) ∧ (¬ r10 = 0 → PX8_isEdge N x3 (fun r17 _ => (r17 = 0 → PX8_thickAt_27 N K M3 x1 x2 x3) ∧ (¬ r17 = 0 → PX8_thickAt_28 N K M3 x1 x2 x3 (1 : Int32)))))))
set_option maxHeartbeats 4000000 in
set_option maxRecDepth 100000 in
theorem cnX8_thickAt (l : Launch) (D : va_G) (Y : Nat → ClassId) (N : Nat) (o : Nat) (a : Nat → Nat) (M : mb_m) (sz : Nat) (x1 x2 x3 : Int32) (K : Int32 → mb_m → Prop) (hF : PX8_thickAt N M x1 x2 x3 K) : Met l yX8_thickAt wsX8_thickAt ({ frames := 2, cells := 0, slots := 0, locals := 43 } : Room) (va_Pc [.ref o, .int x1, .int x2, .int x3] (mb_B D Y (gw8 Y o a M) sz)) (va_Qi K (fun u t => mb_T D (va_A (gw8 Y o a M) sz) (gw8 Y o a u) t) (va_A (gw8 Y o a M) sz)) 0 0 (va_A (gw8 Y o a M) sz) := by
  refine mb_begin (cc := cX8_thickAt) (maxL := 4) (ret := (some .int)) (by decide +kernel) rfl (Nat.le_of_ble_eq_true rfl) ?_
  intro p e s m below meth c ls C hsz hnm hP hD hl
  generalize hAe : va_A (gw8 Y o a M) sz = A at C hD ⊢
  have C : mb_Cx p s m meth c ([.ref o, .int x1, .int x2, .int x3] : List Value).toArray cX8_thickAt 4 (some .int) wsX8_thickAt RX8 D Y A := C
  obtain ⟨hx, hb, hr, hml, hts, hown, hlocks, hA, hG⟩ := id C
  have hK := hG.1
  have hS : va_S A s.heap s.heap [] := va_S.rf
  have hl : lv_has ls 4 [(0, .ref o), (1, .int x1), (2, .int x2), (3, .int x3)] := hl
  refine lv_aload_n hx hb dX8_thickAt_0 rfl (lv_at hl 0 rfl) ?_
  refine lv_aload_n hx hb dX8_thickAt_1 rfl (lv_at hl 0 rfl) ?_
  refine lv_iload_n hx hb dX8_thickAt_2 rfl (lv_at hl 1 rfl) ?_
  refine mb_cW hD hS hA (va_runV (As := [.int x1]) (rest := [.ref o]) ⟨hx, hb, hml, hown, hts⟩ (cnX8_isSkin l D Y N o a M _ x1 _ hF) (cwV 1 hts gX8_thickAt_X8_isSkin rfl rfl rfl (by decide +kernel) ⟨Nat.le_of_ble_eq_true rfl, Nat.le_of_ble_eq_true rfl⟩) (mb_preV hG hP hD 0 rfl rfl) rfl rfl hl.1 rfl (lv_room (Nat.le_of_ble_eq_true rfl)) dX8_thickAt_3 ⟨Nat.le_of_ble_eq_true rfl, Nat.le_of_ble_eq_true rfl⟩) (fun r3 M3 H locs hF hP hD hS => ?_)
  refine lv_if_eq (tgt := 27) hx hb dX8_thickAt_6 (by decide) (fun c_6 => ?_) (fun c_6 => ?_)
  · have hF := hF.1 c_6
    exact wX8_thickAt_27 C M3 x1 x2 x3 _ _ _ hF hP hD hS (lv_sub hl [0, 1, 2, 3] rfl)
  · have hF := hF.2 c_6
    refine lv_iload_n hx hb dX8_thickAt_9 rfl (lv_at hl 2 rfl) ?_
    refine mb_cE hP hS hA (va_runS (As := [.int x2]) (rest := [.ref o]) ⟨hx, hb, hml, hown, hts⟩ (cnX8_isEdge l D Y N _ x2 _ hF) (va_cwS 1 hts gX8_thickAt_X8_isEdge rfl rfl rfl (by decide +kernel) ⟨Nat.le_of_ble_eq_true rfl, Nat.le_of_ble_eq_true rfl⟩) (mb_preS (A := A) hG mb_P0 mb_D0) rfl rfl hl.1 rfl (lv_room (Nat.le_of_ble_eq_true rfl)) dX8_thickAt_10 ⟨Nat.le_of_ble_eq_true rfl, Nat.le_of_ble_eq_true rfl⟩) (fun r10 H locs hF hP hS => ?_)
    refine lv_if_eq (tgt := 27) hx hb dX8_thickAt_13 (by decide) (fun c_13 => ?_) (fun c_13 => ?_)
    · have hF := hF.1 c_13
      exact wX8_thickAt_27 C M3 x1 x2 x3 _ _ _ hF hP hD hS (lv_sub hl [0, 1, 2, 3] rfl)
    · have hF := hF.2 c_13
      refine lv_iload_n hx hb dX8_thickAt_16 rfl (lv_at hl 3 rfl) ?_
      refine mb_cE hP hS hA (va_runS (As := [.int x3]) (rest := [.ref o]) ⟨hx, hb, hml, hown, hts⟩ (cnX8_isEdge l D Y N _ x3 _ hF) (va_cwS 1 hts gX8_thickAt_X8_isEdge rfl rfl rfl (by decide +kernel) ⟨Nat.le_of_ble_eq_true rfl, Nat.le_of_ble_eq_true rfl⟩) (mb_preS (A := A) hG mb_P0 mb_D0) rfl rfl hl.1 rfl (lv_room (Nat.le_of_ble_eq_true rfl)) dX8_thickAt_17 ⟨Nat.le_of_ble_eq_true rfl, Nat.le_of_ble_eq_true rfl⟩) (fun r17 H locs hF hP hS => ?_)
      refine lv_if_eq (tgt := 27) hx hb dX8_thickAt_20 (by decide) (fun c_20 => ?_) (fun c_20 => ?_)
      · have hF := hF.1 c_20
        exact wX8_thickAt_27 C M3 x1 x2 x3 _ _ _ hF hP hD hS (lv_sub hl [0, 1, 2, 3] rfl)
      · have hF := hF.2 c_20
        refine lv_iconst (v := 1) hx hb dX8_thickAt_23 (by decide) ?_
        refine lv_goto (tgt := 28) hx hb dX8_thickAt_24 (by decide) ?_
        exact wX8_thickAt_28 C M3 x1 x2 x3 (1 : Int32) _ _ _ hF hP hD hS (lv_sub hl [0, 1, 2, 3] rfl)
end
section
noncomputable def PX8_tooThick_91 (N : Nat) (K : Int32 → mb_m → Prop) (b20 : mb_m → Int32 → Int32 → Int32 → Prop) (M : mb_m) (x1 x3 y0 y1 : Int32) : Prop := ∀ v92 : Int32, v92 = (y1 + y0) → (∀ v93 : Int32, v93 = x3 + (1 : Int32) → (b20 M x1 v92 v93))
set_option maxHeartbeats 4000000 in
set_option maxRecDepth 100000 in
theorem wX8_tooThick_91 {p : Program} {l : Launch} {e : Env} {s : State} {m : MethodId} {below : List Frame} {meth : Method} {c : Code} {args : Array Value} {D : va_G} {Y : Nat → ClassId} {A : Nat → Prop} {o : Nat} {a : Nat → Nat} {N : Nat} {K : Int32 → mb_m → Prop} {b20 : mb_m → Int32 → Int32 → Int32 → Prop} (C : mb_Cx p s m meth c args cX8_tooThick 5 (some .int) wsX8_tooThick RX8 D Y A) (hb20 : ∀ (M : mb_m) (x1 x2 x3 : Int32) (H : Heap) (locs : List Loc) (ls : Array Slot), b20 M x1 x2 x3 → va_P D vwCl (gw8 Y o a M) H → va_D A (gw8 Y o a M) → va_S A s.heap H locs → lv_has ls 5 [(0, .ref o), (1, .int x1), (2, .int x2), (3, .int x3)] → W p l e ({ frames := 2, cells := 0, slots := 0, locals := 43 } : Room) s m args below meth c H locs 0 0 (MQ below (va_Qi K (fun u t => mb_T D A (gw8 Y o a u) t) A) args s 0 0 A) (F0 m 20 ls [])) : ∀ (M : mb_m) (x1 x3 y0 y1 : Int32) (H : Heap) (locs : List Loc) (ls : Array Slot), PX8_tooThick_91 N K b20 M x1 x3 y0 y1 → va_P D vwCl (gw8 Y o a M) H → va_D A (gw8 Y o a M) → va_S A s.heap H locs → lv_has ls 5 [(0, .ref o), (1, .int x1), (3, .int x3)] → W p l e ({ frames := 2, cells := 0, slots := 0, locals := 43 } : Room) s m args below meth c H locs 0 0 (MQ below (va_Qi K (fun u t => mb_T D A (gw8 Y o a u) t) A) args s 0 0 A) (F0 m 91 ls [.int y0, .int y1]) := by
  obtain ⟨hx, hb, hr, hml, hts, hown, hlocks, hA, hG⟩ := id C
  have hK := hG.1
  intro M x1 x3 y0 y1 H locs ls hF hP hD hS hl
  refine lv_iadd hx hb dX8_tooThick_91 ?_
  refine lv_topi (fun v92 ev92 => ?_)
  have hF := hF v92 ev92
  refine lv_istore_n (lv' := [(2, .int v92), (0, .ref o), (1, .int x1), (3, .int x3)]) hx hb dX8_tooThick_92 rfl hl (by decide) rfl (fun ls hl => ?_)
  obtain ⟨v93, ev93⟩ : ∃ y : Int32, y = x3 + (1 : Int32) := ⟨_, rfl⟩
  have hF := hF v93 ev93
  refine lv_iinc (v := v93) (lv' := [(3, .int v93), (2, .int v92), (0, .ref o), (1, .int x1)]) hx hb dX8_tooThick_93 hl (k := 3) rfl (by rw [ev93]; rfl) (by decide) rfl (fun ls hl => ?_)
  refine lv_goto (tgt := 20) hx hb dX8_tooThick_96 (by decide) ?_
  exact hb20 M x1 v92 v93 _ _ _ hF hP hD hS (lv_sub hl [2, 3, 1, 0] rfl)
noncomputable def PX8_tooThick_83 (N : Nat) (K : Int32 → mb_m → Prop) (b20 : mb_m → Int32 → Int32 → Int32 → Prop) (M : mb_m) (x1 x3 y0 y1 y2 : Int32) : Prop := (y1 ≤ y0 → PX8_tooThick_91 N K b20 M x1 x3 (0 : Int32) y2) ∧ (¬ y1 ≤ y0 → PX8_tooThick_91 N K b20 M x1 x3 (1 : Int32) y2)
set_option maxHeartbeats 4000000 in
set_option maxRecDepth 100000 in
theorem wX8_tooThick_83 {p : Program} {l : Launch} {e : Env} {s : State} {m : MethodId} {below : List Frame} {meth : Method} {c : Code} {args : Array Value} {D : va_G} {Y : Nat → ClassId} {A : Nat → Prop} {o : Nat} {a : Nat → Nat} {N : Nat} {K : Int32 → mb_m → Prop} {b20 : mb_m → Int32 → Int32 → Int32 → Prop} (C : mb_Cx p s m meth c args cX8_tooThick 5 (some .int) wsX8_tooThick RX8 D Y A) (hb20 : ∀ (M : mb_m) (x1 x2 x3 : Int32) (H : Heap) (locs : List Loc) (ls : Array Slot), b20 M x1 x2 x3 → va_P D vwCl (gw8 Y o a M) H → va_D A (gw8 Y o a M) → va_S A s.heap H locs → lv_has ls 5 [(0, .ref o), (1, .int x1), (2, .int x2), (3, .int x3)] → W p l e ({ frames := 2, cells := 0, slots := 0, locals := 43 } : Room) s m args below meth c H locs 0 0 (MQ below (va_Qi K (fun u t => mb_T D A (gw8 Y o a u) t) A) args s 0 0 A) (F0 m 20 ls [])) : ∀ (M : mb_m) (x1 x3 y0 y1 y2 : Int32) (H : Heap) (locs : List Loc) (ls : Array Slot), PX8_tooThick_83 N K b20 M x1 x3 y0 y1 y2 → va_P D vwCl (gw8 Y o a M) H → va_D A (gw8 Y o a M) → va_S A s.heap H locs → lv_has ls 5 [(0, .ref o), (1, .int x1), (3, .int x3)] → W p l e ({ frames := 2, cells := 0, slots := 0, locals := 43 } : Room) s m args below meth c H locs 0 0 (MQ below (va_Qi K (fun u t => mb_T D A (gw8 Y o a u) t) A) args s 0 0 A) (F0 m 83 ls [.int y0, .int y1, .int y2]) := by
  obtain ⟨hx, hb, hr, hml, hts, hown, hlocks, hA, hG⟩ := id C
  have hK := hG.1
  intro M x1 x3 y0 y1 y2 H locs ls hF hP hD hS hl
  refine lv_icmp_le (tgt := 90) hx hb dX8_tooThick_83 (by decide) (fun c_83 => ?_) (fun c_83 => ?_)
  · have hF := hF.1 c_83
    refine lv_iconst (v := 0) hx hb dX8_tooThick_90 (by decide) ?_
    exact wX8_tooThick_91 C hb20 M x1 x3 (0 : Int32) y2 _ _ _ hF hP hD hS (lv_sub hl [0, 1, 2] rfl)
  · have hF := hF.2 c_83
    refine lv_iconst (v := 1) hx hb dX8_tooThick_86 (by decide) ?_
    refine lv_goto (tgt := 91) hx hb dX8_tooThick_87 (by decide) ?_
    exact wX8_tooThick_91 C hb20 M x1 x3 (1 : Int32) y2 _ _ _ hF hP hD hS (lv_sub hl [0, 1, 2] rfl)
noncomputable def PX8_tooThick_57 (N : Nat) (K : Int32 → mb_m → Prop) (b20 : mb_m → Int32 → Int32 → Int32 → Prop) (M : mb_m) (x1 x2 x3 y0 : Int32) : Prop := vp_in (((64 : Int32) * x1) + x3) 192 ∧ ((y0 = 0 → PX8_tooThick_83 N K b20 M x1 x3 (6 : Int32) (M 20 (((64 : Int32) * x1) + x3).toNatClampNeg) x2) ∧ (¬ y0 = 0 → PX8_tooThick_83 N K b20 M x1 x3 (12 : Int32) (M 20 (((64 : Int32) * x1) + x3).toNatClampNeg) x2))
set_option maxHeartbeats 4000000 in
set_option maxRecDepth 100000 in
theorem wX8_tooThick_57 {p : Program} {l : Launch} {e : Env} {s : State} {m : MethodId} {below : List Frame} {meth : Method} {c : Code} {args : Array Value} {D : va_G} {Y : Nat → ClassId} {A : Nat → Prop} {o : Nat} {a : Nat → Nat} {N : Nat} {K : Int32 → mb_m → Prop} {b20 : mb_m → Int32 → Int32 → Int32 → Prop} (C : mb_Cx p s m meth c args cX8_tooThick 5 (some .int) wsX8_tooThick RX8 D Y A) (hb20 : ∀ (M : mb_m) (x1 x2 x3 : Int32) (H : Heap) (locs : List Loc) (ls : Array Slot), b20 M x1 x2 x3 → va_P D vwCl (gw8 Y o a M) H → va_D A (gw8 Y o a M) → va_S A s.heap H locs → lv_has ls 5 [(0, .ref o), (1, .int x1), (2, .int x2), (3, .int x3)] → W p l e ({ frames := 2, cells := 0, slots := 0, locals := 43 } : Room) s m args below meth c H locs 0 0 (MQ below (va_Qi K (fun u t => mb_T D A (gw8 Y o a u) t) A) args s 0 0 A) (F0 m 20 ls [])) : ∀ (M : mb_m) (x1 x2 x3 y0 : Int32) (H : Heap) (locs : List Loc) (ls : Array Slot), PX8_tooThick_57 N K b20 M x1 x2 x3 y0 → va_P D vwCl (gw8 Y o a M) H → va_D A (gw8 Y o a M) → va_S A s.heap H locs → lv_has ls 5 [(0, .ref o), (1, .int x1), (2, .int x2), (3, .int x3)] → W p l e ({ frames := 2, cells := 0, slots := 0, locals := 43 } : Room) s m args below meth c H locs 0 0 (MQ below (va_Qi K (fun u t => mb_T D A (gw8 Y o a u) t) A) args s 0 0 A) (F0 m 57 ls [.int y0]) := by
  obtain ⟨hx, hb, hr, hml, hts, hown, hlocks, hA, hG⟩ := id C
  have hK := hG.1
  intro M x1 x2 x3 y0 H locs ls hF hP hD hS hl
  refine lv_istore (lv' := [(4, .int y0), (0, .ref o), (1, .int x1), (2, .int x2), (3, .int x3)]) hx hb dX8_tooThick_57 hl (by decide) rfl (fun ls hl => ?_)
  refine lv_iload_n hx hb dX8_tooThick_59 rfl (lv_at hl 3 rfl) ?_
  refine lv_aload_n hx hb dX8_tooThick_60 rfl (lv_at hl 1 rfl) ?_
  refine va_get (D := D) (ci := 8) (v := .ref (a 20)) (C := RX8) (T := TX8) (N := 28) hx hb hts (fun _ h9 => List.mem_cons_of_mem _ (List.mem_append_right _ (h9))) hown hK hP 0 rfl rfl 20 (by decide) (hts (.fieldLink RX8 50 "MarbleBenchModel" "thick" "[I") (List.mem_of_getElem? (i := 1) rfl)) (fun _ h9 => h9) rfl dX8_tooThick_61 ?_
  refine lv_bipush (v := 64) hx hb dX8_tooThick_64 (by decide) ?_
  refine lv_iload_n hx hb dX8_tooThick_66 rfl (lv_at hl 2 rfl) ?_
  refine lv_imul hx hb dX8_tooThick_67 ?_
  refine lv_iload_n hx hb dX8_tooThick_68 rfl (lv_at hl 4 rfl) ?_
  refine lv_iadd hx hb dX8_tooThick_69 ?_
  obtain ⟨hi70, hF⟩ := hF
  refine va_iald hx hb hK hP 14 0 rfl rfl hi70 dX8_tooThick_70 ?_
  refine lv_iload hx hb dX8_tooThick_71 (lv_at hl 0 rfl) ?_
  refine lv_if_eq (tgt := 81) hx hb dX8_tooThick_73 (by decide) (fun c_73 => ?_) (fun c_73 => ?_)
  · have hF := hF.1 c_73
    refine lv_bipush (v := 6) hx hb dX8_tooThick_81 (by decide) ?_
    exact wX8_tooThick_83 C hb20 M x1 x3 (6 : Int32) (M 20 (((64 : Int32) * x1) + x3).toNatClampNeg) x2 _ _ _ hF hP hD hS (lv_sub hl [1, 2, 4] rfl)
  · have hF := hF.2 c_73
    refine lv_bipush (v := 12) hx hb dX8_tooThick_76 (by decide) ?_
    refine lv_goto (tgt := 83) hx hb dX8_tooThick_78 (by decide) ?_
    exact wX8_tooThick_83 C hb20 M x1 x3 (12 : Int32) (M 20 (((64 : Int32) * x1) + x3).toNatClampNeg) x2 _ _ _ hF hP hD hS (lv_sub hl [1, 2, 4] rfl)
noncomputable def PX8_tooThick_56 (N : Nat) (K : Int32 → mb_m → Prop) (b20 : mb_m → Int32 → Int32 → Int32 → Prop) (M : mb_m) (x1 x2 x3 : Int32) : Prop := PX8_tooThick_57 N K b20 M x1 x2 x3 (0 : Int32)
set_option maxHeartbeats 4000000 in
set_option maxRecDepth 100000 in
theorem wX8_tooThick_56 {p : Program} {l : Launch} {e : Env} {s : State} {m : MethodId} {below : List Frame} {meth : Method} {c : Code} {args : Array Value} {D : va_G} {Y : Nat → ClassId} {A : Nat → Prop} {o : Nat} {a : Nat → Nat} {N : Nat} {K : Int32 → mb_m → Prop} {b20 : mb_m → Int32 → Int32 → Int32 → Prop} (C : mb_Cx p s m meth c args cX8_tooThick 5 (some .int) wsX8_tooThick RX8 D Y A) (hb20 : ∀ (M : mb_m) (x1 x2 x3 : Int32) (H : Heap) (locs : List Loc) (ls : Array Slot), b20 M x1 x2 x3 → va_P D vwCl (gw8 Y o a M) H → va_D A (gw8 Y o a M) → va_S A s.heap H locs → lv_has ls 5 [(0, .ref o), (1, .int x1), (2, .int x2), (3, .int x3)] → W p l e ({ frames := 2, cells := 0, slots := 0, locals := 43 } : Room) s m args below meth c H locs 0 0 (MQ below (va_Qi K (fun u t => mb_T D A (gw8 Y o a u) t) A) args s 0 0 A) (F0 m 20 ls [])) : ∀ (M : mb_m) (x1 x2 x3 : Int32) (H : Heap) (locs : List Loc) (ls : Array Slot), PX8_tooThick_56 N K b20 M x1 x2 x3 → va_P D vwCl (gw8 Y o a M) H → va_D A (gw8 Y o a M) → va_S A s.heap H locs → lv_has ls 5 [(0, .ref o), (1, .int x1), (2, .int x2), (3, .int x3)] → W p l e ({ frames := 2, cells := 0, slots := 0, locals := 43 } : Room) s m args below meth c H locs 0 0 (MQ below (va_Qi K (fun u t => mb_T D A (gw8 Y o a u) t) A) args s 0 0 A) (F0 m 56 ls []) := by
  obtain ⟨hx, hb, hr, hml, hts, hown, hlocks, hA, hG⟩ := id C
  have hK := hG.1
  intro M x1 x2 x3 H locs ls hF hP hD hS hl
  refine lv_iconst (v := 0) hx hb dX8_tooThick_56 (by decide) ?_
  exact wX8_tooThick_57 C hb20 M x1 x2 x3 (0 : Int32) _ _ _ hF hP hD hS (lv_sub hl [0, 1, 2, 3] rfl)
noncomputable def PX8_tooThick_20_b (N : Nat) (K : Int32 → mb_m → Prop) (b20 : mb_m → Int32 → Int32 → Int32 → Prop) (M : mb_m) (x1 x2 x3 : Int32) : Prop := ((64 : Int32) ≤ x3 → K x2 M) ∧ (¬ (64 : Int32) ≤ x3 → PX8_in N (x3 - x3 / (8 : Int32) * (8 : Int32)) (1 : Int32) (6 : Int32) (fun r33 _ => (r33 = 0 → PX8_tooThick_56 N K b20 M x1 x2 x3) ∧ (¬ r33 = 0 → PX8_in N (x3 / (8 : Int32)) (1 : Int32) (6 : Int32) (fun r46 _ => (r46 = 0 → PX8_tooThick_56 N K b20 M x1 x2 x3) ∧ (¬ r46 = 0 → PX8_tooThick_57 N K b20 M x1 x2 x3 (1 : Int32))))))
noncomputable def PX8_tooThick_20 (N : Nat) (K : Int32 → mb_m → Prop) (n : Nat) : mb_m → Int32 → Int32 → Int32 → Prop := Nat.rec (motive := fun _ => mb_m → Int32 → Int32 → Int32 → Prop) (fun _ _ _ _ => False) (fun _ b20 => PX8_tooThick_20_b N K  b20) n
set_option maxHeartbeats 4000000 in
set_option maxRecDepth 100000 in
theorem wX8_tooThick_20 {p : Program} {l : Launch} {e : Env} {s : State} {m : MethodId} {below : List Frame} {meth : Method} {c : Code} {args : Array Value} {D : va_G} {Y : Nat → ClassId} {A : Nat → Prop} {o : Nat} {a : Nat → Nat} {N : Nat} {K : Int32 → mb_m → Prop} (C : mb_Cx p s m meth c args cX8_tooThick 5 (some .int) wsX8_tooThick RX8 D Y A) : ∀ (n : Nat), (∀ (M : mb_m) (x1 x2 x3 : Int32) (H : Heap) (locs : List Loc) (ls : Array Slot), PX8_tooThick_20 N K  n M x1 x2 x3 → va_P D vwCl (gw8 Y o a M) H → va_D A (gw8 Y o a M) → va_S A s.heap H locs → lv_has ls 5 [(0, .ref o), (1, .int x1), (2, .int x2), (3, .int x3)] → W p l e ({ frames := 2, cells := 0, slots := 0, locals := 43 } : Room) s m args below meth c H locs 0 0 (MQ below (va_Qi K (fun u t => mb_T D A (gw8 Y o a u) t) A) args s 0 0 A) (F0 m 20 ls [])) := by
  obtain ⟨hx, hb, hr, hml, hts, hown, hlocks, hA, hG⟩ := id C
  have hK := hG.1
  intro n
  induction n with
  | zero => intro M x1 x2 x3 H locs ls hF; exact (show False from hF).elim
  | succ n ih =>
    intro M x1 x2 x3 H locs ls hF hP hD hS hl
    have hF : PX8_tooThick_20_b N K  (PX8_tooThick_20 N K  n) M x1 x2 x3 := hF
    refine lv_iload_n hx hb dX8_tooThick_20 rfl (lv_at hl 3 rfl) ?_
    refine lv_bipush (v := 64) hx hb dX8_tooThick_21 (by decide) ?_
    refine lv_icmp_ge (tgt := 99) hx hb dX8_tooThick_23 (by decide) (fun c_23 => ?_) (fun c_23 => ?_)
    · have hF := hF.1 c_23
      refine lv_iload_n hx hb dX8_tooThick_99 rfl (lv_at hl 2 rfl) ?_
      exact mb_ri (S := mb_m) (mc := 0) (ms := 0) (wf := fun u => gw8 Y o a u) C rfl (u := M) hF hP hD hS dX8_tooThick_100 (Nat.le_of_ble_eq_true rfl) (Nat.le_of_ble_eq_true rfl)
    · have hF := hF.2 c_23
      refine lv_iload_n hx hb dX8_tooThick_26 rfl (lv_at hl 3 rfl) ?_
      refine lv_bipush (v := 8) hx hb dX8_tooThick_27 (by decide) ?_
      refine lv_irem hx hb dX8_tooThick_29 (by decide) ?_
      refine lv_iconst (v := 1) hx hb dX8_tooThick_30 (by decide) ?_
      refine lv_bipush (v := 6) hx hb dX8_tooThick_31 (by decide) ?_
      refine mb_cE hP hS hA (va_runS (As := [.int (x3 - x3 / (8 : Int32) * (8 : Int32)), .int (1 : Int32), .int (6 : Int32)]) (rest := []) ⟨hx, hb, hml, hown, hts⟩ (cnX8_in l D Y N _ (x3 - x3 / (8 : Int32) * (8 : Int32)) (1 : Int32) (6 : Int32) _ hF) (va_cwS 3 hts gX8_tooThick_X8_in rfl rfl rfl (by decide +kernel) ⟨Nat.le_of_ble_eq_true rfl, Nat.le_of_ble_eq_true rfl⟩) (mb_preS (A := A) hG mb_P0 mb_D0) rfl rfl hl.1 rfl (lv_room (Nat.le_of_ble_eq_true rfl)) dX8_tooThick_33 ⟨Nat.le_of_ble_eq_true rfl, Nat.le_of_ble_eq_true rfl⟩) (fun r33 H locs hF hP hS => ?_)
      refine lv_if_eq (tgt := 56) hx hb dX8_tooThick_36 (by decide) (fun c_36 => ?_) (fun c_36 => ?_)
      · have hF := hF.1 c_36
        exact wX8_tooThick_56 C ih M x1 x2 x3 _ _ _ hF hP hD hS (lv_sub hl [0, 1, 2, 3] rfl)
      · have hF := hF.2 c_36
        refine lv_iload_n hx hb dX8_tooThick_39 rfl (lv_at hl 3 rfl) ?_
        refine lv_bipush (v := 8) hx hb dX8_tooThick_40 (by decide) ?_
        refine lv_idiv hx hb dX8_tooThick_42 (by decide) ?_
        refine lv_iconst (v := 1) hx hb dX8_tooThick_43 (by decide) ?_
        refine lv_bipush (v := 6) hx hb dX8_tooThick_44 (by decide) ?_
        refine mb_cE hP hS hA (va_runS (As := [.int (x3 / (8 : Int32)), .int (1 : Int32), .int (6 : Int32)]) (rest := []) ⟨hx, hb, hml, hown, hts⟩ (cnX8_in l D Y N _ (x3 / (8 : Int32)) (1 : Int32) (6 : Int32) _ hF) (va_cwS 3 hts gX8_tooThick_X8_in rfl rfl rfl (by decide +kernel) ⟨Nat.le_of_ble_eq_true rfl, Nat.le_of_ble_eq_true rfl⟩) (mb_preS (A := A) hG mb_P0 mb_D0) rfl rfl hl.1 rfl (lv_room (Nat.le_of_ble_eq_true rfl)) dX8_tooThick_46 ⟨Nat.le_of_ble_eq_true rfl, Nat.le_of_ble_eq_true rfl⟩) (fun r46 H locs hF hP hS => ?_)
        refine lv_if_eq (tgt := 56) hx hb dX8_tooThick_49 (by decide) (fun c_49 => ?_) (fun c_49 => ?_)
        · have hF := hF.1 c_49
          exact wX8_tooThick_56 C ih M x1 x2 x3 _ _ _ hF hP hD hS (lv_sub hl [0, 1, 2, 3] rfl)
        · have hF := hF.2 c_49
          refine lv_iconst (v := 1) hx hb dX8_tooThick_52 (by decide) ?_
          refine lv_goto (tgt := 57) hx hb dX8_tooThick_53 (by decide) ?_
          exact wX8_tooThick_57 C ih M x1 x2 x3 (1 : Int32) _ _ _ hF hP hD hS (lv_sub hl [0, 1, 2, 3] rfl)
noncomputable def PX8_tooThick (N : Nat) (M : mb_m) (x1 : Int32) (K : Int32 → mb_m → Prop) : Prop := PX8_isSkin N M x1 (fun r3 M3 => PX8_goes N M3 r3 (1 : Int32) (1 : Int32) (fun r8 M8 => (¬ r8 = 0 → PX8_tooThick_20 N K N M8 x1 (0 : Int32) (0 : Int32)) ∧ (r8 = 0 → K (0 : Int32) M8)))
set_option maxHeartbeats 4000000 in
set_option maxRecDepth 100000 in
theorem cnX8_tooThick (l : Launch) (D : va_G) (Y : Nat → ClassId) (N : Nat) (o : Nat) (a : Nat → Nat) (M : mb_m) (sz : Nat) (x1 : Int32) (K : Int32 → mb_m → Prop) (hF : PX8_tooThick N M x1 K) : Met l yX8_tooThick wsX8_tooThick ({ frames := 2, cells := 0, slots := 0, locals := 43 } : Room) (va_Pc [.ref o, .int x1] (mb_B D Y (gw8 Y o a M) sz)) (va_Qi K (fun u t => mb_T D (va_A (gw8 Y o a M) sz) (gw8 Y o a u) t) (va_A (gw8 Y o a M) sz)) 0 0 (va_A (gw8 Y o a M) sz) := by
  refine mb_begin (cc := cX8_tooThick) (maxL := 5) (ret := (some .int)) (by decide +kernel) rfl (Nat.le_of_ble_eq_true rfl) ?_
  intro p e s m below meth c ls C hsz hnm hP hD hl
  generalize hAe : va_A (gw8 Y o a M) sz = A at C hD ⊢
  have C : mb_Cx p s m meth c ([.ref o, .int x1] : List Value).toArray cX8_tooThick 5 (some .int) wsX8_tooThick RX8 D Y A := C
  obtain ⟨hx, hb, hr, hml, hts, hown, hlocks, hA, hG⟩ := id C
  have hK := hG.1
  have hS : va_S A s.heap s.heap [] := va_S.rf
  have hl : lv_has ls 5 [(0, .ref o), (1, .int x1)] := hl
  refine lv_aload_n hx hb dX8_tooThick_0 rfl (lv_at hl 0 rfl) ?_
  refine lv_aload_n hx hb dX8_tooThick_1 rfl (lv_at hl 0 rfl) ?_
  refine lv_iload_n hx hb dX8_tooThick_2 rfl (lv_at hl 1 rfl) ?_
  refine mb_cW hD hS hA (va_runV (As := [.int x1]) (rest := [.ref o]) ⟨hx, hb, hml, hown, hts⟩ (cnX8_isSkin l D Y N o a M _ x1 _ hF) (cwV 1 hts gX8_tooThick_X8_isSkin rfl rfl rfl (by decide +kernel) ⟨Nat.le_of_ble_eq_true rfl, Nat.le_of_ble_eq_true rfl⟩) (mb_preV hG hP hD 0 rfl rfl) rfl rfl hl.1 rfl (lv_room (Nat.le_of_ble_eq_true rfl)) dX8_tooThick_3 ⟨Nat.le_of_ble_eq_true rfl, Nat.le_of_ble_eq_true rfl⟩) (fun r3 M3 H locs hF hP hD hS => ?_)
  refine lv_iconst (v := 1) hx hb dX8_tooThick_6 (by decide) ?_
  refine lv_iconst (v := 1) hx hb dX8_tooThick_7 (by decide) ?_
  refine mb_cW hD hS hA (va_runV (As := [.int r3, .int (1 : Int32), .int (1 : Int32)]) (rest := []) ⟨hx, hb, hml, hown, hts⟩ (cnX8_goes l D Y N o a M3 _ r3 (1 : Int32) (1 : Int32) _ hF) (cwV 3 hts gX8_tooThick_X8_goes rfl rfl rfl (by decide +kernel) ⟨Nat.le_of_ble_eq_true rfl, Nat.le_of_ble_eq_true rfl⟩) (mb_preV hG hP hD 0 rfl rfl) rfl rfl hl.1 rfl (lv_room (Nat.le_of_ble_eq_true rfl)) dX8_tooThick_8 ⟨Nat.le_of_ble_eq_true rfl, Nat.le_of_ble_eq_true rfl⟩) (fun r8 M8 H locs hF hP hD hS => ?_)
  refine lv_if_ne (tgt := 16) hx hb dX8_tooThick_11 (by decide) (fun c_11 => ?_) (fun c_11 => ?_)
  · have hF := hF.1 c_11
    refine lv_iconst (v := 0) hx hb dX8_tooThick_16 (by decide) ?_
    refine lv_istore_n (lv' := [(2, .int (0 : Int32)), (0, .ref o), (1, .int x1)]) hx hb dX8_tooThick_17 rfl hl (by decide) rfl (fun ls hl => ?_)
    refine lv_iconst (v := 0) hx hb dX8_tooThick_18 (by decide) ?_
    refine lv_istore_n (lv' := [(3, .int (0 : Int32)), (2, .int (0 : Int32)), (0, .ref o), (1, .int x1)]) hx hb dX8_tooThick_19 rfl hl (by decide) rfl (fun ls hl => ?_)
    exact wX8_tooThick_20 C N M8 x1 (0 : Int32) (0 : Int32) _ _ _ hF hP hD hS (lv_sub hl [2, 3, 1, 0] rfl)
  · have hF := hF.2 c_11
    refine lv_iconst (v := 0) hx hb dX8_tooThick_14 (by decide) ?_
    exact mb_ri (S := mb_m) (mc := 0) (ms := 0) (wf := fun u => gw8 Y o a u) C rfl (u := M8) hF hP hD hS dX8_tooThick_15 (Nat.le_of_ble_eq_true rfl) (Nat.le_of_ble_eq_true rfl)
end
section
noncomputable def PX8_repair_56 (N : Nat) (K : Int32 → mb_m → Prop) (M : mb_m) (x1 x2 x3 y0 : Int32) : Prop := PX8_in N x2 (0 : Int32) (4 : Int32) (fun r63 _ => PX8_goes N M x3 r63 y0 (fun r68 M68 => (¬ r68 = 0 → vp_in x1 4 ∧ (vp_in (((20 : Int32) * x1) + (M68 21 x1.toNatClampNeg)) 80 ∧ (∀ M92 : mb_m, M92 = mb_u M68 22 (upd (M68 22) (((20 : Int32) * x1) + (M68 21 x1.toNatClampNeg)).toNatClampNeg x2) → (vp_in x1 4 ∧ (∀ v102 : Int32, v102 = ((M92 21 x1.toNatClampNeg) + (1 : Int32)) → (vp_in x1 4 ∧ (∀ M102 : mb_m, M102 = mb_u M92 21 (upd (M92 21) x1.toNatClampNeg v102) → (vp_in x1 4 ∧ (K (M102 21 x1.toNatClampNeg) M102))))))))) ∧ (r68 = 0 → K (0 : Int32) M68)))
set_option maxHeartbeats 4000000 in
set_option maxRecDepth 100000 in
theorem wX8_repair_56 {p : Program} {l : Launch} {e : Env} {s : State} {m : MethodId} {below : List Frame} {meth : Method} {c : Code} {args : Array Value} {D : va_G} {Y : Nat → ClassId} {A : Nat → Prop} {o : Nat} {a : Nat → Nat} {N : Nat} {K : Int32 → mb_m → Prop} (C : mb_Cx p s m meth c args cX8_repair 5 (some .int) wsX8_repair RX8 D Y A) : ∀ (M : mb_m) (x1 x2 x3 y0 : Int32) (H : Heap) (locs : List Loc) (ls : Array Slot), PX8_repair_56 N K  M x1 x2 x3 y0 → va_P D vwCl (gw8 Y o a M) H → va_D A (gw8 Y o a M) → va_S A s.heap H locs → lv_has ls 5 [(0, .ref o), (1, .int x1), (2, .int x2), (3, .int x3)] → W p l e ({ frames := 2, cells := 0, slots := 0, locals := 43 } : Room) s m args below meth c H locs 0 0 (MQ below (va_Qi K (fun u t => mb_T D A (gw8 Y o a u) t) A) args s 0 0 A) (F0 m 56 ls [.int y0]) := by
  obtain ⟨hx, hb, hr, hml, hts, hown, hlocks, hA, hG⟩ := id C
  have hK := hG.1
  intro M x1 x2 x3 y0 H locs ls hF hP hD hS hl
  refine lv_istore (lv' := [(4, .int y0), (0, .ref o), (1, .int x1), (2, .int x2), (3, .int x3)]) hx hb dX8_repair_56 hl (by decide) rfl (fun ls hl => ?_)
  refine lv_aload_n hx hb dX8_repair_58 rfl (lv_at hl 1 rfl) ?_
  refine lv_iload_n hx hb dX8_repair_59 rfl (lv_at hl 4 rfl) ?_
  refine lv_iload_n hx hb dX8_repair_60 rfl (lv_at hl 3 rfl) ?_
  refine lv_iconst (v := 0) hx hb dX8_repair_61 (by decide) ?_
  refine lv_iconst (v := 4) hx hb dX8_repair_62 (by decide) ?_
  refine mb_cE hP hS hA (va_runS (As := [.int x2, .int (0 : Int32), .int (4 : Int32)]) (rest := [.int x3, .ref o]) ⟨hx, hb, hml, hown, hts⟩ (cnX8_in l D Y N _ x2 (0 : Int32) (4 : Int32) _ hF) (va_cwS 3 hts gX8_repair_X8_in rfl rfl rfl (by decide +kernel) ⟨Nat.le_of_ble_eq_true rfl, Nat.le_of_ble_eq_true rfl⟩) (mb_preS (A := A) hG mb_P0 mb_D0) rfl rfl hl.1 rfl (lv_room (Nat.le_of_ble_eq_true rfl)) dX8_repair_63 ⟨Nat.le_of_ble_eq_true rfl, Nat.le_of_ble_eq_true rfl⟩) (fun r63 H locs hF hP hS => ?_)
  refine lv_iload hx hb dX8_repair_66 (lv_at hl 0 rfl) ?_
  refine mb_cW hD hS hA (va_runV (As := [.int x3, .int r63, .int y0]) (rest := []) ⟨hx, hb, hml, hown, hts⟩ (cnX8_goes l D Y N o a M _ x3 r63 y0 _ hF) (cwV 3 hts gX8_repair_X8_goes rfl rfl rfl (by decide +kernel) ⟨Nat.le_of_ble_eq_true rfl, Nat.le_of_ble_eq_true rfl⟩) (mb_preV hG hP hD 0 rfl rfl) rfl rfl hl.1 rfl (lv_room (Nat.le_of_ble_eq_true rfl)) dX8_repair_68 ⟨Nat.le_of_ble_eq_true rfl, Nat.le_of_ble_eq_true rfl⟩) (fun r68 M68 H locs hF hP hD hS => ?_)
  refine lv_if_ne (tgt := 76) hx hb dX8_repair_71 (by decide) (fun c_71 => ?_) (fun c_71 => ?_)
  · have hF := hF.1 c_71
    refine lv_aload_n hx hb dX8_repair_76 rfl (lv_at hl 1 rfl) ?_
    refine va_get (D := D) (ci := 8) (v := .ref (a 22)) (C := RX8) (T := TX8) (N := 28) hx hb hts (fun _ h9 => List.mem_cons_of_mem _ (List.mem_append_right _ (h9))) hown hK hP 0 rfl rfl 22 (by decide) (hts (.fieldLink RX8 56 "MarbleBenchModel" "stuff" "[I") (List.mem_of_getElem? (i := 3) rfl)) (fun _ h9 => h9) rfl dX8_repair_77 ?_
    refine lv_bipush (v := 20) hx hb dX8_repair_80 (by decide) ?_
    refine lv_iload_n hx hb dX8_repair_82 rfl (lv_at hl 2 rfl) ?_
    refine lv_imul hx hb dX8_repair_83 ?_
    refine lv_aload_n hx hb dX8_repair_84 rfl (lv_at hl 1 rfl) ?_
    refine va_get (D := D) (ci := 8) (v := .ref (a 21)) (C := RX8) (T := TX8) (N := 28) hx hb hts (fun _ h9 => List.mem_cons_of_mem _ (List.mem_append_right _ (h9))) hown hK hP 0 rfl rfl 21 (by decide) (hts (.fieldLink RX8 53 "MarbleBenchModel" "repairs" "[I") (List.mem_of_getElem? (i := 2) rfl)) (fun _ h9 => h9) rfl dX8_repair_85 ?_
    refine lv_iload_n hx hb dX8_repair_88 rfl (lv_at hl 2 rfl) ?_
    obtain ⟨hi89, hF⟩ := hF
    refine va_iald hx hb hK hP 15 0 rfl rfl hi89 dX8_repair_89 ?_
    refine lv_iadd hx hb dX8_repair_90 ?_
    refine lv_iload_n hx hb dX8_repair_91 rfl (lv_at hl 3 rfl) ?_
    obtain ⟨hi92, hF⟩ := hF
    refine va_iast hx hb hK hP hD hS 16 0 rfl rfl hi92 dX8_repair_92 (fun H locs hP hD hS => ?_)
    obtain ⟨M92, eM92⟩ : ∃ y : mb_m, y = mb_u M68 22 (upd (M68 22) (((20 : Int32) * x1) + (M68 21 x1.toNatClampNeg)).toNatClampNeg x2) := ⟨_, rfl⟩
    have hF := hF M92 eM92
    have hP : va_P D vwCl (gw8 Y o a (mb_u M68 22 (upd (M68 22) (((20 : Int32) * x1) + (M68 21 x1.toNatClampNeg)).toNatClampNeg x2))) H := hP
    have hD : va_D A (gw8 Y o a (mb_u M68 22 (upd (M68 22) (((20 : Int32) * x1) + (M68 21 x1.toNatClampNeg)).toNatClampNeg x2))) := hD
    rw [← eM92] at hP hD
    refine lv_aload_n hx hb dX8_repair_93 rfl (lv_at hl 1 rfl) ?_
    refine va_get (D := D) (ci := 8) (v := .ref (a 21)) (C := RX8) (T := TX8) (N := 28) hx hb hts (fun _ h9 => List.mem_cons_of_mem _ (List.mem_append_right _ (h9))) hown hK hP 0 rfl rfl 21 (by decide) (hts (.fieldLink RX8 53 "MarbleBenchModel" "repairs" "[I") (List.mem_of_getElem? (i := 2) rfl)) (fun _ h9 => h9) rfl dX8_repair_94 ?_
    refine lv_iload_n hx hb dX8_repair_97 rfl (lv_at hl 2 rfl) ?_
    refine lv_dup2_11 hx hb dX8_repair_98 rfl rfl ?_
    obtain ⟨hi99, hF⟩ := hF
    refine va_iald hx hb hK hP 15 0 rfl rfl hi99 dX8_repair_99 ?_
    refine lv_iconst (v := 1) hx hb dX8_repair_100 (by decide) ?_
    refine lv_iadd hx hb dX8_repair_101 ?_
    refine lv_topi (fun v102 ev102 => ?_)
    have hF := hF v102 ev102
    obtain ⟨hi102, hF⟩ := hF
    refine va_iast hx hb hK hP hD hS 15 0 rfl rfl hi102 dX8_repair_102 (fun H locs hP hD hS => ?_)
    obtain ⟨M102, eM102⟩ : ∃ y : mb_m, y = mb_u M92 21 (upd (M92 21) x1.toNatClampNeg v102) := ⟨_, rfl⟩
    have hF := hF M102 eM102
    have hP : va_P D vwCl (gw8 Y o a (mb_u M92 21 (upd (M92 21) x1.toNatClampNeg v102))) H := hP
    have hD : va_D A (gw8 Y o a (mb_u M92 21 (upd (M92 21) x1.toNatClampNeg v102))) := hD
    rw [← eM102] at hP hD
    refine lv_aload_n hx hb dX8_repair_103 rfl (lv_at hl 1 rfl) ?_
    refine va_get (D := D) (ci := 8) (v := .ref (a 21)) (C := RX8) (T := TX8) (N := 28) hx hb hts (fun _ h9 => List.mem_cons_of_mem _ (List.mem_append_right _ (h9))) hown hK hP 0 rfl rfl 21 (by decide) (hts (.fieldLink RX8 53 "MarbleBenchModel" "repairs" "[I") (List.mem_of_getElem? (i := 2) rfl)) (fun _ h9 => h9) rfl dX8_repair_104 ?_
    refine lv_iload_n hx hb dX8_repair_107 rfl (lv_at hl 2 rfl) ?_
    obtain ⟨hi108, hF⟩ := hF
    refine va_iald hx hb hK hP 15 0 rfl rfl hi108 dX8_repair_108 ?_
    exact mb_ri (S := mb_m) (mc := 0) (ms := 0) (wf := fun u => gw8 Y o a u) C rfl (u := M102) hF hP hD hS dX8_repair_109 (Nat.le_of_ble_eq_true rfl) (Nat.le_of_ble_eq_true rfl)
  · have hF := hF.2 c_71
    refine lv_iconst (v := 0) hx hb dX8_repair_74 (by decide) ?_
    exact mb_ri (S := mb_m) (mc := 0) (ms := 0) (wf := fun u => gw8 Y o a u) C rfl (u := M68) hF hP hD hS dX8_repair_75 (Nat.le_of_ble_eq_true rfl) (Nat.le_of_ble_eq_true rfl)
noncomputable def PX8_repair_55 (N : Nat) (K : Int32 → mb_m → Prop) (M : mb_m) (x1 x2 x3 : Int32) : Prop := PX8_repair_56 N K M x1 x2 x3 (0 : Int32)
set_option maxHeartbeats 4000000 in
set_option maxRecDepth 100000 in
theorem wX8_repair_55 {p : Program} {l : Launch} {e : Env} {s : State} {m : MethodId} {below : List Frame} {meth : Method} {c : Code} {args : Array Value} {D : va_G} {Y : Nat → ClassId} {A : Nat → Prop} {o : Nat} {a : Nat → Nat} {N : Nat} {K : Int32 → mb_m → Prop} (C : mb_Cx p s m meth c args cX8_repair 5 (some .int) wsX8_repair RX8 D Y A) : ∀ (M : mb_m) (x1 x2 x3 : Int32) (H : Heap) (locs : List Loc) (ls : Array Slot), PX8_repair_55 N K  M x1 x2 x3 → va_P D vwCl (gw8 Y o a M) H → va_D A (gw8 Y o a M) → va_S A s.heap H locs → lv_has ls 5 [(0, .ref o), (1, .int x1), (2, .int x2), (3, .int x3)] → W p l e ({ frames := 2, cells := 0, slots := 0, locals := 43 } : Room) s m args below meth c H locs 0 0 (MQ below (va_Qi K (fun u t => mb_T D A (gw8 Y o a u) t) A) args s 0 0 A) (F0 m 55 ls []) := by
  obtain ⟨hx, hb, hr, hml, hts, hown, hlocks, hA, hG⟩ := id C
  have hK := hG.1
  intro M x1 x2 x3 H locs ls hF hP hD hS hl
  refine lv_iconst (v := 0) hx hb dX8_repair_55 (by decide) ?_
  exact wX8_repair_56 C M x1 x2 x3 (0 : Int32) _ _ _ hF hP hD hS (lv_sub hl [0, 1, 2, 3] rfl)
noncomputable def PX8_repair_45 (N : Nat) (K : Int32 → mb_m → Prop) (M : mb_m) (x1 x2 x3 y0 : Int32) : Prop := vp_in y0 4 ∧ (((20 : Int32) ≤ (M 21 y0.toNatClampNeg) → PX8_repair_55 N K M x1 x2 x3) ∧ (¬ (20 : Int32) ≤ (M 21 y0.toNatClampNeg) → PX8_repair_56 N K M x1 x2 x3 (1 : Int32)))
set_option maxHeartbeats 4000000 in
set_option maxRecDepth 100000 in
theorem wX8_repair_45 {p : Program} {l : Launch} {e : Env} {s : State} {m : MethodId} {below : List Frame} {meth : Method} {c : Code} {args : Array Value} {D : va_G} {Y : Nat → ClassId} {A : Nat → Prop} {o : Nat} {a : Nat → Nat} {N : Nat} {K : Int32 → mb_m → Prop} (C : mb_Cx p s m meth c args cX8_repair 5 (some .int) wsX8_repair RX8 D Y A) : ∀ (M : mb_m) (x1 x2 x3 y0 : Int32) (H : Heap) (locs : List Loc) (ls : Array Slot), PX8_repair_45 N K  M x1 x2 x3 y0 → va_P D vwCl (gw8 Y o a M) H → va_D A (gw8 Y o a M) → va_S A s.heap H locs → lv_has ls 5 [(0, .ref o), (1, .int x1), (2, .int x2), (3, .int x3)] → W p l e ({ frames := 2, cells := 0, slots := 0, locals := 43 } : Room) s m args below meth c H locs 0 0 (MQ below (va_Qi K (fun u t => mb_T D A (gw8 Y o a u) t) A) args s 0 0 A) (F0 m 45 ls [.int y0, .ref (a 21)]) := by
  obtain ⟨hx, hb, hr, hml, hts, hown, hlocks, hA, hG⟩ := id C
  have hK := hG.1
  intro M x1 x2 x3 y0 H locs ls hF hP hD hS hl
  obtain ⟨hi45, hF⟩ := hF
  refine va_iald hx hb hK hP 15 0 rfl rfl hi45 dX8_repair_45 ?_
  refine lv_bipush (v := 20) hx hb dX8_repair_46 (by decide) ?_
  refine lv_icmp_ge (tgt := 55) hx hb dX8_repair_48 (by decide) (fun c_48 => ?_) (fun c_48 => ?_)
  · have hF := hF.1 c_48
    exact wX8_repair_55 C M x1 x2 x3 _ _ _ hF hP hD hS (lv_sub hl [0, 1, 2, 3] rfl)
  · have hF := hF.2 c_48
    refine lv_iconst (v := 1) hx hb dX8_repair_51 (by decide) ?_
    refine lv_goto (tgt := 56) hx hb dX8_repair_52 (by decide) ?_
    exact wX8_repair_56 C M x1 x2 x3 (1 : Int32) _ _ _ hF hP hD hS (lv_sub hl [0, 1, 2, 3] rfl)
noncomputable def PX8_repair_32 (N : Nat) (K : Int32 → mb_m → Prop) (M : mb_m) (x1 x2 x3 : Int32) : Prop := (x3 = 0 → PX8_repair_45 N K M x1 x2 x3 (0 : Int32)) ∧ (¬ x3 = 0 → PX8_repair_45 N K M x1 x2 x3 x1)
set_option maxHeartbeats 4000000 in
set_option maxRecDepth 100000 in
theorem wX8_repair_32 {p : Program} {l : Launch} {e : Env} {s : State} {m : MethodId} {below : List Frame} {meth : Method} {c : Code} {args : Array Value} {D : va_G} {Y : Nat → ClassId} {A : Nat → Prop} {o : Nat} {a : Nat → Nat} {N : Nat} {K : Int32 → mb_m → Prop} (C : mb_Cx p s m meth c args cX8_repair 5 (some .int) wsX8_repair RX8 D Y A) : ∀ (M : mb_m) (x1 x2 x3 : Int32) (H : Heap) (locs : List Loc) (ls : Array Slot), PX8_repair_32 N K  M x1 x2 x3 → va_P D vwCl (gw8 Y o a M) H → va_D A (gw8 Y o a M) → va_S A s.heap H locs → lv_has ls 5 [(0, .ref o), (1, .int x1), (2, .int x2), (3, .int x3)] → W p l e ({ frames := 2, cells := 0, slots := 0, locals := 43 } : Room) s m args below meth c H locs 0 0 (MQ below (va_Qi K (fun u t => mb_T D A (gw8 Y o a u) t) A) args s 0 0 A) (F0 m 32 ls []) := by
  obtain ⟨hx, hb, hr, hml, hts, hown, hlocks, hA, hG⟩ := id C
  have hK := hG.1
  intro M x1 x2 x3 H locs ls hF hP hD hS hl
  refine lv_aload_n hx hb dX8_repair_32 rfl (lv_at hl 0 rfl) ?_
  refine va_get (D := D) (ci := 8) (v := .ref (a 21)) (C := RX8) (T := TX8) (N := 28) hx hb hts (fun _ h9 => List.mem_cons_of_mem _ (List.mem_append_right _ (h9))) hown hK hP 0 rfl rfl 21 (by decide) (hts (.fieldLink RX8 53 "MarbleBenchModel" "repairs" "[I") (List.mem_of_getElem? (i := 2) rfl)) (fun _ h9 => h9) rfl dX8_repair_33 ?_
  refine lv_iload_n hx hb dX8_repair_36 rfl (lv_at hl 3 rfl) ?_
  refine lv_if_eq (tgt := 44) hx hb dX8_repair_37 (by decide) (fun c_37 => ?_) (fun c_37 => ?_)
  · have hF := hF.1 c_37
    refine lv_iconst (v := 0) hx hb dX8_repair_44 (by decide) ?_
    exact wX8_repair_45 C M x1 x2 x3 (0 : Int32) _ _ _ hF hP hD hS (lv_sub hl [0, 1, 2, 3] rfl)
  · have hF := hF.2 c_37
    refine lv_iload_n hx hb dX8_repair_40 rfl (lv_at hl 1 rfl) ?_
    refine lv_goto (tgt := 45) hx hb dX8_repair_41 (by decide) ?_
    exact wX8_repair_45 C M x1 x2 x3 x1 _ _ _ hF hP hD hS (lv_sub hl [0, 1, 2, 3] rfl)
noncomputable def PX8_repair_23 (N : Nat) (K : Int32 → mb_m → Prop) (M : mb_m) (x1 x2 x3 y0 : Int32) : Prop := vp_in y0 4 ∧ (((M 9 y0.toNatClampNeg) = 0 → PX8_repair_32 N K M x1 x2 x3) ∧ (¬ (M 9 y0.toNatClampNeg) = 0 → ((3 : Int32) ≤ x2 → PX8_repair_55 N K M x1 x2 x3) ∧ (¬ (3 : Int32) ≤ x2 → PX8_repair_32 N K M x1 x2 x3)))
set_option maxHeartbeats 4000000 in
set_option maxRecDepth 100000 in
theorem wX8_repair_23 {p : Program} {l : Launch} {e : Env} {s : State} {m : MethodId} {below : List Frame} {meth : Method} {c : Code} {args : Array Value} {D : va_G} {Y : Nat → ClassId} {A : Nat → Prop} {o : Nat} {a : Nat → Nat} {N : Nat} {K : Int32 → mb_m → Prop} (C : mb_Cx p s m meth c args cX8_repair 5 (some .int) wsX8_repair RX8 D Y A) : ∀ (M : mb_m) (x1 x2 x3 y0 : Int32) (H : Heap) (locs : List Loc) (ls : Array Slot), PX8_repair_23 N K  M x1 x2 x3 y0 → va_P D vwCl (gw8 Y o a M) H → va_D A (gw8 Y o a M) → va_S A s.heap H locs → lv_has ls 5 [(0, .ref o), (1, .int x1), (2, .int x2), (3, .int x3)] → W p l e ({ frames := 2, cells := 0, slots := 0, locals := 43 } : Room) s m args below meth c H locs 0 0 (MQ below (va_Qi K (fun u t => mb_T D A (gw8 Y o a u) t) A) args s 0 0 A) (F0 m 23 ls [.int y0, .ref (a 9)]) := by
  obtain ⟨hx, hb, hr, hml, hts, hown, hlocks, hA, hG⟩ := id C
  have hK := hG.1
  intro M x1 x2 x3 y0 H locs ls hF hP hD hS hl
  obtain ⟨hi23, hF⟩ := hF
  refine va_zald hx hb hK hP 8 1 rfl rfl hi23 dX8_repair_23 ?_
  refine lv_if_eq (tgt := 32) hx hb dX8_repair_24 (by decide) (fun c_24 => ?_) (fun c_24 => ?_)
  · have hF := hF.1 c_24
    exact wX8_repair_32 C M x1 x2 x3 _ _ _ hF hP hD hS (lv_sub hl [0, 1, 2, 3] rfl)
  · have hF := hF.2 c_24
    refine lv_iload_n hx hb dX8_repair_27 rfl (lv_at hl 2 rfl) ?_
    refine lv_iconst (v := 3) hx hb dX8_repair_28 (by decide) ?_
    refine lv_icmp_ge (tgt := 55) hx hb dX8_repair_29 (by decide) (fun c_29 => ?_) (fun c_29 => ?_)
    · have hF := hF.1 c_29
      exact wX8_repair_55 C M x1 x2 x3 _ _ _ hF hP hD hS (lv_sub hl [0, 1, 2, 3] rfl)
    · have hF := hF.2 c_29
      exact wX8_repair_32 C M x1 x2 x3 _ _ _ hF hP hD hS (lv_sub hl [0, 1, 2, 3] rfl)
noncomputable def PX8_repair (N : Nat) (M : mb_m) (x1 x2 : Int32) (K : Int32 → mb_m → Prop) : Prop := PX8_isBook N M x1 (fun r2 M2 => (r2 = 0 → PX8_repair_55 N K M2 x1 x2 r2) ∧ (¬ r2 = 0 → (r2 = 0 → PX8_repair_23 N K M2 x1 x2 r2 (0 : Int32)) ∧ (¬ r2 = 0 → PX8_repair_23 N K M2 x1 x2 r2 x1)))
set_option maxHeartbeats 4000000 in
set_option maxRecDepth 100000 in
theorem cnX8_repair (l : Launch) (D : va_G) (Y : Nat → ClassId) (N : Nat) (o : Nat) (a : Nat → Nat) (M : mb_m) (sz : Nat) (x1 x2 : Int32) (K : Int32 → mb_m → Prop) (hF : PX8_repair N M x1 x2 K) : Met l yX8_repair wsX8_repair ({ frames := 2, cells := 0, slots := 0, locals := 43 } : Room) (va_Pc [.ref o, .int x1, .int x2] (mb_B D Y (gw8 Y o a M) sz)) (va_Qi K (fun u t => mb_T D (va_A (gw8 Y o a M) sz) (gw8 Y o a u) t) (va_A (gw8 Y o a M) sz)) 0 0 (va_A (gw8 Y o a M) sz) := by
  refine mb_begin (cc := cX8_repair) (maxL := 5) (ret := (some .int)) (by decide +kernel) rfl (Nat.le_of_ble_eq_true rfl) ?_
  intro p e s m below meth c ls C hsz hnm hP hD hl
  generalize hAe : va_A (gw8 Y o a M) sz = A at C hD ⊢
  have C : mb_Cx p s m meth c ([.ref o, .int x1, .int x2] : List Value).toArray cX8_repair 5 (some .int) wsX8_repair RX8 D Y A := C
  obtain ⟨hx, hb, hr, hml, hts, hown, hlocks, hA, hG⟩ := id C
  have hK := hG.1
  have hS : va_S A s.heap s.heap [] := va_S.rf
  have hl : lv_has ls 5 [(0, .ref o), (1, .int x1), (2, .int x2)] := hl
  refine lv_aload_n hx hb dX8_repair_0 rfl (lv_at hl 0 rfl) ?_
  refine lv_iload_n hx hb dX8_repair_1 rfl (lv_at hl 1 rfl) ?_
  refine mb_cW hD hS hA (va_runV (As := [.int x1]) (rest := []) ⟨hx, hb, hml, hown, hts⟩ (cnX8_isBook l D Y N o a M _ x1 _ hF) (cwV 1 hts gX8_repair_X8_isBook rfl rfl rfl (by decide +kernel) ⟨Nat.le_of_ble_eq_true rfl, Nat.le_of_ble_eq_true rfl⟩) (mb_preV hG hP hD 0 rfl rfl) rfl rfl hl.1 rfl (lv_room (Nat.le_of_ble_eq_true rfl)) dX8_repair_2 ⟨Nat.le_of_ble_eq_true rfl, Nat.le_of_ble_eq_true rfl⟩) (fun r2 M2 H locs hF hP hD hS => ?_)
  refine lv_istore_n (lv' := [(3, .int r2), (0, .ref o), (1, .int x1), (2, .int x2)]) hx hb dX8_repair_5 rfl hl (by decide) rfl (fun ls hl => ?_)
  refine lv_iload_n hx hb dX8_repair_6 rfl (lv_at hl 0 rfl) ?_
  refine lv_if_eq (tgt := 55) hx hb dX8_repair_7 (by decide) (fun c_7 => ?_) (fun c_7 => ?_)
  · have hF := hF.1 c_7
    exact wX8_repair_55 C M2 x1 x2 r2 _ _ _ hF hP hD hS (lv_sub hl [1, 2, 3, 0] rfl)
  · have hF := hF.2 c_7
    refine lv_aload_n hx hb dX8_repair_10 rfl (lv_at hl 1 rfl) ?_
    refine va_get (D := D) (ci := 8) (v := .ref (a 9)) (C := RX8) (T := TX8) (N := 28) hx hb hts (fun _ h9 => List.mem_cons_of_mem _ (List.mem_append_right _ (h9))) hown hK hP 0 rfl rfl 9 (by decide) (hts (.fieldLink RX8 31 "MarbleBenchModel" "isOld" "[Z") (List.mem_of_getElem? (i := 1) rfl)) (fun _ h9 => h9) rfl dX8_repair_11 ?_
    refine lv_iload_n hx hb dX8_repair_14 rfl (lv_at hl 0 rfl) ?_
    refine lv_if_eq (tgt := 22) hx hb dX8_repair_15 (by decide) (fun c_15 => ?_) (fun c_15 => ?_)
    · have hF := hF.1 c_15
      refine lv_iconst (v := 0) hx hb dX8_repair_22 (by decide) ?_
      exact wX8_repair_23 C M2 x1 x2 r2 (0 : Int32) _ _ _ hF hP hD hS (lv_sub hl [1, 2, 3, 0] rfl)
    · have hF := hF.2 c_15
      refine lv_iload_n hx hb dX8_repair_18 rfl (lv_at hl 2 rfl) ?_
      refine lv_goto (tgt := 23) hx hb dX8_repair_19 (by decide) ?_
      exact wX8_repair_23 C M2 x1 x2 r2 x1 _ _ _ hF hP hD hS (lv_sub hl [1, 2, 3, 0] rfl)
end
section
noncomputable def PX8_undo_49 (N : Nat) (K : Int32 → mb_m → Prop) (M : mb_m) (x1 y0 y1 : Int32) : Prop := PX8_goes N M y1 y0 (1 : Int32) (fun r50 M50 => (¬ r50 = 0 → vp_in x1 4 ∧ (∀ v67 : Int32, v67 = ((M50 21 x1.toNatClampNeg) - (1 : Int32)) → (vp_in x1 4 ∧ (∀ M67 : mb_m, M67 = mb_u M50 21 (upd (M50 21) x1.toNatClampNeg v67) → (vp_in x1 4 ∧ (vp_in (((20 : Int32) * x1) + (M67 21 x1.toNatClampNeg)) 80 ∧ (K (M67 22 (((20 : Int32) * x1) + (M67 21 x1.toNatClampNeg)).toNatClampNeg) M67))))))) ∧ (r50 = 0 → K (0 : Int32) M50))
set_option maxHeartbeats 4000000 in
set_option maxRecDepth 100000 in
theorem wX8_undo_49 {p : Program} {l : Launch} {e : Env} {s : State} {m : MethodId} {below : List Frame} {meth : Method} {c : Code} {args : Array Value} {D : va_G} {Y : Nat → ClassId} {A : Nat → Prop} {o : Nat} {a : Nat → Nat} {N : Nat} {K : Int32 → mb_m → Prop} (C : mb_Cx p s m meth c args cX8_undo 4 (some .int) wsX8_undo RX8 D Y A) : ∀ (M : mb_m) (x1 y0 y1 : Int32) (H : Heap) (locs : List Loc) (ls : Array Slot), PX8_undo_49 N K  M x1 y0 y1 → va_P D vwCl (gw8 Y o a M) H → va_D A (gw8 Y o a M) → va_S A s.heap H locs → lv_has ls 4 [(0, .ref o), (1, .int x1)] → W p l e ({ frames := 2, cells := 0, slots := 0, locals := 43 } : Room) s m args below meth c H locs 0 0 (MQ below (va_Qi K (fun u t => mb_T D A (gw8 Y o a u) t) A) args s 0 0 A) (F0 m 49 ls [.int y0, .int y1, .ref o]) := by
  obtain ⟨hx, hb, hr, hml, hts, hown, hlocks, hA, hG⟩ := id C
  have hK := hG.1
  intro M x1 y0 y1 H locs ls hF hP hD hS hl
  refine lv_iconst (v := 1) hx hb dX8_undo_49 (by decide) ?_
  refine mb_cW hD hS hA (va_runV (As := [.int y1, .int y0, .int (1 : Int32)]) (rest := []) ⟨hx, hb, hml, hown, hts⟩ (cnX8_goes l D Y N o a M _ y1 y0 (1 : Int32) _ hF) (cwV 3 hts gX8_undo_X8_goes rfl rfl rfl (by decide +kernel) ⟨Nat.le_of_ble_eq_true rfl, Nat.le_of_ble_eq_true rfl⟩) (mb_preV hG hP hD 0 rfl rfl) rfl rfl hl.1 rfl (lv_room (Nat.le_of_ble_eq_true rfl)) dX8_undo_50 ⟨Nat.le_of_ble_eq_true rfl, Nat.le_of_ble_eq_true rfl⟩) (fun r50 M50 H locs hF hP hD hS => ?_)
  refine lv_if_ne (tgt := 58) hx hb dX8_undo_53 (by decide) (fun c_53 => ?_) (fun c_53 => ?_)
  · have hF := hF.1 c_53
    refine lv_aload_n hx hb dX8_undo_58 rfl (lv_at hl 0 rfl) ?_
    refine va_get (D := D) (ci := 8) (v := .ref (a 21)) (C := RX8) (T := TX8) (N := 28) hx hb hts (fun _ h9 => List.mem_cons_of_mem _ (List.mem_append_right _ (h9))) hown hK hP 0 rfl rfl 21 (by decide) (hts (.fieldLink RX8 53 "MarbleBenchModel" "repairs" "[I") (List.mem_of_getElem? (i := 1) rfl)) (fun _ h9 => h9) rfl dX8_undo_59 ?_
    refine lv_iload_n hx hb dX8_undo_62 rfl (lv_at hl 1 rfl) ?_
    refine lv_dup2_11 hx hb dX8_undo_63 rfl rfl ?_
    obtain ⟨hi64, hF⟩ := hF
    refine va_iald hx hb hK hP 15 0 rfl rfl hi64 dX8_undo_64 ?_
    refine lv_iconst (v := 1) hx hb dX8_undo_65 (by decide) ?_
    refine lv_isub hx hb dX8_undo_66 ?_
    refine lv_topi (fun v67 ev67 => ?_)
    have hF := hF v67 ev67
    obtain ⟨hi67, hF⟩ := hF
    refine va_iast hx hb hK hP hD hS 15 0 rfl rfl hi67 dX8_undo_67 (fun H locs hP hD hS => ?_)
    obtain ⟨M67, eM67⟩ : ∃ y : mb_m, y = mb_u M50 21 (upd (M50 21) x1.toNatClampNeg v67) := ⟨_, rfl⟩
    have hF := hF M67 eM67
    have hP : va_P D vwCl (gw8 Y o a (mb_u M50 21 (upd (M50 21) x1.toNatClampNeg v67))) H := hP
    have hD : va_D A (gw8 Y o a (mb_u M50 21 (upd (M50 21) x1.toNatClampNeg v67))) := hD
    rw [← eM67] at hP hD
    refine lv_aload_n hx hb dX8_undo_68 rfl (lv_at hl 0 rfl) ?_
    refine va_get (D := D) (ci := 8) (v := .ref (a 22)) (C := RX8) (T := TX8) (N := 28) hx hb hts (fun _ h9 => List.mem_cons_of_mem _ (List.mem_append_right _ (h9))) hown hK hP 0 rfl rfl 22 (by decide) (hts (.fieldLink RX8 56 "MarbleBenchModel" "stuff" "[I") (List.mem_of_getElem? (i := 2) rfl)) (fun _ h9 => h9) rfl dX8_undo_69 ?_
    refine lv_bipush (v := 20) hx hb dX8_undo_72 (by decide) ?_
    refine lv_iload_n hx hb dX8_undo_74 rfl (lv_at hl 1 rfl) ?_
    refine lv_imul hx hb dX8_undo_75 ?_
    refine lv_aload_n hx hb dX8_undo_76 rfl (lv_at hl 0 rfl) ?_
    refine va_get (D := D) (ci := 8) (v := .ref (a 21)) (C := RX8) (T := TX8) (N := 28) hx hb hts (fun _ h9 => List.mem_cons_of_mem _ (List.mem_append_right _ (h9))) hown hK hP 0 rfl rfl 21 (by decide) (hts (.fieldLink RX8 53 "MarbleBenchModel" "repairs" "[I") (List.mem_of_getElem? (i := 1) rfl)) (fun _ h9 => h9) rfl dX8_undo_77 ?_
    refine lv_iload_n hx hb dX8_undo_80 rfl (lv_at hl 1 rfl) ?_
    obtain ⟨hi81, hF⟩ := hF
    refine va_iald hx hb hK hP 15 0 rfl rfl hi81 dX8_undo_81 ?_
    refine lv_iadd hx hb dX8_undo_82 ?_
    obtain ⟨hi83, hF⟩ := hF
    refine va_iald hx hb hK hP 16 0 rfl rfl hi83 dX8_undo_83 ?_
    exact mb_ri (S := mb_m) (mc := 0) (ms := 0) (wf := fun u => gw8 Y o a u) C rfl (u := M67) hF hP hD hS dX8_undo_84 (Nat.le_of_ble_eq_true rfl) (Nat.le_of_ble_eq_true rfl)
  · have hF := hF.2 c_53
    refine lv_iconst (v := 0) hx hb dX8_undo_56 (by decide) ?_
    exact mb_ri (S := mb_m) (mc := 0) (ms := 0) (wf := fun u => gw8 Y o a u) C rfl (u := M50) hF hP hD hS dX8_undo_57 (Nat.le_of_ble_eq_true rfl) (Nat.le_of_ble_eq_true rfl)
noncomputable def PX8_undo_48 (N : Nat) (K : Int32 → mb_m → Prop) (M : mb_m) (x1 y0 : Int32) : Prop := PX8_undo_49 N K M x1 (0 : Int32) y0
set_option maxHeartbeats 4000000 in
set_option maxRecDepth 100000 in
theorem wX8_undo_48 {p : Program} {l : Launch} {e : Env} {s : State} {m : MethodId} {below : List Frame} {meth : Method} {c : Code} {args : Array Value} {D : va_G} {Y : Nat → ClassId} {A : Nat → Prop} {o : Nat} {a : Nat → Nat} {N : Nat} {K : Int32 → mb_m → Prop} (C : mb_Cx p s m meth c args cX8_undo 4 (some .int) wsX8_undo RX8 D Y A) : ∀ (M : mb_m) (x1 y0 : Int32) (H : Heap) (locs : List Loc) (ls : Array Slot), PX8_undo_48 N K  M x1 y0 → va_P D vwCl (gw8 Y o a M) H → va_D A (gw8 Y o a M) → va_S A s.heap H locs → lv_has ls 4 [(0, .ref o), (1, .int x1)] → W p l e ({ frames := 2, cells := 0, slots := 0, locals := 43 } : Room) s m args below meth c H locs 0 0 (MQ below (va_Qi K (fun u t => mb_T D A (gw8 Y o a u) t) A) args s 0 0 A) (F0 m 48 ls [.int y0, .ref o]) := by
  obtain ⟨hx, hb, hr, hml, hts, hown, hlocks, hA, hG⟩ := id C
  have hK := hG.1
  intro M x1 y0 H locs ls hF hP hD hS hl
  refine lv_iconst (v := 0) hx hb dX8_undo_48 (by decide) ?_
  exact wX8_undo_49 C M x1 (0 : Int32) y0 _ _ _ hF hP hD hS (lv_sub hl [0, 1] rfl)
noncomputable def PX8_undo_20 (N : Nat) (K : Int32 → mb_m → Prop) (M : mb_m) (x1 x2 y0 : Int32) : Prop := (y0 ≤ 0 → PX8_undo_48 N K M x1 x2) ∧ (¬ y0 ≤ 0 → vp_in ((((20 : Int32) * x1) + y0) - (1 : Int32)) 80 ∧ (((3 : Int32) ≤ (M 22 ((((20 : Int32) * x1) + y0) - (1 : Int32)).toNatClampNeg) → PX8_undo_48 N K M x1 x2) ∧ (¬ (3 : Int32) ≤ (M 22 ((((20 : Int32) * x1) + y0) - (1 : Int32)).toNatClampNeg) → PX8_undo_49 N K M x1 (1 : Int32) x2)))
set_option maxHeartbeats 4000000 in
set_option maxRecDepth 100000 in
theorem wX8_undo_20 {p : Program} {l : Launch} {e : Env} {s : State} {m : MethodId} {below : List Frame} {meth : Method} {c : Code} {args : Array Value} {D : va_G} {Y : Nat → ClassId} {A : Nat → Prop} {o : Nat} {a : Nat → Nat} {N : Nat} {K : Int32 → mb_m → Prop} (C : mb_Cx p s m meth c args cX8_undo 4 (some .int) wsX8_undo RX8 D Y A) : ∀ (M : mb_m) (x1 x2 y0 : Int32) (H : Heap) (locs : List Loc) (ls : Array Slot), PX8_undo_20 N K  M x1 x2 y0 → va_P D vwCl (gw8 Y o a M) H → va_D A (gw8 Y o a M) → va_S A s.heap H locs → lv_has ls 4 [(0, .ref o), (1, .int x1), (2, .int x2)] → W p l e ({ frames := 2, cells := 0, slots := 0, locals := 43 } : Room) s m args below meth c H locs 0 0 (MQ below (va_Qi K (fun u t => mb_T D A (gw8 Y o a u) t) A) args s 0 0 A) (F0 m 20 ls [.int y0]) := by
  obtain ⟨hx, hb, hr, hml, hts, hown, hlocks, hA, hG⟩ := id C
  have hK := hG.1
  intro M x1 x2 y0 H locs ls hF hP hD hS hl
  refine lv_istore_n (lv' := [(3, .int y0), (0, .ref o), (1, .int x1), (2, .int x2)]) hx hb dX8_undo_20 rfl hl (by decide) rfl (fun ls hl => ?_)
  refine lv_aload_n hx hb dX8_undo_21 rfl (lv_at hl 1 rfl) ?_
  refine lv_iload_n hx hb dX8_undo_22 rfl (lv_at hl 3 rfl) ?_
  refine lv_iload_n hx hb dX8_undo_23 rfl (lv_at hl 0 rfl) ?_
  refine lv_if_le (tgt := 48) hx hb dX8_undo_24 (by decide) (fun c_24 => ?_) (fun c_24 => ?_)
  · have hF := hF.1 c_24
    exact wX8_undo_48 C M x1 x2 _ _ _ hF hP hD hS (lv_sub hl [1, 2] rfl)
  · have hF := hF.2 c_24
    refine lv_aload_n hx hb dX8_undo_27 rfl (lv_at hl 1 rfl) ?_
    refine va_get (D := D) (ci := 8) (v := .ref (a 22)) (C := RX8) (T := TX8) (N := 28) hx hb hts (fun _ h9 => List.mem_cons_of_mem _ (List.mem_append_right _ (h9))) hown hK hP 0 rfl rfl 22 (by decide) (hts (.fieldLink RX8 56 "MarbleBenchModel" "stuff" "[I") (List.mem_of_getElem? (i := 2) rfl)) (fun _ h9 => h9) rfl dX8_undo_28 ?_
    refine lv_bipush (v := 20) hx hb dX8_undo_31 (by decide) ?_
    refine lv_iload_n hx hb dX8_undo_33 rfl (lv_at hl 2 rfl) ?_
    refine lv_imul hx hb dX8_undo_34 ?_
    refine lv_iload_n hx hb dX8_undo_35 rfl (lv_at hl 0 rfl) ?_
    refine lv_iadd hx hb dX8_undo_36 ?_
    refine lv_iconst (v := 1) hx hb dX8_undo_37 (by decide) ?_
    refine lv_isub hx hb dX8_undo_38 ?_
    obtain ⟨hi39, hF⟩ := hF
    refine va_iald hx hb hK hP 16 0 rfl rfl hi39 dX8_undo_39 ?_
    refine lv_iconst (v := 3) hx hb dX8_undo_40 (by decide) ?_
    refine lv_icmp_ge (tgt := 48) hx hb dX8_undo_41 (by decide) (fun c_41 => ?_) (fun c_41 => ?_)
    · have hF := hF.1 c_41
      exact wX8_undo_48 C M x1 x2 _ _ _ hF hP hD hS (lv_sub hl [1, 2] rfl)
    · have hF := hF.2 c_41
      refine lv_iconst (v := 1) hx hb dX8_undo_44 (by decide) ?_
      refine lv_goto (tgt := 49) hx hb dX8_undo_45 (by decide) ?_
      exact wX8_undo_49 C M x1 (1 : Int32) x2 _ _ _ hF hP hD hS (lv_sub hl [1, 2] rfl)
noncomputable def PX8_undo (N : Nat) (M : mb_m) (x1 : Int32) (K : Int32 → mb_m → Prop) : Prop := PX8_isBook N M x1 (fun r2 M2 => (r2 = 0 → PX8_undo_20 N K M2 x1 r2 (0 : Int32)) ∧ (¬ r2 = 0 → vp_in x1 4 ∧ (PX8_undo_20 N K M2 x1 r2 (M2 21 x1.toNatClampNeg))))
set_option maxHeartbeats 4000000 in
set_option maxRecDepth 100000 in
theorem cnX8_undo (l : Launch) (D : va_G) (Y : Nat → ClassId) (N : Nat) (o : Nat) (a : Nat → Nat) (M : mb_m) (sz : Nat) (x1 : Int32) (K : Int32 → mb_m → Prop) (hF : PX8_undo N M x1 K) : Met l yX8_undo wsX8_undo ({ frames := 2, cells := 0, slots := 0, locals := 43 } : Room) (va_Pc [.ref o, .int x1] (mb_B D Y (gw8 Y o a M) sz)) (va_Qi K (fun u t => mb_T D (va_A (gw8 Y o a M) sz) (gw8 Y o a u) t) (va_A (gw8 Y o a M) sz)) 0 0 (va_A (gw8 Y o a M) sz) := by
  refine mb_begin (cc := cX8_undo) (maxL := 4) (ret := (some .int)) (by decide +kernel) rfl (Nat.le_of_ble_eq_true rfl) ?_
  intro p e s m below meth c ls C hsz hnm hP hD hl
  generalize hAe : va_A (gw8 Y o a M) sz = A at C hD ⊢
  have C : mb_Cx p s m meth c ([.ref o, .int x1] : List Value).toArray cX8_undo 4 (some .int) wsX8_undo RX8 D Y A := C
  obtain ⟨hx, hb, hr, hml, hts, hown, hlocks, hA, hG⟩ := id C
  have hK := hG.1
  have hS : va_S A s.heap s.heap [] := va_S.rf
  have hl : lv_has ls 4 [(0, .ref o), (1, .int x1)] := hl
  refine lv_aload_n hx hb dX8_undo_0 rfl (lv_at hl 0 rfl) ?_
  refine lv_iload_n hx hb dX8_undo_1 rfl (lv_at hl 1 rfl) ?_
  refine mb_cW hD hS hA (va_runV (As := [.int x1]) (rest := []) ⟨hx, hb, hml, hown, hts⟩ (cnX8_isBook l D Y N o a M _ x1 _ hF) (cwV 1 hts gX8_undo_X8_isBook rfl rfl rfl (by decide +kernel) ⟨Nat.le_of_ble_eq_true rfl, Nat.le_of_ble_eq_true rfl⟩) (mb_preV hG hP hD 0 rfl rfl) rfl rfl hl.1 rfl (lv_room (Nat.le_of_ble_eq_true rfl)) dX8_undo_2 ⟨Nat.le_of_ble_eq_true rfl, Nat.le_of_ble_eq_true rfl⟩) (fun r2 M2 H locs hF hP hD hS => ?_)
  refine lv_istore_n (lv' := [(2, .int r2), (0, .ref o), (1, .int x1)]) hx hb dX8_undo_5 rfl hl (by decide) rfl (fun ls hl => ?_)
  refine lv_iload_n hx hb dX8_undo_6 rfl (lv_at hl 0 rfl) ?_
  refine lv_if_eq (tgt := 19) hx hb dX8_undo_7 (by decide) (fun c_7 => ?_) (fun c_7 => ?_)
  · have hF := hF.1 c_7
    refine lv_iconst (v := 0) hx hb dX8_undo_19 (by decide) ?_
    exact wX8_undo_20 C M2 x1 r2 (0 : Int32) _ _ _ hF hP hD hS (lv_sub hl [1, 2, 0] rfl)
  · have hF := hF.2 c_7
    refine lv_aload_n hx hb dX8_undo_10 rfl (lv_at hl 1 rfl) ?_
    refine va_get (D := D) (ci := 8) (v := .ref (a 21)) (C := RX8) (T := TX8) (N := 28) hx hb hts (fun _ h9 => List.mem_cons_of_mem _ (List.mem_append_right _ (h9))) hown hK hP 0 rfl rfl 21 (by decide) (hts (.fieldLink RX8 53 "MarbleBenchModel" "repairs" "[I") (List.mem_of_getElem? (i := 1) rfl)) (fun _ h9 => h9) rfl dX8_undo_11 ?_
    refine lv_iload_n hx hb dX8_undo_14 rfl (lv_at hl 2 rfl) ?_
    obtain ⟨hi15, hF⟩ := hF
    refine va_iald hx hb hK hP 15 0 rfl rfl hi15 dX8_undo_15 ?_
    refine lv_goto (tgt := 20) hx hb dX8_undo_16 (by decide) ?_
    exact wX8_undo_20 C M2 x1 r2 (M2 21 x1.toNatClampNeg) _ _ _ hF hP hD hS (lv_sub hl [1, 2, 0] rfl)
end
section
noncomputable def PX8_speak_84 (N : Nat) (K : Int32 → mb_m → Prop) (M : mb_m) (x1 x2 x3 x4 y0 y1 y2 : Int32) : Prop := PX8_goes N M y2 y1 y0 (fun r84 M84 => (¬ r84 = 0 → vp_in x1 4 ∧ (∀ v103 : Int32, v103 = (((20 : Int32) * x1) + (M84 23 x1.toNatClampNeg)) → (vp_in v103 80 ∧ (∀ M112 : mb_m, M112 = mb_u M84 24 (upd (M84 24) v103.toNatClampNeg x2) → (vp_in v103 80 ∧ (∀ M120 : mb_m, M120 = mb_u M112 25 (upd (M112 25) v103.toNatClampNeg x3) → (vp_in v103 80 ∧ (∀ M129 : mb_m, M129 = mb_u M120 26 (upd (M120 26) v103.toNatClampNeg x4) → (vp_in x1 4 ∧ (∀ v139 : Int32, v139 = ((M129 23 x1.toNatClampNeg) + (1 : Int32)) → (vp_in x1 4 ∧ (∀ M139 : mb_m, M139 = mb_u M129 23 (upd (M129 23) x1.toNatClampNeg v139) → (vp_in x1 4 ∧ (K (M139 23 x1.toNatClampNeg) M139)))))))))))))) ∧ (r84 = 0 → K (0 : Int32) M84))
set_option maxHeartbeats 4000000 in
set_option maxRecDepth 100000 in
theorem wX8_speak_84 {p : Program} {l : Launch} {e : Env} {s : State} {m : MethodId} {below : List Frame} {meth : Method} {c : Code} {args : Array Value} {D : va_G} {Y : Nat → ClassId} {A : Nat → Prop} {o : Nat} {a : Nat → Nat} {N : Nat} {K : Int32 → mb_m → Prop} (C : mb_Cx p s m meth c args cX8_speak 8 (some .int) wsX8_speak RX8 D Y A) : ∀ (M : mb_m) (x1 x2 x3 x4 y0 y1 y2 : Int32) (H : Heap) (locs : List Loc) (ls : Array Slot), PX8_speak_84 N K  M x1 x2 x3 x4 y0 y1 y2 → va_P D vwCl (gw8 Y o a M) H → va_D A (gw8 Y o a M) → va_S A s.heap H locs → lv_has ls 8 [(0, .ref o), (1, .int x1), (2, .int x2), (3, .int x3), (4, .int x4)] → W p l e ({ frames := 2, cells := 0, slots := 0, locals := 43 } : Room) s m args below meth c H locs 0 0 (MQ below (va_Qi K (fun u t => mb_T D A (gw8 Y o a u) t) A) args s 0 0 A) (F0 m 84 ls [.int y0, .int y1, .int y2, .ref o]) := by
  obtain ⟨hx, hb, hr, hml, hts, hown, hlocks, hA, hG⟩ := id C
  have hK := hG.1
  intro M x1 x2 x3 x4 y0 y1 y2 H locs ls hF hP hD hS hl
  refine mb_cW hD hS hA (va_runV (As := [.int y2, .int y1, .int y0]) (rest := []) ⟨hx, hb, hml, hown, hts⟩ (cnX8_goes l D Y N o a M _ y2 y1 y0 _ hF) (cwV 3 hts gX8_speak_X8_goes rfl rfl rfl (by decide +kernel) ⟨Nat.le_of_ble_eq_true rfl, Nat.le_of_ble_eq_true rfl⟩) (mb_preV hG hP hD 0 rfl rfl) rfl rfl hl.1 rfl (lv_room (Nat.le_of_ble_eq_true rfl)) dX8_speak_84 ⟨Nat.le_of_ble_eq_true rfl, Nat.le_of_ble_eq_true rfl⟩) (fun r84 M84 H locs hF hP hD hS => ?_)
  refine lv_if_ne (tgt := 92) hx hb dX8_speak_87 (by decide) (fun c_87 => ?_) (fun c_87 => ?_)
  · have hF := hF.1 c_87
    refine lv_bipush (v := 20) hx hb dX8_speak_92 (by decide) ?_
    refine lv_iload_n hx hb dX8_speak_94 rfl (lv_at hl 1 rfl) ?_
    refine lv_imul hx hb dX8_speak_95 ?_
    refine lv_aload_n hx hb dX8_speak_96 rfl (lv_at hl 0 rfl) ?_
    refine va_get (D := D) (ci := 8) (v := .ref (a 23)) (C := RX8) (T := TX8) (N := 28) hx hb hts (fun _ h9 => List.mem_cons_of_mem _ (List.mem_append_right _ (h9))) hown hK hP 0 rfl rfl 23 (by decide) (hts (.fieldLink RX8 59 "MarbleBenchModel" "voices" "[I") (List.mem_of_getElem? (i := 1) rfl)) (fun _ h9 => h9) rfl dX8_speak_97 ?_
    refine lv_iload_n hx hb dX8_speak_100 rfl (lv_at hl 1 rfl) ?_
    obtain ⟨hi101, hF⟩ := hF
    refine va_iald hx hb hK hP 17 0 rfl rfl hi101 dX8_speak_101 ?_
    refine lv_iadd hx hb dX8_speak_102 ?_
    refine lv_topi (fun v103 ev103 => ?_)
    have hF := hF v103 ev103
    refine lv_istore (lv' := [(7, .int v103), (0, .ref o), (1, .int x1), (2, .int x2), (3, .int x3), (4, .int x4)]) hx hb dX8_speak_103 hl (by decide) rfl (fun ls hl => ?_)
    refine lv_aload_n hx hb dX8_speak_105 rfl (lv_at hl 1 rfl) ?_
    refine va_get (D := D) (ci := 8) (v := .ref (a 24)) (C := RX8) (T := TX8) (N := 28) hx hb hts (fun _ h9 => List.mem_cons_of_mem _ (List.mem_append_right _ (h9))) hown hK hP 0 rfl rfl 24 (by decide) (hts (.fieldLink RX8 62 "MarbleBenchModel" "from" "[I") (List.mem_of_getElem? (i := 2) rfl)) (fun _ h9 => h9) rfl dX8_speak_106 ?_
    refine lv_iload hx hb dX8_speak_109 (lv_at hl 0 rfl) ?_
    refine lv_iload_n hx hb dX8_speak_111 rfl (lv_at hl 3 rfl) ?_
    obtain ⟨hi112, hF⟩ := hF
    refine va_iast hx hb hK hP hD hS 18 0 rfl rfl hi112 dX8_speak_112 (fun H locs hP hD hS => ?_)
    obtain ⟨M112, eM112⟩ : ∃ y : mb_m, y = mb_u M84 24 (upd (M84 24) v103.toNatClampNeg x2) := ⟨_, rfl⟩
    have hF := hF M112 eM112
    have hP : va_P D vwCl (gw8 Y o a (mb_u M84 24 (upd (M84 24) v103.toNatClampNeg x2))) H := hP
    have hD : va_D A (gw8 Y o a (mb_u M84 24 (upd (M84 24) v103.toNatClampNeg x2))) := hD
    rw [← eM112] at hP hD
    refine lv_aload_n hx hb dX8_speak_113 rfl (lv_at hl 1 rfl) ?_
    refine va_get (D := D) (ci := 8) (v := .ref (a 25)) (C := RX8) (T := TX8) (N := 28) hx hb hts (fun _ h9 => List.mem_cons_of_mem _ (List.mem_append_right _ (h9))) hown hK hP 0 rfl rfl 25 (by decide) (hts (.fieldLink RX8 65 "MarbleBenchModel" "to" "[I") (List.mem_of_getElem? (i := 3) rfl)) (fun _ h9 => h9) rfl dX8_speak_114 ?_
    refine lv_iload hx hb dX8_speak_117 (lv_at hl 0 rfl) ?_
    refine lv_iload_n hx hb dX8_speak_119 rfl (lv_at hl 4 rfl) ?_
    obtain ⟨hi120, hF⟩ := hF
    refine va_iast hx hb hK hP hD hS 19 0 rfl rfl hi120 dX8_speak_120 (fun H locs hP hD hS => ?_)
    obtain ⟨M120, eM120⟩ : ∃ y : mb_m, y = mb_u M112 25 (upd (M112 25) v103.toNatClampNeg x3) := ⟨_, rfl⟩
    have hF := hF M120 eM120
    have hP : va_P D vwCl (gw8 Y o a (mb_u M112 25 (upd (M112 25) v103.toNatClampNeg x3))) H := hP
    have hD : va_D A (gw8 Y o a (mb_u M112 25 (upd (M112 25) v103.toNatClampNeg x3))) := hD
    rw [← eM120] at hP hD
    refine lv_aload_n hx hb dX8_speak_121 rfl (lv_at hl 1 rfl) ?_
    refine va_get (D := D) (ci := 8) (v := .ref (a 26)) (C := RX8) (T := TX8) (N := 28) hx hb hts (fun _ h9 => List.mem_cons_of_mem _ (List.mem_append_right _ (h9))) hown hK hP 0 rfl rfl 26 (by decide) (hts (.fieldLink RX8 68 "MarbleBenchModel" "weight" "[I") (List.mem_of_getElem? (i := 4) rfl)) (fun _ h9 => h9) rfl dX8_speak_122 ?_
    refine lv_iload hx hb dX8_speak_125 (lv_at hl 0 rfl) ?_
    refine lv_iload hx hb dX8_speak_127 (lv_at hl 5 rfl) ?_
    obtain ⟨hi129, hF⟩ := hF
    refine va_iast hx hb hK hP hD hS 20 0 rfl rfl hi129 dX8_speak_129 (fun H locs hP hD hS => ?_)
    obtain ⟨M129, eM129⟩ : ∃ y : mb_m, y = mb_u M120 26 (upd (M120 26) v103.toNatClampNeg x4) := ⟨_, rfl⟩
    have hF := hF M129 eM129
    have hP : va_P D vwCl (gw8 Y o a (mb_u M120 26 (upd (M120 26) v103.toNatClampNeg x4))) H := hP
    have hD : va_D A (gw8 Y o a (mb_u M120 26 (upd (M120 26) v103.toNatClampNeg x4))) := hD
    rw [← eM129] at hP hD
    refine lv_aload_n hx hb dX8_speak_130 rfl (lv_at hl 1 rfl) ?_
    refine va_get (D := D) (ci := 8) (v := .ref (a 23)) (C := RX8) (T := TX8) (N := 28) hx hb hts (fun _ h9 => List.mem_cons_of_mem _ (List.mem_append_right _ (h9))) hown hK hP 0 rfl rfl 23 (by decide) (hts (.fieldLink RX8 59 "MarbleBenchModel" "voices" "[I") (List.mem_of_getElem? (i := 1) rfl)) (fun _ h9 => h9) rfl dX8_speak_131 ?_
    refine lv_iload_n hx hb dX8_speak_134 rfl (lv_at hl 2 rfl) ?_
    refine lv_dup2_11 hx hb dX8_speak_135 rfl rfl ?_
    obtain ⟨hi136, hF⟩ := hF
    refine va_iald hx hb hK hP 17 0 rfl rfl hi136 dX8_speak_136 ?_
    refine lv_iconst (v := 1) hx hb dX8_speak_137 (by decide) ?_
    refine lv_iadd hx hb dX8_speak_138 ?_
    refine lv_topi (fun v139 ev139 => ?_)
    have hF := hF v139 ev139
    obtain ⟨hi139, hF⟩ := hF
    refine va_iast hx hb hK hP hD hS 17 0 rfl rfl hi139 dX8_speak_139 (fun H locs hP hD hS => ?_)
    obtain ⟨M139, eM139⟩ : ∃ y : mb_m, y = mb_u M129 23 (upd (M129 23) x1.toNatClampNeg v139) := ⟨_, rfl⟩
    have hF := hF M139 eM139
    have hP : va_P D vwCl (gw8 Y o a (mb_u M129 23 (upd (M129 23) x1.toNatClampNeg v139))) H := hP
    have hD : va_D A (gw8 Y o a (mb_u M129 23 (upd (M129 23) x1.toNatClampNeg v139))) := hD
    rw [← eM139] at hP hD
    refine lv_aload_n hx hb dX8_speak_140 rfl (lv_at hl 1 rfl) ?_
    refine va_get (D := D) (ci := 8) (v := .ref (a 23)) (C := RX8) (T := TX8) (N := 28) hx hb hts (fun _ h9 => List.mem_cons_of_mem _ (List.mem_append_right _ (h9))) hown hK hP 0 rfl rfl 23 (by decide) (hts (.fieldLink RX8 59 "MarbleBenchModel" "voices" "[I") (List.mem_of_getElem? (i := 1) rfl)) (fun _ h9 => h9) rfl dX8_speak_141 ?_
    refine lv_iload_n hx hb dX8_speak_144 rfl (lv_at hl 2 rfl) ?_
    obtain ⟨hi145, hF⟩ := hF
    refine va_iald hx hb hK hP 17 0 rfl rfl hi145 dX8_speak_145 ?_
    exact mb_ri (S := mb_m) (mc := 0) (ms := 0) (wf := fun u => gw8 Y o a u) C rfl (u := M139) hF hP hD hS dX8_speak_146 (Nat.le_of_ble_eq_true rfl) (Nat.le_of_ble_eq_true rfl)
  · have hF := hF.2 c_87
    refine lv_iconst (v := 0) hx hb dX8_speak_90 (by decide) ?_
    exact mb_ri (S := mb_m) (mc := 0) (ms := 0) (wf := fun u => gw8 Y o a u) C rfl (u := M84) hF hP hD hS dX8_speak_91 (Nat.le_of_ble_eq_true rfl) (Nat.le_of_ble_eq_true rfl)
noncomputable def PX8_speak_83 (N : Nat) (K : Int32 → mb_m → Prop) (M : mb_m) (x1 x2 x3 x4 y0 y1 : Int32) : Prop := PX8_speak_84 N K M x1 x2 x3 x4 (0 : Int32) y0 y1
set_option maxHeartbeats 4000000 in
set_option maxRecDepth 100000 in
theorem wX8_speak_83 {p : Program} {l : Launch} {e : Env} {s : State} {m : MethodId} {below : List Frame} {meth : Method} {c : Code} {args : Array Value} {D : va_G} {Y : Nat → ClassId} {A : Nat → Prop} {o : Nat} {a : Nat → Nat} {N : Nat} {K : Int32 → mb_m → Prop} (C : mb_Cx p s m meth c args cX8_speak 8 (some .int) wsX8_speak RX8 D Y A) : ∀ (M : mb_m) (x1 x2 x3 x4 y0 y1 : Int32) (H : Heap) (locs : List Loc) (ls : Array Slot), PX8_speak_83 N K  M x1 x2 x3 x4 y0 y1 → va_P D vwCl (gw8 Y o a M) H → va_D A (gw8 Y o a M) → va_S A s.heap H locs → lv_has ls 8 [(0, .ref o), (1, .int x1), (2, .int x2), (3, .int x3), (4, .int x4)] → W p l e ({ frames := 2, cells := 0, slots := 0, locals := 43 } : Room) s m args below meth c H locs 0 0 (MQ below (va_Qi K (fun u t => mb_T D A (gw8 Y o a u) t) A) args s 0 0 A) (F0 m 83 ls [.int y0, .int y1, .ref o]) := by
  obtain ⟨hx, hb, hr, hml, hts, hown, hlocks, hA, hG⟩ := id C
  have hK := hG.1
  intro M x1 x2 x3 x4 y0 y1 H locs ls hF hP hD hS hl
  refine lv_iconst (v := 0) hx hb dX8_speak_83 (by decide) ?_
  exact wX8_speak_84 C M x1 x2 x3 x4 (0 : Int32) y0 y1 _ _ _ hF hP hD hS (lv_sub hl [0, 1, 2, 3, 4] rfl)
noncomputable def PX8_speak_73 (N : Nat) (K : Int32 → mb_m → Prop) (M : mb_m) (x1 x2 x3 x4 y0 y2 y3 : Int32) : Prop := vp_in y0 4 ∧ (((20 : Int32) ≤ (M 23 y0.toNatClampNeg) → PX8_speak_83 N K M x1 x2 x3 x4 y2 y3) ∧ (¬ (20 : Int32) ≤ (M 23 y0.toNatClampNeg) → PX8_speak_84 N K M x1 x2 x3 x4 (1 : Int32) y2 y3))
set_option maxHeartbeats 4000000 in
set_option maxRecDepth 100000 in
theorem wX8_speak_73 {p : Program} {l : Launch} {e : Env} {s : State} {m : MethodId} {below : List Frame} {meth : Method} {c : Code} {args : Array Value} {D : va_G} {Y : Nat → ClassId} {A : Nat → Prop} {o : Nat} {a : Nat → Nat} {N : Nat} {K : Int32 → mb_m → Prop} (C : mb_Cx p s m meth c args cX8_speak 8 (some .int) wsX8_speak RX8 D Y A) : ∀ (M : mb_m) (x1 x2 x3 x4 y0 y2 y3 : Int32) (H : Heap) (locs : List Loc) (ls : Array Slot), PX8_speak_73 N K  M x1 x2 x3 x4 y0 y2 y3 → va_P D vwCl (gw8 Y o a M) H → va_D A (gw8 Y o a M) → va_S A s.heap H locs → lv_has ls 8 [(0, .ref o), (1, .int x1), (2, .int x2), (3, .int x3), (4, .int x4)] → W p l e ({ frames := 2, cells := 0, slots := 0, locals := 43 } : Room) s m args below meth c H locs 0 0 (MQ below (va_Qi K (fun u t => mb_T D A (gw8 Y o a u) t) A) args s 0 0 A) (F0 m 73 ls [.int y0, .ref (a 23), .int y2, .int y3, .ref o]) := by
  obtain ⟨hx, hb, hr, hml, hts, hown, hlocks, hA, hG⟩ := id C
  have hK := hG.1
  intro M x1 x2 x3 x4 y0 y2 y3 H locs ls hF hP hD hS hl
  obtain ⟨hi73, hF⟩ := hF
  refine va_iald hx hb hK hP 17 0 rfl rfl hi73 dX8_speak_73 ?_
  refine lv_bipush (v := 20) hx hb dX8_speak_74 (by decide) ?_
  refine lv_icmp_ge (tgt := 83) hx hb dX8_speak_76 (by decide) (fun c_76 => ?_) (fun c_76 => ?_)
  · have hF := hF.1 c_76
    exact wX8_speak_83 C M x1 x2 x3 x4 y2 y3 _ _ _ hF hP hD hS (lv_sub hl [0, 1, 2, 3, 4] rfl)
  · have hF := hF.2 c_76
    refine lv_iconst (v := 1) hx hb dX8_speak_79 (by decide) ?_
    refine lv_goto (tgt := 84) hx hb dX8_speak_80 (by decide) ?_
    exact wX8_speak_84 C M x1 x2 x3 x4 (1 : Int32) y2 y3 _ _ _ hF hP hD hS (lv_sub hl [0, 1, 2, 3, 4] rfl)
noncomputable def PX8_speak_47 (N : Nat) (K : Int32 → mb_m → Prop) (M : mb_m) (x1 x2 x3 x4 x5 y0 : Int32) : Prop := (x5 = 0 → PX8_speak_83 N K M x1 x2 x3 x4 y0 x5) ∧ (¬ x5 = 0 → (x5 = 0 → PX8_speak_73 N K M x1 x2 x3 x4 (0 : Int32) y0 x5) ∧ (¬ x5 = 0 → PX8_speak_73 N K M x1 x2 x3 x4 x1 y0 x5))
set_option maxHeartbeats 4000000 in
set_option maxRecDepth 100000 in
theorem wX8_speak_47 {p : Program} {l : Launch} {e : Env} {s : State} {m : MethodId} {below : List Frame} {meth : Method} {c : Code} {args : Array Value} {D : va_G} {Y : Nat → ClassId} {A : Nat → Prop} {o : Nat} {a : Nat → Nat} {N : Nat} {K : Int32 → mb_m → Prop} (C : mb_Cx p s m meth c args cX8_speak 8 (some .int) wsX8_speak RX8 D Y A) : ∀ (M : mb_m) (x1 x2 x3 x4 x5 y0 : Int32) (H : Heap) (locs : List Loc) (ls : Array Slot), PX8_speak_47 N K  M x1 x2 x3 x4 x5 y0 → va_P D vwCl (gw8 Y o a M) H → va_D A (gw8 Y o a M) → va_S A s.heap H locs → lv_has ls 8 [(0, .ref o), (1, .int x1), (2, .int x2), (3, .int x3), (4, .int x4), (5, .int x5)] → W p l e ({ frames := 2, cells := 0, slots := 0, locals := 43 } : Room) s m args below meth c H locs 0 0 (MQ below (va_Qi K (fun u t => mb_T D A (gw8 Y o a u) t) A) args s 0 0 A) (F0 m 47 ls [.int y0]) := by
  obtain ⟨hx, hb, hr, hml, hts, hown, hlocks, hA, hG⟩ := id C
  have hK := hG.1
  intro M x1 x2 x3 x4 x5 y0 H locs ls hF hP hD hS hl
  refine lv_istore (lv' := [(6, .int y0), (0, .ref o), (1, .int x1), (2, .int x2), (3, .int x3), (4, .int x4), (5, .int x5)]) hx hb dX8_speak_47 hl (by decide) rfl (fun ls hl => ?_)
  refine lv_aload_n hx hb dX8_speak_49 rfl (lv_at hl 1 rfl) ?_
  refine lv_iload hx hb dX8_speak_50 (lv_at hl 6 rfl) ?_
  refine lv_iload hx hb dX8_speak_52 (lv_at hl 0 rfl) ?_
  refine lv_iload hx hb dX8_speak_54 (lv_at hl 6 rfl) ?_
  refine lv_if_eq (tgt := 83) hx hb dX8_speak_56 (by decide) (fun c_56 => ?_) (fun c_56 => ?_)
  · have hF := hF.1 c_56
    exact wX8_speak_83 C M x1 x2 x3 x4 y0 x5 _ _ _ hF hP hD hS (lv_sub hl [1, 2, 3, 4, 5] rfl)
  · have hF := hF.2 c_56
    refine lv_aload_n hx hb dX8_speak_59 rfl (lv_at hl 1 rfl) ?_
    refine va_get (D := D) (ci := 8) (v := .ref (a 23)) (C := RX8) (T := TX8) (N := 28) hx hb hts (fun _ h9 => List.mem_cons_of_mem _ (List.mem_append_right _ (h9))) hown hK hP 0 rfl rfl 23 (by decide) (hts (.fieldLink RX8 59 "MarbleBenchModel" "voices" "[I") (List.mem_of_getElem? (i := 1) rfl)) (fun _ h9 => h9) rfl dX8_speak_60 ?_
    refine lv_iload hx hb dX8_speak_63 (lv_at hl 6 rfl) ?_
    refine lv_if_eq (tgt := 72) hx hb dX8_speak_65 (by decide) (fun c_65 => ?_) (fun c_65 => ?_)
    · have hF := hF.1 c_65
      refine lv_iconst (v := 0) hx hb dX8_speak_72 (by decide) ?_
      exact wX8_speak_73 C M x1 x2 x3 x4 (0 : Int32) y0 x5 _ _ _ hF hP hD hS (lv_sub hl [1, 2, 3, 4, 5] rfl)
    · have hF := hF.2 c_65
      refine lv_iload_n hx hb dX8_speak_68 rfl (lv_at hl 2 rfl) ?_
      refine lv_goto (tgt := 73) hx hb dX8_speak_69 (by decide) ?_
      exact wX8_speak_73 C M x1 x2 x3 x4 x1 y0 x5 _ _ _ hF hP hD hS (lv_sub hl [1, 2, 3, 4, 5] rfl)
noncomputable def PX8_speak_46 (N : Nat) (K : Int32 → mb_m → Prop) (M : mb_m) (x1 x2 x3 x4 x5 : Int32) : Prop := PX8_speak_47 N K M x1 x2 x3 x4 x5 (0 : Int32)
set_option maxHeartbeats 4000000 in
set_option maxRecDepth 100000 in
theorem wX8_speak_46 {p : Program} {l : Launch} {e : Env} {s : State} {m : MethodId} {below : List Frame} {meth : Method} {c : Code} {args : Array Value} {D : va_G} {Y : Nat → ClassId} {A : Nat → Prop} {o : Nat} {a : Nat → Nat} {N : Nat} {K : Int32 → mb_m → Prop} (C : mb_Cx p s m meth c args cX8_speak 8 (some .int) wsX8_speak RX8 D Y A) : ∀ (M : mb_m) (x1 x2 x3 x4 x5 : Int32) (H : Heap) (locs : List Loc) (ls : Array Slot), PX8_speak_46 N K  M x1 x2 x3 x4 x5 → va_P D vwCl (gw8 Y o a M) H → va_D A (gw8 Y o a M) → va_S A s.heap H locs → lv_has ls 8 [(0, .ref o), (1, .int x1), (2, .int x2), (3, .int x3), (4, .int x4), (5, .int x5)] → W p l e ({ frames := 2, cells := 0, slots := 0, locals := 43 } : Room) s m args below meth c H locs 0 0 (MQ below (va_Qi K (fun u t => mb_T D A (gw8 Y o a u) t) A) args s 0 0 A) (F0 m 46 ls []) := by
  obtain ⟨hx, hb, hr, hml, hts, hown, hlocks, hA, hG⟩ := id C
  have hK := hG.1
  intro M x1 x2 x3 x4 x5 H locs ls hF hP hD hS hl
  refine lv_iconst (v := 0) hx hb dX8_speak_46 (by decide) ?_
  exact wX8_speak_47 C M x1 x2 x3 x4 x5 (0 : Int32) _ _ _ hF hP hD hS (lv_sub hl [0, 1, 2, 3, 4, 5] rfl)
noncomputable def PX8_speak (N : Nat) (M : mb_m) (x1 x2 x3 x4 : Int32) (K : Int32 → mb_m → Prop) : Prop := PX8_isBook N M x1 (fun r2 M2 => PX8_in N x2 (1400 : Int32) (2000 : Int32) (fun r14 _ => (r14 = 0 → PX8_speak_46 N K M2 x1 x2 x3 x4 r2) ∧ (¬ r14 = 0 → PX8_in N x3 x2 (2000 : Int32) (fun r25 _ => (r25 = 0 → PX8_speak_46 N K M2 x1 x2 x3 x4 r2) ∧ (¬ r25 = 0 → PX8_in N x4 (1 : Int32) (9 : Int32) (fun r36 _ => (r36 = 0 → PX8_speak_46 N K M2 x1 x2 x3 x4 r2) ∧ (¬ r36 = 0 → PX8_speak_47 N K M2 x1 x2 x3 x4 r2 (1 : Int32))))))))
set_option maxHeartbeats 4000000 in
set_option maxRecDepth 100000 in
theorem cnX8_speak (l : Launch) (D : va_G) (Y : Nat → ClassId) (N : Nat) (o : Nat) (a : Nat → Nat) (M : mb_m) (sz : Nat) (x1 x2 x3 x4 : Int32) (K : Int32 → mb_m → Prop) (hF : PX8_speak N M x1 x2 x3 x4 K) : Met l yX8_speak wsX8_speak ({ frames := 2, cells := 0, slots := 0, locals := 43 } : Room) (va_Pc [.ref o, .int x1, .int x2, .int x3, .int x4] (mb_B D Y (gw8 Y o a M) sz)) (va_Qi K (fun u t => mb_T D (va_A (gw8 Y o a M) sz) (gw8 Y o a u) t) (va_A (gw8 Y o a M) sz)) 0 0 (va_A (gw8 Y o a M) sz) := by
  refine mb_begin (cc := cX8_speak) (maxL := 8) (ret := (some .int)) (by decide +kernel) rfl (Nat.le_of_ble_eq_true rfl) ?_
  intro p e s m below meth c ls C hsz hnm hP hD hl
  generalize hAe : va_A (gw8 Y o a M) sz = A at C hD ⊢
  have C : mb_Cx p s m meth c ([.ref o, .int x1, .int x2, .int x3, .int x4] : List Value).toArray cX8_speak 8 (some .int) wsX8_speak RX8 D Y A := C
  obtain ⟨hx, hb, hr, hml, hts, hown, hlocks, hA, hG⟩ := id C
  have hK := hG.1
  have hS : va_S A s.heap s.heap [] := va_S.rf
  have hl : lv_has ls 8 [(0, .ref o), (1, .int x1), (2, .int x2), (3, .int x3), (4, .int x4)] := hl
  refine lv_aload_n hx hb dX8_speak_0 rfl (lv_at hl 0 rfl) ?_
  refine lv_iload_n hx hb dX8_speak_1 rfl (lv_at hl 1 rfl) ?_
  refine mb_cW hD hS hA (va_runV (As := [.int x1]) (rest := []) ⟨hx, hb, hml, hown, hts⟩ (cnX8_isBook l D Y N o a M _ x1 _ hF) (cwV 1 hts gX8_speak_X8_isBook rfl rfl rfl (by decide +kernel) ⟨Nat.le_of_ble_eq_true rfl, Nat.le_of_ble_eq_true rfl⟩) (mb_preV hG hP hD 0 rfl rfl) rfl rfl hl.1 rfl (lv_room (Nat.le_of_ble_eq_true rfl)) dX8_speak_2 ⟨Nat.le_of_ble_eq_true rfl, Nat.le_of_ble_eq_true rfl⟩) (fun r2 M2 H locs hF hP hD hS => ?_)
  refine lv_istore (lv' := [(5, .int r2), (0, .ref o), (1, .int x1), (2, .int x2), (3, .int x3), (4, .int x4)]) hx hb dX8_speak_5 hl (by decide) rfl (fun ls hl => ?_)
  refine lv_iload_n hx hb dX8_speak_7 rfl (lv_at hl 3 rfl) ?_
  refine lv_sipush (v := 1400) hx hb dX8_speak_8 (by decide) ?_
  refine lv_sipush (v := 2000) hx hb dX8_speak_11 (by decide) ?_
  refine mb_cE hP hS hA (va_runS (As := [.int x2, .int (1400 : Int32), .int (2000 : Int32)]) (rest := []) ⟨hx, hb, hml, hown, hts⟩ (cnX8_in l D Y N _ x2 (1400 : Int32) (2000 : Int32) _ hF) (va_cwS 3 hts gX8_speak_X8_in rfl rfl rfl (by decide +kernel) ⟨Nat.le_of_ble_eq_true rfl, Nat.le_of_ble_eq_true rfl⟩) (mb_preS (A := A) hG mb_P0 mb_D0) rfl rfl hl.1 rfl (lv_room (Nat.le_of_ble_eq_true rfl)) dX8_speak_14 ⟨Nat.le_of_ble_eq_true rfl, Nat.le_of_ble_eq_true rfl⟩) (fun r14 H locs hF hP hS => ?_)
  refine lv_if_eq (tgt := 46) hx hb dX8_speak_17 (by decide) (fun c_17 => ?_) (fun c_17 => ?_)
  · have hF := hF.1 c_17
    exact wX8_speak_46 C M2 x1 x2 x3 x4 r2 _ _ _ hF hP hD hS (lv_sub hl [1, 2, 3, 4, 5, 0] rfl)
  · have hF := hF.2 c_17
    refine lv_iload_n hx hb dX8_speak_20 rfl (lv_at hl 4 rfl) ?_
    refine lv_iload_n hx hb dX8_speak_21 rfl (lv_at hl 3 rfl) ?_
    refine lv_sipush (v := 2000) hx hb dX8_speak_22 (by decide) ?_
    refine mb_cE hP hS hA (va_runS (As := [.int x3, .int x2, .int (2000 : Int32)]) (rest := []) ⟨hx, hb, hml, hown, hts⟩ (cnX8_in l D Y N _ x3 x2 (2000 : Int32) _ hF) (va_cwS 3 hts gX8_speak_X8_in rfl rfl rfl (by decide +kernel) ⟨Nat.le_of_ble_eq_true rfl, Nat.le_of_ble_eq_true rfl⟩) (mb_preS (A := A) hG mb_P0 mb_D0) rfl rfl hl.1 rfl (lv_room (Nat.le_of_ble_eq_true rfl)) dX8_speak_25 ⟨Nat.le_of_ble_eq_true rfl, Nat.le_of_ble_eq_true rfl⟩) (fun r25 H locs hF hP hS => ?_)
    refine lv_if_eq (tgt := 46) hx hb dX8_speak_28 (by decide) (fun c_28 => ?_) (fun c_28 => ?_)
    · have hF := hF.1 c_28
      exact wX8_speak_46 C M2 x1 x2 x3 x4 r2 _ _ _ hF hP hD hS (lv_sub hl [1, 2, 3, 4, 5, 0] rfl)
    · have hF := hF.2 c_28
      refine lv_iload hx hb dX8_speak_31 (lv_at hl 5 rfl) ?_
      refine lv_iconst (v := 1) hx hb dX8_speak_33 (by decide) ?_
      refine lv_bipush (v := 9) hx hb dX8_speak_34 (by decide) ?_
      refine mb_cE hP hS hA (va_runS (As := [.int x4, .int (1 : Int32), .int (9 : Int32)]) (rest := []) ⟨hx, hb, hml, hown, hts⟩ (cnX8_in l D Y N _ x4 (1 : Int32) (9 : Int32) _ hF) (va_cwS 3 hts gX8_speak_X8_in rfl rfl rfl (by decide +kernel) ⟨Nat.le_of_ble_eq_true rfl, Nat.le_of_ble_eq_true rfl⟩) (mb_preS (A := A) hG mb_P0 mb_D0) rfl rfl hl.1 rfl (lv_room (Nat.le_of_ble_eq_true rfl)) dX8_speak_36 ⟨Nat.le_of_ble_eq_true rfl, Nat.le_of_ble_eq_true rfl⟩) (fun r36 H locs hF hP hS => ?_)
      refine lv_if_eq (tgt := 46) hx hb dX8_speak_39 (by decide) (fun c_39 => ?_) (fun c_39 => ?_)
      · have hF := hF.1 c_39
        exact wX8_speak_46 C M2 x1 x2 x3 x4 r2 _ _ _ hF hP hD hS (lv_sub hl [1, 2, 3, 4, 5, 0] rfl)
      · have hF := hF.2 c_39
        refine lv_iconst (v := 1) hx hb dX8_speak_42 (by decide) ?_
        refine lv_goto (tgt := 47) hx hb dX8_speak_43 (by decide) ?_
        exact wX8_speak_47 C M2 x1 x2 x3 x4 r2 (1 : Int32) _ _ _ hF hP hD hS (lv_sub hl [1, 2, 3, 4, 5, 0] rfl)
end
section
noncomputable def PX8_sumOf_57 (N : Nat) (K : Int32 → mb_m → Prop) (b8 : mb_m → Int32 → Int32 → Int32 → Int32 → Prop) (M : mb_m) (x1 x2 x4 y0 y1 : Int32) : Prop := ∀ v58 : Int32, v58 = (y1 + y0) → (∀ v59 : Int32, v59 = x4 + (1 : Int32) → (b8 M x1 x2 v58 v59))
set_option maxHeartbeats 4000000 in
set_option maxRecDepth 100000 in
theorem wX8_sumOf_57 {p : Program} {l : Launch} {e : Env} {s : State} {m : MethodId} {below : List Frame} {meth : Method} {c : Code} {args : Array Value} {D : va_G} {Y : Nat → ClassId} {A : Nat → Prop} {o : Nat} {a : Nat → Nat} {N : Nat} {K : Int32 → mb_m → Prop} {b8 : mb_m → Int32 → Int32 → Int32 → Int32 → Prop} (C : mb_Cx p s m meth c args cX8_sumOf 5 (some .int) wsX8_sumOf RX8 D Y A) (hb8 : ∀ (M : mb_m) (x1 x2 x3 x4 : Int32) (H : Heap) (locs : List Loc) (ls : Array Slot), b8 M x1 x2 x3 x4 → va_P D vwCl (gw8 Y o a M) H → va_D A (gw8 Y o a M) → va_S A s.heap H locs → lv_has ls 5 [(0, .ref o), (1, .int x1), (2, .int x2), (3, .int x3), (4, .int x4)] → W p l e ({ frames := 1, cells := 0, slots := 0, locals := 22 } : Room) s m args below meth c H locs 0 0 (MQ below (va_Qi K (fun u t => mb_T D A (gw8 Y o a u) t) A) args s 0 0 A) (F0 m 8 ls [])) : ∀ (M : mb_m) (x1 x2 x4 y0 y1 : Int32) (H : Heap) (locs : List Loc) (ls : Array Slot), PX8_sumOf_57 N K b8 M x1 x2 x4 y0 y1 → va_P D vwCl (gw8 Y o a M) H → va_D A (gw8 Y o a M) → va_S A s.heap H locs → lv_has ls 5 [(0, .ref o), (1, .int x1), (2, .int x2), (4, .int x4)] → W p l e ({ frames := 1, cells := 0, slots := 0, locals := 22 } : Room) s m args below meth c H locs 0 0 (MQ below (va_Qi K (fun u t => mb_T D A (gw8 Y o a u) t) A) args s 0 0 A) (F0 m 57 ls [.int y0, .int y1]) := by
  obtain ⟨hx, hb, hr, hml, hts, hown, hlocks, hA, hG⟩ := id C
  have hK := hG.1
  intro M x1 x2 x4 y0 y1 H locs ls hF hP hD hS hl
  refine lv_iadd hx hb dX8_sumOf_57 ?_
  refine lv_topi (fun v58 ev58 => ?_)
  have hF := hF v58 ev58
  refine lv_istore_n (lv' := [(3, .int v58), (0, .ref o), (1, .int x1), (2, .int x2), (4, .int x4)]) hx hb dX8_sumOf_58 rfl hl (by decide) rfl (fun ls hl => ?_)
  obtain ⟨v59, ev59⟩ : ∃ y : Int32, y = x4 + (1 : Int32) := ⟨_, rfl⟩
  have hF := hF v59 ev59
  refine lv_iinc (v := v59) (lv' := [(4, .int v59), (3, .int v58), (0, .ref o), (1, .int x1), (2, .int x2)]) hx hb dX8_sumOf_59 hl (k := 4) rfl (by rw [ev59]; rfl) (by decide) rfl (fun ls hl => ?_)
  refine lv_goto (tgt := 8) hx hb dX8_sumOf_62 (by decide) ?_
  exact hb8 M x1 x2 v58 v59 _ _ _ hF hP hD hS (lv_sub hl [2, 3, 4, 1, 0] rfl)
noncomputable def PX8_sumOf_8_b (N : Nat) (K : Int32 → mb_m → Prop) (b8 : mb_m → Int32 → Int32 → Int32 → Int32 → Prop) (M : mb_m) (x1 x2 x3 x4 : Int32) : Prop := vp_in x1 4 ∧ (((((20 : Int32) * x1) + (M 23 x1.toNatClampNeg)) ≤ x4 → K x3 M) ∧ (¬ (((20 : Int32) * x1) + (M 23 x1.toNatClampNeg)) ≤ x4 → vp_in x4 80 ∧ (vp_in x4 80 ∧ (PX8_in N x2 (M 24 x4.toNatClampNeg) (M 25 x4.toNatClampNeg) (fun r40 _ => (r40 = 0 → PX8_sumOf_57 N K b8 M x1 x2 x4 (0 : Int32) x3) ∧ (¬ r40 = 0 → vp_in x4 80 ∧ (PX8_sumOf_57 N K b8 M x1 x2 x4 (M 26 x4.toNatClampNeg) x3)))))))
noncomputable def PX8_sumOf_8 (N : Nat) (K : Int32 → mb_m → Prop) (n : Nat) : mb_m → Int32 → Int32 → Int32 → Int32 → Prop := Nat.rec (motive := fun _ => mb_m → Int32 → Int32 → Int32 → Int32 → Prop) (fun _ _ _ _ _ => False) (fun _ b8 => PX8_sumOf_8_b N K  b8) n
set_option maxHeartbeats 4000000 in
set_option maxRecDepth 100000 in
theorem wX8_sumOf_8 {p : Program} {l : Launch} {e : Env} {s : State} {m : MethodId} {below : List Frame} {meth : Method} {c : Code} {args : Array Value} {D : va_G} {Y : Nat → ClassId} {A : Nat → Prop} {o : Nat} {a : Nat → Nat} {N : Nat} {K : Int32 → mb_m → Prop} (C : mb_Cx p s m meth c args cX8_sumOf 5 (some .int) wsX8_sumOf RX8 D Y A) : ∀ (n : Nat), (∀ (M : mb_m) (x1 x2 x3 x4 : Int32) (H : Heap) (locs : List Loc) (ls : Array Slot), PX8_sumOf_8 N K  n M x1 x2 x3 x4 → va_P D vwCl (gw8 Y o a M) H → va_D A (gw8 Y o a M) → va_S A s.heap H locs → lv_has ls 5 [(0, .ref o), (1, .int x1), (2, .int x2), (3, .int x3), (4, .int x4)] → W p l e ({ frames := 1, cells := 0, slots := 0, locals := 22 } : Room) s m args below meth c H locs 0 0 (MQ below (va_Qi K (fun u t => mb_T D A (gw8 Y o a u) t) A) args s 0 0 A) (F0 m 8 ls [])) := by
  obtain ⟨hx, hb, hr, hml, hts, hown, hlocks, hA, hG⟩ := id C
  have hK := hG.1
  intro n
  induction n with
  | zero => intro M x1 x2 x3 x4 H locs ls hF; exact (show False from hF).elim
  | succ n ih =>
    intro M x1 x2 x3 x4 H locs ls hF hP hD hS hl
    have hF : PX8_sumOf_8_b N K  (PX8_sumOf_8 N K  n) M x1 x2 x3 x4 := hF
    refine lv_iload hx hb dX8_sumOf_8 (lv_at hl 4 rfl) ?_
    refine lv_bipush (v := 20) hx hb dX8_sumOf_10 (by decide) ?_
    refine lv_iload_n hx hb dX8_sumOf_12 rfl (lv_at hl 1 rfl) ?_
    refine lv_imul hx hb dX8_sumOf_13 ?_
    refine lv_aload_n hx hb dX8_sumOf_14 rfl (lv_at hl 0 rfl) ?_
    refine va_get (D := D) (ci := 8) (v := .ref (a 23)) (C := RX8) (T := TX8) (N := 28) hx hb hts (fun _ h9 => List.mem_cons_of_mem _ (List.mem_append_right _ (h9))) hown hK hP 0 rfl rfl 23 (by decide) (hts (.fieldLink RX8 59 "MarbleBenchModel" "voices" "[I") (List.mem_of_getElem? (i := 1) rfl)) (fun _ h9 => h9) rfl dX8_sumOf_15 ?_
    refine lv_iload_n hx hb dX8_sumOf_18 rfl (lv_at hl 1 rfl) ?_
    obtain ⟨hi19, hF⟩ := hF
    refine va_iald hx hb hK hP 17 0 rfl rfl hi19 dX8_sumOf_19 ?_
    refine lv_iadd hx hb dX8_sumOf_20 ?_
    refine lv_icmp_ge (tgt := 65) hx hb dX8_sumOf_21 (by decide) (fun c_21 => ?_) (fun c_21 => ?_)
    · have hF := hF.1 c_21
      refine lv_iload_n hx hb dX8_sumOf_65 rfl (lv_at hl 3 rfl) ?_
      exact mb_ri (S := mb_m) (mc := 0) (ms := 0) (wf := fun u => gw8 Y o a u) C rfl (u := M) hF hP hD hS dX8_sumOf_66 (Nat.le_of_ble_eq_true rfl) (Nat.le_of_ble_eq_true rfl)
    · have hF := hF.2 c_21
      refine lv_iload_n hx hb dX8_sumOf_24 rfl (lv_at hl 3 rfl) ?_
      refine lv_iload_n hx hb dX8_sumOf_25 rfl (lv_at hl 2 rfl) ?_
      refine lv_aload_n hx hb dX8_sumOf_26 rfl (lv_at hl 0 rfl) ?_
      refine va_get (D := D) (ci := 8) (v := .ref (a 24)) (C := RX8) (T := TX8) (N := 28) hx hb hts (fun _ h9 => List.mem_cons_of_mem _ (List.mem_append_right _ (h9))) hown hK hP 0 rfl rfl 24 (by decide) (hts (.fieldLink RX8 62 "MarbleBenchModel" "from" "[I") (List.mem_of_getElem? (i := 2) rfl)) (fun _ h9 => h9) rfl dX8_sumOf_27 ?_
      refine lv_iload hx hb dX8_sumOf_30 (lv_at hl 4 rfl) ?_
      obtain ⟨hi32, hF⟩ := hF
      refine va_iald hx hb hK hP 18 0 rfl rfl hi32 dX8_sumOf_32 ?_
      refine lv_aload_n hx hb dX8_sumOf_33 rfl (lv_at hl 0 rfl) ?_
      refine va_get (D := D) (ci := 8) (v := .ref (a 25)) (C := RX8) (T := TX8) (N := 28) hx hb hts (fun _ h9 => List.mem_cons_of_mem _ (List.mem_append_right _ (h9))) hown hK hP 0 rfl rfl 25 (by decide) (hts (.fieldLink RX8 65 "MarbleBenchModel" "to" "[I") (List.mem_of_getElem? (i := 3) rfl)) (fun _ h9 => h9) rfl dX8_sumOf_34 ?_
      refine lv_iload hx hb dX8_sumOf_37 (lv_at hl 4 rfl) ?_
      obtain ⟨hi39, hF⟩ := hF
      refine va_iald hx hb hK hP 19 0 rfl rfl hi39 dX8_sumOf_39 ?_
      refine mb_cE hP hS hA (va_runS (As := [.int x2, .int (M 24 x4.toNatClampNeg), .int (M 25 x4.toNatClampNeg)]) (rest := [.int x3]) ⟨hx, hb, hml, hown, hts⟩ (cnX8_in l D Y N _ x2 (M 24 x4.toNatClampNeg) (M 25 x4.toNatClampNeg) _ hF) (va_cwS 3 hts gX8_sumOf_X8_in rfl rfl rfl (by decide +kernel) ⟨Nat.le_of_ble_eq_true rfl, Nat.le_of_ble_eq_true rfl⟩) (mb_preS (A := A) hG mb_P0 mb_D0) rfl rfl hl.1 rfl (lv_room (Nat.le_of_ble_eq_true rfl)) dX8_sumOf_40 ⟨Nat.le_of_ble_eq_true rfl, Nat.le_of_ble_eq_true rfl⟩) (fun r40 H locs hF hP hS => ?_)
      refine lv_if_eq (tgt := 56) hx hb dX8_sumOf_43 (by decide) (fun c_43 => ?_) (fun c_43 => ?_)
      · have hF := hF.1 c_43
        refine lv_iconst (v := 0) hx hb dX8_sumOf_56 (by decide) ?_
        exact wX8_sumOf_57 C ih M x1 x2 x4 (0 : Int32) x3 _ _ _ hF hP hD hS (lv_sub hl [0, 1, 2, 4] rfl)
      · have hF := hF.2 c_43
        refine lv_aload_n hx hb dX8_sumOf_46 rfl (lv_at hl 0 rfl) ?_
        refine va_get (D := D) (ci := 8) (v := .ref (a 26)) (C := RX8) (T := TX8) (N := 28) hx hb hts (fun _ h9 => List.mem_cons_of_mem _ (List.mem_append_right _ (h9))) hown hK hP 0 rfl rfl 26 (by decide) (hts (.fieldLink RX8 68 "MarbleBenchModel" "weight" "[I") (List.mem_of_getElem? (i := 4) rfl)) (fun _ h9 => h9) rfl dX8_sumOf_47 ?_
        refine lv_iload hx hb dX8_sumOf_50 (lv_at hl 4 rfl) ?_
        obtain ⟨hi52, hF⟩ := hF
        refine va_iald hx hb hK hP 20 0 rfl rfl hi52 dX8_sumOf_52 ?_
        refine lv_goto (tgt := 57) hx hb dX8_sumOf_53 (by decide) ?_
        exact wX8_sumOf_57 C ih M x1 x2 x4 (M 26 x4.toNatClampNeg) x3 _ _ _ hF hP hD hS (lv_sub hl [0, 1, 2, 4] rfl)
noncomputable def PX8_sumOf (N : Nat) (M : mb_m) (x1 x2 : Int32) (K : Int32 → mb_m → Prop) : Prop := ∀ v6 : Int32, v6 = ((20 : Int32) * x1) → (PX8_sumOf_8 N K N M x1 x2 (0 : Int32) v6)
set_option maxHeartbeats 4000000 in
set_option maxRecDepth 100000 in
theorem cnX8_sumOf (l : Launch) (D : va_G) (Y : Nat → ClassId) (N : Nat) (o : Nat) (a : Nat → Nat) (M : mb_m) (sz : Nat) (x1 x2 : Int32) (K : Int32 → mb_m → Prop) (hF : PX8_sumOf N M x1 x2 K) : Met l yX8_sumOf wsX8_sumOf ({ frames := 1, cells := 0, slots := 0, locals := 22 } : Room) (va_Pc [.ref o, .int x1, .int x2] (mb_B D Y (gw8 Y o a M) sz)) (va_Qi K (fun u t => mb_T D (va_A (gw8 Y o a M) sz) (gw8 Y o a u) t) (va_A (gw8 Y o a M) sz)) 0 0 (va_A (gw8 Y o a M) sz) := by
  refine mb_begin (cc := cX8_sumOf) (maxL := 5) (ret := (some .int)) (by decide +kernel) rfl (Nat.le_of_ble_eq_true rfl) ?_
  intro p e s m below meth c ls C hsz hnm hP hD hl
  generalize hAe : va_A (gw8 Y o a M) sz = A at C hD ⊢
  have C : mb_Cx p s m meth c ([.ref o, .int x1, .int x2] : List Value).toArray cX8_sumOf 5 (some .int) wsX8_sumOf RX8 D Y A := C
  obtain ⟨hx, hb, hr, hml, hts, hown, hlocks, hA, hG⟩ := id C
  have hK := hG.1
  have hS : va_S A s.heap s.heap [] := va_S.rf
  have hl : lv_has ls 5 [(0, .ref o), (1, .int x1), (2, .int x2)] := hl
  refine lv_iconst (v := 0) hx hb dX8_sumOf_0 (by decide) ?_
  refine lv_istore_n (lv' := [(3, .int (0 : Int32)), (0, .ref o), (1, .int x1), (2, .int x2)]) hx hb dX8_sumOf_1 rfl hl (by decide) rfl (fun ls hl => ?_)
  refine lv_bipush (v := 20) hx hb dX8_sumOf_2 (by decide) ?_
  refine lv_iload_n hx hb dX8_sumOf_4 rfl (lv_at hl 2 rfl) ?_
  refine lv_imul hx hb dX8_sumOf_5 ?_
  refine lv_topi (fun v6 ev6 => ?_)
  have hF := hF v6 ev6
  refine lv_istore (lv' := [(4, .int v6), (3, .int (0 : Int32)), (0, .ref o), (1, .int x1), (2, .int x2)]) hx hb dX8_sumOf_6 hl (by decide) rfl (fun ls hl => ?_)
  exact wX8_sumOf_8 C N M x1 x2 (0 : Int32) v6 _ _ _ hF hP hD hS (lv_sub hl [2, 3, 4, 1, 0] rfl)
end
section
noncomputable def PX8_best_51 (N : Nat) (K : Int32 → mb_m → Prop) (b9 : mb_m → Int32 → Int32 → Int32 → Int32 → Prop) (M : mb_m) (x1 x2 x4 y0 : Int32) : Prop := ∀ v52 : Int32, v52 = x4 + (1 : Int32) → (b9 M x1 x2 y0 v52)
set_option maxHeartbeats 4000000 in
set_option maxRecDepth 100000 in
theorem wX8_best_51 {p : Program} {l : Launch} {e : Env} {s : State} {m : MethodId} {below : List Frame} {meth : Method} {c : Code} {args : Array Value} {D : va_G} {Y : Nat → ClassId} {A : Nat → Prop} {o : Nat} {a : Nat → Nat} {N : Nat} {K : Int32 → mb_m → Prop} {b9 : mb_m → Int32 → Int32 → Int32 → Int32 → Prop} (C : mb_Cx p s m meth c args cX8_best 6 (some .int) wsX8_best RX8 D Y A) (hb9 : ∀ (M : mb_m) (x1 x2 x3 x4 : Int32) (H : Heap) (locs : List Loc) (ls : Array Slot), b9 M x1 x2 x3 x4 → va_P D vwCl (gw8 Y o a M) H → va_D A (gw8 Y o a M) → va_S A s.heap H locs → lv_has ls 6 [(0, .ref o), (1, .int x1), (2, .int x2), (3, .int x3), (4, .int x4)] → W p l e ({ frames := 2, cells := 0, slots := 0, locals := 46 } : Room) s m args below meth c H locs 0 0 (MQ below (va_Qi K (fun u t => mb_T D A (gw8 Y o a u) t) A) args s 0 0 A) (F0 m 9 ls [])) : ∀ (M : mb_m) (x1 x2 x4 y0 : Int32) (H : Heap) (locs : List Loc) (ls : Array Slot), PX8_best_51 N K b9 M x1 x2 x4 y0 → va_P D vwCl (gw8 Y o a M) H → va_D A (gw8 Y o a M) → va_S A s.heap H locs → lv_has ls 6 [(0, .ref o), (1, .int x1), (2, .int x2), (4, .int x4)] → W p l e ({ frames := 2, cells := 0, slots := 0, locals := 46 } : Room) s m args below meth c H locs 0 0 (MQ below (va_Qi K (fun u t => mb_T D A (gw8 Y o a u) t) A) args s 0 0 A) (F0 m 51 ls [.int y0]) := by
  obtain ⟨hx, hb, hr, hml, hts, hown, hlocks, hA, hG⟩ := id C
  have hK := hG.1
  intro M x1 x2 x4 y0 H locs ls hF hP hD hS hl
  refine lv_istore_n (lv' := [(3, .int y0), (0, .ref o), (1, .int x1), (2, .int x2), (4, .int x4)]) hx hb dX8_best_51 rfl hl (by decide) rfl (fun ls hl => ?_)
  obtain ⟨v52, ev52⟩ : ∃ y : Int32, y = x4 + (1 : Int32) := ⟨_, rfl⟩
  have hF := hF v52 ev52
  refine lv_iinc (v := v52) (lv' := [(4, .int v52), (3, .int y0), (0, .ref o), (1, .int x1), (2, .int x2)]) hx hb dX8_best_52 hl (k := 4) rfl (by rw [ev52]; rfl) (by decide) rfl (fun ls hl => ?_)
  refine lv_goto (tgt := 9) hx hb dX8_best_55 (by decide) ?_
  exact hb9 M x1 x2 y0 v52 _ _ _ hF hP hD hS (lv_sub hl [2, 3, 4, 1, 0] rfl)
noncomputable def PX8_best_38 (N : Nat) (K : Int32 → mb_m → Prop) (b9 : mb_m → Int32 → Int32 → Int32 → Int32 → Prop) (M : mb_m) (x1 x3 x4 x5 y0 : Int32) : Prop := (x5 ≤ x3 → PX8_best_51 N K b9 M x1 y0 x4 x3) ∧ (¬ x5 ≤ x3 → PX8_best_51 N K b9 M x1 y0 x4 x5)
set_option maxHeartbeats 4000000 in
set_option maxRecDepth 100000 in
theorem wX8_best_38 {p : Program} {l : Launch} {e : Env} {s : State} {m : MethodId} {below : List Frame} {meth : Method} {c : Code} {args : Array Value} {D : va_G} {Y : Nat → ClassId} {A : Nat → Prop} {o : Nat} {a : Nat → Nat} {N : Nat} {K : Int32 → mb_m → Prop} {b9 : mb_m → Int32 → Int32 → Int32 → Int32 → Prop} (C : mb_Cx p s m meth c args cX8_best 6 (some .int) wsX8_best RX8 D Y A) (hb9 : ∀ (M : mb_m) (x1 x2 x3 x4 : Int32) (H : Heap) (locs : List Loc) (ls : Array Slot), b9 M x1 x2 x3 x4 → va_P D vwCl (gw8 Y o a M) H → va_D A (gw8 Y o a M) → va_S A s.heap H locs → lv_has ls 6 [(0, .ref o), (1, .int x1), (2, .int x2), (3, .int x3), (4, .int x4)] → W p l e ({ frames := 2, cells := 0, slots := 0, locals := 46 } : Room) s m args below meth c H locs 0 0 (MQ below (va_Qi K (fun u t => mb_T D A (gw8 Y o a u) t) A) args s 0 0 A) (F0 m 9 ls [])) : ∀ (M : mb_m) (x1 x3 x4 x5 y0 : Int32) (H : Heap) (locs : List Loc) (ls : Array Slot), PX8_best_38 N K b9 M x1 x3 x4 x5 y0 → va_P D vwCl (gw8 Y o a M) H → va_D A (gw8 Y o a M) → va_S A s.heap H locs → lv_has ls 6 [(0, .ref o), (1, .int x1), (3, .int x3), (4, .int x4), (5, .int x5)] → W p l e ({ frames := 2, cells := 0, slots := 0, locals := 46 } : Room) s m args below meth c H locs 0 0 (MQ below (va_Qi K (fun u t => mb_T D A (gw8 Y o a u) t) A) args s 0 0 A) (F0 m 38 ls [.int y0]) := by
  obtain ⟨hx, hb, hr, hml, hts, hown, hlocks, hA, hG⟩ := id C
  have hK := hG.1
  intro M x1 x3 x4 x5 y0 H locs ls hF hP hD hS hl
  refine lv_istore_n (lv' := [(2, .int y0), (0, .ref o), (1, .int x1), (3, .int x3), (4, .int x4), (5, .int x5)]) hx hb dX8_best_38 rfl hl (by decide) rfl (fun ls hl => ?_)
  refine lv_iload hx hb dX8_best_39 (lv_at hl 5 rfl) ?_
  refine lv_iload_n hx hb dX8_best_41 rfl (lv_at hl 3 rfl) ?_
  refine lv_icmp_le (tgt := 50) hx hb dX8_best_42 (by decide) (fun c_42 => ?_) (fun c_42 => ?_)
  · have hF := hF.1 c_42
    refine lv_iload_n hx hb dX8_best_50 rfl (lv_at hl 3 rfl) ?_
    exact wX8_best_51 C hb9 M x1 y0 x4 x3 _ _ _ hF hP hD hS (lv_sub hl [1, 2, 0, 4] rfl)
  · have hF := hF.2 c_42
    refine lv_iload hx hb dX8_best_45 (lv_at hl 5 rfl) ?_
    refine lv_goto (tgt := 51) hx hb dX8_best_47 (by decide) ?_
    exact wX8_best_51 C hb9 M x1 y0 x4 x5 _ _ _ hF hP hD hS (lv_sub hl [1, 2, 0, 4] rfl)
noncomputable def PX8_best_9_b (N : Nat) (K : Int32 → mb_m → Prop) (b9 : mb_m → Int32 → Int32 → Int32 → Int32 → Prop) (M : mb_m) (x1 x2 x3 x4 : Int32) : Prop := ((2000 : Int32) < x4 → K x2 M) ∧ (¬ (2000 : Int32) < x4 → PX8_sumOf N M x1 x4 (fun r21 M21 => (r21 ≤ x3 → PX8_best_38 N K b9 M21 x1 x3 x4 r21 x2) ∧ (¬ r21 ≤ x3 → PX8_best_38 N K b9 M21 x1 x3 x4 r21 x4)))
noncomputable def PX8_best_9 (N : Nat) (K : Int32 → mb_m → Prop) (n : Nat) : mb_m → Int32 → Int32 → Int32 → Int32 → Prop := Nat.rec (motive := fun _ => mb_m → Int32 → Int32 → Int32 → Int32 → Prop) (fun _ _ _ _ _ => False) (fun _ b9 => PX8_best_9_b N K  b9) n
set_option maxHeartbeats 4000000 in
set_option maxRecDepth 100000 in
theorem wX8_best_9 {p : Program} {l : Launch} {e : Env} {s : State} {m : MethodId} {below : List Frame} {meth : Method} {c : Code} {args : Array Value} {D : va_G} {Y : Nat → ClassId} {A : Nat → Prop} {o : Nat} {a : Nat → Nat} {N : Nat} {K : Int32 → mb_m → Prop} (C : mb_Cx p s m meth c args cX8_best 6 (some .int) wsX8_best RX8 D Y A) : ∀ (n : Nat), (∀ (M : mb_m) (x1 x2 x3 x4 : Int32) (H : Heap) (locs : List Loc) (ls : Array Slot), PX8_best_9 N K  n M x1 x2 x3 x4 → va_P D vwCl (gw8 Y o a M) H → va_D A (gw8 Y o a M) → va_S A s.heap H locs → lv_has ls 6 [(0, .ref o), (1, .int x1), (2, .int x2), (3, .int x3), (4, .int x4)] → W p l e ({ frames := 2, cells := 0, slots := 0, locals := 46 } : Room) s m args below meth c H locs 0 0 (MQ below (va_Qi K (fun u t => mb_T D A (gw8 Y o a u) t) A) args s 0 0 A) (F0 m 9 ls [])) := by
  obtain ⟨hx, hb, hr, hml, hts, hown, hlocks, hA, hG⟩ := id C
  have hK := hG.1
  intro n
  induction n with
  | zero => intro M x1 x2 x3 x4 H locs ls hF; exact (show False from hF).elim
  | succ n ih =>
    intro M x1 x2 x3 x4 H locs ls hF hP hD hS hl
    have hF : PX8_best_9_b N K  (PX8_best_9 N K  n) M x1 x2 x3 x4 := hF
    refine lv_iload hx hb dX8_best_9 (lv_at hl 4 rfl) ?_
    refine lv_sipush (v := 2000) hx hb dX8_best_11 (by decide) ?_
    refine lv_icmp_gt (tgt := 58) hx hb dX8_best_14 (by decide) (fun c_14 => ?_) (fun c_14 => ?_)
    · have hF := hF.1 c_14
      refine lv_iload_n hx hb dX8_best_58 rfl (lv_at hl 2 rfl) ?_
      exact mb_ri (S := mb_m) (mc := 0) (ms := 0) (wf := fun u => gw8 Y o a u) C rfl (u := M) hF hP hD hS dX8_best_59 (Nat.le_of_ble_eq_true rfl) (Nat.le_of_ble_eq_true rfl)
    · have hF := hF.2 c_14
      refine lv_aload_n hx hb dX8_best_17 rfl (lv_at hl 0 rfl) ?_
      refine lv_iload_n hx hb dX8_best_18 rfl (lv_at hl 1 rfl) ?_
      refine lv_iload hx hb dX8_best_19 (lv_at hl 4 rfl) ?_
      refine mb_cW hD hS hA (va_runV (As := [.int x1, .int x4]) (rest := []) ⟨hx, hb, hml, hown, hts⟩ (cnX8_sumOf l D Y N o a M _ x1 x4 _ hF) (cwV 2 hts gX8_best_X8_sumOf rfl rfl rfl (by decide +kernel) ⟨Nat.le_of_ble_eq_true rfl, Nat.le_of_ble_eq_true rfl⟩) (mb_preV hG hP hD 0 rfl rfl) rfl rfl hl.1 rfl (lv_room (Nat.le_of_ble_eq_true rfl)) dX8_best_21 ⟨Nat.le_of_ble_eq_true rfl, Nat.le_of_ble_eq_true rfl⟩) (fun r21 M21 H locs hF hP hD hS => ?_)
      refine lv_istore (lv' := [(5, .int r21), (0, .ref o), (1, .int x1), (2, .int x2), (3, .int x3), (4, .int x4)]) hx hb dX8_best_24 hl (by decide) rfl (fun ls hl => ?_)
      refine lv_iload hx hb dX8_best_26 (lv_at hl 0 rfl) ?_
      refine lv_iload_n hx hb dX8_best_28 rfl (lv_at hl 4 rfl) ?_
      refine lv_icmp_le (tgt := 37) hx hb dX8_best_29 (by decide) (fun c_29 => ?_) (fun c_29 => ?_)
      · have hF := hF.1 c_29
        refine lv_iload_n hx hb dX8_best_37 rfl (lv_at hl 3 rfl) ?_
        exact wX8_best_38 C ih M21 x1 x3 x4 r21 x2 _ _ _ hF hP hD hS (lv_sub hl [1, 2, 4, 5, 0] rfl)
      · have hF := hF.2 c_29
        refine lv_iload hx hb dX8_best_32 (lv_at hl 5 rfl) ?_
        refine lv_goto (tgt := 38) hx hb dX8_best_34 (by decide) ?_
        exact wX8_best_38 C ih M21 x1 x3 x4 r21 x4 _ _ _ hF hP hD hS (lv_sub hl [1, 2, 4, 5, 0] rfl)
noncomputable def PX8_best (N : Nat) (M : mb_m) (x1 : Int32) (K : Int32 → mb_m → Prop) : Prop := PX8_best_9 N K N M x1 (-1 : Int32) (0 : Int32) (1400 : Int32)
set_option maxHeartbeats 4000000 in
set_option maxRecDepth 100000 in
theorem cnX8_best (l : Launch) (D : va_G) (Y : Nat → ClassId) (N : Nat) (o : Nat) (a : Nat → Nat) (M : mb_m) (sz : Nat) (x1 : Int32) (K : Int32 → mb_m → Prop) (hF : PX8_best N M x1 K) : Met l yX8_best wsX8_best ({ frames := 2, cells := 0, slots := 0, locals := 46 } : Room) (va_Pc [.ref o, .int x1] (mb_B D Y (gw8 Y o a M) sz)) (va_Qi K (fun u t => mb_T D (va_A (gw8 Y o a M) sz) (gw8 Y o a u) t) (va_A (gw8 Y o a M) sz)) 0 0 (va_A (gw8 Y o a M) sz) := by
  refine mb_begin (cc := cX8_best) (maxL := 6) (ret := (some .int)) (by decide +kernel) rfl (Nat.le_of_ble_eq_true rfl) ?_
  intro p e s m below meth c ls C hsz hnm hP hD hl
  generalize hAe : va_A (gw8 Y o a M) sz = A at C hD ⊢
  have C : mb_Cx p s m meth c ([.ref o, .int x1] : List Value).toArray cX8_best 6 (some .int) wsX8_best RX8 D Y A := C
  obtain ⟨hx, hb, hr, hml, hts, hown, hlocks, hA, hG⟩ := id C
  have hK := hG.1
  have hS : va_S A s.heap s.heap [] := va_S.rf
  have hl : lv_has ls 6 [(0, .ref o), (1, .int x1)] := hl
  refine lv_iconst (v := -1) hx hb dX8_best_0 (by decide) ?_
  refine lv_istore_n (lv' := [(2, .int (-1 : Int32)), (0, .ref o), (1, .int x1)]) hx hb dX8_best_1 rfl hl (by decide) rfl (fun ls hl => ?_)
  refine lv_iconst (v := 0) hx hb dX8_best_2 (by decide) ?_
  refine lv_istore_n (lv' := [(3, .int (0 : Int32)), (2, .int (-1 : Int32)), (0, .ref o), (1, .int x1)]) hx hb dX8_best_3 rfl hl (by decide) rfl (fun ls hl => ?_)
  refine lv_sipush (v := 1400) hx hb dX8_best_4 (by decide) ?_
  refine lv_istore (lv' := [(4, .int (1400 : Int32)), (3, .int (0 : Int32)), (2, .int (-1 : Int32)), (0, .ref o), (1, .int x1)]) hx hb dX8_best_7 hl (by decide) rfl (fun ls hl => ?_)
  exact wX8_best_9 C N M x1 (-1 : Int32) (0 : Int32) (1400 : Int32) _ _ _ hF hP hD hS (lv_sub hl [3, 4, 2, 1, 0] rfl)
end
section
noncomputable def PX8_year_62 (N : Nat) (K : Int32 → mb_m → Prop) (M : mb_m) (x2 x3 x4 : Int32) : Prop := (x2 = 0 → K x3 M) ∧ (¬ x2 = 0 → K x4 M)
set_option maxHeartbeats 4000000 in
set_option maxRecDepth 100000 in
theorem wX8_year_62 {p : Program} {l : Launch} {e : Env} {s : State} {m : MethodId} {below : List Frame} {meth : Method} {c : Code} {args : Array Value} {D : va_G} {Y : Nat → ClassId} {A : Nat → Prop} {o : Nat} {a : Nat → Nat} {N : Nat} {K : Int32 → mb_m → Prop} (C : mb_Cx p s m meth c args cX8_year 5 (some .int) wsX8_year RX8 D Y A) : ∀ (M : mb_m) (x2 x3 x4 : Int32) (H : Heap) (locs : List Loc) (ls : Array Slot), PX8_year_62 N K  M x2 x3 x4 → va_P D vwCl (gw8 Y o a M) H → va_D A (gw8 Y o a M) → va_S A s.heap H locs → lv_has ls 5 [(2, .int x2), (3, .int x3), (4, .int x4)] → W p l e ({ frames := 3, cells := 0, slots := 0, locals := 71 } : Room) s m args below meth c H locs 0 0 (MQ below (va_Qi K (fun u t => mb_T D A (gw8 Y o a u) t) A) args s 0 0 A) (F0 m 62 ls []) := by
  obtain ⟨hx, hb, hr, hml, hts, hown, hlocks, hA, hG⟩ := id C
  have hK := hG.1
  intro M x2 x3 x4 H locs ls hF hP hD hS hl
  refine lv_iload_n hx hb dX8_year_62 rfl (lv_at hl 0 rfl) ?_
  refine lv_if_eq (tgt := 71) hx hb dX8_year_63 (by decide) (fun c_63 => ?_) (fun c_63 => ?_)
  · have hF := hF.1 c_63
    refine lv_iload_n hx hb dX8_year_71 rfl (lv_at hl 1 rfl) ?_
    exact mb_ri (S := mb_m) (mc := 0) (ms := 0) (wf := fun u => gw8 Y o a u) C rfl (u := M) hF hP hD hS dX8_year_72 (Nat.le_of_ble_eq_true rfl) (Nat.le_of_ble_eq_true rfl)
  · have hF := hF.2 c_63
    refine lv_iload hx hb dX8_year_66 (lv_at hl 2 rfl) ?_
    refine lv_goto (tgt := 72) hx hb dX8_year_68 (by decide) ?_
    exact mb_ri (S := mb_m) (mc := 0) (ms := 0) (wf := fun u => gw8 Y o a u) C rfl (u := M) hF hP hD hS dX8_year_72 (Nat.le_of_ble_eq_true rfl) (Nat.le_of_ble_eq_true rfl)
noncomputable def PX8_year_25_b (N : Nat) (K : Int32 → mb_m → Prop) (b25 : mb_m → Int32 → Int32 → Int32 → Int32 → Prop) (M : mb_m) (x1 x2 x3 x4 : Int32) : Prop := (x3 = (-1 : Int32) → PX8_year_62 N K M x2 x3 x4) ∧ (¬ x3 = (-1 : Int32) → ((2000 : Int32) ≤ x4 → PX8_year_62 N K M x2 x3 x4) ∧ (¬ (2000 : Int32) ≤ x4 → PX8_sumOf N M x1 (x4 + (1 : Int32)) (fun r44 M44 => PX8_sumOf N M44 x1 x3 (fun r50 M50 => (¬ r44 = r50 → PX8_year_62 N K M50 x2 x3 x4) ∧ (r44 = r50 → ∀ v56 : Int32, v56 = x4 + (1 : Int32) → (b25 M50 x1 x2 x3 v56))))))
noncomputable def PX8_year_25 (N : Nat) (K : Int32 → mb_m → Prop) (n : Nat) : mb_m → Int32 → Int32 → Int32 → Int32 → Prop := Nat.rec (motive := fun _ => mb_m → Int32 → Int32 → Int32 → Int32 → Prop) (fun _ _ _ _ _ => False) (fun _ b25 => PX8_year_25_b N K  b25) n
set_option maxHeartbeats 4000000 in
set_option maxRecDepth 100000 in
theorem wX8_year_25 {p : Program} {l : Launch} {e : Env} {s : State} {m : MethodId} {below : List Frame} {meth : Method} {c : Code} {args : Array Value} {D : va_G} {Y : Nat → ClassId} {A : Nat → Prop} {o : Nat} {a : Nat → Nat} {N : Nat} {K : Int32 → mb_m → Prop} (C : mb_Cx p s m meth c args cX8_year 5 (some .int) wsX8_year RX8 D Y A) : ∀ (n : Nat), (∀ (M : mb_m) (x1 x2 x3 x4 : Int32) (H : Heap) (locs : List Loc) (ls : Array Slot), PX8_year_25 N K  n M x1 x2 x3 x4 → va_P D vwCl (gw8 Y o a M) H → va_D A (gw8 Y o a M) → va_S A s.heap H locs → lv_has ls 5 [(0, .ref o), (1, .int x1), (2, .int x2), (3, .int x3), (4, .int x4)] → W p l e ({ frames := 3, cells := 0, slots := 0, locals := 71 } : Room) s m args below meth c H locs 0 0 (MQ below (va_Qi K (fun u t => mb_T D A (gw8 Y o a u) t) A) args s 0 0 A) (F0 m 25 ls [])) := by
  obtain ⟨hx, hb, hr, hml, hts, hown, hlocks, hA, hG⟩ := id C
  have hK := hG.1
  intro n
  induction n with
  | zero => intro M x1 x2 x3 x4 H locs ls hF; exact (show False from hF).elim
  | succ n ih =>
    intro M x1 x2 x3 x4 H locs ls hF hP hD hS hl
    have hF : PX8_year_25_b N K  (PX8_year_25 N K  n) M x1 x2 x3 x4 := hF
    refine lv_iload_n hx hb dX8_year_25 rfl (lv_at hl 3 rfl) ?_
    refine lv_iconst (v := -1) hx hb dX8_year_26 (by decide) ?_
    refine lv_icmp_eq (tgt := 62) hx hb dX8_year_27 (by decide) (fun c_27 => ?_) (fun c_27 => ?_)
    · have hF := hF.1 c_27
      exact wX8_year_62 C M x2 x3 x4 _ _ _ hF hP hD hS (lv_sub hl [2, 3, 4] rfl)
    · have hF := hF.2 c_27
      refine lv_iload hx hb dX8_year_30 (lv_at hl 4 rfl) ?_
      refine lv_sipush (v := 2000) hx hb dX8_year_32 (by decide) ?_
      refine lv_icmp_ge (tgt := 62) hx hb dX8_year_35 (by decide) (fun c_35 => ?_) (fun c_35 => ?_)
      · have hF := hF.1 c_35
        exact wX8_year_62 C M x2 x3 x4 _ _ _ hF hP hD hS (lv_sub hl [2, 3, 4] rfl)
      · have hF := hF.2 c_35
        refine lv_aload_n hx hb dX8_year_38 rfl (lv_at hl 0 rfl) ?_
        refine lv_iload_n hx hb dX8_year_39 rfl (lv_at hl 1 rfl) ?_
        refine lv_iload hx hb dX8_year_40 (lv_at hl 4 rfl) ?_
        refine lv_iconst (v := 1) hx hb dX8_year_42 (by decide) ?_
        refine lv_iadd hx hb dX8_year_43 ?_
        refine mb_cW hD hS hA (va_runV (As := [.int x1, .int (x4 + (1 : Int32))]) (rest := []) ⟨hx, hb, hml, hown, hts⟩ (cnX8_sumOf l D Y N o a M _ x1 (x4 + (1 : Int32)) _ hF) (cwV 2 hts gX8_year_X8_sumOf rfl rfl rfl (by decide +kernel) ⟨Nat.le_of_ble_eq_true rfl, Nat.le_of_ble_eq_true rfl⟩) (mb_preV hG hP hD 0 rfl rfl) rfl rfl hl.1 rfl (lv_room (Nat.le_of_ble_eq_true rfl)) dX8_year_44 ⟨Nat.le_of_ble_eq_true rfl, Nat.le_of_ble_eq_true rfl⟩) (fun r44 M44 H locs hF hP hD hS => ?_)
        refine lv_aload_n hx hb dX8_year_47 rfl (lv_at hl 0 rfl) ?_
        refine lv_iload_n hx hb dX8_year_48 rfl (lv_at hl 1 rfl) ?_
        refine lv_iload_n hx hb dX8_year_49 rfl (lv_at hl 3 rfl) ?_
        refine mb_cW hD hS hA (va_runV (As := [.int x1, .int x3]) (rest := [.int r44]) ⟨hx, hb, hml, hown, hts⟩ (cnX8_sumOf l D Y N o a M44 _ x1 x3 _ hF) (cwV 2 hts gX8_year_X8_sumOf rfl rfl rfl (by decide +kernel) ⟨Nat.le_of_ble_eq_true rfl, Nat.le_of_ble_eq_true rfl⟩) (mb_preV hG hP hD 0 rfl rfl) rfl rfl hl.1 rfl (lv_room (Nat.le_of_ble_eq_true rfl)) dX8_year_50 ⟨Nat.le_of_ble_eq_true rfl, Nat.le_of_ble_eq_true rfl⟩) (fun r50 M50 H locs hF hP hD hS => ?_)
        refine lv_icmp_ne (tgt := 62) hx hb dX8_year_53 (by decide) (fun c_53 => ?_) (fun c_53 => ?_)
        · have hF := hF.1 c_53
          exact wX8_year_62 C M50 x2 x3 x4 _ _ _ hF hP hD hS (lv_sub hl [2, 3, 4] rfl)
        · have hF := hF.2 c_53
          obtain ⟨v56, ev56⟩ : ∃ y : Int32, y = x4 + (1 : Int32) := ⟨_, rfl⟩
          have hF := hF v56 ev56
          refine lv_iinc (v := v56) (lv' := [(4, .int v56), (0, .ref o), (1, .int x1), (2, .int x2), (3, .int x3)]) hx hb dX8_year_56 hl (k := 4) rfl (by rw [ev56]; rfl) (by decide) rfl (fun ls hl => ?_)
          refine lv_goto (tgt := 25) hx hb dX8_year_59 (by decide) ?_
          exact ih M50 x1 x2 x3 v56 _ _ _ hF hP hD hS (lv_sub hl [1, 2, 3, 4, 0] rfl)
noncomputable def PX8_year (N : Nat) (M : mb_m) (x1 x2 : Int32) (K : Int32 → mb_m → Prop) : Prop := PX8_isBook N M x1 (fun r3 M3 => PX8_goes N M3 r3 (1 : Int32) (1 : Int32) (fun r8 M8 => (¬ r8 = 0 → PX8_best N M8 x1 (fun r18 M18 => PX8_year_25 N K N M18 x1 x2 r18 r18)) ∧ (r8 = 0 → K (0 : Int32) M8)))
set_option maxHeartbeats 4000000 in
set_option maxRecDepth 100000 in
theorem cnX8_year (l : Launch) (D : va_G) (Y : Nat → ClassId) (N : Nat) (o : Nat) (a : Nat → Nat) (M : mb_m) (sz : Nat) (x1 x2 : Int32) (K : Int32 → mb_m → Prop) (hF : PX8_year N M x1 x2 K) : Met l yX8_year wsX8_year ({ frames := 3, cells := 0, slots := 0, locals := 71 } : Room) (va_Pc [.ref o, .int x1, .int x2] (mb_B D Y (gw8 Y o a M) sz)) (va_Qi K (fun u t => mb_T D (va_A (gw8 Y o a M) sz) (gw8 Y o a u) t) (va_A (gw8 Y o a M) sz)) 0 0 (va_A (gw8 Y o a M) sz) := by
  refine mb_begin (cc := cX8_year) (maxL := 5) (ret := (some .int)) (by decide +kernel) rfl (Nat.le_of_ble_eq_true rfl) ?_
  intro p e s m below meth c ls C hsz hnm hP hD hl
  generalize hAe : va_A (gw8 Y o a M) sz = A at C hD ⊢
  have C : mb_Cx p s m meth c ([.ref o, .int x1, .int x2] : List Value).toArray cX8_year 5 (some .int) wsX8_year RX8 D Y A := C
  obtain ⟨hx, hb, hr, hml, hts, hown, hlocks, hA, hG⟩ := id C
  have hK := hG.1
  have hS : va_S A s.heap s.heap [] := va_S.rf
  have hl : lv_has ls 5 [(0, .ref o), (1, .int x1), (2, .int x2)] := hl
  refine lv_aload_n hx hb dX8_year_0 rfl (lv_at hl 0 rfl) ?_
  refine lv_aload_n hx hb dX8_year_1 rfl (lv_at hl 0 rfl) ?_
  refine lv_iload_n hx hb dX8_year_2 rfl (lv_at hl 1 rfl) ?_
  refine mb_cW hD hS hA (va_runV (As := [.int x1]) (rest := [.ref o]) ⟨hx, hb, hml, hown, hts⟩ (cnX8_isBook l D Y N o a M _ x1 _ hF) (cwV 1 hts gX8_year_X8_isBook rfl rfl rfl (by decide +kernel) ⟨Nat.le_of_ble_eq_true rfl, Nat.le_of_ble_eq_true rfl⟩) (mb_preV hG hP hD 0 rfl rfl) rfl rfl hl.1 rfl (lv_room (Nat.le_of_ble_eq_true rfl)) dX8_year_3 ⟨Nat.le_of_ble_eq_true rfl, Nat.le_of_ble_eq_true rfl⟩) (fun r3 M3 H locs hF hP hD hS => ?_)
  refine lv_iconst (v := 1) hx hb dX8_year_6 (by decide) ?_
  refine lv_iconst (v := 1) hx hb dX8_year_7 (by decide) ?_
  refine mb_cW hD hS hA (va_runV (As := [.int r3, .int (1 : Int32), .int (1 : Int32)]) (rest := []) ⟨hx, hb, hml, hown, hts⟩ (cnX8_goes l D Y N o a M3 _ r3 (1 : Int32) (1 : Int32) _ hF) (cwV 3 hts gX8_year_X8_goes rfl rfl rfl (by decide +kernel) ⟨Nat.le_of_ble_eq_true rfl, Nat.le_of_ble_eq_true rfl⟩) (mb_preV hG hP hD 0 rfl rfl) rfl rfl hl.1 rfl (lv_room (Nat.le_of_ble_eq_true rfl)) dX8_year_8 ⟨Nat.le_of_ble_eq_true rfl, Nat.le_of_ble_eq_true rfl⟩) (fun r8 M8 H locs hF hP hD hS => ?_)
  refine lv_if_ne (tgt := 16) hx hb dX8_year_11 (by decide) (fun c_11 => ?_) (fun c_11 => ?_)
  · have hF := hF.1 c_11
    refine lv_aload_n hx hb dX8_year_16 rfl (lv_at hl 0 rfl) ?_
    refine lv_iload_n hx hb dX8_year_17 rfl (lv_at hl 1 rfl) ?_
    refine mb_cW hD hS hA (va_runV (As := [.int x1]) (rest := []) ⟨hx, hb, hml, hown, hts⟩ (cnX8_best l D Y N o a M8 _ x1 _ hF) (cwV 1 hts gX8_year_X8_best rfl rfl rfl (by decide +kernel) ⟨Nat.le_of_ble_eq_true rfl, Nat.le_of_ble_eq_true rfl⟩) (mb_preV hG hP hD 0 rfl rfl) rfl rfl hl.1 rfl (lv_room (Nat.le_of_ble_eq_true rfl)) dX8_year_18 ⟨Nat.le_of_ble_eq_true rfl, Nat.le_of_ble_eq_true rfl⟩) (fun r18 M18 H locs hF hP hD hS => ?_)
    refine lv_istore_n (lv' := [(3, .int r18), (0, .ref o), (1, .int x1), (2, .int x2)]) hx hb dX8_year_21 rfl hl (by decide) rfl (fun ls hl => ?_)
    refine lv_iload_n hx hb dX8_year_22 rfl (lv_at hl 0 rfl) ?_
    refine lv_istore (lv' := [(4, .int r18), (3, .int r18), (0, .ref o), (1, .int x1), (2, .int x2)]) hx hb dX8_year_23 hl (by decide) rfl (fun ls hl => ?_)
    exact wX8_year_25 C N M18 x1 x2 r18 r18 _ _ _ hF hP hD hS (lv_sub hl [2, 3, 4, 1, 0] rfl)
  · have hF := hF.2 c_11
    refine lv_iconst (v := 0) hx hb dX8_year_14 (by decide) ?_
    exact mb_ri (S := mb_m) (mc := 0) (ms := 0) (wf := fun u => gw8 Y o a u) C rfl (u := M8) hF hP hD hS dX8_year_15 (Nat.le_of_ble_eq_true rfl) (Nat.le_of_ble_eq_true rfl)
end
section
noncomputable def PX8_yearAnew (N : Nat) (M : mb_m) (x1 x2 : Int32) (K : Int32 → mb_m → Prop) : Prop := PX8_year N M x1 x2 (fun r3 M3 => K r3 M3)
set_option maxHeartbeats 4000000 in
set_option maxRecDepth 100000 in
theorem cnX8_yearAnew (l : Launch) (D : va_G) (Y : Nat → ClassId) (N : Nat) (o : Nat) (a : Nat → Nat) (M : mb_m) (sz : Nat) (x1 x2 : Int32) (K : Int32 → mb_m → Prop) (hF : PX8_yearAnew N M x1 x2 K) : Met l yX8_yearAnew wsX8_yearAnew ({ frames := 4, cells := 0, slots := 0, locals := 95 } : Room) (va_Pc [.ref o, .int x1, .int x2] (mb_B D Y (gw8 Y o a M) sz)) (va_Qi K (fun u t => mb_T D (va_A (gw8 Y o a M) sz) (gw8 Y o a u) t) (va_A (gw8 Y o a M) sz)) 0 0 (va_A (gw8 Y o a M) sz) := by
  refine mb_begin (cc := cX8_yearAnew) (maxL := 3) (ret := (some .int)) (by decide +kernel) rfl (Nat.le_of_ble_eq_true rfl) ?_
  intro p e s m below meth c ls C hsz hnm hP hD hl
  generalize hAe : va_A (gw8 Y o a M) sz = A at C hD ⊢
  have C : mb_Cx p s m meth c ([.ref o, .int x1, .int x2] : List Value).toArray cX8_yearAnew 3 (some .int) wsX8_yearAnew RX8 D Y A := C
  obtain ⟨hx, hb, hr, hml, hts, hown, hlocks, hA, hG⟩ := id C
  have hK := hG.1
  have hS : va_S A s.heap s.heap [] := va_S.rf
  have hl : lv_has ls 3 [(0, .ref o), (1, .int x1), (2, .int x2)] := hl
  refine lv_aload_n hx hb dX8_yearAnew_0 rfl (lv_at hl 0 rfl) ?_
  refine lv_iload_n hx hb dX8_yearAnew_1 rfl (lv_at hl 1 rfl) ?_
  refine lv_iload_n hx hb dX8_yearAnew_2 rfl (lv_at hl 2 rfl) ?_
  refine mb_cW hD hS hA (va_runV (As := [.int x1, .int x2]) (rest := []) ⟨hx, hb, hml, hown, hts⟩ (cnX8_year l D Y N o a M _ x1 x2 _ hF) (cwV 2 hts gX8_yearAnew_X8_year rfl rfl rfl (by decide +kernel) ⟨Nat.le_of_ble_eq_true rfl, Nat.le_of_ble_eq_true rfl⟩) (mb_preV hG hP hD 0 rfl rfl) rfl rfl hl.1 rfl (lv_room (Nat.le_of_ble_eq_true rfl)) dX8_yearAnew_3 ⟨Nat.le_of_ble_eq_true rfl, Nat.le_of_ble_eq_true rfl⟩) (fun r3 M3 H locs hF hP hD hS => ?_)
  exact mb_ri (S := mb_m) (mc := 0) (ms := 0) (wf := fun u => gw8 Y o a u) C rfl (u := M3) hF hP hD hS dX8_yearAnew_6 (Nat.le_of_ble_eq_true rfl) (Nat.le_of_ble_eq_true rfl)
end
