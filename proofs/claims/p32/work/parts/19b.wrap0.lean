noncomputable def LP_drop (N : Nat) (b : mb_bs) (F : mb_m) (x1 x2 x3 x4 : Int32) (K : Int32 → mb_S → Prop) : Prop := BP_drop N b.1 b.2.1 b.2.2.1 b.2.2.2.1 b.2.2.2.2.1 b.2.2.2.2.2.1 b.2.2.2.2.2.2.1 b.2.2.2.2.2.2.2 x1 x2 x3 x4 (fun r b1 => K r (b1, F)) (fun E b1 => (E = eO ∧ K (-1000001) (b1, F)) ∨ (E = eA ∧ K (-1000002) (b1, F)))
set_option maxHeartbeats 4000000 in
set_option maxRecDepth 100000 in
theorem cw_drop (l : Launch) (hl0 : l.stackTraces = false) (D : va_G) (Y : Nat → ClassId) (N : Nat) (o : Nat) (a aa ad : Nat → Nat) (b : mb_bs) (F : mb_m) (sz : Nat) (x1 x2 x3 x4 : Int32) (K : Int32 → mb_S → Prop) (hF : LP_drop N b F x1 x2 x3 x4 K) : Met l yL_drop wsL_drop ({ frames := 8, cells := 2, slots := 12, locals := 134 } : Room) (va_Pc [.ref o, .int x1, .int x2, .int x3, .int x4] (mb_BL D Y (wW Y o a aa ad b F) sz)) (va_Qi K (fun u t => mb_T D (va_A (wW Y o a aa ad b F) sz) (wW Y o a aa ad u.1 u.2) t) (va_A (wW Y o a aa ad b F) sz)) 2 12 (va_A (wW Y o a aa ad b F) sz) := by
  unfold LP_drop at hF
  refine mbl_begin (cc := cL_drop) (maxL := 6) (ret := some .int) (hh := [(0, 9, 10, 16), (0, 9, 15, 19)]) hl0 (by decide +kernel) rfl (Nat.le_of_ble_eq_true rfl) ?_
  intro p e s m below meth c ls C hsz hP hD hl
  generalize hAe : va_A (wW Y o a aa ad b F) sz = A at C hD ⊢
  have C : mb_CL l p s m meth c ([.ref o, .int x1, .int x2, .int x3, .int x4] : List Value).toArray cL_drop 6 (some .int) wsL_drop RL D Y A [(0, 9, 10, 16), (0, 9, 15, 19)] := C
  obtain ⟨⟨hx, hb, hr, hml, hts, hown, hlocks, hA, hG⟩, hT, hX, hl0, hN⟩ := id C
  have hK := hG.1
  have hS : va_S A s.heap s.heap [] := va_S.rf
  have hl : lv_has ls 6 [(0, .ref o), (1, .int x1), (2, .int x2), (3, .int x3), (4, .int x4)] := hl
  refine lv_aload_n hx hb dL_drop_0 rfl (lv_at hl 0 rfl) ?_
  refine lv_iload_n hx hb dL_drop_1 rfl (lv_at hl 1 rfl) ?_
  refine lv_iload_n hx hb dL_drop_2 rfl (lv_at hl 2 rfl) ?_
  refine lv_iload_n hx hb dL_drop_3 rfl (lv_at hl 3 rfl) ?_
  refine lv_iload hx hb dL_drop_4 (lv_at hl 4 rfl) ?_
  refine mbl_cW (wf := fun u : mb_bs => wW Y o a aa ad u F) C hD hS (vx_runV (As := [.int x1, .int x2, .int x3, .int x4]) (rest := []) ⟨hx, hb, hml, hown, hts⟩ (mbx_fr (W := wW Y o a aa ad b F) (wr := wR Y ad F) (WF := fun u : mb_bs => wW Y o a aa ad u F) (fun u => u) (fun u => u) wW_p (fun u => wW_p) (fun u => wW_p) (fun _ _ h => h) (fun _ _ h => h) (cf_drop l hl0 D Y N o a aa _ _ _ _ _ _ _ _ _ x1 x2 x3 x4 _ _ hF)) (cwV 4 hts gL_drop_X7_drop rfl rfl rfl (by decide +kernel) ⟨(Nat.le_of_ble_eq_true rfl), (Nat.le_of_ble_eq_true rfl)⟩) (mbl_preV C hP hD hS 5 rfl rfl) rfl rfl hl.1 rfl (lv_room (Nat.le_of_ble_eq_true rfl)) dL_drop_6 ⟨(Nat.le_of_ble_eq_true rfl), (Nat.le_of_ble_eq_true rfl)⟩) (fun E ce q9 u H locs hF hP hD hS hce hcv hcl => ?_) (fun r u H locs hF hP hD hS => ?_)
  · rcases hF with ⟨rfl, hF⟩ | ⟨rfl, hF⟩
    · refine vx_catch (own := RL) (name := "java/lang/IndexOutOfBoundsException") hown [] ⟨0, 9, 10, 16⟩ [⟨0, 9, 15, 19⟩] (by rw [hT]; rfl) (fun z h => absurd h List.not_mem_nil) rfl (by decide) (hts (.classLink RL 16 "java/lang/IndexOutOfBoundsException") (List.mem_of_getElem? (i := 1) rfl)) (va_Nw.use rfl (hG.2.1 _ (List.mem_of_getElem? (i := 27) rfl))) hce hcv hcl ?_
      refine lv_astore (lv' := [(5, .ref q9), (0, .ref o), (1, .int x1), (2, .int x2), (3, .int x3), (4, .int x4)]) hx hb dL_drop_10 hl (by decide) rfl (fun ls hl => ?_)
      refine lv_ldc (v := -1000001) hx hb hown (hts (.constant RL 18 (-1000001)) (List.mem_of_getElem? (i := 3) rfl)) dL_drop_12 ?_
      exact mb_ri (S := mb_S) (wf := fun u => wW Y o a aa ad u.1 u.2) C.1 rfl (u := (u, F)) hF hP hD hS dL_drop_14 (Nat.le_of_ble_eq_true rfl) (Nat.le_of_ble_eq_true rfl)
    · refine vx_catch (own := RL) (name := "java/lang/IllegalArgumentException") hown [⟨0, 9, 10, 16⟩] ⟨0, 9, 15, 19⟩ [] (by rw [hT]; rfl) (fun z h => by
        simp only [List.mem_cons, List.not_mem_nil, or_false] at h
        rcases h with rfl
        · exact Or.inr ⟨by decide, _, (hts (.classLink RL 16 "java/lang/IndexOutOfBoundsException") (List.mem_of_getElem? (i := 1) rfl)), hN.1⟩) rfl (by decide) (hts (.classLink RL 19 "java/lang/IllegalArgumentException") (List.mem_of_getElem? (i := 2) rfl)) (va_Nw.use rfl (hG.2.1 _ (List.mem_of_getElem? (i := 28) rfl))) hce hcv hcl ?_
      refine lv_astore (lv' := [(5, .ref q9), (0, .ref o), (1, .int x1), (2, .int x2), (3, .int x3), (4, .int x4)]) hx hb dL_drop_15 hl (by decide) rfl (fun ls hl => ?_)
      refine lv_ldc (v := -1000002) hx hb hown (hts (.constant RL 21 (-1000002)) (List.mem_of_getElem? (i := 4) rfl)) dL_drop_17 ?_
      exact mb_ri (S := mb_S) (wf := fun u => wW Y o a aa ad u.1 u.2) C.1 rfl (u := (u, F)) hF hP hD hS dL_drop_19 (Nat.le_of_ble_eq_true rfl) (Nat.le_of_ble_eq_true rfl)
  · exact mb_ri (S := mb_S) (wf := fun u => wW Y o a aa ad u.1 u.2) C.1 rfl (u := (u, F)) hF hP hD hS dL_drop_9 (Nat.le_of_ble_eq_true rfl) (Nat.le_of_ble_eq_true rfl)
noncomputable def LP_comb (N : Nat) (b : mb_bs) (F : mb_m) (x1 x2 x3 : Int32) (K : Int32 → mb_S → Prop) : Prop := BP_comb N b.1 b.2.1 b.2.2.1 b.2.2.2.1 b.2.2.2.2.1 b.2.2.2.2.2.1 b.2.2.2.2.2.2.1 b.2.2.2.2.2.2.2 x1 x2 x3 (fun r b1 => K r (b1, F)) (fun E b1 => (E = eO ∧ K (-1000001) (b1, F)) ∨ (E = eA ∧ K (-1000002) (b1, F)))
set_option maxHeartbeats 4000000 in
set_option maxRecDepth 100000 in
theorem cw_comb (l : Launch) (hl0 : l.stackTraces = false) (D : va_G) (Y : Nat → ClassId) (N : Nat) (o : Nat) (a aa ad : Nat → Nat) (b : mb_bs) (F : mb_m) (sz : Nat) (x1 x2 x3 : Int32) (K : Int32 → mb_S → Prop) (hF : LP_comb N b F x1 x2 x3 K) : Met l yL_comb wsL_comb ({ frames := 8, cells := 2, slots := 12, locals := 133 } : Room) (va_Pc [.ref o, .int x1, .int x2, .int x3] (mb_BL D Y (wW Y o a aa ad b F) sz)) (va_Qi K (fun u t => mb_T D (va_A (wW Y o a aa ad b F) sz) (wW Y o a aa ad u.1 u.2) t) (va_A (wW Y o a aa ad b F) sz)) 2 12 (va_A (wW Y o a aa ad b F) sz) := by
  unfold LP_comb at hF
  refine mbl_begin (cc := cL_comb) (maxL := 5) (ret := some .int) (hh := [(0, 7, 8, 16), (0, 7, 13, 19)]) hl0 (by decide +kernel) rfl (Nat.le_of_ble_eq_true rfl) ?_
  intro p e s m below meth c ls C hsz hP hD hl
  generalize hAe : va_A (wW Y o a aa ad b F) sz = A at C hD ⊢
  have C : mb_CL l p s m meth c ([.ref o, .int x1, .int x2, .int x3] : List Value).toArray cL_comb 5 (some .int) wsL_comb RL D Y A [(0, 7, 8, 16), (0, 7, 13, 19)] := C
  obtain ⟨⟨hx, hb, hr, hml, hts, hown, hlocks, hA, hG⟩, hT, hX, hl0, hN⟩ := id C
  have hK := hG.1
  have hS : va_S A s.heap s.heap [] := va_S.rf
  have hl : lv_has ls 5 [(0, .ref o), (1, .int x1), (2, .int x2), (3, .int x3)] := hl
  refine lv_aload_n hx hb dL_comb_0 rfl (lv_at hl 0 rfl) ?_
  refine lv_iload_n hx hb dL_comb_1 rfl (lv_at hl 1 rfl) ?_
  refine lv_iload_n hx hb dL_comb_2 rfl (lv_at hl 2 rfl) ?_
  refine lv_iload_n hx hb dL_comb_3 rfl (lv_at hl 3 rfl) ?_
  refine mbl_cW (wf := fun u : mb_bs => wW Y o a aa ad u F) C hD hS (vx_runV (As := [.int x1, .int x2, .int x3]) (rest := []) ⟨hx, hb, hml, hown, hts⟩ (mbx_fr (W := wW Y o a aa ad b F) (wr := wR Y ad F) (WF := fun u : mb_bs => wW Y o a aa ad u F) (fun u => u) (fun u => u) wW_p (fun u => wW_p) (fun u => wW_p) (fun _ _ h => h) (fun _ _ h => h) (cf_comb l hl0 D Y N o a aa _ _ _ _ _ _ _ _ _ x1 x2 x3 _ _ hF)) (cwV 3 hts gL_comb_X7_comb rfl rfl rfl (by decide +kernel) ⟨(Nat.le_of_ble_eq_true rfl), (Nat.le_of_ble_eq_true rfl)⟩) (mbl_preV C hP hD hS 5 rfl rfl) rfl rfl hl.1 rfl (lv_room (Nat.le_of_ble_eq_true rfl)) dL_comb_4 ⟨(Nat.le_of_ble_eq_true rfl), (Nat.le_of_ble_eq_true rfl)⟩) (fun E ce q9 u H locs hF hP hD hS hce hcv hcl => ?_) (fun r u H locs hF hP hD hS => ?_)
  · rcases hF with ⟨rfl, hF⟩ | ⟨rfl, hF⟩
    · refine vx_catch (own := RL) (name := "java/lang/IndexOutOfBoundsException") hown [] ⟨0, 7, 8, 16⟩ [⟨0, 7, 13, 19⟩] (by rw [hT]; rfl) (fun z h => absurd h List.not_mem_nil) rfl (by decide) (hts (.classLink RL 16 "java/lang/IndexOutOfBoundsException") (List.mem_of_getElem? (i := 1) rfl)) (va_Nw.use rfl (hG.2.1 _ (List.mem_of_getElem? (i := 27) rfl))) hce hcv hcl ?_
      refine lv_astore (lv' := [(4, .ref q9), (0, .ref o), (1, .int x1), (2, .int x2), (3, .int x3)]) hx hb dL_comb_8 hl (by decide) rfl (fun ls hl => ?_)
      refine lv_ldc (v := -1000001) hx hb hown (hts (.constant RL 18 (-1000001)) (List.mem_of_getElem? (i := 3) rfl)) dL_comb_10 ?_
      exact mb_ri (S := mb_S) (wf := fun u => wW Y o a aa ad u.1 u.2) C.1 rfl (u := (u, F)) hF hP hD hS dL_comb_12 (Nat.le_of_ble_eq_true rfl) (Nat.le_of_ble_eq_true rfl)
    · refine vx_catch (own := RL) (name := "java/lang/IllegalArgumentException") hown [⟨0, 7, 8, 16⟩] ⟨0, 7, 13, 19⟩ [] (by rw [hT]; rfl) (fun z h => by
        simp only [List.mem_cons, List.not_mem_nil, or_false] at h
        rcases h with rfl
        · exact Or.inr ⟨by decide, _, (hts (.classLink RL 16 "java/lang/IndexOutOfBoundsException") (List.mem_of_getElem? (i := 1) rfl)), hN.1⟩) rfl (by decide) (hts (.classLink RL 19 "java/lang/IllegalArgumentException") (List.mem_of_getElem? (i := 2) rfl)) (va_Nw.use rfl (hG.2.1 _ (List.mem_of_getElem? (i := 28) rfl))) hce hcv hcl ?_
      refine lv_astore (lv' := [(4, .ref q9), (0, .ref o), (1, .int x1), (2, .int x2), (3, .int x3)]) hx hb dL_comb_13 hl (by decide) rfl (fun ls hl => ?_)
      refine lv_ldc (v := -1000002) hx hb hown (hts (.constant RL 21 (-1000002)) (List.mem_of_getElem? (i := 4) rfl)) dL_comb_15 ?_
      exact mb_ri (S := mb_S) (wf := fun u => wW Y o a aa ad u.1 u.2) C.1 rfl (u := (u, F)) hF hP hD hS dL_comb_17 (Nat.le_of_ble_eq_true rfl) (Nat.le_of_ble_eq_true rfl)
  · exact mb_ri (S := mb_S) (wf := fun u => wW Y o a aa ad u.1 u.2) C.1 rfl (u := (u, F)) hF hP hD hS dL_comb_7 (Nat.le_of_ble_eq_true rfl) (Nat.le_of_ble_eq_true rfl)
noncomputable def LP_lift (N : Nat) (b : mb_bs) (F : mb_m) (K : Int32 → mb_S → Prop) : Prop := BP_lift N b.1 b.2.1 b.2.2.1 b.2.2.2.1 b.2.2.2.2.1 b.2.2.2.2.2.1 b.2.2.2.2.2.2.1 b.2.2.2.2.2.2.2 (fun r b1 => K r (b1, F)) (fun E b1 => (E = eS ∧ K (-1000003) (b1, F)))
set_option maxHeartbeats 4000000 in
set_option maxRecDepth 100000 in
theorem cw_lift (l : Launch) (hl0 : l.stackTraces = false) (D : va_G) (Y : Nat → ClassId) (N : Nat) (o : Nat) (a aa ad : Nat → Nat) (b : mb_bs) (F : mb_m) (sz : Nat) (K : Int32 → mb_S → Prop) (hF : LP_lift N b F K) : Met l yL_lift wsL_lift ({ frames := 8, cells := 3, slots := 71, locals := 131 } : Room) (va_Pc [.ref o] (mb_BL D Y (wW Y o a aa ad b F) sz)) (va_Qi K (fun u t => mb_T D (va_A (wW Y o a aa ad b F) sz) (wW Y o a aa ad u.1 u.2) t) (va_A (wW Y o a aa ad b F) sz)) 3 71 (va_A (wW Y o a aa ad b F) sz) := by
  unfold LP_lift at hF
  refine mbl_begin (cc := cL_lift) (maxL := 2) (ret := some .int) (hh := [(0, 4, 5, 30)]) hl0 (by decide +kernel) rfl (Nat.le_of_ble_eq_true rfl) ?_
  intro p e s m below meth c ls C hsz hP hD hl
  generalize hAe : va_A (wW Y o a aa ad b F) sz = A at C hD ⊢
  have C : mb_CL l p s m meth c ([.ref o] : List Value).toArray cL_lift 2 (some .int) wsL_lift RL D Y A [(0, 4, 5, 30)] := C
  obtain ⟨⟨hx, hb, hr, hml, hts, hown, hlocks, hA, hG⟩, hT, hX, hl0, hN⟩ := id C
  have hK := hG.1
  have hS : va_S A s.heap s.heap [] := va_S.rf
  have hl : lv_has ls 2 [(0, .ref o)] := hl
  refine lv_aload_n hx hb dL_lift_0 rfl (lv_at hl 0 rfl) ?_
  refine mbl_cW (wf := fun u : mb_bs => wW Y o a aa ad u F) C hD hS (vx_runV (As := []) (rest := []) ⟨hx, hb, hml, hown, hts⟩ (mbx_fr (W := wW Y o a aa ad b F) (wr := wR Y ad F) (WF := fun u : mb_bs => wW Y o a aa ad u F) (fun u => u) (fun u => u) wW_p (fun u => wW_p) (fun u => wW_p) (fun _ _ h => h) (fun _ _ h => h) (cf_lift l hl0 D Y N o a aa _ _ _ _ _ _ _ _ _ _ _ hF)) (cwV 0 hts gL_lift_X7_lift rfl rfl rfl (by decide +kernel) ⟨(Nat.le_of_ble_eq_true rfl), (Nat.le_of_ble_eq_true rfl)⟩) (mbl_preV C hP hD hS 5 rfl rfl) rfl rfl hl.1 rfl (lv_room (Nat.le_of_ble_eq_true rfl)) dL_lift_1 ⟨(Nat.le_of_ble_eq_true rfl), (Nat.le_of_ble_eq_true rfl)⟩) (fun E ce q9 u H locs hF hP hD hS hce hcv hcl => ?_) (fun r u H locs hF hP hD hS => ?_)
  · obtain ⟨rfl, hF⟩ := hF
    refine vx_catch (own := RL) (name := "java/lang/IllegalStateException") hown [] ⟨0, 4, 5, 30⟩ [] (by rw [hT]; rfl) (fun z h => absurd h List.not_mem_nil) rfl (by decide) (hts (.classLink RL 30 "java/lang/IllegalStateException") (List.mem_of_getElem? (i := 1) rfl)) (va_Nw.use rfl (hG.2.1 _ (List.mem_of_getElem? (i := 29) rfl))) hce hcv hcl ?_
    refine lv_astore_n (lv' := [(1, .ref q9), (0, .ref o)]) hx hb dL_lift_5 rfl hl (by decide) rfl (fun ls hl => ?_)
    refine lv_ldc (v := -1000003) hx hb hown (hts (.constant RL 32 (-1000003)) (List.mem_of_getElem? (i := 2) rfl)) dL_lift_6 ?_
    exact mb_ri (S := mb_S) (wf := fun u => wW Y o a aa ad u.1 u.2) C.1 rfl (u := (u, F)) hF hP hD hS dL_lift_8 (Nat.le_of_ble_eq_true rfl) (Nat.le_of_ble_eq_true rfl)
  · exact mb_ri (S := mb_S) (wf := fun u => wW Y o a aa ad u.1 u.2) C.1 rfl (u := (u, F)) hF hP hD hS dL_lift_4 (Nat.le_of_ble_eq_true rfl) (Nat.le_of_ble_eq_true rfl)
noncomputable def LP_cellAt (N : Nat) (b : mb_bs) (F : mb_m) (x1 x2 x3 : Int32) (K : Int32 → mb_S → Prop) : Prop := BP_cellAt N b.1 b.2.1 b.2.2.1 b.2.2.2.1 b.2.2.2.2.1 b.2.2.2.2.2.1 b.2.2.2.2.2.2.1 b.2.2.2.2.2.2.2 x1 x2 x3 (fun r b1 => K r (b1, F)) (fun E b1 => (E = eO ∧ K (-1000001) (b1, F)) ∨ (E = eA ∧ K (-1000002) (b1, F)))
set_option maxHeartbeats 4000000 in
set_option maxRecDepth 100000 in
theorem cw_cellAt (l : Launch) (hl0 : l.stackTraces = false) (D : va_G) (Y : Nat → ClassId) (N : Nat) (o : Nat) (a aa ad : Nat → Nat) (b : mb_bs) (F : mb_m) (sz : Nat) (x1 x2 x3 : Int32) (K : Int32 → mb_S → Prop) (hF : LP_cellAt N b F x1 x2 x3 K) : Met l yL_cellAt wsL_cellAt ({ frames := 8, cells := 2, slots := 12, locals := 134 } : Room) (va_Pc [.ref o, .int x1, .int x2, .int x3] (mb_BL D Y (wW Y o a aa ad b F) sz)) (va_Qi K (fun u t => mb_T D (va_A (wW Y o a aa ad b F) sz) (wW Y o a aa ad u.1 u.2) t) (va_A (wW Y o a aa ad b F) sz)) 2 12 (va_A (wW Y o a aa ad b F) sz) := by
  unfold LP_cellAt at hF
  refine mbl_begin (cc := cL_cellAt) (maxL := 5) (ret := some .int) (hh := [(0, 7, 8, 16), (0, 7, 13, 19)]) hl0 (by decide +kernel) rfl (Nat.le_of_ble_eq_true rfl) ?_
  intro p e s m below meth c ls C hsz hP hD hl
  generalize hAe : va_A (wW Y o a aa ad b F) sz = A at C hD ⊢
  have C : mb_CL l p s m meth c ([.ref o, .int x1, .int x2, .int x3] : List Value).toArray cL_cellAt 5 (some .int) wsL_cellAt RL D Y A [(0, 7, 8, 16), (0, 7, 13, 19)] := C
  obtain ⟨⟨hx, hb, hr, hml, hts, hown, hlocks, hA, hG⟩, hT, hX, hl0, hN⟩ := id C
  have hK := hG.1
  have hS : va_S A s.heap s.heap [] := va_S.rf
  have hl : lv_has ls 5 [(0, .ref o), (1, .int x1), (2, .int x2), (3, .int x3)] := hl
  refine lv_aload_n hx hb dL_cellAt_0 rfl (lv_at hl 0 rfl) ?_
  refine lv_iload_n hx hb dL_cellAt_1 rfl (lv_at hl 1 rfl) ?_
  refine lv_iload_n hx hb dL_cellAt_2 rfl (lv_at hl 2 rfl) ?_
  refine lv_iload_n hx hb dL_cellAt_3 rfl (lv_at hl 3 rfl) ?_
  refine mbl_cW (wf := fun u : mb_bs => wW Y o a aa ad u F) C hD hS (vx_runV (As := [.int x1, .int x2, .int x3]) (rest := []) ⟨hx, hb, hml, hown, hts⟩ (mbx_fr (W := wW Y o a aa ad b F) (wr := wR Y ad F) (WF := fun u : mb_bs => wW Y o a aa ad u F) (fun u => u) (fun u => u) wW_p (fun u => wW_p) (fun u => wW_p) (fun _ _ h => h) (fun _ _ h => h) (cf_cellAt l hl0 D Y N o a aa _ _ _ _ _ _ _ _ _ x1 x2 x3 _ _ hF)) (cwV 3 hts gL_cellAt_X7_cellAt rfl rfl rfl (by decide +kernel) ⟨(Nat.le_of_ble_eq_true rfl), (Nat.le_of_ble_eq_true rfl)⟩) (mbl_preV C hP hD hS 5 rfl rfl) rfl rfl hl.1 rfl (lv_room (Nat.le_of_ble_eq_true rfl)) dL_cellAt_4 ⟨(Nat.le_of_ble_eq_true rfl), (Nat.le_of_ble_eq_true rfl)⟩) (fun E ce q9 u H locs hF hP hD hS hce hcv hcl => ?_) (fun r u H locs hF hP hD hS => ?_)
  · rcases hF with ⟨rfl, hF⟩ | ⟨rfl, hF⟩
    · refine vx_catch (own := RL) (name := "java/lang/IndexOutOfBoundsException") hown [] ⟨0, 7, 8, 16⟩ [⟨0, 7, 13, 19⟩] (by rw [hT]; rfl) (fun z h => absurd h List.not_mem_nil) rfl (by decide) (hts (.classLink RL 16 "java/lang/IndexOutOfBoundsException") (List.mem_of_getElem? (i := 1) rfl)) (va_Nw.use rfl (hG.2.1 _ (List.mem_of_getElem? (i := 27) rfl))) hce hcv hcl ?_
      refine lv_astore (lv' := [(4, .ref q9), (0, .ref o), (1, .int x1), (2, .int x2), (3, .int x3)]) hx hb dL_cellAt_8 hl (by decide) rfl (fun ls hl => ?_)
      refine lv_ldc (v := -1000001) hx hb hown (hts (.constant RL 18 (-1000001)) (List.mem_of_getElem? (i := 3) rfl)) dL_cellAt_10 ?_
      exact mb_ri (S := mb_S) (wf := fun u => wW Y o a aa ad u.1 u.2) C.1 rfl (u := (u, F)) hF hP hD hS dL_cellAt_12 (Nat.le_of_ble_eq_true rfl) (Nat.le_of_ble_eq_true rfl)
    · refine vx_catch (own := RL) (name := "java/lang/IllegalArgumentException") hown [⟨0, 7, 8, 16⟩] ⟨0, 7, 13, 19⟩ [] (by rw [hT]; rfl) (fun z h => by
        simp only [List.mem_cons, List.not_mem_nil, or_false] at h
        rcases h with rfl
        · exact Or.inr ⟨by decide, _, (hts (.classLink RL 16 "java/lang/IndexOutOfBoundsException") (List.mem_of_getElem? (i := 1) rfl)), hN.1⟩) rfl (by decide) (hts (.classLink RL 19 "java/lang/IllegalArgumentException") (List.mem_of_getElem? (i := 2) rfl)) (va_Nw.use rfl (hG.2.1 _ (List.mem_of_getElem? (i := 28) rfl))) hce hcv hcl ?_
      refine lv_astore (lv' := [(4, .ref q9), (0, .ref o), (1, .int x1), (2, .int x2), (3, .int x3)]) hx hb dL_cellAt_13 hl (by decide) rfl (fun ls hl => ?_)
      refine lv_ldc (v := -1000002) hx hb hown (hts (.constant RL 21 (-1000002)) (List.mem_of_getElem? (i := 4) rfl)) dL_cellAt_15 ?_
      exact mb_ri (S := mb_S) (wf := fun u => wW Y o a aa ad u.1 u.2) C.1 rfl (u := (u, F)) hF hP hD hS dL_cellAt_17 (Nat.le_of_ble_eq_true rfl) (Nat.le_of_ble_eq_true rfl)
  · exact mb_ri (S := mb_S) (wf := fun u => wW Y o a aa ad u.1 u.2) C.1 rfl (u := (u, F)) hF hP hD hS dL_cellAt_7 (Nat.le_of_ble_eq_true rfl) (Nat.le_of_ble_eq_true rfl)
noncomputable def LP_printAt (N : Nat) (b : mb_bs) (F : mb_m) (x1 x2 x3 : Int32) (K : Int32 → mb_S → Prop) : Prop := BP_printAt N b.1 b.2.1 b.2.2.1 b.2.2.2.1 b.2.2.2.2.1 b.2.2.2.2.2.1 b.2.2.2.2.2.2.1 b.2.2.2.2.2.2.2 x1 x2 x3 (fun r b1 => K r (b1, F)) (fun E b1 => (E = eO ∧ K (-1000001) (b1, F)))
set_option maxHeartbeats 4000000 in
set_option maxRecDepth 100000 in
theorem cw_printAt (l : Launch) (hl0 : l.stackTraces = false) (D : va_G) (Y : Nat → ClassId) (N : Nat) (o : Nat) (a aa ad : Nat → Nat) (b : mb_bs) (F : mb_m) (sz : Nat) (x1 x2 x3 : Int32) (K : Int32 → mb_S → Prop) (hF : LP_printAt N b F x1 x2 x3 K) : Met l yL_printAt wsL_printAt ({ frames := 8, cells := 2, slots := 12, locals := 136 } : Room) (va_Pc [.ref o, .int x1, .int x2, .int x3] (mb_BL D Y (wW Y o a aa ad b F) sz)) (va_Qi K (fun u t => mb_T D (va_A (wW Y o a aa ad b F) sz) (wW Y o a aa ad u.1 u.2) t) (va_A (wW Y o a aa ad b F) sz)) 2 12 (va_A (wW Y o a aa ad b F) sz) := by
  unfold LP_printAt at hF
  refine mbl_begin (cc := cL_printAt) (maxL := 5) (ret := some .int) (hh := [(0, 7, 8, 16)]) hl0 (by decide +kernel) rfl (Nat.le_of_ble_eq_true rfl) ?_
  intro p e s m below meth c ls C hsz hP hD hl
  generalize hAe : va_A (wW Y o a aa ad b F) sz = A at C hD ⊢
  have C : mb_CL l p s m meth c ([.ref o, .int x1, .int x2, .int x3] : List Value).toArray cL_printAt 5 (some .int) wsL_printAt RL D Y A [(0, 7, 8, 16)] := C
  obtain ⟨⟨hx, hb, hr, hml, hts, hown, hlocks, hA, hG⟩, hT, hX, hl0, hN⟩ := id C
  have hK := hG.1
  have hS : va_S A s.heap s.heap [] := va_S.rf
  have hl : lv_has ls 5 [(0, .ref o), (1, .int x1), (2, .int x2), (3, .int x3)] := hl
  refine lv_aload_n hx hb dL_printAt_0 rfl (lv_at hl 0 rfl) ?_
  refine lv_iload_n hx hb dL_printAt_1 rfl (lv_at hl 1 rfl) ?_
  refine lv_iload_n hx hb dL_printAt_2 rfl (lv_at hl 2 rfl) ?_
  refine lv_iload_n hx hb dL_printAt_3 rfl (lv_at hl 3 rfl) ?_
  refine mbl_cW (wf := fun u : mb_bs => wW Y o a aa ad u F) C hD hS (vx_runV (As := [.int x1, .int x2, .int x3]) (rest := []) ⟨hx, hb, hml, hown, hts⟩ (mbx_fr (W := wW Y o a aa ad b F) (wr := wR Y ad F) (WF := fun u : mb_bs => wW Y o a aa ad u F) (fun u => u) (fun u => u) wW_p (fun u => wW_p) (fun u => wW_p) (fun _ _ h => h) (fun _ _ h => h) (cf_printAt l hl0 D Y N o a aa _ _ _ _ _ _ _ _ _ x1 x2 x3 _ _ hF)) (cwV 3 hts gL_printAt_X7_printAt rfl rfl rfl (by decide +kernel) ⟨(Nat.le_of_ble_eq_true rfl), (Nat.le_of_ble_eq_true rfl)⟩) (mbl_preV C hP hD hS 5 rfl rfl) rfl rfl hl.1 rfl (lv_room (Nat.le_of_ble_eq_true rfl)) dL_printAt_4 ⟨(Nat.le_of_ble_eq_true rfl), (Nat.le_of_ble_eq_true rfl)⟩) (fun E ce q9 u H locs hF hP hD hS hce hcv hcl => ?_) (fun r u H locs hF hP hD hS => ?_)
  · obtain ⟨rfl, hF⟩ := hF
    refine vx_catch (own := RL) (name := "java/lang/IndexOutOfBoundsException") hown [] ⟨0, 7, 8, 16⟩ [] (by rw [hT]; rfl) (fun z h => absurd h List.not_mem_nil) rfl (by decide) (hts (.classLink RL 16 "java/lang/IndexOutOfBoundsException") (List.mem_of_getElem? (i := 1) rfl)) (va_Nw.use rfl (hG.2.1 _ (List.mem_of_getElem? (i := 27) rfl))) hce hcv hcl ?_
    refine lv_astore (lv' := [(4, .ref q9), (0, .ref o), (1, .int x1), (2, .int x2), (3, .int x3)]) hx hb dL_printAt_8 hl (by decide) rfl (fun ls hl => ?_)
    refine lv_ldc (v := -1000001) hx hb hown (hts (.constant RL 18 (-1000001)) (List.mem_of_getElem? (i := 2) rfl)) dL_printAt_10 ?_
    exact mb_ri (S := mb_S) (wf := fun u => wW Y o a aa ad u.1 u.2) C.1 rfl (u := (u, F)) hF hP hD hS dL_printAt_12 (Nat.le_of_ble_eq_true rfl) (Nat.le_of_ble_eq_true rfl)
  · exact mb_ri (S := mb_S) (wf := fun u => wW Y o a aa ad u.1 u.2) C.1 rfl (u := (u, F)) hF hP hD hS dL_printAt_7 (Nat.le_of_ble_eq_true rfl) (Nat.le_of_ble_eq_true rfl)
noncomputable def LP_count (N : Nat) (b : mb_bs) (F : mb_m) (x1 x2 : Int32) (K : Int32 → mb_S → Prop) : Prop := BP_count N b.1 b.2.1 b.2.2.1 b.2.2.2.1 b.2.2.2.2.1 b.2.2.2.2.2.1 b.2.2.2.2.2.2.1 b.2.2.2.2.2.2.2 x1 x2 (fun r b1 => K r (b1, F)) (fun E b1 => (E = eO ∧ K (-1000001) (b1, F)) ∨ (E = eA ∧ K (-1000002) (b1, F)))
set_option maxHeartbeats 4000000 in
set_option maxRecDepth 100000 in
theorem cw_count (l : Launch) (hl0 : l.stackTraces = false) (D : va_G) (Y : Nat → ClassId) (N : Nat) (o : Nat) (a aa ad : Nat → Nat) (b : mb_bs) (F : mb_m) (sz : Nat) (x1 x2 : Int32) (K : Int32 → mb_S → Prop) (hF : LP_count N b F x1 x2 K) : Met l yL_count wsL_count ({ frames := 8, cells := 2, slots := 12, locals := 135 } : Room) (va_Pc [.ref o, .int x1, .int x2] (mb_BL D Y (wW Y o a aa ad b F) sz)) (va_Qi K (fun u t => mb_T D (va_A (wW Y o a aa ad b F) sz) (wW Y o a aa ad u.1 u.2) t) (va_A (wW Y o a aa ad b F) sz)) 2 12 (va_A (wW Y o a aa ad b F) sz) := by
  unfold LP_count at hF
  refine mbl_begin (cc := cL_count) (maxL := 4) (ret := some .int) (hh := [(0, 6, 7, 16), (0, 6, 11, 19)]) hl0 (by decide +kernel) rfl (Nat.le_of_ble_eq_true rfl) ?_
  intro p e s m below meth c ls C hsz hP hD hl
  generalize hAe : va_A (wW Y o a aa ad b F) sz = A at C hD ⊢
  have C : mb_CL l p s m meth c ([.ref o, .int x1, .int x2] : List Value).toArray cL_count 4 (some .int) wsL_count RL D Y A [(0, 6, 7, 16), (0, 6, 11, 19)] := C
  obtain ⟨⟨hx, hb, hr, hml, hts, hown, hlocks, hA, hG⟩, hT, hX, hl0, hN⟩ := id C
  have hK := hG.1
  have hS : va_S A s.heap s.heap [] := va_S.rf
  have hl : lv_has ls 4 [(0, .ref o), (1, .int x1), (2, .int x2)] := hl
  refine lv_aload_n hx hb dL_count_0 rfl (lv_at hl 0 rfl) ?_
  refine lv_iload_n hx hb dL_count_1 rfl (lv_at hl 1 rfl) ?_
  refine lv_iload_n hx hb dL_count_2 rfl (lv_at hl 2 rfl) ?_
  refine mbl_cW (wf := fun u : mb_bs => wW Y o a aa ad u F) C hD hS (vx_runV (As := [.int x1, .int x2]) (rest := []) ⟨hx, hb, hml, hown, hts⟩ (mbx_fr (W := wW Y o a aa ad b F) (wr := wR Y ad F) (WF := fun u : mb_bs => wW Y o a aa ad u F) (fun u => u) (fun u => u) wW_p (fun u => wW_p) (fun u => wW_p) (fun _ _ h => h) (fun _ _ h => h) (cf_count l hl0 D Y N o a aa _ _ _ _ _ _ _ _ _ x1 x2 _ _ hF)) (cwV 2 hts gL_count_X7_count rfl rfl rfl (by decide +kernel) ⟨(Nat.le_of_ble_eq_true rfl), (Nat.le_of_ble_eq_true rfl)⟩) (mbl_preV C hP hD hS 5 rfl rfl) rfl rfl hl.1 rfl (lv_room (Nat.le_of_ble_eq_true rfl)) dL_count_3 ⟨(Nat.le_of_ble_eq_true rfl), (Nat.le_of_ble_eq_true rfl)⟩) (fun E ce q9 u H locs hF hP hD hS hce hcv hcl => ?_) (fun r u H locs hF hP hD hS => ?_)
  · rcases hF with ⟨rfl, hF⟩ | ⟨rfl, hF⟩
    · refine vx_catch (own := RL) (name := "java/lang/IndexOutOfBoundsException") hown [] ⟨0, 6, 7, 16⟩ [⟨0, 6, 11, 19⟩] (by rw [hT]; rfl) (fun z h => absurd h List.not_mem_nil) rfl (by decide) (hts (.classLink RL 16 "java/lang/IndexOutOfBoundsException") (List.mem_of_getElem? (i := 1) rfl)) (va_Nw.use rfl (hG.2.1 _ (List.mem_of_getElem? (i := 27) rfl))) hce hcv hcl ?_
      refine lv_astore_n (lv' := [(3, .ref q9), (0, .ref o), (1, .int x1), (2, .int x2)]) hx hb dL_count_7 rfl hl (by decide) rfl (fun ls hl => ?_)
      refine lv_ldc (v := -1000001) hx hb hown (hts (.constant RL 18 (-1000001)) (List.mem_of_getElem? (i := 3) rfl)) dL_count_8 ?_
      exact mb_ri (S := mb_S) (wf := fun u => wW Y o a aa ad u.1 u.2) C.1 rfl (u := (u, F)) hF hP hD hS dL_count_10 (Nat.le_of_ble_eq_true rfl) (Nat.le_of_ble_eq_true rfl)
    · refine vx_catch (own := RL) (name := "java/lang/IllegalArgumentException") hown [⟨0, 6, 7, 16⟩] ⟨0, 6, 11, 19⟩ [] (by rw [hT]; rfl) (fun z h => by
        simp only [List.mem_cons, List.not_mem_nil, or_false] at h
        rcases h with rfl
        · exact Or.inr ⟨by decide, _, (hts (.classLink RL 16 "java/lang/IndexOutOfBoundsException") (List.mem_of_getElem? (i := 1) rfl)), hN.1⟩) rfl (by decide) (hts (.classLink RL 19 "java/lang/IllegalArgumentException") (List.mem_of_getElem? (i := 2) rfl)) (va_Nw.use rfl (hG.2.1 _ (List.mem_of_getElem? (i := 28) rfl))) hce hcv hcl ?_
      refine lv_astore_n (lv' := [(3, .ref q9), (0, .ref o), (1, .int x1), (2, .int x2)]) hx hb dL_count_11 rfl hl (by decide) rfl (fun ls hl => ?_)
      refine lv_ldc (v := -1000002) hx hb hown (hts (.constant RL 21 (-1000002)) (List.mem_of_getElem? (i := 4) rfl)) dL_count_12 ?_
      exact mb_ri (S := mb_S) (wf := fun u => wW Y o a aa ad u.1 u.2) C.1 rfl (u := (u, F)) hF hP hD hS dL_count_14 (Nat.le_of_ble_eq_true rfl) (Nat.le_of_ble_eq_true rfl)
  · exact mb_ri (S := mb_S) (wf := fun u => wW Y o a aa ad u.1 u.2) C.1 rfl (u := (u, F)) hF hP hD hS dL_count_6 (Nat.le_of_ble_eq_true rfl) (Nat.le_of_ble_eq_true rfl)
noncomputable def LP_pageAt (N : Nat) (b : mb_bs) (F : mb_m) (x1 x2 x3 x4 : Int32) (K : Int32 → mb_S → Prop) : Prop := BP_pageAt N b.1 b.2.1 b.2.2.1 b.2.2.2.1 b.2.2.2.2.1 b.2.2.2.2.2.1 b.2.2.2.2.2.2.1 b.2.2.2.2.2.2.2 x1 x2 x3 x4 (fun r b1 => K r (b1, F)) (fun E b1 => (E = eA ∧ K (-1000002) (b1, F)))
set_option maxHeartbeats 4000000 in
set_option maxRecDepth 100000 in
theorem cw_pageAt (l : Launch) (hl0 : l.stackTraces = false) (D : va_G) (Y : Nat → ClassId) (N : Nat) (o : Nat) (a aa ad : Nat → Nat) (b : mb_bs) (F : mb_m) (sz : Nat) (x1 x2 x3 x4 : Int32) (K : Int32 → mb_S → Prop) (hF : LP_pageAt N b F x1 x2 x3 x4 K) : Met l yL_pageAt wsL_pageAt ({ frames := 8, cells := 2, slots := 12, locals := 134 } : Room) (va_Pc [.ref o, .int x1, .int x2, .int x3, .int x4] (mb_BL D Y (wW Y o a aa ad b F) sz)) (va_Qi K (fun u t => mb_T D (va_A (wW Y o a aa ad b F) sz) (wW Y o a aa ad u.1 u.2) t) (va_A (wW Y o a aa ad b F) sz)) 2 12 (va_A (wW Y o a aa ad b F) sz) := by
  unfold LP_pageAt at hF
  refine mbl_begin (cc := cL_pageAt) (maxL := 6) (ret := some .int) (hh := [(0, 9, 10, 19)]) hl0 (by decide +kernel) rfl (Nat.le_of_ble_eq_true rfl) ?_
  intro p e s m below meth c ls C hsz hP hD hl
  generalize hAe : va_A (wW Y o a aa ad b F) sz = A at C hD ⊢
  have C : mb_CL l p s m meth c ([.ref o, .int x1, .int x2, .int x3, .int x4] : List Value).toArray cL_pageAt 6 (some .int) wsL_pageAt RL D Y A [(0, 9, 10, 19)] := C
  obtain ⟨⟨hx, hb, hr, hml, hts, hown, hlocks, hA, hG⟩, hT, hX, hl0, hN⟩ := id C
  have hK := hG.1
  have hS : va_S A s.heap s.heap [] := va_S.rf
  have hl : lv_has ls 6 [(0, .ref o), (1, .int x1), (2, .int x2), (3, .int x3), (4, .int x4)] := hl
  refine lv_aload_n hx hb dL_pageAt_0 rfl (lv_at hl 0 rfl) ?_
  refine lv_iload_n hx hb dL_pageAt_1 rfl (lv_at hl 1 rfl) ?_
  refine lv_iload_n hx hb dL_pageAt_2 rfl (lv_at hl 2 rfl) ?_
  refine lv_iload_n hx hb dL_pageAt_3 rfl (lv_at hl 3 rfl) ?_
  refine lv_iload hx hb dL_pageAt_4 (lv_at hl 4 rfl) ?_
  refine mbl_cW (wf := fun u : mb_bs => wW Y o a aa ad u F) C hD hS (vx_runV (As := [.int x1, .int x2, .int x3, .int x4]) (rest := []) ⟨hx, hb, hml, hown, hts⟩ (mbx_fr (W := wW Y o a aa ad b F) (wr := wR Y ad F) (WF := fun u : mb_bs => wW Y o a aa ad u F) (fun u => u) (fun u => u) wW_p (fun u => wW_p) (fun u => wW_p) (fun _ _ h => h) (fun _ _ h => h) (cf_pageAt l hl0 D Y N o a aa _ _ _ _ _ _ _ _ _ x1 x2 x3 x4 _ _ hF)) (cwV 4 hts gL_pageAt_X7_pageAt rfl rfl rfl (by decide +kernel) ⟨(Nat.le_of_ble_eq_true rfl), (Nat.le_of_ble_eq_true rfl)⟩) (mbl_preV C hP hD hS 5 rfl rfl) rfl rfl hl.1 rfl (lv_room (Nat.le_of_ble_eq_true rfl)) dL_pageAt_6 ⟨(Nat.le_of_ble_eq_true rfl), (Nat.le_of_ble_eq_true rfl)⟩) (fun E ce q9 u H locs hF hP hD hS hce hcv hcl => ?_) (fun r u H locs hF hP hD hS => ?_)
  · obtain ⟨rfl, hF⟩ := hF
    refine vx_catch (own := RL) (name := "java/lang/IllegalArgumentException") hown [] ⟨0, 9, 10, 19⟩ [] (by rw [hT]; rfl) (fun z h => absurd h List.not_mem_nil) rfl (by decide) (hts (.classLink RL 19 "java/lang/IllegalArgumentException") (List.mem_of_getElem? (i := 1) rfl)) (va_Nw.use rfl (hG.2.1 _ (List.mem_of_getElem? (i := 28) rfl))) hce hcv hcl ?_
    refine lv_astore (lv' := [(5, .ref q9), (0, .ref o), (1, .int x1), (2, .int x2), (3, .int x3), (4, .int x4)]) hx hb dL_pageAt_10 hl (by decide) rfl (fun ls hl => ?_)
    refine lv_ldc (v := -1000002) hx hb hown (hts (.constant RL 21 (-1000002)) (List.mem_of_getElem? (i := 2) rfl)) dL_pageAt_12 ?_
    exact mb_ri (S := mb_S) (wf := fun u => wW Y o a aa ad u.1 u.2) C.1 rfl (u := (u, F)) hF hP hD hS dL_pageAt_14 (Nat.le_of_ble_eq_true rfl) (Nat.le_of_ble_eq_true rfl)
  · exact mb_ri (S := mb_S) (wf := fun u => wW Y o a aa ad u.1 u.2) C.1 rfl (u := (u, F)) hF hP hD hS dL_pageAt_9 (Nat.le_of_ble_eq_true rfl) (Nat.le_of_ble_eq_true rfl)
