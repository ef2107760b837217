noncomputable def LP_thickAt (N : Nat) (b : mb_bs) (F : mb_m) (x1 x2 x3 : Int32) (K : Int32 → mb_S → Prop) : Prop := BP_thickAt N b.1 b.2.1 b.2.2.1 b.2.2.2.1 b.2.2.2.2.1 b.2.2.2.2.2.1 b.2.2.2.2.2.2.1 b.2.2.2.2.2.2.2 x1 x2 x3 (fun r b1 => K r (b1, F)) (fun E b1 => (E = eO ∧ K (-1000001) (b1, F)))
set_option maxHeartbeats 4000000 in
set_option maxRecDepth 100000 in
theorem cw_thickAt (l : Launch) (hl0 : l.stackTraces = false) (D : va_G) (Y : Nat → ClassId) (N : Nat) (o : Nat) (a aa ad : Nat → Nat) (b : mb_bs) (F : mb_m) (sz : Nat) (x1 x2 x3 : Int32) (K : Int32 → mb_S → Prop) (hF : LP_thickAt N b F x1 x2 x3 K) : Met l yL_thickAt wsL_thickAt ({ frames := 8, cells := 2, slots := 12, locals := 136 } : Room) (va_Pc [.ref o, .int x1, .int x2, .int x3] (mb_BL D Y (wW Y o a aa ad b F) sz)) (va_Qi K (fun u t => mb_T D (va_A (wW Y o a aa ad b F) sz) (wW Y o a aa ad u.1 u.2) t) (va_A (wW Y o a aa ad b F) sz)) 2 12 (va_A (wW Y o a aa ad b F) sz) := by
  unfold LP_thickAt at hF
  refine mbl_begin (cc := cL_thickAt) (maxL := 5) (ret := some .int) (hh := [(0, 7, 8, 16)]) hl0 (by decide +kernel) rfl (Nat.le_of_ble_eq_true rfl) ?_
  intro p e s m below meth c ls C hsz hP hD hl
  generalize hAe : va_A (wW Y o a aa ad b F) sz = A at C hD ⊢
  have C : mb_CL l p s m meth c ([.ref o, .int x1, .int x2, .int x3] : List Value).toArray cL_thickAt 5 (some .int) wsL_thickAt RL D Y A [(0, 7, 8, 16)] := C
  obtain ⟨⟨hx, hb, hr, hml, hts, hown, hlocks, hA, hG⟩, hT, hX, hl0, hN⟩ := id C
  have hK := hG.1
  have hS : va_S A s.heap s.heap [] := va_S.rf
  have hl : lv_has ls 5 [(0, .ref o), (1, .int x1), (2, .int x2), (3, .int x3)] := hl
  refine lv_aload_n hx hb dL_thickAt_0 rfl (lv_at hl 0 rfl) ?_
  refine lv_iload_n hx hb dL_thickAt_1 rfl (lv_at hl 1 rfl) ?_
  refine lv_iload_n hx hb dL_thickAt_2 rfl (lv_at hl 2 rfl) ?_
  refine lv_iload_n hx hb dL_thickAt_3 rfl (lv_at hl 3 rfl) ?_
  refine mbl_cW (wf := fun u : mb_bs => wW Y o a aa ad u F) C hD hS (vx_runV (As := [.int x1, .int x2, .int x3]) (rest := []) ⟨hx, hb, hml, hown, hts⟩ (mbx_fr (W := wW Y o a aa ad b F) (wr := wR Y ad F) (WF := fun u : mb_bs => wW Y o a aa ad u F) (fun u => u) (fun u => u) wW_p (fun u => wW_p) (fun u => wW_p) (fun _ _ h => h) (fun _ _ h => h) (cf_thickAt l hl0 D Y N o a aa _ _ _ _ _ _ _ _ _ x1 x2 x3 _ _ hF)) (cwV 3 hts gL_thickAt_X7_thickAt rfl rfl rfl (by decide +kernel) ⟨(Nat.le_of_ble_eq_true rfl), (Nat.le_of_ble_eq_true rfl)⟩) (mbl_preV C hP hD hS 5 rfl rfl) rfl rfl hl.1 rfl (lv_room (Nat.le_of_ble_eq_true rfl)) dL_thickAt_4 ⟨(Nat.le_of_ble_eq_true rfl), (Nat.le_of_ble_eq_true rfl)⟩) (fun E ce q9 u H locs hF hP hD hS hce hcv hcl => ?_) (fun r u H locs hF hP hD hS => ?_)
  · obtain ⟨rfl, hF⟩ := hF
    refine vx_catch (own := RL) (name := "java/lang/IndexOutOfBoundsException") hown [] ⟨0, 7, 8, 16⟩ [] (by rw [hT]; rfl) (fun z h => absurd h List.not_mem_nil) rfl (by decide) (hts (.classLink RL 16 "java/lang/IndexOutOfBoundsException") (List.mem_of_getElem? (i := 1) rfl)) (va_Nw.use rfl (hG.2.1 _ (List.mem_of_getElem? (i := 27) rfl))) hce hcv hcl ?_
    refine lv_astore (lv' := [(4, .ref q9), (0, .ref o), (1, .int x1), (2, .int x2), (3, .int x3)]) hx hb dL_thickAt_8 hl (by decide) rfl (fun ls hl => ?_)
    refine lv_ldc (v := -1000001) hx hb hown (hts (.constant RL 18 (-1000001)) (List.mem_of_getElem? (i := 2) rfl)) dL_thickAt_10 ?_
    exact mb_ri (S := mb_S) (wf := fun u => wW Y o a aa ad u.1 u.2) C.1 rfl (u := (u, F)) hF hP hD hS dL_thickAt_12 (Nat.le_of_ble_eq_true rfl) (Nat.le_of_ble_eq_true rfl)
  · exact mb_ri (S := mb_S) (wf := fun u => wW Y o a aa ad u.1 u.2) C.1 rfl (u := (u, F)) hF hP hD hS dL_thickAt_7 (Nat.le_of_ble_eq_true rfl) (Nat.le_of_ble_eq_true rfl)
noncomputable def LP_tooThick (N : Nat) (b : mb_bs) (F : mb_m) (x1 : Int32) (K : Int32 → mb_S → Prop) : Prop := BP_tooThick N b.1 b.2.1 b.2.2.1 b.2.2.2.1 b.2.2.2.2.1 b.2.2.2.2.2.1 b.2.2.2.2.2.2.1 b.2.2.2.2.2.2.2 x1 (fun r b1 => K r (b1, F)) (fun E b1 => (E = eO ∧ K (-1000001) (b1, F)))
set_option maxHeartbeats 4000000 in
set_option maxRecDepth 100000 in
theorem cw_tooThick (l : Launch) (hl0 : l.stackTraces = false) (D : va_G) (Y : Nat → ClassId) (N : Nat) (o : Nat) (a aa ad : Nat → Nat) (b : mb_bs) (F : mb_m) (sz : Nat) (x1 : Int32) (K : Int32 → mb_S → Prop) (hF : LP_tooThick N b F x1 K) : Met l yL_tooThick wsL_tooThick ({ frames := 8, cells := 1, slots := 6, locals := 133 } : Room) (va_Pc [.ref o, .int x1] (mb_BL D Y (wW Y o a aa ad b F) sz)) (va_Qi K (fun u t => mb_T D (va_A (wW Y o a aa ad b F) sz) (wW Y o a aa ad u.1 u.2) t) (va_A (wW Y o a aa ad b F) sz)) 1 6 (va_A (wW Y o a aa ad b F) sz) := by
  unfold LP_tooThick at hF
  refine mbl_begin (cc := cL_tooThick) (maxL := 3) (ret := some .int) (hh := [(0, 5, 6, 16)]) hl0 (by decide +kernel) rfl (Nat.le_of_ble_eq_true rfl) ?_
  intro p e s m below meth c ls C hsz hP hD hl
  generalize hAe : va_A (wW Y o a aa ad b F) sz = A at C hD ⊢
  have C : mb_CL l p s m meth c ([.ref o, .int x1] : List Value).toArray cL_tooThick 3 (some .int) wsL_tooThick RL D Y A [(0, 5, 6, 16)] := C
  obtain ⟨⟨hx, hb, hr, hml, hts, hown, hlocks, hA, hG⟩, hT, hX, hl0, hN⟩ := id C
  have hK := hG.1
  have hS : va_S A s.heap s.heap [] := va_S.rf
  have hl : lv_has ls 3 [(0, .ref o), (1, .int x1)] := hl
  refine lv_aload_n hx hb dL_tooThick_0 rfl (lv_at hl 0 rfl) ?_
  refine lv_iload_n hx hb dL_tooThick_1 rfl (lv_at hl 1 rfl) ?_
  refine mbl_cW (wf := fun u : mb_bs => wW Y o a aa ad u F) C hD hS (vx_runV (As := [.int x1]) (rest := []) ⟨hx, hb, hml, hown, hts⟩ (mbx_fr (W := wW Y o a aa ad b F) (wr := wR Y ad F) (WF := fun u : mb_bs => wW Y o a aa ad u F) (fun u => u) (fun u => u) wW_p (fun u => wW_p) (fun u => wW_p) (fun _ _ h => h) (fun _ _ h => h) (cf_tooThick l hl0 D Y N o a aa _ _ _ _ _ _ _ _ _ x1 _ _ hF)) (cwV 1 hts gL_tooThick_X7_tooThick rfl rfl rfl (by decide +kernel) ⟨(Nat.le_of_ble_eq_true rfl), (Nat.le_of_ble_eq_true rfl)⟩) (mbl_preV C hP hD hS 5 rfl rfl) rfl rfl hl.1 rfl (lv_room (Nat.le_of_ble_eq_true rfl)) dL_tooThick_2 ⟨(Nat.le_of_ble_eq_true rfl), (Nat.le_of_ble_eq_true rfl)⟩) (fun E ce q9 u H locs hF hP hD hS hce hcv hcl => ?_) (fun r u H locs hF hP hD hS => ?_)
  · obtain ⟨rfl, hF⟩ := hF
    refine vx_catch (own := RL) (name := "java/lang/IndexOutOfBoundsException") hown [] ⟨0, 5, 6, 16⟩ [] (by rw [hT]; rfl) (fun z h => absurd h List.not_mem_nil) rfl (by decide) (hts (.classLink RL 16 "java/lang/IndexOutOfBoundsException") (List.mem_of_getElem? (i := 1) rfl)) (va_Nw.use rfl (hG.2.1 _ (List.mem_of_getElem? (i := 27) rfl))) hce hcv hcl ?_
    refine lv_astore_n (lv' := [(2, .ref q9), (0, .ref o), (1, .int x1)]) hx hb dL_tooThick_6 rfl hl (by decide) rfl (fun ls hl => ?_)
    refine lv_ldc (v := -1000001) hx hb hown (hts (.constant RL 18 (-1000001)) (List.mem_of_getElem? (i := 2) rfl)) dL_tooThick_7 ?_
    exact mb_ri (S := mb_S) (wf := fun u => wW Y o a aa ad u.1 u.2) C.1 rfl (u := (u, F)) hF hP hD hS dL_tooThick_9 (Nat.le_of_ble_eq_true rfl) (Nat.le_of_ble_eq_true rfl)
  · exact mb_ri (S := mb_S) (wf := fun u => wW Y o a aa ad u.1 u.2) C.1 rfl (u := (u, F)) hF hP hD hS dL_tooThick_5 (Nat.le_of_ble_eq_true rfl) (Nat.le_of_ble_eq_true rfl)
noncomputable def LP_repair (N : Nat) (b : mb_bs) (F : mb_m) (x1 x2 : Int32) (K : Int32 → mb_S → Prop) : Prop := BP_repair N b.1 b.2.1 b.2.2.1 b.2.2.2.1 b.2.2.2.2.1 b.2.2.2.2.2.1 b.2.2.2.2.2.2.1 b.2.2.2.2.2.2.2 x1 x2 (fun r b1 => K r (b1, F)) (fun E b1 => (E = eO ∧ K (-1000001) (b1, F)) ∨ (E = eA ∧ K (-1000002) (b1, F)) ∨ (E = eS ∧ K (-1000003) (b1, F)))
set_option maxHeartbeats 4000000 in
set_option maxRecDepth 100000 in
theorem cw_repair (l : Launch) (hl0 : l.stackTraces = false) (D : va_G) (Y : Nat → ClassId) (N : Nat) (o : Nat) (a aa ad : Nat → Nat) (b : mb_bs) (F : mb_m) (sz : Nat) (x1 x2 : Int32) (K : Int32 → mb_S → Prop) (hF : LP_repair N b F x1 x2 K) : Met l yL_repair wsL_repair ({ frames := 8, cells := 4, slots := 24, locals := 135 } : Room) (va_Pc [.ref o, .int x1, .int x2] (mb_BL D Y (wW Y o a aa ad b F) sz)) (va_Qi K (fun u t => mb_T D (va_A (wW Y o a aa ad b F) sz) (wW Y o a aa ad u.1 u.2) t) (va_A (wW Y o a aa ad b F) sz)) 4 24 (va_A (wW Y o a aa ad b F) sz) := by
  unfold LP_repair at hF
  refine mbl_begin (cc := cL_repair) (maxL := 4) (ret := some .int) (hh := [(0, 6, 7, 16), (0, 6, 11, 19), (0, 6, 15, 30)]) hl0 (by decide +kernel) rfl (Nat.le_of_ble_eq_true rfl) ?_
  intro p e s m below meth c ls C hsz hP hD hl
  generalize hAe : va_A (wW Y o a aa ad b F) sz = A at C hD ⊢
  have C : mb_CL l p s m meth c ([.ref o, .int x1, .int x2] : List Value).toArray cL_repair 4 (some .int) wsL_repair RL D Y A [(0, 6, 7, 16), (0, 6, 11, 19), (0, 6, 15, 30)] := C
  obtain ⟨⟨hx, hb, hr, hml, hts, hown, hlocks, hA, hG⟩, hT, hX, hl0, hN⟩ := id C
  have hK := hG.1
  have hS : va_S A s.heap s.heap [] := va_S.rf
  have hl : lv_has ls 4 [(0, .ref o), (1, .int x1), (2, .int x2)] := hl
  refine lv_aload_n hx hb dL_repair_0 rfl (lv_at hl 0 rfl) ?_
  refine lv_iload_n hx hb dL_repair_1 rfl (lv_at hl 1 rfl) ?_
  refine lv_iload_n hx hb dL_repair_2 rfl (lv_at hl 2 rfl) ?_
  refine mbl_cW (wf := fun u : mb_bs => wW Y o a aa ad u F) C hD hS (vx_runV (As := [.int x1, .int x2]) (rest := []) ⟨hx, hb, hml, hown, hts⟩ (mbx_fr (W := wW Y o a aa ad b F) (wr := wR Y ad F) (WF := fun u : mb_bs => wW Y o a aa ad u F) (fun u => u) (fun u => u) wW_p (fun u => wW_p) (fun u => wW_p) (fun _ _ h => h) (fun _ _ h => h) (cf_repair l hl0 D Y N o a aa _ _ _ _ _ _ _ _ _ x1 x2 _ _ hF)) (cwV 2 hts gL_repair_X7_repair rfl rfl rfl (by decide +kernel) ⟨(Nat.le_of_ble_eq_true rfl), (Nat.le_of_ble_eq_true rfl)⟩) (mbl_preV C hP hD hS 5 rfl rfl) rfl rfl hl.1 rfl (lv_room (Nat.le_of_ble_eq_true rfl)) dL_repair_3 ⟨(Nat.le_of_ble_eq_true rfl), (Nat.le_of_ble_eq_true rfl)⟩) (fun E ce q9 u H locs hF hP hD hS hce hcv hcl => ?_) (fun r u H locs hF hP hD hS => ?_)
  · rcases hF with ⟨rfl, hF⟩ | ⟨rfl, hF⟩ | ⟨rfl, hF⟩
    · refine vx_catch (own := RL) (name := "java/lang/IndexOutOfBoundsException") hown [] ⟨0, 6, 7, 16⟩ [⟨0, 6, 11, 19⟩, ⟨0, 6, 15, 30⟩] (by rw [hT]; rfl) (fun z h => absurd h List.not_mem_nil) rfl (by decide) (hts (.classLink RL 16 "java/lang/IndexOutOfBoundsException") (List.mem_of_getElem? (i := 1) rfl)) (va_Nw.use rfl (hG.2.1 _ (List.mem_of_getElem? (i := 27) rfl))) hce hcv hcl ?_
      refine lv_astore_n (lv' := [(3, .ref q9), (0, .ref o), (1, .int x1), (2, .int x2)]) hx hb dL_repair_7 rfl hl (by decide) rfl (fun ls hl => ?_)
      refine lv_ldc (v := -1000001) hx hb hown (hts (.constant RL 18 (-1000001)) (List.mem_of_getElem? (i := 4) rfl)) dL_repair_8 ?_
      exact mb_ri (S := mb_S) (wf := fun u => wW Y o a aa ad u.1 u.2) C.1 rfl (u := (u, F)) hF hP hD hS dL_repair_10 (Nat.le_of_ble_eq_true rfl) (Nat.le_of_ble_eq_true rfl)
    · refine vx_catch (own := RL) (name := "java/lang/IllegalArgumentException") hown [⟨0, 6, 7, 16⟩] ⟨0, 6, 11, 19⟩ [⟨0, 6, 15, 30⟩] (by rw [hT]; rfl) (fun z h => by
        simp only [List.mem_cons, List.not_mem_nil, or_false] at h
        rcases h with rfl
        · exact Or.inr ⟨by decide, _, (hts (.classLink RL 16 "java/lang/IndexOutOfBoundsException") (List.mem_of_getElem? (i := 1) rfl)), hN.1⟩) rfl (by decide) (hts (.classLink RL 19 "java/lang/IllegalArgumentException") (List.mem_of_getElem? (i := 2) rfl)) (va_Nw.use rfl (hG.2.1 _ (List.mem_of_getElem? (i := 28) rfl))) hce hcv hcl ?_
      refine lv_astore_n (lv' := [(3, .ref q9), (0, .ref o), (1, .int x1), (2, .int x2)]) hx hb dL_repair_11 rfl hl (by decide) rfl (fun ls hl => ?_)
      refine lv_ldc (v := -1000002) hx hb hown (hts (.constant RL 21 (-1000002)) (List.mem_of_getElem? (i := 5) rfl)) dL_repair_12 ?_
      exact mb_ri (S := mb_S) (wf := fun u => wW Y o a aa ad u.1 u.2) C.1 rfl (u := (u, F)) hF hP hD hS dL_repair_14 (Nat.le_of_ble_eq_true rfl) (Nat.le_of_ble_eq_true rfl)
    · refine vx_catch (own := RL) (name := "java/lang/IllegalStateException") hown [⟨0, 6, 7, 16⟩, ⟨0, 6, 11, 19⟩] ⟨0, 6, 15, 30⟩ [] (by rw [hT]; rfl) (fun z h => by
        simp only [List.mem_cons, List.not_mem_nil, or_false] at h
        rcases h with rfl | rfl
        · exact Or.inr ⟨by decide, _, (hts (.classLink RL 16 "java/lang/IndexOutOfBoundsException") (List.mem_of_getElem? (i := 1) rfl)), hN.2.1⟩
        · exact Or.inr ⟨by decide, _, (hts (.classLink RL 19 "java/lang/IllegalArgumentException") (List.mem_of_getElem? (i := 2) rfl)), hN.2.2⟩) rfl (by decide) (hts (.classLink RL 30 "java/lang/IllegalStateException") (List.mem_of_getElem? (i := 3) rfl)) (va_Nw.use rfl (hG.2.1 _ (List.mem_of_getElem? (i := 29) rfl))) hce hcv hcl ?_
      refine lv_astore_n (lv' := [(3, .ref q9), (0, .ref o), (1, .int x1), (2, .int x2)]) hx hb dL_repair_15 rfl hl (by decide) rfl (fun ls hl => ?_)
      refine lv_ldc (v := -1000003) hx hb hown (hts (.constant RL 32 (-1000003)) (List.mem_of_getElem? (i := 6) rfl)) dL_repair_16 ?_
      exact mb_ri (S := mb_S) (wf := fun u => wW Y o a aa ad u.1 u.2) C.1 rfl (u := (u, F)) hF hP hD hS dL_repair_18 (Nat.le_of_ble_eq_true rfl) (Nat.le_of_ble_eq_true rfl)
  · exact mb_ri (S := mb_S) (wf := fun u => wW Y o a aa ad u.1 u.2) C.1 rfl (u := (u, F)) hF hP hD hS dL_repair_6 (Nat.le_of_ble_eq_true rfl) (Nat.le_of_ble_eq_true rfl)
noncomputable def LP_undo (N : Nat) (b : mb_bs) (F : mb_m) (x1 : Int32) (K : Int32 → mb_S → Prop) : Prop := BP_undo N b.1 b.2.1 b.2.2.1 b.2.2.2.1 b.2.2.2.2.1 b.2.2.2.2.2.1 b.2.2.2.2.2.2.1 b.2.2.2.2.2.2.2 x1 (fun r b1 => K r (b1, F)) (fun E b1 => (E = eO ∧ K (-1000001) (b1, F)) ∨ (E = eS ∧ K (-1000003) (b1, F)))
set_option maxHeartbeats 4000000 in
set_option maxRecDepth 100000 in
theorem cw_undo (l : Launch) (hl0 : l.stackTraces = false) (D : va_G) (Y : Nat → ClassId) (N : Nat) (o : Nat) (a aa ad : Nat → Nat) (b : mb_bs) (F : mb_m) (sz : Nat) (x1 : Int32) (K : Int32 → mb_S → Prop) (hF : LP_undo N b F x1 K) : Met l yL_undo wsL_undo ({ frames := 8, cells := 2, slots := 12, locals := 135 } : Room) (va_Pc [.ref o, .int x1] (mb_BL D Y (wW Y o a aa ad b F) sz)) (va_Qi K (fun u t => mb_T D (va_A (wW Y o a aa ad b F) sz) (wW Y o a aa ad u.1 u.2) t) (va_A (wW Y o a aa ad b F) sz)) 2 12 (va_A (wW Y o a aa ad b F) sz) := by
  unfold LP_undo at hF
  refine mbl_begin (cc := cL_undo) (maxL := 3) (ret := some .int) (hh := [(0, 5, 6, 16), (0, 5, 10, 30)]) hl0 (by decide +kernel) rfl (Nat.le_of_ble_eq_true rfl) ?_
  intro p e s m below meth c ls C hsz hP hD hl
  generalize hAe : va_A (wW Y o a aa ad b F) sz = A at C hD ⊢
  have C : mb_CL l p s m meth c ([.ref o, .int x1] : List Value).toArray cL_undo 3 (some .int) wsL_undo RL D Y A [(0, 5, 6, 16), (0, 5, 10, 30)] := C
  obtain ⟨⟨hx, hb, hr, hml, hts, hown, hlocks, hA, hG⟩, hT, hX, hl0, hN⟩ := id C
  have hK := hG.1
  have hS : va_S A s.heap s.heap [] := va_S.rf
  have hl : lv_has ls 3 [(0, .ref o), (1, .int x1)] := hl
  refine lv_aload_n hx hb dL_undo_0 rfl (lv_at hl 0 rfl) ?_
  refine lv_iload_n hx hb dL_undo_1 rfl (lv_at hl 1 rfl) ?_
  refine mbl_cW (wf := fun u : mb_bs => wW Y o a aa ad u F) C hD hS (vx_runV (As := [.int x1]) (rest := []) ⟨hx, hb, hml, hown, hts⟩ (mbx_fr (W := wW Y o a aa ad b F) (wr := wR Y ad F) (WF := fun u : mb_bs => wW Y o a aa ad u F) (fun u => u) (fun u => u) wW_p (fun u => wW_p) (fun u => wW_p) (fun _ _ h => h) (fun _ _ h => h) (cf_undo l hl0 D Y N o a aa _ _ _ _ _ _ _ _ _ x1 _ _ hF)) (cwV 1 hts gL_undo_X7_undo rfl rfl rfl (by decide +kernel) ⟨(Nat.le_of_ble_eq_true rfl), (Nat.le_of_ble_eq_true rfl)⟩) (mbl_preV C hP hD hS 5 rfl rfl) rfl rfl hl.1 rfl (lv_room (Nat.le_of_ble_eq_true rfl)) dL_undo_2 ⟨(Nat.le_of_ble_eq_true rfl), (Nat.le_of_ble_eq_true rfl)⟩) (fun E ce q9 u H locs hF hP hD hS hce hcv hcl => ?_) (fun r u H locs hF hP hD hS => ?_)
  · rcases hF with ⟨rfl, hF⟩ | ⟨rfl, hF⟩
    · refine vx_catch (own := RL) (name := "java/lang/IndexOutOfBoundsException") hown [] ⟨0, 5, 6, 16⟩ [⟨0, 5, 10, 30⟩] (by rw [hT]; rfl) (fun z h => absurd h List.not_mem_nil) rfl (by decide) (hts (.classLink RL 16 "java/lang/IndexOutOfBoundsException") (List.mem_of_getElem? (i := 1) rfl)) (va_Nw.use rfl (hG.2.1 _ (List.mem_of_getElem? (i := 27) rfl))) hce hcv hcl ?_
      refine lv_astore_n (lv' := [(2, .ref q9), (0, .ref o), (1, .int x1)]) hx hb dL_undo_6 rfl hl (by decide) rfl (fun ls hl => ?_)
      refine lv_ldc (v := -1000001) hx hb hown (hts (.constant RL 18 (-1000001)) (List.mem_of_getElem? (i := 3) rfl)) dL_undo_7 ?_
      exact mb_ri (S := mb_S) (wf := fun u => wW Y o a aa ad u.1 u.2) C.1 rfl (u := (u, F)) hF hP hD hS dL_undo_9 (Nat.le_of_ble_eq_true rfl) (Nat.le_of_ble_eq_true rfl)
    · refine vx_catch (own := RL) (name := "java/lang/IllegalStateException") hown [⟨0, 5, 6, 16⟩] ⟨0, 5, 10, 30⟩ [] (by rw [hT]; rfl) (fun z h => by
        simp only [List.mem_cons, List.not_mem_nil, or_false] at h
        rcases h with rfl
        · exact Or.inr ⟨by decide, _, (hts (.classLink RL 16 "java/lang/IndexOutOfBoundsException") (List.mem_of_getElem? (i := 1) rfl)), hN.2.1⟩) rfl (by decide) (hts (.classLink RL 30 "java/lang/IllegalStateException") (List.mem_of_getElem? (i := 2) rfl)) (va_Nw.use rfl (hG.2.1 _ (List.mem_of_getElem? (i := 29) rfl))) hce hcv hcl ?_
      refine lv_astore_n (lv' := [(2, .ref q9), (0, .ref o), (1, .int x1)]) hx hb dL_undo_10 rfl hl (by decide) rfl (fun ls hl => ?_)
      refine lv_ldc (v := -1000003) hx hb hown (hts (.constant RL 32 (-1000003)) (List.mem_of_getElem? (i := 4) rfl)) dL_undo_11 ?_
      exact mb_ri (S := mb_S) (wf := fun u => wW Y o a aa ad u.1 u.2) C.1 rfl (u := (u, F)) hF hP hD hS dL_undo_13 (Nat.le_of_ble_eq_true rfl) (Nat.le_of_ble_eq_true rfl)
  · exact mb_ri (S := mb_S) (wf := fun u => wW Y o a aa ad u.1 u.2) C.1 rfl (u := (u, F)) hF hP hD hS dL_undo_5 (Nat.le_of_ble_eq_true rfl) (Nat.le_of_ble_eq_true rfl)
noncomputable def LP_speak (N : Nat) (b : mb_bs) (F : mb_m) (x1 x2 x3 x4 : Int32) (K : Int32 → mb_S → Prop) : Prop := BP_speak N b.1 b.2.1 b.2.2.1 b.2.2.2.1 b.2.2.2.2.1 b.2.2.2.2.2.1 b.2.2.2.2.2.2.1 b.2.2.2.2.2.2.2 x1 x2 x3 x4 (fun r b1 => K r (b1, F)) (fun E b1 => (E = eO ∧ K (-1000001) (b1, F)) ∨ (E = eA ∧ K (-1000002) (b1, F)) ∨ (E = eS ∧ K (-1000003) (b1, F)))
set_option maxHeartbeats 4000000 in
set_option maxRecDepth 100000 in
theorem cw_speak (l : Launch) (hl0 : l.stackTraces = false) (D : va_G) (Y : Nat → ClassId) (N : Nat) (o : Nat) (a aa ad : Nat → Nat) (b : mb_bs) (F : mb_m) (sz : Nat) (x1 x2 x3 x4 : Int32) (K : Int32 → mb_S → Prop) (hF : LP_speak N b F x1 x2 x3 x4 K) : Met l yL_speak wsL_speak ({ frames := 8, cells := 4, slots := 24, locals := 137 } : Room) (va_Pc [.ref o, .int x1, .int x2, .int x3, .int x4] (mb_BL D Y (wW Y o a aa ad b F) sz)) (va_Qi K (fun u t => mb_T D (va_A (wW Y o a aa ad b F) sz) (wW Y o a aa ad u.1 u.2) t) (va_A (wW Y o a aa ad b F) sz)) 4 24 (va_A (wW Y o a aa ad b F) sz) := by
  unfold LP_speak at hF
  refine mbl_begin (cc := cL_speak) (maxL := 6) (ret := some .int) (hh := [(0, 9, 10, 16), (0, 9, 15, 19), (0, 9, 20, 30)]) hl0 (by decide +kernel) rfl (Nat.le_of_ble_eq_true rfl) ?_
  intro p e s m below meth c ls C hsz hP hD hl
  generalize hAe : va_A (wW Y o a aa ad b F) sz = A at C hD ⊢
  have C : mb_CL l p s m meth c ([.ref o, .int x1, .int x2, .int x3, .int x4] : List Value).toArray cL_speak 6 (some .int) wsL_speak RL D Y A [(0, 9, 10, 16), (0, 9, 15, 19), (0, 9, 20, 30)] := C
  obtain ⟨⟨hx, hb, hr, hml, hts, hown, hlocks, hA, hG⟩, hT, hX, hl0, hN⟩ := id C
  have hK := hG.1
  have hS : va_S A s.heap s.heap [] := va_S.rf
  have hl : lv_has ls 6 [(0, .ref o), (1, .int x1), (2, .int x2), (3, .int x3), (4, .int x4)] := hl
  refine lv_aload_n hx hb dL_speak_0 rfl (lv_at hl 0 rfl) ?_
  refine lv_iload_n hx hb dL_speak_1 rfl (lv_at hl 1 rfl) ?_
  refine lv_iload_n hx hb dL_speak_2 rfl (lv_at hl 2 rfl) ?_
  refine lv_iload_n hx hb dL_speak_3 rfl (lv_at hl 3 rfl) ?_
  refine lv_iload hx hb dL_speak_4 (lv_at hl 4 rfl) ?_
  refine mbl_cW (wf := fun u : mb_bs => wW Y o a aa ad u F) C hD hS (vx_runV (As := [.int x1, .int x2, .int x3, .int x4]) (rest := []) ⟨hx, hb, hml, hown, hts⟩ (mbx_fr (W := wW Y o a aa ad b F) (wr := wR Y ad F) (WF := fun u : mb_bs => wW Y o a aa ad u F) (fun u => u) (fun u => u) wW_p (fun u => wW_p) (fun u => wW_p) (fun _ _ h => h) (fun _ _ h => h) (cf_speak l hl0 D Y N o a aa _ _ _ _ _ _ _ _ _ x1 x2 x3 x4 _ _ hF)) (cwV 4 hts gL_speak_X7_speak rfl rfl rfl (by decide +kernel) ⟨(Nat.le_of_ble_eq_true rfl), (Nat.le_of_ble_eq_true rfl)⟩) (mbl_preV C hP hD hS 5 rfl rfl) rfl rfl hl.1 rfl (lv_room (Nat.le_of_ble_eq_true rfl)) dL_speak_6 ⟨(Nat.le_of_ble_eq_true rfl), (Nat.le_of_ble_eq_true rfl)⟩) (fun E ce q9 u H locs hF hP hD hS hce hcv hcl => ?_) (fun r u H locs hF hP hD hS => ?_)
  · rcases hF with ⟨rfl, hF⟩ | ⟨rfl, hF⟩ | ⟨rfl, hF⟩
    · refine vx_catch (own := RL) (name := "java/lang/IndexOutOfBoundsException") hown [] ⟨0, 9, 10, 16⟩ [⟨0, 9, 15, 19⟩, ⟨0, 9, 20, 30⟩] (by rw [hT]; rfl) (fun z h => absurd h List.not_mem_nil) rfl (by decide) (hts (.classLink RL 16 "java/lang/IndexOutOfBoundsException") (List.mem_of_getElem? (i := 1) rfl)) (va_Nw.use rfl (hG.2.1 _ (List.mem_of_getElem? (i := 27) rfl))) hce hcv hcl ?_
      refine lv_astore (lv' := [(5, .ref q9), (0, .ref o), (1, .int x1), (2, .int x2), (3, .int x3), (4, .int x4)]) hx hb dL_speak_10 hl (by decide) rfl (fun ls hl => ?_)
      refine lv_ldc (v := -1000001) hx hb hown (hts (.constant RL 18 (-1000001)) (List.mem_of_getElem? (i := 4) rfl)) dL_speak_12 ?_
      exact mb_ri (S := mb_S) (wf := fun u => wW Y o a aa ad u.1 u.2) C.1 rfl (u := (u, F)) hF hP hD hS dL_speak_14 (Nat.le_of_ble_eq_true rfl) (Nat.le_of_ble_eq_true rfl)
    · refine vx_catch (own := RL) (name := "java/lang/IllegalArgumentException") hown [⟨0, 9, 10, 16⟩] ⟨0, 9, 15, 19⟩ [⟨0, 9, 20, 30⟩] (by rw [hT]; rfl) (fun z h => by
        simp only [List.mem_cons, List.not_mem_nil, or_false] at h
        rcases h with rfl
        · exact Or.inr ⟨by decide, _, (hts (.classLink RL 16 "java/lang/IndexOutOfBoundsException") (List.mem_of_getElem? (i := 1) rfl)), hN.1⟩) rfl (by decide) (hts (.classLink RL 19 "java/lang/IllegalArgumentException") (List.mem_of_getElem? (i := 2) rfl)) (va_Nw.use rfl (hG.2.1 _ (List.mem_of_getElem? (i := 28) rfl))) hce hcv hcl ?_
      refine lv_astore (lv' := [(5, .ref q9), (0, .ref o), (1, .int x1), (2, .int x2), (3, .int x3), (4, .int x4)]) hx hb dL_speak_15 hl (by decide) rfl (fun ls hl => ?_)
      refine lv_ldc (v := -1000002) hx hb hown (hts (.constant RL 21 (-1000002)) (List.mem_of_getElem? (i := 5) rfl)) dL_speak_17 ?_
      exact mb_ri (S := mb_S) (wf := fun u => wW Y o a aa ad u.1 u.2) C.1 rfl (u := (u, F)) hF hP hD hS dL_speak_19 (Nat.le_of_ble_eq_true rfl) (Nat.le_of_ble_eq_true rfl)
    · refine vx_catch (own := RL) (name := "java/lang/IllegalStateException") hown [⟨0, 9, 10, 16⟩, ⟨0, 9, 15, 19⟩] ⟨0, 9, 20, 30⟩ [] (by rw [hT]; rfl) (fun z h => by
        simp only [List.mem_cons, List.not_mem_nil, or_false] at h
        rcases h with rfl | rfl
        · exact Or.inr ⟨by decide, _, (hts (.classLink RL 16 "java/lang/IndexOutOfBoundsException") (List.mem_of_getElem? (i := 1) rfl)), hN.2.1⟩
        · exact Or.inr ⟨by decide, _, (hts (.classLink RL 19 "java/lang/IllegalArgumentException") (List.mem_of_getElem? (i := 2) rfl)), hN.2.2⟩) rfl (by decide) (hts (.classLink RL 30 "java/lang/IllegalStateException") (List.mem_of_getElem? (i := 3) rfl)) (va_Nw.use rfl (hG.2.1 _ (List.mem_of_getElem? (i := 29) rfl))) hce hcv hcl ?_
      refine lv_astore (lv' := [(5, .ref q9), (0, .ref o), (1, .int x1), (2, .int x2), (3, .int x3), (4, .int x4)]) hx hb dL_speak_20 hl (by decide) rfl (fun ls hl => ?_)
      refine lv_ldc (v := -1000003) hx hb hown (hts (.constant RL 32 (-1000003)) (List.mem_of_getElem? (i := 6) rfl)) dL_speak_22 ?_
      exact mb_ri (S := mb_S) (wf := fun u => wW Y o a aa ad u.1 u.2) C.1 rfl (u := (u, F)) hF hP hD hS dL_speak_24 (Nat.le_of_ble_eq_true rfl) (Nat.le_of_ble_eq_true rfl)
  · exact mb_ri (S := mb_S) (wf := fun u => wW Y o a aa ad u.1 u.2) C.1 rfl (u := (u, F)) hF hP hD hS dL_speak_9 (Nat.le_of_ble_eq_true rfl) (Nat.le_of_ble_eq_true rfl)
noncomputable def LP_year (N : Nat) (b : mb_bs) (F : mb_m) (x1 x2 : Int32) (K : Int32 → mb_S → Prop) : Prop := BP_year N b.1 b.2.1 b.2.2.1 b.2.2.2.1 b.2.2.2.2.1 b.2.2.2.2.2.1 b.2.2.2.2.2.2.1 b.2.2.2.2.2.2.2 x1 x2 (fun r b1 => K r (b1, F)) (fun E b1 => (E = eO ∧ K (-1000001) (b1, F)))
set_option maxHeartbeats 4000000 in
set_option maxRecDepth 100000 in
theorem cw_year (l : Launch) (hl0 : l.stackTraces = false) (D : va_G) (Y : Nat → ClassId) (N : Nat) (o : Nat) (a aa ad : Nat → Nat) (b : mb_bs) (F : mb_m) (sz : Nat) (x1 x2 : Int32) (K : Int32 → mb_S → Prop) (hF : LP_year N b F x1 x2 K) : Met l yL_year wsL_year ({ frames := 8, cells := 1, slots := 6, locals := 136 } : Room) (va_Pc [.ref o, .int x1, .int x2] (mb_BL D Y (wW Y o a aa ad b F) sz)) (va_Qi K (fun u t => mb_T D (va_A (wW Y o a aa ad b F) sz) (wW Y o a aa ad u.1 u.2) t) (va_A (wW Y o a aa ad b F) sz)) 1 6 (va_A (wW Y o a aa ad b F) sz) := by
  unfold LP_year at hF
  refine mbl_begin (cc := cL_year) (maxL := 4) (ret := some .int) (hh := [(0, 6, 7, 16)]) hl0 (by decide +kernel) rfl (Nat.le_of_ble_eq_true rfl) ?_
  intro p e s m below meth c ls C hsz hP hD hl
  generalize hAe : va_A (wW Y o a aa ad b F) sz = A at C hD ⊢
  have C : mb_CL l p s m meth c ([.ref o, .int x1, .int x2] : List Value).toArray cL_year 4 (some .int) wsL_year RL D Y A [(0, 6, 7, 16)] := C
  obtain ⟨⟨hx, hb, hr, hml, hts, hown, hlocks, hA, hG⟩, hT, hX, hl0, hN⟩ := id C
  have hK := hG.1
  have hS : va_S A s.heap s.heap [] := va_S.rf
  have hl : lv_has ls 4 [(0, .ref o), (1, .int x1), (2, .int x2)] := hl
  refine lv_aload_n hx hb dL_year_0 rfl (lv_at hl 0 rfl) ?_
  refine lv_iload_n hx hb dL_year_1 rfl (lv_at hl 1 rfl) ?_
  refine lv_iload_n hx hb dL_year_2 rfl (lv_at hl 2 rfl) ?_
  refine mbl_cW (wf := fun u : mb_bs => wW Y o a aa ad u F) C hD hS (vx_runV (As := [.int x1, .int x2]) (rest := []) ⟨hx, hb, hml, hown, hts⟩ (mbx_fr (W := wW Y o a aa ad b F) (wr := wR Y ad F) (WF := fun u : mb_bs => wW Y o a aa ad u F) (fun u => u) (fun u => u) wW_p (fun u => wW_p) (fun u => wW_p) (fun _ _ h => h) (fun _ _ h => h) (cf_year l hl0 D Y N o a aa _ _ _ _ _ _ _ _ _ x1 x2 _ _ hF)) (cwV 2 hts gL_year_X7_year rfl rfl rfl (by decide +kernel) ⟨(Nat.le_of_ble_eq_true rfl), (Nat.le_of_ble_eq_true rfl)⟩) (mbl_preV C hP hD hS 5 rfl rfl) rfl rfl hl.1 rfl (lv_room (Nat.le_of_ble_eq_true rfl)) dL_year_3 ⟨(Nat.le_of_ble_eq_true rfl), (Nat.le_of_ble_eq_true rfl)⟩) (fun E ce q9 u H locs hF hP hD hS hce hcv hcl => ?_) (fun r u H locs hF hP hD hS => ?_)
  · obtain ⟨rfl, hF⟩ := hF
    refine vx_catch (own := RL) (name := "java/lang/IndexOutOfBoundsException") hown [] ⟨0, 6, 7, 16⟩ [] (by rw [hT]; rfl) (fun z h => absurd h List.not_mem_nil) rfl (by decide) (hts (.classLink RL 16 "java/lang/IndexOutOfBoundsException") (List.mem_of_getElem? (i := 1) rfl)) (va_Nw.use rfl (hG.2.1 _ (List.mem_of_getElem? (i := 27) rfl))) hce hcv hcl ?_
    refine lv_astore_n (lv' := [(3, .ref q9), (0, .ref o), (1, .int x1), (2, .int x2)]) hx hb dL_year_7 rfl hl (by decide) rfl (fun ls hl => ?_)
    refine lv_ldc (v := -1000001) hx hb hown (hts (.constant RL 18 (-1000001)) (List.mem_of_getElem? (i := 2) rfl)) dL_year_8 ?_
    exact mb_ri (S := mb_S) (wf := fun u => wW Y o a aa ad u.1 u.2) C.1 rfl (u := (u, F)) hF hP hD hS dL_year_10 (Nat.le_of_ble_eq_true rfl) (Nat.le_of_ble_eq_true rfl)
  · exact mb_ri (S := mb_S) (wf := fun u => wW Y o a aa ad u.1 u.2) C.1 rfl (u := (u, F)) hF hP hD hS dL_year_6 (Nat.le_of_ble_eq_true rfl) (Nat.le_of_ble_eq_true rfl)
noncomputable def LP_yearAnew (N : Nat) (b : mb_bs) (F : mb_m) (x1 x2 : Int32) (K : Int32 → mb_S → Prop) : Prop := BP_yearAnew N b.1 b.2.1 b.2.2.1 b.2.2.2.1 b.2.2.2.2.1 b.2.2.2.2.2.1 b.2.2.2.2.2.2.1 b.2.2.2.2.2.2.2 x1 x2 (fun r b1 => K r (b1, F)) (fun E b1 => (E = eO ∧ K (-1000001) (b1, F)))
set_option maxHeartbeats 4000000 in
set_option maxRecDepth 100000 in
theorem cw_yearAnew (l : Launch) (hl0 : l.stackTraces = false) (D : va_G) (Y : Nat → ClassId) (N : Nat) (o : Nat) (a aa ad : Nat → Nat) (b : mb_bs) (F : mb_m) (sz : Nat) (x1 x2 : Int32) (K : Int32 → mb_S → Prop) (hF : LP_yearAnew N b F x1 x2 K) : Met l yL_yearAnew wsL_yearAnew ({ frames := 8, cells := 1, slots := 6, locals := 136 } : Room) (va_Pc [.ref o, .int x1, .int x2] (mb_BL D Y (wW Y o a aa ad b F) sz)) (va_Qi K (fun u t => mb_T D (va_A (wW Y o a aa ad b F) sz) (wW Y o a aa ad u.1 u.2) t) (va_A (wW Y o a aa ad b F) sz)) 1 6 (va_A (wW Y o a aa ad b F) sz) := by
  unfold LP_yearAnew at hF
  refine mbl_begin (cc := cL_yearAnew) (maxL := 4) (ret := some .int) (hh := [(0, 6, 7, 16)]) hl0 (by decide +kernel) rfl (Nat.le_of_ble_eq_true rfl) ?_
  intro p e s m below meth c ls C hsz hP hD hl
  generalize hAe : va_A (wW Y o a aa ad b F) sz = A at C hD ⊢
  have C : mb_CL l p s m meth c ([.ref o, .int x1, .int x2] : List Value).toArray cL_yearAnew 4 (some .int) wsL_yearAnew RL D Y A [(0, 6, 7, 16)] := C
  obtain ⟨⟨hx, hb, hr, hml, hts, hown, hlocks, hA, hG⟩, hT, hX, hl0, hN⟩ := id C
  have hK := hG.1
  have hS : va_S A s.heap s.heap [] := va_S.rf
  have hl : lv_has ls 4 [(0, .ref o), (1, .int x1), (2, .int x2)] := hl
  refine lv_aload_n hx hb dL_yearAnew_0 rfl (lv_at hl 0 rfl) ?_
  refine lv_iload_n hx hb dL_yearAnew_1 rfl (lv_at hl 1 rfl) ?_
  refine lv_iload_n hx hb dL_yearAnew_2 rfl (lv_at hl 2 rfl) ?_
  refine mbl_cW (wf := fun u : mb_bs => wW Y o a aa ad u F) C hD hS (vx_runV (As := [.int x1, .int x2]) (rest := []) ⟨hx, hb, hml, hown, hts⟩ (mbx_fr (W := wW Y o a aa ad b F) (wr := wR Y ad F) (WF := fun u : mb_bs => wW Y o a aa ad u F) (fun u => u) (fun u => u) wW_p (fun u => wW_p) (fun u => wW_p) (fun _ _ h => h) (fun _ _ h => h) (cf_yearAnew l hl0 D Y N o a aa _ _ _ _ _ _ _ _ _ x1 x2 _ _ hF)) (cwV 2 hts gL_yearAnew_X7_yearAnew rfl rfl rfl (by decide +kernel) ⟨(Nat.le_of_ble_eq_true rfl), (Nat.le_of_ble_eq_true rfl)⟩) (mbl_preV C hP hD hS 5 rfl rfl) rfl rfl hl.1 rfl (lv_room (Nat.le_of_ble_eq_true rfl)) dL_yearAnew_3 ⟨(Nat.le_of_ble_eq_true rfl), (Nat.le_of_ble_eq_true rfl)⟩) (fun E ce q9 u H locs hF hP hD hS hce hcv hcl => ?_) (fun r u H locs hF hP hD hS => ?_)
  · obtain ⟨rfl, hF⟩ := hF
    refine vx_catch (own := RL) (name := "java/lang/IndexOutOfBoundsException") hown [] ⟨0, 6, 7, 16⟩ [] (by rw [hT]; rfl) (fun z h => absurd h List.not_mem_nil) rfl (by decide) (hts (.classLink RL 16 "java/lang/IndexOutOfBoundsException") (List.mem_of_getElem? (i := 1) rfl)) (va_Nw.use rfl (hG.2.1 _ (List.mem_of_getElem? (i := 27) rfl))) hce hcv hcl ?_
    refine lv_astore_n (lv' := [(3, .ref q9), (0, .ref o), (1, .int x1), (2, .int x2)]) hx hb dL_yearAnew_7 rfl hl (by decide) rfl (fun ls hl => ?_)
    refine lv_ldc (v := -1000001) hx hb hown (hts (.constant RL 18 (-1000001)) (List.mem_of_getElem? (i := 2) rfl)) dL_yearAnew_8 ?_
    exact mb_ri (S := mb_S) (wf := fun u => wW Y o a aa ad u.1 u.2) C.1 rfl (u := (u, F)) hF hP hD hS dL_yearAnew_10 (Nat.le_of_ble_eq_true rfl) (Nat.le_of_ble_eq_true rfl)
  · exact mb_ri (S := mb_S) (wf := fun u => wW Y o a aa ad u.1 u.2) C.1 rfl (u := (u, F)) hF hP hD hS dL_yearAnew_6 (Nat.le_of_ble_eq_true rfl) (Nat.le_of_ble_eq_true rfl)
