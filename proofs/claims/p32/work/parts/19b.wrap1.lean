noncomputable def LP_placeOf (N : Nat) (b : mb_bs) (F : mb_m) (x1 x2 : Int32) (K : Int32 → mb_S → Prop) : Prop := BP_placeOf N b.1 b.2.1 b.2.2.1 b.2.2.2.1 b.2.2.2.2.1 b.2.2.2.2.2.1 b.2.2.2.2.2.2.1 b.2.2.2.2.2.2.2 x1 x2 (fun r b1 => K r (b1, F)) (fun E b1 => (E = eA ∧ K (-1000002) (b1, F)))
set_option maxHeartbeats 4000000 in
set_option maxRecDepth 100000 in
theorem cw_placeOf (l : Launch) (hl0 : l.stackTraces = false) (D : va_G) (Y : Nat → ClassId) (N : Nat) (o : Nat) (a aa ad : Nat → Nat) (b : mb_bs) (F : mb_m) (sz : Nat) (x1 x2 : Int32) (K : Int32 → mb_S → Prop) (hF : LP_placeOf N b F x1 x2 K) : Met l yL_placeOf wsL_placeOf ({ frames := 8, cells := 2, slots := 12, locals := 132 } : Room) (va_Pc [.ref o, .int x1, .int x2] (mb_BL D Y (wW Y o a aa ad b F) sz)) (va_Qi K (fun u t => mb_T D (va_A (wW Y o a aa ad b F) sz) (wW Y o a aa ad u.1 u.2) t) (va_A (wW Y o a aa ad b F) sz)) 2 12 (va_A (wW Y o a aa ad b F) sz) := by
  unfold LP_placeOf at hF
  refine mbl_begin (cc := cL_placeOf) (maxL := 4) (ret := some .int) (hh := [(0, 6, 7, 19)]) hl0 (by decide +kernel) rfl (Nat.le_of_ble_eq_true rfl) ?_
  intro p e s m below meth c ls C hsz hP hD hl
  generalize hAe : va_A (wW Y o a aa ad b F) sz = A at C hD ⊢
  have C : mb_CL l p s m meth c ([.ref o, .int x1, .int x2] : List Value).toArray cL_placeOf 4 (some .int) wsL_placeOf RL D Y A [(0, 6, 7, 19)] := C
  obtain ⟨⟨hx, hb, hr, hml, hts, hown, hlocks, hA, hG⟩, hT, hX, hl0, hN⟩ := id C
  have hK := hG.1
  have hS : va_S A s.heap s.heap [] := va_S.rf
  have hl : lv_has ls 4 [(0, .ref o), (1, .int x1), (2, .int x2)] := hl
  refine lv_aload_n hx hb dL_placeOf_0 rfl (lv_at hl 0 rfl) ?_
  refine lv_iload_n hx hb dL_placeOf_1 rfl (lv_at hl 1 rfl) ?_
  refine lv_iload_n hx hb dL_placeOf_2 rfl (lv_at hl 2 rfl) ?_
  refine mbl_cW (wf := fun u : mb_bs => wW Y o a aa ad u F) C hD hS (vx_runV (As := [.int x1, .int x2]) (rest := []) ⟨hx, hb, hml, hown, hts⟩ (mbx_fr (W := wW Y o a aa ad b F) (wr := wR Y ad F) (WF := fun u : mb_bs => wW Y o a aa ad u F) (fun u => u) (fun u => u) wW_p (fun u => wW_p) (fun u => wW_p) (fun _ _ h => h) (fun _ _ h => h) (cf_placeOf l hl0 D Y N o a aa _ _ _ _ _ _ _ _ _ x1 x2 _ _ hF)) (cwV 2 hts gL_placeOf_X7_placeOf rfl rfl rfl (by decide +kernel) ⟨(Nat.le_of_ble_eq_true rfl), (Nat.le_of_ble_eq_true rfl)⟩) (mbl_preV C hP hD hS 5 rfl rfl) rfl rfl hl.1 rfl (lv_room (Nat.le_of_ble_eq_true rfl)) dL_placeOf_3 ⟨(Nat.le_of_ble_eq_true rfl), (Nat.le_of_ble_eq_true rfl)⟩) (fun E ce q9 u H locs hF hP hD hS hce hcv hcl => ?_) (fun r u H locs hF hP hD hS => ?_)
  · obtain ⟨rfl, hF⟩ := hF
    refine vx_catch (own := RL) (name := "java/lang/IllegalArgumentException") hown [] ⟨0, 6, 7, 19⟩ [] (by rw [hT]; rfl) (fun z h => absurd h List.not_mem_nil) rfl (by decide) (hts (.classLink RL 19 "java/lang/IllegalArgumentException") (List.mem_of_getElem? (i := 1) rfl)) (va_Nw.use rfl (hG.2.1 _ (List.mem_of_getElem? (i := 28) rfl))) hce hcv hcl ?_
    refine lv_astore_n (lv' := [(3, .ref q9), (0, .ref o), (1, .int x1), (2, .int x2)]) hx hb dL_placeOf_7 rfl hl (by decide) rfl (fun ls hl => ?_)
    refine lv_ldc (v := -1000002) hx hb hown (hts (.constant RL 21 (-1000002)) (List.mem_of_getElem? (i := 2) rfl)) dL_placeOf_8 ?_
    exact mb_ri (S := mb_S) (wf := fun u => wW Y o a aa ad u.1 u.2) C.1 rfl (u := (u, F)) hF hP hD hS dL_placeOf_10 (Nat.le_of_ble_eq_true rfl) (Nat.le_of_ble_eq_true rfl)
  · exact mb_ri (S := mb_S) (wf := fun u => wW Y o a aa ad u.1 u.2) C.1 rfl (u := (u, F)) hF hP hD hS dL_placeOf_6 (Nat.le_of_ble_eq_true rfl) (Nat.le_of_ble_eq_true rfl)
noncomputable def LP_book (N : Nat) (b : mb_bs) (F : mb_m) (x1 x2 x3 x4 x5 : Int32) (K : Int32 → mb_S → Prop) : Prop := BP_book N b.1 b.2.1 b.2.2.1 b.2.2.2.1 b.2.2.2.2.1 b.2.2.2.2.2.1 b.2.2.2.2.2.2.1 b.2.2.2.2.2.2.2 x1 x2 x3 x4 x5 (fun r b1 => K r (b1, F)) (fun E b1 => (E = eA ∧ K (-1000002) (b1, F)) ∨ (E = eS ∧ K (-1000003) (b1, F)))
set_option maxHeartbeats 4000000 in
set_option maxRecDepth 100000 in
theorem cw_book (l : Launch) (hl0 : l.stackTraces = false) (D : va_G) (Y : Nat → ClassId) (N : Nat) (o : Nat) (a aa ad : Nat → Nat) (b : mb_bs) (F : mb_m) (sz : Nat) (x1 x2 x3 x4 x5 : Int32) (K : Int32 → mb_S → Prop) (hF : LP_book N b F x1 x2 x3 x4 x5 K) : Met l yL_book wsL_book ({ frames := 8, cells := 14, slots := 369, locals := 136 } : Room) (va_Pc [.ref o, .int x1, .int x2, .int x3, .int x4, .int x5] (mb_BL D Y (wW Y o a aa ad b F) sz)) (va_Qi K (fun u t => mb_T D (va_A (wW Y o a aa ad b F) sz) (wW Y o a aa ad u.1 u.2) t) (va_A (wW Y o a aa ad b F) sz)) 14 369 (va_A (wW Y o a aa ad b F) sz) := by
  unfold LP_book at hF
  refine mbl_begin (cc := cL_book) (maxL := 7) (ret := some .int) (hh := [(0, 11, 12, 19), (0, 11, 17, 30)]) hl0 (by decide +kernel) rfl (Nat.le_of_ble_eq_true rfl) ?_
  intro p e s m below meth c ls C hsz hP hD hl
  generalize hAe : va_A (wW Y o a aa ad b F) sz = A at C hD ⊢
  have C : mb_CL l p s m meth c ([.ref o, .int x1, .int x2, .int x3, .int x4, .int x5] : List Value).toArray cL_book 7 (some .int) wsL_book RL D Y A [(0, 11, 12, 19), (0, 11, 17, 30)] := C
  obtain ⟨⟨hx, hb, hr, hml, hts, hown, hlocks, hA, hG⟩, hT, hX, hl0, hN⟩ := id C
  have hK := hG.1
  have hS : va_S A s.heap s.heap [] := va_S.rf
  have hl : lv_has ls 7 [(0, .ref o), (1, .int x1), (2, .int x2), (3, .int x3), (4, .int x4), (5, .int x5)] := hl
  refine lv_aload_n hx hb dL_book_0 rfl (lv_at hl 0 rfl) ?_
  refine lv_iload_n hx hb dL_book_1 rfl (lv_at hl 1 rfl) ?_
  refine lv_iload_n hx hb dL_book_2 rfl (lv_at hl 2 rfl) ?_
  refine lv_iload_n hx hb dL_book_3 rfl (lv_at hl 3 rfl) ?_
  refine lv_iload hx hb dL_book_4 (lv_at hl 4 rfl) ?_
  refine lv_iload hx hb dL_book_6 (lv_at hl 5 rfl) ?_
  refine mbl_cW (wf := fun u : mb_bs => wW Y o a aa ad u F) C hD hS (vx_runV (As := [.int x1, .int x2, .int x3, .int x4, .int x5]) (rest := []) ⟨hx, hb, hml, hown, hts⟩ (mbx_fr (W := wW Y o a aa ad b F) (wr := wR Y ad F) (WF := fun u : mb_bs => wW Y o a aa ad u F) (fun u => u) (fun u => u) wW_p (fun u => wW_p) (fun u => wW_p) (fun _ _ h => h) (fun _ _ h => h) (cf_book l hl0 D Y N o a aa _ _ _ _ _ _ _ _ _ x1 x2 x3 x4 x5 _ _ hF)) (cwV 5 hts gL_book_X7_book rfl rfl rfl (by decide +kernel) ⟨(Nat.le_of_ble_eq_true rfl), (Nat.le_of_ble_eq_true rfl)⟩) (mbl_preV C hP hD hS 5 rfl rfl) rfl rfl hl.1 rfl (lv_room (Nat.le_of_ble_eq_true rfl)) dL_book_8 ⟨(Nat.le_of_ble_eq_true rfl), (Nat.le_of_ble_eq_true rfl)⟩) (fun E ce q9 u H locs hF hP hD hS hce hcv hcl => ?_) (fun r u H locs hF hP hD hS => ?_)
  · rcases hF with ⟨rfl, hF⟩ | ⟨rfl, hF⟩
    · refine vx_catch (own := RL) (name := "java/lang/IllegalArgumentException") hown [] ⟨0, 11, 12, 19⟩ [⟨0, 11, 17, 30⟩] (by rw [hT]; rfl) (fun z h => absurd h List.not_mem_nil) rfl (by decide) (hts (.classLink RL 19 "java/lang/IllegalArgumentException") (List.mem_of_getElem? (i := 1) rfl)) (va_Nw.use rfl (hG.2.1 _ (List.mem_of_getElem? (i := 28) rfl))) hce hcv hcl ?_
      refine lv_astore (lv' := [(6, .ref q9), (0, .ref o), (1, .int x1), (2, .int x2), (3, .int x3), (4, .int x4), (5, .int x5)]) hx hb dL_book_12 hl (by decide) rfl (fun ls hl => ?_)
      refine lv_ldc (v := -1000002) hx hb hown (hts (.constant RL 21 (-1000002)) (List.mem_of_getElem? (i := 3) rfl)) dL_book_14 ?_
      exact mb_ri (S := mb_S) (wf := fun u => wW Y o a aa ad u.1 u.2) C.1 rfl (u := (u, F)) hF hP hD hS dL_book_16 (Nat.le_of_ble_eq_true rfl) (Nat.le_of_ble_eq_true rfl)
    · refine vx_catch (own := RL) (name := "java/lang/IllegalStateException") hown [⟨0, 11, 12, 19⟩] ⟨0, 11, 17, 30⟩ [] (by rw [hT]; rfl) (fun z h => by
        simp only [List.mem_cons, List.not_mem_nil, or_false] at h
        rcases h with rfl
        · exact Or.inr ⟨by decide, _, (hts (.classLink RL 19 "java/lang/IllegalArgumentException") (List.mem_of_getElem? (i := 1) rfl)), hN.2.2⟩) rfl (by decide) (hts (.classLink RL 30 "java/lang/IllegalStateException") (List.mem_of_getElem? (i := 2) rfl)) (va_Nw.use rfl (hG.2.1 _ (List.mem_of_getElem? (i := 29) rfl))) hce hcv hcl ?_
      refine lv_astore (lv' := [(6, .ref q9), (0, .ref o), (1, .int x1), (2, .int x2), (3, .int x3), (4, .int x4), (5, .int x5)]) hx hb dL_book_17 hl (by decide) rfl (fun ls hl => ?_)
      refine lv_ldc (v := -1000003) hx hb hown (hts (.constant RL 32 (-1000003)) (List.mem_of_getElem? (i := 4) rfl)) dL_book_19 ?_
      exact mb_ri (S := mb_S) (wf := fun u => wW Y o a aa ad u.1 u.2) C.1 rfl (u := (u, F)) hF hP hD hS dL_book_21 (Nat.le_of_ble_eq_true rfl) (Nat.le_of_ble_eq_true rfl)
  · exact mb_ri (S := mb_S) (wf := fun u => wW Y o a aa ad u.1 u.2) C.1 rfl (u := (u, F)) hF hP hD hS dL_book_11 (Nat.le_of_ble_eq_true rfl) (Nat.le_of_ble_eq_true rfl)
noncomputable def LP_sew (N : Nat) (b : mb_bs) (F : mb_m) (x1 x2 : Int32) (K : Int32 → mb_S → Prop) : Prop := BP_sew N b.1 b.2.1 b.2.2.1 b.2.2.2.1 b.2.2.2.2.1 b.2.2.2.2.2.1 b.2.2.2.2.2.2.1 b.2.2.2.2.2.2.2 x1 x2 (fun r b1 => K r (b1, F)) (fun E b1 => (E = eO ∧ K (-1000001) (b1, F)) ∨ (E = eA ∧ K (-1000002) (b1, F)) ∨ (E = eS ∧ K (-1000003) (b1, F)))
set_option maxHeartbeats 4000000 in
set_option maxRecDepth 100000 in
theorem cw_sew (l : Launch) (hl0 : l.stackTraces = false) (D : va_G) (Y : Nat → ClassId) (N : Nat) (o : Nat) (a aa ad : Nat → Nat) (b : mb_bs) (F : mb_m) (sz : Nat) (x1 x2 : Int32) (K : Int32 → mb_S → Prop) (hF : LP_sew N b F x1 x2 K) : Met l yL_sew wsL_sew ({ frames := 8, cells := 3, slots := 18, locals := 135 } : Room) (va_Pc [.ref o, .int x1, .int x2] (mb_BL D Y (wW Y o a aa ad b F) sz)) (va_Qi K (fun u t => mb_T D (va_A (wW Y o a aa ad b F) sz) (wW Y o a aa ad u.1 u.2) t) (va_A (wW Y o a aa ad b F) sz)) 3 18 (va_A (wW Y o a aa ad b F) sz) := by
  unfold LP_sew at hF
  refine mbl_begin (cc := cL_sew) (maxL := 4) (ret := some .int) (hh := [(0, 6, 7, 16), (0, 6, 11, 19), (0, 6, 15, 30)]) hl0 (by decide +kernel) rfl (Nat.le_of_ble_eq_true rfl) ?_
  intro p e s m below meth c ls C hsz hP hD hl
  generalize hAe : va_A (wW Y o a aa ad b F) sz = A at C hD ⊢
  have C : mb_CL l p s m meth c ([.ref o, .int x1, .int x2] : List Value).toArray cL_sew 4 (some .int) wsL_sew RL D Y A [(0, 6, 7, 16), (0, 6, 11, 19), (0, 6, 15, 30)] := C
  obtain ⟨⟨hx, hb, hr, hml, hts, hown, hlocks, hA, hG⟩, hT, hX, hl0, hN⟩ := id C
  have hK := hG.1
  have hS : va_S A s.heap s.heap [] := va_S.rf
  have hl : lv_has ls 4 [(0, .ref o), (1, .int x1), (2, .int x2)] := hl
  refine lv_aload_n hx hb dL_sew_0 rfl (lv_at hl 0 rfl) ?_
  refine lv_iload_n hx hb dL_sew_1 rfl (lv_at hl 1 rfl) ?_
  refine lv_iload_n hx hb dL_sew_2 rfl (lv_at hl 2 rfl) ?_
  refine mbl_cW (wf := fun u : mb_bs => wW Y o a aa ad u F) C hD hS (vx_runV (As := [.int x1, .int x2]) (rest := []) ⟨hx, hb, hml, hown, hts⟩ (mbx_fr (W := wW Y o a aa ad b F) (wr := wR Y ad F) (WF := fun u : mb_bs => wW Y o a aa ad u F) (fun u => u) (fun u => u) wW_p (fun u => wW_p) (fun u => wW_p) (fun _ _ h => h) (fun _ _ h => h) (cf_sew l hl0 D Y N o a aa _ _ _ _ _ _ _ _ _ x1 x2 _ _ hF)) (cwV 2 hts gL_sew_X7_sew rfl rfl rfl (by decide +kernel) ⟨(Nat.le_of_ble_eq_true rfl), (Nat.le_of_ble_eq_true rfl)⟩) (mbl_preV C hP hD hS 5 rfl rfl) rfl rfl hl.1 rfl (lv_room (Nat.le_of_ble_eq_true rfl)) dL_sew_3 ⟨(Nat.le_of_ble_eq_true rfl), (Nat.le_of_ble_eq_true rfl)⟩) (fun E ce q9 u H locs hF hP hD hS hce hcv hcl => ?_) (fun r u H locs hF hP hD hS => ?_)
  · rcases hF with ⟨rfl, hF⟩ | ⟨rfl, hF⟩ | ⟨rfl, hF⟩
    · refine vx_catch (own := RL) (name := "java/lang/IndexOutOfBoundsException") hown [] ⟨0, 6, 7, 16⟩ [⟨0, 6, 11, 19⟩, ⟨0, 6, 15, 30⟩] (by rw [hT]; rfl) (fun z h => absurd h List.not_mem_nil) rfl (by decide) (hts (.classLink RL 16 "java/lang/IndexOutOfBoundsException") (List.mem_of_getElem? (i := 1) rfl)) (va_Nw.use rfl (hG.2.1 _ (List.mem_of_getElem? (i := 27) rfl))) hce hcv hcl ?_
      refine lv_astore_n (lv' := [(3, .ref q9), (0, .ref o), (1, .int x1), (2, .int x2)]) hx hb dL_sew_7 rfl hl (by decide) rfl (fun ls hl => ?_)
      refine lv_ldc (v := -1000001) hx hb hown (hts (.constant RL 18 (-1000001)) (List.mem_of_getElem? (i := 4) rfl)) dL_sew_8 ?_
      exact mb_ri (S := mb_S) (wf := fun u => wW Y o a aa ad u.1 u.2) C.1 rfl (u := (u, F)) hF hP hD hS dL_sew_10 (Nat.le_of_ble_eq_true rfl) (Nat.le_of_ble_eq_true rfl)
    · refine vx_catch (own := RL) (name := "java/lang/IllegalArgumentException") hown [⟨0, 6, 7, 16⟩] ⟨0, 6, 11, 19⟩ [⟨0, 6, 15, 30⟩] (by rw [hT]; rfl) (fun z h => by
        simp only [List.mem_cons, List.not_mem_nil, or_false] at h
        rcases h with rfl
        · exact Or.inr ⟨by decide, _, (hts (.classLink RL 16 "java/lang/IndexOutOfBoundsException") (List.mem_of_getElem? (i := 1) rfl)), hN.1⟩) rfl (by decide) (hts (.classLink RL 19 "java/lang/IllegalArgumentException") (List.mem_of_getElem? (i := 2) rfl)) (va_Nw.use rfl (hG.2.1 _ (List.mem_of_getElem? (i := 28) rfl))) hce hcv hcl ?_
      refine lv_astore_n (lv' := [(3, .ref q9), (0, .ref o), (1, .int x1), (2, .int x2)]) hx hb dL_sew_11 rfl hl (by decide) rfl (fun ls hl => ?_)
      refine lv_ldc (v := -1000002) hx hb hown (hts (.constant RL 21 (-1000002)) (List.mem_of_getElem? (i := 5) rfl)) dL_sew_12 ?_
      exact mb_ri (S := mb_S) (wf := fun u => wW Y o a aa ad u.1 u.2) C.1 rfl (u := (u, F)) hF hP hD hS dL_sew_14 (Nat.le_of_ble_eq_true rfl) (Nat.le_of_ble_eq_true rfl)
    · refine vx_catch (own := RL) (name := "java/lang/IllegalStateException") hown [⟨0, 6, 7, 16⟩, ⟨0, 6, 11, 19⟩] ⟨0, 6, 15, 30⟩ [] (by rw [hT]; rfl) (fun z h => by
        simp only [List.mem_cons, List.not_mem_nil, or_false] at h
        rcases h with rfl | rfl
        · exact Or.inr ⟨by decide, _, (hts (.classLink RL 16 "java/lang/IndexOutOfBoundsException") (List.mem_of_getElem? (i := 1) rfl)), hN.2.1⟩
        · exact Or.inr ⟨by decide, _, (hts (.classLink RL 19 "java/lang/IllegalArgumentException") (List.mem_of_getElem? (i := 2) rfl)), hN.2.2⟩) rfl (by decide) (hts (.classLink RL 30 "java/lang/IllegalStateException") (List.mem_of_getElem? (i := 3) rfl)) (va_Nw.use rfl (hG.2.1 _ (List.mem_of_getElem? (i := 29) rfl))) hce hcv hcl ?_
      refine lv_astore_n (lv' := [(3, .ref q9), (0, .ref o), (1, .int x1), (2, .int x2)]) hx hb dL_sew_15 rfl hl (by decide) rfl (fun ls hl => ?_)
      refine lv_ldc (v := -1000003) hx hb hown (hts (.constant RL 32 (-1000003)) (List.mem_of_getElem? (i := 6) rfl)) dL_sew_16 ?_
      exact mb_ri (S := mb_S) (wf := fun u => wW Y o a aa ad u.1 u.2) C.1 rfl (u := (u, F)) hF hP hD hS dL_sew_18 (Nat.le_of_ble_eq_true rfl) (Nat.le_of_ble_eq_true rfl)
  · exact mb_ri (S := mb_S) (wf := fun u => wW Y o a aa ad u.1 u.2) C.1 rfl (u := (u, F)) hF hP hD hS dL_sew_6 (Nat.le_of_ble_eq_true rfl) (Nat.le_of_ble_eq_true rfl)
noncomputable def LP_unsew (N : Nat) (b : mb_bs) (F : mb_m) (x1 x2 : Int32) (K : Int32 → mb_S → Prop) : Prop := BP_unsew N b.1 b.2.1 b.2.2.1 b.2.2.2.1 b.2.2.2.2.1 b.2.2.2.2.2.1 b.2.2.2.2.2.2.1 b.2.2.2.2.2.2.2 x1 x2 (fun r b1 => K r (b1, F)) (fun E b1 => (E = eO ∧ K (-1000001) (b1, F)) ∨ (E = eA ∧ K (-1000002) (b1, F)) ∨ (E = eS ∧ K (-1000003) (b1, F)))
set_option maxHeartbeats 4000000 in
set_option maxRecDepth 100000 in
theorem cw_unsew (l : Launch) (hl0 : l.stackTraces = false) (D : va_G) (Y : Nat → ClassId) (N : Nat) (o : Nat) (a aa ad : Nat → Nat) (b : mb_bs) (F : mb_m) (sz : Nat) (x1 x2 : Int32) (K : Int32 → mb_S → Prop) (hF : LP_unsew N b F x1 x2 K) : Met l yL_unsew wsL_unsew ({ frames := 8, cells := 3, slots := 18, locals := 136 } : Room) (va_Pc [.ref o, .int x1, .int x2] (mb_BL D Y (wW Y o a aa ad b F) sz)) (va_Qi K (fun u t => mb_T D (va_A (wW Y o a aa ad b F) sz) (wW Y o a aa ad u.1 u.2) t) (va_A (wW Y o a aa ad b F) sz)) 3 18 (va_A (wW Y o a aa ad b F) sz) := by
  unfold LP_unsew at hF
  refine mbl_begin (cc := cL_unsew) (maxL := 4) (ret := some .int) (hh := [(0, 6, 7, 16), (0, 6, 11, 19), (0, 6, 15, 30)]) hl0 (by decide +kernel) rfl (Nat.le_of_ble_eq_true rfl) ?_
  intro p e s m below meth c ls C hsz hP hD hl
  generalize hAe : va_A (wW Y o a aa ad b F) sz = A at C hD ⊢
  have C : mb_CL l p s m meth c ([.ref o, .int x1, .int x2] : List Value).toArray cL_unsew 4 (some .int) wsL_unsew RL D Y A [(0, 6, 7, 16), (0, 6, 11, 19), (0, 6, 15, 30)] := C
  obtain ⟨⟨hx, hb, hr, hml, hts, hown, hlocks, hA, hG⟩, hT, hX, hl0, hN⟩ := id C
  have hK := hG.1
  have hS : va_S A s.heap s.heap [] := va_S.rf
  have hl : lv_has ls 4 [(0, .ref o), (1, .int x1), (2, .int x2)] := hl
  refine lv_aload_n hx hb dL_unsew_0 rfl (lv_at hl 0 rfl) ?_
  refine lv_iload_n hx hb dL_unsew_1 rfl (lv_at hl 1 rfl) ?_
  refine lv_iload_n hx hb dL_unsew_2 rfl (lv_at hl 2 rfl) ?_
  refine mbl_cW (wf := fun u : mb_bs => wW Y o a aa ad u F) C hD hS (vx_runV (As := [.int x1, .int x2]) (rest := []) ⟨hx, hb, hml, hown, hts⟩ (mbx_fr (W := wW Y o a aa ad b F) (wr := wR Y ad F) (WF := fun u : mb_bs => wW Y o a aa ad u F) (fun u => u) (fun u => u) wW_p (fun u => wW_p) (fun u => wW_p) (fun _ _ h => h) (fun _ _ h => h) (cf_unsew l hl0 D Y N o a aa _ _ _ _ _ _ _ _ _ x1 x2 _ _ hF)) (cwV 2 hts gL_unsew_X7_unsew rfl rfl rfl (by decide +kernel) ⟨(Nat.le_of_ble_eq_true rfl), (Nat.le_of_ble_eq_true rfl)⟩) (mbl_preV C hP hD hS 5 rfl rfl) rfl rfl hl.1 rfl (lv_room (Nat.le_of_ble_eq_true rfl)) dL_unsew_3 ⟨(Nat.le_of_ble_eq_true rfl), (Nat.le_of_ble_eq_true rfl)⟩) (fun E ce q9 u H locs hF hP hD hS hce hcv hcl => ?_) (fun r u H locs hF hP hD hS => ?_)
  · rcases hF with ⟨rfl, hF⟩ | ⟨rfl, hF⟩ | ⟨rfl, hF⟩
    · refine vx_catch (own := RL) (name := "java/lang/IndexOutOfBoundsException") hown [] ⟨0, 6, 7, 16⟩ [⟨0, 6, 11, 19⟩, ⟨0, 6, 15, 30⟩] (by rw [hT]; rfl) (fun z h => absurd h List.not_mem_nil) rfl (by decide) (hts (.classLink RL 16 "java/lang/IndexOutOfBoundsException") (List.mem_of_getElem? (i := 1) rfl)) (va_Nw.use rfl (hG.2.1 _ (List.mem_of_getElem? (i := 27) rfl))) hce hcv hcl ?_
      refine lv_astore_n (lv' := [(3, .ref q9), (0, .ref o), (1, .int x1), (2, .int x2)]) hx hb dL_unsew_7 rfl hl (by decide) rfl (fun ls hl => ?_)
      refine lv_ldc (v := -1000001) hx hb hown (hts (.constant RL 18 (-1000001)) (List.mem_of_getElem? (i := 4) rfl)) dL_unsew_8 ?_
      exact mb_ri (S := mb_S) (wf := fun u => wW Y o a aa ad u.1 u.2) C.1 rfl (u := (u, F)) hF hP hD hS dL_unsew_10 (Nat.le_of_ble_eq_true rfl) (Nat.le_of_ble_eq_true rfl)
    · refine vx_catch (own := RL) (name := "java/lang/IllegalArgumentException") hown [⟨0, 6, 7, 16⟩] ⟨0, 6, 11, 19⟩ [⟨0, 6, 15, 30⟩] (by rw [hT]; rfl) (fun z h => by
        simp only [List.mem_cons, List.not_mem_nil, or_false] at h
        rcases h with rfl
        · exact Or.inr ⟨by decide, _, (hts (.classLink RL 16 "java/lang/IndexOutOfBoundsException") (List.mem_of_getElem? (i := 1) rfl)), hN.1⟩) rfl (by decide) (hts (.classLink RL 19 "java/lang/IllegalArgumentException") (List.mem_of_getElem? (i := 2) rfl)) (va_Nw.use rfl (hG.2.1 _ (List.mem_of_getElem? (i := 28) rfl))) hce hcv hcl ?_
      refine lv_astore_n (lv' := [(3, .ref q9), (0, .ref o), (1, .int x1), (2, .int x2)]) hx hb dL_unsew_11 rfl hl (by decide) rfl (fun ls hl => ?_)
      refine lv_ldc (v := -1000002) hx hb hown (hts (.constant RL 21 (-1000002)) (List.mem_of_getElem? (i := 5) rfl)) dL_unsew_12 ?_
      exact mb_ri (S := mb_S) (wf := fun u => wW Y o a aa ad u.1 u.2) C.1 rfl (u := (u, F)) hF hP hD hS dL_unsew_14 (Nat.le_of_ble_eq_true rfl) (Nat.le_of_ble_eq_true rfl)
    · refine vx_catch (own := RL) (name := "java/lang/IllegalStateException") hown [⟨0, 6, 7, 16⟩, ⟨0, 6, 11, 19⟩] ⟨0, 6, 15, 30⟩ [] (by rw [hT]; rfl) (fun z h => by
        simp only [List.mem_cons, List.not_mem_nil, or_false] at h
        rcases h with rfl | rfl
        · exact Or.inr ⟨by decide, _, (hts (.classLink RL 16 "java/lang/IndexOutOfBoundsException") (List.mem_of_getElem? (i := 1) rfl)), hN.2.1⟩
        · exact Or.inr ⟨by decide, _, (hts (.classLink RL 19 "java/lang/IllegalArgumentException") (List.mem_of_getElem? (i := 2) rfl)), hN.2.2⟩) rfl (by decide) (hts (.classLink RL 30 "java/lang/IllegalStateException") (List.mem_of_getElem? (i := 3) rfl)) (va_Nw.use rfl (hG.2.1 _ (List.mem_of_getElem? (i := 29) rfl))) hce hcv hcl ?_
      refine lv_astore_n (lv' := [(3, .ref q9), (0, .ref o), (1, .int x1), (2, .int x2)]) hx hb dL_unsew_15 rfl hl (by decide) rfl (fun ls hl => ?_)
      refine lv_ldc (v := -1000003) hx hb hown (hts (.constant RL 32 (-1000003)) (List.mem_of_getElem? (i := 6) rfl)) dL_unsew_16 ?_
      exact mb_ri (S := mb_S) (wf := fun u => wW Y o a aa ad u.1 u.2) C.1 rfl (u := (u, F)) hF hP hD hS dL_unsew_18 (Nat.le_of_ble_eq_true rfl) (Nat.le_of_ble_eq_true rfl)
  · exact mb_ri (S := mb_S) (wf := fun u => wW Y o a aa ad u.1 u.2) C.1 rfl (u := (u, F)) hF hP hD hS dL_unsew_6 (Nat.le_of_ble_eq_true rfl) (Nat.le_of_ble_eq_true rfl)
noncomputable def LP_ofThread (N : Nat) (b : mb_bs) (F : mb_m) (x1 x2 : Int32) (K : Int32 → mb_S → Prop) : Prop := BP_ofThread N b.1 b.2.1 b.2.2.1 b.2.2.2.1 b.2.2.2.2.1 b.2.2.2.2.2.1 b.2.2.2.2.2.2.1 b.2.2.2.2.2.2.2 x1 x2 (fun r b1 => K r (b1, F)) (fun E b1 => (E = eO ∧ K (-1000001) (b1, F)) ∨ (E = eA ∧ K (-1000002) (b1, F)))
set_option maxHeartbeats 4000000 in
set_option maxRecDepth 100000 in
theorem cw_ofThread (l : Launch) (hl0 : l.stackTraces = false) (D : va_G) (Y : Nat → ClassId) (N : Nat) (o : Nat) (a aa ad : Nat → Nat) (b : mb_bs) (F : mb_m) (sz : Nat) (x1 x2 : Int32) (K : Int32 → mb_S → Prop) (hF : LP_ofThread N b F x1 x2 K) : Met l yL_ofThread wsL_ofThread ({ frames := 8, cells := 2, slots := 12, locals := 135 } : Room) (va_Pc [.ref o, .int x1, .int x2] (mb_BL D Y (wW Y o a aa ad b F) sz)) (va_Qi K (fun u t => mb_T D (va_A (wW Y o a aa ad b F) sz) (wW Y o a aa ad u.1 u.2) t) (va_A (wW Y o a aa ad b F) sz)) 2 12 (va_A (wW Y o a aa ad b F) sz) := by
  unfold LP_ofThread at hF
  refine mbl_begin (cc := cL_ofThread) (maxL := 4) (ret := some .int) (hh := [(0, 6, 7, 16), (0, 6, 11, 19)]) hl0 (by decide +kernel) rfl (Nat.le_of_ble_eq_true rfl) ?_
  intro p e s m below meth c ls C hsz hP hD hl
  generalize hAe : va_A (wW Y o a aa ad b F) sz = A at C hD ⊢
  have C : mb_CL l p s m meth c ([.ref o, .int x1, .int x2] : List Value).toArray cL_ofThread 4 (some .int) wsL_ofThread RL D Y A [(0, 6, 7, 16), (0, 6, 11, 19)] := C
  obtain ⟨⟨hx, hb, hr, hml, hts, hown, hlocks, hA, hG⟩, hT, hX, hl0, hN⟩ := id C
  have hK := hG.1
  have hS : va_S A s.heap s.heap [] := va_S.rf
  have hl : lv_has ls 4 [(0, .ref o), (1, .int x1), (2, .int x2)] := hl
  refine lv_aload_n hx hb dL_ofThread_0 rfl (lv_at hl 0 rfl) ?_
  refine lv_iload_n hx hb dL_ofThread_1 rfl (lv_at hl 1 rfl) ?_
  refine lv_iload_n hx hb dL_ofThread_2 rfl (lv_at hl 2 rfl) ?_
  refine mbl_cW (wf := fun u : mb_bs => wW Y o a aa ad u F) C hD hS (vx_runV (As := [.int x1, .int x2]) (rest := []) ⟨hx, hb, hml, hown, hts⟩ (mbx_fr (W := wW Y o a aa ad b F) (wr := wR Y ad F) (WF := fun u : mb_bs => wW Y o a aa ad u F) (fun u => u) (fun u => u) wW_p (fun u => wW_p) (fun u => wW_p) (fun _ _ h => h) (fun _ _ h => h) (cf_ofThread l hl0 D Y N o a aa _ _ _ _ _ _ _ _ _ x1 x2 _ _ hF)) (cwV 2 hts gL_ofThread_X7_ofThread rfl rfl rfl (by decide +kernel) ⟨(Nat.le_of_ble_eq_true rfl), (Nat.le_of_ble_eq_true rfl)⟩) (mbl_preV C hP hD hS 5 rfl rfl) rfl rfl hl.1 rfl (lv_room (Nat.le_of_ble_eq_true rfl)) dL_ofThread_3 ⟨(Nat.le_of_ble_eq_true rfl), (Nat.le_of_ble_eq_true rfl)⟩) (fun E ce q9 u H locs hF hP hD hS hce hcv hcl => ?_) (fun r u H locs hF hP hD hS => ?_)
  · rcases hF with ⟨rfl, hF⟩ | ⟨rfl, hF⟩
    · refine vx_catch (own := RL) (name := "java/lang/IndexOutOfBoundsException") hown [] ⟨0, 6, 7, 16⟩ [⟨0, 6, 11, 19⟩] (by rw [hT]; rfl) (fun z h => absurd h List.not_mem_nil) rfl (by decide) (hts (.classLink RL 16 "java/lang/IndexOutOfBoundsException") (List.mem_of_getElem? (i := 1) rfl)) (va_Nw.use rfl (hG.2.1 _ (List.mem_of_getElem? (i := 27) rfl))) hce hcv hcl ?_
      refine lv_astore_n (lv' := [(3, .ref q9), (0, .ref o), (1, .int x1), (2, .int x2)]) hx hb dL_ofThread_7 rfl hl (by decide) rfl (fun ls hl => ?_)
      refine lv_ldc (v := -1000001) hx hb hown (hts (.constant RL 18 (-1000001)) (List.mem_of_getElem? (i := 3) rfl)) dL_ofThread_8 ?_
      exact mb_ri (S := mb_S) (wf := fun u => wW Y o a aa ad u.1 u.2) C.1 rfl (u := (u, F)) hF hP hD hS dL_ofThread_10 (Nat.le_of_ble_eq_true rfl) (Nat.le_of_ble_eq_true rfl)
    · refine vx_catch (own := RL) (name := "java/lang/IllegalArgumentException") hown [⟨0, 6, 7, 16⟩] ⟨0, 6, 11, 19⟩ [] (by rw [hT]; rfl) (fun z h => by
        simp only [List.mem_cons, List.not_mem_nil, or_false] at h
        rcases h with rfl
        · exact Or.inr ⟨by decide, _, (hts (.classLink RL 16 "java/lang/IndexOutOfBoundsException") (List.mem_of_getElem? (i := 1) rfl)), hN.1⟩) rfl (by decide) (hts (.classLink RL 19 "java/lang/IllegalArgumentException") (List.mem_of_getElem? (i := 2) rfl)) (va_Nw.use rfl (hG.2.1 _ (List.mem_of_getElem? (i := 28) rfl))) hce hcv hcl ?_
      refine lv_astore_n (lv' := [(3, .ref q9), (0, .ref o), (1, .int x1), (2, .int x2)]) hx hb dL_ofThread_11 rfl hl (by decide) rfl (fun ls hl => ?_)
      refine lv_ldc (v := -1000002) hx hb hown (hts (.constant RL 21 (-1000002)) (List.mem_of_getElem? (i := 4) rfl)) dL_ofThread_12 ?_
      exact mb_ri (S := mb_S) (wf := fun u => wW Y o a aa ad u.1 u.2) C.1 rfl (u := (u, F)) hF hP hD hS dL_ofThread_14 (Nat.le_of_ble_eq_true rfl) (Nat.le_of_ble_eq_true rfl)
  · exact mb_ri (S := mb_S) (wf := fun u => wW Y o a aa ad u.1 u.2) C.1 rfl (u := (u, F)) hF hP hD hS dL_ofThread_6 (Nat.le_of_ble_eq_true rfl) (Nat.le_of_ble_eq_true rfl)
noncomputable def LP_stitches (N : Nat) (b : mb_bs) (F : mb_m) (x1 x2 x3 : Int32) (K : Int32 → mb_S → Prop) : Prop := BP_stitches N b.1 b.2.1 b.2.2.1 b.2.2.2.1 b.2.2.2.2.1 b.2.2.2.2.2.1 b.2.2.2.2.2.2.1 b.2.2.2.2.2.2.2 x1 x2 x3 (fun r b1 => K r (b1, F)) (fun E b1 => (E = eO ∧ K (-1000001) (b1, F)))
set_option maxHeartbeats 4000000 in
set_option maxRecDepth 100000 in
theorem cw_stitches (l : Launch) (hl0 : l.stackTraces = false) (D : va_G) (Y : Nat → ClassId) (N : Nat) (o : Nat) (a aa ad : Nat → Nat) (b : mb_bs) (F : mb_m) (sz : Nat) (x1 x2 x3 : Int32) (K : Int32 → mb_S → Prop) (hF : LP_stitches N b F x1 x2 x3 K) : Met l yL_stitches wsL_stitches ({ frames := 8, cells := 2, slots := 12, locals := 136 } : Room) (va_Pc [.ref o, .int x1, .int x2, .int x3] (mb_BL D Y (wW Y o a aa ad b F) sz)) (va_Qi K (fun u t => mb_T D (va_A (wW Y o a aa ad b F) sz) (wW Y o a aa ad u.1 u.2) t) (va_A (wW Y o a aa ad b F) sz)) 2 12 (va_A (wW Y o a aa ad b F) sz) := by
  unfold LP_stitches at hF
  refine mbl_begin (cc := cL_stitches) (maxL := 5) (ret := some .int) (hh := [(0, 7, 8, 16)]) hl0 (by decide +kernel) rfl (Nat.le_of_ble_eq_true rfl) ?_
  intro p e s m below meth c ls C hsz hP hD hl
  generalize hAe : va_A (wW Y o a aa ad b F) sz = A at C hD ⊢
  have C : mb_CL l p s m meth c ([.ref o, .int x1, .int x2, .int x3] : List Value).toArray cL_stitches 5 (some .int) wsL_stitches RL D Y A [(0, 7, 8, 16)] := C
  obtain ⟨⟨hx, hb, hr, hml, hts, hown, hlocks, hA, hG⟩, hT, hX, hl0, hN⟩ := id C
  have hK := hG.1
  have hS : va_S A s.heap s.heap [] := va_S.rf
  have hl : lv_has ls 5 [(0, .ref o), (1, .int x1), (2, .int x2), (3, .int x3)] := hl
  refine lv_aload_n hx hb dL_stitches_0 rfl (lv_at hl 0 rfl) ?_
  refine lv_iload_n hx hb dL_stitches_1 rfl (lv_at hl 1 rfl) ?_
  refine lv_iload_n hx hb dL_stitches_2 rfl (lv_at hl 2 rfl) ?_
  refine lv_iload_n hx hb dL_stitches_3 rfl (lv_at hl 3 rfl) ?_
  refine mbl_cW (wf := fun u : mb_bs => wW Y o a aa ad u F) C hD hS (vx_runV (As := [.int x1, .int x2, .int x3]) (rest := []) ⟨hx, hb, hml, hown, hts⟩ (mbx_fr (W := wW Y o a aa ad b F) (wr := wR Y ad F) (WF := fun u : mb_bs => wW Y o a aa ad u F) (fun u => u) (fun u => u) wW_p (fun u => wW_p) (fun u => wW_p) (fun _ _ h => h) (fun _ _ h => h) (cf_stitches l hl0 D Y N o a aa _ _ _ _ _ _ _ _ _ x1 x2 x3 _ _ hF)) (cwV 3 hts gL_stitches_X7_stitches rfl rfl rfl (by decide +kernel) ⟨(Nat.le_of_ble_eq_true rfl), (Nat.le_of_ble_eq_true rfl)⟩) (mbl_preV C hP hD hS 5 rfl rfl) rfl rfl hl.1 rfl (lv_room (Nat.le_of_ble_eq_true rfl)) dL_stitches_4 ⟨(Nat.le_of_ble_eq_true rfl), (Nat.le_of_ble_eq_true rfl)⟩) (fun E ce q9 u H locs hF hP hD hS hce hcv hcl => ?_) (fun r u H locs hF hP hD hS => ?_)
  · obtain ⟨rfl, hF⟩ := hF
    refine vx_catch (own := RL) (name := "java/lang/IndexOutOfBoundsException") hown [] ⟨0, 7, 8, 16⟩ [] (by rw [hT]; rfl) (fun z h => absurd h List.not_mem_nil) rfl (by decide) (hts (.classLink RL 16 "java/lang/IndexOutOfBoundsException") (List.mem_of_getElem? (i := 1) rfl)) (va_Nw.use rfl (hG.2.1 _ (List.mem_of_getElem? (i := 27) rfl))) hce hcv hcl ?_
    refine lv_astore (lv' := [(4, .ref q9), (0, .ref o), (1, .int x1), (2, .int x2), (3, .int x3)]) hx hb dL_stitches_8 hl (by decide) rfl (fun ls hl => ?_)
    refine lv_ldc (v := -1000001) hx hb hown (hts (.constant RL 18 (-1000001)) (List.mem_of_getElem? (i := 2) rfl)) dL_stitches_10 ?_
    exact mb_ri (S := mb_S) (wf := fun u => wW Y o a aa ad u.1 u.2) C.1 rfl (u := (u, F)) hF hP hD hS dL_stitches_12 (Nat.le_of_ble_eq_true rfl) (Nat.le_of_ble_eq_true rfl)
  · exact mb_ri (S := mb_S) (wf := fun u => wW Y o a aa ad u.1 u.2) C.1 rfl (u := (u, F)) hF hP hD hS dL_stitches_7 (Nat.le_of_ble_eq_true rfl) (Nat.le_of_ble_eq_true rfl)
noncomputable def LP_isHeld (N : Nat) (b : mb_bs) (F : mb_m) (x1 x2 : Int32) (K : Int32 → mb_S → Prop) : Prop := BP_isHeld N b.1 b.2.1 b.2.2.1 b.2.2.2.1 b.2.2.2.2.1 b.2.2.2.2.2.1 b.2.2.2.2.2.2.1 b.2.2.2.2.2.2.2 x1 x2 (fun r b1 => mb_isB r ∧ K r (b1, F)) (fun E b1 => (E = eO ∧ K (-1000001) (b1, F)))
set_option maxHeartbeats 4000000 in
set_option maxRecDepth 100000 in
theorem cw_isHeld (l : Launch) (hl0 : l.stackTraces = false) (D : va_G) (Y : Nat → ClassId) (N : Nat) (o : Nat) (a aa ad : Nat → Nat) (b : mb_bs) (F : mb_m) (sz : Nat) (x1 x2 : Int32) (K : Int32 → mb_S → Prop) (hF : LP_isHeld N b F x1 x2 K) : Met l yL_isHeld wsL_isHeld ({ frames := 8, cells := 2, slots := 12, locals := 135 } : Room) (va_Pc [.ref o, .int x1, .int x2] (mb_BL D Y (wW Y o a aa ad b F) sz)) (va_Qi K (fun u t => mb_T D (va_A (wW Y o a aa ad b F) sz) (wW Y o a aa ad u.1 u.2) t) (va_A (wW Y o a aa ad b F) sz)) 2 12 (va_A (wW Y o a aa ad b F) sz) := by
  unfold LP_isHeld at hF
  refine mbl_begin (cc := cL_isHeld) (maxL := 4) (ret := some .int) (hh := [(0, 14, 15, 16)]) hl0 (by decide +kernel) rfl (Nat.le_of_ble_eq_true rfl) ?_
  intro p e s m below meth c ls C hsz hP hD hl
  generalize hAe : va_A (wW Y o a aa ad b F) sz = A at C hD ⊢
  have C : mb_CL l p s m meth c ([.ref o, .int x1, .int x2] : List Value).toArray cL_isHeld 4 (some .int) wsL_isHeld RL D Y A [(0, 14, 15, 16)] := C
  obtain ⟨⟨hx, hb, hr, hml, hts, hown, hlocks, hA, hG⟩, hT, hX, hl0, hN⟩ := id C
  have hK := hG.1
  have hS : va_S A s.heap s.heap [] := va_S.rf
  have hl : lv_has ls 4 [(0, .ref o), (1, .int x1), (2, .int x2)] := hl
  refine lv_aload_n hx hb dL_isHeld_0 rfl (lv_at hl 0 rfl) ?_
  refine lv_iload_n hx hb dL_isHeld_1 rfl (lv_at hl 1 rfl) ?_
  refine lv_iload_n hx hb dL_isHeld_2 rfl (lv_at hl 2 rfl) ?_
  refine mbl_cW (wf := fun u : mb_bs => wW Y o a aa ad u F) C hD hS (vx_runV (As := [.int x1, .int x2]) (rest := []) ⟨hx, hb, hml, hown, hts⟩ (mbx_fr (W := wW Y o a aa ad b F) (wr := wR Y ad F) (WF := fun u : mb_bs => wW Y o a aa ad u F) (fun u => u) (fun u => u) wW_p (fun u => wW_p) (fun u => wW_p) (fun _ _ h => h) (fun _ _ h => h) (cf_isHeld l hl0 D Y N o a aa _ _ _ _ _ _ _ _ _ x1 x2 _ _ hF)) (cwV 2 hts gL_isHeld_X7_isHeld rfl rfl rfl (by decide +kernel) ⟨(Nat.le_of_ble_eq_true rfl), (Nat.le_of_ble_eq_true rfl)⟩) (mbl_preV C hP hD hS 5 rfl rfl) rfl rfl hl.1 rfl (lv_room (Nat.le_of_ble_eq_true rfl)) dL_isHeld_3 ⟨(Nat.le_of_ble_eq_true rfl), (Nat.le_of_ble_eq_true rfl)⟩) (fun E ce q9 u H locs hF hP hD hS hce hcv hcl => ?_) (fun r u H locs hF hP hD hS => ?_)
  · obtain ⟨rfl, hF⟩ := hF
    refine vx_catch (own := RL) (name := "java/lang/IndexOutOfBoundsException") hown [] ⟨0, 14, 15, 16⟩ [] (by rw [hT]; rfl) (fun z h => absurd h List.not_mem_nil) rfl (by decide) (hts (.classLink RL 16 "java/lang/IndexOutOfBoundsException") (List.mem_of_getElem? (i := 1) rfl)) (va_Nw.use rfl (hG.2.1 _ (List.mem_of_getElem? (i := 27) rfl))) hce hcv hcl ?_
    refine lv_astore_n (lv' := [(3, .ref q9), (0, .ref o), (1, .int x1), (2, .int x2)]) hx hb dL_isHeld_15 rfl hl (by decide) rfl (fun ls hl => ?_)
    refine lv_ldc (v := -1000001) hx hb hown (hts (.constant RL 18 (-1000001)) (List.mem_of_getElem? (i := 2) rfl)) dL_isHeld_16 ?_
    exact mb_ri (S := mb_S) (wf := fun u => wW Y o a aa ad u.1 u.2) C.1 rfl (u := (u, F)) hF hP hD hS dL_isHeld_18 (Nat.le_of_ble_eq_true rfl) (Nat.le_of_ble_eq_true rfl)
  · refine lv_if_eq (tgt := 13) hx hb dL_isHeld_6 (by decide) (fun cz => ?_) (fun cz => ?_)
    · refine lv_iconst (v := 0) hx hb dL_isHeld_13 (by decide) ?_
      exact mb_ri (S := mb_S) (wf := fun u => wW Y o a aa ad u.1 u.2) C.1 rfl (u := (u, F)) (by have h : K r (u, F) := hF.2; rw [cz] at h; exact h) hP hD hS dL_isHeld_14 (Nat.le_of_ble_eq_true rfl) (Nat.le_of_ble_eq_true rfl)
    · refine lv_iconst (v := 1) hx hb dL_isHeld_9 (by decide) ?_
      refine lv_goto (tgt := 14) hx hb dL_isHeld_10 (by decide) ?_
      exact mb_ri (S := mb_S) (wf := fun u => wW Y o a aa ad u.1 u.2) C.1 rfl (u := (u, F)) (by have h : K r (u, F) := hF.2; rw [hF.1.resolve_left cz] at h; exact h) hP hD hS dL_isHeld_14 (Nat.le_of_ble_eq_true rfl) (Nat.le_of_ble_eq_true rfl)
