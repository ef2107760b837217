noncomputable def LP_back (N : Nat) (b : mb_bs) (F : mb_m) (x1 x2 : Int32) (K : Int32 → mb_S → Prop) : Prop := BP_back N b.1 b.2.1 b.2.2.1 b.2.2.2.1 b.2.2.2.2.1 b.2.2.2.2.2.1 b.2.2.2.2.2.2.1 b.2.2.2.2.2.2.2 x1 x2 (fun r b1 => K r (b1, F)) (fun E b1 => (E = eO ∧ K (-1000001) (b1, F)) ∨ (E = eA ∧ K (-1000002) (b1, F)))
set_option maxHeartbeats 4000000 in
set_option maxRecDepth 100000 in
theorem cw_back (l : Launch) (hl0 : l.stackTraces = false) (D : va_G) (Y : Nat → ClassId) (N : Nat) (o : Nat) (a aa ad : Nat → Nat) (b : mb_bs) (F : mb_m) (sz : Nat) (x1 x2 : Int32) (K : Int32 → mb_S → Prop) (hF : LP_back N b F x1 x2 K) : Met l yL_back wsL_back ({ frames := 8, cells := 2, slots := 12, locals := 136 } : Room) (va_Pc [.ref o, .int x1, .int x2] (mb_BL D Y (wW Y o a aa ad b F) sz)) (va_Qi K (fun u t => mb_T D (va_A (wW Y o a aa ad b F) sz) (wW Y o a aa ad u.1 u.2) t) (va_A (wW Y o a aa ad b F) sz)) 2 12 (va_A (wW Y o a aa ad b F) sz) := by
  unfold LP_back at hF
  refine mbl_begin (cc := cL_back) (maxL := 4) (ret := some .int) (hh := [(0, 6, 7, 16), (0, 6, 11, 19)]) hl0 (by decide +kernel) rfl (Nat.le_of_ble_eq_true rfl) ?_
  intro p e s m below meth c ls C hsz hP hD hl
  generalize hAe : va_A (wW Y o a aa ad b F) sz = A at C hD ⊢
  have C : mb_CL l p s m meth c ([.ref o, .int x1, .int x2] : List Value).toArray cL_back 4 (some .int) wsL_back RL D Y A [(0, 6, 7, 16), (0, 6, 11, 19)] := C
  obtain ⟨⟨hx, hb, hr, hml, hts, hown, hlocks, hA, hG⟩, hT, hX, hl0, hN⟩ := id C
  have hK := hG.1
  have hS : va_S A s.heap s.heap [] := va_S.rf
  have hl : lv_has ls 4 [(0, .ref o), (1, .int x1), (2, .int x2)] := hl
  refine lv_aload_n hx hb dL_back_0 rfl (lv_at hl 0 rfl) ?_
  refine lv_iload_n hx hb dL_back_1 rfl (lv_at hl 1 rfl) ?_
  refine lv_iload_n hx hb dL_back_2 rfl (lv_at hl 2 rfl) ?_
  refine mbl_cW (wf := fun u : mb_bs => wW Y o a aa ad u F) C hD hS (vx_runV (As := [.int x1, .int x2]) (rest := []) ⟨hx, hb, hml, hown, hts⟩ (mbx_fr (W := wW Y o a aa ad b F) (wr := wR Y ad F) (WF := fun u : mb_bs => wW Y o a aa ad u F) (fun u => u) (fun u => u) wW_p (fun u => wW_p) (fun u => wW_p) (fun _ _ h => h) (fun _ _ h => h) (cf_back l hl0 D Y N o a aa _ _ _ _ _ _ _ _ _ x1 x2 _ _ hF)) (cwV 2 hts gL_back_X7_back rfl rfl rfl (by decide +kernel) ⟨(Nat.le_of_ble_eq_true rfl), (Nat.le_of_ble_eq_true rfl)⟩) (mbl_preV C hP hD hS 5 rfl rfl) rfl rfl hl.1 rfl (lv_room (Nat.le_of_ble_eq_true rfl)) dL_back_3 ⟨(Nat.le_of_ble_eq_true rfl), (Nat.le_of_ble_eq_true rfl)⟩) (fun E ce q9 u H locs hF hP hD hS hce hcv hcl => ?_) (fun r u H locs hF hP hD hS => ?_)
  · rcases hF with ⟨rfl, hF⟩ | ⟨rfl, hF⟩
    · refine vx_catch (own := RL) (name := "java/lang/IndexOutOfBoundsException") hown [] ⟨0, 6, 7, 16⟩ [⟨0, 6, 11, 19⟩] (by rw [hT]; rfl) (fun z h => absurd h List.not_mem_nil) rfl (by decide) (hts (.classLink RL 16 "java/lang/IndexOutOfBoundsException") (List.mem_of_getElem? (i := 1) rfl)) (va_Nw.use rfl (hG.2.1 _ (List.mem_of_getElem? (i := 27) rfl))) hce hcv hcl ?_
      refine lv_astore_n (lv' := [(3, .ref q9), (0, .ref o), (1, .int x1), (2, .int x2)]) hx hb dL_back_7 rfl hl (by decide) rfl (fun ls hl => ?_)
      refine lv_ldc (v := -1000001) hx hb hown (hts (.constant RL 18 (-1000001)) (List.mem_of_getElem? (i := 3) rfl)) dL_back_8 ?_
      exact mb_ri (S := mb_S) (wf := fun u => wW Y o a aa ad u.1 u.2) C.1 rfl (u := (u, F)) hF hP hD hS dL_back_10 (Nat.le_of_ble_eq_true rfl) (Nat.le_of_ble_eq_true rfl)
    · refine vx_catch (own := RL) (name := "java/lang/IllegalArgumentException") hown [⟨0, 6, 7, 16⟩] ⟨0, 6, 11, 19⟩ [] (by rw [hT]; rfl) (fun z h => by
        simp only [List.mem_cons, List.not_mem_nil, or_false] at h
        rcases h with rfl
        · exact Or.inr ⟨by decide, _, (hts (.classLink RL 16 "java/lang/IndexOutOfBoundsException") (List.mem_of_getElem? (i := 1) rfl)), hN.1⟩) rfl (by decide) (hts (.classLink RL 19 "java/lang/IllegalArgumentException") (List.mem_of_getElem? (i := 2) rfl)) (va_Nw.use rfl (hG.2.1 _ (List.mem_of_getElem? (i := 28) rfl))) hce hcv hcl ?_
      refine lv_astore_n (lv' := [(3, .ref q9), (0, .ref o), (1, .int x1), (2, .int x2)]) hx hb dL_back_11 rfl hl (by decide) rfl (fun ls hl => ?_)
      refine lv_ldc (v := -1000002) hx hb hown (hts (.constant RL 21 (-1000002)) (List.mem_of_getElem? (i := 4) rfl)) dL_back_12 ?_
      exact mb_ri (S := mb_S) (wf := fun u => wW Y o a aa ad u.1 u.2) C.1 rfl (u := (u, F)) hF hP hD hS dL_back_14 (Nat.le_of_ble_eq_true rfl) (Nat.le_of_ble_eq_true rfl)
  · exact mb_ri (S := mb_S) (wf := fun u => wW Y o a aa ad u.1 u.2) C.1 rfl (u := (u, F)) hF hP hD hS dL_back_6 (Nat.le_of_ble_eq_true rfl) (Nat.le_of_ble_eq_true rfl)
noncomputable def LP_swelling (N : Nat) (b : mb_bs) (F : mb_m) (x1 : Int32) (K : Int32 → mb_S → Prop) : Prop := BP_swelling N b.1 b.2.1 b.2.2.1 b.2.2.2.1 b.2.2.2.2.1 b.2.2.2.2.2.1 b.2.2.2.2.2.2.1 b.2.2.2.2.2.2.2 x1 (fun r b1 => K r (b1, F)) (fun E b1 => (E = eO ∧ K (-1000001) (b1, F)))
set_option maxHeartbeats 4000000 in
set_option maxRecDepth 100000 in
theorem cw_swelling (l : Launch) (hl0 : l.stackTraces = false) (D : va_G) (Y : Nat → ClassId) (N : Nat) (o : Nat) (a aa ad : Nat → Nat) (b : mb_bs) (F : mb_m) (sz : Nat) (x1 : Int32) (K : Int32 → mb_S → Prop) (hF : LP_swelling N b F x1 K) : Met l yL_swelling wsL_swelling ({ frames := 8, cells := 1, slots := 6, locals := 133 } : Room) (va_Pc [.ref o, .int x1] (mb_BL D Y (wW Y o a aa ad b F) sz)) (va_Qi K (fun u t => mb_T D (va_A (wW Y o a aa ad b F) sz) (wW Y o a aa ad u.1 u.2) t) (va_A (wW Y o a aa ad b F) sz)) 1 6 (va_A (wW Y o a aa ad b F) sz) := by
  unfold LP_swelling at hF
  refine mbl_begin (cc := cL_swelling) (maxL := 3) (ret := some .int) (hh := [(0, 5, 6, 16)]) hl0 (by decide +kernel) rfl (Nat.le_of_ble_eq_true rfl) ?_
  intro p e s m below meth c ls C hsz hP hD hl
  generalize hAe : va_A (wW Y o a aa ad b F) sz = A at C hD ⊢
  have C : mb_CL l p s m meth c ([.ref o, .int x1] : List Value).toArray cL_swelling 3 (some .int) wsL_swelling RL D Y A [(0, 5, 6, 16)] := C
  obtain ⟨⟨hx, hb, hr, hml, hts, hown, hlocks, hA, hG⟩, hT, hX, hl0, hN⟩ := id C
  have hK := hG.1
  have hS : va_S A s.heap s.heap [] := va_S.rf
  have hl : lv_has ls 3 [(0, .ref o), (1, .int x1)] := hl
  refine lv_aload_n hx hb dL_swelling_0 rfl (lv_at hl 0 rfl) ?_
  refine lv_iload_n hx hb dL_swelling_1 rfl (lv_at hl 1 rfl) ?_
  refine mbl_cW (wf := fun u : mb_bs => wW Y o a aa ad u F) C hD hS (vx_runV (As := [.int x1]) (rest := []) ⟨hx, hb, hml, hown, hts⟩ (mbx_fr (W := wW Y o a aa ad b F) (wr := wR Y ad F) (WF := fun u : mb_bs => wW Y o a aa ad u F) (fun u => u) (fun u => u) wW_p (fun u => wW_p) (fun u => wW_p) (fun _ _ h => h) (fun _ _ h => h) (cf_swelling l hl0 D Y N o a aa _ _ _ _ _ _ _ _ _ x1 _ _ hF)) (cwV 1 hts gL_swelling_X7_swelling rfl rfl rfl (by decide +kernel) ⟨(Nat.le_of_ble_eq_true rfl), (Nat.le_of_ble_eq_true rfl)⟩) (mbl_preV C hP hD hS 5 rfl rfl) rfl rfl hl.1 rfl (lv_room (Nat.le_of_ble_eq_true rfl)) dL_swelling_2 ⟨(Nat.le_of_ble_eq_true rfl), (Nat.le_of_ble_eq_true rfl)⟩) (fun E ce q9 u H locs hF hP hD hS hce hcv hcl => ?_) (fun r u H locs hF hP hD hS => ?_)
  · obtain ⟨rfl, hF⟩ := hF
    refine vx_catch (own := RL) (name := "java/lang/IndexOutOfBoundsException") hown [] ⟨0, 5, 6, 16⟩ [] (by rw [hT]; rfl) (fun z h => absurd h List.not_mem_nil) rfl (by decide) (hts (.classLink RL 16 "java/lang/IndexOutOfBoundsException") (List.mem_of_getElem? (i := 1) rfl)) (va_Nw.use rfl (hG.2.1 _ (List.mem_of_getElem? (i := 27) rfl))) hce hcv hcl ?_
    refine lv_astore_n (lv' := [(2, .ref q9), (0, .ref o), (1, .int x1)]) hx hb dL_swelling_6 rfl hl (by decide) rfl (fun ls hl => ?_)
    refine lv_ldc (v := -1000001) hx hb hown (hts (.constant RL 18 (-1000001)) (List.mem_of_getElem? (i := 2) rfl)) dL_swelling_7 ?_
    exact mb_ri (S := mb_S) (wf := fun u => wW Y o a aa ad u.1 u.2) C.1 rfl (u := (u, F)) hF hP hD hS dL_swelling_9 (Nat.le_of_ble_eq_true rfl) (Nat.le_of_ble_eq_true rfl)
  · exact mb_ri (S := mb_S) (wf := fun u => wW Y o a aa ad u.1 u.2) C.1 rfl (u := (u, F)) hF hP hD hS dL_swelling_5 (Nat.le_of_ble_eq_true rfl) (Nat.le_of_ble_eq_true rfl)
noncomputable def LP_strain (N : Nat) (b : mb_bs) (F : mb_m) (x1 x2 : Int32) (K : Int32 → mb_S → Prop) : Prop := BP_strain N b.1 b.2.1 b.2.2.1 b.2.2.2.1 b.2.2.2.2.1 b.2.2.2.2.2.1 b.2.2.2.2.2.2.1 b.2.2.2.2.2.2.2 x1 x2 (fun r b1 => K r (b1, F)) (fun E b1 => (E = eO ∧ K (-1000001) (b1, F)) ∨ (E = eA ∧ K (-1000002) (b1, F)))
set_option maxHeartbeats 4000000 in
set_option maxRecDepth 100000 in
theorem cw_strain (l : Launch) (hl0 : l.stackTraces = false) (D : va_G) (Y : Nat → ClassId) (N : Nat) (o : Nat) (a aa ad : Nat → Nat) (b : mb_bs) (F : mb_m) (sz : Nat) (x1 x2 : Int32) (K : Int32 → mb_S → Prop) (hF : LP_strain N b F x1 x2 K) : Met l yL_strain wsL_strain ({ frames := 8, cells := 2, slots := 12, locals := 135 } : Room) (va_Pc [.ref o, .int x1, .int x2] (mb_BL D Y (wW Y o a aa ad b F) sz)) (va_Qi K (fun u t => mb_T D (va_A (wW Y o a aa ad b F) sz) (wW Y o a aa ad u.1 u.2) t) (va_A (wW Y o a aa ad b F) sz)) 2 12 (va_A (wW Y o a aa ad b F) sz) := by
  unfold LP_strain at hF
  refine mbl_begin (cc := cL_strain) (maxL := 4) (ret := some .int) (hh := [(0, 6, 7, 16), (0, 6, 11, 19)]) hl0 (by decide +kernel) rfl (Nat.le_of_ble_eq_true rfl) ?_
  intro p e s m below meth c ls C hsz hP hD hl
  generalize hAe : va_A (wW Y o a aa ad b F) sz = A at C hD ⊢
  have C : mb_CL l p s m meth c ([.ref o, .int x1, .int x2] : List Value).toArray cL_strain 4 (some .int) wsL_strain RL D Y A [(0, 6, 7, 16), (0, 6, 11, 19)] := C
  obtain ⟨⟨hx, hb, hr, hml, hts, hown, hlocks, hA, hG⟩, hT, hX, hl0, hN⟩ := id C
  have hK := hG.1
  have hS : va_S A s.heap s.heap [] := va_S.rf
  have hl : lv_has ls 4 [(0, .ref o), (1, .int x1), (2, .int x2)] := hl
  refine lv_aload_n hx hb dL_strain_0 rfl (lv_at hl 0 rfl) ?_
  refine lv_iload_n hx hb dL_strain_1 rfl (lv_at hl 1 rfl) ?_
  refine lv_iload_n hx hb dL_strain_2 rfl (lv_at hl 2 rfl) ?_
  refine mbl_cW (wf := fun u : mb_bs => wW Y o a aa ad u F) C hD hS (vx_runV (As := [.int x1, .int x2]) (rest := []) ⟨hx, hb, hml, hown, hts⟩ (mbx_fr (W := wW Y o a aa ad b F) (wr := wR Y ad F) (WF := fun u : mb_bs => wW Y o a aa ad u F) (fun u => u) (fun u => u) wW_p (fun u => wW_p) (fun u => wW_p) (fun _ _ h => h) (fun _ _ h => h) (cf_strain l hl0 D Y N o a aa _ _ _ _ _ _ _ _ _ x1 x2 _ _ hF)) (cwV 2 hts gL_strain_X7_strain rfl rfl rfl (by decide +kernel) ⟨(Nat.le_of_ble_eq_true rfl), (Nat.le_of_ble_eq_true rfl)⟩) (mbl_preV C hP hD hS 5 rfl rfl) rfl rfl hl.1 rfl (lv_room (Nat.le_of_ble_eq_true rfl)) dL_strain_3 ⟨(Nat.le_of_ble_eq_true rfl), (Nat.le_of_ble_eq_true rfl)⟩) (fun E ce q9 u H locs hF hP hD hS hce hcv hcl => ?_) (fun r u H locs hF hP hD hS => ?_)
  · rcases hF with ⟨rfl, hF⟩ | ⟨rfl, hF⟩
    · refine vx_catch (own := RL) (name := "java/lang/IndexOutOfBoundsException") hown [] ⟨0, 6, 7, 16⟩ [⟨0, 6, 11, 19⟩] (by rw [hT]; rfl) (fun z h => absurd h List.not_mem_nil) rfl (by decide) (hts (.classLink RL 16 "java/lang/IndexOutOfBoundsException") (List.mem_of_getElem? (i := 1) rfl)) (va_Nw.use rfl (hG.2.1 _ (List.mem_of_getElem? (i := 27) rfl))) hce hcv hcl ?_
      refine lv_astore_n (lv' := [(3, .ref q9), (0, .ref o), (1, .int x1), (2, .int x2)]) hx hb dL_strain_7 rfl hl (by decide) rfl (fun ls hl => ?_)
      refine lv_ldc (v := -1000001) hx hb hown (hts (.constant RL 18 (-1000001)) (List.mem_of_getElem? (i := 3) rfl)) dL_strain_8 ?_
      exact mb_ri (S := mb_S) (wf := fun u => wW Y o a aa ad u.1 u.2) C.1 rfl (u := (u, F)) hF hP hD hS dL_strain_10 (Nat.le_of_ble_eq_true rfl) (Nat.le_of_ble_eq_true rfl)
    · refine vx_catch (own := RL) (name := "java/lang/IllegalArgumentException") hown [⟨0, 6, 7, 16⟩] ⟨0, 6, 11, 19⟩ [] (by rw [hT]; rfl) (fun z h => by
        simp only [List.mem_cons, List.not_mem_nil, or_false] at h
        rcases h with rfl
        · exact Or.inr ⟨by decide, _, (hts (.classLink RL 16 "java/lang/IndexOutOfBoundsException") (List.mem_of_getElem? (i := 1) rfl)), hN.1⟩) rfl (by decide) (hts (.classLink RL 19 "java/lang/IllegalArgumentException") (List.mem_of_getElem? (i := 2) rfl)) (va_Nw.use rfl (hG.2.1 _ (List.mem_of_getElem? (i := 28) rfl))) hce hcv hcl ?_
      refine lv_astore_n (lv' := [(3, .ref q9), (0, .ref o), (1, .int x1), (2, .int x2)]) hx hb dL_strain_11 rfl hl (by decide) rfl (fun ls hl => ?_)
      refine lv_ldc (v := -1000002) hx hb hown (hts (.constant RL 21 (-1000002)) (List.mem_of_getElem? (i := 4) rfl)) dL_strain_12 ?_
      exact mb_ri (S := mb_S) (wf := fun u => wW Y o a aa ad u.1 u.2) C.1 rfl (u := (u, F)) hF hP hD hS dL_strain_14 (Nat.le_of_ble_eq_true rfl) (Nat.le_of_ble_eq_true rfl)
  · exact mb_ri (S := mb_S) (wf := fun u => wW Y o a aa ad u.1 u.2) C.1 rfl (u := (u, F)) hF hP hD hS dL_strain_6 (Nat.le_of_ble_eq_true rfl) (Nat.le_of_ble_eq_true rfl)
noncomputable def LP_worst (N : Nat) (b : mb_bs) (F : mb_m) (x1 : Int32) (K : Int32 → mb_S → Prop) : Prop := BP_worst N b.1 b.2.1 b.2.2.1 b.2.2.2.1 b.2.2.2.2.1 b.2.2.2.2.2.1 b.2.2.2.2.2.2.1 b.2.2.2.2.2.2.2 x1 (fun r b1 => K r (b1, F)) (fun E b1 => (E = eO ∧ K (-1000001) (b1, F)))
set_option maxHeartbeats 4000000 in
set_option maxRecDepth 100000 in
theorem cw_worst (l : Launch) (hl0 : l.stackTraces = false) (D : va_G) (Y : Nat → ClassId) (N : Nat) (o : Nat) (a aa ad : Nat → Nat) (b : mb_bs) (F : mb_m) (sz : Nat) (x1 : Int32) (K : Int32 → mb_S → Prop) (hF : LP_worst N b F x1 K) : Met l yL_worst wsL_worst ({ frames := 8, cells := 1, slots := 6, locals := 133 } : Room) (va_Pc [.ref o, .int x1] (mb_BL D Y (wW Y o a aa ad b F) sz)) (va_Qi K (fun u t => mb_T D (va_A (wW Y o a aa ad b F) sz) (wW Y o a aa ad u.1 u.2) t) (va_A (wW Y o a aa ad b F) sz)) 1 6 (va_A (wW Y o a aa ad b F) sz) := by
  unfold LP_worst at hF
  refine mbl_begin (cc := cL_worst) (maxL := 3) (ret := some .int) (hh := [(0, 5, 6, 16)]) hl0 (by decide +kernel) rfl (Nat.le_of_ble_eq_true rfl) ?_
  intro p e s m below meth c ls C hsz hP hD hl
  generalize hAe : va_A (wW Y o a aa ad b F) sz = A at C hD ⊢
  have C : mb_CL l p s m meth c ([.ref o, .int x1] : List Value).toArray cL_worst 3 (some .int) wsL_worst RL D Y A [(0, 5, 6, 16)] := C
  obtain ⟨⟨hx, hb, hr, hml, hts, hown, hlocks, hA, hG⟩, hT, hX, hl0, hN⟩ := id C
  have hK := hG.1
  have hS : va_S A s.heap s.heap [] := va_S.rf
  have hl : lv_has ls 3 [(0, .ref o), (1, .int x1)] := hl
  refine lv_aload_n hx hb dL_worst_0 rfl (lv_at hl 0 rfl) ?_
  refine lv_iload_n hx hb dL_worst_1 rfl (lv_at hl 1 rfl) ?_
  refine mbl_cW (wf := fun u : mb_bs => wW Y o a aa ad u F) C hD hS (vx_runV (As := [.int x1]) (rest := []) ⟨hx, hb, hml, hown, hts⟩ (mbx_fr (W := wW Y o a aa ad b F) (wr := wR Y ad F) (WF := fun u : mb_bs => wW Y o a aa ad u F) (fun u => u) (fun u => u) wW_p (fun u => wW_p) (fun u => wW_p) (fun _ _ h => h) (fun _ _ h => h) (cf_worst l hl0 D Y N o a aa _ _ _ _ _ _ _ _ _ x1 _ _ hF)) (cwV 1 hts gL_worst_X7_worst rfl rfl rfl (by decide +kernel) ⟨(Nat.le_of_ble_eq_true rfl), (Nat.le_of_ble_eq_true rfl)⟩) (mbl_preV C hP hD hS 5 rfl rfl) rfl rfl hl.1 rfl (lv_room (Nat.le_of_ble_eq_true rfl)) dL_worst_2 ⟨(Nat.le_of_ble_eq_true rfl), (Nat.le_of_ble_eq_true rfl)⟩) (fun E ce q9 u H locs hF hP hD hS hce hcv hcl => ?_) (fun r u H locs hF hP hD hS => ?_)
  · obtain ⟨rfl, hF⟩ := hF
    refine vx_catch (own := RL) (name := "java/lang/IndexOutOfBoundsException") hown [] ⟨0, 5, 6, 16⟩ [] (by rw [hT]; rfl) (fun z h => absurd h List.not_mem_nil) rfl (by decide) (hts (.classLink RL 16 "java/lang/IndexOutOfBoundsException") (List.mem_of_getElem? (i := 1) rfl)) (va_Nw.use rfl (hG.2.1 _ (List.mem_of_getElem? (i := 27) rfl))) hce hcv hcl ?_
    refine lv_astore_n (lv' := [(2, .ref q9), (0, .ref o), (1, .int x1)]) hx hb dL_worst_6 rfl hl (by decide) rfl (fun ls hl => ?_)
    refine lv_ldc (v := -1000001) hx hb hown (hts (.constant RL 18 (-1000001)) (List.mem_of_getElem? (i := 2) rfl)) dL_worst_7 ?_
    exact mb_ri (S := mb_S) (wf := fun u => wW Y o a aa ad u.1 u.2) C.1 rfl (u := (u, F)) hF hP hD hS dL_worst_9 (Nat.le_of_ble_eq_true rfl) (Nat.le_of_ble_eq_true rfl)
  · exact mb_ri (S := mb_S) (wf := fun u => wW Y o a aa ad u.1 u.2) C.1 rfl (u := (u, F)) hF hP hD hS dL_worst_5 (Nat.le_of_ble_eq_true rfl) (Nat.le_of_ble_eq_true rfl)
noncomputable def LP_opens (N : Nat) (b : mb_bs) (F : mb_m) (x1 x2 : Int32) (K : Int32 → mb_S → Prop) : Prop := BP_opens N b.1 b.2.1 b.2.2.1 b.2.2.2.1 b.2.2.2.2.1 b.2.2.2.2.2.1 b.2.2.2.2.2.2.1 b.2.2.2.2.2.2.2 x1 x2 (fun r b1 => K r (b1, F)) (fun E b1 => (E = eO ∧ K (-1000001) (b1, F)) ∨ (E = eA ∧ K (-1000002) (b1, F)))
set_option maxHeartbeats 4000000 in
set_option maxRecDepth 100000 in
theorem cw_opens (l : Launch) (hl0 : l.stackTraces = false) (D : va_G) (Y : Nat → ClassId) (N : Nat) (o : Nat) (a aa ad : Nat → Nat) (b : mb_bs) (F : mb_m) (sz : Nat) (x1 x2 : Int32) (K : Int32 → mb_S → Prop) (hF : LP_opens N b F x1 x2 K) : Met l yL_opens wsL_opens ({ frames := 8, cells := 2, slots := 12, locals := 135 } : Room) (va_Pc [.ref o, .int x1, .int x2] (mb_BL D Y (wW Y o a aa ad b F) sz)) (va_Qi K (fun u t => mb_T D (va_A (wW Y o a aa ad b F) sz) (wW Y o a aa ad u.1 u.2) t) (va_A (wW Y o a aa ad b F) sz)) 2 12 (va_A (wW Y o a aa ad b F) sz) := by
  unfold LP_opens at hF
  refine mbl_begin (cc := cL_opens) (maxL := 4) (ret := some .int) (hh := [(0, 6, 7, 16), (0, 6, 11, 19)]) hl0 (by decide +kernel) rfl (Nat.le_of_ble_eq_true rfl) ?_
  intro p e s m below meth c ls C hsz hP hD hl
  generalize hAe : va_A (wW Y o a aa ad b F) sz = A at C hD ⊢
  have C : mb_CL l p s m meth c ([.ref o, .int x1, .int x2] : List Value).toArray cL_opens 4 (some .int) wsL_opens RL D Y A [(0, 6, 7, 16), (0, 6, 11, 19)] := C
  obtain ⟨⟨hx, hb, hr, hml, hts, hown, hlocks, hA, hG⟩, hT, hX, hl0, hN⟩ := id C
  have hK := hG.1
  have hS : va_S A s.heap s.heap [] := va_S.rf
  have hl : lv_has ls 4 [(0, .ref o), (1, .int x1), (2, .int x2)] := hl
  refine lv_aload_n hx hb dL_opens_0 rfl (lv_at hl 0 rfl) ?_
  refine lv_iload_n hx hb dL_opens_1 rfl (lv_at hl 1 rfl) ?_
  refine lv_iload_n hx hb dL_opens_2 rfl (lv_at hl 2 rfl) ?_
  refine mbl_cW (wf := fun u : mb_bs => wW Y o a aa ad u F) C hD hS (vx_runV (As := [.int x1, .int x2]) (rest := []) ⟨hx, hb, hml, hown, hts⟩ (mbx_fr (W := wW Y o a aa ad b F) (wr := wR Y ad F) (WF := fun u : mb_bs => wW Y o a aa ad u F) (fun u => u) (fun u => u) wW_p (fun u => wW_p) (fun u => wW_p) (fun _ _ h => h) (fun _ _ h => h) (cf_opens l hl0 D Y N o a aa _ _ _ _ _ _ _ _ _ x1 x2 _ _ hF)) (cwV 2 hts gL_opens_X7_opens rfl rfl rfl (by decide +kernel) ⟨(Nat.le_of_ble_eq_true rfl), (Nat.le_of_ble_eq_true rfl)⟩) (mbl_preV C hP hD hS 5 rfl rfl) rfl rfl hl.1 rfl (lv_room (Nat.le_of_ble_eq_true rfl)) dL_opens_3 ⟨(Nat.le_of_ble_eq_true rfl), (Nat.le_of_ble_eq_true rfl)⟩) (fun E ce q9 u H locs hF hP hD hS hce hcv hcl => ?_) (fun r u H locs hF hP hD hS => ?_)
  · rcases hF with ⟨rfl, hF⟩ | ⟨rfl, hF⟩
    · refine vx_catch (own := RL) (name := "java/lang/IndexOutOfBoundsException") hown [] ⟨0, 6, 7, 16⟩ [⟨0, 6, 11, 19⟩] (by rw [hT]; rfl) (fun z h => absurd h List.not_mem_nil) rfl (by decide) (hts (.classLink RL 16 "java/lang/IndexOutOfBoundsException") (List.mem_of_getElem? (i := 1) rfl)) (va_Nw.use rfl (hG.2.1 _ (List.mem_of_getElem? (i := 27) rfl))) hce hcv hcl ?_
      refine lv_astore_n (lv' := [(3, .ref q9), (0, .ref o), (1, .int x1), (2, .int x2)]) hx hb dL_opens_7 rfl hl (by decide) rfl (fun ls hl => ?_)
      refine lv_ldc (v := -1000001) hx hb hown (hts (.constant RL 18 (-1000001)) (List.mem_of_getElem? (i := 3) rfl)) dL_opens_8 ?_
      exact mb_ri (S := mb_S) (wf := fun u => wW Y o a aa ad u.1 u.2) C.1 rfl (u := (u, F)) hF hP hD hS dL_opens_10 (Nat.le_of_ble_eq_true rfl) (Nat.le_of_ble_eq_true rfl)
    · refine vx_catch (own := RL) (name := "java/lang/IllegalArgumentException") hown [⟨0, 6, 7, 16⟩] ⟨0, 6, 11, 19⟩ [] (by rw [hT]; rfl) (fun z h => by
        simp only [List.mem_cons, List.not_mem_nil, or_false] at h
        rcases h with rfl
        · exact Or.inr ⟨by decide, _, (hts (.classLink RL 16 "java/lang/IndexOutOfBoundsException") (List.mem_of_getElem? (i := 1) rfl)), hN.1⟩) rfl (by decide) (hts (.classLink RL 19 "java/lang/IllegalArgumentException") (List.mem_of_getElem? (i := 2) rfl)) (va_Nw.use rfl (hG.2.1 _ (List.mem_of_getElem? (i := 28) rfl))) hce hcv hcl ?_
      refine lv_astore_n (lv' := [(3, .ref q9), (0, .ref o), (1, .int x1), (2, .int x2)]) hx hb dL_opens_11 rfl hl (by decide) rfl (fun ls hl => ?_)
      refine lv_ldc (v := -1000002) hx hb hown (hts (.constant RL 21 (-1000002)) (List.mem_of_getElem? (i := 4) rfl)) dL_opens_12 ?_
      exact mb_ri (S := mb_S) (wf := fun u => wW Y o a aa ad u.1 u.2) C.1 rfl (u := (u, F)) hF hP hD hS dL_opens_14 (Nat.le_of_ble_eq_true rfl) (Nat.le_of_ble_eq_true rfl)
  · exact mb_ri (S := mb_S) (wf := fun u => wW Y o a aa ad u.1 u.2) C.1 rfl (u := (u, F)) hF hP hD hS dL_opens_6 (Nat.le_of_ble_eq_true rfl) (Nat.le_of_ble_eq_true rfl)
noncomputable def LP_skin (N : Nat) (b : mb_bs) (F : mb_m) (x1 : Int32) (K : Int32 → mb_S → Prop) : Prop := BP_skin N b.1 b.2.1 b.2.2.1 b.2.2.2.1 b.2.2.2.2.1 b.2.2.2.2.2.1 b.2.2.2.2.2.2.1 b.2.2.2.2.2.2.2 x1 (fun r b1 => K r (b1, F)) (fun E b1 => (E = eA ∧ K (-1000002) (b1, F)) ∨ (E = eS ∧ K (-1000003) (b1, F)))
set_option maxHeartbeats 4000000 in
set_option maxRecDepth 100000 in
theorem cw_skin (l : Launch) (hl0 : l.stackTraces = false) (D : va_G) (Y : Nat → ClassId) (N : Nat) (o : Nat) (a aa ad : Nat → Nat) (b : mb_bs) (F : mb_m) (sz : Nat) (x1 : Int32) (K : Int32 → mb_S → Prop) (hF : LP_skin N b F x1 K) : Met l yL_skin wsL_skin ({ frames := 8, cells := 4, slots := 77, locals := 132 } : Room) (va_Pc [.ref o, .int x1] (mb_BL D Y (wW Y o a aa ad b F) sz)) (va_Qi K (fun u t => mb_T D (va_A (wW Y o a aa ad b F) sz) (wW Y o a aa ad u.1 u.2) t) (va_A (wW Y o a aa ad b F) sz)) 4 77 (va_A (wW Y o a aa ad b F) sz) := by
  unfold LP_skin at hF
  refine mbl_begin (cc := cL_skin) (maxL := 3) (ret := some .int) (hh := [(0, 5, 6, 19), (0, 5, 10, 30)]) hl0 (by decide +kernel) rfl (Nat.le_of_ble_eq_true rfl) ?_
  intro p e s m below meth c ls C hsz hP hD hl
  generalize hAe : va_A (wW Y o a aa ad b F) sz = A at C hD ⊢
  have C : mb_CL l p s m meth c ([.ref o, .int x1] : List Value).toArray cL_skin 3 (some .int) wsL_skin RL D Y A [(0, 5, 6, 19), (0, 5, 10, 30)] := C
  obtain ⟨⟨hx, hb, hr, hml, hts, hown, hlocks, hA, hG⟩, hT, hX, hl0, hN⟩ := id C
  have hK := hG.1
  have hS : va_S A s.heap s.heap [] := va_S.rf
  have hl : lv_has ls 3 [(0, .ref o), (1, .int x1)] := hl
  refine lv_aload_n hx hb dL_skin_0 rfl (lv_at hl 0 rfl) ?_
  refine lv_iload_n hx hb dL_skin_1 rfl (lv_at hl 1 rfl) ?_
  refine mbl_cW (wf := fun u : mb_bs => wW Y o a aa ad u F) C hD hS (vx_runV (As := [.int x1]) (rest := []) ⟨hx, hb, hml, hown, hts⟩ (mbx_fr (W := wW Y o a aa ad b F) (wr := wR Y ad F) (WF := fun u : mb_bs => wW Y o a aa ad u F) (fun u => u) (fun u => u) wW_p (fun u => wW_p) (fun u => wW_p) (fun _ _ h => h) (fun _ _ h => h) (cf_skin l hl0 D Y N o a aa _ _ _ _ _ _ _ _ _ x1 _ _ hF)) (cwV 1 hts gL_skin_X7_skin rfl rfl rfl (by decide +kernel) ⟨(Nat.le_of_ble_eq_true rfl), (Nat.le_of_ble_eq_true rfl)⟩) (mbl_preV C hP hD hS 5 rfl rfl) rfl rfl hl.1 rfl (lv_room (Nat.le_of_ble_eq_true rfl)) dL_skin_2 ⟨(Nat.le_of_ble_eq_true rfl), (Nat.le_of_ble_eq_true rfl)⟩) (fun E ce q9 u H locs hF hP hD hS hce hcv hcl => ?_) (fun r u H locs hF hP hD hS => ?_)
  · rcases hF with ⟨rfl, hF⟩ | ⟨rfl, hF⟩
    · refine vx_catch (own := RL) (name := "java/lang/IllegalArgumentException") hown [] ⟨0, 5, 6, 19⟩ [⟨0, 5, 10, 30⟩] (by rw [hT]; rfl) (fun z h => absurd h List.not_mem_nil) rfl (by decide) (hts (.classLink RL 19 "java/lang/IllegalArgumentException") (List.mem_of_getElem? (i := 1) rfl)) (va_Nw.use rfl (hG.2.1 _ (List.mem_of_getElem? (i := 28) rfl))) hce hcv hcl ?_
      refine lv_astore_n (lv' := [(2, .ref q9), (0, .ref o), (1, .int x1)]) hx hb dL_skin_6 rfl hl (by decide) rfl (fun ls hl => ?_)
      refine lv_ldc (v := -1000002) hx hb hown (hts (.constant RL 21 (-1000002)) (List.mem_of_getElem? (i := 3) rfl)) dL_skin_7 ?_
      exact mb_ri (S := mb_S) (wf := fun u => wW Y o a aa ad u.1 u.2) C.1 rfl (u := (u, F)) hF hP hD hS dL_skin_9 (Nat.le_of_ble_eq_true rfl) (Nat.le_of_ble_eq_true rfl)
    · refine vx_catch (own := RL) (name := "java/lang/IllegalStateException") hown [⟨0, 5, 6, 19⟩] ⟨0, 5, 10, 30⟩ [] (by rw [hT]; rfl) (fun z h => by
        simp only [List.mem_cons, List.not_mem_nil, or_false] at h
        rcases h with rfl
        · exact Or.inr ⟨by decide, _, (hts (.classLink RL 19 "java/lang/IllegalArgumentException") (List.mem_of_getElem? (i := 1) rfl)), hN.2.2⟩) rfl (by decide) (hts (.classLink RL 30 "java/lang/IllegalStateException") (List.mem_of_getElem? (i := 2) rfl)) (va_Nw.use rfl (hG.2.1 _ (List.mem_of_getElem? (i := 29) rfl))) hce hcv hcl ?_
      refine lv_astore_n (lv' := [(2, .ref q9), (0, .ref o), (1, .int x1)]) hx hb dL_skin_10 rfl hl (by decide) rfl (fun ls hl => ?_)
      refine lv_ldc (v := -1000003) hx hb hown (hts (.constant RL 32 (-1000003)) (List.mem_of_getElem? (i := 4) rfl)) dL_skin_11 ?_
      exact mb_ri (S := mb_S) (wf := fun u => wW Y o a aa ad u.1 u.2) C.1 rfl (u := (u, F)) hF hP hD hS dL_skin_13 (Nat.le_of_ble_eq_true rfl) (Nat.le_of_ble_eq_true rfl)
  · exact mb_ri (S := mb_S) (wf := fun u => wW Y o a aa ad u.1 u.2) C.1 rfl (u := (u, F)) hF hP hD hS dL_skin_5 (Nat.le_of_ble_eq_true rfl) (Nat.le_of_ble_eq_true rfl)
noncomputable def LP_pare (N : Nat) (b : mb_bs) (F : mb_m) (x1 x2 x3 x4 x5 x6 : Int32) (K : Int32 → mb_S → Prop) : Prop := BP_pare N b.1 b.2.1 b.2.2.1 b.2.2.2.1 b.2.2.2.2.1 b.2.2.2.2.2.1 b.2.2.2.2.2.2.1 b.2.2.2.2.2.2.2 x1 x2 x3 x4 x5 x6 (fun r b1 => K r (b1, F)) (fun E b1 => (E = eO ∧ K (-1000001) (b1, F)) ∨ (E = eA ∧ K (-1000002) (b1, F)) ∨ (E = eS ∧ K (-1000003) (b1, F)))
set_option maxHeartbeats 4000000 in
set_option maxRecDepth 100000 in
theorem cw_pare (l : Launch) (hl0 : l.stackTraces = false) (D : va_G) (Y : Nat → ClassId) (N : Nat) (o : Nat) (a aa ad : Nat → Nat) (b : mb_bs) (F : mb_m) (sz : Nat) (x1 x2 x3 x4 x5 x6 : Int32) (K : Int32 → mb_S → Prop) (hF : LP_pare N b F x1 x2 x3 x4 x5 x6 K) : Met l yL_pare wsL_pare ({ frames := 8, cells := 4, slots := 24, locals := 140 } : Room) (va_Pc [.ref o, .int x1, .int x2, .int x3, .int x4, .int x5, .int x6] (mb_BL D Y (wW Y o a aa ad b F) sz)) (va_Qi K (fun u t => mb_T D (va_A (wW Y o a aa ad b F) sz) (wW Y o a aa ad u.1 u.2) t) (va_A (wW Y o a aa ad b F) sz)) 4 24 (va_A (wW Y o a aa ad b F) sz) := by
  unfold LP_pare at hF
  refine mbl_begin (cc := cL_pare) (maxL := 8) (ret := some .int) (hh := [(0, 13, 14, 16), (0, 13, 19, 19), (0, 13, 24, 30)]) hl0 (by decide +kernel) rfl (Nat.le_of_ble_eq_true rfl) ?_
  intro p e s m below meth c ls C hsz hP hD hl
  generalize hAe : va_A (wW Y o a aa ad b F) sz = A at C hD ⊢
  have C : mb_CL l p s m meth c ([.ref o, .int x1, .int x2, .int x3, .int x4, .int x5, .int x6] : List Value).toArray cL_pare 8 (some .int) wsL_pare RL D Y A [(0, 13, 14, 16), (0, 13, 19, 19), (0, 13, 24, 30)] := C
  obtain ⟨⟨hx, hb, hr, hml, hts, hown, hlocks, hA, hG⟩, hT, hX, hl0, hN⟩ := id C
  have hK := hG.1
  have hS : va_S A s.heap s.heap [] := va_S.rf
  have hl : lv_has ls 8 [(0, .ref o), (1, .int x1), (2, .int x2), (3, .int x3), (4, .int x4), (5, .int x5), (6, .int x6)] := hl
  refine lv_aload_n hx hb dL_pare_0 rfl (lv_at hl 0 rfl) ?_
  refine lv_iload_n hx hb dL_pare_1 rfl (lv_at hl 1 rfl) ?_
  refine lv_iload_n hx hb dL_pare_2 rfl (lv_at hl 2 rfl) ?_
  refine lv_iload_n hx hb dL_pare_3 rfl (lv_at hl 3 rfl) ?_
  refine lv_iload hx hb dL_pare_4 (lv_at hl 4 rfl) ?_
  refine lv_iload hx hb dL_pare_6 (lv_at hl 5 rfl) ?_
  refine lv_iload hx hb dL_pare_8 (lv_at hl 6 rfl) ?_
  refine mbl_cW (wf := fun u : mb_bs => wW Y o a aa ad u F) C hD hS (vx_runV (As := [.int x1, .int x2, .int x3, .int x4, .int x5, .int x6]) (rest := []) ⟨hx, hb, hml, hown, hts⟩ (mbx_fr (W := wW Y o a aa ad b F) (wr := wR Y ad F) (WF := fun u : mb_bs => wW Y o a aa ad u F) (fun u => u) (fun u => u) wW_p (fun u => wW_p) (fun u => wW_p) (fun _ _ h => h) (fun _ _ h => h) (cf_pare l hl0 D Y N o a aa _ _ _ _ _ _ _ _ _ x1 x2 x3 x4 x5 x6 _ _ hF)) (cwV 6 hts gL_pare_X7_pare rfl rfl rfl (by decide +kernel) ⟨(Nat.le_of_ble_eq_true rfl), (Nat.le_of_ble_eq_true rfl)⟩) (mbl_preV C hP hD hS 5 rfl rfl) rfl rfl hl.1 rfl (lv_room (Nat.le_of_ble_eq_true rfl)) dL_pare_10 ⟨(Nat.le_of_ble_eq_true rfl), (Nat.le_of_ble_eq_true rfl)⟩) (fun E ce q9 u H locs hF hP hD hS hce hcv hcl => ?_) (fun r u H locs hF hP hD hS => ?_)
  · rcases hF with ⟨rfl, hF⟩ | ⟨rfl, hF⟩ | ⟨rfl, hF⟩
    · refine vx_catch (own := RL) (name := "java/lang/IndexOutOfBoundsException") hown [] ⟨0, 13, 14, 16⟩ [⟨0, 13, 19, 19⟩, ⟨0, 13, 24, 30⟩] (by rw [hT]; rfl) (fun z h => absurd h List.not_mem_nil) rfl (by decide) (hts (.classLink RL 16 "java/lang/IndexOutOfBoundsException") (List.mem_of_getElem? (i := 1) rfl)) (va_Nw.use rfl (hG.2.1 _ (List.mem_of_getElem? (i := 27) rfl))) hce hcv hcl ?_
      refine lv_astore (lv' := [(7, .ref q9), (0, .ref o), (1, .int x1), (2, .int x2), (3, .int x3), (4, .int x4), (5, .int x5), (6, .int x6)]) hx hb dL_pare_14 hl (by decide) rfl (fun ls hl => ?_)
      refine lv_ldc (v := -1000001) hx hb hown (hts (.constant RL 18 (-1000001)) (List.mem_of_getElem? (i := 4) rfl)) dL_pare_16 ?_
      exact mb_ri (S := mb_S) (wf := fun u => wW Y o a aa ad u.1 u.2) C.1 rfl (u := (u, F)) hF hP hD hS dL_pare_18 (Nat.le_of_ble_eq_true rfl) (Nat.le_of_ble_eq_true rfl)
    · refine vx_catch (own := RL) (name := "java/lang/IllegalArgumentException") hown [⟨0, 13, 14, 16⟩] ⟨0, 13, 19, 19⟩ [⟨0, 13, 24, 30⟩] (by rw [hT]; rfl) (fun z h => by
        simp only [List.mem_cons, List.not_mem_nil, or_false] at h
        rcases h with rfl
        · exact Or.inr ⟨by decide, _, (hts (.classLink RL 16 "java/lang/IndexOutOfBoundsException") (List.mem_of_getElem? (i := 1) rfl)), hN.1⟩) rfl (by decide) (hts (.classLink RL 19 "java/lang/IllegalArgumentException") (List.mem_of_getElem? (i := 2) rfl)) (va_Nw.use rfl (hG.2.1 _ (List.mem_of_getElem? (i := 28) rfl))) hce hcv hcl ?_
      refine lv_astore (lv' := [(7, .ref q9), (0, .ref o), (1, .int x1), (2, .int x2), (3, .int x3), (4, .int x4), (5, .int x5), (6, .int x6)]) hx hb dL_pare_19 hl (by decide) rfl (fun ls hl => ?_)
      refine lv_ldc (v := -1000002) hx hb hown (hts (.constant RL 21 (-1000002)) (List.mem_of_getElem? (i := 5) rfl)) dL_pare_21 ?_
      exact mb_ri (S := mb_S) (wf := fun u => wW Y o a aa ad u.1 u.2) C.1 rfl (u := (u, F)) hF hP hD hS dL_pare_23 (Nat.le_of_ble_eq_true rfl) (Nat.le_of_ble_eq_true rfl)
    · refine vx_catch (own := RL) (name := "java/lang/IllegalStateException") hown [⟨0, 13, 14, 16⟩, ⟨0, 13, 19, 19⟩] ⟨0, 13, 24, 30⟩ [] (by rw [hT]; rfl) (fun z h => by
        simp only [List.mem_cons, List.not_mem_nil, or_false] at h
        rcases h with rfl | rfl
        · exact Or.inr ⟨by decide, _, (hts (.classLink RL 16 "java/lang/IndexOutOfBoundsException") (List.mem_of_getElem? (i := 1) rfl)), hN.2.1⟩
        · exact Or.inr ⟨by decide, _, (hts (.classLink RL 19 "java/lang/IllegalArgumentException") (List.mem_of_getElem? (i := 2) rfl)), hN.2.2⟩) rfl (by decide) (hts (.classLink RL 30 "java/lang/IllegalStateException") (List.mem_of_getElem? (i := 3) rfl)) (va_Nw.use rfl (hG.2.1 _ (List.mem_of_getElem? (i := 29) rfl))) hce hcv hcl ?_
      refine lv_astore (lv' := [(7, .ref q9), (0, .ref o), (1, .int x1), (2, .int x2), (3, .int x3), (4, .int x4), (5, .int x5), (6, .int x6)]) hx hb dL_pare_24 hl (by decide) rfl (fun ls hl => ?_)
      refine lv_ldc (v := -1000003) hx hb hown (hts (.constant RL 32 (-1000003)) (List.mem_of_getElem? (i := 6) rfl)) dL_pare_26 ?_
      exact mb_ri (S := mb_S) (wf := fun u => wW Y o a aa ad u.1 u.2) C.1 rfl (u := (u, F)) hF hP hD hS dL_pare_28 (Nat.le_of_ble_eq_true rfl) (Nat.le_of_ble_eq_true rfl)
  · exact mb_ri (S := mb_S) (wf := fun u => wW Y o a aa ad u.1 u.2) C.1 rfl (u := (u, F)) hF hP hD hS dL_pare_13 (Nat.le_of_ble_eq_true rfl) (Nat.le_of_ble_eq_true rfl)
