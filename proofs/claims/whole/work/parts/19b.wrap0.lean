set_option maxHeartbeats 4000000 in
set_option maxRecDepth 100000 in
theorem cw_drop (l : Launch) (hl0 : l.stackTraces = false) (D : va_G) (Y : Nat → ClassId) (N : Nat) (o : Nat) (a aa : Nat → Nat) (b : mb_bs) (q : Nat) (f : Nat → Int64) (sz : Nat) (x1 x2 x3 x4 : Int32) (P : Int → Int32 → mb_bs → Prop) (hF : BP_drop N b.1 b.2.1 b.2.2.1 b.2.2.2.1 b.2.2.2.2.1 b.2.2.2.2.2.1 b.2.2.2.2.2.2.1 b.2.2.2.2.2.2.2 x1 x2 x3 x4 (fun r b => P 0 r b) (fun E b => (E = eO ∧ P 1 0 b) ∨ (E = eA ∧ P 2 0 b))) : Met l yL_drop wsL_drop ({ frames := 8, cells := 2, slots := 12, locals := 160 } : Room) (va_Pc [.ref o, .int x1, .int x2, .int x3, .int x4, .ref q] (mb_BL D Y (wO Y q f ++ wB Y o a aa b) sz)) (va_Qi (mb_PW P) (fun u t => mb_T D (va_A (wO Y q f ++ wB Y o a aa b) sz) (wO Y q u.2 ++ wB Y o a aa u.1) t) (va_A (wO Y q f ++ wB Y o a aa b) sz)) 2 12 (va_A (wO Y q f ++ wB Y o a aa b) sz) := by
  refine mbl_begin (cc := cL_drop) (maxL := 7) (ret := some .int) (hh := [(0, 14, 17, 13), (0, 14, 21, 15)]) hl0 (by decide +kernel) rfl (Nat.le_of_ble_eq_true rfl) ?_
  intro p e s m below meth c ls C hsz hP hD hl
  generalize hAe : va_A (wO Y q f ++ wB Y o a aa b) sz = A at C hD ⊢
  have C : mb_CL l p s m meth c ([.ref o, .int x1, .int x2, .int x3, .int x4, .ref q] : List Value).toArray cL_drop 7 (some .int) wsL_drop RL D Y A [(0, 14, 17, 13), (0, 14, 21, 15)] := C
  obtain ⟨⟨hx, hb, hr, hml, hts, hown, hlocks, hA, hG⟩, hT, hX, hl0, hN⟩ := id C
  have hK := hG.1
  have hS : va_S A s.heap s.heap [] := va_S.rf
  have hl : lv_has ls 7 [(0, .ref o), (1, .int x1), (2, .int x2), (3, .int x3), (4, .int x4), (5, .ref q)] := hl
  refine lv_aload hx hb dL_drop_0 (lv_at hl 5 rfl) ?_
  refine lv_iconst (v := 0) hx hb dL_drop_2 (by decide) ?_
  refine lv_aload_n hx hb dL_drop_3 rfl (lv_at hl 0 rfl) ?_
  refine lv_iload_n hx hb dL_drop_4 rfl (lv_at hl 1 rfl) ?_
  refine lv_iload_n hx hb dL_drop_5 rfl (lv_at hl 2 rfl) ?_
  refine lv_iload_n hx hb dL_drop_6 rfl (lv_at hl 3 rfl) ?_
  refine lv_iload hx hb dL_drop_7 (lv_at hl 4 rfl) ?_
  refine mbl_cW (wf := fun u : mb_bs => wO Y q f ++ wB Y o a aa u) C hD hS (vx_runV (As := [.int x1, .int x2, .int x3, .int x4]) (rest := [.int 0, .ref q]) ⟨hx, hb, hml, hown, hts⟩ (mbx_fr (W := wO Y q f ++ wB Y o a aa b) (wr := wO Y q f) (WF := fun u : mb_bs => wO Y q f ++ wB Y o a aa u) (fun u => u) (fun u => u) List.perm_append_comm (fun u => List.perm_append_comm) (fun u => List.perm_append_comm) (fun _ _ h => h) (fun _ _ h => h) (cf_drop l hl0 D Y N o a aa _ _ _ _ _ _ _ _ _ x1 x2 x3 x4 _ _ hF)) (cwV 4 hts gL_drop_X7_drop rfl rfl rfl (by decide +kernel) ⟨(Nat.le_of_ble_eq_true rfl), (Nat.le_of_ble_eq_true rfl)⟩) (mbl_preV C hP hD hS 1 rfl rfl) rfl rfl hl.1 rfl (lv_room (Nat.le_of_ble_eq_true rfl)) dL_drop_9 ⟨(Nat.le_of_ble_eq_true rfl), (Nat.le_of_ble_eq_true rfl)⟩) (fun E ce q9 u H locs hF hP hD hS hce hcv hcl => ?_) (fun r u H locs hF hP hD hS => ?_)
  · rcases hF with ⟨rfl, hF⟩ | ⟨rfl, hF⟩
    · refine vx_catch (own := RL) (name := "java/lang/IndexOutOfBoundsException") hown [] ⟨0, 14, 17, 13⟩ [⟨0, 14, 21, 15⟩] (by rw [hT]; rfl) (fun z h => absurd h List.not_mem_nil) rfl (by decide) (hts (.classLink RL 13 "java/lang/IndexOutOfBoundsException") (List.mem_of_getElem? (i := 1) rfl)) (va_Nw.use rfl (hG.2.1 _ (List.mem_of_getElem? (i := 27) rfl))) hce hcv hcl ?_
      refine lv_astore (lv' := [(6, .ref q9), (0, .ref o), (1, .int x1), (2, .int x2), (3, .int x3), (4, .int x4), (5, .ref q)]) hx hb dL_drop_17 hl (by decide) rfl (fun ls hl => ?_)
      refine lv_iconst (v := 1) hx hb dL_drop_19 (by decide) ?_
      exact mb_ri (S := mb_bs × (Nat → Int64)) (wf := fun u => wO Y q u.2 ++ wB Y o a aa u.1) C.1 rfl (u := (u, f)) ⟨1, 0, by decide, rfl, hF, fun h => absurd h (by decide)⟩ hP hD hS dL_drop_20 (Nat.le_of_ble_eq_true rfl) (Nat.le_of_ble_eq_true rfl)
    · refine vx_catch (own := RL) (name := "java/lang/IllegalArgumentException") hown [⟨0, 14, 17, 13⟩] ⟨0, 14, 21, 15⟩ [] (by rw [hT]; rfl) (fun z h => by
        simp only [List.mem_cons, List.not_mem_nil, or_false] at h
        rcases h with rfl
        · exact Or.inr ⟨by decide, _, (hts (.classLink RL 13 "java/lang/IndexOutOfBoundsException") (List.mem_of_getElem? (i := 1) rfl)), hN.1⟩) rfl (by decide) (hts (.classLink RL 15 "java/lang/IllegalArgumentException") (List.mem_of_getElem? (i := 2) rfl)) (va_Nw.use rfl (hG.2.1 _ (List.mem_of_getElem? (i := 28) rfl))) hce hcv hcl ?_
      refine lv_astore (lv' := [(6, .ref q9), (0, .ref o), (1, .int x1), (2, .int x2), (3, .int x3), (4, .int x4), (5, .ref q)]) hx hb dL_drop_21 hl (by decide) rfl (fun ls hl => ?_)
      refine lv_iconst (v := 2) hx hb dL_drop_23 (by decide) ?_
      exact mb_ri (S := mb_bs × (Nat → Int64)) (wf := fun u => wO Y q u.2 ++ wB Y o a aa u.1) C.1 rfl (u := (u, f)) ⟨2, 0, by decide, rfl, hF, fun h => absurd h (by decide)⟩ hP hD hS dL_drop_24 (Nat.le_of_ble_eq_true rfl) (Nat.le_of_ble_eq_true rfl)
  · refine lv_i2l (v := r.toInt64) hx hb dL_drop_12 rfl ?_
    refine va_last hx hb hK hP hD hS 0 2 rfl rfl mb_in01 dL_drop_13 (fun H locs hP hD hS => ?_)
    refine lv_goto (tgt := 25) hx hb dL_drop_14 (by decide) ?_
    refine lv_iconst (v := 0) hx hb dL_drop_25 (by decide) ?_
    exact mb_ri (S := mb_bs × (Nat → Int64)) (wf := fun u => wO Y q u.2 ++ wB Y o a aa u.1) C.1 rfl (u := (u, vp_updL f 0 (r.toInt64))) ⟨0, r, by decide, rfl, hF, fun _ => rfl⟩ hP hD hS dL_drop_26 (Nat.le_of_ble_eq_true rfl) (Nat.le_of_ble_eq_true rfl)
set_option maxHeartbeats 4000000 in
set_option maxRecDepth 100000 in
theorem cw_comb (l : Launch) (hl0 : l.stackTraces = false) (D : va_G) (Y : Nat → ClassId) (N : Nat) (o : Nat) (a aa : Nat → Nat) (b : mb_bs) (q : Nat) (f : Nat → Int64) (sz : Nat) (x1 x2 x3 : Int32) (P : Int → Int32 → mb_bs → Prop) (hF : BP_comb N b.1 b.2.1 b.2.2.1 b.2.2.2.1 b.2.2.2.2.1 b.2.2.2.2.2.1 b.2.2.2.2.2.2.1 b.2.2.2.2.2.2.2 x1 x2 x3 (fun r b => P 0 r b) (fun E b => (E = eO ∧ P 1 0 b) ∨ (E = eA ∧ P 2 0 b))) : Met l yL_comb wsL_comb ({ frames := 8, cells := 2, slots := 12, locals := 160 } : Room) (va_Pc [.ref o, .int x1, .int x2, .int x3, .ref q] (mb_BL D Y (wO Y q f ++ wB Y o a aa b) sz)) (va_Qi (mb_PW P) (fun u t => mb_T D (va_A (wO Y q f ++ wB Y o a aa b) sz) (wO Y q u.2 ++ wB Y o a aa u.1) t) (va_A (wO Y q f ++ wB Y o a aa b) sz)) 2 12 (va_A (wO Y q f ++ wB Y o a aa b) sz) := by
  refine mbl_begin (cc := cL_comb) (maxL := 6) (ret := some .int) (hh := [(0, 12, 15, 13), (0, 12, 19, 15)]) hl0 (by decide +kernel) rfl (Nat.le_of_ble_eq_true rfl) ?_
  intro p e s m below meth c ls C hsz hP hD hl
  generalize hAe : va_A (wO Y q f ++ wB Y o a aa b) sz = A at C hD ⊢
  have C : mb_CL l p s m meth c ([.ref o, .int x1, .int x2, .int x3, .ref q] : List Value).toArray cL_comb 6 (some .int) wsL_comb RL D Y A [(0, 12, 15, 13), (0, 12, 19, 15)] := C
  obtain ⟨⟨hx, hb, hr, hml, hts, hown, hlocks, hA, hG⟩, hT, hX, hl0, hN⟩ := id C
  have hK := hG.1
  have hS : va_S A s.heap s.heap [] := va_S.rf
  have hl : lv_has ls 6 [(0, .ref o), (1, .int x1), (2, .int x2), (3, .int x3), (4, .ref q)] := hl
  refine lv_aload hx hb dL_comb_0 (lv_at hl 4 rfl) ?_
  refine lv_iconst (v := 0) hx hb dL_comb_2 (by decide) ?_
  refine lv_aload_n hx hb dL_comb_3 rfl (lv_at hl 0 rfl) ?_
  refine lv_iload_n hx hb dL_comb_4 rfl (lv_at hl 1 rfl) ?_
  refine lv_iload_n hx hb dL_comb_5 rfl (lv_at hl 2 rfl) ?_
  refine lv_iload_n hx hb dL_comb_6 rfl (lv_at hl 3 rfl) ?_
  refine mbl_cW (wf := fun u : mb_bs => wO Y q f ++ wB Y o a aa u) C hD hS (vx_runV (As := [.int x1, .int x2, .int x3]) (rest := [.int 0, .ref q]) ⟨hx, hb, hml, hown, hts⟩ (mbx_fr (W := wO Y q f ++ wB Y o a aa b) (wr := wO Y q f) (WF := fun u : mb_bs => wO Y q f ++ wB Y o a aa u) (fun u => u) (fun u => u) List.perm_append_comm (fun u => List.perm_append_comm) (fun u => List.perm_append_comm) (fun _ _ h => h) (fun _ _ h => h) (cf_comb l hl0 D Y N o a aa _ _ _ _ _ _ _ _ _ x1 x2 x3 _ _ hF)) (cwV 3 hts gL_comb_X7_comb rfl rfl rfl (by decide +kernel) ⟨(Nat.le_of_ble_eq_true rfl), (Nat.le_of_ble_eq_true rfl)⟩) (mbl_preV C hP hD hS 1 rfl rfl) rfl rfl hl.1 rfl (lv_room (Nat.le_of_ble_eq_true rfl)) dL_comb_7 ⟨(Nat.le_of_ble_eq_true rfl), (Nat.le_of_ble_eq_true rfl)⟩) (fun E ce q9 u H locs hF hP hD hS hce hcv hcl => ?_) (fun r u H locs hF hP hD hS => ?_)
  · rcases hF with ⟨rfl, hF⟩ | ⟨rfl, hF⟩
    · refine vx_catch (own := RL) (name := "java/lang/IndexOutOfBoundsException") hown [] ⟨0, 12, 15, 13⟩ [⟨0, 12, 19, 15⟩] (by rw [hT]; rfl) (fun z h => absurd h List.not_mem_nil) rfl (by decide) (hts (.classLink RL 13 "java/lang/IndexOutOfBoundsException") (List.mem_of_getElem? (i := 1) rfl)) (va_Nw.use rfl (hG.2.1 _ (List.mem_of_getElem? (i := 27) rfl))) hce hcv hcl ?_
      refine lv_astore (lv' := [(5, .ref q9), (0, .ref o), (1, .int x1), (2, .int x2), (3, .int x3), (4, .ref q)]) hx hb dL_comb_15 hl (by decide) rfl (fun ls hl => ?_)
      refine lv_iconst (v := 1) hx hb dL_comb_17 (by decide) ?_
      exact mb_ri (S := mb_bs × (Nat → Int64)) (wf := fun u => wO Y q u.2 ++ wB Y o a aa u.1) C.1 rfl (u := (u, f)) ⟨1, 0, by decide, rfl, hF, fun h => absurd h (by decide)⟩ hP hD hS dL_comb_18 (Nat.le_of_ble_eq_true rfl) (Nat.le_of_ble_eq_true rfl)
    · refine vx_catch (own := RL) (name := "java/lang/IllegalArgumentException") hown [⟨0, 12, 15, 13⟩] ⟨0, 12, 19, 15⟩ [] (by rw [hT]; rfl) (fun z h => by
        simp only [List.mem_cons, List.not_mem_nil, or_false] at h
        rcases h with rfl
        · exact Or.inr ⟨by decide, _, (hts (.classLink RL 13 "java/lang/IndexOutOfBoundsException") (List.mem_of_getElem? (i := 1) rfl)), hN.1⟩) rfl (by decide) (hts (.classLink RL 15 "java/lang/IllegalArgumentException") (List.mem_of_getElem? (i := 2) rfl)) (va_Nw.use rfl (hG.2.1 _ (List.mem_of_getElem? (i := 28) rfl))) hce hcv hcl ?_
      refine lv_astore (lv' := [(5, .ref q9), (0, .ref o), (1, .int x1), (2, .int x2), (3, .int x3), (4, .ref q)]) hx hb dL_comb_19 hl (by decide) rfl (fun ls hl => ?_)
      refine lv_iconst (v := 2) hx hb dL_comb_21 (by decide) ?_
      exact mb_ri (S := mb_bs × (Nat → Int64)) (wf := fun u => wO Y q u.2 ++ wB Y o a aa u.1) C.1 rfl (u := (u, f)) ⟨2, 0, by decide, rfl, hF, fun h => absurd h (by decide)⟩ hP hD hS dL_comb_22 (Nat.le_of_ble_eq_true rfl) (Nat.le_of_ble_eq_true rfl)
  · refine lv_i2l (v := r.toInt64) hx hb dL_comb_10 rfl ?_
    refine va_last hx hb hK hP hD hS 0 2 rfl rfl mb_in01 dL_comb_11 (fun H locs hP hD hS => ?_)
    refine lv_goto (tgt := 23) hx hb dL_comb_12 (by decide) ?_
    refine lv_iconst (v := 0) hx hb dL_comb_23 (by decide) ?_
    exact mb_ri (S := mb_bs × (Nat → Int64)) (wf := fun u => wO Y q u.2 ++ wB Y o a aa u.1) C.1 rfl (u := (u, vp_updL f 0 (r.toInt64))) ⟨0, r, by decide, rfl, hF, fun _ => rfl⟩ hP hD hS dL_comb_24 (Nat.le_of_ble_eq_true rfl) (Nat.le_of_ble_eq_true rfl)
set_option maxHeartbeats 4000000 in
set_option maxRecDepth 100000 in
theorem cw_lift (l : Launch) (hl0 : l.stackTraces = false) (D : va_G) (Y : Nat → ClassId) (N : Nat) (o : Nat) (a aa : Nat → Nat) (b : mb_bs) (q : Nat) (f : Nat → Int64) (sz : Nat) (P : Int → Int32 → mb_bs → Prop) (hF : BP_lift N b.1 b.2.1 b.2.2.1 b.2.2.2.1 b.2.2.2.2.1 b.2.2.2.2.2.1 b.2.2.2.2.2.2.1 b.2.2.2.2.2.2.2 (fun r b => P 0 r b) (fun E b => (E = eS ∧ P 1 0 b))) : Met l yL_lift wsL_lift ({ frames := 8, cells := 3, slots := 71, locals := 160 } : Room) (va_Pc [.ref o, .ref q] (mb_BL D Y (wO Y q f ++ wB Y o a aa b) sz)) (va_Qi (mb_PW P) (fun u t => mb_T D (va_A (wO Y q f ++ wB Y o a aa b) sz) (wO Y q u.2 ++ wB Y o a aa u.1) t) (va_A (wO Y q f ++ wB Y o a aa b) sz)) 3 71 (va_A (wO Y q f ++ wB Y o a aa b) sz) := by
  refine mbl_begin (cc := cL_lift) (maxL := 3) (ret := some .int) (hh := [(0, 8, 11, 25)]) hl0 (by decide +kernel) rfl (Nat.le_of_ble_eq_true rfl) ?_
  intro p e s m below meth c ls C hsz hP hD hl
  generalize hAe : va_A (wO Y q f ++ wB Y o a aa b) sz = A at C hD ⊢
  have C : mb_CL l p s m meth c ([.ref o, .ref q] : List Value).toArray cL_lift 3 (some .int) wsL_lift RL D Y A [(0, 8, 11, 25)] := C
  obtain ⟨⟨hx, hb, hr, hml, hts, hown, hlocks, hA, hG⟩, hT, hX, hl0, hN⟩ := id C
  have hK := hG.1
  have hS : va_S A s.heap s.heap [] := va_S.rf
  have hl : lv_has ls 3 [(0, .ref o), (1, .ref q)] := hl
  refine lv_aload_n hx hb dL_lift_0 rfl (lv_at hl 1 rfl) ?_
  refine lv_iconst (v := 0) hx hb dL_lift_1 (by decide) ?_
  refine lv_aload_n hx hb dL_lift_2 rfl (lv_at hl 0 rfl) ?_
  refine mbl_cW (wf := fun u : mb_bs => wO Y q f ++ wB Y o a aa u) C hD hS (vx_runV (As := []) (rest := [.int 0, .ref q]) ⟨hx, hb, hml, hown, hts⟩ (mbx_fr (W := wO Y q f ++ wB Y o a aa b) (wr := wO Y q f) (WF := fun u : mb_bs => wO Y q f ++ wB Y o a aa u) (fun u => u) (fun u => u) List.perm_append_comm (fun u => List.perm_append_comm) (fun u => List.perm_append_comm) (fun _ _ h => h) (fun _ _ h => h) (cf_lift l hl0 D Y N o a aa _ _ _ _ _ _ _ _ _ _ _ hF)) (cwV 0 hts gL_lift_X7_lift rfl rfl rfl (by decide +kernel) ⟨(Nat.le_of_ble_eq_true rfl), (Nat.le_of_ble_eq_true rfl)⟩) (mbl_preV C hP hD hS 1 rfl rfl) rfl rfl hl.1 rfl (lv_room (Nat.le_of_ble_eq_true rfl)) dL_lift_3 ⟨(Nat.le_of_ble_eq_true rfl), (Nat.le_of_ble_eq_true rfl)⟩) (fun E ce q9 u H locs hF hP hD hS hce hcv hcl => ?_) (fun r u H locs hF hP hD hS => ?_)
  · obtain ⟨rfl, hF⟩ := hF
    refine vx_catch (own := RL) (name := "java/lang/IllegalStateException") hown [] ⟨0, 8, 11, 25⟩ [] (by rw [hT]; rfl) (fun z h => absurd h List.not_mem_nil) rfl (by decide) (hts (.classLink RL 25 "java/lang/IllegalStateException") (List.mem_of_getElem? (i := 1) rfl)) (va_Nw.use rfl (hG.2.1 _ (List.mem_of_getElem? (i := 29) rfl))) hce hcv hcl ?_
    refine lv_astore_n (lv' := [(2, .ref q9), (0, .ref o), (1, .ref q)]) hx hb dL_lift_11 rfl hl (by decide) rfl (fun ls hl => ?_)
    refine lv_iconst (v := 1) hx hb dL_lift_12 (by decide) ?_
    exact mb_ri (S := mb_bs × (Nat → Int64)) (wf := fun u => wO Y q u.2 ++ wB Y o a aa u.1) C.1 rfl (u := (u, f)) ⟨1, 0, by decide, rfl, hF, fun h => absurd h (by decide)⟩ hP hD hS dL_lift_13 (Nat.le_of_ble_eq_true rfl) (Nat.le_of_ble_eq_true rfl)
  · refine lv_i2l (v := r.toInt64) hx hb dL_lift_6 rfl ?_
    refine va_last hx hb hK hP hD hS 0 2 rfl rfl mb_in01 dL_lift_7 (fun H locs hP hD hS => ?_)
    refine lv_goto (tgt := 14) hx hb dL_lift_8 (by decide) ?_
    refine lv_iconst (v := 0) hx hb dL_lift_14 (by decide) ?_
    exact mb_ri (S := mb_bs × (Nat → Int64)) (wf := fun u => wO Y q u.2 ++ wB Y o a aa u.1) C.1 rfl (u := (u, vp_updL f 0 (r.toInt64))) ⟨0, r, by decide, rfl, hF, fun _ => rfl⟩ hP hD hS dL_lift_15 (Nat.le_of_ble_eq_true rfl) (Nat.le_of_ble_eq_true rfl)
set_option maxHeartbeats 4000000 in
set_option maxRecDepth 100000 in
theorem cw_cellAt (l : Launch) (hl0 : l.stackTraces = false) (D : va_G) (Y : Nat → ClassId) (N : Nat) (o : Nat) (a aa : Nat → Nat) (b : mb_bs) (q : Nat) (f : Nat → Int64) (sz : Nat) (x1 x2 x3 : Int32) (P : Int → Int32 → mb_bs → Prop) (hF : BP_cellAt N b.1 b.2.1 b.2.2.1 b.2.2.2.1 b.2.2.2.2.1 b.2.2.2.2.2.1 b.2.2.2.2.2.2.1 b.2.2.2.2.2.2.2 x1 x2 x3 (fun r b => P 0 r b) (fun E b => (E = eO ∧ P 1 0 b) ∨ (E = eA ∧ P 2 0 b))) : Met l yL_cellAt wsL_cellAt ({ frames := 8, cells := 2, slots := 12, locals := 160 } : Room) (va_Pc [.ref o, .int x1, .int x2, .int x3, .ref q] (mb_BL D Y (wO Y q f ++ wB Y o a aa b) sz)) (va_Qi (mb_PW P) (fun u t => mb_T D (va_A (wO Y q f ++ wB Y o a aa b) sz) (wO Y q u.2 ++ wB Y o a aa u.1) t) (va_A (wO Y q f ++ wB Y o a aa b) sz)) 2 12 (va_A (wO Y q f ++ wB Y o a aa b) sz) := by
  refine mbl_begin (cc := cL_cellAt) (maxL := 6) (ret := some .int) (hh := [(0, 12, 15, 13), (0, 12, 19, 15)]) hl0 (by decide +kernel) rfl (Nat.le_of_ble_eq_true rfl) ?_
  intro p e s m below meth c ls C hsz hP hD hl
  generalize hAe : va_A (wO Y q f ++ wB Y o a aa b) sz = A at C hD ⊢
  have C : mb_CL l p s m meth c ([.ref o, .int x1, .int x2, .int x3, .ref q] : List Value).toArray cL_cellAt 6 (some .int) wsL_cellAt RL D Y A [(0, 12, 15, 13), (0, 12, 19, 15)] := C
  obtain ⟨⟨hx, hb, hr, hml, hts, hown, hlocks, hA, hG⟩, hT, hX, hl0, hN⟩ := id C
  have hK := hG.1
  have hS : va_S A s.heap s.heap [] := va_S.rf
  have hl : lv_has ls 6 [(0, .ref o), (1, .int x1), (2, .int x2), (3, .int x3), (4, .ref q)] := hl
  refine lv_aload hx hb dL_cellAt_0 (lv_at hl 4 rfl) ?_
  refine lv_iconst (v := 0) hx hb dL_cellAt_2 (by decide) ?_
  refine lv_aload_n hx hb dL_cellAt_3 rfl (lv_at hl 0 rfl) ?_
  refine lv_iload_n hx hb dL_cellAt_4 rfl (lv_at hl 1 rfl) ?_
  refine lv_iload_n hx hb dL_cellAt_5 rfl (lv_at hl 2 rfl) ?_
  refine lv_iload_n hx hb dL_cellAt_6 rfl (lv_at hl 3 rfl) ?_
  refine mbl_cW (wf := fun u : mb_bs => wO Y q f ++ wB Y o a aa u) C hD hS (vx_runV (As := [.int x1, .int x2, .int x3]) (rest := [.int 0, .ref q]) ⟨hx, hb, hml, hown, hts⟩ (mbx_fr (W := wO Y q f ++ wB Y o a aa b) (wr := wO Y q f) (WF := fun u : mb_bs => wO Y q f ++ wB Y o a aa u) (fun u => u) (fun u => u) List.perm_append_comm (fun u => List.perm_append_comm) (fun u => List.perm_append_comm) (fun _ _ h => h) (fun _ _ h => h) (cf_cellAt l hl0 D Y N o a aa _ _ _ _ _ _ _ _ _ x1 x2 x3 _ _ hF)) (cwV 3 hts gL_cellAt_X7_cellAt rfl rfl rfl (by decide +kernel) ⟨(Nat.le_of_ble_eq_true rfl), (Nat.le_of_ble_eq_true rfl)⟩) (mbl_preV C hP hD hS 1 rfl rfl) rfl rfl hl.1 rfl (lv_room (Nat.le_of_ble_eq_true rfl)) dL_cellAt_7 ⟨(Nat.le_of_ble_eq_true rfl), (Nat.le_of_ble_eq_true rfl)⟩) (fun E ce q9 u H locs hF hP hD hS hce hcv hcl => ?_) (fun r u H locs hF hP hD hS => ?_)
  · rcases hF with ⟨rfl, hF⟩ | ⟨rfl, hF⟩
    · refine vx_catch (own := RL) (name := "java/lang/IndexOutOfBoundsException") hown [] ⟨0, 12, 15, 13⟩ [⟨0, 12, 19, 15⟩] (by rw [hT]; rfl) (fun z h => absurd h List.not_mem_nil) rfl (by decide) (hts (.classLink RL 13 "java/lang/IndexOutOfBoundsException") (List.mem_of_getElem? (i := 1) rfl)) (va_Nw.use rfl (hG.2.1 _ (List.mem_of_getElem? (i := 27) rfl))) hce hcv hcl ?_
      refine lv_astore (lv' := [(5, .ref q9), (0, .ref o), (1, .int x1), (2, .int x2), (3, .int x3), (4, .ref q)]) hx hb dL_cellAt_15 hl (by decide) rfl (fun ls hl => ?_)
      refine lv_iconst (v := 1) hx hb dL_cellAt_17 (by decide) ?_
      exact mb_ri (S := mb_bs × (Nat → Int64)) (wf := fun u => wO Y q u.2 ++ wB Y o a aa u.1) C.1 rfl (u := (u, f)) ⟨1, 0, by decide, rfl, hF, fun h => absurd h (by decide)⟩ hP hD hS dL_cellAt_18 (Nat.le_of_ble_eq_true rfl) (Nat.le_of_ble_eq_true rfl)
    · refine vx_catch (own := RL) (name := "java/lang/IllegalArgumentException") hown [⟨0, 12, 15, 13⟩] ⟨0, 12, 19, 15⟩ [] (by rw [hT]; rfl) (fun z h => by
        simp only [List.mem_cons, List.not_mem_nil, or_false] at h
        rcases h with rfl
        · exact Or.inr ⟨by decide, _, (hts (.classLink RL 13 "java/lang/IndexOutOfBoundsException") (List.mem_of_getElem? (i := 1) rfl)), hN.1⟩) rfl (by decide) (hts (.classLink RL 15 "java/lang/IllegalArgumentException") (List.mem_of_getElem? (i := 2) rfl)) (va_Nw.use rfl (hG.2.1 _ (List.mem_of_getElem? (i := 28) rfl))) hce hcv hcl ?_
      refine lv_astore (lv' := [(5, .ref q9), (0, .ref o), (1, .int x1), (2, .int x2), (3, .int x3), (4, .ref q)]) hx hb dL_cellAt_19 hl (by decide) rfl (fun ls hl => ?_)
      refine lv_iconst (v := 2) hx hb dL_cellAt_21 (by decide) ?_
      exact mb_ri (S := mb_bs × (Nat → Int64)) (wf := fun u => wO Y q u.2 ++ wB Y o a aa u.1) C.1 rfl (u := (u, f)) ⟨2, 0, by decide, rfl, hF, fun h => absurd h (by decide)⟩ hP hD hS dL_cellAt_22 (Nat.le_of_ble_eq_true rfl) (Nat.le_of_ble_eq_true rfl)
  · refine lv_i2l (v := r.toInt64) hx hb dL_cellAt_10 rfl ?_
    refine va_last hx hb hK hP hD hS 0 2 rfl rfl mb_in01 dL_cellAt_11 (fun H locs hP hD hS => ?_)
    refine lv_goto (tgt := 23) hx hb dL_cellAt_12 (by decide) ?_
    refine lv_iconst (v := 0) hx hb dL_cellAt_23 (by decide) ?_
    exact mb_ri (S := mb_bs × (Nat → Int64)) (wf := fun u => wO Y q u.2 ++ wB Y o a aa u.1) C.1 rfl (u := (u, vp_updL f 0 (r.toInt64))) ⟨0, r, by decide, rfl, hF, fun _ => rfl⟩ hP hD hS dL_cellAt_24 (Nat.le_of_ble_eq_true rfl) (Nat.le_of_ble_eq_true rfl)
set_option maxHeartbeats 4000000 in
set_option maxRecDepth 100000 in
theorem cw_printAt (l : Launch) (hl0 : l.stackTraces = false) (D : va_G) (Y : Nat → ClassId) (N : Nat) (o : Nat) (a aa : Nat → Nat) (b : mb_bs) (q : Nat) (f : Nat → Int64) (sz : Nat) (x1 x2 x3 : Int32) (P : Int → Int32 → mb_bs → Prop) (hF : BP_printAt N b.1 b.2.1 b.2.2.1 b.2.2.2.1 b.2.2.2.2.1 b.2.2.2.2.2.1 b.2.2.2.2.2.2.1 b.2.2.2.2.2.2.2 x1 x2 x3 (fun r b => P 0 r b) (fun E b => (E = eO ∧ P 1 0 b))) : Met l yL_printAt wsL_printAt ({ frames := 8, cells := 2, slots := 12, locals := 160 } : Room) (va_Pc [.ref o, .int x1, .int x2, .int x3, .ref q] (mb_BL D Y (wO Y q f ++ wB Y o a aa b) sz)) (va_Qi (mb_PW P) (fun u t => mb_T D (va_A (wO Y q f ++ wB Y o a aa b) sz) (wO Y q u.2 ++ wB Y o a aa u.1) t) (va_A (wO Y q f ++ wB Y o a aa b) sz)) 2 12 (va_A (wO Y q f ++ wB Y o a aa b) sz) := by
  refine mbl_begin (cc := cL_printAt) (maxL := 6) (ret := some .int) (hh := [(0, 12, 15, 13)]) hl0 (by decide +kernel) rfl (Nat.le_of_ble_eq_true rfl) ?_
  intro p e s m below meth c ls C hsz hP hD hl
  generalize hAe : va_A (wO Y q f ++ wB Y o a aa b) sz = A at C hD ⊢
  have C : mb_CL l p s m meth c ([.ref o, .int x1, .int x2, .int x3, .ref q] : List Value).toArray cL_printAt 6 (some .int) wsL_printAt RL D Y A [(0, 12, 15, 13)] := C
  obtain ⟨⟨hx, hb, hr, hml, hts, hown, hlocks, hA, hG⟩, hT, hX, hl0, hN⟩ := id C
  have hK := hG.1
  have hS : va_S A s.heap s.heap [] := va_S.rf
  have hl : lv_has ls 6 [(0, .ref o), (1, .int x1), (2, .int x2), (3, .int x3), (4, .ref q)] := hl
  refine lv_aload hx hb dL_printAt_0 (lv_at hl 4 rfl) ?_
  refine lv_iconst (v := 0) hx hb dL_printAt_2 (by decide) ?_
  refine lv_aload_n hx hb dL_printAt_3 rfl (lv_at hl 0 rfl) ?_
  refine lv_iload_n hx hb dL_printAt_4 rfl (lv_at hl 1 rfl) ?_
  refine lv_iload_n hx hb dL_printAt_5 rfl (lv_at hl 2 rfl) ?_
  refine lv_iload_n hx hb dL_printAt_6 rfl (lv_at hl 3 rfl) ?_
  refine mbl_cW (wf := fun u : mb_bs => wO Y q f ++ wB Y o a aa u) C hD hS (vx_runV (As := [.int x1, .int x2, .int x3]) (rest := [.int 0, .ref q]) ⟨hx, hb, hml, hown, hts⟩ (mbx_fr (W := wO Y q f ++ wB Y o a aa b) (wr := wO Y q f) (WF := fun u : mb_bs => wO Y q f ++ wB Y o a aa u) (fun u => u) (fun u => u) List.perm_append_comm (fun u => List.perm_append_comm) (fun u => List.perm_append_comm) (fun _ _ h => h) (fun _ _ h => h) (cf_printAt l hl0 D Y N o a aa _ _ _ _ _ _ _ _ _ x1 x2 x3 _ _ hF)) (cwV 3 hts gL_printAt_X7_printAt rfl rfl rfl (by decide +kernel) ⟨(Nat.le_of_ble_eq_true rfl), (Nat.le_of_ble_eq_true rfl)⟩) (mbl_preV C hP hD hS 1 rfl rfl) rfl rfl hl.1 rfl (lv_room (Nat.le_of_ble_eq_true rfl)) dL_printAt_7 ⟨(Nat.le_of_ble_eq_true rfl), (Nat.le_of_ble_eq_true rfl)⟩) (fun E ce q9 u H locs hF hP hD hS hce hcv hcl => ?_) (fun r u H locs hF hP hD hS => ?_)
  · obtain ⟨rfl, hF⟩ := hF
    refine vx_catch (own := RL) (name := "java/lang/IndexOutOfBoundsException") hown [] ⟨0, 12, 15, 13⟩ [] (by rw [hT]; rfl) (fun z h => absurd h List.not_mem_nil) rfl (by decide) (hts (.classLink RL 13 "java/lang/IndexOutOfBoundsException") (List.mem_of_getElem? (i := 1) rfl)) (va_Nw.use rfl (hG.2.1 _ (List.mem_of_getElem? (i := 27) rfl))) hce hcv hcl ?_
    refine lv_astore (lv' := [(5, .ref q9), (0, .ref o), (1, .int x1), (2, .int x2), (3, .int x3), (4, .ref q)]) hx hb dL_printAt_15 hl (by decide) rfl (fun ls hl => ?_)
    refine lv_iconst (v := 1) hx hb dL_printAt_17 (by decide) ?_
    exact mb_ri (S := mb_bs × (Nat → Int64)) (wf := fun u => wO Y q u.2 ++ wB Y o a aa u.1) C.1 rfl (u := (u, f)) ⟨1, 0, by decide, rfl, hF, fun h => absurd h (by decide)⟩ hP hD hS dL_printAt_18 (Nat.le_of_ble_eq_true rfl) (Nat.le_of_ble_eq_true rfl)
  · refine lv_i2l (v := r.toInt64) hx hb dL_printAt_10 rfl ?_
    refine va_last hx hb hK hP hD hS 0 2 rfl rfl mb_in01 dL_printAt_11 (fun H locs hP hD hS => ?_)
    refine lv_goto (tgt := 19) hx hb dL_printAt_12 (by decide) ?_
    refine lv_iconst (v := 0) hx hb dL_printAt_19 (by decide) ?_
    exact mb_ri (S := mb_bs × (Nat → Int64)) (wf := fun u => wO Y q u.2 ++ wB Y o a aa u.1) C.1 rfl (u := (u, vp_updL f 0 (r.toInt64))) ⟨0, r, by decide, rfl, hF, fun _ => rfl⟩ hP hD hS dL_printAt_20 (Nat.le_of_ble_eq_true rfl) (Nat.le_of_ble_eq_true rfl)
set_option maxHeartbeats 4000000 in
set_option maxRecDepth 100000 in
theorem cw_count (l : Launch) (hl0 : l.stackTraces = false) (D : va_G) (Y : Nat → ClassId) (N : Nat) (o : Nat) (a aa : Nat → Nat) (b : mb_bs) (q : Nat) (f : Nat → Int64) (sz : Nat) (x1 x2 : Int32) (P : Int → Int32 → mb_bs → Prop) (hF : BP_count N b.1 b.2.1 b.2.2.1 b.2.2.2.1 b.2.2.2.2.1 b.2.2.2.2.2.1 b.2.2.2.2.2.2.1 b.2.2.2.2.2.2.2 x1 x2 (fun r b => P 0 r b) (fun E b => (E = eO ∧ P 1 0 b) ∨ (E = eA ∧ P 2 0 b))) : Met l yL_count wsL_count ({ frames := 8, cells := 2, slots := 12, locals := 160 } : Room) (va_Pc [.ref o, .int x1, .int x2, .ref q] (mb_BL D Y (wO Y q f ++ wB Y o a aa b) sz)) (va_Qi (mb_PW P) (fun u t => mb_T D (va_A (wO Y q f ++ wB Y o a aa b) sz) (wO Y q u.2 ++ wB Y o a aa u.1) t) (va_A (wO Y q f ++ wB Y o a aa b) sz)) 2 12 (va_A (wO Y q f ++ wB Y o a aa b) sz) := by
  refine mbl_begin (cc := cL_count) (maxL := 5) (ret := some .int) (hh := [(0, 10, 13, 13), (0, 10, 17, 15)]) hl0 (by decide +kernel) rfl (Nat.le_of_ble_eq_true rfl) ?_
  intro p e s m below meth c ls C hsz hP hD hl
  generalize hAe : va_A (wO Y q f ++ wB Y o a aa b) sz = A at C hD ⊢
  have C : mb_CL l p s m meth c ([.ref o, .int x1, .int x2, .ref q] : List Value).toArray cL_count 5 (some .int) wsL_count RL D Y A [(0, 10, 13, 13), (0, 10, 17, 15)] := C
  obtain ⟨⟨hx, hb, hr, hml, hts, hown, hlocks, hA, hG⟩, hT, hX, hl0, hN⟩ := id C
  have hK := hG.1
  have hS : va_S A s.heap s.heap [] := va_S.rf
  have hl : lv_has ls 5 [(0, .ref o), (1, .int x1), (2, .int x2), (3, .ref q)] := hl
  refine lv_aload_n hx hb dL_count_0 rfl (lv_at hl 3 rfl) ?_
  refine lv_iconst (v := 0) hx hb dL_count_1 (by decide) ?_
  refine lv_aload_n hx hb dL_count_2 rfl (lv_at hl 0 rfl) ?_
  refine lv_iload_n hx hb dL_count_3 rfl (lv_at hl 1 rfl) ?_
  refine lv_iload_n hx hb dL_count_4 rfl (lv_at hl 2 rfl) ?_
  refine mbl_cW (wf := fun u : mb_bs => wO Y q f ++ wB Y o a aa u) C hD hS (vx_runV (As := [.int x1, .int x2]) (rest := [.int 0, .ref q]) ⟨hx, hb, hml, hown, hts⟩ (mbx_fr (W := wO Y q f ++ wB Y o a aa b) (wr := wO Y q f) (WF := fun u : mb_bs => wO Y q f ++ wB Y o a aa u) (fun u => u) (fun u => u) List.perm_append_comm (fun u => List.perm_append_comm) (fun u => List.perm_append_comm) (fun _ _ h => h) (fun _ _ h => h) (cf_count l hl0 D Y N o a aa _ _ _ _ _ _ _ _ _ x1 x2 _ _ hF)) (cwV 2 hts gL_count_X7_count rfl rfl rfl (by decide +kernel) ⟨(Nat.le_of_ble_eq_true rfl), (Nat.le_of_ble_eq_true rfl)⟩) (mbl_preV C hP hD hS 1 rfl rfl) rfl rfl hl.1 rfl (lv_room (Nat.le_of_ble_eq_true rfl)) dL_count_5 ⟨(Nat.le_of_ble_eq_true rfl), (Nat.le_of_ble_eq_true rfl)⟩) (fun E ce q9 u H locs hF hP hD hS hce hcv hcl => ?_) (fun r u H locs hF hP hD hS => ?_)
  · rcases hF with ⟨rfl, hF⟩ | ⟨rfl, hF⟩
    · refine vx_catch (own := RL) (name := "java/lang/IndexOutOfBoundsException") hown [] ⟨0, 10, 13, 13⟩ [⟨0, 10, 17, 15⟩] (by rw [hT]; rfl) (fun z h => absurd h List.not_mem_nil) rfl (by decide) (hts (.classLink RL 13 "java/lang/IndexOutOfBoundsException") (List.mem_of_getElem? (i := 1) rfl)) (va_Nw.use rfl (hG.2.1 _ (List.mem_of_getElem? (i := 27) rfl))) hce hcv hcl ?_
      refine lv_astore (lv' := [(4, .ref q9), (0, .ref o), (1, .int x1), (2, .int x2), (3, .ref q)]) hx hb dL_count_13 hl (by decide) rfl (fun ls hl => ?_)
      refine lv_iconst (v := 1) hx hb dL_count_15 (by decide) ?_
      exact mb_ri (S := mb_bs × (Nat → Int64)) (wf := fun u => wO Y q u.2 ++ wB Y o a aa u.1) C.1 rfl (u := (u, f)) ⟨1, 0, by decide, rfl, hF, fun h => absurd h (by decide)⟩ hP hD hS dL_count_16 (Nat.le_of_ble_eq_true rfl) (Nat.le_of_ble_eq_true rfl)
    · refine vx_catch (own := RL) (name := "java/lang/IllegalArgumentException") hown [⟨0, 10, 13, 13⟩] ⟨0, 10, 17, 15⟩ [] (by rw [hT]; rfl) (fun z h => by
        simp only [List.mem_cons, List.not_mem_nil, or_false] at h
        rcases h with rfl
        · exact Or.inr ⟨by decide, _, (hts (.classLink RL 13 "java/lang/IndexOutOfBoundsException") (List.mem_of_getElem? (i := 1) rfl)), hN.1⟩) rfl (by decide) (hts (.classLink RL 15 "java/lang/IllegalArgumentException") (List.mem_of_getElem? (i := 2) rfl)) (va_Nw.use rfl (hG.2.1 _ (List.mem_of_getElem? (i := 28) rfl))) hce hcv hcl ?_
      refine lv_astore (lv' := [(4, .ref q9), (0, .ref o), (1, .int x1), (2, .int x2), (3, .ref q)]) hx hb dL_count_17 hl (by decide) rfl (fun ls hl => ?_)
      refine lv_iconst (v := 2) hx hb dL_count_19 (by decide) ?_
      exact mb_ri (S := mb_bs × (Nat → Int64)) (wf := fun u => wO Y q u.2 ++ wB Y o a aa u.1) C.1 rfl (u := (u, f)) ⟨2, 0, by decide, rfl, hF, fun h => absurd h (by decide)⟩ hP hD hS dL_count_20 (Nat.le_of_ble_eq_true rfl) (Nat.le_of_ble_eq_true rfl)
  · refine lv_i2l (v := r.toInt64) hx hb dL_count_8 rfl ?_
    refine va_last hx hb hK hP hD hS 0 2 rfl rfl mb_in01 dL_count_9 (fun H locs hP hD hS => ?_)
    refine lv_goto (tgt := 21) hx hb dL_count_10 (by decide) ?_
    refine lv_iconst (v := 0) hx hb dL_count_21 (by decide) ?_
    exact mb_ri (S := mb_bs × (Nat → Int64)) (wf := fun u => wO Y q u.2 ++ wB Y o a aa u.1) C.1 rfl (u := (u, vp_updL f 0 (r.toInt64))) ⟨0, r, by decide, rfl, hF, fun _ => rfl⟩ hP hD hS dL_count_22 (Nat.le_of_ble_eq_true rfl) (Nat.le_of_ble_eq_true rfl)
set_option maxHeartbeats 4000000 in
set_option maxRecDepth 100000 in
theorem cw_pageAt (l : Launch) (hl0 : l.stackTraces = false) (D : va_G) (Y : Nat → ClassId) (N : Nat) (o : Nat) (a aa : Nat → Nat) (b : mb_bs) (q : Nat) (f : Nat → Int64) (sz : Nat) (x1 x2 x3 x4 : Int32) (P : Int → Int32 → mb_bs → Prop) (hF : BP_pageAt N b.1 b.2.1 b.2.2.1 b.2.2.2.1 b.2.2.2.2.1 b.2.2.2.2.2.1 b.2.2.2.2.2.2.1 b.2.2.2.2.2.2.2 x1 x2 x3 x4 (fun r b => P 0 r b) (fun E b => (E = eA ∧ P 1 0 b))) : Met l yL_pageAt wsL_pageAt ({ frames := 8, cells := 2, slots := 12, locals := 160 } : Room) (va_Pc [.ref o, .int x1, .int x2, .int x3, .int x4, .ref q] (mb_BL D Y (wO Y q f ++ wB Y o a aa b) sz)) (va_Qi (mb_PW P) (fun u t => mb_T D (va_A (wO Y q f ++ wB Y o a aa b) sz) (wO Y q u.2 ++ wB Y o a aa u.1) t) (va_A (wO Y q f ++ wB Y o a aa b) sz)) 2 12 (va_A (wO Y q f ++ wB Y o a aa b) sz) := by
  refine mbl_begin (cc := cL_pageAt) (maxL := 7) (ret := some .int) (hh := [(0, 14, 17, 15)]) hl0 (by decide +kernel) rfl (Nat.le_of_ble_eq_true rfl) ?_
  intro p e s m below meth c ls C hsz hP hD hl
  generalize hAe : va_A (wO Y q f ++ wB Y o a aa b) sz = A at C hD ⊢
  have C : mb_CL l p s m meth c ([.ref o, .int x1, .int x2, .int x3, .int x4, .ref q] : List Value).toArray cL_pageAt 7 (some .int) wsL_pageAt RL D Y A [(0, 14, 17, 15)] := C
  obtain ⟨⟨hx, hb, hr, hml, hts, hown, hlocks, hA, hG⟩, hT, hX, hl0, hN⟩ := id C
  have hK := hG.1
  have hS : va_S A s.heap s.heap [] := va_S.rf
  have hl : lv_has ls 7 [(0, .ref o), (1, .int x1), (2, .int x2), (3, .int x3), (4, .int x4), (5, .ref q)] := hl
  refine lv_aload hx hb dL_pageAt_0 (lv_at hl 5 rfl) ?_
  refine lv_iconst (v := 0) hx hb dL_pageAt_2 (by decide) ?_
  refine lv_aload_n hx hb dL_pageAt_3 rfl (lv_at hl 0 rfl) ?_
  refine lv_iload_n hx hb dL_pageAt_4 rfl (lv_at hl 1 rfl) ?_
  refine lv_iload_n hx hb dL_pageAt_5 rfl (lv_at hl 2 rfl) ?_
  refine lv_iload_n hx hb dL_pageAt_6 rfl (lv_at hl 3 rfl) ?_
  refine lv_iload hx hb dL_pageAt_7 (lv_at hl 4 rfl) ?_
  refine mbl_cW (wf := fun u : mb_bs => wO Y q f ++ wB Y o a aa u) C hD hS (vx_runV (As := [.int x1, .int x2, .int x3, .int x4]) (rest := [.int 0, .ref q]) ⟨hx, hb, hml, hown, hts⟩ (mbx_fr (W := wO Y q f ++ wB Y o a aa b) (wr := wO Y q f) (WF := fun u : mb_bs => wO Y q f ++ wB Y o a aa u) (fun u => u) (fun u => u) List.perm_append_comm (fun u => List.perm_append_comm) (fun u => List.perm_append_comm) (fun _ _ h => h) (fun _ _ h => h) (cf_pageAt l hl0 D Y N o a aa _ _ _ _ _ _ _ _ _ x1 x2 x3 x4 _ _ hF)) (cwV 4 hts gL_pageAt_X7_pageAt rfl rfl rfl (by decide +kernel) ⟨(Nat.le_of_ble_eq_true rfl), (Nat.le_of_ble_eq_true rfl)⟩) (mbl_preV C hP hD hS 1 rfl rfl) rfl rfl hl.1 rfl (lv_room (Nat.le_of_ble_eq_true rfl)) dL_pageAt_9 ⟨(Nat.le_of_ble_eq_true rfl), (Nat.le_of_ble_eq_true rfl)⟩) (fun E ce q9 u H locs hF hP hD hS hce hcv hcl => ?_) (fun r u H locs hF hP hD hS => ?_)
  · obtain ⟨rfl, hF⟩ := hF
    refine vx_catch (own := RL) (name := "java/lang/IllegalArgumentException") hown [] ⟨0, 14, 17, 15⟩ [] (by rw [hT]; rfl) (fun z h => absurd h List.not_mem_nil) rfl (by decide) (hts (.classLink RL 15 "java/lang/IllegalArgumentException") (List.mem_of_getElem? (i := 1) rfl)) (va_Nw.use rfl (hG.2.1 _ (List.mem_of_getElem? (i := 28) rfl))) hce hcv hcl ?_
    refine lv_astore (lv' := [(6, .ref q9), (0, .ref o), (1, .int x1), (2, .int x2), (3, .int x3), (4, .int x4), (5, .ref q)]) hx hb dL_pageAt_17 hl (by decide) rfl (fun ls hl => ?_)
    refine lv_iconst (v := 1) hx hb dL_pageAt_19 (by decide) ?_
    exact mb_ri (S := mb_bs × (Nat → Int64)) (wf := fun u => wO Y q u.2 ++ wB Y o a aa u.1) C.1 rfl (u := (u, f)) ⟨1, 0, by decide, rfl, hF, fun h => absurd h (by decide)⟩ hP hD hS dL_pageAt_20 (Nat.le_of_ble_eq_true rfl) (Nat.le_of_ble_eq_true rfl)
  · refine lv_i2l (v := r.toInt64) hx hb dL_pageAt_12 rfl ?_
    refine va_last hx hb hK hP hD hS 0 2 rfl rfl mb_in01 dL_pageAt_13 (fun H locs hP hD hS => ?_)
    refine lv_goto (tgt := 21) hx hb dL_pageAt_14 (by decide) ?_
    refine lv_iconst (v := 0) hx hb dL_pageAt_21 (by decide) ?_
    exact mb_ri (S := mb_bs × (Nat → Int64)) (wf := fun u => wO Y q u.2 ++ wB Y o a aa u.1) C.1 rfl (u := (u, vp_updL f 0 (r.toInt64))) ⟨0, r, by decide, rfl, hF, fun _ => rfl⟩ hP hD hS dL_pageAt_22 (Nat.le_of_ble_eq_true rfl) (Nat.le_of_ble_eq_true rfl)
set_option maxHeartbeats 4000000 in
set_option maxRecDepth 100000 in
theorem cw_placeOf (l : Launch) (hl0 : l.stackTraces = false) (D : va_G) (Y : Nat → ClassId) (N : Nat) (o : Nat) (a aa : Nat → Nat) (b : mb_bs) (q : Nat) (f : Nat → Int64) (sz : Nat) (x1 x2 : Int32) (P : Int → Int32 → mb_bs → Prop) (hF : BP_placeOf N b.1 b.2.1 b.2.2.1 b.2.2.2.1 b.2.2.2.2.1 b.2.2.2.2.2.1 b.2.2.2.2.2.2.1 b.2.2.2.2.2.2.2 x1 x2 (fun r b => P 0 r b) (fun E b => (E = eA ∧ P 1 0 b))) : Met l yL_placeOf wsL_placeOf ({ frames := 8, cells := 2, slots := 12, locals := 160 } : Room) (va_Pc [.ref o, .int x1, .int x2, .ref q] (mb_BL D Y (wO Y q f ++ wB Y o a aa b) sz)) (va_Qi (mb_PW P) (fun u t => mb_T D (va_A (wO Y q f ++ wB Y o a aa b) sz) (wO Y q u.2 ++ wB Y o a aa u.1) t) (va_A (wO Y q f ++ wB Y o a aa b) sz)) 2 12 (va_A (wO Y q f ++ wB Y o a aa b) sz) := by
  refine mbl_begin (cc := cL_placeOf) (maxL := 5) (ret := some .int) (hh := [(0, 10, 13, 15)]) hl0 (by decide +kernel) rfl (Nat.le_of_ble_eq_true rfl) ?_
  intro p e s m below meth c ls C hsz hP hD hl
  generalize hAe : va_A (wO Y q f ++ wB Y o a aa b) sz = A at C hD ⊢
  have C : mb_CL l p s m meth c ([.ref o, .int x1, .int x2, .ref q] : List Value).toArray cL_placeOf 5 (some .int) wsL_placeOf RL D Y A [(0, 10, 13, 15)] := C
  obtain ⟨⟨hx, hb, hr, hml, hts, hown, hlocks, hA, hG⟩, hT, hX, hl0, hN⟩ := id C
  have hK := hG.1
  have hS : va_S A s.heap s.heap [] := va_S.rf
  have hl : lv_has ls 5 [(0, .ref o), (1, .int x1), (2, .int x2), (3, .ref q)] := hl
  refine lv_aload_n hx hb dL_placeOf_0 rfl (lv_at hl 3 rfl) ?_
  refine lv_iconst (v := 0) hx hb dL_placeOf_1 (by decide) ?_
  refine lv_aload_n hx hb dL_placeOf_2 rfl (lv_at hl 0 rfl) ?_
  refine lv_iload_n hx hb dL_placeOf_3 rfl (lv_at hl 1 rfl) ?_
  refine lv_iload_n hx hb dL_placeOf_4 rfl (lv_at hl 2 rfl) ?_
  refine mbl_cW (wf := fun u : mb_bs => wO Y q f ++ wB Y o a aa u) C hD hS (vx_runV (As := [.int x1, .int x2]) (rest := [.int 0, .ref q]) ⟨hx, hb, hml, hown, hts⟩ (mbx_fr (W := wO Y q f ++ wB Y o a aa b) (wr := wO Y q f) (WF := fun u : mb_bs => wO Y q f ++ wB Y o a aa u) (fun u => u) (fun u => u) List.perm_append_comm (fun u => List.perm_append_comm) (fun u => List.perm_append_comm) (fun _ _ h => h) (fun _ _ h => h) (cf_placeOf l hl0 D Y N o a aa _ _ _ _ _ _ _ _ _ x1 x2 _ _ hF)) (cwV 2 hts gL_placeOf_X7_placeOf rfl rfl rfl (by decide +kernel) ⟨(Nat.le_of_ble_eq_true rfl), (Nat.le_of_ble_eq_true rfl)⟩) (mbl_preV C hP hD hS 1 rfl rfl) rfl rfl hl.1 rfl (lv_room (Nat.le_of_ble_eq_true rfl)) dL_placeOf_5 ⟨(Nat.le_of_ble_eq_true rfl), (Nat.le_of_ble_eq_true rfl)⟩) (fun E ce q9 u H locs hF hP hD hS hce hcv hcl => ?_) (fun r u H locs hF hP hD hS => ?_)
  · obtain ⟨rfl, hF⟩ := hF
    refine vx_catch (own := RL) (name := "java/lang/IllegalArgumentException") hown [] ⟨0, 10, 13, 15⟩ [] (by rw [hT]; rfl) (fun z h => absurd h List.not_mem_nil) rfl (by decide) (hts (.classLink RL 15 "java/lang/IllegalArgumentException") (List.mem_of_getElem? (i := 1) rfl)) (va_Nw.use rfl (hG.2.1 _ (List.mem_of_getElem? (i := 28) rfl))) hce hcv hcl ?_
    refine lv_astore (lv' := [(4, .ref q9), (0, .ref o), (1, .int x1), (2, .int x2), (3, .ref q)]) hx hb dL_placeOf_13 hl (by decide) rfl (fun ls hl => ?_)
    refine lv_iconst (v := 1) hx hb dL_placeOf_15 (by decide) ?_
    exact mb_ri (S := mb_bs × (Nat → Int64)) (wf := fun u => wO Y q u.2 ++ wB Y o a aa u.1) C.1 rfl (u := (u, f)) ⟨1, 0, by decide, rfl, hF, fun h => absurd h (by decide)⟩ hP hD hS dL_placeOf_16 (Nat.le_of_ble_eq_true rfl) (Nat.le_of_ble_eq_true rfl)
  · refine lv_i2l (v := r.toInt64) hx hb dL_placeOf_8 rfl ?_
    refine va_last hx hb hK hP hD hS 0 2 rfl rfl mb_in01 dL_placeOf_9 (fun H locs hP hD hS => ?_)
    refine lv_goto (tgt := 17) hx hb dL_placeOf_10 (by decide) ?_
    refine lv_iconst (v := 0) hx hb dL_placeOf_17 (by decide) ?_
    exact mb_ri (S := mb_bs × (Nat → Int64)) (wf := fun u => wO Y q u.2 ++ wB Y o a aa u.1) C.1 rfl (u := (u, vp_updL f 0 (r.toInt64))) ⟨0, r, by decide, rfl, hF, fun _ => rfl⟩ hP hD hS dL_placeOf_18 (Nat.le_of_ble_eq_true rfl) (Nat.le_of_ble_eq_true rfl)
set_option maxHeartbeats 4000000 in
set_option maxRecDepth 100000 in
theorem cw_book (l : Launch) (hl0 : l.stackTraces = false) (D : va_G) (Y : Nat → ClassId) (N : Nat) (o : Nat) (a aa : Nat → Nat) (b : mb_bs) (q : Nat) (f : Nat → Int64) (sz : Nat) (x1 x2 x3 x4 x5 : Int32) (P : Int → Int32 → mb_bs → Prop) (hF : BP_book N b.1 b.2.1 b.2.2.1 b.2.2.2.1 b.2.2.2.2.1 b.2.2.2.2.2.1 b.2.2.2.2.2.2.1 b.2.2.2.2.2.2.2 x1 x2 x3 x4 x5 (fun r b => P 0 r b) (fun E b => (E = eA ∧ P 1 0 b) ∨ (E = eS ∧ P 2 0 b))) : Met l yL_book wsL_book ({ frames := 8, cells := 14, slots := 369, locals := 160 } : Room) (va_Pc [.ref o, .int x1, .int x2, .int x3, .int x4, .int x5, .ref q] (mb_BL D Y (wO Y q f ++ wB Y o a aa b) sz)) (va_Qi (mb_PW P) (fun u t => mb_T D (va_A (wO Y q f ++ wB Y o a aa b) sz) (wO Y q u.2 ++ wB Y o a aa u.1) t) (va_A (wO Y q f ++ wB Y o a aa b) sz)) 14 369 (va_A (wO Y q f ++ wB Y o a aa b) sz) := by
  refine mbl_begin (cc := cL_book) (maxL := 8) (ret := some .int) (hh := [(0, 16, 19, 15), (0, 16, 23, 25)]) hl0 (by decide +kernel) rfl (Nat.le_of_ble_eq_true rfl) ?_
  intro p e s m below meth c ls C hsz hP hD hl
  generalize hAe : va_A (wO Y q f ++ wB Y o a aa b) sz = A at C hD ⊢
  have C : mb_CL l p s m meth c ([.ref o, .int x1, .int x2, .int x3, .int x4, .int x5, .ref q] : List Value).toArray cL_book 8 (some .int) wsL_book RL D Y A [(0, 16, 19, 15), (0, 16, 23, 25)] := C
  obtain ⟨⟨hx, hb, hr, hml, hts, hown, hlocks, hA, hG⟩, hT, hX, hl0, hN⟩ := id C
  have hK := hG.1
  have hS : va_S A s.heap s.heap [] := va_S.rf
  have hl : lv_has ls 8 [(0, .ref o), (1, .int x1), (2, .int x2), (3, .int x3), (4, .int x4), (5, .int x5), (6, .ref q)] := hl
  refine lv_aload hx hb dL_book_0 (lv_at hl 6 rfl) ?_
  refine lv_iconst (v := 0) hx hb dL_book_2 (by decide) ?_
  refine lv_aload_n hx hb dL_book_3 rfl (lv_at hl 0 rfl) ?_
  refine lv_iload_n hx hb dL_book_4 rfl (lv_at hl 1 rfl) ?_
  refine lv_iload_n hx hb dL_book_5 rfl (lv_at hl 2 rfl) ?_
  refine lv_iload_n hx hb dL_book_6 rfl (lv_at hl 3 rfl) ?_
  refine lv_iload hx hb dL_book_7 (lv_at hl 4 rfl) ?_
  refine lv_iload hx hb dL_book_9 (lv_at hl 5 rfl) ?_
  refine mbl_cW (wf := fun u : mb_bs => wO Y q f ++ wB Y o a aa u) C hD hS (vx_runV (As := [.int x1, .int x2, .int x3, .int x4, .int x5]) (rest := [.int 0, .ref q]) ⟨hx, hb, hml, hown, hts⟩ (mbx_fr (W := wO Y q f ++ wB Y o a aa b) (wr := wO Y q f) (WF := fun u : mb_bs => wO Y q f ++ wB Y o a aa u) (fun u => u) (fun u => u) List.perm_append_comm (fun u => List.perm_append_comm) (fun u => List.perm_append_comm) (fun _ _ h => h) (fun _ _ h => h) (cf_book l hl0 D Y N o a aa _ _ _ _ _ _ _ _ _ x1 x2 x3 x4 x5 _ _ hF)) (cwV 5 hts gL_book_X7_book rfl rfl rfl (by decide +kernel) ⟨(Nat.le_of_ble_eq_true rfl), (Nat.le_of_ble_eq_true rfl)⟩) (mbl_preV C hP hD hS 1 rfl rfl) rfl rfl hl.1 rfl (lv_room (Nat.le_of_ble_eq_true rfl)) dL_book_11 ⟨(Nat.le_of_ble_eq_true rfl), (Nat.le_of_ble_eq_true rfl)⟩) (fun E ce q9 u H locs hF hP hD hS hce hcv hcl => ?_) (fun r u H locs hF hP hD hS => ?_)
  · rcases hF with ⟨rfl, hF⟩ | ⟨rfl, hF⟩
    · refine vx_catch (own := RL) (name := "java/lang/IllegalArgumentException") hown [] ⟨0, 16, 19, 15⟩ [⟨0, 16, 23, 25⟩] (by rw [hT]; rfl) (fun z h => absurd h List.not_mem_nil) rfl (by decide) (hts (.classLink RL 15 "java/lang/IllegalArgumentException") (List.mem_of_getElem? (i := 1) rfl)) (va_Nw.use rfl (hG.2.1 _ (List.mem_of_getElem? (i := 28) rfl))) hce hcv hcl ?_
      refine lv_astore (lv' := [(7, .ref q9), (0, .ref o), (1, .int x1), (2, .int x2), (3, .int x3), (4, .int x4), (5, .int x5), (6, .ref q)]) hx hb dL_book_19 hl (by decide) rfl (fun ls hl => ?_)
      refine lv_iconst (v := 1) hx hb dL_book_21 (by decide) ?_
      exact mb_ri (S := mb_bs × (Nat → Int64)) (wf := fun u => wO Y q u.2 ++ wB Y o a aa u.1) C.1 rfl (u := (u, f)) ⟨1, 0, by decide, rfl, hF, fun h => absurd h (by decide)⟩ hP hD hS dL_book_22 (Nat.le_of_ble_eq_true rfl) (Nat.le_of_ble_eq_true rfl)
    · refine vx_catch (own := RL) (name := "java/lang/IllegalStateException") hown [⟨0, 16, 19, 15⟩] ⟨0, 16, 23, 25⟩ [] (by rw [hT]; rfl) (fun z h => by
        simp only [List.mem_cons, List.not_mem_nil, or_false] at h
        rcases h with rfl
        · exact Or.inr ⟨by decide, _, (hts (.classLink RL 15 "java/lang/IllegalArgumentException") (List.mem_of_getElem? (i := 1) rfl)), hN.2.2⟩) rfl (by decide) (hts (.classLink RL 25 "java/lang/IllegalStateException") (List.mem_of_getElem? (i := 2) rfl)) (va_Nw.use rfl (hG.2.1 _ (List.mem_of_getElem? (i := 29) rfl))) hce hcv hcl ?_
      refine lv_astore (lv' := [(7, .ref q9), (0, .ref o), (1, .int x1), (2, .int x2), (3, .int x3), (4, .int x4), (5, .int x5), (6, .ref q)]) hx hb dL_book_23 hl (by decide) rfl (fun ls hl => ?_)
      refine lv_iconst (v := 2) hx hb dL_book_25 (by decide) ?_
      exact mb_ri (S := mb_bs × (Nat → Int64)) (wf := fun u => wO Y q u.2 ++ wB Y o a aa u.1) C.1 rfl (u := (u, f)) ⟨2, 0, by decide, rfl, hF, fun h => absurd h (by decide)⟩ hP hD hS dL_book_26 (Nat.le_of_ble_eq_true rfl) (Nat.le_of_ble_eq_true rfl)
  · refine lv_i2l (v := r.toInt64) hx hb dL_book_14 rfl ?_
    refine va_last hx hb hK hP hD hS 0 2 rfl rfl mb_in01 dL_book_15 (fun H locs hP hD hS => ?_)
    refine lv_goto (tgt := 27) hx hb dL_book_16 (by decide) ?_
    refine lv_iconst (v := 0) hx hb dL_book_27 (by decide) ?_
    exact mb_ri (S := mb_bs × (Nat → Int64)) (wf := fun u => wO Y q u.2 ++ wB Y o a aa u.1) C.1 rfl (u := (u, vp_updL f 0 (r.toInt64))) ⟨0, r, by decide, rfl, hF, fun _ => rfl⟩ hP hD hS dL_book_28 (Nat.le_of_ble_eq_true rfl) (Nat.le_of_ble_eq_true rfl)
set_option maxHeartbeats 4000000 in
set_option maxRecDepth 100000 in
theorem cw_sew (l : Launch) (hl0 : l.stackTraces = false) (D : va_G) (Y : Nat → ClassId) (N : Nat) (o : Nat) (a aa : Nat → Nat) (b : mb_bs) (q : Nat) (f : Nat → Int64) (sz : Nat) (x1 x2 : Int32) (P : Int → Int32 → mb_bs → Prop) (hF : BP_sew N b.1 b.2.1 b.2.2.1 b.2.2.2.1 b.2.2.2.2.1 b.2.2.2.2.2.1 b.2.2.2.2.2.2.1 b.2.2.2.2.2.2.2 x1 x2 (fun r b => P 0 r b) (fun E b => (E = eO ∧ P 1 0 b) ∨ (E = eA ∧ P 2 0 b) ∨ (E = eS ∧ P 3 0 b))) : Met l yL_sew wsL_sew ({ frames := 8, cells := 3, slots := 18, locals := 160 } : Room) (va_Pc [.ref o, .int x1, .int x2, .ref q] (mb_BL D Y (wO Y q f ++ wB Y o a aa b) sz)) (va_Qi (mb_PW P) (fun u t => mb_T D (va_A (wO Y q f ++ wB Y o a aa b) sz) (wO Y q u.2 ++ wB Y o a aa u.1) t) (va_A (wO Y q f ++ wB Y o a aa b) sz)) 3 18 (va_A (wO Y q f ++ wB Y o a aa b) sz) := by
  refine mbl_begin (cc := cL_sew) (maxL := 5) (ret := some .int) (hh := [(0, 10, 13, 13), (0, 10, 17, 15), (0, 10, 21, 25)]) hl0 (by decide +kernel) rfl (Nat.le_of_ble_eq_true rfl) ?_
  intro p e s m below meth c ls C hsz hP hD hl
  generalize hAe : va_A (wO Y q f ++ wB Y o a aa b) sz = A at C hD ⊢
  have C : mb_CL l p s m meth c ([.ref o, .int x1, .int x2, .ref q] : List Value).toArray cL_sew 5 (some .int) wsL_sew RL D Y A [(0, 10, 13, 13), (0, 10, 17, 15), (0, 10, 21, 25)] := C
  obtain ⟨⟨hx, hb, hr, hml, hts, hown, hlocks, hA, hG⟩, hT, hX, hl0, hN⟩ := id C
  have hK := hG.1
  have hS : va_S A s.heap s.heap [] := va_S.rf
  have hl : lv_has ls 5 [(0, .ref o), (1, .int x1), (2, .int x2), (3, .ref q)] := hl
  refine lv_aload_n hx hb dL_sew_0 rfl (lv_at hl 3 rfl) ?_
  refine lv_iconst (v := 0) hx hb dL_sew_1 (by decide) ?_
  refine lv_aload_n hx hb dL_sew_2 rfl (lv_at hl 0 rfl) ?_
  refine lv_iload_n hx hb dL_sew_3 rfl (lv_at hl 1 rfl) ?_
  refine lv_iload_n hx hb dL_sew_4 rfl (lv_at hl 2 rfl) ?_
  refine mbl_cW (wf := fun u : mb_bs => wO Y q f ++ wB Y o a aa u) C hD hS (vx_runV (As := [.int x1, .int x2]) (rest := [.int 0, .ref q]) ⟨hx, hb, hml, hown, hts⟩ (mbx_fr (W := wO Y q f ++ wB Y o a aa b) (wr := wO Y q f) (WF := fun u : mb_bs => wO Y q f ++ wB Y o a aa u) (fun u => u) (fun u => u) List.perm_append_comm (fun u => List.perm_append_comm) (fun u => List.perm_append_comm) (fun _ _ h => h) (fun _ _ h => h) (cf_sew l hl0 D Y N o a aa _ _ _ _ _ _ _ _ _ x1 x2 _ _ hF)) (cwV 2 hts gL_sew_X7_sew rfl rfl rfl (by decide +kernel) ⟨(Nat.le_of_ble_eq_true rfl), (Nat.le_of_ble_eq_true rfl)⟩) (mbl_preV C hP hD hS 1 rfl rfl) rfl rfl hl.1 rfl (lv_room (Nat.le_of_ble_eq_true rfl)) dL_sew_5 ⟨(Nat.le_of_ble_eq_true rfl), (Nat.le_of_ble_eq_true rfl)⟩) (fun E ce q9 u H locs hF hP hD hS hce hcv hcl => ?_) (fun r u H locs hF hP hD hS => ?_)
  · rcases hF with ⟨rfl, hF⟩ | ⟨rfl, hF⟩ | ⟨rfl, hF⟩
    · refine vx_catch (own := RL) (name := "java/lang/IndexOutOfBoundsException") hown [] ⟨0, 10, 13, 13⟩ [⟨0, 10, 17, 15⟩, ⟨0, 10, 21, 25⟩] (by rw [hT]; rfl) (fun z h => absurd h List.not_mem_nil) rfl (by decide) (hts (.classLink RL 13 "java/lang/IndexOutOfBoundsException") (List.mem_of_getElem? (i := 1) rfl)) (va_Nw.use rfl (hG.2.1 _ (List.mem_of_getElem? (i := 27) rfl))) hce hcv hcl ?_
      refine lv_astore (lv' := [(4, .ref q9), (0, .ref o), (1, .int x1), (2, .int x2), (3, .ref q)]) hx hb dL_sew_13 hl (by decide) rfl (fun ls hl => ?_)
      refine lv_iconst (v := 1) hx hb dL_sew_15 (by decide) ?_
      exact mb_ri (S := mb_bs × (Nat → Int64)) (wf := fun u => wO Y q u.2 ++ wB Y o a aa u.1) C.1 rfl (u := (u, f)) ⟨1, 0, by decide, rfl, hF, fun h => absurd h (by decide)⟩ hP hD hS dL_sew_16 (Nat.le_of_ble_eq_true rfl) (Nat.le_of_ble_eq_true rfl)
    · refine vx_catch (own := RL) (name := "java/lang/IllegalArgumentException") hown [⟨0, 10, 13, 13⟩] ⟨0, 10, 17, 15⟩ [⟨0, 10, 21, 25⟩] (by rw [hT]; rfl) (fun z h => by
        simp only [List.mem_cons, List.not_mem_nil, or_false] at h
        rcases h with rfl
        · exact Or.inr ⟨by decide, _, (hts (.classLink RL 13 "java/lang/IndexOutOfBoundsException") (List.mem_of_getElem? (i := 1) rfl)), hN.1⟩) rfl (by decide) (hts (.classLink RL 15 "java/lang/IllegalArgumentException") (List.mem_of_getElem? (i := 2) rfl)) (va_Nw.use rfl (hG.2.1 _ (List.mem_of_getElem? (i := 28) rfl))) hce hcv hcl ?_
      refine lv_astore (lv' := [(4, .ref q9), (0, .ref o), (1, .int x1), (2, .int x2), (3, .ref q)]) hx hb dL_sew_17 hl (by decide) rfl (fun ls hl => ?_)
      refine lv_iconst (v := 2) hx hb dL_sew_19 (by decide) ?_
      exact mb_ri (S := mb_bs × (Nat → Int64)) (wf := fun u => wO Y q u.2 ++ wB Y o a aa u.1) C.1 rfl (u := (u, f)) ⟨2, 0, by decide, rfl, hF, fun h => absurd h (by decide)⟩ hP hD hS dL_sew_20 (Nat.le_of_ble_eq_true rfl) (Nat.le_of_ble_eq_true rfl)
    · refine vx_catch (own := RL) (name := "java/lang/IllegalStateException") hown [⟨0, 10, 13, 13⟩, ⟨0, 10, 17, 15⟩] ⟨0, 10, 21, 25⟩ [] (by rw [hT]; rfl) (fun z h => by
        simp only [List.mem_cons, List.not_mem_nil, or_false] at h
        rcases h with rfl | rfl
        · exact Or.inr ⟨by decide, _, (hts (.classLink RL 13 "java/lang/IndexOutOfBoundsException") (List.mem_of_getElem? (i := 1) rfl)), hN.2.1⟩
        · exact Or.inr ⟨by decide, _, (hts (.classLink RL 15 "java/lang/IllegalArgumentException") (List.mem_of_getElem? (i := 2) rfl)), hN.2.2⟩) rfl (by decide) (hts (.classLink RL 25 "java/lang/IllegalStateException") (List.mem_of_getElem? (i := 3) rfl)) (va_Nw.use rfl (hG.2.1 _ (List.mem_of_getElem? (i := 29) rfl))) hce hcv hcl ?_
      refine lv_astore (lv' := [(4, .ref q9), (0, .ref o), (1, .int x1), (2, .int x2), (3, .ref q)]) hx hb dL_sew_21 hl (by decide) rfl (fun ls hl => ?_)
      refine lv_iconst (v := 3) hx hb dL_sew_23 (by decide) ?_
      exact mb_ri (S := mb_bs × (Nat → Int64)) (wf := fun u => wO Y q u.2 ++ wB Y o a aa u.1) C.1 rfl (u := (u, f)) ⟨3, 0, by decide, rfl, hF, fun h => absurd h (by decide)⟩ hP hD hS dL_sew_24 (Nat.le_of_ble_eq_true rfl) (Nat.le_of_ble_eq_true rfl)
  · refine lv_i2l (v := r.toInt64) hx hb dL_sew_8 rfl ?_
    refine va_last hx hb hK hP hD hS 0 2 rfl rfl mb_in01 dL_sew_9 (fun H locs hP hD hS => ?_)
    refine lv_goto (tgt := 25) hx hb dL_sew_10 (by decide) ?_
    refine lv_iconst (v := 0) hx hb dL_sew_25 (by decide) ?_
    exact mb_ri (S := mb_bs × (Nat → Int64)) (wf := fun u => wO Y q u.2 ++ wB Y o a aa u.1) C.1 rfl (u := (u, vp_updL f 0 (r.toInt64))) ⟨0, r, by decide, rfl, hF, fun _ => rfl⟩ hP hD hS dL_sew_26 (Nat.le_of_ble_eq_true rfl) (Nat.le_of_ble_eq_true rfl)
