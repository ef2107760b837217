set_option maxHeartbeats 4000000 in
set_option maxRecDepth 100000 in
theorem cw_unsew (l : Launch) (hl0 : l.stackTraces = false) (D : va_G) (Y : Nat → ClassId) (N : Nat) (o : Nat) (a aa : Nat → Nat) (b : mb_bs) (q : Nat) (f : Nat → Int64) (sz : Nat) (x1 x2 : Int32) (P : Int → Int32 → mb_bs → Prop) (hF : BP_unsew N b.1 b.2.1 b.2.2.1 b.2.2.2.1 b.2.2.2.2.1 b.2.2.2.2.2.1 b.2.2.2.2.2.2.1 b.2.2.2.2.2.2.2 x1 x2 (fun r b => P 0 r b) (fun E b => (E = eO ∧ P 1 0 b) ∨ (E = eA ∧ P 2 0 b) ∨ (E = eS ∧ P 3 0 b))) : Met l yL_unsew wsL_unsew ({ frames := 8, cells := 3, slots := 18, locals := 160 } : Room) (va_Pc [.ref o, .int x1, .int x2, .ref q] (mb_BL D Y (wO Y q f ++ wB Y o a aa b) sz)) (va_Qi (mb_PW P) (fun u t => mb_T D (va_A (wO Y q f ++ wB Y o a aa b) sz) (wO Y q u.2 ++ wB Y o a aa u.1) t) (va_A (wO Y q f ++ wB Y o a aa b) sz)) 3 18 (va_A (wO Y q f ++ wB Y o a aa b) sz) := by
  refine mbl_begin (cc := cL_unsew) (maxL := 5) (ret := some .int) (hh := [(0, 10, 13, 13), (0, 10, 17, 15), (0, 10, 21, 25)]) hl0 (by decide +kernel) rfl (Nat.le_of_ble_eq_true rfl) ?_
  intro p e s m below meth c ls C hsz hP hD hl
  generalize hAe : va_A (wO Y q f ++ wB Y o a aa b) sz = A at C hD ⊢
  have C : mb_CL l p s m meth c ([.ref o, .int x1, .int x2, .ref q] : List Value).toArray cL_unsew 5 (some .int) wsL_unsew RL D Y A [(0, 10, 13, 13), (0, 10, 17, 15), (0, 10, 21, 25)] := C
  obtain ⟨⟨hx, hb, hr, hml, hts, hown, hlocks, hA, hG⟩, hT, hX, hl0, hN⟩ := id C
  have hK := hG.1
  have hS : va_S A s.heap s.heap [] := va_S.rf
  have hl : lv_has ls 5 [(0, .ref o), (1, .int x1), (2, .int x2), (3, .ref q)] := hl
  refine lv_aload_n hx hb dL_unsew_0 rfl (lv_at hl 3 rfl) ?_
  refine lv_iconst (v := 0) hx hb dL_unsew_1 (by decide) ?_
  refine lv_aload_n hx hb dL_unsew_2 rfl (lv_at hl 0 rfl) ?_
  refine lv_iload_n hx hb dL_unsew_3 rfl (lv_at hl 1 rfl) ?_
  refine lv_iload_n hx hb dL_unsew_4 rfl (lv_at hl 2 rfl) ?_
  refine mbl_cW (wf := fun u : mb_bs => wO Y q f ++ wB Y o a aa u) C hD hS (vx_runV (As := [.int x1, .int x2]) (rest := [.int 0, .ref q]) ⟨hx, hb, hml, hown, hts⟩ (mbx_fr (W := wO Y q f ++ wB Y o a aa b) (wr := wO Y q f) (WF := fun u : mb_bs => wO Y q f ++ wB Y o a aa u) (fun u => u) (fun u => u) List.perm_append_comm (fun u => List.perm_append_comm) (fun u => List.perm_append_comm) (fun _ _ h => h) (fun _ _ h => h) (cf_unsew l hl0 D Y N o a aa _ _ _ _ _ _ _ _ _ x1 x2 _ _ hF)) (cwV 2 hts gL_unsew_X7_unsew rfl rfl rfl (by decide +kernel) ⟨(Nat.le_of_ble_eq_true rfl), (Nat.le_of_ble_eq_true rfl)⟩) (mbl_preV C hP hD hS 1 rfl rfl) rfl rfl hl.1 rfl (lv_room (Nat.le_of_ble_eq_true rfl)) dL_unsew_5 ⟨(Nat.le_of_ble_eq_true rfl), (Nat.le_of_ble_eq_true rfl)⟩) (fun E ce q9 u H locs hF hP hD hS hce hcv hcl => ?_) (fun r u H locs hF hP hD hS => ?_)
  · rcases hF with ⟨rfl, hF⟩ | ⟨rfl, hF⟩ | ⟨rfl, hF⟩
    · refine vx_catch (own := RL) (name := "java/lang/IndexOutOfBoundsException") hown [] ⟨0, 10, 13, 13⟩ [⟨0, 10, 17, 15⟩, ⟨0, 10, 21, 25⟩] (by rw [hT]; rfl) (fun z h => absurd h List.not_mem_nil) rfl (by decide) (hts (.classLink RL 13 "java/lang/IndexOutOfBoundsException") (List.mem_of_getElem? (i := 1) rfl)) (va_Nw.use rfl (hG.2.1 _ (List.mem_of_getElem? (i := 27) rfl))) hce hcv hcl ?_
      refine lv_astore (lv' := [(4, .ref q9), (0, .ref o), (1, .int x1), (2, .int x2), (3, .ref q)]) hx hb dL_unsew_13 hl (by decide) rfl (fun ls hl => ?_)
      refine lv_iconst (v := 1) hx hb dL_unsew_15 (by decide) ?_
      exact mb_ri (S := mb_bs × (Nat → Int64)) (wf := fun u => wO Y q u.2 ++ wB Y o a aa u.1) C.1 rfl (u := (u, f)) ⟨1, 0, by decide, rfl, hF, fun h => absurd h (by decide)⟩ hP hD hS dL_unsew_16 (Nat.le_of_ble_eq_true rfl) (Nat.le_of_ble_eq_true rfl)
    · refine vx_catch (own := RL) (name := "java/lang/IllegalArgumentException") hown [⟨0, 10, 13, 13⟩] ⟨0, 10, 17, 15⟩ [⟨0, 10, 21, 25⟩] (by rw [hT]; rfl) (fun z h => by
        simp only [List.mem_cons, List.not_mem_nil, or_false] at h
        rcases h with rfl
        · exact Or.inr ⟨by decide, _, (hts (.classLink RL 13 "java/lang/IndexOutOfBoundsException") (List.mem_of_getElem? (i := 1) rfl)), hN.1⟩) rfl (by decide) (hts (.classLink RL 15 "java/lang/IllegalArgumentException") (List.mem_of_getElem? (i := 2) rfl)) (va_Nw.use rfl (hG.2.1 _ (List.mem_of_getElem? (i := 28) rfl))) hce hcv hcl ?_
      refine lv_astore (lv' := [(4, .ref q9), (0, .ref o), (1, .int x1), (2, .int x2), (3, .ref q)]) hx hb dL_unsew_17 hl (by decide) rfl (fun ls hl => ?_)
      refine lv_iconst (v := 2) hx hb dL_unsew_19 (by decide) ?_
      exact mb_ri (S := mb_bs × (Nat → Int64)) (wf := fun u => wO Y q u.2 ++ wB Y o a aa u.1) C.1 rfl (u := (u, f)) ⟨2, 0, by decide, rfl, hF, fun h => absurd h (by decide)⟩ hP hD hS dL_unsew_20 (Nat.le_of_ble_eq_true rfl) (Nat.le_of_ble_eq_true rfl)
    · refine vx_catch (own := RL) (name := "java/lang/IllegalStateException") hown [⟨0, 10, 13, 13⟩, ⟨0, 10, 17, 15⟩] ⟨0, 10, 21, 25⟩ [] (by rw [hT]; rfl) (fun z h => by
        simp only [List.mem_cons, List.not_mem_nil, or_false] at h
        rcases h with rfl | rfl
        · exact Or.inr ⟨by decide, _, (hts (.classLink RL 13 "java/lang/IndexOutOfBoundsException") (List.mem_of_getElem? (i := 1) rfl)), hN.2.1⟩
        · exact Or.inr ⟨by decide, _, (hts (.classLink RL 15 "java/lang/IllegalArgumentException") (List.mem_of_getElem? (i := 2) rfl)), hN.2.2⟩) rfl (by decide) (hts (.classLink RL 25 "java/lang/IllegalStateException") (List.mem_of_getElem? (i := 3) rfl)) (va_Nw.use rfl (hG.2.1 _ (List.mem_of_getElem? (i := 29) rfl))) hce hcv hcl ?_
      refine lv_astore (lv' := [(4, .ref q9), (0, .ref o), (1, .int x1), (2, .int x2), (3, .ref q)]) hx hb dL_unsew_21 hl (by decide) rfl (fun ls hl => ?_)
      refine lv_iconst (v := 3) hx hb dL_unsew_23 (by decide) ?_
      exact mb_ri (S := mb_bs × (Nat → Int64)) (wf := fun u => wO Y q u.2 ++ wB Y o a aa u.1) C.1 rfl (u := (u, f)) ⟨3, 0, by decide, rfl, hF, fun h => absurd h (by decide)⟩ hP hD hS dL_unsew_24 (Nat.le_of_ble_eq_true rfl) (Nat.le_of_ble_eq_true rfl)
  · refine lv_i2l (v := r.toInt64) hx hb dL_unsew_8 rfl ?_
    refine va_last hx hb hK hP hD hS 0 2 rfl rfl mb_in01 dL_unsew_9 (fun H locs hP hD hS => ?_)
    refine lv_goto (tgt := 25) hx hb dL_unsew_10 (by decide) ?_
    refine lv_iconst (v := 0) hx hb dL_unsew_25 (by decide) ?_
    exact mb_ri (S := mb_bs × (Nat → Int64)) (wf := fun u => wO Y q u.2 ++ wB Y o a aa u.1) C.1 rfl (u := (u, vp_updL f 0 (r.toInt64))) ⟨0, r, by decide, rfl, hF, fun _ => rfl⟩ hP hD hS dL_unsew_26 (Nat.le_of_ble_eq_true rfl) (Nat.le_of_ble_eq_true rfl)
set_option maxHeartbeats 4000000 in
set_option maxRecDepth 100000 in
theorem cw_ofThread (l : Launch) (hl0 : l.stackTraces = false) (D : va_G) (Y : Nat → ClassId) (N : Nat) (o : Nat) (a aa : Nat → Nat) (b : mb_bs) (q : Nat) (f : Nat → Int64) (sz : Nat) (x1 x2 : Int32) (P : Int → Int32 → mb_bs → Prop) (hF : BP_ofThread N b.1 b.2.1 b.2.2.1 b.2.2.2.1 b.2.2.2.2.1 b.2.2.2.2.2.1 b.2.2.2.2.2.2.1 b.2.2.2.2.2.2.2 x1 x2 (fun r b => P 0 r b) (fun E b => (E = eO ∧ P 1 0 b) ∨ (E = eA ∧ P 2 0 b))) : Met l yL_ofThread wsL_ofThread ({ frames := 8, cells := 2, slots := 12, locals := 160 } : Room) (va_Pc [.ref o, .int x1, .int x2, .ref q] (mb_BL D Y (wO Y q f ++ wB Y o a aa b) sz)) (va_Qi (mb_PW P) (fun u t => mb_T D (va_A (wO Y q f ++ wB Y o a aa b) sz) (wO Y q u.2 ++ wB Y o a aa u.1) t) (va_A (wO Y q f ++ wB Y o a aa b) sz)) 2 12 (va_A (wO Y q f ++ wB Y o a aa b) sz) := by
  refine mbl_begin (cc := cL_ofThread) (maxL := 5) (ret := some .int) (hh := [(0, 10, 13, 13), (0, 10, 17, 15)]) hl0 (by decide +kernel) rfl (Nat.le_of_ble_eq_true rfl) ?_
  intro p e s m below meth c ls C hsz hP hD hl
  generalize hAe : va_A (wO Y q f ++ wB Y o a aa b) sz = A at C hD ⊢
  have C : mb_CL l p s m meth c ([.ref o, .int x1, .int x2, .ref q] : List Value).toArray cL_ofThread 5 (some .int) wsL_ofThread RL D Y A [(0, 10, 13, 13), (0, 10, 17, 15)] := C
  obtain ⟨⟨hx, hb, hr, hml, hts, hown, hlocks, hA, hG⟩, hT, hX, hl0, hN⟩ := id C
  have hK := hG.1
  have hS : va_S A s.heap s.heap [] := va_S.rf
  have hl : lv_has ls 5 [(0, .ref o), (1, .int x1), (2, .int x2), (3, .ref q)] := hl
  refine lv_aload_n hx hb dL_ofThread_0 rfl (lv_at hl 3 rfl) ?_
  refine lv_iconst (v := 0) hx hb dL_ofThread_1 (by decide) ?_
  refine lv_aload_n hx hb dL_ofThread_2 rfl (lv_at hl 0 rfl) ?_
  refine lv_iload_n hx hb dL_ofThread_3 rfl (lv_at hl 1 rfl) ?_
  refine lv_iload_n hx hb dL_ofThread_4 rfl (lv_at hl 2 rfl) ?_
  refine mbl_cW (wf := fun u : mb_bs => wO Y q f ++ wB Y o a aa u) C hD hS (vx_runV (As := [.int x1, .int x2]) (rest := [.int 0, .ref q]) ⟨hx, hb, hml, hown, hts⟩ (mbx_fr (W := wO Y q f ++ wB Y o a aa b) (wr := wO Y q f) (WF := fun u : mb_bs => wO Y q f ++ wB Y o a aa u) (fun u => u) (fun u => u) List.perm_append_comm (fun u => List.perm_append_comm) (fun u => List.perm_append_comm) (fun _ _ h => h) (fun _ _ h => h) (cf_ofThread l hl0 D Y N o a aa _ _ _ _ _ _ _ _ _ x1 x2 _ _ hF)) (cwV 2 hts gL_ofThread_X7_ofThread rfl rfl rfl (by decide +kernel) ⟨(Nat.le_of_ble_eq_true rfl), (Nat.le_of_ble_eq_true rfl)⟩) (mbl_preV C hP hD hS 1 rfl rfl) rfl rfl hl.1 rfl (lv_room (Nat.le_of_ble_eq_true rfl)) dL_ofThread_5 ⟨(Nat.le_of_ble_eq_true rfl), (Nat.le_of_ble_eq_true rfl)⟩) (fun E ce q9 u H locs hF hP hD hS hce hcv hcl => ?_) (fun r u H locs hF hP hD hS => ?_)
  · rcases hF with ⟨rfl, hF⟩ | ⟨rfl, hF⟩
    · refine vx_catch (own := RL) (name := "java/lang/IndexOutOfBoundsException") hown [] ⟨0, 10, 13, 13⟩ [⟨0, 10, 17, 15⟩] (by rw [hT]; rfl) (fun z h => absurd h List.not_mem_nil) rfl (by decide) (hts (.classLink RL 13 "java/lang/IndexOutOfBoundsException") (List.mem_of_getElem? (i := 1) rfl)) (va_Nw.use rfl (hG.2.1 _ (List.mem_of_getElem? (i := 27) rfl))) hce hcv hcl ?_
      refine lv_astore (lv' := [(4, .ref q9), (0, .ref o), (1, .int x1), (2, .int x2), (3, .ref q)]) hx hb dL_ofThread_13 hl (by decide) rfl (fun ls hl => ?_)
      refine lv_iconst (v := 1) hx hb dL_ofThread_15 (by decide) ?_
      exact mb_ri (S := mb_bs × (Nat → Int64)) (wf := fun u => wO Y q u.2 ++ wB Y o a aa u.1) C.1 rfl (u := (u, f)) ⟨1, 0, by decide, rfl, hF, fun h => absurd h (by decide)⟩ hP hD hS dL_ofThread_16 (Nat.le_of_ble_eq_true rfl) (Nat.le_of_ble_eq_true rfl)
    · refine vx_catch (own := RL) (name := "java/lang/IllegalArgumentException") hown [⟨0, 10, 13, 13⟩] ⟨0, 10, 17, 15⟩ [] (by rw [hT]; rfl) (fun z h => by
        simp only [List.mem_cons, List.not_mem_nil, or_false] at h
        rcases h with rfl
        · exact Or.inr ⟨by decide, _, (hts (.classLink RL 13 "java/lang/IndexOutOfBoundsException") (List.mem_of_getElem? (i := 1) rfl)), hN.1⟩) rfl (by decide) (hts (.classLink RL 15 "java/lang/IllegalArgumentException") (List.mem_of_getElem? (i := 2) rfl)) (va_Nw.use rfl (hG.2.1 _ (List.mem_of_getElem? (i := 28) rfl))) hce hcv hcl ?_
      refine lv_astore (lv' := [(4, .ref q9), (0, .ref o), (1, .int x1), (2, .int x2), (3, .ref q)]) hx hb dL_ofThread_17 hl (by decide) rfl (fun ls hl => ?_)
      refine lv_iconst (v := 2) hx hb dL_ofThread_19 (by decide) ?_
      exact mb_ri (S := mb_bs × (Nat → Int64)) (wf := fun u => wO Y q u.2 ++ wB Y o a aa u.1) C.1 rfl (u := (u, f)) ⟨2, 0, by decide, rfl, hF, fun h => absurd h (by decide)⟩ hP hD hS dL_ofThread_20 (Nat.le_of_ble_eq_true rfl) (Nat.le_of_ble_eq_true rfl)
  · refine lv_i2l (v := r.toInt64) hx hb dL_ofThread_8 rfl ?_
    refine va_last hx hb hK hP hD hS 0 2 rfl rfl mb_in01 dL_ofThread_9 (fun H locs hP hD hS => ?_)
    refine lv_goto (tgt := 21) hx hb dL_ofThread_10 (by decide) ?_
    refine lv_iconst (v := 0) hx hb dL_ofThread_21 (by decide) ?_
    exact mb_ri (S := mb_bs × (Nat → Int64)) (wf := fun u => wO Y q u.2 ++ wB Y o a aa u.1) C.1 rfl (u := (u, vp_updL f 0 (r.toInt64))) ⟨0, r, by decide, rfl, hF, fun _ => rfl⟩ hP hD hS dL_ofThread_22 (Nat.le_of_ble_eq_true rfl) (Nat.le_of_ble_eq_true rfl)
set_option maxHeartbeats 4000000 in
set_option maxRecDepth 100000 in
theorem cw_stitches (l : Launch) (hl0 : l.stackTraces = false) (D : va_G) (Y : Nat → ClassId) (N : Nat) (o : Nat) (a aa : Nat → Nat) (b : mb_bs) (q : Nat) (f : Nat → Int64) (sz : Nat) (x1 x2 x3 : Int32) (P : Int → Int32 → mb_bs → Prop) (hF : BP_stitches N b.1 b.2.1 b.2.2.1 b.2.2.2.1 b.2.2.2.2.1 b.2.2.2.2.2.1 b.2.2.2.2.2.2.1 b.2.2.2.2.2.2.2 x1 x2 x3 (fun r b => P 0 r b) (fun E b => (E = eO ∧ P 1 0 b))) : Met l yL_stitches wsL_stitches ({ frames := 8, cells := 2, slots := 12, locals := 160 } : Room) (va_Pc [.ref o, .int x1, .int x2, .int x3, .ref q] (mb_BL D Y (wO Y q f ++ wB Y o a aa b) sz)) (va_Qi (mb_PW P) (fun u t => mb_T D (va_A (wO Y q f ++ wB Y o a aa b) sz) (wO Y q u.2 ++ wB Y o a aa u.1) t) (va_A (wO Y q f ++ wB Y o a aa b) sz)) 2 12 (va_A (wO Y q f ++ wB Y o a aa b) sz) := by
  refine mbl_begin (cc := cL_stitches) (maxL := 6) (ret := some .int) (hh := [(0, 12, 15, 13)]) hl0 (by decide +kernel) rfl (Nat.le_of_ble_eq_true rfl) ?_
  intro p e s m below meth c ls C hsz hP hD hl
  generalize hAe : va_A (wO Y q f ++ wB Y o a aa b) sz = A at C hD ⊢
  have C : mb_CL l p s m meth c ([.ref o, .int x1, .int x2, .int x3, .ref q] : List Value).toArray cL_stitches 6 (some .int) wsL_stitches RL D Y A [(0, 12, 15, 13)] := C
  obtain ⟨⟨hx, hb, hr, hml, hts, hown, hlocks, hA, hG⟩, hT, hX, hl0, hN⟩ := id C
  have hK := hG.1
  have hS : va_S A s.heap s.heap [] := va_S.rf
  have hl : lv_has ls 6 [(0, .ref o), (1, .int x1), (2, .int x2), (3, .int x3), (4, .ref q)] := hl
  refine lv_aload hx hb dL_stitches_0 (lv_at hl 4 rfl) ?_
  refine lv_iconst (v := 0) hx hb dL_stitches_2 (by decide) ?_
  refine lv_aload_n hx hb dL_stitches_3 rfl (lv_at hl 0 rfl) ?_
  refine lv_iload_n hx hb dL_stitches_4 rfl (lv_at hl 1 rfl) ?_
  refine lv_iload_n hx hb dL_stitches_5 rfl (lv_at hl 2 rfl) ?_
  refine lv_iload_n hx hb dL_stitches_6 rfl (lv_at hl 3 rfl) ?_
  refine mbl_cW (wf := fun u : mb_bs => wO Y q f ++ wB Y o a aa u) C hD hS (vx_runV (As := [.int x1, .int x2, .int x3]) (rest := [.int 0, .ref q]) ⟨hx, hb, hml, hown, hts⟩ (mbx_fr (W := wO Y q f ++ wB Y o a aa b) (wr := wO Y q f) (WF := fun u : mb_bs => wO Y q f ++ wB Y o a aa u) (fun u => u) (fun u => u) List.perm_append_comm (fun u => List.perm_append_comm) (fun u => List.perm_append_comm) (fun _ _ h => h) (fun _ _ h => h) (cf_stitches l hl0 D Y N o a aa _ _ _ _ _ _ _ _ _ x1 x2 x3 _ _ hF)) (cwV 3 hts gL_stitches_X7_stitches rfl rfl rfl (by decide +kernel) ⟨(Nat.le_of_ble_eq_true rfl), (Nat.le_of_ble_eq_true rfl)⟩) (mbl_preV C hP hD hS 1 rfl rfl) rfl rfl hl.1 rfl (lv_room (Nat.le_of_ble_eq_true rfl)) dL_stitches_7 ⟨(Nat.le_of_ble_eq_true rfl), (Nat.le_of_ble_eq_true rfl)⟩) (fun E ce q9 u H locs hF hP hD hS hce hcv hcl => ?_) (fun r u H locs hF hP hD hS => ?_)
  · obtain ⟨rfl, hF⟩ := hF
    refine vx_catch (own := RL) (name := "java/lang/IndexOutOfBoundsException") hown [] ⟨0, 12, 15, 13⟩ [] (by rw [hT]; rfl) (fun z h => absurd h List.not_mem_nil) rfl (by decide) (hts (.classLink RL 13 "java/lang/IndexOutOfBoundsException") (List.mem_of_getElem? (i := 1) rfl)) (va_Nw.use rfl (hG.2.1 _ (List.mem_of_getElem? (i := 27) rfl))) hce hcv hcl ?_
    refine lv_astore (lv' := [(5, .ref q9), (0, .ref o), (1, .int x1), (2, .int x2), (3, .int x3), (4, .ref q)]) hx hb dL_stitches_15 hl (by decide) rfl (fun ls hl => ?_)
    refine lv_iconst (v := 1) hx hb dL_stitches_17 (by decide) ?_
    exact mb_ri (S := mb_bs × (Nat → Int64)) (wf := fun u => wO Y q u.2 ++ wB Y o a aa u.1) C.1 rfl (u := (u, f)) ⟨1, 0, by decide, rfl, hF, fun h => absurd h (by decide)⟩ hP hD hS dL_stitches_18 (Nat.le_of_ble_eq_true rfl) (Nat.le_of_ble_eq_true rfl)
  · refine lv_i2l (v := r.toInt64) hx hb dL_stitches_10 rfl ?_
    refine va_last hx hb hK hP hD hS 0 2 rfl rfl mb_in01 dL_stitches_11 (fun H locs hP hD hS => ?_)
    refine lv_goto (tgt := 19) hx hb dL_stitches_12 (by decide) ?_
    refine lv_iconst (v := 0) hx hb dL_stitches_19 (by decide) ?_
    exact mb_ri (S := mb_bs × (Nat → Int64)) (wf := fun u => wO Y q u.2 ++ wB Y o a aa u.1) C.1 rfl (u := (u, vp_updL f 0 (r.toInt64))) ⟨0, r, by decide, rfl, hF, fun _ => rfl⟩ hP hD hS dL_stitches_20 (Nat.le_of_ble_eq_true rfl) (Nat.le_of_ble_eq_true rfl)
set_option maxHeartbeats 4000000 in
set_option maxRecDepth 100000 in
theorem cw_isHeld (l : Launch) (hl0 : l.stackTraces = false) (D : va_G) (Y : Nat → ClassId) (N : Nat) (o : Nat) (a aa : Nat → Nat) (b : mb_bs) (q : Nat) (f : Nat → Int64) (sz : Nat) (x1 x2 : Int32) (P : Int → Int32 → mb_bs → Prop) (hF : BP_isHeld N b.1 b.2.1 b.2.2.1 b.2.2.2.1 b.2.2.2.2.1 b.2.2.2.2.2.1 b.2.2.2.2.2.2.1 b.2.2.2.2.2.2.2 x1 x2 (fun r b => mb_isB r ∧ P 0 r b) (fun E b => (E = eO ∧ P 1 0 b))) : Met l yL_isHeld wsL_isHeld ({ frames := 8, cells := 2, slots := 12, locals := 160 } : Room) (va_Pc [.ref o, .int x1, .int x2, .ref q] (mb_BL D Y (wO Y q f ++ wB Y o a aa b) sz)) (va_Qi (mb_PB P) (fun u t => mb_T D (va_A (wO Y q f ++ wB Y o a aa b) sz) (wO Y q u.2 ++ wB Y o a aa u.1) t) (va_A (wO Y q f ++ wB Y o a aa b) sz)) 2 12 (va_A (wO Y q f ++ wB Y o a aa b) sz) := by
  refine mbl_begin (cc := cL_isHeld) (maxL := 5) (ret := some .int) (hh := [(0, 17, 20, 13)]) hl0 (by decide +kernel) rfl (Nat.le_of_ble_eq_true rfl) ?_
  intro p e s m below meth c ls C hsz hP hD hl
  generalize hAe : va_A (wO Y q f ++ wB Y o a aa b) sz = A at C hD ⊢
  have C : mb_CL l p s m meth c ([.ref o, .int x1, .int x2, .ref q] : List Value).toArray cL_isHeld 5 (some .int) wsL_isHeld RL D Y A [(0, 17, 20, 13)] := C
  obtain ⟨⟨hx, hb, hr, hml, hts, hown, hlocks, hA, hG⟩, hT, hX, hl0, hN⟩ := id C
  have hK := hG.1
  have hS : va_S A s.heap s.heap [] := va_S.rf
  have hl : lv_has ls 5 [(0, .ref o), (1, .int x1), (2, .int x2), (3, .ref q)] := hl
  refine lv_aload_n hx hb dL_isHeld_0 rfl (lv_at hl 3 rfl) ?_
  refine lv_iconst (v := 0) hx hb dL_isHeld_1 (by decide) ?_
  refine lv_aload_n hx hb dL_isHeld_2 rfl (lv_at hl 0 rfl) ?_
  refine lv_iload_n hx hb dL_isHeld_3 rfl (lv_at hl 1 rfl) ?_
  refine lv_iload_n hx hb dL_isHeld_4 rfl (lv_at hl 2 rfl) ?_
  refine mbl_cW (wf := fun u : mb_bs => wO Y q f ++ wB Y o a aa u) C hD hS (vx_runV (As := [.int x1, .int x2]) (rest := [.int 0, .ref q]) ⟨hx, hb, hml, hown, hts⟩ (mbx_fr (W := wO Y q f ++ wB Y o a aa b) (wr := wO Y q f) (WF := fun u : mb_bs => wO Y q f ++ wB Y o a aa u) (fun u => u) (fun u => u) List.perm_append_comm (fun u => List.perm_append_comm) (fun u => List.perm_append_comm) (fun _ _ h => h) (fun _ _ h => h) (cf_isHeld l hl0 D Y N o a aa _ _ _ _ _ _ _ _ _ x1 x2 _ _ hF)) (cwV 2 hts gL_isHeld_X7_isHeld rfl rfl rfl (by decide +kernel) ⟨(Nat.le_of_ble_eq_true rfl), (Nat.le_of_ble_eq_true rfl)⟩) (mbl_preV C hP hD hS 1 rfl rfl) rfl rfl hl.1 rfl (lv_room (Nat.le_of_ble_eq_true rfl)) dL_isHeld_5 ⟨(Nat.le_of_ble_eq_true rfl), (Nat.le_of_ble_eq_true rfl)⟩) (fun E ce q9 u H locs hF hP hD hS hce hcv hcl => ?_) (fun r u H locs hF hP hD hS => ?_)
  · obtain ⟨rfl, hF⟩ := hF
    refine vx_catch (own := RL) (name := "java/lang/IndexOutOfBoundsException") hown [] ⟨0, 17, 20, 13⟩ [] (by rw [hT]; rfl) (fun z h => absurd h List.not_mem_nil) rfl (by decide) (hts (.classLink RL 13 "java/lang/IndexOutOfBoundsException") (List.mem_of_getElem? (i := 1) rfl)) (va_Nw.use rfl (hG.2.1 _ (List.mem_of_getElem? (i := 27) rfl))) hce hcv hcl ?_
    refine lv_astore (lv' := [(4, .ref q9), (0, .ref o), (1, .int x1), (2, .int x2), (3, .ref q)]) hx hb dL_isHeld_20 hl (by decide) rfl (fun ls hl => ?_)
    refine lv_iconst (v := 1) hx hb dL_isHeld_22 (by decide) ?_
    exact mb_ri (S := mb_bs × (Nat → Int64)) (wf := fun u => wO Y q u.2 ++ wB Y o a aa u.1) C.1 rfl (u := (u, f)) ⟨1, 0, by decide, rfl, ⟨Or.inl rfl, hF⟩, fun h => absurd h (by decide)⟩ hP hD hS dL_isHeld_23 (Nat.le_of_ble_eq_true rfl) (Nat.le_of_ble_eq_true rfl)
  · refine lv_if_eq (tgt := 15) hx hb dL_isHeld_8 (by decide) (fun cz => ?_) (fun cz => ?_)
    · refine lv_lconst (v := 0) hx hb dL_isHeld_15 rfl ?_
      refine va_last hx hb hK hP hD hS 0 2 rfl rfl mb_in01 dL_isHeld_16 (fun H locs hP hD hS => ?_)
      refine lv_goto (tgt := 24) hx hb dL_isHeld_17 (by decide) ?_
      refine lv_iconst (v := 0) hx hb dL_isHeld_24 (by decide) ?_
      exact mb_ri (S := mb_bs × (Nat → Int64)) (wf := fun u => wO Y q u.2 ++ wB Y o a aa u.1) C.1 rfl (u := (u, vp_updL f 0 (0))) ⟨0, r, by decide, rfl, hF, fun _ => by rw [cz]; rfl⟩ hP hD hS dL_isHeld_25 (Nat.le_of_ble_eq_true rfl) (Nat.le_of_ble_eq_true rfl)
    · refine lv_lconst (v := 1) hx hb dL_isHeld_11 rfl ?_
      refine lv_goto (tgt := 16) hx hb dL_isHeld_12 (by decide) ?_
      refine va_last hx hb hK hP hD hS 0 2 rfl rfl mb_in01 dL_isHeld_16 (fun H locs hP hD hS => ?_)
      refine lv_goto (tgt := 24) hx hb dL_isHeld_17 (by decide) ?_
      refine lv_iconst (v := 0) hx hb dL_isHeld_24 (by decide) ?_
      exact mb_ri (S := mb_bs × (Nat → Int64)) (wf := fun u => wO Y q u.2 ++ wB Y o a aa u.1) C.1 rfl (u := (u, vp_updL f 0 (1))) ⟨0, r, by decide, rfl, hF, fun _ => by rcases hF.1 with hz | hz; exact absurd hz cz; rw [hz]; rfl⟩ hP hD hS dL_isHeld_25 (Nat.le_of_ble_eq_true rfl) (Nat.le_of_ble_eq_true rfl)
set_option maxHeartbeats 4000000 in
set_option maxRecDepth 100000 in
theorem cw_back (l : Launch) (hl0 : l.stackTraces = false) (D : va_G) (Y : Nat → ClassId) (N : Nat) (o : Nat) (a aa : Nat → Nat) (b : mb_bs) (q : Nat) (f : Nat → Int64) (sz : Nat) (x1 x2 : Int32) (P : Int → Int32 → mb_bs → Prop) (hF : BP_back N b.1 b.2.1 b.2.2.1 b.2.2.2.1 b.2.2.2.2.1 b.2.2.2.2.2.1 b.2.2.2.2.2.2.1 b.2.2.2.2.2.2.2 x1 x2 (fun r b => P 0 r b) (fun E b => (E = eO ∧ P 1 0 b) ∨ (E = eA ∧ P 2 0 b))) : Met l yL_back wsL_back ({ frames := 8, cells := 2, slots := 12, locals := 160 } : Room) (va_Pc [.ref o, .int x1, .int x2, .ref q] (mb_BL D Y (wO Y q f ++ wB Y o a aa b) sz)) (va_Qi (mb_PW P) (fun u t => mb_T D (va_A (wO Y q f ++ wB Y o a aa b) sz) (wO Y q u.2 ++ wB Y o a aa u.1) t) (va_A (wO Y q f ++ wB Y o a aa b) sz)) 2 12 (va_A (wO Y q f ++ wB Y o a aa b) sz) := by
  refine mbl_begin (cc := cL_back) (maxL := 5) (ret := some .int) (hh := [(0, 10, 13, 13), (0, 10, 17, 15)]) hl0 (by decide +kernel) rfl (Nat.le_of_ble_eq_true rfl) ?_
  intro p e s m below meth c ls C hsz hP hD hl
  generalize hAe : va_A (wO Y q f ++ wB Y o a aa b) sz = A at C hD ⊢
  have C : mb_CL l p s m meth c ([.ref o, .int x1, .int x2, .ref q] : List Value).toArray cL_back 5 (some .int) wsL_back RL D Y A [(0, 10, 13, 13), (0, 10, 17, 15)] := C
  obtain ⟨⟨hx, hb, hr, hml, hts, hown, hlocks, hA, hG⟩, hT, hX, hl0, hN⟩ := id C
  have hK := hG.1
  have hS : va_S A s.heap s.heap [] := va_S.rf
  have hl : lv_has ls 5 [(0, .ref o), (1, .int x1), (2, .int x2), (3, .ref q)] := hl
  refine lv_aload_n hx hb dL_back_0 rfl (lv_at hl 3 rfl) ?_
  refine lv_iconst (v := 0) hx hb dL_back_1 (by decide) ?_
  refine lv_aload_n hx hb dL_back_2 rfl (lv_at hl 0 rfl) ?_
  refine lv_iload_n hx hb dL_back_3 rfl (lv_at hl 1 rfl) ?_
  refine lv_iload_n hx hb dL_back_4 rfl (lv_at hl 2 rfl) ?_
  refine mbl_cW (wf := fun u : mb_bs => wO Y q f ++ wB Y o a aa u) C hD hS (vx_runV (As := [.int x1, .int x2]) (rest := [.int 0, .ref q]) ⟨hx, hb, hml, hown, hts⟩ (mbx_fr (W := wO Y q f ++ wB Y o a aa b) (wr := wO Y q f) (WF := fun u : mb_bs => wO Y q f ++ wB Y o a aa u) (fun u => u) (fun u => u) List.perm_append_comm (fun u => List.perm_append_comm) (fun u => List.perm_append_comm) (fun _ _ h => h) (fun _ _ h => h) (cf_back l hl0 D Y N o a aa _ _ _ _ _ _ _ _ _ x1 x2 _ _ hF)) (cwV 2 hts gL_back_X7_back rfl rfl rfl (by decide +kernel) ⟨(Nat.le_of_ble_eq_true rfl), (Nat.le_of_ble_eq_true rfl)⟩) (mbl_preV C hP hD hS 1 rfl rfl) rfl rfl hl.1 rfl (lv_room (Nat.le_of_ble_eq_true rfl)) dL_back_5 ⟨(Nat.le_of_ble_eq_true rfl), (Nat.le_of_ble_eq_true rfl)⟩) (fun E ce q9 u H locs hF hP hD hS hce hcv hcl => ?_) (fun r u H locs hF hP hD hS => ?_)
  · rcases hF with ⟨rfl, hF⟩ | ⟨rfl, hF⟩
    · refine vx_catch (own := RL) (name := "java/lang/IndexOutOfBoundsException") hown [] ⟨0, 10, 13, 13⟩ [⟨0, 10, 17, 15⟩] (by rw [hT]; rfl) (fun z h => absurd h List.not_mem_nil) rfl (by decide) (hts (.classLink RL 13 "java/lang/IndexOutOfBoundsException") (List.mem_of_getElem? (i := 1) rfl)) (va_Nw.use rfl (hG.2.1 _ (List.mem_of_getElem? (i := 27) rfl))) hce hcv hcl ?_
      refine lv_astore (lv' := [(4, .ref q9), (0, .ref o), (1, .int x1), (2, .int x2), (3, .ref q)]) hx hb dL_back_13 hl (by decide) rfl (fun ls hl => ?_)
      refine lv_iconst (v := 1) hx hb dL_back_15 (by decide) ?_
      exact mb_ri (S := mb_bs × (Nat → Int64)) (wf := fun u => wO Y q u.2 ++ wB Y o a aa u.1) C.1 rfl (u := (u, f)) ⟨1, 0, by decide, rfl, hF, fun h => absurd h (by decide)⟩ hP hD hS dL_back_16 (Nat.le_of_ble_eq_true rfl) (Nat.le_of_ble_eq_true rfl)
    · refine vx_catch (own := RL) (name := "java/lang/IllegalArgumentException") hown [⟨0, 10, 13, 13⟩] ⟨0, 10, 17, 15⟩ [] (by rw [hT]; rfl) (fun z h => by
        simp only [List.mem_cons, List.not_mem_nil, or_false] at h
        rcases h with rfl
        · exact Or.inr ⟨by decide, _, (hts (.classLink RL 13 "java/lang/IndexOutOfBoundsException") (List.mem_of_getElem? (i := 1) rfl)), hN.1⟩) rfl (by decide) (hts (.classLink RL 15 "java/lang/IllegalArgumentException") (List.mem_of_getElem? (i := 2) rfl)) (va_Nw.use rfl (hG.2.1 _ (List.mem_of_getElem? (i := 28) rfl))) hce hcv hcl ?_
      refine lv_astore (lv' := [(4, .ref q9), (0, .ref o), (1, .int x1), (2, .int x2), (3, .ref q)]) hx hb dL_back_17 hl (by decide) rfl (fun ls hl => ?_)
      refine lv_iconst (v := 2) hx hb dL_back_19 (by decide) ?_
      exact mb_ri (S := mb_bs × (Nat → Int64)) (wf := fun u => wO Y q u.2 ++ wB Y o a aa u.1) C.1 rfl (u := (u, f)) ⟨2, 0, by decide, rfl, hF, fun h => absurd h (by decide)⟩ hP hD hS dL_back_20 (Nat.le_of_ble_eq_true rfl) (Nat.le_of_ble_eq_true rfl)
  · refine lv_i2l (v := r.toInt64) hx hb dL_back_8 rfl ?_
    refine va_last hx hb hK hP hD hS 0 2 rfl rfl mb_in01 dL_back_9 (fun H locs hP hD hS => ?_)
    refine lv_goto (tgt := 21) hx hb dL_back_10 (by decide) ?_
    refine lv_iconst (v := 0) hx hb dL_back_21 (by decide) ?_
    exact mb_ri (S := mb_bs × (Nat → Int64)) (wf := fun u => wO Y q u.2 ++ wB Y o a aa u.1) C.1 rfl (u := (u, vp_updL f 0 (r.toInt64))) ⟨0, r, by decide, rfl, hF, fun _ => rfl⟩ hP hD hS dL_back_22 (Nat.le_of_ble_eq_true rfl) (Nat.le_of_ble_eq_true rfl)
set_option maxHeartbeats 4000000 in
set_option maxRecDepth 100000 in
theorem cw_swelling (l : Launch) (hl0 : l.stackTraces = false) (D : va_G) (Y : Nat → ClassId) (N : Nat) (o : Nat) (a aa : Nat → Nat) (b : mb_bs) (q : Nat) (f : Nat → Int64) (sz : Nat) (x1 : Int32) (P : Int → Int32 → mb_bs → Prop) (hF : BP_swelling N b.1 b.2.1 b.2.2.1 b.2.2.2.1 b.2.2.2.2.1 b.2.2.2.2.2.1 b.2.2.2.2.2.2.1 b.2.2.2.2.2.2.2 x1 (fun r b => P 0 r b) (fun E b => (E = eO ∧ P 1 0 b))) : Met l yL_swelling wsL_swelling ({ frames := 8, cells := 1, slots := 6, locals := 160 } : Room) (va_Pc [.ref o, .int x1, .ref q] (mb_BL D Y (wO Y q f ++ wB Y o a aa b) sz)) (va_Qi (mb_PW P) (fun u t => mb_T D (va_A (wO Y q f ++ wB Y o a aa b) sz) (wO Y q u.2 ++ wB Y o a aa u.1) t) (va_A (wO Y q f ++ wB Y o a aa b) sz)) 1 6 (va_A (wO Y q f ++ wB Y o a aa b) sz) := by
  refine mbl_begin (cc := cL_swelling) (maxL := 4) (ret := some .int) (hh := [(0, 9, 12, 13)]) hl0 (by decide +kernel) rfl (Nat.le_of_ble_eq_true rfl) ?_
  intro p e s m below meth c ls C hsz hP hD hl
  generalize hAe : va_A (wO Y q f ++ wB Y o a aa b) sz = A at C hD ⊢
  have C : mb_CL l p s m meth c ([.ref o, .int x1, .ref q] : List Value).toArray cL_swelling 4 (some .int) wsL_swelling RL D Y A [(0, 9, 12, 13)] := C
  obtain ⟨⟨hx, hb, hr, hml, hts, hown, hlocks, hA, hG⟩, hT, hX, hl0, hN⟩ := id C
  have hK := hG.1
  have hS : va_S A s.heap s.heap [] := va_S.rf
  have hl : lv_has ls 4 [(0, .ref o), (1, .int x1), (2, .ref q)] := hl
  refine lv_aload_n hx hb dL_swelling_0 rfl (lv_at hl 2 rfl) ?_
  refine lv_iconst (v := 0) hx hb dL_swelling_1 (by decide) ?_
  refine lv_aload_n hx hb dL_swelling_2 rfl (lv_at hl 0 rfl) ?_
  refine lv_iload_n hx hb dL_swelling_3 rfl (lv_at hl 1 rfl) ?_
  refine mbl_cW (wf := fun u : mb_bs => wO Y q f ++ wB Y o a aa u) C hD hS (vx_runV (As := [.int x1]) (rest := [.int 0, .ref q]) ⟨hx, hb, hml, hown, hts⟩ (mbx_fr (W := wO Y q f ++ wB Y o a aa b) (wr := wO Y q f) (WF := fun u : mb_bs => wO Y q f ++ wB Y o a aa u) (fun u => u) (fun u => u) List.perm_append_comm (fun u => List.perm_append_comm) (fun u => List.perm_append_comm) (fun _ _ h => h) (fun _ _ h => h) (cf_swelling l hl0 D Y N o a aa _ _ _ _ _ _ _ _ _ x1 _ _ hF)) (cwV 1 hts gL_swelling_X7_swelling rfl rfl rfl (by decide +kernel) ⟨(Nat.le_of_ble_eq_true rfl), (Nat.le_of_ble_eq_true rfl)⟩) (mbl_preV C hP hD hS 1 rfl rfl) rfl rfl hl.1 rfl (lv_room (Nat.le_of_ble_eq_true rfl)) dL_swelling_4 ⟨(Nat.le_of_ble_eq_true rfl), (Nat.le_of_ble_eq_true rfl)⟩) (fun E ce q9 u H locs hF hP hD hS hce hcv hcl => ?_) (fun r u H locs hF hP hD hS => ?_)
  · obtain ⟨rfl, hF⟩ := hF
    refine vx_catch (own := RL) (name := "java/lang/IndexOutOfBoundsException") hown [] ⟨0, 9, 12, 13⟩ [] (by rw [hT]; rfl) (fun z h => absurd h List.not_mem_nil) rfl (by decide) (hts (.classLink RL 13 "java/lang/IndexOutOfBoundsException") (List.mem_of_getElem? (i := 1) rfl)) (va_Nw.use rfl (hG.2.1 _ (List.mem_of_getElem? (i := 27) rfl))) hce hcv hcl ?_
    refine lv_astore_n (lv' := [(3, .ref q9), (0, .ref o), (1, .int x1), (2, .ref q)]) hx hb dL_swelling_12 rfl hl (by decide) rfl (fun ls hl => ?_)
    refine lv_iconst (v := 1) hx hb dL_swelling_13 (by decide) ?_
    exact mb_ri (S := mb_bs × (Nat → Int64)) (wf := fun u => wO Y q u.2 ++ wB Y o a aa u.1) C.1 rfl (u := (u, f)) ⟨1, 0, by decide, rfl, hF, fun h => absurd h (by decide)⟩ hP hD hS dL_swelling_14 (Nat.le_of_ble_eq_true rfl) (Nat.le_of_ble_eq_true rfl)
  · refine lv_i2l (v := r.toInt64) hx hb dL_swelling_7 rfl ?_
    refine va_last hx hb hK hP hD hS 0 2 rfl rfl mb_in01 dL_swelling_8 (fun H locs hP hD hS => ?_)
    refine lv_goto (tgt := 15) hx hb dL_swelling_9 (by decide) ?_
    refine lv_iconst (v := 0) hx hb dL_swelling_15 (by decide) ?_
    exact mb_ri (S := mb_bs × (Nat → Int64)) (wf := fun u => wO Y q u.2 ++ wB Y o a aa u.1) C.1 rfl (u := (u, vp_updL f 0 (r.toInt64))) ⟨0, r, by decide, rfl, hF, fun _ => rfl⟩ hP hD hS dL_swelling_16 (Nat.le_of_ble_eq_true rfl) (Nat.le_of_ble_eq_true rfl)
set_option maxHeartbeats 4000000 in
set_option maxRecDepth 100000 in
theorem cw_strain (l : Launch) (hl0 : l.stackTraces = false) (D : va_G) (Y : Nat → ClassId) (N : Nat) (o : Nat) (a aa : Nat → Nat) (b : mb_bs) (q : Nat) (f : Nat → Int64) (sz : Nat) (x1 x2 : Int32) (P : Int → Int32 → mb_bs → Prop) (hF : BP_strain N b.1 b.2.1 b.2.2.1 b.2.2.2.1 b.2.2.2.2.1 b.2.2.2.2.2.1 b.2.2.2.2.2.2.1 b.2.2.2.2.2.2.2 x1 x2 (fun r b => P 0 r b) (fun E b => (E = eO ∧ P 1 0 b) ∨ (E = eA ∧ P 2 0 b))) : Met l yL_strain wsL_strain ({ frames := 8, cells := 2, slots := 12, locals := 160 } : Room) (va_Pc [.ref o, .int x1, .int x2, .ref q] (mb_BL D Y (wO Y q f ++ wB Y o a aa b) sz)) (va_Qi (mb_PW P) (fun u t => mb_T D (va_A (wO Y q f ++ wB Y o a aa b) sz) (wO Y q u.2 ++ wB Y o a aa u.1) t) (va_A (wO Y q f ++ wB Y o a aa b) sz)) 2 12 (va_A (wO Y q f ++ wB Y o a aa b) sz) := by
  refine mbl_begin (cc := cL_strain) (maxL := 5) (ret := some .int) (hh := [(0, 10, 13, 13), (0, 10, 17, 15)]) hl0 (by decide +kernel) rfl (Nat.le_of_ble_eq_true rfl) ?_
  intro p e s m below meth c ls C hsz hP hD hl
  generalize hAe : va_A (wO Y q f ++ wB Y o a aa b) sz = A at C hD ⊢
  have C : mb_CL l p s m meth c ([.ref o, .int x1, .int x2, .ref q] : List Value).toArray cL_strain 5 (some .int) wsL_strain RL D Y A [(0, 10, 13, 13), (0, 10, 17, 15)] := C
  obtain ⟨⟨hx, hb, hr, hml, hts, hown, hlocks, hA, hG⟩, hT, hX, hl0, hN⟩ := id C
  have hK := hG.1
  have hS : va_S A s.heap s.heap [] := va_S.rf
  have hl : lv_has ls 5 [(0, .ref o), (1, .int x1), (2, .int x2), (3, .ref q)] := hl
  refine lv_aload_n hx hb dL_strain_0 rfl (lv_at hl 3 rfl) ?_
  refine lv_iconst (v := 0) hx hb dL_strain_1 (by decide) ?_
  refine lv_aload_n hx hb dL_strain_2 rfl (lv_at hl 0 rfl) ?_
  refine lv_iload_n hx hb dL_strain_3 rfl (lv_at hl 1 rfl) ?_
  refine lv_iload_n hx hb dL_strain_4 rfl (lv_at hl 2 rfl) ?_
  refine mbl_cW (wf := fun u : mb_bs => wO Y q f ++ wB Y o a aa u) C hD hS (vx_runV (As := [.int x1, .int x2]) (rest := [.int 0, .ref q]) ⟨hx, hb, hml, hown, hts⟩ (mbx_fr (W := wO Y q f ++ wB Y o a aa b) (wr := wO Y q f) (WF := fun u : mb_bs => wO Y q f ++ wB Y o a aa u) (fun u => u) (fun u => u) List.perm_append_comm (fun u => List.perm_append_comm) (fun u => List.perm_append_comm) (fun _ _ h => h) (fun _ _ h => h) (cf_strain l hl0 D Y N o a aa _ _ _ _ _ _ _ _ _ x1 x2 _ _ hF)) (cwV 2 hts gL_strain_X7_strain rfl rfl rfl (by decide +kernel) ⟨(Nat.le_of_ble_eq_true rfl), (Nat.le_of_ble_eq_true rfl)⟩) (mbl_preV C hP hD hS 1 rfl rfl) rfl rfl hl.1 rfl (lv_room (Nat.le_of_ble_eq_true rfl)) dL_strain_5 ⟨(Nat.le_of_ble_eq_true rfl), (Nat.le_of_ble_eq_true rfl)⟩) (fun E ce q9 u H locs hF hP hD hS hce hcv hcl => ?_) (fun r u H locs hF hP hD hS => ?_)
  · rcases hF with ⟨rfl, hF⟩ | ⟨rfl, hF⟩
    · refine vx_catch (own := RL) (name := "java/lang/IndexOutOfBoundsException") hown [] ⟨0, 10, 13, 13⟩ [⟨0, 10, 17, 15⟩] (by rw [hT]; rfl) (fun z h => absurd h List.not_mem_nil) rfl (by decide) (hts (.classLink RL 13 "java/lang/IndexOutOfBoundsException") (List.mem_of_getElem? (i := 1) rfl)) (va_Nw.use rfl (hG.2.1 _ (List.mem_of_getElem? (i := 27) rfl))) hce hcv hcl ?_
      refine lv_astore (lv' := [(4, .ref q9), (0, .ref o), (1, .int x1), (2, .int x2), (3, .ref q)]) hx hb dL_strain_13 hl (by decide) rfl (fun ls hl => ?_)
      refine lv_iconst (v := 1) hx hb dL_strain_15 (by decide) ?_
      exact mb_ri (S := mb_bs × (Nat → Int64)) (wf := fun u => wO Y q u.2 ++ wB Y o a aa u.1) C.1 rfl (u := (u, f)) ⟨1, 0, by decide, rfl, hF, fun h => absurd h (by decide)⟩ hP hD hS dL_strain_16 (Nat.le_of_ble_eq_true rfl) (Nat.le_of_ble_eq_true rfl)
    · refine vx_catch (own := RL) (name := "java/lang/IllegalArgumentException") hown [⟨0, 10, 13, 13⟩] ⟨0, 10, 17, 15⟩ [] (by rw [hT]; rfl) (fun z h => by
        simp only [List.mem_cons, List.not_mem_nil, or_false] at h
        rcases h with rfl
        · exact Or.inr ⟨by decide, _, (hts (.classLink RL 13 "java/lang/IndexOutOfBoundsException") (List.mem_of_getElem? (i := 1) rfl)), hN.1⟩) rfl (by decide) (hts (.classLink RL 15 "java/lang/IllegalArgumentException") (List.mem_of_getElem? (i := 2) rfl)) (va_Nw.use rfl (hG.2.1 _ (List.mem_of_getElem? (i := 28) rfl))) hce hcv hcl ?_
      refine lv_astore (lv' := [(4, .ref q9), (0, .ref o), (1, .int x1), (2, .int x2), (3, .ref q)]) hx hb dL_strain_17 hl (by decide) rfl (fun ls hl => ?_)
      refine lv_iconst (v := 2) hx hb dL_strain_19 (by decide) ?_
      exact mb_ri (S := mb_bs × (Nat → Int64)) (wf := fun u => wO Y q u.2 ++ wB Y o a aa u.1) C.1 rfl (u := (u, f)) ⟨2, 0, by decide, rfl, hF, fun h => absurd h (by decide)⟩ hP hD hS dL_strain_20 (Nat.le_of_ble_eq_true rfl) (Nat.le_of_ble_eq_true rfl)
  · refine lv_i2l (v := r.toInt64) hx hb dL_strain_8 rfl ?_
    refine va_last hx hb hK hP hD hS 0 2 rfl rfl mb_in01 dL_strain_9 (fun H locs hP hD hS => ?_)
    refine lv_goto (tgt := 21) hx hb dL_strain_10 (by decide) ?_
    refine lv_iconst (v := 0) hx hb dL_strain_21 (by decide) ?_
    exact mb_ri (S := mb_bs × (Nat → Int64)) (wf := fun u => wO Y q u.2 ++ wB Y o a aa u.1) C.1 rfl (u := (u, vp_updL f 0 (r.toInt64))) ⟨0, r, by decide, rfl, hF, fun _ => rfl⟩ hP hD hS dL_strain_22 (Nat.le_of_ble_eq_true rfl) (Nat.le_of_ble_eq_true rfl)
set_option maxHeartbeats 4000000 in
set_option maxRecDepth 100000 in
theorem cw_worst (l : Launch) (hl0 : l.stackTraces = false) (D : va_G) (Y : Nat → ClassId) (N : Nat) (o : Nat) (a aa : Nat → Nat) (b : mb_bs) (q : Nat) (f : Nat → Int64) (sz : Nat) (x1 : Int32) (P : Int → Int32 → mb_bs → Prop) (hF : BP_worst N b.1 b.2.1 b.2.2.1 b.2.2.2.1 b.2.2.2.2.1 b.2.2.2.2.2.1 b.2.2.2.2.2.2.1 b.2.2.2.2.2.2.2 x1 (fun r b => P 0 r b) (fun E b => (E = eO ∧ P 1 0 b))) : Met l yL_worst wsL_worst ({ frames := 8, cells := 1, slots := 6, locals := 160 } : Room) (va_Pc [.ref o, .int x1, .ref q] (mb_BL D Y (wO Y q f ++ wB Y o a aa b) sz)) (va_Qi (mb_PW P) (fun u t => mb_T D (va_A (wO Y q f ++ wB Y o a aa b) sz) (wO Y q u.2 ++ wB Y o a aa u.1) t) (va_A (wO Y q f ++ wB Y o a aa b) sz)) 1 6 (va_A (wO Y q f ++ wB Y o a aa b) sz) := by
  refine mbl_begin (cc := cL_worst) (maxL := 4) (ret := some .int) (hh := [(0, 9, 12, 13)]) hl0 (by decide +kernel) rfl (Nat.le_of_ble_eq_true rfl) ?_
  intro p e s m below meth c ls C hsz hP hD hl
  generalize hAe : va_A (wO Y q f ++ wB Y o a aa b) sz = A at C hD ⊢
  have C : mb_CL l p s m meth c ([.ref o, .int x1, .ref q] : List Value).toArray cL_worst 4 (some .int) wsL_worst RL D Y A [(0, 9, 12, 13)] := C
  obtain ⟨⟨hx, hb, hr, hml, hts, hown, hlocks, hA, hG⟩, hT, hX, hl0, hN⟩ := id C
  have hK := hG.1
  have hS : va_S A s.heap s.heap [] := va_S.rf
  have hl : lv_has ls 4 [(0, .ref o), (1, .int x1), (2, .ref q)] := hl
  refine lv_aload_n hx hb dL_worst_0 rfl (lv_at hl 2 rfl) ?_
  refine lv_iconst (v := 0) hx hb dL_worst_1 (by decide) ?_
  refine lv_aload_n hx hb dL_worst_2 rfl (lv_at hl 0 rfl) ?_
  refine lv_iload_n hx hb dL_worst_3 rfl (lv_at hl 1 rfl) ?_
  refine mbl_cW (wf := fun u : mb_bs => wO Y q f ++ wB Y o a aa u) C hD hS (vx_runV (As := [.int x1]) (rest := [.int 0, .ref q]) ⟨hx, hb, hml, hown, hts⟩ (mbx_fr (W := wO Y q f ++ wB Y o a aa b) (wr := wO Y q f) (WF := fun u : mb_bs => wO Y q f ++ wB Y o a aa u) (fun u => u) (fun u => u) List.perm_append_comm (fun u => List.perm_append_comm) (fun u => List.perm_append_comm) (fun _ _ h => h) (fun _ _ h => h) (cf_worst l hl0 D Y N o a aa _ _ _ _ _ _ _ _ _ x1 _ _ hF)) (cwV 1 hts gL_worst_X7_worst rfl rfl rfl (by decide +kernel) ⟨(Nat.le_of_ble_eq_true rfl), (Nat.le_of_ble_eq_true rfl)⟩) (mbl_preV C hP hD hS 1 rfl rfl) rfl rfl hl.1 rfl (lv_room (Nat.le_of_ble_eq_true rfl)) dL_worst_4 ⟨(Nat.le_of_ble_eq_true rfl), (Nat.le_of_ble_eq_true rfl)⟩) (fun E ce q9 u H locs hF hP hD hS hce hcv hcl => ?_) (fun r u H locs hF hP hD hS => ?_)
  · obtain ⟨rfl, hF⟩ := hF
    refine vx_catch (own := RL) (name := "java/lang/IndexOutOfBoundsException") hown [] ⟨0, 9, 12, 13⟩ [] (by rw [hT]; rfl) (fun z h => absurd h List.not_mem_nil) rfl (by decide) (hts (.classLink RL 13 "java/lang/IndexOutOfBoundsException") (List.mem_of_getElem? (i := 1) rfl)) (va_Nw.use rfl (hG.2.1 _ (List.mem_of_getElem? (i := 27) rfl))) hce hcv hcl ?_
    refine lv_astore_n (lv' := [(3, .ref q9), (0, .ref o), (1, .int x1), (2, .ref q)]) hx hb dL_worst_12 rfl hl (by decide) rfl (fun ls hl => ?_)
    refine lv_iconst (v := 1) hx hb dL_worst_13 (by decide) ?_
    exact mb_ri (S := mb_bs × (Nat → Int64)) (wf := fun u => wO Y q u.2 ++ wB Y o a aa u.1) C.1 rfl (u := (u, f)) ⟨1, 0, by decide, rfl, hF, fun h => absurd h (by decide)⟩ hP hD hS dL_worst_14 (Nat.le_of_ble_eq_true rfl) (Nat.le_of_ble_eq_true rfl)
  · refine lv_i2l (v := r.toInt64) hx hb dL_worst_7 rfl ?_
    refine va_last hx hb hK hP hD hS 0 2 rfl rfl mb_in01 dL_worst_8 (fun H locs hP hD hS => ?_)
    refine lv_goto (tgt := 15) hx hb dL_worst_9 (by decide) ?_
    refine lv_iconst (v := 0) hx hb dL_worst_15 (by decide) ?_
    exact mb_ri (S := mb_bs × (Nat → Int64)) (wf := fun u => wO Y q u.2 ++ wB Y o a aa u.1) C.1 rfl (u := (u, vp_updL f 0 (r.toInt64))) ⟨0, r, by decide, rfl, hF, fun _ => rfl⟩ hP hD hS dL_worst_16 (Nat.le_of_ble_eq_true rfl) (Nat.le_of_ble_eq_true rfl)
set_option maxHeartbeats 4000000 in
set_option maxRecDepth 100000 in
theorem cw_opens (l : Launch) (hl0 : l.stackTraces = false) (D : va_G) (Y : Nat → ClassId) (N : Nat) (o : Nat) (a aa : Nat → Nat) (b : mb_bs) (q : Nat) (f : Nat → Int64) (sz : Nat) (x1 x2 : Int32) (P : Int → Int32 → mb_bs → Prop) (hF : BP_opens N b.1 b.2.1 b.2.2.1 b.2.2.2.1 b.2.2.2.2.1 b.2.2.2.2.2.1 b.2.2.2.2.2.2.1 b.2.2.2.2.2.2.2 x1 x2 (fun r b => P 0 r b) (fun E b => (E = eO ∧ P 1 0 b) ∨ (E = eA ∧ P 2 0 b))) : Met l yL_opens wsL_opens ({ frames := 8, cells := 2, slots := 12, locals := 160 } : Room) (va_Pc [.ref o, .int x1, .int x2, .ref q] (mb_BL D Y (wO Y q f ++ wB Y o a aa b) sz)) (va_Qi (mb_PW P) (fun u t => mb_T D (va_A (wO Y q f ++ wB Y o a aa b) sz) (wO Y q u.2 ++ wB Y o a aa u.1) t) (va_A (wO Y q f ++ wB Y o a aa b) sz)) 2 12 (va_A (wO Y q f ++ wB Y o a aa b) sz) := by
  refine mbl_begin (cc := cL_opens) (maxL := 5) (ret := some .int) (hh := [(0, 10, 13, 13), (0, 10, 17, 15)]) hl0 (by decide +kernel) rfl (Nat.le_of_ble_eq_true rfl) ?_
  intro p e s m below meth c ls C hsz hP hD hl
  generalize hAe : va_A (wO Y q f ++ wB Y o a aa b) sz = A at C hD ⊢
  have C : mb_CL l p s m meth c ([.ref o, .int x1, .int x2, .ref q] : List Value).toArray cL_opens 5 (some .int) wsL_opens RL D Y A [(0, 10, 13, 13), (0, 10, 17, 15)] := C
  obtain ⟨⟨hx, hb, hr, hml, hts, hown, hlocks, hA, hG⟩, hT, hX, hl0, hN⟩ := id C
  have hK := hG.1
  have hS : va_S A s.heap s.heap [] := va_S.rf
  have hl : lv_has ls 5 [(0, .ref o), (1, .int x1), (2, .int x2), (3, .ref q)] := hl
  refine lv_aload_n hx hb dL_opens_0 rfl (lv_at hl 3 rfl) ?_
  refine lv_iconst (v := 0) hx hb dL_opens_1 (by decide) ?_
  refine lv_aload_n hx hb dL_opens_2 rfl (lv_at hl 0 rfl) ?_
  refine lv_iload_n hx hb dL_opens_3 rfl (lv_at hl 1 rfl) ?_
  refine lv_iload_n hx hb dL_opens_4 rfl (lv_at hl 2 rfl) ?_
  refine mbl_cW (wf := fun u : mb_bs => wO Y q f ++ wB Y o a aa u) C hD hS (vx_runV (As := [.int x1, .int x2]) (rest := [.int 0, .ref q]) ⟨hx, hb, hml, hown, hts⟩ (mbx_fr (W := wO Y q f ++ wB Y o a aa b) (wr := wO Y q f) (WF := fun u : mb_bs => wO Y q f ++ wB Y o a aa u) (fun u => u) (fun u => u) List.perm_append_comm (fun u => List.perm_append_comm) (fun u => List.perm_append_comm) (fun _ _ h => h) (fun _ _ h => h) (cf_opens l hl0 D Y N o a aa _ _ _ _ _ _ _ _ _ x1 x2 _ _ hF)) (cwV 2 hts gL_opens_X7_opens rfl rfl rfl (by decide +kernel) ⟨(Nat.le_of_ble_eq_true rfl), (Nat.le_of_ble_eq_true rfl)⟩) (mbl_preV C hP hD hS 1 rfl rfl) rfl rfl hl.1 rfl (lv_room (Nat.le_of_ble_eq_true rfl)) dL_opens_5 ⟨(Nat.le_of_ble_eq_true rfl), (Nat.le_of_ble_eq_true rfl)⟩) (fun E ce q9 u H locs hF hP hD hS hce hcv hcl => ?_) (fun r u H locs hF hP hD hS => ?_)
  · rcases hF with ⟨rfl, hF⟩ | ⟨rfl, hF⟩
    · refine vx_catch (own := RL) (name := "java/lang/IndexOutOfBoundsException") hown [] ⟨0, 10, 13, 13⟩ [⟨0, 10, 17, 15⟩] (by rw [hT]; rfl) (fun z h => absurd h List.not_mem_nil) rfl (by decide) (hts (.classLink RL 13 "java/lang/IndexOutOfBoundsException") (List.mem_of_getElem? (i := 1) rfl)) (va_Nw.use rfl (hG.2.1 _ (List.mem_of_getElem? (i := 27) rfl))) hce hcv hcl ?_
      refine lv_astore (lv' := [(4, .ref q9), (0, .ref o), (1, .int x1), (2, .int x2), (3, .ref q)]) hx hb dL_opens_13 hl (by decide) rfl (fun ls hl => ?_)
      refine lv_iconst (v := 1) hx hb dL_opens_15 (by decide) ?_
      exact mb_ri (S := mb_bs × (Nat → Int64)) (wf := fun u => wO Y q u.2 ++ wB Y o a aa u.1) C.1 rfl (u := (u, f)) ⟨1, 0, by decide, rfl, hF, fun h => absurd h (by decide)⟩ hP hD hS dL_opens_16 (Nat.le_of_ble_eq_true rfl) (Nat.le_of_ble_eq_true rfl)
    · refine vx_catch (own := RL) (name := "java/lang/IllegalArgumentException") hown [⟨0, 10, 13, 13⟩] ⟨0, 10, 17, 15⟩ [] (by rw [hT]; rfl) (fun z h => by
        simp only [List.mem_cons, List.not_mem_nil, or_false] at h
        rcases h with rfl
        · exact Or.inr ⟨by decide, _, (hts (.classLink RL 13 "java/lang/IndexOutOfBoundsException") (List.mem_of_getElem? (i := 1) rfl)), hN.1⟩) rfl (by decide) (hts (.classLink RL 15 "java/lang/IllegalArgumentException") (List.mem_of_getElem? (i := 2) rfl)) (va_Nw.use rfl (hG.2.1 _ (List.mem_of_getElem? (i := 28) rfl))) hce hcv hcl ?_
      refine lv_astore (lv' := [(4, .ref q9), (0, .ref o), (1, .int x1), (2, .int x2), (3, .ref q)]) hx hb dL_opens_17 hl (by decide) rfl (fun ls hl => ?_)
      refine lv_iconst (v := 2) hx hb dL_opens_19 (by decide) ?_
      exact mb_ri (S := mb_bs × (Nat → Int64)) (wf := fun u => wO Y q u.2 ++ wB Y o a aa u.1) C.1 rfl (u := (u, f)) ⟨2, 0, by decide, rfl, hF, fun h => absurd h (by decide)⟩ hP hD hS dL_opens_20 (Nat.le_of_ble_eq_true rfl) (Nat.le_of_ble_eq_true rfl)
  · refine lv_i2l (v := r.toInt64) hx hb dL_opens_8 rfl ?_
    refine va_last hx hb hK hP hD hS 0 2 rfl rfl mb_in01 dL_opens_9 (fun H locs hP hD hS => ?_)
    refine lv_goto (tgt := 21) hx hb dL_opens_10 (by decide) ?_
    refine lv_iconst (v := 0) hx hb dL_opens_21 (by decide) ?_
    exact mb_ri (S := mb_bs × (Nat → Int64)) (wf := fun u => wO Y q u.2 ++ wB Y o a aa u.1) C.1 rfl (u := (u, vp_updL f 0 (r.toInt64))) ⟨0, r, by decide, rfl, hF, fun _ => rfl⟩ hP hD hS dL_opens_22 (Nat.le_of_ble_eq_true rfl) (Nat.le_of_ble_eq_true rfl)
