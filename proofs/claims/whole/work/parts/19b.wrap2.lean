set_option maxHeartbeats 4000000 in
set_option maxRecDepth 100000 in
theorem cw_skin (l : Launch) (hl0 : l.stackTraces = false) (D : va_G) (Y : Nat → ClassId) (N : Nat) (o : Nat) (a aa : Nat → Nat) (b : mb_bs) (q : Nat) (f : Nat → Int64) (sz : Nat) (x1 : Int32) (P : Int → Int32 → mb_bs → Prop) (hF : BP_skin N b.1 b.2.1 b.2.2.1 b.2.2.2.1 b.2.2.2.2.1 b.2.2.2.2.2.1 b.2.2.2.2.2.2.1 b.2.2.2.2.2.2.2 x1 (fun r b => P 0 r b) (fun E b => (E = eA ∧ P 1 0 b) ∨ (E = eS ∧ P 2 0 b))) : Met l yL_skin wsL_skin ({ frames := 8, cells := 4, slots := 77, locals := 160 } : Room) (va_Pc [.ref o, .int x1, .ref q] (mb_BL D Y (wO Y q f ++ wB Y o a aa b) sz)) (va_Qi (mb_PW P) (fun u t => mb_T D (va_A (wO Y q f ++ wB Y o a aa b) sz) (wO Y q u.2 ++ wB Y o a aa u.1) t) (va_A (wO Y q f ++ wB Y o a aa b) sz)) 4 77 (va_A (wO Y q f ++ wB Y o a aa b) sz) := by
  refine mbl_begin (cc := cL_skin) (maxL := 4) (ret := some .int) (hh := [(0, 9, 12, 15), (0, 9, 15, 25)]) hl0 (by decide +kernel) rfl (Nat.le_of_ble_eq_true rfl) ?_
  intro p e s m below meth c ls C hsz hP hD hl
  generalize hAe : va_A (wO Y q f ++ wB Y o a aa b) sz = A at C hD ⊢
  have C : mb_CL l p s m meth c ([.ref o, .int x1, .ref q] : List Value).toArray cL_skin 4 (some .int) wsL_skin RL D Y A [(0, 9, 12, 15), (0, 9, 15, 25)] := C
  obtain ⟨⟨hx, hb, hr, hml, hts, hown, hlocks, hA, hG⟩, hT, hX, hl0, hN⟩ := id C
  have hK := hG.1
  have hS : va_S A s.heap s.heap [] := va_S.rf
  have hl : lv_has ls 4 [(0, .ref o), (1, .int x1), (2, .ref q)] := hl
  refine lv_aload_n hx hb dL_skin_0 rfl (lv_at hl 2 rfl) ?_
  refine lv_iconst (v := 0) hx hb dL_skin_1 (by decide) ?_
  refine lv_aload_n hx hb dL_skin_2 rfl (lv_at hl 0 rfl) ?_
  refine lv_iload_n hx hb dL_skin_3 rfl (lv_at hl 1 rfl) ?_
  refine mbl_cW (wf := fun u : mb_bs => wO Y q f ++ wB Y o a aa u) C hD hS (vx_runV (As := [.int x1]) (rest := [.int 0, .ref q]) ⟨hx, hb, hml, hown, hts⟩ (mbx_fr (W := wO Y q f ++ wB Y o a aa b) (wr := wO Y q f) (WF := fun u : mb_bs => wO Y q f ++ wB Y o a aa u) (fun u => u) (fun u => u) List.perm_append_comm (fun u => List.perm_append_comm) (fun u => List.perm_append_comm) (fun _ _ h => h) (fun _ _ h => h) (cf_skin l hl0 D Y N o a aa _ _ _ _ _ _ _ _ _ x1 _ _ hF)) (cwV 1 hts gL_skin_X7_skin rfl rfl rfl (by decide +kernel) ⟨(Nat.le_of_ble_eq_true rfl), (Nat.le_of_ble_eq_true rfl)⟩) (mbl_preV C hP hD hS 1 rfl rfl) rfl rfl hl.1 rfl (lv_room (Nat.le_of_ble_eq_true rfl)) dL_skin_4 ⟨(Nat.le_of_ble_eq_true rfl), (Nat.le_of_ble_eq_true rfl)⟩) (fun E ce q9 u H locs hF hP hD hS hce hcv hcl => ?_) (fun r u H locs hF hP hD hS => ?_)
  · rcases hF with ⟨rfl, hF⟩ | ⟨rfl, hF⟩
    · refine vx_catch (own := RL) (name := "java/lang/IllegalArgumentException") hown [] ⟨0, 9, 12, 15⟩ [⟨0, 9, 15, 25⟩] (by rw [hT]; rfl) (fun z h => absurd h List.not_mem_nil) rfl (by decide) (hts (.classLink RL 15 "java/lang/IllegalArgumentException") (List.mem_of_getElem? (i := 1) rfl)) (va_Nw.use rfl (hG.2.1 _ (List.mem_of_getElem? (i := 28) rfl))) hce hcv hcl ?_
      refine lv_astore_n (lv' := [(3, .ref q9), (0, .ref o), (1, .int x1), (2, .ref q)]) hx hb dL_skin_12 rfl hl (by decide) rfl (fun ls hl => ?_)
      refine lv_iconst (v := 1) hx hb dL_skin_13 (by decide) ?_
      exact mb_ri (S := mb_bs × (Nat → Int64)) (wf := fun u => wO Y q u.2 ++ wB Y o a aa u.1) C.1 rfl (u := (u, f)) ⟨1, 0, by decide, rfl, hF, fun h => absurd h (by decide)⟩ hP hD hS dL_skin_14 (Nat.le_of_ble_eq_true rfl) (Nat.le_of_ble_eq_true rfl)
    · refine vx_catch (own := RL) (name := "java/lang/IllegalStateException") hown [⟨0, 9, 12, 15⟩] ⟨0, 9, 15, 25⟩ [] (by rw [hT]; rfl) (fun z h => by
        simp only [List.mem_cons, List.not_mem_nil, or_false] at h
        rcases h with rfl
        · exact Or.inr ⟨by decide, _, (hts (.classLink RL 15 "java/lang/IllegalArgumentException") (List.mem_of_getElem? (i := 1) rfl)), hN.2.2⟩) rfl (by decide) (hts (.classLink RL 25 "java/lang/IllegalStateException") (List.mem_of_getElem? (i := 2) rfl)) (va_Nw.use rfl (hG.2.1 _ (List.mem_of_getElem? (i := 29) rfl))) hce hcv hcl ?_
      refine lv_astore_n (lv' := [(3, .ref q9), (0, .ref o), (1, .int x1), (2, .ref q)]) hx hb dL_skin_15 rfl hl (by decide) rfl (fun ls hl => ?_)
      refine lv_iconst (v := 2) hx hb dL_skin_16 (by decide) ?_
      exact mb_ri (S := mb_bs × (Nat → Int64)) (wf := fun u => wO Y q u.2 ++ wB Y o a aa u.1) C.1 rfl (u := (u, f)) ⟨2, 0, by decide, rfl, hF, fun h => absurd h (by decide)⟩ hP hD hS dL_skin_17 (Nat.le_of_ble_eq_true rfl) (Nat.le_of_ble_eq_true rfl)
  · refine lv_i2l (v := r.toInt64) hx hb dL_skin_7 rfl ?_
    refine va_last hx hb hK hP hD hS 0 2 rfl rfl mb_in01 dL_skin_8 (fun H locs hP hD hS => ?_)
    refine lv_goto (tgt := 18) hx hb dL_skin_9 (by decide) ?_
    refine lv_iconst (v := 0) hx hb dL_skin_18 (by decide) ?_
    exact mb_ri (S := mb_bs × (Nat → Int64)) (wf := fun u => wO Y q u.2 ++ wB Y o a aa u.1) C.1 rfl (u := (u, vp_updL f 0 (r.toInt64))) ⟨0, r, by decide, rfl, hF, fun _ => rfl⟩ hP hD hS dL_skin_19 (Nat.le_of_ble_eq_true rfl) (Nat.le_of_ble_eq_true rfl)
set_option maxHeartbeats 4000000 in
set_option maxRecDepth 100000 in
theorem cw_pare (l : Launch) (hl0 : l.stackTraces = false) (D : va_G) (Y : Nat → ClassId) (N : Nat) (o : Nat) (a aa : Nat → Nat) (b : mb_bs) (q : Nat) (f : Nat → Int64) (sz : Nat) (x1 x2 x3 x4 x5 x6 : Int32) (P : Int → Int32 → mb_bs → Prop) (hF : BP_pare N b.1 b.2.1 b.2.2.1 b.2.2.2.1 b.2.2.2.2.1 b.2.2.2.2.2.1 b.2.2.2.2.2.2.1 b.2.2.2.2.2.2.2 x1 x2 x3 x4 x5 x6 (fun r b => P 0 r b) (fun E b => (E = eO ∧ P 1 0 b) ∨ (E = eA ∧ P 2 0 b) ∨ (E = eS ∧ P 3 0 b))) : Met l yL_pare wsL_pare ({ frames := 8, cells := 4, slots := 24, locals := 160 } : Room) (va_Pc [.ref o, .int x1, .int x2, .int x3, .int x4, .int x5, .int x6, .ref q] (mb_BL D Y (wO Y q f ++ wB Y o a aa b) sz)) (va_Qi (mb_PW P) (fun u t => mb_T D (va_A (wO Y q f ++ wB Y o a aa b) sz) (wO Y q u.2 ++ wB Y o a aa u.1) t) (va_A (wO Y q f ++ wB Y o a aa b) sz)) 4 24 (va_A (wO Y q f ++ wB Y o a aa b) sz) := by
  refine mbl_begin (cc := cL_pare) (maxL := 9) (ret := some .int) (hh := [(0, 18, 21, 13), (0, 18, 25, 15), (0, 18, 29, 25)]) hl0 (by decide +kernel) rfl (Nat.le_of_ble_eq_true rfl) ?_
  intro p e s m below meth c ls C hsz hP hD hl
  generalize hAe : va_A (wO Y q f ++ wB Y o a aa b) sz = A at C hD ⊢
  have C : mb_CL l p s m meth c ([.ref o, .int x1, .int x2, .int x3, .int x4, .int x5, .int x6, .ref q] : List Value).toArray cL_pare 9 (some .int) wsL_pare RL D Y A [(0, 18, 21, 13), (0, 18, 25, 15), (0, 18, 29, 25)] := C
  obtain ⟨⟨hx, hb, hr, hml, hts, hown, hlocks, hA, hG⟩, hT, hX, hl0, hN⟩ := id C
  have hK := hG.1
  have hS : va_S A s.heap s.heap [] := va_S.rf
  have hl : lv_has ls 9 [(0, .ref o), (1, .int x1), (2, .int x2), (3, .int x3), (4, .int x4), (5, .int x5), (6, .int x6), (7, .ref q)] := hl
  refine lv_aload hx hb dL_pare_0 (lv_at hl 7 rfl) ?_
  refine lv_iconst (v := 0) hx hb dL_pare_2 (by decide) ?_
  refine lv_aload_n hx hb dL_pare_3 rfl (lv_at hl 0 rfl) ?_
  refine lv_iload_n hx hb dL_pare_4 rfl (lv_at hl 1 rfl) ?_
  refine lv_iload_n hx hb dL_pare_5 rfl (lv_at hl 2 rfl) ?_
  refine lv_iload_n hx hb dL_pare_6 rfl (lv_at hl 3 rfl) ?_
  refine lv_iload hx hb dL_pare_7 (lv_at hl 4 rfl) ?_
  refine lv_iload hx hb dL_pare_9 (lv_at hl 5 rfl) ?_
  refine lv_iload hx hb dL_pare_11 (lv_at hl 6 rfl) ?_
  refine mbl_cW (wf := fun u : mb_bs => wO Y q f ++ wB Y o a aa u) C hD hS (vx_runV (As := [.int x1, .int x2, .int x3, .int x4, .int x5, .int x6]) (rest := [.int 0, .ref q]) ⟨hx, hb, hml, hown, hts⟩ (mbx_fr (W := wO Y q f ++ wB Y o a aa b) (wr := wO Y q f) (WF := fun u : mb_bs => wO Y q f ++ wB Y o a aa u) (fun u => u) (fun u => u) List.perm_append_comm (fun u => List.perm_append_comm) (fun u => List.perm_append_comm) (fun _ _ h => h) (fun _ _ h => h) (cf_pare l hl0 D Y N o a aa _ _ _ _ _ _ _ _ _ x1 x2 x3 x4 x5 x6 _ _ hF)) (cwV 6 hts gL_pare_X7_pare rfl rfl rfl (by decide +kernel) ⟨(Nat.le_of_ble_eq_true rfl), (Nat.le_of_ble_eq_true rfl)⟩) (mbl_preV C hP hD hS 1 rfl rfl) rfl rfl hl.1 rfl (lv_room (Nat.le_of_ble_eq_true rfl)) dL_pare_13 ⟨(Nat.le_of_ble_eq_true rfl), (Nat.le_of_ble_eq_true rfl)⟩) (fun E ce q9 u H locs hF hP hD hS hce hcv hcl => ?_) (fun r u H locs hF hP hD hS => ?_)
  · rcases hF with ⟨rfl, hF⟩ | ⟨rfl, hF⟩ | ⟨rfl, hF⟩
    · refine vx_catch (own := RL) (name := "java/lang/IndexOutOfBoundsException") hown [] ⟨0, 18, 21, 13⟩ [⟨0, 18, 25, 15⟩, ⟨0, 18, 29, 25⟩] (by rw [hT]; rfl) (fun z h => absurd h List.not_mem_nil) rfl (by decide) (hts (.classLink RL 13 "java/lang/IndexOutOfBoundsException") (List.mem_of_getElem? (i := 1) rfl)) (va_Nw.use rfl (hG.2.1 _ (List.mem_of_getElem? (i := 27) rfl))) hce hcv hcl ?_
      refine lv_astore (lv' := [(8, .ref q9), (0, .ref o), (1, .int x1), (2, .int x2), (3, .int x3), (4, .int x4), (5, .int x5), (6, .int x6), (7, .ref q)]) hx hb dL_pare_21 hl (by decide) rfl (fun ls hl => ?_)
      refine lv_iconst (v := 1) hx hb dL_pare_23 (by decide) ?_
      exact mb_ri (S := mb_bs × (Nat → Int64)) (wf := fun u => wO Y q u.2 ++ wB Y o a aa u.1) C.1 rfl (u := (u, f)) ⟨1, 0, by decide, rfl, hF, fun h => absurd h (by decide)⟩ hP hD hS dL_pare_24 (Nat.le_of_ble_eq_true rfl) (Nat.le_of_ble_eq_true rfl)
    · refine vx_catch (own := RL) (name := "java/lang/IllegalArgumentException") hown [⟨0, 18, 21, 13⟩] ⟨0, 18, 25, 15⟩ [⟨0, 18, 29, 25⟩] (by rw [hT]; rfl) (fun z h => by
        simp only [List.mem_cons, List.not_mem_nil, or_false] at h
        rcases h with rfl
        · exact Or.inr ⟨by decide, _, (hts (.classLink RL 13 "java/lang/IndexOutOfBoundsException") (List.mem_of_getElem? (i := 1) rfl)), hN.1⟩) rfl (by decide) (hts (.classLink RL 15 "java/lang/IllegalArgumentException") (List.mem_of_getElem? (i := 2) rfl)) (va_Nw.use rfl (hG.2.1 _ (List.mem_of_getElem? (i := 28) rfl))) hce hcv hcl ?_
      refine lv_astore (lv' := [(8, .ref q9), (0, .ref o), (1, .int x1), (2, .int x2), (3, .int x3), (4, .int x4), (5, .int x5), (6, .int x6), (7, .ref q)]) hx hb dL_pare_25 hl (by decide) rfl (fun ls hl => ?_)
      refine lv_iconst (v := 2) hx hb dL_pare_27 (by decide) ?_
      exact mb_ri (S := mb_bs × (Nat → Int64)) (wf := fun u => wO Y q u.2 ++ wB Y o a aa u.1) C.1 rfl (u := (u, f)) ⟨2, 0, by decide, rfl, hF, fun h => absurd h (by decide)⟩ hP hD hS dL_pare_28 (Nat.le_of_ble_eq_true rfl) (Nat.le_of_ble_eq_true rfl)
    · refine vx_catch (own := RL) (name := "java/lang/IllegalStateException") hown [⟨0, 18, 21, 13⟩, ⟨0, 18, 25, 15⟩] ⟨0, 18, 29, 25⟩ [] (by rw [hT]; rfl) (fun z h => by
        simp only [List.mem_cons, List.not_mem_nil, or_false] at h
        rcases h with rfl | rfl
        · exact Or.inr ⟨by decide, _, (hts (.classLink RL 13 "java/lang/IndexOutOfBoundsException") (List.mem_of_getElem? (i := 1) rfl)), hN.2.1⟩
        · exact Or.inr ⟨by decide, _, (hts (.classLink RL 15 "java/lang/IllegalArgumentException") (List.mem_of_getElem? (i := 2) rfl)), hN.2.2⟩) rfl (by decide) (hts (.classLink RL 25 "java/lang/IllegalStateException") (List.mem_of_getElem? (i := 3) rfl)) (va_Nw.use rfl (hG.2.1 _ (List.mem_of_getElem? (i := 29) rfl))) hce hcv hcl ?_
      refine lv_astore (lv' := [(8, .ref q9), (0, .ref o), (1, .int x1), (2, .int x2), (3, .int x3), (4, .int x4), (5, .int x5), (6, .int x6), (7, .ref q)]) hx hb dL_pare_29 hl (by decide) rfl (fun ls hl => ?_)
      refine lv_iconst (v := 3) hx hb dL_pare_31 (by decide) ?_
      exact mb_ri (S := mb_bs × (Nat → Int64)) (wf := fun u => wO Y q u.2 ++ wB Y o a aa u.1) C.1 rfl (u := (u, f)) ⟨3, 0, by decide, rfl, hF, fun h => absurd h (by decide)⟩ hP hD hS dL_pare_32 (Nat.le_of_ble_eq_true rfl) (Nat.le_of_ble_eq_true rfl)
  · refine lv_i2l (v := r.toInt64) hx hb dL_pare_16 rfl ?_
    refine va_last hx hb hK hP hD hS 0 2 rfl rfl mb_in01 dL_pare_17 (fun H locs hP hD hS => ?_)
    refine lv_goto (tgt := 33) hx hb dL_pare_18 (by decide) ?_
    refine lv_iconst (v := 0) hx hb dL_pare_33 (by decide) ?_
    exact mb_ri (S := mb_bs × (Nat → Int64)) (wf := fun u => wO Y q u.2 ++ wB Y o a aa u.1) C.1 rfl (u := (u, vp_updL f 0 (r.toInt64))) ⟨0, r, by decide, rfl, hF, fun _ => rfl⟩ hP hD hS dL_pare_34 (Nat.le_of_ble_eq_true rfl) (Nat.le_of_ble_eq_true rfl)
set_option maxHeartbeats 4000000 in
set_option maxRecDepth 100000 in
theorem cw_thickAt (l : Launch) (hl0 : l.stackTraces = false) (D : va_G) (Y : Nat → ClassId) (N : Nat) (o : Nat) (a aa : Nat → Nat) (b : mb_bs) (q : Nat) (f : Nat → Int64) (sz : Nat) (x1 x2 x3 : Int32) (P : Int → Int32 → mb_bs → Prop) (hF : BP_thickAt N b.1 b.2.1 b.2.2.1 b.2.2.2.1 b.2.2.2.2.1 b.2.2.2.2.2.1 b.2.2.2.2.2.2.1 b.2.2.2.2.2.2.2 x1 x2 x3 (fun r b => P 0 r b) (fun E b => (E = eO ∧ P 1 0 b))) : Met l yL_thickAt wsL_thickAt ({ frames := 8, cells := 2, slots := 12, locals := 160 } : Room) (va_Pc [.ref o, .int x1, .int x2, .int x3, .ref q] (mb_BL D Y (wO Y q f ++ wB Y o a aa b) sz)) (va_Qi (mb_PW P) (fun u t => mb_T D (va_A (wO Y q f ++ wB Y o a aa b) sz) (wO Y q u.2 ++ wB Y o a aa u.1) t) (va_A (wO Y q f ++ wB Y o a aa b) sz)) 2 12 (va_A (wO Y q f ++ wB Y o a aa b) sz) := by
  refine mbl_begin (cc := cL_thickAt) (maxL := 6) (ret := some .int) (hh := [(0, 12, 15, 13)]) hl0 (by decide +kernel) rfl (Nat.le_of_ble_eq_true rfl) ?_
  intro p e s m below meth c ls C hsz hP hD hl
  generalize hAe : va_A (wO Y q f ++ wB Y o a aa b) sz = A at C hD ⊢
  have C : mb_CL l p s m meth c ([.ref o, .int x1, .int x2, .int x3, .ref q] : List Value).toArray cL_thickAt 6 (some .int) wsL_thickAt RL D Y A [(0, 12, 15, 13)] := C
  obtain ⟨⟨hx, hb, hr, hml, hts, hown, hlocks, hA, hG⟩, hT, hX, hl0, hN⟩ := id C
  have hK := hG.1
  have hS : va_S A s.heap s.heap [] := va_S.rf
  have hl : lv_has ls 6 [(0, .ref o), (1, .int x1), (2, .int x2), (3, .int x3), (4, .ref q)] := hl
  refine lv_aload hx hb dL_thickAt_0 (lv_at hl 4 rfl) ?_
  refine lv_iconst (v := 0) hx hb dL_thickAt_2 (by decide) ?_
  refine lv_aload_n hx hb dL_thickAt_3 rfl (lv_at hl 0 rfl) ?_
  refine lv_iload_n hx hb dL_thickAt_4 rfl (lv_at hl 1 rfl) ?_
  refine lv_iload_n hx hb dL_thickAt_5 rfl (lv_at hl 2 rfl) ?_
  refine lv_iload_n hx hb dL_thickAt_6 rfl (lv_at hl 3 rfl) ?_
  refine mbl_cW (wf := fun u : mb_bs => wO Y q f ++ wB Y o a aa u) C hD hS (vx_runV (As := [.int x1, .int x2, .int x3]) (rest := [.int 0, .ref q]) ⟨hx, hb, hml, hown, hts⟩ (mbx_fr (W := wO Y q f ++ wB Y o a aa b) (wr := wO Y q f) (WF := fun u : mb_bs => wO Y q f ++ wB Y o a aa u) (fun u => u) (fun u => u) List.perm_append_comm (fun u => List.perm_append_comm) (fun u => List.perm_append_comm) (fun _ _ h => h) (fun _ _ h => h) (cf_thickAt l hl0 D Y N o a aa _ _ _ _ _ _ _ _ _ x1 x2 x3 _ _ hF)) (cwV 3 hts gL_thickAt_X7_thickAt rfl rfl rfl (by decide +kernel) ⟨(Nat.le_of_ble_eq_true rfl), (Nat.le_of_ble_eq_true rfl)⟩) (mbl_preV C hP hD hS 1 rfl rfl) rfl rfl hl.1 rfl (lv_room (Nat.le_of_ble_eq_true rfl)) dL_thickAt_7 ⟨(Nat.le_of_ble_eq_true rfl), (Nat.le_of_ble_eq_true rfl)⟩) (fun E ce q9 u H locs hF hP hD hS hce hcv hcl => ?_) (fun r u H locs hF hP hD hS => ?_)
  · obtain ⟨rfl, hF⟩ := hF
    refine vx_catch (own := RL) (name := "java/lang/IndexOutOfBoundsException") hown [] ⟨0, 12, 15, 13⟩ [] (by rw [hT]; rfl) (fun z h => absurd h List.not_mem_nil) rfl (by decide) (hts (.classLink RL 13 "java/lang/IndexOutOfBoundsException") (List.mem_of_getElem? (i := 1) rfl)) (va_Nw.use rfl (hG.2.1 _ (List.mem_of_getElem? (i := 27) rfl))) hce hcv hcl ?_
    refine lv_astore (lv' := [(5, .ref q9), (0, .ref o), (1, .int x1), (2, .int x2), (3, .int x3), (4, .ref q)]) hx hb dL_thickAt_15 hl (by decide) rfl (fun ls hl => ?_)
    refine lv_iconst (v := 1) hx hb dL_thickAt_17 (by decide) ?_
    exact mb_ri (S := mb_bs × (Nat → Int64)) (wf := fun u => wO Y q u.2 ++ wB Y o a aa u.1) C.1 rfl (u := (u, f)) ⟨1, 0, by decide, rfl, hF, fun h => absurd h (by decide)⟩ hP hD hS dL_thickAt_18 (Nat.le_of_ble_eq_true rfl) (Nat.le_of_ble_eq_true rfl)
  · refine lv_i2l (v := r.toInt64) hx hb dL_thickAt_10 rfl ?_
    refine va_last hx hb hK hP hD hS 0 2 rfl rfl mb_in01 dL_thickAt_11 (fun H locs hP hD hS => ?_)
    refine lv_goto (tgt := 19) hx hb dL_thickAt_12 (by decide) ?_
    refine lv_iconst (v := 0) hx hb dL_thickAt_19 (by decide) ?_
    exact mb_ri (S := mb_bs × (Nat → Int64)) (wf := fun u => wO Y q u.2 ++ wB Y o a aa u.1) C.1 rfl (u := (u, vp_updL f 0 (r.toInt64))) ⟨0, r, by decide, rfl, hF, fun _ => rfl⟩ hP hD hS dL_thickAt_20 (Nat.le_of_ble_eq_true rfl) (Nat.le_of_ble_eq_true rfl)
set_option maxHeartbeats 4000000 in
set_option maxRecDepth 100000 in
theorem cw_tooThick (l : Launch) (hl0 : l.stackTraces = false) (D : va_G) (Y : Nat → ClassId) (N : Nat) (o : Nat) (a aa : Nat → Nat) (b : mb_bs) (q : Nat) (f : Nat → Int64) (sz : Nat) (x1 : Int32) (P : Int → Int32 → mb_bs → Prop) (hF : BP_tooThick N b.1 b.2.1 b.2.2.1 b.2.2.2.1 b.2.2.2.2.1 b.2.2.2.2.2.1 b.2.2.2.2.2.2.1 b.2.2.2.2.2.2.2 x1 (fun r b => P 0 r b) (fun E b => (E = eO ∧ P 1 0 b))) : Met l yL_tooThick wsL_tooThick ({ frames := 8, cells := 1, slots := 6, locals := 160 } : Room) (va_Pc [.ref o, .int x1, .ref q] (mb_BL D Y (wO Y q f ++ wB Y o a aa b) sz)) (va_Qi (mb_PW P) (fun u t => mb_T D (va_A (wO Y q f ++ wB Y o a aa b) sz) (wO Y q u.2 ++ wB Y o a aa u.1) t) (va_A (wO Y q f ++ wB Y o a aa b) sz)) 1 6 (va_A (wO Y q f ++ wB Y o a aa b) sz) := by
  refine mbl_begin (cc := cL_tooThick) (maxL := 4) (ret := some .int) (hh := [(0, 9, 12, 13)]) hl0 (by decide +kernel) rfl (Nat.le_of_ble_eq_true rfl) ?_
  intro p e s m below meth c ls C hsz hP hD hl
  generalize hAe : va_A (wO Y q f ++ wB Y o a aa b) sz = A at C hD ⊢
  have C : mb_CL l p s m meth c ([.ref o, .int x1, .ref q] : List Value).toArray cL_tooThick 4 (some .int) wsL_tooThick RL D Y A [(0, 9, 12, 13)] := C
  obtain ⟨⟨hx, hb, hr, hml, hts, hown, hlocks, hA, hG⟩, hT, hX, hl0, hN⟩ := id C
  have hK := hG.1
  have hS : va_S A s.heap s.heap [] := va_S.rf
  have hl : lv_has ls 4 [(0, .ref o), (1, .int x1), (2, .ref q)] := hl
  refine lv_aload_n hx hb dL_tooThick_0 rfl (lv_at hl 2 rfl) ?_
  refine lv_iconst (v := 0) hx hb dL_tooThick_1 (by decide) ?_
  refine lv_aload_n hx hb dL_tooThick_2 rfl (lv_at hl 0 rfl) ?_
  refine lv_iload_n hx hb dL_tooThick_3 rfl (lv_at hl 1 rfl) ?_
  refine mbl_cW (wf := fun u : mb_bs => wO Y q f ++ wB Y o a aa u) C hD hS (vx_runV (As := [.int x1]) (rest := [.int 0, .ref q]) ⟨hx, hb, hml, hown, hts⟩ (mbx_fr (W := wO Y q f ++ wB Y o a aa b) (wr := wO Y q f) (WF := fun u : mb_bs => wO Y q f ++ wB Y o a aa u) (fun u => u) (fun u => u) List.perm_append_comm (fun u => List.perm_append_comm) (fun u => List.perm_append_comm) (fun _ _ h => h) (fun _ _ h => h) (cf_tooThick l hl0 D Y N o a aa _ _ _ _ _ _ _ _ _ x1 _ _ hF)) (cwV 1 hts gL_tooThick_X7_tooThick rfl rfl rfl (by decide +kernel) ⟨(Nat.le_of_ble_eq_true rfl), (Nat.le_of_ble_eq_true rfl)⟩) (mbl_preV C hP hD hS 1 rfl rfl) rfl rfl hl.1 rfl (lv_room (Nat.le_of_ble_eq_true rfl)) dL_tooThick_4 ⟨(Nat.le_of_ble_eq_true rfl), (Nat.le_of_ble_eq_true rfl)⟩) (fun E ce q9 u H locs hF hP hD hS hce hcv hcl => ?_) (fun r u H locs hF hP hD hS => ?_)
  · obtain ⟨rfl, hF⟩ := hF
    refine vx_catch (own := RL) (name := "java/lang/IndexOutOfBoundsException") hown [] ⟨0, 9, 12, 13⟩ [] (by rw [hT]; rfl) (fun z h => absurd h List.not_mem_nil) rfl (by decide) (hts (.classLink RL 13 "java/lang/IndexOutOfBoundsException") (List.mem_of_getElem? (i := 1) rfl)) (va_Nw.use rfl (hG.2.1 _ (List.mem_of_getElem? (i := 27) rfl))) hce hcv hcl ?_
    refine lv_astore_n (lv' := [(3, .ref q9), (0, .ref o), (1, .int x1), (2, .ref q)]) hx hb dL_tooThick_12 rfl hl (by decide) rfl (fun ls hl => ?_)
    refine lv_iconst (v := 1) hx hb dL_tooThick_13 (by decide) ?_
    exact mb_ri (S := mb_bs × (Nat → Int64)) (wf := fun u => wO Y q u.2 ++ wB Y o a aa u.1) C.1 rfl (u := (u, f)) ⟨1, 0, by decide, rfl, hF, fun h => absurd h (by decide)⟩ hP hD hS dL_tooThick_14 (Nat.le_of_ble_eq_true rfl) (Nat.le_of_ble_eq_true rfl)
  · refine lv_i2l (v := r.toInt64) hx hb dL_tooThick_7 rfl ?_
    refine va_last hx hb hK hP hD hS 0 2 rfl rfl mb_in01 dL_tooThick_8 (fun H locs hP hD hS => ?_)
    refine lv_goto (tgt := 15) hx hb dL_tooThick_9 (by decide) ?_
    refine lv_iconst (v := 0) hx hb dL_tooThick_15 (by decide) ?_
    exact mb_ri (S := mb_bs × (Nat → Int64)) (wf := fun u => wO Y q u.2 ++ wB Y o a aa u.1) C.1 rfl (u := (u, vp_updL f 0 (r.toInt64))) ⟨0, r, by decide, rfl, hF, fun _ => rfl⟩ hP hD hS dL_tooThick_16 (Nat.le_of_ble_eq_true rfl) (Nat.le_of_ble_eq_true rfl)
set_option maxHeartbeats 4000000 in
set_option maxRecDepth 100000 in
theorem cw_repair (l : Launch) (hl0 : l.stackTraces = false) (D : va_G) (Y : Nat → ClassId) (N : Nat) (o : Nat) (a aa : Nat → Nat) (b : mb_bs) (q : Nat) (f : Nat → Int64) (sz : Nat) (x1 x2 : Int32) (P : Int → Int32 → mb_bs → Prop) (hF : BP_repair N b.1 b.2.1 b.2.2.1 b.2.2.2.1 b.2.2.2.2.1 b.2.2.2.2.2.1 b.2.2.2.2.2.2.1 b.2.2.2.2.2.2.2 x1 x2 (fun r b => P 0 r b) (fun E b => (E = eO ∧ P 1 0 b) ∨ (E = eA ∧ P 2 0 b) ∨ (E = eS ∧ P 3 0 b))) : Met l yL_repair wsL_repair ({ frames := 8, cells := 4, slots := 24, locals := 160 } : Room) (va_Pc [.ref o, .int x1, .int x2, .ref q] (mb_BL D Y (wO Y q f ++ wB Y o a aa b) sz)) (va_Qi (mb_PW P) (fun u t => mb_T D (va_A (wO Y q f ++ wB Y o a aa b) sz) (wO Y q u.2 ++ wB Y o a aa u.1) t) (va_A (wO Y q f ++ wB Y o a aa b) sz)) 4 24 (va_A (wO Y q f ++ wB Y o a aa b) sz) := by
  refine mbl_begin (cc := cL_repair) (maxL := 5) (ret := some .int) (hh := [(0, 10, 13, 13), (0, 10, 17, 15), (0, 10, 21, 25)]) hl0 (by decide +kernel) rfl (Nat.le_of_ble_eq_true rfl) ?_
  intro p e s m below meth c ls C hsz hP hD hl
  generalize hAe : va_A (wO Y q f ++ wB Y o a aa b) sz = A at C hD ⊢
  have C : mb_CL l p s m meth c ([.ref o, .int x1, .int x2, .ref q] : List Value).toArray cL_repair 5 (some .int) wsL_repair RL D Y A [(0, 10, 13, 13), (0, 10, 17, 15), (0, 10, 21, 25)] := C
  obtain ⟨⟨hx, hb, hr, hml, hts, hown, hlocks, hA, hG⟩, hT, hX, hl0, hN⟩ := id C
  have hK := hG.1
  have hS : va_S A s.heap s.heap [] := va_S.rf
  have hl : lv_has ls 5 [(0, .ref o), (1, .int x1), (2, .int x2), (3, .ref q)] := hl
  refine lv_aload_n hx hb dL_repair_0 rfl (lv_at hl 3 rfl) ?_
  refine lv_iconst (v := 0) hx hb dL_repair_1 (by decide) ?_
  refine lv_aload_n hx hb dL_repair_2 rfl (lv_at hl 0 rfl) ?_
  refine lv_iload_n hx hb dL_repair_3 rfl (lv_at hl 1 rfl) ?_
  refine lv_iload_n hx hb dL_repair_4 rfl (lv_at hl 2 rfl) ?_
  refine mbl_cW (wf := fun u : mb_bs => wO Y q f ++ wB Y o a aa u) C hD hS (vx_runV (As := [.int x1, .int x2]) (rest := [.int 0, .ref q]) ⟨hx, hb, hml, hown, hts⟩ (mbx_fr (W := wO Y q f ++ wB Y o a aa b) (wr := wO Y q f) (WF := fun u : mb_bs => wO Y q f ++ wB Y o a aa u) (fun u => u) (fun u => u) List.perm_append_comm (fun u => List.perm_append_comm) (fun u => List.perm_append_comm) (fun _ _ h => h) (fun _ _ h => h) (cf_repair l hl0 D Y N o a aa _ _ _ _ _ _ _ _ _ x1 x2 _ _ hF)) (cwV 2 hts gL_repair_X7_repair rfl rfl rfl (by decide +kernel) ⟨(Nat.le_of_ble_eq_true rfl), (Nat.le_of_ble_eq_true rfl)⟩) (mbl_preV C hP hD hS 1 rfl rfl) rfl rfl hl.1 rfl (lv_room (Nat.le_of_ble_eq_true rfl)) dL_repair_5 ⟨(Nat.le_of_ble_eq_true rfl), (Nat.le_of_ble_eq_true rfl)⟩) (fun E ce q9 u H locs hF hP hD hS hce hcv hcl => ?_) (fun r u H locs hF hP hD hS => ?_)
  · rcases hF with ⟨rfl, hF⟩ | ⟨rfl, hF⟩ | ⟨rfl, hF⟩
    · refine vx_catch (own := RL) (name := "java/lang/IndexOutOfBoundsException") hown [] ⟨0, 10, 13, 13⟩ [⟨0, 10, 17, 15⟩, ⟨0, 10, 21, 25⟩] (by rw [hT]; rfl) (fun z h => absurd h List.not_mem_nil) rfl (by decide) (hts (.classLink RL 13 "java/lang/IndexOutOfBoundsException") (List.mem_of_getElem? (i := 1) rfl)) (va_Nw.use rfl (hG.2.1 _ (List.mem_of_getElem? (i := 27) rfl))) hce hcv hcl ?_
      refine lv_astore (lv' := [(4, .ref q9), (0, .ref o), (1, .int x1), (2, .int x2), (3, .ref q)]) hx hb dL_repair_13 hl (by decide) rfl (fun ls hl => ?_)
      refine lv_iconst (v := 1) hx hb dL_repair_15 (by decide) ?_
      exact mb_ri (S := mb_bs × (Nat → Int64)) (wf := fun u => wO Y q u.2 ++ wB Y o a aa u.1) C.1 rfl (u := (u, f)) ⟨1, 0, by decide, rfl, hF, fun h => absurd h (by decide)⟩ hP hD hS dL_repair_16 (Nat.le_of_ble_eq_true rfl) (Nat.le_of_ble_eq_true rfl)
    · refine vx_catch (own := RL) (name := "java/lang/IllegalArgumentException") hown [⟨0, 10, 13, 13⟩] ⟨0, 10, 17, 15⟩ [⟨0, 10, 21, 25⟩] (by rw [hT]; rfl) (fun z h => by
        simp only [List.mem_cons, List.not_mem_nil, or_false] at h
        rcases h with rfl
        · exact Or.inr ⟨by decide, _, (hts (.classLink RL 13 "java/lang/IndexOutOfBoundsException") (List.mem_of_getElem? (i := 1) rfl)), hN.1⟩) rfl (by decide) (hts (.classLink RL 15 "java/lang/IllegalArgumentException") (List.mem_of_getElem? (i := 2) rfl)) (va_Nw.use rfl (hG.2.1 _ (List.mem_of_getElem? (i := 28) rfl))) hce hcv hcl ?_
      refine lv_astore (lv' := [(4, .ref q9), (0, .ref o), (1, .int x1), (2, .int x2), (3, .ref q)]) hx hb dL_repair_17 hl (by decide) rfl (fun ls hl => ?_)
      refine lv_iconst (v := 2) hx hb dL_repair_19 (by decide) ?_
      exact mb_ri (S := mb_bs × (Nat → Int64)) (wf := fun u => wO Y q u.2 ++ wB Y o a aa u.1) C.1 rfl (u := (u, f)) ⟨2, 0, by decide, rfl, hF, fun h => absurd h (by decide)⟩ hP hD hS dL_repair_20 (Nat.le_of_ble_eq_true rfl) (Nat.le_of_ble_eq_true rfl)
    · refine vx_catch (own := RL) (name := "java/lang/IllegalStateException") hown [⟨0, 10, 13, 13⟩, ⟨0, 10, 17, 15⟩] ⟨0, 10, 21, 25⟩ [] (by rw [hT]; rfl) (fun z h => by
        simp only [List.mem_cons, List.not_mem_nil, or_false] at h
        rcases h with rfl | rfl
        · exact Or.inr ⟨by decide, _, (hts (.classLink RL 13 "java/lang/IndexOutOfBoundsException") (List.mem_of_getElem? (i := 1) rfl)), hN.2.1⟩
        · exact Or.inr ⟨by decide, _, (hts (.classLink RL 15 "java/lang/IllegalArgumentException") (List.mem_of_getElem? (i := 2) rfl)), hN.2.2⟩) rfl (by decide) (hts (.classLink RL 25 "java/lang/IllegalStateException") (List.mem_of_getElem? (i := 3) rfl)) (va_Nw.use rfl (hG.2.1 _ (List.mem_of_getElem? (i := 29) rfl))) hce hcv hcl ?_
      refine lv_astore (lv' := [(4, .ref q9), (0, .ref o), (1, .int x1), (2, .int x2), (3, .ref q)]) hx hb dL_repair_21 hl (by decide) rfl (fun ls hl => ?_)
      refine lv_iconst (v := 3) hx hb dL_repair_23 (by decide) ?_
      exact mb_ri (S := mb_bs × (Nat → Int64)) (wf := fun u => wO Y q u.2 ++ wB Y o a aa u.1) C.1 rfl (u := (u, f)) ⟨3, 0, by decide, rfl, hF, fun h => absurd h (by decide)⟩ hP hD hS dL_repair_24 (Nat.le_of_ble_eq_true rfl) (Nat.le_of_ble_eq_true rfl)
  · refine lv_i2l (v := r.toInt64) hx hb dL_repair_8 rfl ?_
    refine va_last hx hb hK hP hD hS 0 2 rfl rfl mb_in01 dL_repair_9 (fun H locs hP hD hS => ?_)
    refine lv_goto (tgt := 25) hx hb dL_repair_10 (by decide) ?_
    refine lv_iconst (v := 0) hx hb dL_repair_25 (by decide) ?_
    exact mb_ri (S := mb_bs × (Nat → Int64)) (wf := fun u => wO Y q u.2 ++ wB Y o a aa u.1) C.1 rfl (u := (u, vp_updL f 0 (r.toInt64))) ⟨0, r, by decide, rfl, hF, fun _ => rfl⟩ hP hD hS dL_repair_26 (Nat.le_of_ble_eq_true rfl) (Nat.le_of_ble_eq_true rfl)
set_option maxHeartbeats 4000000 in
set_option maxRecDepth 100000 in
theorem cw_undo (l : Launch) (hl0 : l.stackTraces = false) (D : va_G) (Y : Nat → ClassId) (N : Nat) (o : Nat) (a aa : Nat → Nat) (b : mb_bs) (q : Nat) (f : Nat → Int64) (sz : Nat) (x1 : Int32) (P : Int → Int32 → mb_bs → Prop) (hF : BP_undo N b.1 b.2.1 b.2.2.1 b.2.2.2.1 b.2.2.2.2.1 b.2.2.2.2.2.1 b.2.2.2.2.2.2.1 b.2.2.2.2.2.2.2 x1 (fun r b => P 0 r b) (fun E b => (E = eO ∧ P 1 0 b) ∨ (E = eS ∧ P 2 0 b))) : Met l yL_undo wsL_undo ({ frames := 8, cells := 2, slots := 12, locals := 160 } : Room) (va_Pc [.ref o, .int x1, .ref q] (mb_BL D Y (wO Y q f ++ wB Y o a aa b) sz)) (va_Qi (mb_PW P) (fun u t => mb_T D (va_A (wO Y q f ++ wB Y o a aa b) sz) (wO Y q u.2 ++ wB Y o a aa u.1) t) (va_A (wO Y q f ++ wB Y o a aa b) sz)) 2 12 (va_A (wO Y q f ++ wB Y o a aa b) sz) := by
  refine mbl_begin (cc := cL_undo) (maxL := 4) (ret := some .int) (hh := [(0, 9, 12, 13), (0, 9, 15, 25)]) hl0 (by decide +kernel) rfl (Nat.le_of_ble_eq_true rfl) ?_
  intro p e s m below meth c ls C hsz hP hD hl
  generalize hAe : va_A (wO Y q f ++ wB Y o a aa b) sz = A at C hD ⊢
  have C : mb_CL l p s m meth c ([.ref o, .int x1, .ref q] : List Value).toArray cL_undo 4 (some .int) wsL_undo RL D Y A [(0, 9, 12, 13), (0, 9, 15, 25)] := C
  obtain ⟨⟨hx, hb, hr, hml, hts, hown, hlocks, hA, hG⟩, hT, hX, hl0, hN⟩ := id C
  have hK := hG.1
  have hS : va_S A s.heap s.heap [] := va_S.rf
  have hl : lv_has ls 4 [(0, .ref o), (1, .int x1), (2, .ref q)] := hl
  refine lv_aload_n hx hb dL_undo_0 rfl (lv_at hl 2 rfl) ?_
  refine lv_iconst (v := 0) hx hb dL_undo_1 (by decide) ?_
  refine lv_aload_n hx hb dL_undo_2 rfl (lv_at hl 0 rfl) ?_
  refine lv_iload_n hx hb dL_undo_3 rfl (lv_at hl 1 rfl) ?_
  refine mbl_cW (wf := fun u : mb_bs => wO Y q f ++ wB Y o a aa u) C hD hS (vx_runV (As := [.int x1]) (rest := [.int 0, .ref q]) ⟨hx, hb, hml, hown, hts⟩ (mbx_fr (W := wO Y q f ++ wB Y o a aa b) (wr := wO Y q f) (WF := fun u : mb_bs => wO Y q f ++ wB Y o a aa u) (fun u => u) (fun u => u) List.perm_append_comm (fun u => List.perm_append_comm) (fun u => List.perm_append_comm) (fun _ _ h => h) (fun _ _ h => h) (cf_undo l hl0 D Y N o a aa _ _ _ _ _ _ _ _ _ x1 _ _ hF)) (cwV 1 hts gL_undo_X7_undo rfl rfl rfl (by decide +kernel) ⟨(Nat.le_of_ble_eq_true rfl), (Nat.le_of_ble_eq_true rfl)⟩) (mbl_preV C hP hD hS 1 rfl rfl) rfl rfl hl.1 rfl (lv_room (Nat.le_of_ble_eq_true rfl)) dL_undo_4 ⟨(Nat.le_of_ble_eq_true rfl), (Nat.le_of_ble_eq_true rfl)⟩) (fun E ce q9 u H locs hF hP hD hS hce hcv hcl => ?_) (fun r u H locs hF hP hD hS => ?_)
  · rcases hF with ⟨rfl, hF⟩ | ⟨rfl, hF⟩
    · refine vx_catch (own := RL) (name := "java/lang/IndexOutOfBoundsException") hown [] ⟨0, 9, 12, 13⟩ [⟨0, 9, 15, 25⟩] (by rw [hT]; rfl) (fun z h => absurd h List.not_mem_nil) rfl (by decide) (hts (.classLink RL 13 "java/lang/IndexOutOfBoundsException") (List.mem_of_getElem? (i := 1) rfl)) (va_Nw.use rfl (hG.2.1 _ (List.mem_of_getElem? (i := 27) rfl))) hce hcv hcl ?_
      refine lv_astore_n (lv' := [(3, .ref q9), (0, .ref o), (1, .int x1), (2, .ref q)]) hx hb dL_undo_12 rfl hl (by decide) rfl (fun ls hl => ?_)
      refine lv_iconst (v := 1) hx hb dL_undo_13 (by decide) ?_
      exact mb_ri (S := mb_bs × (Nat → Int64)) (wf := fun u => wO Y q u.2 ++ wB Y o a aa u.1) C.1 rfl (u := (u, f)) ⟨1, 0, by decide, rfl, hF, fun h => absurd h (by decide)⟩ hP hD hS dL_undo_14 (Nat.le_of_ble_eq_true rfl) (Nat.le_of_ble_eq_true rfl)
    · refine vx_catch (own := RL) (name := "java/lang/IllegalStateException") hown [⟨0, 9, 12, 13⟩] ⟨0, 9, 15, 25⟩ [] (by rw [hT]; rfl) (fun z h => by
        simp only [List.mem_cons, List.not_mem_nil, or_false] at h
        rcases h with rfl
        · exact Or.inr ⟨by decide, _, (hts (.classLink RL 13 "java/lang/IndexOutOfBoundsException") (List.mem_of_getElem? (i := 1) rfl)), hN.2.1⟩) rfl (by decide) (hts (.classLink RL 25 "java/lang/IllegalStateException") (List.mem_of_getElem? (i := 2) rfl)) (va_Nw.use rfl (hG.2.1 _ (List.mem_of_getElem? (i := 29) rfl))) hce hcv hcl ?_
      refine lv_astore_n (lv' := [(3, .ref q9), (0, .ref o), (1, .int x1), (2, .ref q)]) hx hb dL_undo_15 rfl hl (by decide) rfl (fun ls hl => ?_)
      refine lv_iconst (v := 2) hx hb dL_undo_16 (by decide) ?_
      exact mb_ri (S := mb_bs × (Nat → Int64)) (wf := fun u => wO Y q u.2 ++ wB Y o a aa u.1) C.1 rfl (u := (u, f)) ⟨2, 0, by decide, rfl, hF, fun h => absurd h (by decide)⟩ hP hD hS dL_undo_17 (Nat.le_of_ble_eq_true rfl) (Nat.le_of_ble_eq_true rfl)
  · refine lv_i2l (v := r.toInt64) hx hb dL_undo_7 rfl ?_
    refine va_last hx hb hK hP hD hS 0 2 rfl rfl mb_in01 dL_undo_8 (fun H locs hP hD hS => ?_)
    refine lv_goto (tgt := 18) hx hb dL_undo_9 (by decide) ?_
    refine lv_iconst (v := 0) hx hb dL_undo_18 (by decide) ?_
    exact mb_ri (S := mb_bs × (Nat → Int64)) (wf := fun u => wO Y q u.2 ++ wB Y o a aa u.1) C.1 rfl (u := (u, vp_updL f 0 (r.toInt64))) ⟨0, r, by decide, rfl, hF, fun _ => rfl⟩ hP hD hS dL_undo_19 (Nat.le_of_ble_eq_true rfl) (Nat.le_of_ble_eq_true rfl)
set_option maxHeartbeats 4000000 in
set_option maxRecDepth 100000 in
theorem cw_speak (l : Launch) (hl0 : l.stackTraces = false) (D : va_G) (Y : Nat → ClassId) (N : Nat) (o : Nat) (a aa : Nat → Nat) (b : mb_bs) (q : Nat) (f : Nat → Int64) (sz : Nat) (x1 x2 x3 x4 : Int32) (P : Int → Int32 → mb_bs → Prop) (hF : BP_speak N b.1 b.2.1 b.2.2.1 b.2.2.2.1 b.2.2.2.2.1 b.2.2.2.2.2.1 b.2.2.2.2.2.2.1 b.2.2.2.2.2.2.2 x1 x2 x3 x4 (fun r b => P 0 r b) (fun E b => (E = eO ∧ P 1 0 b) ∨ (E = eA ∧ P 2 0 b) ∨ (E = eS ∧ P 3 0 b))) : Met l yL_speak wsL_speak ({ frames := 8, cells := 4, slots := 24, locals := 160 } : Room) (va_Pc [.ref o, .int x1, .int x2, .int x3, .int x4, .ref q] (mb_BL D Y (wO Y q f ++ wB Y o a aa b) sz)) (va_Qi (mb_PW P) (fun u t => mb_T D (va_A (wO Y q f ++ wB Y o a aa b) sz) (wO Y q u.2 ++ wB Y o a aa u.1) t) (va_A (wO Y q f ++ wB Y o a aa b) sz)) 4 24 (va_A (wO Y q f ++ wB Y o a aa b) sz) := by
  refine mbl_begin (cc := cL_speak) (maxL := 7) (ret := some .int) (hh := [(0, 14, 17, 13), (0, 14, 21, 15), (0, 14, 25, 25)]) hl0 (by decide +kernel) rfl (Nat.le_of_ble_eq_true rfl) ?_
  intro p e s m below meth c ls C hsz hP hD hl
  generalize hAe : va_A (wO Y q f ++ wB Y o a aa b) sz = A at C hD ⊢
  have C : mb_CL l p s m meth c ([.ref o, .int x1, .int x2, .int x3, .int x4, .ref q] : List Value).toArray cL_speak 7 (some .int) wsL_speak RL D Y A [(0, 14, 17, 13), (0, 14, 21, 15), (0, 14, 25, 25)] := C
  obtain ⟨⟨hx, hb, hr, hml, hts, hown, hlocks, hA, hG⟩, hT, hX, hl0, hN⟩ := id C
  have hK := hG.1
  have hS : va_S A s.heap s.heap [] := va_S.rf
  have hl : lv_has ls 7 [(0, .ref o), (1, .int x1), (2, .int x2), (3, .int x3), (4, .int x4), (5, .ref q)] := hl
  refine lv_aload hx hb dL_speak_0 (lv_at hl 5 rfl) ?_
  refine lv_iconst (v := 0) hx hb dL_speak_2 (by decide) ?_
  refine lv_aload_n hx hb dL_speak_3 rfl (lv_at hl 0 rfl) ?_
  refine lv_iload_n hx hb dL_speak_4 rfl (lv_at hl 1 rfl) ?_
  refine lv_iload_n hx hb dL_speak_5 rfl (lv_at hl 2 rfl) ?_
  refine lv_iload_n hx hb dL_speak_6 rfl (lv_at hl 3 rfl) ?_
  refine lv_iload hx hb dL_speak_7 (lv_at hl 4 rfl) ?_
  refine mbl_cW (wf := fun u : mb_bs => wO Y q f ++ wB Y o a aa u) C hD hS (vx_runV (As := [.int x1, .int x2, .int x3, .int x4]) (rest := [.int 0, .ref q]) ⟨hx, hb, hml, hown, hts⟩ (mbx_fr (W := wO Y q f ++ wB Y o a aa b) (wr := wO Y q f) (WF := fun u : mb_bs => wO Y q f ++ wB Y o a aa u) (fun u => u) (fun u => u) List.perm_append_comm (fun u => List.perm_append_comm) (fun u => List.perm_append_comm) (fun _ _ h => h) (fun _ _ h => h) (cf_speak l hl0 D Y N o a aa _ _ _ _ _ _ _ _ _ x1 x2 x3 x4 _ _ hF)) (cwV 4 hts gL_speak_X7_speak rfl rfl rfl (by decide +kernel) ⟨(Nat.le_of_ble_eq_true rfl), (Nat.le_of_ble_eq_true rfl)⟩) (mbl_preV C hP hD hS 1 rfl rfl) rfl rfl hl.1 rfl (lv_room (Nat.le_of_ble_eq_true rfl)) dL_speak_9 ⟨(Nat.le_of_ble_eq_true rfl), (Nat.le_of_ble_eq_true rfl)⟩) (fun E ce q9 u H locs hF hP hD hS hce hcv hcl => ?_) (fun r u H locs hF hP hD hS => ?_)
  · rcases hF with ⟨rfl, hF⟩ | ⟨rfl, hF⟩ | ⟨rfl, hF⟩
    · refine vx_catch (own := RL) (name := "java/lang/IndexOutOfBoundsException") hown [] ⟨0, 14, 17, 13⟩ [⟨0, 14, 21, 15⟩, ⟨0, 14, 25, 25⟩] (by rw [hT]; rfl) (fun z h => absurd h List.not_mem_nil) rfl (by decide) (hts (.classLink RL 13 "java/lang/IndexOutOfBoundsException") (List.mem_of_getElem? (i := 1) rfl)) (va_Nw.use rfl (hG.2.1 _ (List.mem_of_getElem? (i := 27) rfl))) hce hcv hcl ?_
      refine lv_astore (lv' := [(6, .ref q9), (0, .ref o), (1, .int x1), (2, .int x2), (3, .int x3), (4, .int x4), (5, .ref q)]) hx hb dL_speak_17 hl (by decide) rfl (fun ls hl => ?_)
      refine lv_iconst (v := 1) hx hb dL_speak_19 (by decide) ?_
      exact mb_ri (S := mb_bs × (Nat → Int64)) (wf := fun u => wO Y q u.2 ++ wB Y o a aa u.1) C.1 rfl (u := (u, f)) ⟨1, 0, by decide, rfl, hF, fun h => absurd h (by decide)⟩ hP hD hS dL_speak_20 (Nat.le_of_ble_eq_true rfl) (Nat.le_of_ble_eq_true rfl)
    · refine vx_catch (own := RL) (name := "java/lang/IllegalArgumentException") hown [⟨0, 14, 17, 13⟩] ⟨0, 14, 21, 15⟩ [⟨0, 14, 25, 25⟩] (by rw [hT]; rfl) (fun z h => by
        simp only [List.mem_cons, List.not_mem_nil, or_false] at h
        rcases h with rfl
        · exact Or.inr ⟨by decide, _, (hts (.classLink RL 13 "java/lang/IndexOutOfBoundsException") (List.mem_of_getElem? (i := 1) rfl)), hN.1⟩) rfl (by decide) (hts (.classLink RL 15 "java/lang/IllegalArgumentException") (List.mem_of_getElem? (i := 2) rfl)) (va_Nw.use rfl (hG.2.1 _ (List.mem_of_getElem? (i := 28) rfl))) hce hcv hcl ?_
      refine lv_astore (lv' := [(6, .ref q9), (0, .ref o), (1, .int x1), (2, .int x2), (3, .int x3), (4, .int x4), (5, .ref q)]) hx hb dL_speak_21 hl (by decide) rfl (fun ls hl => ?_)
      refine lv_iconst (v := 2) hx hb dL_speak_23 (by decide) ?_
      exact mb_ri (S := mb_bs × (Nat → Int64)) (wf := fun u => wO Y q u.2 ++ wB Y o a aa u.1) C.1 rfl (u := (u, f)) ⟨2, 0, by decide, rfl, hF, fun h => absurd h (by decide)⟩ hP hD hS dL_speak_24 (Nat.le_of_ble_eq_true rfl) (Nat.le_of_ble_eq_true rfl)
    · refine vx_catch (own := RL) (name := "java/lang/IllegalStateException") hown [⟨0, 14, 17, 13⟩, ⟨0, 14, 21, 15⟩] ⟨0, 14, 25, 25⟩ [] (by rw [hT]; rfl) (fun z h => by
        simp only [List.mem_cons, List.not_mem_nil, or_false] at h
        rcases h with rfl | rfl
        · exact Or.inr ⟨by decide, _, (hts (.classLink RL 13 "java/lang/IndexOutOfBoundsException") (List.mem_of_getElem? (i := 1) rfl)), hN.2.1⟩
        · exact Or.inr ⟨by decide, _, (hts (.classLink RL 15 "java/lang/IllegalArgumentException") (List.mem_of_getElem? (i := 2) rfl)), hN.2.2⟩) rfl (by decide) (hts (.classLink RL 25 "java/lang/IllegalStateException") (List.mem_of_getElem? (i := 3) rfl)) (va_Nw.use rfl (hG.2.1 _ (List.mem_of_getElem? (i := 29) rfl))) hce hcv hcl ?_
      refine lv_astore (lv' := [(6, .ref q9), (0, .ref o), (1, .int x1), (2, .int x2), (3, .int x3), (4, .int x4), (5, .ref q)]) hx hb dL_speak_25 hl (by decide) rfl (fun ls hl => ?_)
      refine lv_iconst (v := 3) hx hb dL_speak_27 (by decide) ?_
      exact mb_ri (S := mb_bs × (Nat → Int64)) (wf := fun u => wO Y q u.2 ++ wB Y o a aa u.1) C.1 rfl (u := (u, f)) ⟨3, 0, by decide, rfl, hF, fun h => absurd h (by decide)⟩ hP hD hS dL_speak_28 (Nat.le_of_ble_eq_true rfl) (Nat.le_of_ble_eq_true rfl)
  · refine lv_i2l (v := r.toInt64) hx hb dL_speak_12 rfl ?_
    refine va_last hx hb hK hP hD hS 0 2 rfl rfl mb_in01 dL_speak_13 (fun H locs hP hD hS => ?_)
    refine lv_goto (tgt := 29) hx hb dL_speak_14 (by decide) ?_
    refine lv_iconst (v := 0) hx hb dL_speak_29 (by decide) ?_
    exact mb_ri (S := mb_bs × (Nat → Int64)) (wf := fun u => wO Y q u.2 ++ wB Y o a aa u.1) C.1 rfl (u := (u, vp_updL f 0 (r.toInt64))) ⟨0, r, by decide, rfl, hF, fun _ => rfl⟩ hP hD hS dL_speak_30 (Nat.le_of_ble_eq_true rfl) (Nat.le_of_ble_eq_true rfl)
set_option maxHeartbeats 4000000 in
set_option maxRecDepth 100000 in
theorem cw_year (l : Launch) (hl0 : l.stackTraces = false) (D : va_G) (Y : Nat → ClassId) (N : Nat) (o : Nat) (a aa : Nat → Nat) (b : mb_bs) (q : Nat) (f : Nat → Int64) (sz : Nat) (x1 x2 : Int32) (P : Int → Int32 → mb_bs → Prop) (hF : BP_year N b.1 b.2.1 b.2.2.1 b.2.2.2.1 b.2.2.2.2.1 b.2.2.2.2.2.1 b.2.2.2.2.2.2.1 b.2.2.2.2.2.2.2 x1 x2 (fun r b => P 0 r b) (fun E b => (E = eO ∧ P 1 0 b))) : Met l yL_year wsL_year ({ frames := 8, cells := 1, slots := 6, locals := 160 } : Room) (va_Pc [.ref o, .int x1, .int x2, .ref q] (mb_BL D Y (wO Y q f ++ wB Y o a aa b) sz)) (va_Qi (mb_PW P) (fun u t => mb_T D (va_A (wO Y q f ++ wB Y o a aa b) sz) (wO Y q u.2 ++ wB Y o a aa u.1) t) (va_A (wO Y q f ++ wB Y o a aa b) sz)) 1 6 (va_A (wO Y q f ++ wB Y o a aa b) sz) := by
  refine mbl_begin (cc := cL_year) (maxL := 5) (ret := some .int) (hh := [(0, 10, 13, 13)]) hl0 (by decide +kernel) rfl (Nat.le_of_ble_eq_true rfl) ?_
  intro p e s m below meth c ls C hsz hP hD hl
  generalize hAe : va_A (wO Y q f ++ wB Y o a aa b) sz = A at C hD ⊢
  have C : mb_CL l p s m meth c ([.ref o, .int x1, .int x2, .ref q] : List Value).toArray cL_year 5 (some .int) wsL_year RL D Y A [(0, 10, 13, 13)] := C
  obtain ⟨⟨hx, hb, hr, hml, hts, hown, hlocks, hA, hG⟩, hT, hX, hl0, hN⟩ := id C
  have hK := hG.1
  have hS : va_S A s.heap s.heap [] := va_S.rf
  have hl : lv_has ls 5 [(0, .ref o), (1, .int x1), (2, .int x2), (3, .ref q)] := hl
  refine lv_aload_n hx hb dL_year_0 rfl (lv_at hl 3 rfl) ?_
  refine lv_iconst (v := 0) hx hb dL_year_1 (by decide) ?_
  refine lv_aload_n hx hb dL_year_2 rfl (lv_at hl 0 rfl) ?_
  refine lv_iload_n hx hb dL_year_3 rfl (lv_at hl 1 rfl) ?_
  refine lv_iload_n hx hb dL_year_4 rfl (lv_at hl 2 rfl) ?_
  refine mbl_cW (wf := fun u : mb_bs => wO Y q f ++ wB Y o a aa u) C hD hS (vx_runV (As := [.int x1, .int x2]) (rest := [.int 0, .ref q]) ⟨hx, hb, hml, hown, hts⟩ (mbx_fr (W := wO Y q f ++ wB Y o a aa b) (wr := wO Y q f) (WF := fun u : mb_bs => wO Y q f ++ wB Y o a aa u) (fun u => u) (fun u => u) List.perm_append_comm (fun u => List.perm_append_comm) (fun u => List.perm_append_comm) (fun _ _ h => h) (fun _ _ h => h) (cf_year l hl0 D Y N o a aa _ _ _ _ _ _ _ _ _ x1 x2 _ _ hF)) (cwV 2 hts gL_year_X7_year rfl rfl rfl (by decide +kernel) ⟨(Nat.le_of_ble_eq_true rfl), (Nat.le_of_ble_eq_true rfl)⟩) (mbl_preV C hP hD hS 1 rfl rfl) rfl rfl hl.1 rfl (lv_room (Nat.le_of_ble_eq_true rfl)) dL_year_5 ⟨(Nat.le_of_ble_eq_true rfl), (Nat.le_of_ble_eq_true rfl)⟩) (fun E ce q9 u H locs hF hP hD hS hce hcv hcl => ?_) (fun r u H locs hF hP hD hS => ?_)
  · obtain ⟨rfl, hF⟩ := hF
    refine vx_catch (own := RL) (name := "java/lang/IndexOutOfBoundsException") hown [] ⟨0, 10, 13, 13⟩ [] (by rw [hT]; rfl) (fun z h => absurd h List.not_mem_nil) rfl (by decide) (hts (.classLink RL 13 "java/lang/IndexOutOfBoundsException") (List.mem_of_getElem? (i := 1) rfl)) (va_Nw.use rfl (hG.2.1 _ (List.mem_of_getElem? (i := 27) rfl))) hce hcv hcl ?_
    refine lv_astore (lv' := [(4, .ref q9), (0, .ref o), (1, .int x1), (2, .int x2), (3, .ref q)]) hx hb dL_year_13 hl (by decide) rfl (fun ls hl => ?_)
    refine lv_iconst (v := 1) hx hb dL_year_15 (by decide) ?_
    exact mb_ri (S := mb_bs × (Nat → Int64)) (wf := fun u => wO Y q u.2 ++ wB Y o a aa u.1) C.1 rfl (u := (u, f)) ⟨1, 0, by decide, rfl, hF, fun h => absurd h (by decide)⟩ hP hD hS dL_year_16 (Nat.le_of_ble_eq_true rfl) (Nat.le_of_ble_eq_true rfl)
  · refine lv_i2l (v := r.toInt64) hx hb dL_year_8 rfl ?_
    refine va_last hx hb hK hP hD hS 0 2 rfl rfl mb_in01 dL_year_9 (fun H locs hP hD hS => ?_)
    refine lv_goto (tgt := 17) hx hb dL_year_10 (by decide) ?_
    refine lv_iconst (v := 0) hx hb dL_year_17 (by decide) ?_
    exact mb_ri (S := mb_bs × (Nat → Int64)) (wf := fun u => wO Y q u.2 ++ wB Y o a aa u.1) C.1 rfl (u := (u, vp_updL f 0 (r.toInt64))) ⟨0, r, by decide, rfl, hF, fun _ => rfl⟩ hP hD hS dL_year_18 (Nat.le_of_ble_eq_true rfl) (Nat.le_of_ble_eq_true rfl)
set_option maxHeartbeats 4000000 in
set_option maxRecDepth 100000 in
theorem cw_yearAnew (l : Launch) (hl0 : l.stackTraces = false) (D : va_G) (Y : Nat → ClassId) (N : Nat) (o : Nat) (a aa : Nat → Nat) (b : mb_bs) (q : Nat) (f : Nat → Int64) (sz : Nat) (x1 x2 : Int32) (P : Int → Int32 → mb_bs → Prop) (hF : BP_yearAnew N b.1 b.2.1 b.2.2.1 b.2.2.2.1 b.2.2.2.2.1 b.2.2.2.2.2.1 b.2.2.2.2.2.2.1 b.2.2.2.2.2.2.2 x1 x2 (fun r b => P 0 r b) (fun E b => (E = eO ∧ P 1 0 b))) : Met l yL_yearAnew wsL_yearAnew ({ frames := 8, cells := 1, slots := 6, locals := 160 } : Room) (va_Pc [.ref o, .int x1, .int x2, .ref q] (mb_BL D Y (wO Y q f ++ wB Y o a aa b) sz)) (va_Qi (mb_PW P) (fun u t => mb_T D (va_A (wO Y q f ++ wB Y o a aa b) sz) (wO Y q u.2 ++ wB Y o a aa u.1) t) (va_A (wO Y q f ++ wB Y o a aa b) sz)) 1 6 (va_A (wO Y q f ++ wB Y o a aa b) sz) := by
  refine mbl_begin (cc := cL_yearAnew) (maxL := 5) (ret := some .int) (hh := [(0, 10, 13, 13)]) hl0 (by decide +kernel) rfl (Nat.le_of_ble_eq_true rfl) ?_
  intro p e s m below meth c ls C hsz hP hD hl
  generalize hAe : va_A (wO Y q f ++ wB Y o a aa b) sz = A at C hD ⊢
  have C : mb_CL l p s m meth c ([.ref o, .int x1, .int x2, .ref q] : List Value).toArray cL_yearAnew 5 (some .int) wsL_yearAnew RL D Y A [(0, 10, 13, 13)] := C
  obtain ⟨⟨hx, hb, hr, hml, hts, hown, hlocks, hA, hG⟩, hT, hX, hl0, hN⟩ := id C
  have hK := hG.1
  have hS : va_S A s.heap s.heap [] := va_S.rf
  have hl : lv_has ls 5 [(0, .ref o), (1, .int x1), (2, .int x2), (3, .ref q)] := hl
  refine lv_aload_n hx hb dL_yearAnew_0 rfl (lv_at hl 3 rfl) ?_
  refine lv_iconst (v := 0) hx hb dL_yearAnew_1 (by decide) ?_
  refine lv_aload_n hx hb dL_yearAnew_2 rfl (lv_at hl 0 rfl) ?_
  refine lv_iload_n hx hb dL_yearAnew_3 rfl (lv_at hl 1 rfl) ?_
  refine lv_iload_n hx hb dL_yearAnew_4 rfl (lv_at hl 2 rfl) ?_
  refine mbl_cW (wf := fun u : mb_bs => wO Y q f ++ wB Y o a aa u) C hD hS (vx_runV (As := [.int x1, .int x2]) (rest := [.int 0, .ref q]) ⟨hx, hb, hml, hown, hts⟩ (mbx_fr (W := wO Y q f ++ wB Y o a aa b) (wr := wO Y q f) (WF := fun u : mb_bs => wO Y q f ++ wB Y o a aa u) (fun u => u) (fun u => u) List.perm_append_comm (fun u => List.perm_append_comm) (fun u => List.perm_append_comm) (fun _ _ h => h) (fun _ _ h => h) (cf_yearAnew l hl0 D Y N o a aa _ _ _ _ _ _ _ _ _ x1 x2 _ _ hF)) (cwV 2 hts gL_yearAnew_X7_yearAnew rfl rfl rfl (by decide +kernel) ⟨(Nat.le_of_ble_eq_true rfl), (Nat.le_of_ble_eq_true rfl)⟩) (mbl_preV C hP hD hS 1 rfl rfl) rfl rfl hl.1 rfl (lv_room (Nat.le_of_ble_eq_true rfl)) dL_yearAnew_5 ⟨(Nat.le_of_ble_eq_true rfl), (Nat.le_of_ble_eq_true rfl)⟩) (fun E ce q9 u H locs hF hP hD hS hce hcv hcl => ?_) (fun r u H locs hF hP hD hS => ?_)
  · obtain ⟨rfl, hF⟩ := hF
    refine vx_catch (own := RL) (name := "java/lang/IndexOutOfBoundsException") hown [] ⟨0, 10, 13, 13⟩ [] (by rw [hT]; rfl) (fun z h => absurd h List.not_mem_nil) rfl (by decide) (hts (.classLink RL 13 "java/lang/IndexOutOfBoundsException") (List.mem_of_getElem? (i := 1) rfl)) (va_Nw.use rfl (hG.2.1 _ (List.mem_of_getElem? (i := 27) rfl))) hce hcv hcl ?_
    refine lv_astore (lv' := [(4, .ref q9), (0, .ref o), (1, .int x1), (2, .int x2), (3, .ref q)]) hx hb dL_yearAnew_13 hl (by decide) rfl (fun ls hl => ?_)
    refine lv_iconst (v := 1) hx hb dL_yearAnew_15 (by decide) ?_
    exact mb_ri (S := mb_bs × (Nat → Int64)) (wf := fun u => wO Y q u.2 ++ wB Y o a aa u.1) C.1 rfl (u := (u, f)) ⟨1, 0, by decide, rfl, hF, fun h => absurd h (by decide)⟩ hP hD hS dL_yearAnew_16 (Nat.le_of_ble_eq_true rfl) (Nat.le_of_ble_eq_true rfl)
  · refine lv_i2l (v := r.toInt64) hx hb dL_yearAnew_8 rfl ?_
    refine va_last hx hb hK hP hD hS 0 2 rfl rfl mb_in01 dL_yearAnew_9 (fun H locs hP hD hS => ?_)
    refine lv_goto (tgt := 17) hx hb dL_yearAnew_10 (by decide) ?_
    refine lv_iconst (v := 0) hx hb dL_yearAnew_17 (by decide) ?_
    exact mb_ri (S := mb_bs × (Nat → Int64)) (wf := fun u => wO Y q u.2 ++ wB Y o a aa u.1) C.1 rfl (u := (u, vp_updL f 0 (r.toInt64))) ⟨0, r, by decide, rfl, hF, fun _ => rfl⟩ hP hD hS dL_yearAnew_18 (Nat.le_of_ble_eq_true rfl) (Nat.le_of_ble_eq_true rfl)
