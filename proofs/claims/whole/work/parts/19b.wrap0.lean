set_option maxHeartbeats 4000000 in
set_option maxRecDepth 100000 in
theorem cw_drop (l : Launch) (hl0 : l.stackTraces = false) (D : va_G) (Y : Nat → ClassId) (N : Nat) (o : Nat) (a aa : Nat → Nat) (b : mb_bs) (q : Nat) (f : Nat → Int64) (sz : Nat) (x1 x2 x3 x4 : Int32) (P : Int → Int32 → mb_bs → Prop) (hF : BP_drop N b.1 b.2.1 b.2.2.1 b.2.2.2.1 b.2.2.2.2.1 b.2.2.2.2.2.1 b.2.2.2.2.2.2.1 b.2.2.2.2.2.2.2 x1 x2 x3 x4 (fun r b => P 0 r b) (fun E b => (E = eO ∧ P 1 0 b) ∨ (E = eA ∧ P 2 0 b))) : Met l yL_drop wsL_drop ({ frames := 8, cells := 2, slots := 12, locals := 160 } : Room) (va_Pc [.ref o, .int x1, .int x2, .int x3, .int x4, .ref q] (mb_BL D Y (wO Y q f ++ wB Y o a aa b) sz)) (va_Qi (mb_PW P) (fun u t => mb_T D (va_A (wO Y q f ++ wB Y o a aa b) sz) (wO Y q u.2 ++ wB Y o a aa u.1) t) (va_A (wO Y q f ++ wB Y o a aa b) sz)) 2 12 (va_A (wO Y q f ++ wB Y o a aa b) sz) := by
  refine mbl_begin (cc := cL_drop) (maxL := 7) (ret := some .int) (hh := [(0, 14, 17, 13), (0, 14, 21, 15)]) hl0 (by decide +kernel) rfl (Nat.le_of_ble_eq_true rfl) ?_
  intro p e s m below meth c ls C hsz hP hD hl
  generalize hAe : va_A (wO Y q f ++ wB Y o a aa b) sz = A at C hD ⊢
  have C : mb_CL l p s m meth c ([.ref o, .int x1, .int x2, .int x3, .int x4, .ref q] : List Value).toArray cL_drop 7 (some .int) wsL_drop RL D Y A [(0, 14, 17, 13), (0, 14, 21, 15)] := C
  obtain ⟨⟨hx, hb, hr, hml, hts, hown, hlocks, hA, hG⟩, hT, hX, hl0, hN⟩ := id C
  have hK := hG.1
  have hS : va_S A s.heap s.heap [] := va_S.rf
  have hl : lv_has ls 7 [(0, .ref o), (1, .int x1), (2, .int x2), (3, .int x3), (4, .int x4), (5, .ref q)] := hl
  refine lv_aload hx hb dL_drop_0 (lv_at hl 5 rfl) ?_
  refine lv_iconst (v := 0) hx hb dL_drop_2 (by decide) ?_
  refine lv_aload_n hx hb dL_drop_3 rfl (lv_at hl 0 rfl) ?_
  refine lv_iload_n hx hb dL_drop_4 rfl (lv_at hl 1 rfl) ?_
  refine lv_iload_n hx hb dL_drop_5 rfl (lv_at hl 2 rfl) ?_
  refine lv_iload_n hx hb dL_drop_6 rfl (lv_at hl 3 rfl) ?_
  refine lv_iload hx hb dL_drop_7 (lv_at hl 4 rfl) ?_
  refine mbl_cW (wf := fun u : mb_bs => wO Y q f ++ wB Y o a aa u) C hD hS (vx_runV (As := [.int x1, .int x2, .int x3, .int x4]) (rest := [.int 0, .ref q]) ⟨hx, hb, hml, hown, hts⟩ (mbx_fr (W := wO Y q f ++ wB Y o a aa b) (wr := wO Y q f) (WF := fun u : mb_bs => wO Y q f ++ wB Y o a aa u) (fun u => u) (fun u => u) List.perm_append_comm (fun u => List.perm_append_comm) (fun u => List.perm_append_comm) (fun _ _ h => h) (fun _ _ h => h) (cf_drop l hl0 D Y N o a aa _ _ _ _ _ _ _ _ _ x1 x2 x3 x4 _ _ hF)) (cwV 4 hts gL_drop_X7_drop rfl rfl rfl (by decide +kernel) ⟨(Nat.le_of_ble_eq_true rfl), (Nat.le_of_ble_eq_true rfl)⟩) (mbl_preV C hP hD hS 1 rfl rfl) rfl rfl hl.1 rfl (lv_room (Nat.le_of_ble_eq_true rfl)) dL_drop_9 ⟨(Nat.le_of_ble_eq_true rfl), (Nat.le_of_ble_eq_true rfl)⟩) (fun E ce q9 u H locs hF hP hD hS hce hcv hcl => ?_) (fun r u H locs hF hP hD hS => ?_)
  · rcases hF with ⟨rfl, hF⟩ | ⟨rfl, hF⟩
    · refine vx_catch (own := RL) (name := "java/lang/IndexOutOfBoundsException") hown [] ⟨0, 14, 17, 13⟩ [⟨0, 14, 21, 15⟩] (by rw [hT]; rfl) (fun z h => absurd h List.not_mem_nil) rfl (by decide) (hts (.classLink RL 13 "java/lang/IndexOutOfBoundsException") (List.mem_of_getElem? (i := 1) rfl)) (va_Nw.use rfl (hG.2.1 _ (List.mem_of_getElem? (i := 27) rfl))) hce hcv hcl ?_
      refine lv_astore (lv' := [(6, .ref q9), (0, .ref o), (1, .int x1), (2, .int x2), (3, .int x3), (4, .int x4), (5, .ref q)]) hx hb dL_drop_17 hl (by decide) rfl (fun ls hl => ?_)
      refine lv_iconst (v := 1) hx hb dL_drop_19 (by decide) ?_
      exact mb_ri (S := mb_bs × (Nat → Int64)) (wf := fun u => wO Y q u.2 ++ wB Y o a aa u.1) C.1 rfl (u := (u, f)) ⟨1, 0, rfl, hF, fun h => absurd h (by decide)⟩ hP hD hS dL_drop_20 (Nat.le_of_ble_eq_true rfl) (Nat.le_of_ble_eq_true rfl)
    · refine vx_catch (own := RL) (name := "java/lang/IllegalArgumentException") hown [⟨0, 14, 17, 13⟩] ⟨0, 14, 21, 15⟩ [] (by rw [hT]; rfl) (fun z h => by
        simp only [List.mem_cons, List.not_mem_nil, or_false] at h
        rcases h with rfl
        · exact Or.inr ⟨by decide, _, (hts (.classLink RL 13 "java/lang/IndexOutOfBoundsException") (List.mem_of_getElem? (i := 1) rfl)), hN.1⟩) rfl (by decide) (hts (.classLink RL 15 "java/lang/IllegalArgumentException") (List.mem_of_getElem? (i := 2) rfl)) (va_Nw.use rfl (hG.2.1 _ (List.mem_of_getElem? (i := 28) rfl))) hce hcv hcl ?_
      refine lv_astore (lv' := [(6, .ref q9), (0, .ref o), (1, .int x1), (2, .int x2), (3, .int x3), (4, .int x4), (5, .ref q)]) hx hb dL_drop_21 hl (by decide) rfl (fun ls hl => ?_)
      refine lv_iconst (v := 2) hx hb dL_drop_23 (by decide) ?_
      exact mb_ri (S := mb_bs × (Nat → Int64)) (wf := fun u => wO Y q u.2 ++ wB Y o a aa u.1) C.1 rfl (u := (u, f)) ⟨2, 0, rfl, hF, fun h => absurd h (by decide)⟩ hP hD hS dL_drop_24 (Nat.le_of_ble_eq_true rfl) (Nat.le_of_ble_eq_true rfl)
  · refine lv_i2l (v := r.toInt64) hx hb dL_drop_12 rfl ?_
    refine va_last hx hb hK hP hD hS 0 2 rfl rfl (vp_in_nI (i := 0) (n := 1) (by decide) (by decide)) dL_drop_13 (fun H locs hP hD hS => ?_)
    refine lv_goto (tgt := 25) hx hb dL_drop_14 (by decide) ?_
    refine lv_iconst (v := 0) hx hb dL_drop_25 (by decide) ?_
    exact mb_ri (S := mb_bs × (Nat → Int64)) (wf := fun u => wO Y q u.2 ++ wB Y o a aa u.1) C.1 rfl (u := (u, vp_updL f 0 (r.toInt64))) ⟨0, r, rfl, hF, fun _ => rfl⟩ hP hD hS dL_drop_26 (Nat.le_of_ble_eq_true rfl) (Nat.le_of_ble_eq_true rfl)
