section
noncomputable def PL_sews_107 (N : Nat) (K : Int32 → mb_S → Prop) (F : mb_m) (b : mb_bs) (x3 x6 x10 x13 x14 y0 y1 y2 : Int32) : Prop := ∀ v108 : Int32, v108 = (y1 - y0) → (vp_in y2 4 ∧ (∀ M108 : mb_m, M108 = mb_u F 2 (upd (F 2) y2.toNatClampNeg v108) → ((x14 = 0 → (¬ x13 = (-1000003 : Int32) → K (0 : Int32) (b, M108)) ∧ (x13 = (-1000003 : Int32) → K (1 : Int32) (b, M108))) ∧ (¬ x14 = 0 → (x13 < 0 → K (0 : Int32) (b, M108)) ∧ (¬ x13 < 0 → (x6 < x13 → K (0 : Int32) (b, M108)) ∧ (¬ x6 < x13 → LP_swelling N b M108 x3 (fun r128 u128 => (x10 < r128 → K (0 : Int32) (u128.1, u128.2)) ∧ (¬ x10 < r128 → LP_ofThread N u128.1 u128.2 x3 (0 : Int32) (fun r141 u141 => (¬ x13 = r141 → K (0 : Int32) (u141.1, u141.2)) ∧ (x13 = r141 → K (1 : Int32) (u141.1, u141.2)))))))))))
set_option maxHeartbeats 4000000 in
set_option maxRecDepth 100000 in
theorem wL_sews_107 {p : Program} {l : Launch} {e : Env} {s : State} {m : MethodId} {below : List Frame} {meth : Method} {c : Code} {args : Array Value} {D : va_G} {Y : Nat → ClassId} {A : Nat → Prop} {o : Nat} {a aa ad : Nat → Nat} {N : Nat} {K : Int32 → mb_S → Prop} (CM : mb_CM l p s m meth c args cL_sews 16 (some .boolean) wsL_sews RL D Y A) : ∀ (F : mb_m) (b : mb_bs) (x3 x6 x10 x13 x14 y0 y1 y2 : Int32) (H : Heap) (locs : List Loc) (ls : Array Slot) (cells slots : Nat), PL_sews_107 N K  F b x3 x6 x10 x13 x14 y0 y1 y2 → va_P D vwCl (wW Y o a aa ad b F) H → va_D A (wW Y o a aa ad b F) → va_S A s.heap H locs → lv_has ls 16 [(0, .ref o), (3, .int x3), (6, .int x6), (10, .int x10), (13, .int x13), (14, .int x14)] → cells + (3 + 0) ≤ 31 → slots + (18 + 0) ≤ 186 → W p l e ({ frames := 9, cells := 31, slots := 186, locals := 159 } : Room) s m args below meth c H locs cells slots (MQ below (va_Qi K (fun u t => mb_T D A (wW Y o a aa ad u.1 u.2) t) A) args s 31 186 A) (F0 m 107 ls [.int y0, .int y1, .int y2, .ref (ad 2)]) := by
  obtain ⟨C, hX, hl0, hN⟩ := id CM
  obtain ⟨hx, hb, hr, hml, hts, hown, hlocks, hA, hG⟩ := id C
  have hK := hG.1
  intro F b x3 x6 x10 x13 x14 y0 y1 y2 H locs ls cells slots hF hP hD hS hl hc hs
  unfold PL_sews_107 at hF
  refine lv_isub hx hb dL_sews_107 ?_
  refine lv_topi (fun v108 ev108 => ?_)
  have hF := hF v108 ev108
  obtain ⟨hi108, hF⟩ := hF
  refine va_iast hx hb hK hP hD hS 2 0 rfl rfl hi108 dL_sews_108 (fun H locs hP hD hS => ?_)
  obtain ⟨M108, eM108⟩ : ∃ y : mb_m, y = mb_u F 2 (upd (F 2) y2.toNatClampNeg v108) := ⟨_, rfl⟩
  have hF := hF M108 eM108
  have hP : va_P D vwCl (wW Y o a aa ad b (mb_u F 2 (upd (F 2) y2.toNatClampNeg v108))) H := hP
  have hD : va_D A (wW Y o a aa ad b (mb_u F 2 (upd (F 2) y2.toNatClampNeg v108))) := hD
  rw [← eM108] at hP hD
  refine lv_iload hx hb dL_sews_109 (lv_at hl 5 rfl) ?_
  refine lv_if_eq (tgt := 155) hx hb dL_sews_111 (by decide) (fun c_111 => ?_) (fun c_111 => ?_)
  · have hF := hF.1 c_111
    refine lv_iload hx hb dL_sews_155 (lv_at hl 4 rfl) ?_
    refine lv_ldc (v := -1000003) hx hb hown (hts (.constant RL 32 (-1000003)) (List.mem_of_getElem? (i := 1) rfl)) dL_sews_157 ?_
    refine lv_icmp_ne (tgt := 166) hx hb dL_sews_159 (by decide) (fun c_159 => ?_) (fun c_159 => ?_)
    · have hF := hF.1 c_159
      refine lv_iconst (v := 0) hx hb dL_sews_166 (by decide) ?_
      exact mb_ri (S := mb_S) (mc := 31) (ms := 186) (wf := fun u => wW Y o a aa ad u.1 u.2) C rfl (u := (b, M108)) hF hP hD hS dL_sews_167 (by omega) (by omega)
    · have hF := hF.2 c_159
      refine lv_iconst (v := 1) hx hb dL_sews_162 (by decide) ?_
      refine lv_goto (tgt := 167) hx hb dL_sews_163 (by decide) ?_
      exact mb_ri (S := mb_S) (mc := 31) (ms := 186) (wf := fun u => wW Y o a aa ad u.1 u.2) C rfl (u := (b, M108)) hF hP hD hS dL_sews_167 (by omega) (by omega)
  · have hF := hF.2 c_111
    refine lv_iload hx hb dL_sews_114 (lv_at hl 4 rfl) ?_
    refine lv_if_lt (tgt := 151) hx hb dL_sews_116 (by decide) (fun c_116 => ?_) (fun c_116 => ?_)
    · have hF := hF.1 c_116
      refine lv_iconst (v := 0) hx hb dL_sews_151 (by decide) ?_
      refine lv_goto (tgt := 167) hx hb dL_sews_152 (by decide) ?_
      exact mb_ri (S := mb_S) (mc := 31) (ms := 186) (wf := fun u => wW Y o a aa ad u.1 u.2) C rfl (u := (b, M108)) hF hP hD hS dL_sews_167 (by omega) (by omega)
    · have hF := hF.2 c_116
      refine lv_iload hx hb dL_sews_119 (lv_at hl 4 rfl) ?_
      refine lv_iload hx hb dL_sews_121 (lv_at hl 2 rfl) ?_
      refine lv_icmp_gt (tgt := 151) hx hb dL_sews_123 (by decide) (fun c_123 => ?_) (fun c_123 => ?_)
      · have hF := hF.1 c_123
        refine lv_iconst (v := 0) hx hb dL_sews_151 (by decide) ?_
        refine lv_goto (tgt := 167) hx hb dL_sews_152 (by decide) ?_
        exact mb_ri (S := mb_S) (mc := 31) (ms := 186) (wf := fun u => wW Y o a aa ad u.1 u.2) C rfl (u := (b, M108)) hF hP hD hS dL_sews_167 (by omega) (by omega)
      · have hF := hF.2 c_123
        refine lv_aload_n hx hb dL_sews_126 rfl (lv_at hl 0 rfl) ?_
        refine lv_iload_n hx hb dL_sews_127 rfl (lv_at hl 1 rfl) ?_
        refine mb_cW (S := mb_S) hD hS hA (vx_runSW (As := [.ref o, .int x3]) (rest := []) ⟨hx, hb, hml, hown, hts⟩ (cw_swelling l hl0 D Y N o a aa ad b M108 _ x3 _ hF) (vx_cwSW 2 hts gL_sews_L_swelling rfl rfl rfl (by decide +kernel) ⟨Nat.le_of_ble_eq_true rfl, Nat.le_of_ble_eq_true rfl⟩) (mbm_pre CM hP hD hS) rfl rfl hl.1 rfl (lv_room (Nat.le_of_ble_eq_true rfl)) dL_sews_128 ⟨by show _ ≤ 31; omega, by show _ ≤ 186; omega⟩) (fun r128 u128 H locs hF hP hD hS => ?_)
        have hP : va_P D vwCl (wW Y o a aa ad u128.1 u128.2) H := hP
        have hD : va_D A (wW Y o a aa ad u128.1 u128.2) := hD
        refine lv_iload hx hb dL_sews_131 (lv_at hl 3 rfl) ?_
        refine lv_icmp_gt (tgt := 151) hx hb dL_sews_133 (by decide) (fun c_133 => ?_) (fun c_133 => ?_)
        · have hF := hF.1 c_133
          refine lv_iconst (v := 0) hx hb dL_sews_151 (by decide) ?_
          refine lv_goto (tgt := 167) hx hb dL_sews_152 (by decide) ?_
          exact mb_ri (S := mb_S) (mc := 31) (ms := 186) (wf := fun u => wW Y o a aa ad u.1 u.2) C rfl (u := (u128.1, u128.2)) hF hP hD hS dL_sews_167 (by omega) (by omega)
        · have hF := hF.2 c_133
          refine lv_iload hx hb dL_sews_136 (lv_at hl 4 rfl) ?_
          refine lv_aload_n hx hb dL_sews_138 rfl (lv_at hl 0 rfl) ?_
          refine lv_iload_n hx hb dL_sews_139 rfl (lv_at hl 1 rfl) ?_
          refine lv_iconst (v := 0) hx hb dL_sews_140 (by decide) ?_
          refine mb_cW (S := mb_S) hD hS hA (vx_runSW (As := [.ref o, .int x3, .int (0 : Int32)]) (rest := [.int x13]) ⟨hx, hb, hml, hown, hts⟩ (cw_ofThread l hl0 D Y N o a aa ad u128.1 u128.2 _ x3 (0 : Int32) _ hF) (vx_cwSW 3 hts gL_sews_L_ofThread rfl rfl rfl (by decide +kernel) ⟨Nat.le_of_ble_eq_true rfl, Nat.le_of_ble_eq_true rfl⟩) (mbm_pre CM hP hD hS) rfl rfl hl.1 rfl (lv_room (Nat.le_of_ble_eq_true rfl)) dL_sews_141 ⟨by show _ ≤ 31; omega, by show _ ≤ 186; omega⟩) (fun r141 u141 H locs hF hP hD hS => ?_)
          have hP : va_P D vwCl (wW Y o a aa ad u141.1 u141.2) H := hP
          have hD : va_D A (wW Y o a aa ad u141.1 u141.2) := hD
          refine lv_icmp_ne (tgt := 151) hx hb dL_sews_144 (by decide) (fun c_144 => ?_) (fun c_144 => ?_)
          · have hF := hF.1 c_144
            refine lv_iconst (v := 0) hx hb dL_sews_151 (by decide) ?_
            refine lv_goto (tgt := 167) hx hb dL_sews_152 (by decide) ?_
            exact mb_ri (S := mb_S) (mc := 31) (ms := 186) (wf := fun u => wW Y o a aa ad u.1 u.2) C rfl (u := (u141.1, u141.2)) hF hP hD hS dL_sews_167 (by omega) (by omega)
          · have hF := hF.2 c_144
            refine lv_iconst (v := 1) hx hb dL_sews_147 (by decide) ?_
            refine lv_goto (tgt := 167) hx hb dL_sews_148 (by decide) ?_
            exact mb_ri (S := mb_S) (mc := 31) (ms := 186) (wf := fun u => wW Y o a aa ad u.1 u.2) C rfl (u := (u141.1, u141.2)) hF hP hD hS dL_sews_167 (by omega) (by omega)
noncomputable def PL_sews_90 (N : Nat) (K : Int32 → mb_S → Prop) (F : mb_m) (b : mb_bs) (x3 x6 x10 x12 x13 y0 : Int32) : Prop := vp_in x3 4 ∧ ((y0 = 0 → PL_sews_107 N K F b x3 x6 x10 x13 y0 (0 : Int32) (F 2 x3.toNatClampNeg) x3) ∧ (¬ y0 = 0 → PL_sews_107 N K F b x3 x6 x10 x13 y0 x12 (F 2 x3.toNatClampNeg) x3))
set_option maxHeartbeats 4000000 in
set_option maxRecDepth 100000 in
theorem wL_sews_90 {p : Program} {l : Launch} {e : Env} {s : State} {m : MethodId} {below : List Frame} {meth : Method} {c : Code} {args : Array Value} {D : va_G} {Y : Nat → ClassId} {A : Nat → Prop} {o : Nat} {a aa ad : Nat → Nat} {N : Nat} {K : Int32 → mb_S → Prop} (CM : mb_CM l p s m meth c args cL_sews 16 (some .boolean) wsL_sews RL D Y A) : ∀ (F : mb_m) (b : mb_bs) (x3 x6 x10 x12 x13 y0 : Int32) (H : Heap) (locs : List Loc) (ls : Array Slot) (cells slots : Nat), PL_sews_90 N K  F b x3 x6 x10 x12 x13 y0 → va_P D vwCl (wW Y o a aa ad b F) H → va_D A (wW Y o a aa ad b F) → va_S A s.heap H locs → lv_has ls 16 [(0, .ref o), (2, .ref (ad 2)), (3, .int x3), (6, .int x6), (10, .int x10), (12, .int x12), (13, .int x13)] → cells + (3 + 0) ≤ 31 → slots + (18 + 0) ≤ 186 → W p l e ({ frames := 9, cells := 31, slots := 186, locals := 159 } : Room) s m args below meth c H locs cells slots (MQ below (va_Qi K (fun u t => mb_T D A (wW Y o a aa ad u.1 u.2) t) A) args s 31 186 A) (F0 m 90 ls [.int y0]) := by
  obtain ⟨C, hX, hl0, hN⟩ := id CM
  obtain ⟨hx, hb, hr, hml, hts, hown, hlocks, hA, hG⟩ := id C
  have hK := hG.1
  intro F b x3 x6 x10 x12 x13 y0 H locs ls cells slots hF hP hD hS hl hc hs
  unfold PL_sews_90 at hF
  refine lv_istore (lv' := [(14, .int y0), (0, .ref o), (2, .ref (ad 2)), (3, .int x3), (6, .int x6), (10, .int x10), (12, .int x12), (13, .int x13)]) hx hb dL_sews_90 hl (by decide) rfl (fun ls hl => ?_)
  refine lv_aload_n hx hb dL_sews_92 rfl (lv_at hl 2 rfl) ?_
  refine lv_iload_n hx hb dL_sews_93 rfl (lv_at hl 3 rfl) ?_
  refine lv_dup2_11 hx hb dL_sews_94 rfl rfl ?_
  obtain ⟨hi95, hF⟩ := hF
  refine va_iald hx hb hK hP 2 0 rfl rfl hi95 dL_sews_95 ?_
  refine lv_iload hx hb dL_sews_96 (lv_at hl 0 rfl) ?_
  refine lv_if_eq (tgt := 106) hx hb dL_sews_98 (by decide) (fun c_98 => ?_) (fun c_98 => ?_)
  · have hF := hF.1 c_98
    refine lv_iconst (v := 0) hx hb dL_sews_106 (by decide) ?_
    exact wL_sews_107 CM F b x3 x6 x10 x13 y0 (0 : Int32) (F 2 x3.toNatClampNeg) x3 _ _ _ _ _ hF hP hD hS (lv_sub hl [1, 3, 4, 5, 7, 0] rfl) (by omega) (by omega)
  · have hF := hF.2 c_98
    refine lv_iload hx hb dL_sews_101 (lv_at hl 6 rfl) ?_
    refine lv_goto (tgt := 107) hx hb dL_sews_103 (by decide) ?_
    exact wL_sews_107 CM F b x3 x6 x10 x13 y0 x12 (F 2 x3.toNatClampNeg) x3 _ _ _ _ _ hF hP hD hS (lv_sub hl [1, 3, 4, 5, 7, 0] rfl) (by omega) (by omega)
noncomputable def PL_sews_435 (N : Nat) (K : Int32 → mb_S → Prop) (F : mb_m) (b : mb_bs) (x3 x5 x6 x10 x11 x12 x13 y0 : Int32) : Prop := (y0 = 0 → K (0 : Int32) (b, F)) ∧ (¬ y0 = 0 → PL_low N (x5 >>> ((3 : Int32) &&& 31)) (4 : Int32) (fun r447 _ => (0 < r447 → K (1 : Int32) (b, F)) ∧ (¬ 0 < r447 → LP_unsew N b F x3 (1 : Int32) (fun r456 u456 => (¬ r456 = x6 → K (0 : Int32) (u456.1, u456.2)) ∧ (r456 = x6 → LP_swelling N u456.1 u456.2 x3 (fun r466 u466 => (¬ r466 = x10 → K (0 : Int32) (u466.1, u466.2)) ∧ (r466 = x10 → LP_ofThread N u466.1 u466.2 x3 (5 : Int32) (fun r477 u477 => (¬ r477 = x11 → K (0 : Int32) (u477.1, u477.2)) ∧ (r477 = x11 → LP_sew N u477.1 u477.2 x3 x12 (fun r489 u489 => (¬ r489 = x13 → K (0 : Int32) (u489.1, u489.2)) ∧ (r489 = x13 → K (1 : Int32) (u489.1, u489.2))))))))))))
set_option maxHeartbeats 4000000 in
set_option maxRecDepth 100000 in
theorem wL_sews_435 {p : Program} {l : Launch} {e : Env} {s : State} {m : MethodId} {below : List Frame} {meth : Method} {c : Code} {args : Array Value} {D : va_G} {Y : Nat → ClassId} {A : Nat → Prop} {o : Nat} {a aa ad : Nat → Nat} {N : Nat} {K : Int32 → mb_S → Prop} (CM : mb_CM l p s m meth c args cL_sews 16 (some .boolean) wsL_sews RL D Y A) : ∀ (F : mb_m) (b : mb_bs) (x3 x5 x6 x10 x11 x12 x13 y0 : Int32) (H : Heap) (locs : List Loc) (ls : Array Slot) (cells slots : Nat), PL_sews_435 N K  F b x3 x5 x6 x10 x11 x12 x13 y0 → va_P D vwCl (wW Y o a aa ad b F) H → va_D A (wW Y o a aa ad b F) → va_S A s.heap H locs → lv_has ls 16 [(0, .ref o), (3, .int x3), (5, .int x5), (6, .int x6), (10, .int x10), (11, .int x11), (12, .int x12), (13, .int x13)] → cells + (9 + 0) ≤ 31 → slots + (54 + 0) ≤ 186 → W p l e ({ frames := 9, cells := 31, slots := 186, locals := 159 } : Room) s m args below meth c H locs cells slots (MQ below (va_Qi K (fun u t => mb_T D A (wW Y o a aa ad u.1 u.2) t) A) args s 31 186 A) (F0 m 435 ls [.int y0]) := by
  obtain ⟨C, hX, hl0, hN⟩ := id CM
  obtain ⟨hx, hb, hr, hml, hts, hown, hlocks, hA, hG⟩ := id C
  have hK := hG.1
  intro F b x3 x5 x6 x10 x11 x12 x13 y0 H locs ls cells slots hF hP hD hS hl hc hs
  unfold PL_sews_435 at hF
  refine lv_istore (lv' := [(15, .int y0), (0, .ref o), (3, .int x3), (5, .int x5), (6, .int x6), (10, .int x10), (11, .int x11), (12, .int x12), (13, .int x13)]) hx hb dL_sews_435 hl (by decide) rfl (fun ls hl => ?_)
  refine lv_iload hx hb dL_sews_437 (lv_at hl 0 rfl) ?_
  refine lv_if_eq (tgt := 501) hx hb dL_sews_439 (by decide) (fun c_439 => ?_) (fun c_439 => ?_)
  · have hF := hF.1 c_439
    refine lv_iconst (v := 0) hx hb dL_sews_501 (by decide) ?_
    exact mb_ri (S := mb_S) (mc := 31) (ms := 186) (wf := fun u => wW Y o a aa ad u.1 u.2) C rfl (u := (b, F)) hF hP hD hS dL_sews_502 (by omega) (by omega)
  · have hF := hF.2 c_439
    refine lv_iload hx hb dL_sews_442 (lv_at hl 3 rfl) ?_
    refine lv_iconst (v := 3) hx hb dL_sews_444 (by decide) ?_
    refine lv_ishr hx hb dL_sews_445 ?_
    refine lv_iconst (v := 4) hx hb dL_sews_446 (by decide) ?_
    refine mb_cE hP hS hA (va_runS (As := [.int (x5 >>> ((3 : Int32) &&& 31)), .int (4 : Int32)]) (rest := []) ⟨hx, hb, hml, hown, hts⟩ (cnL_low l D Y N _ (x5 >>> ((3 : Int32) &&& 31)) (4 : Int32) _ hF) (va_cwS 2 hts gL_sews_L_low rfl rfl rfl (by decide +kernel) ⟨Nat.le_of_ble_eq_true rfl, Nat.le_of_ble_eq_true rfl⟩) (mb_preS (A := A) hG mb_P0 mb_D0) rfl rfl hl.1 rfl (lv_room (Nat.le_of_ble_eq_true rfl)) dL_sews_447 ⟨by show _ ≤ 31; omega, by show _ ≤ 186; omega⟩) (fun r447 H locs hF hP hS => ?_)
    refine lv_if_gt (tgt := 497) hx hb dL_sews_450 (by decide) (fun c_450 => ?_) (fun c_450 => ?_)
    · have hF := hF.1 c_450
      refine lv_iconst (v := 1) hx hb dL_sews_497 (by decide) ?_
      refine lv_goto (tgt := 502) hx hb dL_sews_498 (by decide) ?_
      exact mb_ri (S := mb_S) (mc := 31) (ms := 186) (wf := fun u => wW Y o a aa ad u.1 u.2) C rfl (u := (b, F)) hF hP hD hS dL_sews_502 (by omega) (by omega)
    · have hF := hF.2 c_450
      refine lv_aload_n hx hb dL_sews_453 rfl (lv_at hl 1 rfl) ?_
      refine lv_iload_n hx hb dL_sews_454 rfl (lv_at hl 2 rfl) ?_
      refine lv_iconst (v := 1) hx hb dL_sews_455 (by decide) ?_
      refine mb_cW (S := mb_S) hD hS hA (vx_runSW (As := [.ref o, .int x3, .int (1 : Int32)]) (rest := []) ⟨hx, hb, hml, hown, hts⟩ (cw_unsew l hl0 D Y N o a aa ad b F _ x3 (1 : Int32) _ hF) (vx_cwSW 3 hts gL_sews_L_unsew rfl rfl rfl (by decide +kernel) ⟨Nat.le_of_ble_eq_true rfl, Nat.le_of_ble_eq_true rfl⟩) (mbm_pre CM hP hD hS) rfl rfl hl.1 rfl (lv_room (Nat.le_of_ble_eq_true rfl)) dL_sews_456 ⟨by show _ ≤ 31; omega, by show _ ≤ 186; omega⟩) (fun r456 u456 H locs hF hP hD hS => ?_)
      have hP : va_P D vwCl (wW Y o a aa ad u456.1 u456.2) H := hP
      have hD : va_D A (wW Y o a aa ad u456.1 u456.2) := hD
      refine lv_iload hx hb dL_sews_459 (lv_at hl 4 rfl) ?_
      refine lv_icmp_ne (tgt := 501) hx hb dL_sews_461 (by decide) (fun c_461 => ?_) (fun c_461 => ?_)
      · have hF := hF.1 c_461
        refine lv_iconst (v := 0) hx hb dL_sews_501 (by decide) ?_
        exact mb_ri (S := mb_S) (mc := 31) (ms := 186) (wf := fun u => wW Y o a aa ad u.1 u.2) C rfl (u := (u456.1, u456.2)) hF hP hD hS dL_sews_502 (by omega) (by omega)
      · have hF := hF.2 c_461
        refine lv_aload_n hx hb dL_sews_464 rfl (lv_at hl 1 rfl) ?_
        refine lv_iload_n hx hb dL_sews_465 rfl (lv_at hl 2 rfl) ?_
        refine mb_cW (S := mb_S) hD hS hA (vx_runSW (As := [.ref o, .int x3]) (rest := []) ⟨hx, hb, hml, hown, hts⟩ (cw_swelling l hl0 D Y N o a aa ad u456.1 u456.2 _ x3 _ hF) (vx_cwSW 2 hts gL_sews_L_swelling rfl rfl rfl (by decide +kernel) ⟨Nat.le_of_ble_eq_true rfl, Nat.le_of_ble_eq_true rfl⟩) (mbm_pre CM hP hD hS) rfl rfl hl.1 rfl (lv_room (Nat.le_of_ble_eq_true rfl)) dL_sews_466 ⟨by show _ ≤ 31; omega, by show _ ≤ 186; omega⟩) (fun r466 u466 H locs hF hP hD hS => ?_)
        have hP : va_P D vwCl (wW Y o a aa ad u466.1 u466.2) H := hP
        have hD : va_D A (wW Y o a aa ad u466.1 u466.2) := hD
        refine lv_iload hx hb dL_sews_469 (lv_at hl 5 rfl) ?_
        refine lv_icmp_ne (tgt := 501) hx hb dL_sews_471 (by decide) (fun c_471 => ?_) (fun c_471 => ?_)
        · have hF := hF.1 c_471
          refine lv_iconst (v := 0) hx hb dL_sews_501 (by decide) ?_
          exact mb_ri (S := mb_S) (mc := 31) (ms := 186) (wf := fun u => wW Y o a aa ad u.1 u.2) C rfl (u := (u466.1, u466.2)) hF hP hD hS dL_sews_502 (by omega) (by omega)
        · have hF := hF.2 c_471
          refine lv_aload_n hx hb dL_sews_474 rfl (lv_at hl 1 rfl) ?_
          refine lv_iload_n hx hb dL_sews_475 rfl (lv_at hl 2 rfl) ?_
          refine lv_iconst (v := 5) hx hb dL_sews_476 (by decide) ?_
          refine mb_cW (S := mb_S) hD hS hA (vx_runSW (As := [.ref o, .int x3, .int (5 : Int32)]) (rest := []) ⟨hx, hb, hml, hown, hts⟩ (cw_ofThread l hl0 D Y N o a aa ad u466.1 u466.2 _ x3 (5 : Int32) _ hF) (vx_cwSW 3 hts gL_sews_L_ofThread rfl rfl rfl (by decide +kernel) ⟨Nat.le_of_ble_eq_true rfl, Nat.le_of_ble_eq_true rfl⟩) (mbm_pre CM hP hD hS) rfl rfl hl.1 rfl (lv_room (Nat.le_of_ble_eq_true rfl)) dL_sews_477 ⟨by show _ ≤ 31; omega, by show _ ≤ 186; omega⟩) (fun r477 u477 H locs hF hP hD hS => ?_)
          have hP : va_P D vwCl (wW Y o a aa ad u477.1 u477.2) H := hP
          have hD : va_D A (wW Y o a aa ad u477.1 u477.2) := hD
          refine lv_iload hx hb dL_sews_480 (lv_at hl 6 rfl) ?_
          refine lv_icmp_ne (tgt := 501) hx hb dL_sews_482 (by decide) (fun c_482 => ?_) (fun c_482 => ?_)
          · have hF := hF.1 c_482
            refine lv_iconst (v := 0) hx hb dL_sews_501 (by decide) ?_
            exact mb_ri (S := mb_S) (mc := 31) (ms := 186) (wf := fun u => wW Y o a aa ad u.1 u.2) C rfl (u := (u477.1, u477.2)) hF hP hD hS dL_sews_502 (by omega) (by omega)
          · have hF := hF.2 c_482
            refine lv_aload_n hx hb dL_sews_485 rfl (lv_at hl 1 rfl) ?_
            refine lv_iload_n hx hb dL_sews_486 rfl (lv_at hl 2 rfl) ?_
            refine lv_iload hx hb dL_sews_487 (lv_at hl 7 rfl) ?_
            refine mb_cW (S := mb_S) hD hS hA (vx_runSW (As := [.ref o, .int x3, .int x12]) (rest := []) ⟨hx, hb, hml, hown, hts⟩ (cw_sew l hl0 D Y N o a aa ad u477.1 u477.2 _ x3 x12 _ hF) (vx_cwSW 3 hts gL_sews_L_sew rfl rfl rfl (by decide +kernel) ⟨Nat.le_of_ble_eq_true rfl, Nat.le_of_ble_eq_true rfl⟩) (mbm_pre CM hP hD hS) rfl rfl hl.1 rfl (lv_room (Nat.le_of_ble_eq_true rfl)) dL_sews_489 ⟨by show _ ≤ 31; omega, by show _ ≤ 186; omega⟩) (fun r489 u489 H locs hF hP hD hS => ?_)
            have hP : va_P D vwCl (wW Y o a aa ad u489.1 u489.2) H := hP
            have hD : va_D A (wW Y o a aa ad u489.1 u489.2) := hD
            refine lv_iload hx hb dL_sews_492 (lv_at hl 8 rfl) ?_
            refine lv_icmp_ne (tgt := 501) hx hb dL_sews_494 (by decide) (fun c_494 => ?_) (fun c_494 => ?_)
            · have hF := hF.1 c_494
              refine lv_iconst (v := 0) hx hb dL_sews_501 (by decide) ?_
              exact mb_ri (S := mb_S) (mc := 31) (ms := 186) (wf := fun u => wW Y o a aa ad u.1 u.2) C rfl (u := (u489.1, u489.2)) hF hP hD hS dL_sews_502 (by omega) (by omega)
            · have hF := hF.2 c_494
              refine lv_iconst (v := 1) hx hb dL_sews_497 (by decide) ?_
              refine lv_goto (tgt := 502) hx hb dL_sews_498 (by decide) ?_
              exact mb_ri (S := mb_S) (mc := 31) (ms := 186) (wf := fun u => wW Y o a aa ad u.1 u.2) C rfl (u := (u489.1, u489.2)) hF hP hD hS dL_sews_502 (by omega) (by omega)
noncomputable def PL_sews_434 (N : Nat) (K : Int32 → mb_S → Prop) (F : mb_m) (b : mb_bs) (x3 x5 x6 x10 x11 x12 x13 : Int32) : Prop := PL_sews_435 N K F b x3 x5 x6 x10 x11 x12 x13 (0 : Int32)
set_option maxHeartbeats 4000000 in
set_option maxRecDepth 100000 in
theorem wL_sews_434 {p : Program} {l : Launch} {e : Env} {s : State} {m : MethodId} {below : List Frame} {meth : Method} {c : Code} {args : Array Value} {D : va_G} {Y : Nat → ClassId} {A : Nat → Prop} {o : Nat} {a aa ad : Nat → Nat} {N : Nat} {K : Int32 → mb_S → Prop} (CM : mb_CM l p s m meth c args cL_sews 16 (some .boolean) wsL_sews RL D Y A) : ∀ (F : mb_m) (b : mb_bs) (x3 x5 x6 x10 x11 x12 x13 : Int32) (H : Heap) (locs : List Loc) (ls : Array Slot) (cells slots : Nat), PL_sews_434 N K  F b x3 x5 x6 x10 x11 x12 x13 → va_P D vwCl (wW Y o a aa ad b F) H → va_D A (wW Y o a aa ad b F) → va_S A s.heap H locs → lv_has ls 16 [(0, .ref o), (3, .int x3), (5, .int x5), (6, .int x6), (10, .int x10), (11, .int x11), (12, .int x12), (13, .int x13)] → cells + (9 + 0) ≤ 31 → slots + (54 + 0) ≤ 186 → W p l e ({ frames := 9, cells := 31, slots := 186, locals := 159 } : Room) s m args below meth c H locs cells slots (MQ below (va_Qi K (fun u t => mb_T D A (wW Y o a aa ad u.1 u.2) t) A) args s 31 186 A) (F0 m 434 ls []) := by
  obtain ⟨C, hX, hl0, hN⟩ := id CM
  obtain ⟨hx, hb, hr, hml, hts, hown, hlocks, hA, hG⟩ := id C
  have hK := hG.1
  intro F b x3 x5 x6 x10 x11 x12 x13 H locs ls cells slots hF hP hD hS hl hc hs
  unfold PL_sews_434 at hF
  refine lv_iconst (v := 0) hx hb dL_sews_434 (by decide) ?_
  exact wL_sews_435 CM F b x3 x5 x6 x10 x11 x12 x13 (0 : Int32) _ _ _ _ _ hF hP hD hS (lv_sub hl [0, 1, 2, 3, 4, 5, 6, 7] rfl) (by omega) (by omega)
noncomputable def PL_sews_415 (N : Nat) (K : Int32 → mb_S → Prop) (F : mb_m) (b : mb_bs) (x3 x5 x6 x10 x11 x12 x13 y0 y1 : Int32) : Prop := (¬ y1 = y0 → PL_sews_434 N K F b x3 x5 x6 x10 x11 x12 x13) ∧ (y1 = y0 → LP_ofThread N b F x3 (4 : Int32) (fun r421 u421 => vp_in x3 4 ∧ ((¬ r421 = (u421.2 2 x3.toNatClampNeg) → PL_sews_434 N K u421.2 u421.1 x3 x5 x6 x10 x11 x12 x13) ∧ (r421 = (u421.2 2 x3.toNatClampNeg) → PL_sews_435 N K u421.2 u421.1 x3 x5 x6 x10 x11 x12 x13 (1 : Int32)))))
set_option maxHeartbeats 4000000 in
set_option maxRecDepth 100000 in
theorem wL_sews_415 {p : Program} {l : Launch} {e : Env} {s : State} {m : MethodId} {below : List Frame} {meth : Method} {c : Code} {args : Array Value} {D : va_G} {Y : Nat → ClassId} {A : Nat → Prop} {o : Nat} {a aa ad : Nat → Nat} {N : Nat} {K : Int32 → mb_S → Prop} (CM : mb_CM l p s m meth c args cL_sews 16 (some .boolean) wsL_sews RL D Y A) : ∀ (F : mb_m) (b : mb_bs) (x3 x5 x6 x10 x11 x12 x13 y0 y1 : Int32) (H : Heap) (locs : List Loc) (ls : Array Slot) (cells slots : Nat), PL_sews_415 N K  F b x3 x5 x6 x10 x11 x12 x13 y0 y1 → va_P D vwCl (wW Y o a aa ad b F) H → va_D A (wW Y o a aa ad b F) → va_S A s.heap H locs → lv_has ls 16 [(0, .ref o), (2, .ref (ad 2)), (3, .int x3), (5, .int x5), (6, .int x6), (10, .int x10), (11, .int x11), (12, .int x12), (13, .int x13)] → cells + (11 + 0) ≤ 31 → slots + (66 + 0) ≤ 186 → W p l e ({ frames := 9, cells := 31, slots := 186, locals := 159 } : Room) s m args below meth c H locs cells slots (MQ below (va_Qi K (fun u t => mb_T D A (wW Y o a aa ad u.1 u.2) t) A) args s 31 186 A) (F0 m 415 ls [.int y0, .int y1]) := by
  obtain ⟨C, hX, hl0, hN⟩ := id CM
  obtain ⟨hx, hb, hr, hml, hts, hown, hlocks, hA, hG⟩ := id C
  have hK := hG.1
  intro F b x3 x5 x6 x10 x11 x12 x13 y0 y1 H locs ls cells slots hF hP hD hS hl hc hs
  unfold PL_sews_415 at hF
  refine lv_icmp_ne (tgt := 434) hx hb dL_sews_415 (by decide) (fun c_415 => ?_) (fun c_415 => ?_)
  · have hF := hF.1 c_415
    exact wL_sews_434 CM F b x3 x5 x6 x10 x11 x12 x13 _ _ _ _ _ hF hP hD hS (lv_sub hl [0, 2, 3, 4, 5, 6, 7, 8] rfl) (by omega) (by omega)
  · have hF := hF.2 c_415
    refine lv_aload_n hx hb dL_sews_418 rfl (lv_at hl 0 rfl) ?_
    refine lv_iload_n hx hb dL_sews_419 rfl (lv_at hl 2 rfl) ?_
    refine lv_iconst (v := 4) hx hb dL_sews_420 (by decide) ?_
    refine mb_cW (S := mb_S) hD hS hA (vx_runSW (As := [.ref o, .int x3, .int (4 : Int32)]) (rest := []) ⟨hx, hb, hml, hown, hts⟩ (cw_ofThread l hl0 D Y N o a aa ad b F _ x3 (4 : Int32) _ hF) (vx_cwSW 3 hts gL_sews_L_ofThread rfl rfl rfl (by decide +kernel) ⟨Nat.le_of_ble_eq_true rfl, Nat.le_of_ble_eq_true rfl⟩) (mbm_pre CM hP hD hS) rfl rfl hl.1 rfl (lv_room (Nat.le_of_ble_eq_true rfl)) dL_sews_421 ⟨by show _ ≤ 31; omega, by show _ ≤ 186; omega⟩) (fun r421 u421 H locs hF hP hD hS => ?_)
    have hP : va_P D vwCl (wW Y o a aa ad u421.1 u421.2) H := hP
    have hD : va_D A (wW Y o a aa ad u421.1 u421.2) := hD
    refine lv_aload_n hx hb dL_sews_424 rfl (lv_at hl 1 rfl) ?_
    refine lv_iload_n hx hb dL_sews_425 rfl (lv_at hl 2 rfl) ?_
    obtain ⟨hi426, hF⟩ := hF
    refine va_iald hx hb hK hP 2 0 rfl rfl hi426 dL_sews_426 ?_
    refine lv_icmp_ne (tgt := 434) hx hb dL_sews_427 (by decide) (fun c_427 => ?_) (fun c_427 => ?_)
    · have hF := hF.1 c_427
      exact wL_sews_434 CM u421.2 u421.1 x3 x5 x6 x10 x11 x12 x13 _ _ _ _ _ hF hP hD hS (lv_sub hl [0, 2, 3, 4, 5, 6, 7, 8] rfl) (by omega) (by omega)
    · have hF := hF.2 c_427
      refine lv_iconst (v := 1) hx hb dL_sews_430 (by decide) ?_
      refine lv_goto (tgt := 435) hx hb dL_sews_431 (by decide) ?_
      exact wL_sews_435 CM u421.2 u421.1 x3 x5 x6 x10 x11 x12 x13 (1 : Int32) _ _ _ _ _ hF hP hD hS (lv_sub hl [0, 2, 3, 4, 5, 6, 7, 8] rfl) (by omega) (by omega)
noncomputable def PL_sews_391 (N : Nat) (K : Int32 → mb_S → Prop) (F : mb_m) (b : mb_bs) (x3 x5 x6 x9 x10 x11 x12 x13 y0 y1 y2 : Int32) : Prop := (¬ y2 = (y1 + y0) → PL_sews_434 N K F b x3 x5 x6 x10 x11 x12 x13) ∧ (y2 = (y1 + y0) → LP_ofThread N b F x3 (3 : Int32) (fun r398 u398 => (¬ x12 = 0 → PL_sews_415 N K u398.2 u398.1 x3 x5 x6 x10 x11 x12 x13 x9 r398) ∧ (x12 = 0 → PL_sews_415 N K u398.2 u398.1 x3 x5 x6 x10 x11 x12 x13 ((1 : Int32) - x9) r398)))
set_option maxHeartbeats 4000000 in
set_option maxRecDepth 100000 in
theorem wL_sews_391 {p : Program} {l : Launch} {e : Env} {s : State} {m : MethodId} {below : List Frame} {meth : Method} {c : Code} {args : Array Value} {D : va_G} {Y : Nat → ClassId} {A : Nat → Prop} {o : Nat} {a aa ad : Nat → Nat} {N : Nat} {K : Int32 → mb_S → Prop} (CM : mb_CM l p s m meth c args cL_sews 16 (some .boolean) wsL_sews RL D Y A) : ∀ (F : mb_m) (b : mb_bs) (x3 x5 x6 x9 x10 x11 x12 x13 y0 y1 y2 : Int32) (H : Heap) (locs : List Loc) (ls : Array Slot) (cells slots : Nat), PL_sews_391 N K  F b x3 x5 x6 x9 x10 x11 x12 x13 y0 y1 y2 → va_P D vwCl (wW Y o a aa ad b F) H → va_D A (wW Y o a aa ad b F) → va_S A s.heap H locs → lv_has ls 16 [(0, .ref o), (2, .ref (ad 2)), (3, .int x3), (5, .int x5), (6, .int x6), (9, .int x9), (10, .int x10), (11, .int x11), (12, .int x12), (13, .int x13)] → cells + (13 + 0) ≤ 31 → slots + (78 + 0) ≤ 186 → W p l e ({ frames := 9, cells := 31, slots := 186, locals := 159 } : Room) s m args below meth c H locs cells slots (MQ below (va_Qi K (fun u t => mb_T D A (wW Y o a aa ad u.1 u.2) t) A) args s 31 186 A) (F0 m 391 ls [.int y0, .int y1, .int y2]) := by
  obtain ⟨C, hX, hl0, hN⟩ := id CM
  obtain ⟨hx, hb, hr, hml, hts, hown, hlocks, hA, hG⟩ := id C
  have hK := hG.1
  intro F b x3 x5 x6 x9 x10 x11 x12 x13 y0 y1 y2 H locs ls cells slots hF hP hD hS hl hc hs
  unfold PL_sews_391 at hF
  refine lv_iadd hx hb dL_sews_391 ?_
  refine lv_icmp_ne (tgt := 434) hx hb dL_sews_392 (by decide) (fun c_392 => ?_) (fun c_392 => ?_)
  · have hF := hF.1 c_392
    exact wL_sews_434 CM F b x3 x5 x6 x10 x11 x12 x13 _ _ _ _ _ hF hP hD hS (lv_sub hl [0, 2, 3, 4, 6, 7, 8, 9] rfl) (by omega) (by omega)
  · have hF := hF.2 c_392
    refine lv_aload_n hx hb dL_sews_395 rfl (lv_at hl 0 rfl) ?_
    refine lv_iload_n hx hb dL_sews_396 rfl (lv_at hl 2 rfl) ?_
    refine lv_iconst (v := 3) hx hb dL_sews_397 (by decide) ?_
    refine mb_cW (S := mb_S) hD hS hA (vx_runSW (As := [.ref o, .int x3, .int (3 : Int32)]) (rest := []) ⟨hx, hb, hml, hown, hts⟩ (cw_ofThread l hl0 D Y N o a aa ad b F _ x3 (3 : Int32) _ hF) (vx_cwSW 3 hts gL_sews_L_ofThread rfl rfl rfl (by decide +kernel) ⟨Nat.le_of_ble_eq_true rfl, Nat.le_of_ble_eq_true rfl⟩) (mbm_pre CM hP hD hS) rfl rfl hl.1 rfl (lv_room (Nat.le_of_ble_eq_true rfl)) dL_sews_398 ⟨by show _ ≤ 31; omega, by show _ ≤ 186; omega⟩) (fun r398 u398 H locs hF hP hD hS => ?_)
    have hP : va_P D vwCl (wW Y o a aa ad u398.1 u398.2) H := hP
    have hD : va_D A (wW Y o a aa ad u398.1 u398.2) := hD
    refine lv_iload hx hb dL_sews_401 (lv_at hl 8 rfl) ?_
    refine lv_if_ne (tgt := 413) hx hb dL_sews_403 (by decide) (fun c_403 => ?_) (fun c_403 => ?_)
    · have hF := hF.1 c_403
      refine lv_iload hx hb dL_sews_413 (lv_at hl 5 rfl) ?_
      exact wL_sews_415 CM u398.2 u398.1 x3 x5 x6 x10 x11 x12 x13 x9 r398 _ _ _ _ _ hF hP hD hS (lv_sub hl [0, 1, 2, 3, 4, 6, 7, 8, 9] rfl) (by omega) (by omega)
    · have hF := hF.2 c_403
      refine lv_iconst (v := 1) hx hb dL_sews_406 (by decide) ?_
      refine lv_iload hx hb dL_sews_407 (lv_at hl 5 rfl) ?_
      refine lv_isub hx hb dL_sews_409 ?_
      refine lv_goto (tgt := 415) hx hb dL_sews_410 (by decide) ?_
      exact wL_sews_415 CM u398.2 u398.1 x3 x5 x6 x10 x11 x12 x13 ((1 : Int32) - x9) r398 _ _ _ _ _ hF hP hD hS (lv_sub hl [0, 1, 2, 3, 4, 6, 7, 8, 9] rfl) (by omega) (by omega)
noncomputable def PL_sews_358 (N : Nat) (K : Int32 → mb_S → Prop) (F : mb_m) (b : mb_bs) (x3 x5 x6 x8 x9 x10 x11 x12 x13 y0 y1 y2 : Int32) : Prop := (¬ y2 = (y1 + y0) → PL_sews_434 N K F b x3 x5 x6 x10 x11 x12 x13) ∧ (y2 = (y1 + y0) → LP_ofThread N b F x3 (2 : Int32) (fun r365 u365 => (¬ x12 = (1 : Int32) → (¬ x12 = (2 : Int32) → PL_sews_391 N K u365.2 u365.1 x3 x5 x6 x9 x10 x11 x12 x13 (0 : Int32) x8 r365) ∧ (x12 = (2 : Int32) → PL_sews_391 N K u365.2 u365.1 x3 x5 x6 x9 x10 x11 x12 x13 (-1 : Int32) x8 r365)) ∧ (x12 = (1 : Int32) → PL_sews_391 N K u365.2 u365.1 x3 x5 x6 x9 x10 x11 x12 x13 (1 : Int32) x8 r365)))
set_option maxHeartbeats 4000000 in
set_option maxRecDepth 100000 in
theorem wL_sews_358 {p : Program} {l : Launch} {e : Env} {s : State} {m : MethodId} {below : List Frame} {meth : Method} {c : Code} {args : Array Value} {D : va_G} {Y : Nat → ClassId} {A : Nat → Prop} {o : Nat} {a aa ad : Nat → Nat} {N : Nat} {K : Int32 → mb_S → Prop} (CM : mb_CM l p s m meth c args cL_sews 16 (some .boolean) wsL_sews RL D Y A) : ∀ (F : mb_m) (b : mb_bs) (x3 x5 x6 x8 x9 x10 x11 x12 x13 y0 y1 y2 : Int32) (H : Heap) (locs : List Loc) (ls : Array Slot) (cells slots : Nat), PL_sews_358 N K  F b x3 x5 x6 x8 x9 x10 x11 x12 x13 y0 y1 y2 → va_P D vwCl (wW Y o a aa ad b F) H → va_D A (wW Y o a aa ad b F) → va_S A s.heap H locs → lv_has ls 16 [(0, .ref o), (2, .ref (ad 2)), (3, .int x3), (5, .int x5), (6, .int x6), (8, .int x8), (9, .int x9), (10, .int x10), (11, .int x11), (12, .int x12), (13, .int x13)] → cells + (15 + 0) ≤ 31 → slots + (90 + 0) ≤ 186 → W p l e ({ frames := 9, cells := 31, slots := 186, locals := 159 } : Room) s m args below meth c H locs cells slots (MQ below (va_Qi K (fun u t => mb_T D A (wW Y o a aa ad u.1 u.2) t) A) args s 31 186 A) (F0 m 358 ls [.int y0, .int y1, .int y2]) := by
  obtain ⟨C, hX, hl0, hN⟩ := id CM
  obtain ⟨hx, hb, hr, hml, hts, hown, hlocks, hA, hG⟩ := id C
  have hK := hG.1
  intro F b x3 x5 x6 x8 x9 x10 x11 x12 x13 y0 y1 y2 H locs ls cells slots hF hP hD hS hl hc hs
  unfold PL_sews_358 at hF
  refine lv_iadd hx hb dL_sews_358 ?_
  refine lv_icmp_ne (tgt := 434) hx hb dL_sews_359 (by decide) (fun c_359 => ?_) (fun c_359 => ?_)
  · have hF := hF.1 c_359
    exact wL_sews_434 CM F b x3 x5 x6 x10 x11 x12 x13 _ _ _ _ _ hF hP hD hS (lv_sub hl [0, 2, 3, 4, 7, 8, 9, 10] rfl) (by omega) (by omega)
  · have hF := hF.2 c_359
    refine lv_aload_n hx hb dL_sews_362 rfl (lv_at hl 0 rfl) ?_
    refine lv_iload_n hx hb dL_sews_363 rfl (lv_at hl 2 rfl) ?_
    refine lv_iconst (v := 2) hx hb dL_sews_364 (by decide) ?_
    refine mb_cW (S := mb_S) hD hS hA (vx_runSW (As := [.ref o, .int x3, .int (2 : Int32)]) (rest := []) ⟨hx, hb, hml, hown, hts⟩ (cw_ofThread l hl0 D Y N o a aa ad b F _ x3 (2 : Int32) _ hF) (vx_cwSW 3 hts gL_sews_L_ofThread rfl rfl rfl (by decide +kernel) ⟨Nat.le_of_ble_eq_true rfl, Nat.le_of_ble_eq_true rfl⟩) (mbm_pre CM hP hD hS) rfl rfl hl.1 rfl (lv_room (Nat.le_of_ble_eq_true rfl)) dL_sews_365 ⟨by show _ ≤ 31; omega, by show _ ≤ 186; omega⟩) (fun r365 u365 H locs hF hP hD hS => ?_)
    have hP : va_P D vwCl (wW Y o a aa ad u365.1 u365.2) H := hP
    have hD : va_D A (wW Y o a aa ad u365.1 u365.2) := hD
    refine lv_iload hx hb dL_sews_368 (lv_at hl 5 rfl) ?_
    refine lv_iload hx hb dL_sews_370 (lv_at hl 9 rfl) ?_
    refine lv_iconst (v := 1) hx hb dL_sews_372 (by decide) ?_
    refine lv_icmp_ne (tgt := 380) hx hb dL_sews_373 (by decide) (fun c_373 => ?_) (fun c_373 => ?_)
    · have hF := hF.1 c_373
      refine lv_iload hx hb dL_sews_380 (lv_at hl 9 rfl) ?_
      refine lv_iconst (v := 2) hx hb dL_sews_382 (by decide) ?_
      refine lv_icmp_ne (tgt := 390) hx hb dL_sews_383 (by decide) (fun c_383 => ?_) (fun c_383 => ?_)
      · have hF := hF.1 c_383
        refine lv_iconst (v := 0) hx hb dL_sews_390 (by decide) ?_
        exact wL_sews_391 CM u365.2 u365.1 x3 x5 x6 x9 x10 x11 x12 x13 (0 : Int32) x8 r365 _ _ _ _ _ hF hP hD hS (lv_sub hl [0, 1, 2, 3, 4, 6, 7, 8, 9, 10] rfl) (by omega) (by omega)
      · have hF := hF.2 c_383
        refine lv_iconst (v := -1) hx hb dL_sews_386 (by decide) ?_
        refine lv_goto (tgt := 391) hx hb dL_sews_387 (by decide) ?_
        exact wL_sews_391 CM u365.2 u365.1 x3 x5 x6 x9 x10 x11 x12 x13 (-1 : Int32) x8 r365 _ _ _ _ _ hF hP hD hS (lv_sub hl [0, 1, 2, 3, 4, 6, 7, 8, 9, 10] rfl) (by omega) (by omega)
    · have hF := hF.2 c_373
      refine lv_iconst (v := 1) hx hb dL_sews_376 (by decide) ?_
      refine lv_goto (tgt := 391) hx hb dL_sews_377 (by decide) ?_
      exact wL_sews_391 CM u365.2 u365.1 x3 x5 x6 x9 x10 x11 x12 x13 (1 : Int32) x8 r365 _ _ _ _ _ hF hP hD hS (lv_sub hl [0, 1, 2, 3, 4, 6, 7, 8, 9, 10] rfl) (by omega) (by omega)
noncomputable def PL_sews_317 (N : Nat) (K : Int32 → mb_S → Prop) (F : mb_m) (b : mb_bs) (x3 x5 x6 x7 x8 x9 x10 x11 x12 x13 y0 : Int32) : Prop := (¬ x13 = (x6 + y0) → PL_sews_434 N K F b x3 x5 x6 x10 x11 x12 x13) ∧ (x13 = (x6 + y0) → LP_ofThread N b F x3 (1 : Int32) (fun r332 u332 => (¬ x12 = (3 : Int32) → (¬ x12 = (4 : Int32) → PL_sews_358 N K u332.2 u332.1 x3 x5 x6 x8 x9 x10 x11 x12 x13 (0 : Int32) x7 r332) ∧ (x12 = (4 : Int32) → PL_sews_358 N K u332.2 u332.1 x3 x5 x6 x8 x9 x10 x11 x12 x13 (-1 : Int32) x7 r332)) ∧ (x12 = (3 : Int32) → PL_sews_358 N K u332.2 u332.1 x3 x5 x6 x8 x9 x10 x11 x12 x13 (1 : Int32) x7 r332)))
set_option maxHeartbeats 4000000 in
set_option maxRecDepth 100000 in
theorem wL_sews_317 {p : Program} {l : Launch} {e : Env} {s : State} {m : MethodId} {below : List Frame} {meth : Method} {c : Code} {args : Array Value} {D : va_G} {Y : Nat → ClassId} {A : Nat → Prop} {o : Nat} {a aa ad : Nat → Nat} {N : Nat} {K : Int32 → mb_S → Prop} (CM : mb_CM l p s m meth c args cL_sews 16 (some .boolean) wsL_sews RL D Y A) : ∀ (F : mb_m) (b : mb_bs) (x3 x5 x6 x7 x8 x9 x10 x11 x12 x13 y0 : Int32) (H : Heap) (locs : List Loc) (ls : Array Slot) (cells slots : Nat), PL_sews_317 N K  F b x3 x5 x6 x7 x8 x9 x10 x11 x12 x13 y0 → va_P D vwCl (wW Y o a aa ad b F) H → va_D A (wW Y o a aa ad b F) → va_S A s.heap H locs → lv_has ls 16 [(0, .ref o), (2, .ref (ad 2)), (3, .int x3), (5, .int x5), (6, .int x6), (7, .int x7), (8, .int x8), (9, .int x9), (10, .int x10), (11, .int x11), (12, .int x12), (13, .int x13)] → cells + (17 + 0) ≤ 31 → slots + (102 + 0) ≤ 186 → W p l e ({ frames := 9, cells := 31, slots := 186, locals := 159 } : Room) s m args below meth c H locs cells slots (MQ below (va_Qi K (fun u t => mb_T D A (wW Y o a aa ad u.1 u.2) t) A) args s 31 186 A) (F0 m 317 ls [.int y0]) := by
  obtain ⟨C, hX, hl0, hN⟩ := id CM
  obtain ⟨hx, hb, hr, hml, hts, hown, hlocks, hA, hG⟩ := id C
  have hK := hG.1
  intro F b x3 x5 x6 x7 x8 x9 x10 x11 x12 x13 y0 H locs ls cells slots hF hP hD hS hl hc hs
  unfold PL_sews_317 at hF
  refine lv_istore (lv' := [(14, .int y0), (0, .ref o), (2, .ref (ad 2)), (3, .int x3), (5, .int x5), (6, .int x6), (7, .int x7), (8, .int x8), (9, .int x9), (10, .int x10), (11, .int x11), (12, .int x12), (13, .int x13)]) hx hb dL_sews_317 hl (by decide) rfl (fun ls hl => ?_)
  refine lv_iload hx hb dL_sews_319 (lv_at hl 12 rfl) ?_
  refine lv_iload hx hb dL_sews_321 (lv_at hl 5 rfl) ?_
  refine lv_iload hx hb dL_sews_323 (lv_at hl 0 rfl) ?_
  refine lv_iadd hx hb dL_sews_325 ?_
  refine lv_icmp_ne (tgt := 434) hx hb dL_sews_326 (by decide) (fun c_326 => ?_) (fun c_326 => ?_)
  · have hF := hF.1 c_326
    exact wL_sews_434 CM F b x3 x5 x6 x10 x11 x12 x13 _ _ _ _ _ hF hP hD hS (lv_sub hl [1, 3, 4, 5, 9, 10, 11, 12] rfl) (by omega) (by omega)
  · have hF := hF.2 c_326
    refine lv_aload_n hx hb dL_sews_329 rfl (lv_at hl 1 rfl) ?_
    refine lv_iload_n hx hb dL_sews_330 rfl (lv_at hl 3 rfl) ?_
    refine lv_iconst (v := 1) hx hb dL_sews_331 (by decide) ?_
    refine mb_cW (S := mb_S) hD hS hA (vx_runSW (As := [.ref o, .int x3, .int (1 : Int32)]) (rest := []) ⟨hx, hb, hml, hown, hts⟩ (cw_ofThread l hl0 D Y N o a aa ad b F _ x3 (1 : Int32) _ hF) (vx_cwSW 3 hts gL_sews_L_ofThread rfl rfl rfl (by decide +kernel) ⟨Nat.le_of_ble_eq_true rfl, Nat.le_of_ble_eq_true rfl⟩) (mbm_pre CM hP hD hS) rfl rfl hl.1 rfl (lv_room (Nat.le_of_ble_eq_true rfl)) dL_sews_332 ⟨by show _ ≤ 31; omega, by show _ ≤ 186; omega⟩) (fun r332 u332 H locs hF hP hD hS => ?_)
    have hP : va_P D vwCl (wW Y o a aa ad u332.1 u332.2) H := hP
    have hD : va_D A (wW Y o a aa ad u332.1 u332.2) := hD
    refine lv_iload hx hb dL_sews_335 (lv_at hl 6 rfl) ?_
    refine lv_iload hx hb dL_sews_337 (lv_at hl 11 rfl) ?_
    refine lv_iconst (v := 3) hx hb dL_sews_339 (by decide) ?_
    refine lv_icmp_ne (tgt := 347) hx hb dL_sews_340 (by decide) (fun c_340 => ?_) (fun c_340 => ?_)
    · have hF := hF.1 c_340
      refine lv_iload hx hb dL_sews_347 (lv_at hl 11 rfl) ?_
      refine lv_iconst (v := 4) hx hb dL_sews_349 (by decide) ?_
      refine lv_icmp_ne (tgt := 357) hx hb dL_sews_350 (by decide) (fun c_350 => ?_) (fun c_350 => ?_)
      · have hF := hF.1 c_350
        refine lv_iconst (v := 0) hx hb dL_sews_357 (by decide) ?_
        exact wL_sews_358 CM u332.2 u332.1 x3 x5 x6 x8 x9 x10 x11 x12 x13 (0 : Int32) x7 r332 _ _ _ _ _ hF hP hD hS (lv_sub hl [1, 2, 3, 4, 5, 7, 8, 9, 10, 11, 12] rfl) (by omega) (by omega)
      · have hF := hF.2 c_350
        refine lv_iconst (v := -1) hx hb dL_sews_353 (by decide) ?_
        refine lv_goto (tgt := 358) hx hb dL_sews_354 (by decide) ?_
        exact wL_sews_358 CM u332.2 u332.1 x3 x5 x6 x8 x9 x10 x11 x12 x13 (-1 : Int32) x7 r332 _ _ _ _ _ hF hP hD hS (lv_sub hl [1, 2, 3, 4, 5, 7, 8, 9, 10, 11, 12] rfl) (by omega) (by omega)
    · have hF := hF.2 c_340
      refine lv_iconst (v := 1) hx hb dL_sews_343 (by decide) ?_
      refine lv_goto (tgt := 358) hx hb dL_sews_344 (by decide) ?_
      exact wL_sews_358 CM u332.2 u332.1 x3 x5 x6 x8 x9 x10 x11 x12 x13 (1 : Int32) x7 r332 _ _ _ _ _ hF hP hD hS (lv_sub hl [1, 2, 3, 4, 5, 7, 8, 9, 10, 11, 12] rfl) (by omega) (by omega)
noncomputable def PL_sews (N : Nat) (F : mb_m) (b : mb_bs) (x3 x4 x5 : Int32) (K : Int32 → mb_S → Prop) : Prop := LP_ofThread N b F x3 (0 : Int32) (fun r3 u3 => LP_ofThread N u3.1 u3.2 x3 (1 : Int32) (fun r11 u11 => LP_ofThread N u11.1 u11.2 x3 (2 : Int32) (fun r19 u19 => LP_ofThread N u19.1 u19.2 x3 (3 : Int32) (fun r27 u27 => LP_swelling N u27.1 u27.2 x3 (fun r34 u34 => LP_ofThread N u34.1 u34.2 x3 (5 : Int32) (fun r42 u42 => PL_low N x4 (10 : Int32) (fun r51 _ => (¬ r51 = 0 → PL_low N x5 (5 : Int32) (fun r171 _ => LP_sew N u42.1 u42.2 x3 r171 (fun r180 u180 => (¬ r180 = (-1000003 : Int32) → vp_in x3 4 ∧ (∀ v295 : Int32, v295 = ((u180.2 2 x3.toNatClampNeg) + (1 : Int32)) → (vp_in x3 4 ∧ (∀ M295 : mb_m, M295 = mb_u u180.2 2 (upd (u180.2 2) x3.toNatClampNeg v295) → ((¬ r171 = 0 → ((3 : Int32) ≤ r171 → PL_sews_317 N K M295 u180.1 x3 x5 r3 r11 r19 r27 r34 r42 r171 r180 (4 : Int32)) ∧ (¬ (3 : Int32) ≤ r171 → PL_sews_317 N K M295 u180.1 x3 x5 r3 r11 r19 r27 r34 r42 r171 r180 (10 : Int32))) ∧ (r171 = 0 → PL_sews_317 N K M295 u180.1 x3 x5 r3 r11 r19 r27 r34 r42 r171 r180 (0 : Int32))))))) ∧ (r180 = (-1000003 : Int32) → (r171 ≤ 0 → K (0 : Int32) (u180.1, u180.2)) ∧ (¬ r171 ≤ 0 → LP_ofThread N u180.1 u180.2 x3 (0 : Int32) (fun r200 u200 => (¬ r200 = r3 → K (0 : Int32) (u200.1, u200.2)) ∧ (r200 = r3 → LP_ofThread N u200.1 u200.2 x3 (1 : Int32) (fun r211 u211 => (¬ r211 = r11 → K (0 : Int32) (u211.1, u211.2)) ∧ (r211 = r11 → LP_ofThread N u211.1 u211.2 x3 (2 : Int32) (fun r222 u222 => (¬ r222 = r19 → K (0 : Int32) (u222.1, u222.2)) ∧ (r222 = r19 → ((3 : Int32) ≤ r171 → (r27 = (1 : Int32) → K (1 : Int32) (u222.1, u222.2)) ∧ (¬ r27 = (1 : Int32) → (r11 = 0 → K (1 : Int32) (u222.1, u222.2)) ∧ (¬ r11 = 0 → vp_in ((6 : Int32) * x3) 24 ∧ ((¬ r11 = ((u222.2 1 ((6 : Int32) * x3).toNatClampNeg) - (1 : Int32)) → K (0 : Int32) (u222.1, u222.2)) ∧ (r11 = ((u222.2 1 ((6 : Int32) * x3).toNatClampNeg) - (1 : Int32)) → K (1 : Int32) (u222.1, u222.2)))))) ∧ (¬ (3 : Int32) ≤ r171 → (r19 = 0 → K (1 : Int32) (u222.1, u222.2)) ∧ (¬ r19 = 0 → vp_in (((6 : Int32) * x3) + (2 : Int32)) 24 ∧ ((¬ r19 = ((u222.2 1 (((6 : Int32) * x3) + (2 : Int32)).toNatClampNeg) - (1 : Int32)) → K (0 : Int32) (u222.1, u222.2)) ∧ (r19 = ((u222.2 1 (((6 : Int32) * x3) + (2 : Int32)).toNatClampNeg) - (1 : Int32)) → K (1 : Int32) (u222.1, u222.2)))))))))))))))) ∧ (r51 = 0 → PL_low N x5 (12 : Int32) (fun r62 _ => ∀ v66 : Int32, v66 = ((1 : Int32) + r62) → (LP_unsew N u42.1 u42.2 x3 v66 (fun r72 u72 => vp_in x3 4 ∧ (((u72.2 2 x3.toNatClampNeg) < v66 → PL_sews_90 N K u72.2 u72.1 x3 r3 r34 v66 r72 (0 : Int32)) ∧ (¬ (u72.2 2 x3.toNatClampNeg) < v66 → PL_sews_90 N K u72.2 u72.1 x3 r3 r34 v66 r72 (1 : Int32))))))))))))))
set_option maxHeartbeats 4000000 in
set_option maxRecDepth 100000 in
theorem cnL_sews (l : Launch) (hl0 : l.stackTraces = false) (D : va_G) (Y : Nat → ClassId) (N : Nat) (o : Nat) (a aa ad : Nat → Nat) (F : mb_m) (b : mb_bs) (sz : Nat) (x3 x4 x5 : Int32) (K : Int32 → mb_S → Prop) (hF : PL_sews N F b x3 x4 x5 K) : Met l yL_sews wsL_sews ({ frames := 9, cells := 31, slots := 186, locals := 159 } : Room) (va_Pc [.ref o, .ref (ad 1), .ref (ad 2), .int x3, .int x4, .int x5] (mb_BL D Y (wW Y o a aa ad b F) sz)) (va_Qi K (fun u t => mb_T D (va_A (wW Y o a aa ad b F) sz) (wW Y o a aa ad u.1 u.2) t) (va_A (wW Y o a aa ad b F) sz)) 31 186 (va_A (wW Y o a aa ad b F) sz) := by
  refine mbm_begin (cc := cL_sews) (maxL := 16) (ret := (some .boolean)) hl0 (by decide +kernel) rfl (Nat.le_of_ble_eq_true rfl) ?_
  intro p e s m below meth c ls CM hsz hP hD hl
  generalize hAe : va_A (wW Y o a aa ad b F) sz = A at CM hD ⊢
  have CM : mb_CM l p s m meth c ([.ref o, .ref (ad 1), .ref (ad 2), .int x3, .int x4, .int x5] : List Value).toArray cL_sews 16 (some .boolean) wsL_sews RL D Y A := CM
  obtain ⟨C, hX, hl0, hN⟩ := id CM
  obtain ⟨hx, hb, hr, hml, hts, hown, hlocks, hA, hG⟩ := id C
  have hK := hG.1
  have hS : va_S A s.heap s.heap [] := va_S.rf
  have hl : lv_has ls 16 [(0, .ref o), (1, .ref (ad 1)), (2, .ref (ad 2)), (3, .int x3), (4, .int x4), (5, .int x5)] := hl
  unfold PL_sews at hF
  refine lv_aload_n hx hb dL_sews_0 rfl (lv_at hl 0 rfl) ?_
  refine lv_iload_n hx hb dL_sews_1 rfl (lv_at hl 3 rfl) ?_
  refine lv_iconst (v := 0) hx hb dL_sews_2 (by decide) ?_
  refine mb_cW (S := mb_S) hD hS hA (vx_runSW (As := [.ref o, .int x3, .int (0 : Int32)]) (rest := []) ⟨hx, hb, hml, hown, hts⟩ (cw_ofThread l hl0 D Y N o a aa ad b F _ x3 (0 : Int32) _ hF) (vx_cwSW 3 hts gL_sews_L_ofThread rfl rfl rfl (by decide +kernel) ⟨Nat.le_of_ble_eq_true rfl, Nat.le_of_ble_eq_true rfl⟩) (mbm_pre CM hP hD hS) rfl rfl hl.1 rfl (lv_room (Nat.le_of_ble_eq_true rfl)) dL_sews_3 ⟨by show _ ≤ 31; omega, by show _ ≤ 186; omega⟩) (fun r3 u3 H locs hF hP hD hS => ?_)
  have hP : va_P D vwCl (wW Y o a aa ad u3.1 u3.2) H := hP
  have hD : va_D A (wW Y o a aa ad u3.1 u3.2) := hD
  refine lv_istore (lv' := [(6, .int r3), (0, .ref o), (1, .ref (ad 1)), (2, .ref (ad 2)), (3, .int x3), (4, .int x4), (5, .int x5)]) hx hb dL_sews_6 hl (by decide) rfl (fun ls hl => ?_)
  refine lv_aload_n hx hb dL_sews_8 rfl (lv_at hl 1 rfl) ?_
  refine lv_iload_n hx hb dL_sews_9 rfl (lv_at hl 4 rfl) ?_
  refine lv_iconst (v := 1) hx hb dL_sews_10 (by decide) ?_
  refine mb_cW (S := mb_S) hD hS hA (vx_runSW (As := [.ref o, .int x3, .int (1 : Int32)]) (rest := []) ⟨hx, hb, hml, hown, hts⟩ (cw_ofThread l hl0 D Y N o a aa ad u3.1 u3.2 _ x3 (1 : Int32) _ hF) (vx_cwSW 3 hts gL_sews_L_ofThread rfl rfl rfl (by decide +kernel) ⟨Nat.le_of_ble_eq_true rfl, Nat.le_of_ble_eq_true rfl⟩) (mbm_pre CM hP hD hS) rfl rfl hl.1 rfl (lv_room (Nat.le_of_ble_eq_true rfl)) dL_sews_11 ⟨by show _ ≤ 31; omega, by show _ ≤ 186; omega⟩) (fun r11 u11 H locs hF hP hD hS => ?_)
  have hP : va_P D vwCl (wW Y o a aa ad u11.1 u11.2) H := hP
  have hD : va_D A (wW Y o a aa ad u11.1 u11.2) := hD
  refine lv_istore (lv' := [(7, .int r11), (6, .int r3), (0, .ref o), (1, .ref (ad 1)), (2, .ref (ad 2)), (3, .int x3), (4, .int x4), (5, .int x5)]) hx hb dL_sews_14 hl (by decide) rfl (fun ls hl => ?_)
  refine lv_aload_n hx hb dL_sews_16 rfl (lv_at hl 2 rfl) ?_
  refine lv_iload_n hx hb dL_sews_17 rfl (lv_at hl 5 rfl) ?_
  refine lv_iconst (v := 2) hx hb dL_sews_18 (by decide) ?_
  refine mb_cW (S := mb_S) hD hS hA (vx_runSW (As := [.ref o, .int x3, .int (2 : Int32)]) (rest := []) ⟨hx, hb, hml, hown, hts⟩ (cw_ofThread l hl0 D Y N o a aa ad u11.1 u11.2 _ x3 (2 : Int32) _ hF) (vx_cwSW 3 hts gL_sews_L_ofThread rfl rfl rfl (by decide +kernel) ⟨Nat.le_of_ble_eq_true rfl, Nat.le_of_ble_eq_true rfl⟩) (mbm_pre CM hP hD hS) rfl rfl hl.1 rfl (lv_room (Nat.le_of_ble_eq_true rfl)) dL_sews_19 ⟨by show _ ≤ 31; omega, by show _ ≤ 186; omega⟩) (fun r19 u19 H locs hF hP hD hS => ?_)
  have hP : va_P D vwCl (wW Y o a aa ad u19.1 u19.2) H := hP
  have hD : va_D A (wW Y o a aa ad u19.1 u19.2) := hD
  refine lv_istore (lv' := [(8, .int r19), (7, .int r11), (6, .int r3), (0, .ref o), (1, .ref (ad 1)), (2, .ref (ad 2)), (3, .int x3), (4, .int x4), (5, .int x5)]) hx hb dL_sews_22 hl (by decide) rfl (fun ls hl => ?_)
  refine lv_aload_n hx hb dL_sews_24 rfl (lv_at hl 3 rfl) ?_
  refine lv_iload_n hx hb dL_sews_25 rfl (lv_at hl 6 rfl) ?_
  refine lv_iconst (v := 3) hx hb dL_sews_26 (by decide) ?_
  refine mb_cW (S := mb_S) hD hS hA (vx_runSW (As := [.ref o, .int x3, .int (3 : Int32)]) (rest := []) ⟨hx, hb, hml, hown, hts⟩ (cw_ofThread l hl0 D Y N o a aa ad u19.1 u19.2 _ x3 (3 : Int32) _ hF) (vx_cwSW 3 hts gL_sews_L_ofThread rfl rfl rfl (by decide +kernel) ⟨Nat.le_of_ble_eq_true rfl, Nat.le_of_ble_eq_true rfl⟩) (mbm_pre CM hP hD hS) rfl rfl hl.1 rfl (lv_room (Nat.le_of_ble_eq_true rfl)) dL_sews_27 ⟨by show _ ≤ 31; omega, by show _ ≤ 186; omega⟩) (fun r27 u27 H locs hF hP hD hS => ?_)
  have hP : va_P D vwCl (wW Y o a aa ad u27.1 u27.2) H := hP
  have hD : va_D A (wW Y o a aa ad u27.1 u27.2) := hD
  refine lv_istore (lv' := [(9, .int r27), (8, .int r19), (7, .int r11), (6, .int r3), (0, .ref o), (1, .ref (ad 1)), (2, .ref (ad 2)), (3, .int x3), (4, .int x4), (5, .int x5)]) hx hb dL_sews_30 hl (by decide) rfl (fun ls hl => ?_)
  refine lv_aload_n hx hb dL_sews_32 rfl (lv_at hl 4 rfl) ?_
  refine lv_iload_n hx hb dL_sews_33 rfl (lv_at hl 7 rfl) ?_
  refine mb_cW (S := mb_S) hD hS hA (vx_runSW (As := [.ref o, .int x3]) (rest := []) ⟨hx, hb, hml, hown, hts⟩ (cw_swelling l hl0 D Y N o a aa ad u27.1 u27.2 _ x3 _ hF) (vx_cwSW 2 hts gL_sews_L_swelling rfl rfl rfl (by decide +kernel) ⟨Nat.le_of_ble_eq_true rfl, Nat.le_of_ble_eq_true rfl⟩) (mbm_pre CM hP hD hS) rfl rfl hl.1 rfl (lv_room (Nat.le_of_ble_eq_true rfl)) dL_sews_34 ⟨by show _ ≤ 31; omega, by show _ ≤ 186; omega⟩) (fun r34 u34 H locs hF hP hD hS => ?_)
  have hP : va_P D vwCl (wW Y o a aa ad u34.1 u34.2) H := hP
  have hD : va_D A (wW Y o a aa ad u34.1 u34.2) := hD
  refine lv_istore (lv' := [(10, .int r34), (9, .int r27), (8, .int r19), (7, .int r11), (6, .int r3), (0, .ref o), (1, .ref (ad 1)), (2, .ref (ad 2)), (3, .int x3), (4, .int x4), (5, .int x5)]) hx hb dL_sews_37 hl (by decide) rfl (fun ls hl => ?_)
  refine lv_aload_n hx hb dL_sews_39 rfl (lv_at hl 5 rfl) ?_
  refine lv_iload_n hx hb dL_sews_40 rfl (lv_at hl 8 rfl) ?_
  refine lv_iconst (v := 5) hx hb dL_sews_41 (by decide) ?_
  refine mb_cW (S := mb_S) hD hS hA (vx_runSW (As := [.ref o, .int x3, .int (5 : Int32)]) (rest := []) ⟨hx, hb, hml, hown, hts⟩ (cw_ofThread l hl0 D Y N o a aa ad u34.1 u34.2 _ x3 (5 : Int32) _ hF) (vx_cwSW 3 hts gL_sews_L_ofThread rfl rfl rfl (by decide +kernel) ⟨Nat.le_of_ble_eq_true rfl, Nat.le_of_ble_eq_true rfl⟩) (mbm_pre CM hP hD hS) rfl rfl hl.1 rfl (lv_room (Nat.le_of_ble_eq_true rfl)) dL_sews_42 ⟨by show _ ≤ 31; omega, by show _ ≤ 186; omega⟩) (fun r42 u42 H locs hF hP hD hS => ?_)
  have hP : va_P D vwCl (wW Y o a aa ad u42.1 u42.2) H := hP
  have hD : va_D A (wW Y o a aa ad u42.1 u42.2) := hD
  refine lv_istore (lv' := [(11, .int r42), (10, .int r34), (9, .int r27), (8, .int r19), (7, .int r11), (6, .int r3), (0, .ref o), (1, .ref (ad 1)), (2, .ref (ad 2)), (3, .int x3), (4, .int x4), (5, .int x5)]) hx hb dL_sews_45 hl (by decide) rfl (fun ls hl => ?_)
  refine lv_iload hx hb dL_sews_47 (lv_at hl 10 rfl) ?_
  refine lv_bipush (v := 10) hx hb dL_sews_49 (by decide) ?_
  refine mb_cE hP hS hA (va_runS (As := [.int x4, .int (10 : Int32)]) (rest := []) ⟨hx, hb, hml, hown, hts⟩ (cnL_low l D Y N _ x4 (10 : Int32) _ hF) (va_cwS 2 hts gL_sews_L_low rfl rfl rfl (by decide +kernel) ⟨Nat.le_of_ble_eq_true rfl, Nat.le_of_ble_eq_true rfl⟩) (mb_preS (A := A) hG mb_P0 mb_D0) rfl rfl hl.1 rfl (lv_room (Nat.le_of_ble_eq_true rfl)) dL_sews_51 ⟨by show _ ≤ 31; omega, by show _ ≤ 186; omega⟩) (fun r51 H locs hF hP hS => ?_)
  refine lv_if_ne (tgt := 168) hx hb dL_sews_54 (by decide) (fun c_54 => ?_) (fun c_54 => ?_)
  · have hF := hF.1 c_54
    refine lv_iload hx hb dL_sews_168 (lv_at hl 11 rfl) ?_
    refine lv_iconst (v := 5) hx hb dL_sews_170 (by decide) ?_
    refine mb_cE hP hS hA (va_runS (As := [.int x5, .int (5 : Int32)]) (rest := []) ⟨hx, hb, hml, hown, hts⟩ (cnL_low l D Y N _ x5 (5 : Int32) _ hF) (va_cwS 2 hts gL_sews_L_low rfl rfl rfl (by decide +kernel) ⟨Nat.le_of_ble_eq_true rfl, Nat.le_of_ble_eq_true rfl⟩) (mb_preS (A := A) hG mb_P0 mb_D0) rfl rfl hl.1 rfl (lv_room (Nat.le_of_ble_eq_true rfl)) dL_sews_171 ⟨by show _ ≤ 31; omega, by show _ ≤ 186; omega⟩) (fun r171 H locs hF hP hS => ?_)
    refine lv_istore (lv' := [(12, .int r171), (11, .int r42), (10, .int r34), (9, .int r27), (8, .int r19), (7, .int r11), (6, .int r3), (0, .ref o), (1, .ref (ad 1)), (2, .ref (ad 2)), (3, .int x3), (4, .int x4), (5, .int x5)]) hx hb dL_sews_174 hl (by decide) rfl (fun ls hl => ?_)
    refine lv_aload_n hx hb dL_sews_176 rfl (lv_at hl 7 rfl) ?_
    refine lv_iload_n hx hb dL_sews_177 rfl (lv_at hl 10 rfl) ?_
    refine lv_iload hx hb dL_sews_178 (lv_at hl 0 rfl) ?_
    refine mb_cW (S := mb_S) hD hS hA (vx_runSW (As := [.ref o, .int x3, .int r171]) (rest := []) ⟨hx, hb, hml, hown, hts⟩ (cw_sew l hl0 D Y N o a aa ad u42.1 u42.2 _ x3 r171 _ hF) (vx_cwSW 3 hts gL_sews_L_sew rfl rfl rfl (by decide +kernel) ⟨Nat.le_of_ble_eq_true rfl, Nat.le_of_ble_eq_true rfl⟩) (mbm_pre CM hP hD hS) rfl rfl hl.1 rfl (lv_room (Nat.le_of_ble_eq_true rfl)) dL_sews_180 ⟨by show _ ≤ 31; omega, by show _ ≤ 186; omega⟩) (fun r180 u180 H locs hF hP hD hS => ?_)
    have hP : va_P D vwCl (wW Y o a aa ad u180.1 u180.2) H := hP
    have hD : va_D A (wW Y o a aa ad u180.1 u180.2) := hD
    refine lv_istore (lv' := [(13, .int r180), (12, .int r171), (11, .int r42), (10, .int r34), (9, .int r27), (8, .int r19), (7, .int r11), (6, .int r3), (0, .ref o), (1, .ref (ad 1)), (2, .ref (ad 2)), (3, .int x3), (4, .int x4), (5, .int x5)]) hx hb dL_sews_183 hl (by decide) rfl (fun ls hl => ?_)
    refine lv_iload hx hb dL_sews_185 (lv_at hl 0 rfl) ?_
    refine lv_ldc (v := -1000003) hx hb hown (hts (.constant RL 32 (-1000003)) (List.mem_of_getElem? (i := 1) rfl)) dL_sews_187 ?_
    refine lv_icmp_ne (tgt := 289) hx hb dL_sews_189 (by decide) (fun c_189 => ?_) (fun c_189 => ?_)
    · have hF := hF.1 c_189
      refine lv_aload_n hx hb dL_sews_289 rfl (lv_at hl 10 rfl) ?_
      refine lv_iload_n hx hb dL_sews_290 rfl (lv_at hl 11 rfl) ?_
      refine lv_dup2_11 hx hb dL_sews_291 rfl rfl ?_
      obtain ⟨hi292, hF⟩ := hF
      refine va_iald hx hb hK hP 2 0 rfl rfl hi292 dL_sews_292 ?_
      refine lv_iconst (v := 1) hx hb dL_sews_293 (by decide) ?_
      refine lv_iadd hx hb dL_sews_294 ?_
      refine lv_topi (fun v295 ev295 => ?_)
      have hF := hF v295 ev295
      obtain ⟨hi295, hF⟩ := hF
      refine va_iast hx hb hK hP hD hS 2 0 rfl rfl hi295 dL_sews_295 (fun H locs hP hD hS => ?_)
      obtain ⟨M295, eM295⟩ : ∃ y : mb_m, y = mb_u u180.2 2 (upd (u180.2 2) x3.toNatClampNeg v295) := ⟨_, rfl⟩
      have hF := hF M295 eM295
      have hP : va_P D vwCl (wW Y o a aa ad u180.1 (mb_u u180.2 2 (upd (u180.2 2) x3.toNatClampNeg v295))) H := hP
      have hD : va_D A (wW Y o a aa ad u180.1 (mb_u u180.2 2 (upd (u180.2 2) x3.toNatClampNeg v295))) := hD
      rw [← eM295] at hP hD
      refine lv_iload hx hb dL_sews_296 (lv_at hl 1 rfl) ?_
      refine lv_if_ne (tgt := 305) hx hb dL_sews_298 (by decide) (fun c_298 => ?_) (fun c_298 => ?_)
      · have hF := hF.1 c_298
        refine lv_iload hx hb dL_sews_305 (lv_at hl 1 rfl) ?_
        refine lv_iconst (v := 3) hx hb dL_sews_307 (by decide) ?_
        refine lv_icmp_ge (tgt := 316) hx hb dL_sews_308 (by decide) (fun c_308 => ?_) (fun c_308 => ?_)
        · have hF := hF.1 c_308
          refine lv_iconst (v := 4) hx hb dL_sews_316 (by decide) ?_
          exact wL_sews_317 CM M295 u180.1 x3 x5 r3 r11 r19 r27 r34 r42 r171 r180 (4 : Int32) _ _ _ _ _ hF hP hD hS (lv_sub hl [8, 10, 11, 13, 7, 6, 5, 4, 3, 2, 1, 0] rfl) (by omega) (by omega)
        · have hF := hF.2 c_308
          refine lv_bipush (v := 10) hx hb dL_sews_311 (by decide) ?_
          refine lv_goto (tgt := 317) hx hb dL_sews_313 (by decide) ?_
          exact wL_sews_317 CM M295 u180.1 x3 x5 r3 r11 r19 r27 r34 r42 r171 r180 (10 : Int32) _ _ _ _ _ hF hP hD hS (lv_sub hl [8, 10, 11, 13, 7, 6, 5, 4, 3, 2, 1, 0] rfl) (by omega) (by omega)
      · have hF := hF.2 c_298
        refine lv_iconst (v := 0) hx hb dL_sews_301 (by decide) ?_
        refine lv_goto (tgt := 317) hx hb dL_sews_302 (by decide) ?_
        exact wL_sews_317 CM M295 u180.1 x3 x5 r3 r11 r19 r27 r34 r42 r171 r180 (0 : Int32) _ _ _ _ _ hF hP hD hS (lv_sub hl [8, 10, 11, 13, 7, 6, 5, 4, 3, 2, 1, 0] rfl) (by omega) (by omega)
    · have hF := hF.2 c_189
      refine lv_iload hx hb dL_sews_192 (lv_at hl 1 rfl) ?_
      refine lv_if_le (tgt := 287) hx hb dL_sews_194 (by decide) (fun c_194 => ?_) (fun c_194 => ?_)
      · have hF := hF.1 c_194
        refine lv_iconst (v := 0) hx hb dL_sews_287 (by decide) ?_
        exact mb_ri (S := mb_S) (mc := 31) (ms := 186) (wf := fun u => wW Y o a aa ad u.1 u.2) C rfl (u := (u180.1, u180.2)) hF hP hD hS dL_sews_288 (by omega) (by omega)
      · have hF := hF.2 c_194
        refine lv_aload_n hx hb dL_sews_197 rfl (lv_at hl 8 rfl) ?_
        refine lv_iload_n hx hb dL_sews_198 rfl (lv_at hl 11 rfl) ?_
        refine lv_iconst (v := 0) hx hb dL_sews_199 (by decide) ?_
        refine mb_cW (S := mb_S) hD hS hA (vx_runSW (As := [.ref o, .int x3, .int (0 : Int32)]) (rest := []) ⟨hx, hb, hml, hown, hts⟩ (cw_ofThread l hl0 D Y N o a aa ad u180.1 u180.2 _ x3 (0 : Int32) _ hF) (vx_cwSW 3 hts gL_sews_L_ofThread rfl rfl rfl (by decide +kernel) ⟨Nat.le_of_ble_eq_true rfl, Nat.le_of_ble_eq_true rfl⟩) (mbm_pre CM hP hD hS) rfl rfl hl.1 rfl (lv_room (Nat.le_of_ble_eq_true rfl)) dL_sews_200 ⟨by show _ ≤ 31; omega, by show _ ≤ 186; omega⟩) (fun r200 u200 H locs hF hP hD hS => ?_)
        have hP : va_P D vwCl (wW Y o a aa ad u200.1 u200.2) H := hP
        have hD : va_D A (wW Y o a aa ad u200.1 u200.2) := hD
        refine lv_iload hx hb dL_sews_203 (lv_at hl 7 rfl) ?_
        refine lv_icmp_ne (tgt := 287) hx hb dL_sews_205 (by decide) (fun c_205 => ?_) (fun c_205 => ?_)
        · have hF := hF.1 c_205
          refine lv_iconst (v := 0) hx hb dL_sews_287 (by decide) ?_
          exact mb_ri (S := mb_S) (mc := 31) (ms := 186) (wf := fun u => wW Y o a aa ad u.1 u.2) C rfl (u := (u200.1, u200.2)) hF hP hD hS dL_sews_288 (by omega) (by omega)
        · have hF := hF.2 c_205
          refine lv_aload_n hx hb dL_sews_208 rfl (lv_at hl 8 rfl) ?_
          refine lv_iload_n hx hb dL_sews_209 rfl (lv_at hl 11 rfl) ?_
          refine lv_iconst (v := 1) hx hb dL_sews_210 (by decide) ?_
          refine mb_cW (S := mb_S) hD hS hA (vx_runSW (As := [.ref o, .int x3, .int (1 : Int32)]) (rest := []) ⟨hx, hb, hml, hown, hts⟩ (cw_ofThread l hl0 D Y N o a aa ad u200.1 u200.2 _ x3 (1 : Int32) _ hF) (vx_cwSW 3 hts gL_sews_L_ofThread rfl rfl rfl (by decide +kernel) ⟨Nat.le_of_ble_eq_true rfl, Nat.le_of_ble_eq_true rfl⟩) (mbm_pre CM hP hD hS) rfl rfl hl.1 rfl (lv_room (Nat.le_of_ble_eq_true rfl)) dL_sews_211 ⟨by show _ ≤ 31; omega, by show _ ≤ 186; omega⟩) (fun r211 u211 H locs hF hP hD hS => ?_)
          have hP : va_P D vwCl (wW Y o a aa ad u211.1 u211.2) H := hP
          have hD : va_D A (wW Y o a aa ad u211.1 u211.2) := hD
          refine lv_iload hx hb dL_sews_214 (lv_at hl 6 rfl) ?_
          refine lv_icmp_ne (tgt := 287) hx hb dL_sews_216 (by decide) (fun c_216 => ?_) (fun c_216 => ?_)
          · have hF := hF.1 c_216
            refine lv_iconst (v := 0) hx hb dL_sews_287 (by decide) ?_
            exact mb_ri (S := mb_S) (mc := 31) (ms := 186) (wf := fun u => wW Y o a aa ad u.1 u.2) C rfl (u := (u211.1, u211.2)) hF hP hD hS dL_sews_288 (by omega) (by omega)
          · have hF := hF.2 c_216
            refine lv_aload_n hx hb dL_sews_219 rfl (lv_at hl 8 rfl) ?_
            refine lv_iload_n hx hb dL_sews_220 rfl (lv_at hl 11 rfl) ?_
            refine lv_iconst (v := 2) hx hb dL_sews_221 (by decide) ?_
            refine mb_cW (S := mb_S) hD hS hA (vx_runSW (As := [.ref o, .int x3, .int (2 : Int32)]) (rest := []) ⟨hx, hb, hml, hown, hts⟩ (cw_ofThread l hl0 D Y N o a aa ad u211.1 u211.2 _ x3 (2 : Int32) _ hF) (vx_cwSW 3 hts gL_sews_L_ofThread rfl rfl rfl (by decide +kernel) ⟨Nat.le_of_ble_eq_true rfl, Nat.le_of_ble_eq_true rfl⟩) (mbm_pre CM hP hD hS) rfl rfl hl.1 rfl (lv_room (Nat.le_of_ble_eq_true rfl)) dL_sews_222 ⟨by show _ ≤ 31; omega, by show _ ≤ 186; omega⟩) (fun r222 u222 H locs hF hP hD hS => ?_)
            have hP : va_P D vwCl (wW Y o a aa ad u222.1 u222.2) H := hP
            have hD : va_D A (wW Y o a aa ad u222.1 u222.2) := hD
            refine lv_iload hx hb dL_sews_225 (lv_at hl 5 rfl) ?_
            refine lv_icmp_ne (tgt := 287) hx hb dL_sews_227 (by decide) (fun c_227 => ?_) (fun c_227 => ?_)
            · have hF := hF.1 c_227
              refine lv_iconst (v := 0) hx hb dL_sews_287 (by decide) ?_
              exact mb_ri (S := mb_S) (mc := 31) (ms := 186) (wf := fun u => wW Y o a aa ad u.1 u.2) C rfl (u := (u222.1, u222.2)) hF hP hD hS dL_sews_288 (by omega) (by omega)
            · have hF := hF.2 c_227
              refine lv_iload hx hb dL_sews_230 (lv_at hl 1 rfl) ?_
              refine lv_iconst (v := 3) hx hb dL_sews_232 (by decide) ?_
              refine lv_icmp_ge (tgt := 259) hx hb dL_sews_233 (by decide) (fun c_233 => ?_) (fun c_233 => ?_)
              · have hF := hF.1 c_233
                refine lv_iload hx hb dL_sews_259 (lv_at hl 4 rfl) ?_
                refine lv_iconst (v := 1) hx hb dL_sews_261 (by decide) ?_
                refine lv_icmp_eq (tgt := 283) hx hb dL_sews_262 (by decide) (fun c_262 => ?_) (fun c_262 => ?_)
                · have hF := hF.1 c_262
                  refine lv_iconst (v := 1) hx hb dL_sews_283 (by decide) ?_
                  refine lv_goto (tgt := 288) hx hb dL_sews_284 (by decide) ?_
                  exact mb_ri (S := mb_S) (mc := 31) (ms := 186) (wf := fun u => wW Y o a aa ad u.1 u.2) C rfl (u := (u222.1, u222.2)) hF hP hD hS dL_sews_288 (by omega) (by omega)
                · have hF := hF.2 c_262
                  refine lv_iload hx hb dL_sews_265 (lv_at hl 6 rfl) ?_
                  refine lv_if_eq (tgt := 283) hx hb dL_sews_267 (by decide) (fun c_267 => ?_) (fun c_267 => ?_)
                  · have hF := hF.1 c_267
                    refine lv_iconst (v := 1) hx hb dL_sews_283 (by decide) ?_
                    refine lv_goto (tgt := 288) hx hb dL_sews_284 (by decide) ?_
                    exact mb_ri (S := mb_S) (mc := 31) (ms := 186) (wf := fun u => wW Y o a aa ad u.1 u.2) C rfl (u := (u222.1, u222.2)) hF hP hD hS dL_sews_288 (by omega) (by omega)
                  · have hF := hF.2 c_267
                    refine lv_iload hx hb dL_sews_270 (lv_at hl 6 rfl) ?_
                    refine lv_aload_n hx hb dL_sews_272 rfl (lv_at hl 9 rfl) ?_
                    refine lv_bipush (v := 6) hx hb dL_sews_273 (by decide) ?_
                    refine lv_iload_n hx hb dL_sews_275 rfl (lv_at hl 11 rfl) ?_
                    refine lv_imul hx hb dL_sews_276 ?_
                    obtain ⟨hi277, hF⟩ := hF
                    refine va_iald hx hb hK hP 1 0 rfl rfl hi277 dL_sews_277 ?_
                    refine lv_iconst (v := 1) hx hb dL_sews_278 (by decide) ?_
                    refine lv_isub hx hb dL_sews_279 ?_
                    refine lv_icmp_ne (tgt := 287) hx hb dL_sews_280 (by decide) (fun c_280 => ?_) (fun c_280 => ?_)
                    · have hF := hF.1 c_280
                      refine lv_iconst (v := 0) hx hb dL_sews_287 (by decide) ?_
                      exact mb_ri (S := mb_S) (mc := 31) (ms := 186) (wf := fun u => wW Y o a aa ad u.1 u.2) C rfl (u := (u222.1, u222.2)) hF hP hD hS dL_sews_288 (by omega) (by omega)
                    · have hF := hF.2 c_280
                      refine lv_iconst (v := 1) hx hb dL_sews_283 (by decide) ?_
                      refine lv_goto (tgt := 288) hx hb dL_sews_284 (by decide) ?_
                      exact mb_ri (S := mb_S) (mc := 31) (ms := 186) (wf := fun u => wW Y o a aa ad u.1 u.2) C rfl (u := (u222.1, u222.2)) hF hP hD hS dL_sews_288 (by omega) (by omega)
              · have hF := hF.2 c_233
                refine lv_iload hx hb dL_sews_236 (lv_at hl 5 rfl) ?_
                refine lv_if_eq (tgt := 283) hx hb dL_sews_238 (by decide) (fun c_238 => ?_) (fun c_238 => ?_)
                · have hF := hF.1 c_238
                  refine lv_iconst (v := 1) hx hb dL_sews_283 (by decide) ?_
                  refine lv_goto (tgt := 288) hx hb dL_sews_284 (by decide) ?_
                  exact mb_ri (S := mb_S) (mc := 31) (ms := 186) (wf := fun u => wW Y o a aa ad u.1 u.2) C rfl (u := (u222.1, u222.2)) hF hP hD hS dL_sews_288 (by omega) (by omega)
                · have hF := hF.2 c_238
                  refine lv_iload hx hb dL_sews_241 (lv_at hl 5 rfl) ?_
                  refine lv_aload_n hx hb dL_sews_243 rfl (lv_at hl 9 rfl) ?_
                  refine lv_bipush (v := 6) hx hb dL_sews_244 (by decide) ?_
                  refine lv_iload_n hx hb dL_sews_246 rfl (lv_at hl 11 rfl) ?_
                  refine lv_imul hx hb dL_sews_247 ?_
                  refine lv_iconst (v := 2) hx hb dL_sews_248 (by decide) ?_
                  refine lv_iadd hx hb dL_sews_249 ?_
                  obtain ⟨hi250, hF⟩ := hF
                  refine va_iald hx hb hK hP 1 0 rfl rfl hi250 dL_sews_250 ?_
                  refine lv_iconst (v := 1) hx hb dL_sews_251 (by decide) ?_
                  refine lv_isub hx hb dL_sews_252 ?_
                  refine lv_icmp_ne (tgt := 287) hx hb dL_sews_253 (by decide) (fun c_253 => ?_) (fun c_253 => ?_)
                  · have hF := hF.1 c_253
                    refine lv_iconst (v := 0) hx hb dL_sews_287 (by decide) ?_
                    exact mb_ri (S := mb_S) (mc := 31) (ms := 186) (wf := fun u => wW Y o a aa ad u.1 u.2) C rfl (u := (u222.1, u222.2)) hF hP hD hS dL_sews_288 (by omega) (by omega)
                  · have hF := hF.2 c_253
                    refine lv_goto (tgt := 283) hx hb dL_sews_256 (by decide) ?_
                    refine lv_iconst (v := 1) hx hb dL_sews_283 (by decide) ?_
                    refine lv_goto (tgt := 288) hx hb dL_sews_284 (by decide) ?_
                    exact mb_ri (S := mb_S) (mc := 31) (ms := 186) (wf := fun u => wW Y o a aa ad u.1 u.2) C rfl (u := (u222.1, u222.2)) hF hP hD hS dL_sews_288 (by omega) (by omega)
  · have hF := hF.2 c_54
    refine lv_iconst (v := 1) hx hb dL_sews_57 (by decide) ?_
    refine lv_iload hx hb dL_sews_58 (lv_at hl 11 rfl) ?_
    refine lv_bipush (v := 12) hx hb dL_sews_60 (by decide) ?_
    refine mb_cE hP hS hA (va_runS (As := [.int x5, .int (12 : Int32)]) (rest := [.int (1 : Int32)]) ⟨hx, hb, hml, hown, hts⟩ (cnL_low l D Y N _ x5 (12 : Int32) _ hF) (va_cwS 2 hts gL_sews_L_low rfl rfl rfl (by decide +kernel) ⟨Nat.le_of_ble_eq_true rfl, Nat.le_of_ble_eq_true rfl⟩) (mb_preS (A := A) hG mb_P0 mb_D0) rfl rfl hl.1 rfl (lv_room (Nat.le_of_ble_eq_true rfl)) dL_sews_62 ⟨by show _ ≤ 31; omega, by show _ ≤ 186; omega⟩) (fun r62 H locs hF hP hS => ?_)
    refine lv_iadd hx hb dL_sews_65 ?_
    refine lv_topi (fun v66 ev66 => ?_)
    have hF := hF v66 ev66
    refine lv_istore (lv' := [(12, .int v66), (11, .int r42), (10, .int r34), (9, .int r27), (8, .int r19), (7, .int r11), (6, .int r3), (0, .ref o), (1, .ref (ad 1)), (2, .ref (ad 2)), (3, .int x3), (4, .int x4), (5, .int x5)]) hx hb dL_sews_66 hl (by decide) rfl (fun ls hl => ?_)
    refine lv_aload_n hx hb dL_sews_68 rfl (lv_at hl 7 rfl) ?_
    refine lv_iload_n hx hb dL_sews_69 rfl (lv_at hl 10 rfl) ?_
    refine lv_iload hx hb dL_sews_70 (lv_at hl 0 rfl) ?_
    refine mb_cW (S := mb_S) hD hS hA (vx_runSW (As := [.ref o, .int x3, .int v66]) (rest := []) ⟨hx, hb, hml, hown, hts⟩ (cw_unsew l hl0 D Y N o a aa ad u42.1 u42.2 _ x3 v66 _ hF) (vx_cwSW 3 hts gL_sews_L_unsew rfl rfl rfl (by decide +kernel) ⟨Nat.le_of_ble_eq_true rfl, Nat.le_of_ble_eq_true rfl⟩) (mbm_pre CM hP hD hS) rfl rfl hl.1 rfl (lv_room (Nat.le_of_ble_eq_true rfl)) dL_sews_72 ⟨by show _ ≤ 31; omega, by show _ ≤ 186; omega⟩) (fun r72 u72 H locs hF hP hD hS => ?_)
    have hP : va_P D vwCl (wW Y o a aa ad u72.1 u72.2) H := hP
    have hD : va_D A (wW Y o a aa ad u72.1 u72.2) := hD
    refine lv_istore (lv' := [(13, .int r72), (12, .int v66), (11, .int r42), (10, .int r34), (9, .int r27), (8, .int r19), (7, .int r11), (6, .int r3), (0, .ref o), (1, .ref (ad 1)), (2, .ref (ad 2)), (3, .int x3), (4, .int x4), (5, .int x5)]) hx hb dL_sews_75 hl (by decide) rfl (fun ls hl => ?_)
    refine lv_iload hx hb dL_sews_77 (lv_at hl 1 rfl) ?_
    refine lv_aload_n hx hb dL_sews_79 rfl (lv_at hl 10 rfl) ?_
    refine lv_iload_n hx hb dL_sews_80 rfl (lv_at hl 11 rfl) ?_
    obtain ⟨hi81, hF⟩ := hF
    refine va_iald hx hb hK hP 2 0 rfl rfl hi81 dL_sews_81 ?_
    refine lv_icmp_gt (tgt := 89) hx hb dL_sews_82 (by decide) (fun c_82 => ?_) (fun c_82 => ?_)
    · have hF := hF.1 c_82
      refine lv_iconst (v := 0) hx hb dL_sews_89 (by decide) ?_
      exact wL_sews_90 CM u72.2 u72.1 x3 r3 r34 v66 r72 (0 : Int32) _ _ _ _ _ hF hP hD hS (lv_sub hl [8, 10, 11, 7, 3, 1, 0] rfl) (by omega) (by omega)
    · have hF := hF.2 c_82
      refine lv_iconst (v := 1) hx hb dL_sews_85 (by decide) ?_
      refine lv_goto (tgt := 90) hx hb dL_sews_86 (by decide) ?_
      exact wL_sews_90 CM u72.2 u72.1 x3 r3 r34 v66 r72 (1 : Int32) _ _ _ _ _ hF hP hD hS (lv_sub hl [8, 10, 11, 7, 3, 1, 0] rfl) (by omega) (by omega)
end
