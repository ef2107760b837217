section
noncomputable def PL_paints_128 (N : Nat) (K : Int32 → mb_S → Prop) (F : mb_m) (b : mb_bs) (x6 x7 x8 x9 x10 : Int32) : Prop := LP_cellAt N b F x7 x8 (0 : Int32) (fun r134 u134 => (r134 < x9 → K (0 : Int32) (u134.1, u134.2)) ∧ (¬ r134 < x9 → LP_drop N u134.1 u134.2 x7 x8 x9 x6 (fun r151 u151 => (¬ r151 = x10 → K (0 : Int32) (u151.1, u151.2)) ∧ (r151 = x10 → K (1 : Int32) (u151.1, u151.2)))))
set_option maxHeartbeats 4000000 in
set_option maxRecDepth 100000 in
theorem wL_paints_128 {p : Program} {l : Launch} {e : Env} {s : State} {m : MethodId} {below : List Frame} {meth : Method} {c : Code} {args : Array Value} {D : va_G} {Y : Nat → ClassId} {A : Nat → Prop} {o : Nat} {a aa ad : Nat → Nat} {N : Nat} {K : Int32 → mb_S → Prop} (CM : mb_CM l p s m meth c args cL_paints 12 (some .boolean) wsL_paints RL D Y A) : ∀ (F : mb_m) (b : mb_bs) (x6 x7 x8 x9 x10 : Int32) (H : Heap) (locs : List Loc) (ls : Array Slot) (cells slots : Nat), PL_paints_128 N K  F b x6 x7 x8 x9 x10 → va_P D vwCl (wW Y o a aa ad b F) H → va_D A (wW Y o a aa ad b F) → va_S A s.heap H locs → lv_has ls 12 [(0, .ref o), (6, .int x6), (7, .int x7), (8, .int x8), (9, .int x9), (10, .int x10)] → cells + (4 + 0) ≤ 783 → slots + (24 + 0) ≤ 4751 → W p l e ({ frames := 10, cells := 783, slots := 4751, locals := 182 } : Room) s m args below meth c H locs cells slots (MQ below (va_Qi K (fun u t => mb_T D A (wW Y o a aa ad u.1 u.2) t) A) args s 783 4751 A) (F0 m 128 ls []) := by
  obtain ⟨C, hX, hl0, hN⟩ := id CM
  obtain ⟨hx, hb, hr, hml, hts, hown, hlocks, hA, hG⟩ := id C
  have hK := hG.1
  intro F b x6 x7 x8 x9 x10 H locs ls cells slots hF hP hD hS hl hc hs
  unfold PL_paints_128 at hF
  refine lv_aload_n hx hb dL_paints_128 rfl (lv_at hl 0 rfl) ?_
  refine lv_iload hx hb dL_paints_129 (lv_at hl 2 rfl) ?_
  refine lv_iload hx hb dL_paints_131 (lv_at hl 3 rfl) ?_
  refine lv_iconst (v := 0) hx hb dL_paints_133 (by decide) ?_
  refine mb_cW (S := mb_S) hD hS hA (vx_runSW (As := [.ref o, .int x7, .int x8, .int (0 : Int32)]) (rest := []) ⟨hx, hb, hml, hown, hts⟩ (cw_cellAt l hl0 D Y N o a aa ad b F _ x7 x8 (0 : Int32) _ hF) (vx_cwSW 4 hts gL_paints_L_cellAt rfl rfl rfl (by decide +kernel) ⟨Nat.le_of_ble_eq_true rfl, Nat.le_of_ble_eq_true rfl⟩) (mbm_pre CM hP hD hS) rfl rfl hl.1 rfl (lv_room (Nat.le_of_ble_eq_true rfl)) dL_paints_134 ⟨by show _ ≤ 783; omega, by show _ ≤ 4751; omega⟩) (fun r134 u134 H locs hF hP hD hS => ?_)
  have hP : va_P D vwCl (wW Y o a aa ad u134.1 u134.2) H := hP
  have hD : va_D A (wW Y o a aa ad u134.1 u134.2) := hD
  refine lv_iload hx hb dL_paints_137 (lv_at hl 4 rfl) ?_
  refine lv_icmp_lt (tgt := 163) hx hb dL_paints_139 (by decide) (fun c_139 => ?_) (fun c_139 => ?_)
  · have hF := hF.1 c_139
    refine lv_iconst (v := 0) hx hb dL_paints_163 (by decide) ?_
    exact mb_ri (S := mb_S) (mc := 783) (ms := 4751) (wf := fun u => wW Y o a aa ad u.1 u.2) C rfl (u := (u134.1, u134.2)) hF hP hD hS dL_paints_164 (by omega) (by omega)
  · have hF := hF.2 c_139
    refine lv_aload_n hx hb dL_paints_142 rfl (lv_at hl 0 rfl) ?_
    refine lv_iload hx hb dL_paints_143 (lv_at hl 2 rfl) ?_
    refine lv_iload hx hb dL_paints_145 (lv_at hl 3 rfl) ?_
    refine lv_iload hx hb dL_paints_147 (lv_at hl 4 rfl) ?_
    refine lv_iload hx hb dL_paints_149 (lv_at hl 1 rfl) ?_
    refine mb_cW (S := mb_S) hD hS hA (vx_runSW (As := [.ref o, .int x7, .int x8, .int x9, .int x6]) (rest := []) ⟨hx, hb, hml, hown, hts⟩ (cw_drop l hl0 D Y N o a aa ad u134.1 u134.2 _ x7 x8 x9 x6 _ hF) (vx_cwSW 5 hts gL_paints_L_drop rfl rfl rfl (by decide +kernel) ⟨Nat.le_of_ble_eq_true rfl, Nat.le_of_ble_eq_true rfl⟩) (mbm_pre CM hP hD hS) rfl rfl hl.1 rfl (lv_room (Nat.le_of_ble_eq_true rfl)) dL_paints_151 ⟨by show _ ≤ 783; omega, by show _ ≤ 4751; omega⟩) (fun r151 u151 H locs hF hP hD hS => ?_)
    have hP : va_P D vwCl (wW Y o a aa ad u151.1 u151.2) H := hP
    have hD : va_D A (wW Y o a aa ad u151.1 u151.2) := hD
    refine lv_iload hx hb dL_paints_154 (lv_at hl 5 rfl) ?_
    refine lv_icmp_ne (tgt := 163) hx hb dL_paints_156 (by decide) (fun c_156 => ?_) (fun c_156 => ?_)
    · have hF := hF.1 c_156
      refine lv_iconst (v := 0) hx hb dL_paints_163 (by decide) ?_
      exact mb_ri (S := mb_S) (mc := 783) (ms := 4751) (wf := fun u => wW Y o a aa ad u.1 u.2) C rfl (u := (u151.1, u151.2)) hF hP hD hS dL_paints_164 (by omega) (by omega)
    · have hF := hF.2 c_156
      refine lv_iconst (v := 1) hx hb dL_paints_159 (by decide) ?_
      refine lv_goto (tgt := 164) hx hb dL_paints_160 (by decide) ?_
      exact mb_ri (S := mb_S) (mc := 783) (ms := 4751) (wf := fun u => wW Y o a aa ad u.1 u.2) C rfl (u := (u151.1, u151.2)) hF hP hD hS dL_paints_164 (by omega) (by omega)
noncomputable def PL_paints_185 (N : Nat) (K : Int32 → mb_S → Prop) (F : mb_m) (b : mb_bs) (x3 x4 y0 : Int32) : Prop := PL_low N (x3 >>> ((1 : Int32) &&& 31)) (8 : Int32) (fun r192 _ => PL_low N (x3 >>> ((4 : Int32) &&& 31)) (15 : Int32) (fun r202 _ => ∀ v208 : Int32, v208 = (r202 - (7 : Int32)) → (LP_comb N b F y0 r192 v208 (fun r217 u217 => (r217 < 0 → K (0 : Int32) (u217.1, u217.2)) ∧ (¬ r217 < 0 → ((9 : Int32) ≤ r217 → K (0 : Int32) (u217.1, u217.2)) ∧ (¬ (9 : Int32) ≤ r217 → PL_coloured N u217.2 u217.1 (fun r235 u235 => (¬ r235 = x4 → K (0 : Int32) (u235.1, u235.2)) ∧ (r235 = x4 → LP_comb N u235.1 u235.2 y0 r192 (-v208) (fun r251 u251 => (¬ r251 = r217 → K (0 : Int32) (u251.1, u251.2)) ∧ (r251 = r217 → LP_comb N u251.1 u251.2 y0 r192 v208 (fun r266 u266 => (¬ r266 = r217 → K (0 : Int32) (u266.1, u266.2)) ∧ (r266 = r217 → K (1 : Int32) (u266.1, u266.2)))))))))))))
set_option maxHeartbeats 4000000 in
set_option maxRecDepth 100000 in
theorem wL_paints_185 {p : Program} {l : Launch} {e : Env} {s : State} {m : MethodId} {below : List Frame} {meth : Method} {c : Code} {args : Array Value} {D : va_G} {Y : Nat → ClassId} {A : Nat → Prop} {o : Nat} {a aa ad : Nat → Nat} {N : Nat} {K : Int32 → mb_S → Prop} (CM : mb_CM l p s m meth c args cL_paints 12 (some .boolean) wsL_paints RL D Y A) : ∀ (F : mb_m) (b : mb_bs) (x3 x4 y0 : Int32) (H : Heap) (locs : List Loc) (ls : Array Slot) (cells slots : Nat), PL_paints_185 N K  F b x3 x4 y0 → va_P D vwCl (wW Y o a aa ad b F) H → va_D A (wW Y o a aa ad b F) → va_S A s.heap H locs → lv_has ls 12 [(0, .ref o), (3, .int x3), (4, .int x4)] → cells + (266 + 0) ≤ 783 → slots + (1596 + 0) ≤ 4751 → W p l e ({ frames := 10, cells := 783, slots := 4751, locals := 182 } : Room) s m args below meth c H locs cells slots (MQ below (va_Qi K (fun u t => mb_T D A (wW Y o a aa ad u.1 u.2) t) A) args s 783 4751 A) (F0 m 185 ls [.int y0]) := by
  obtain ⟨C, hX, hl0, hN⟩ := id CM
  obtain ⟨hx, hb, hr, hml, hts, hown, hlocks, hA, hG⟩ := id C
  have hK := hG.1
  intro F b x3 x4 y0 H locs ls cells slots hF hP hD hS hl hc hs
  unfold PL_paints_185 at hF
  refine lv_istore (lv' := [(6, .int y0), (0, .ref o), (3, .int x3), (4, .int x4)]) hx hb dL_paints_185 hl (by decide) rfl (fun ls hl => ?_)
  refine lv_iload_n hx hb dL_paints_187 rfl (lv_at hl 2 rfl) ?_
  refine lv_iconst (v := 1) hx hb dL_paints_188 (by decide) ?_
  refine lv_ishr hx hb dL_paints_189 ?_
  refine lv_bipush (v := 8) hx hb dL_paints_190 (by decide) ?_
  refine mb_cE hP hS hA (va_runS (As := [.int (x3 >>> ((1 : Int32) &&& 31)), .int (8 : Int32)]) (rest := []) ⟨hx, hb, hml, hown, hts⟩ (cnL_low l D Y N _ (x3 >>> ((1 : Int32) &&& 31)) (8 : Int32) _ hF) (va_cwS 2 hts gL_paints_L_low rfl rfl rfl (by decide +kernel) ⟨Nat.le_of_ble_eq_true rfl, Nat.le_of_ble_eq_true rfl⟩) (mb_preS (A := A) hG mb_P0 mb_D0) rfl rfl hl.1 rfl (lv_room (Nat.le_of_ble_eq_true rfl)) dL_paints_192 ⟨by show _ ≤ 783; omega, by show _ ≤ 4751; omega⟩) (fun r192 H locs hF hP hS => ?_)
  refine lv_istore (lv' := [(7, .int r192), (6, .int y0), (0, .ref o), (3, .int x3), (4, .int x4)]) hx hb dL_paints_195 hl (by decide) rfl (fun ls hl => ?_)
  refine lv_iload_n hx hb dL_paints_197 rfl (lv_at hl 3 rfl) ?_
  refine lv_iconst (v := 4) hx hb dL_paints_198 (by decide) ?_
  refine lv_ishr hx hb dL_paints_199 ?_
  refine lv_bipush (v := 15) hx hb dL_paints_200 (by decide) ?_
  refine mb_cE hP hS hA (va_runS (As := [.int (x3 >>> ((4 : Int32) &&& 31)), .int (15 : Int32)]) (rest := []) ⟨hx, hb, hml, hown, hts⟩ (cnL_low l D Y N _ (x3 >>> ((4 : Int32) &&& 31)) (15 : Int32) _ hF) (va_cwS 2 hts gL_paints_L_low rfl rfl rfl (by decide +kernel) ⟨Nat.le_of_ble_eq_true rfl, Nat.le_of_ble_eq_true rfl⟩) (mb_preS (A := A) hG mb_P0 mb_D0) rfl rfl hl.1 rfl (lv_room (Nat.le_of_ble_eq_true rfl)) dL_paints_202 ⟨by show _ ≤ 783; omega, by show _ ≤ 4751; omega⟩) (fun r202 H locs hF hP hS => ?_)
  refine lv_bipush (v := 7) hx hb dL_paints_205 (by decide) ?_
  refine lv_isub hx hb dL_paints_207 ?_
  refine lv_topi (fun v208 ev208 => ?_)
  have hF := hF v208 ev208
  refine lv_istore (lv' := [(8, .int v208), (7, .int r192), (6, .int y0), (0, .ref o), (3, .int x3), (4, .int x4)]) hx hb dL_paints_208 hl (by decide) rfl (fun ls hl => ?_)
  refine lv_aload_n hx hb dL_paints_210 rfl (lv_at hl 3 rfl) ?_
  refine lv_iload hx hb dL_paints_211 (lv_at hl 2 rfl) ?_
  refine lv_iload hx hb dL_paints_213 (lv_at hl 1 rfl) ?_
  refine lv_iload hx hb dL_paints_215 (lv_at hl 0 rfl) ?_
  refine mb_cW (S := mb_S) hD hS hA (vx_runSW (As := [.ref o, .int y0, .int r192, .int v208]) (rest := []) ⟨hx, hb, hml, hown, hts⟩ (cw_comb l hl0 D Y N o a aa ad b F _ y0 r192 v208 _ hF) (vx_cwSW 4 hts gL_paints_L_comb rfl rfl rfl (by decide +kernel) ⟨Nat.le_of_ble_eq_true rfl, Nat.le_of_ble_eq_true rfl⟩) (mbm_pre CM hP hD hS) rfl rfl hl.1 rfl (lv_room (Nat.le_of_ble_eq_true rfl)) dL_paints_217 ⟨by show _ ≤ 783; omega, by show _ ≤ 4751; omega⟩) (fun r217 u217 H locs hF hP hD hS => ?_)
  have hP : va_P D vwCl (wW Y o a aa ad u217.1 u217.2) H := hP
  have hD : va_D A (wW Y o a aa ad u217.1 u217.2) := hD
  refine lv_istore (lv' := [(9, .int r217), (8, .int v208), (7, .int r192), (6, .int y0), (0, .ref o), (3, .int x3), (4, .int x4)]) hx hb dL_paints_220 hl (by decide) rfl (fun ls hl => ?_)
  refine lv_iload hx hb dL_paints_222 (lv_at hl 0 rfl) ?_
  refine lv_if_lt (tgt := 278) hx hb dL_paints_224 (by decide) (fun c_224 => ?_) (fun c_224 => ?_)
  · have hF := hF.1 c_224
    refine lv_iconst (v := 0) hx hb dL_paints_278 (by decide) ?_
    exact mb_ri (S := mb_S) (mc := 783) (ms := 4751) (wf := fun u => wW Y o a aa ad u.1 u.2) C rfl (u := (u217.1, u217.2)) hF hP hD hS dL_paints_279 (by omega) (by omega)
  · have hF := hF.2 c_224
    refine lv_iload hx hb dL_paints_227 (lv_at hl 0 rfl) ?_
    refine lv_bipush (v := 9) hx hb dL_paints_229 (by decide) ?_
    refine lv_icmp_ge (tgt := 278) hx hb dL_paints_231 (by decide) (fun c_231 => ?_) (fun c_231 => ?_)
    · have hF := hF.1 c_231
      refine lv_iconst (v := 0) hx hb dL_paints_278 (by decide) ?_
      exact mb_ri (S := mb_S) (mc := 783) (ms := 4751) (wf := fun u => wW Y o a aa ad u.1 u.2) C rfl (u := (u217.1, u217.2)) hF hP hD hS dL_paints_279 (by omega) (by omega)
    · have hF := hF.2 c_231
      refine lv_aload_n hx hb dL_paints_234 rfl (lv_at hl 4 rfl) ?_
      refine mb_cW (S := mb_S) hD hS hA (va_runS (As := [.ref o]) (rest := []) ⟨hx, hb, hml, hown, hts⟩ (cnL_coloured l hl0 D Y N o a aa ad u217.2 u217.1 _ _ hF) (va_cwS 1 hts gL_paints_L_coloured rfl rfl rfl (by decide +kernel) ⟨Nat.le_of_ble_eq_true rfl, Nat.le_of_ble_eq_true rfl⟩) (mbm_pre CM hP hD hS) rfl rfl hl.1 rfl (lv_room (Nat.le_of_ble_eq_true rfl)) dL_paints_235 ⟨by show _ ≤ 783; omega, by show _ ≤ 4751; omega⟩) (fun r235 u235 H locs hF hP hD hS => ?_)
      have hP : va_P D vwCl (wW Y o a aa ad u235.1 u235.2) H := hP
      have hD : va_D A (wW Y o a aa ad u235.1 u235.2) := hD
      refine lv_iload hx hb dL_paints_238 (lv_at hl 6 rfl) ?_
      refine lv_icmp_ne (tgt := 278) hx hb dL_paints_240 (by decide) (fun c_240 => ?_) (fun c_240 => ?_)
      · have hF := hF.1 c_240
        refine lv_iconst (v := 0) hx hb dL_paints_278 (by decide) ?_
        exact mb_ri (S := mb_S) (mc := 783) (ms := 4751) (wf := fun u => wW Y o a aa ad u.1 u.2) C rfl (u := (u235.1, u235.2)) hF hP hD hS dL_paints_279 (by omega) (by omega)
      · have hF := hF.2 c_240
        refine lv_aload_n hx hb dL_paints_243 rfl (lv_at hl 4 rfl) ?_
        refine lv_iload hx hb dL_paints_244 (lv_at hl 3 rfl) ?_
        refine lv_iload hx hb dL_paints_246 (lv_at hl 2 rfl) ?_
        refine lv_iload hx hb dL_paints_248 (lv_at hl 1 rfl) ?_
        refine lv_ineg hx hb dL_paints_250 ?_
        refine mb_cW (S := mb_S) hD hS hA (vx_runSW (As := [.ref o, .int y0, .int r192, .int (-v208)]) (rest := []) ⟨hx, hb, hml, hown, hts⟩ (cw_comb l hl0 D Y N o a aa ad u235.1 u235.2 _ y0 r192 (-v208) _ hF) (vx_cwSW 4 hts gL_paints_L_comb rfl rfl rfl (by decide +kernel) ⟨Nat.le_of_ble_eq_true rfl, Nat.le_of_ble_eq_true rfl⟩) (mbm_pre CM hP hD hS) rfl rfl hl.1 rfl (lv_room (Nat.le_of_ble_eq_true rfl)) dL_paints_251 ⟨by show _ ≤ 783; omega, by show _ ≤ 4751; omega⟩) (fun r251 u251 H locs hF hP hD hS => ?_)
        have hP : va_P D vwCl (wW Y o a aa ad u251.1 u251.2) H := hP
        have hD : va_D A (wW Y o a aa ad u251.1 u251.2) := hD
        refine lv_iload hx hb dL_paints_254 (lv_at hl 0 rfl) ?_
        refine lv_icmp_ne (tgt := 278) hx hb dL_paints_256 (by decide) (fun c_256 => ?_) (fun c_256 => ?_)
        · have hF := hF.1 c_256
          refine lv_iconst (v := 0) hx hb dL_paints_278 (by decide) ?_
          exact mb_ri (S := mb_S) (mc := 783) (ms := 4751) (wf := fun u => wW Y o a aa ad u.1 u.2) C rfl (u := (u251.1, u251.2)) hF hP hD hS dL_paints_279 (by omega) (by omega)
        · have hF := hF.2 c_256
          refine lv_aload_n hx hb dL_paints_259 rfl (lv_at hl 4 rfl) ?_
          refine lv_iload hx hb dL_paints_260 (lv_at hl 3 rfl) ?_
          refine lv_iload hx hb dL_paints_262 (lv_at hl 2 rfl) ?_
          refine lv_iload hx hb dL_paints_264 (lv_at hl 1 rfl) ?_
          refine mb_cW (S := mb_S) hD hS hA (vx_runSW (As := [.ref o, .int y0, .int r192, .int v208]) (rest := []) ⟨hx, hb, hml, hown, hts⟩ (cw_comb l hl0 D Y N o a aa ad u251.1 u251.2 _ y0 r192 v208 _ hF) (vx_cwSW 4 hts gL_paints_L_comb rfl rfl rfl (by decide +kernel) ⟨Nat.le_of_ble_eq_true rfl, Nat.le_of_ble_eq_true rfl⟩) (mbm_pre CM hP hD hS) rfl rfl hl.1 rfl (lv_room (Nat.le_of_ble_eq_true rfl)) dL_paints_266 ⟨by show _ ≤ 783; omega, by show _ ≤ 4751; omega⟩) (fun r266 u266 H locs hF hP hD hS => ?_)
          have hP : va_P D vwCl (wW Y o a aa ad u266.1 u266.2) H := hP
          have hD : va_D A (wW Y o a aa ad u266.1 u266.2) := hD
          refine lv_iload hx hb dL_paints_269 (lv_at hl 0 rfl) ?_
          refine lv_icmp_ne (tgt := 278) hx hb dL_paints_271 (by decide) (fun c_271 => ?_) (fun c_271 => ?_)
          · have hF := hF.1 c_271
            refine lv_iconst (v := 0) hx hb dL_paints_278 (by decide) ?_
            exact mb_ri (S := mb_S) (mc := 783) (ms := 4751) (wf := fun u => wW Y o a aa ad u.1 u.2) C rfl (u := (u266.1, u266.2)) hF hP hD hS dL_paints_279 (by omega) (by omega)
          · have hF := hF.2 c_271
            refine lv_iconst (v := 1) hx hb dL_paints_274 (by decide) ?_
            refine lv_goto (tgt := 279) hx hb dL_paints_275 (by decide) ?_
            exact mb_ri (S := mb_S) (mc := 783) (ms := 4751) (wf := fun u => wW Y o a aa ad u.1 u.2) C rfl (u := (u266.1, u266.2)) hF hP hD hS dL_paints_279 (by omega) (by omega)
noncomputable def PL_paints_493 (N : Nat) (K : Int32 → mb_S → Prop) (b414 : mb_m → mb_bs → Int32 → Int32 → Int32 → Int32 → Int32 → Prop) (F : mb_m) (b : mb_bs) (x4 x6 x7 x9 y0 : Int32) : Prop := ∀ v495 : Int32, v495 = x9 + (1 : Int32) → (b414 F b x4 x6 x7 y0 v495)
set_option maxHeartbeats 4000000 in
set_option maxRecDepth 100000 in
theorem wL_paints_493 {p : Program} {l : Launch} {e : Env} {s : State} {m : MethodId} {below : List Frame} {meth : Method} {c : Code} {args : Array Value} {D : va_G} {Y : Nat → ClassId} {A : Nat → Prop} {o : Nat} {a aa ad : Nat → Nat} {N : Nat} {K : Int32 → mb_S → Prop} {b414 : mb_m → mb_bs → Int32 → Int32 → Int32 → Int32 → Int32 → Prop} (CM : mb_CM l p s m meth c args cL_paints 12 (some .boolean) wsL_paints RL D Y A) (r414 t414 : Nat) (hr414 : 0 + 0 ≤ r414) (ht414 : 0 + 0 ≤ t414) (hb414 : ∀ (F : mb_m) (b : mb_bs) (x4 x6 x7 x8 x9 : Int32) (H : Heap) (locs : List Loc) (ls : Array Slot) (cells slots : Nat), b414 F b x4 x6 x7 x8 x9 → va_P D vwCl (wW Y o a aa ad b F) H → va_D A (wW Y o a aa ad b F) → va_S A s.heap H locs → lv_has ls 12 [(0, .ref o), (4, .int x4), (6, .int x6), (7, .int x7), (8, .int x8), (9, .int x9)] → cells + (r414) ≤ 783 → slots + (t414) ≤ 4751 → W p l e ({ frames := 10, cells := 783, slots := 4751, locals := 182 } : Room) s m args below meth c H locs cells slots (MQ below (va_Qi K (fun u t => mb_T D A (wW Y o a aa ad u.1 u.2) t) A) args s 783 4751 A) (F0 m 414 ls [])) : ∀ (F : mb_m) (b : mb_bs) (x4 x6 x7 x9 y0 : Int32) (H : Heap) (locs : List Loc) (ls : Array Slot) (cells slots : Nat), PL_paints_493 N K b414 F b x4 x6 x7 x9 y0 → va_P D vwCl (wW Y o a aa ad b F) H → va_D A (wW Y o a aa ad b F) → va_S A s.heap H locs → lv_has ls 12 [(0, .ref o), (4, .int x4), (6, .int x6), (7, .int x7), (9, .int x9)] → cells + (0 + r414) ≤ 783 → slots + (0 + t414) ≤ 4751 → W p l e ({ frames := 10, cells := 783, slots := 4751, locals := 182 } : Room) s m args below meth c H locs cells slots (MQ below (va_Qi K (fun u t => mb_T D A (wW Y o a aa ad u.1 u.2) t) A) args s 783 4751 A) (F0 m 493 ls [.int y0]) := by
  obtain ⟨C, hX, hl0, hN⟩ := id CM
  obtain ⟨hx, hb, hr, hml, hts, hown, hlocks, hA, hG⟩ := id C
  have hK := hG.1
  intro F b x4 x6 x7 x9 y0 H locs ls cells slots hF hP hD hS hl hc hs
  unfold PL_paints_493 at hF
  refine lv_istore (lv' := [(8, .int y0), (0, .ref o), (4, .int x4), (6, .int x6), (7, .int x7), (9, .int x9)]) hx hb dL_paints_493 hl (by decide) rfl (fun ls hl => ?_)
  obtain ⟨v495, ev495⟩ : ∃ y : Int32, y = x9 + (1 : Int32) := ⟨_, rfl⟩
  have hF := hF v495 ev495
  refine lv_iinc (v := v495) (lv' := [(9, .int v495), (8, .int y0), (0, .ref o), (4, .int x4), (6, .int x6), (7, .int x7)]) hx hb dL_paints_495 hl (k := 5) rfl (by rw [ev495]; rfl) (by decide) rfl (fun ls hl => ?_)
  refine lv_goto (tgt := 414) hx hb dL_paints_498 (by decide) ?_
  exact hb414 F b x4 x6 x7 y0 v495 _ _ _ _ _ hF hP hD hS (lv_sub hl [2, 3, 4, 5, 1, 0] rfl) (by omega) (by omega)
noncomputable def PL_paints_488 (N : Nat) (K : Int32 → mb_S → Prop) (b414 : mb_m → mb_bs → Int32 → Int32 → Int32 → Int32 → Int32 → Prop) (F : mb_m) (b : mb_bs) (x4 x6 x7 x9 : Int32) : Prop := PL_paints_493 N K b414 F b x4 x6 x7 x9 (1 : Int32)
set_option maxHeartbeats 4000000 in
set_option maxRecDepth 100000 in
theorem wL_paints_488 {p : Program} {l : Launch} {e : Env} {s : State} {m : MethodId} {below : List Frame} {meth : Method} {c : Code} {args : Array Value} {D : va_G} {Y : Nat → ClassId} {A : Nat → Prop} {o : Nat} {a aa ad : Nat → Nat} {N : Nat} {K : Int32 → mb_S → Prop} {b414 : mb_m → mb_bs → Int32 → Int32 → Int32 → Int32 → Int32 → Prop} (CM : mb_CM l p s m meth c args cL_paints 12 (some .boolean) wsL_paints RL D Y A) (r414 t414 : Nat) (hr414 : 0 + 0 ≤ r414) (ht414 : 0 + 0 ≤ t414) (hb414 : ∀ (F : mb_m) (b : mb_bs) (x4 x6 x7 x8 x9 : Int32) (H : Heap) (locs : List Loc) (ls : Array Slot) (cells slots : Nat), b414 F b x4 x6 x7 x8 x9 → va_P D vwCl (wW Y o a aa ad b F) H → va_D A (wW Y o a aa ad b F) → va_S A s.heap H locs → lv_has ls 12 [(0, .ref o), (4, .int x4), (6, .int x6), (7, .int x7), (8, .int x8), (9, .int x9)] → cells + (r414) ≤ 783 → slots + (t414) ≤ 4751 → W p l e ({ frames := 10, cells := 783, slots := 4751, locals := 182 } : Room) s m args below meth c H locs cells slots (MQ below (va_Qi K (fun u t => mb_T D A (wW Y o a aa ad u.1 u.2) t) A) args s 783 4751 A) (F0 m 414 ls [])) : ∀ (F : mb_m) (b : mb_bs) (x4 x6 x7 x9 : Int32) (H : Heap) (locs : List Loc) (ls : Array Slot) (cells slots : Nat), PL_paints_488 N K b414 F b x4 x6 x7 x9 → va_P D vwCl (wW Y o a aa ad b F) H → va_D A (wW Y o a aa ad b F) → va_S A s.heap H locs → lv_has ls 12 [(0, .ref o), (4, .int x4), (6, .int x6), (7, .int x7), (9, .int x9)] → cells + (0 + r414) ≤ 783 → slots + (0 + t414) ≤ 4751 → W p l e ({ frames := 10, cells := 783, slots := 4751, locals := 182 } : Room) s m args below meth c H locs cells slots (MQ below (va_Qi K (fun u t => mb_T D A (wW Y o a aa ad u.1 u.2) t) A) args s 783 4751 A) (F0 m 488 ls []) := by
  obtain ⟨C, hX, hl0, hN⟩ := id CM
  obtain ⟨hx, hb, hr, hml, hts, hown, hlocks, hA, hG⟩ := id C
  have hK := hG.1
  intro F b x4 x6 x7 x9 H locs ls cells slots hF hP hD hS hl hc hs
  unfold PL_paints_488 at hF
  refine lv_iconst (v := 1) hx hb dL_paints_488 (by decide) ?_
  refine lv_goto (tgt := 493) hx hb dL_paints_489 (by decide) ?_
  exact wL_paints_493 CM r414 t414 (by omega) (by omega) hb414 F b x4 x6 x7 x9 (1 : Int32) _ _ _ _ _ hF hP hD hS (lv_sub hl [0, 1, 2, 3, 4] rfl) (by omega) (by omega)
noncomputable def PL_paints_492 (N : Nat) (K : Int32 → mb_S → Prop) (b414 : mb_m → mb_bs → Int32 → Int32 → Int32 → Int32 → Int32 → Prop) (F : mb_m) (b : mb_bs) (x4 x6 x7 x9 : Int32) : Prop := PL_paints_493 N K b414 F b x4 x6 x7 x9 (0 : Int32)
set_option maxHeartbeats 4000000 in
set_option maxRecDepth 100000 in
theorem wL_paints_492 {p : Program} {l : Launch} {e : Env} {s : State} {m : MethodId} {below : List Frame} {meth : Method} {c : Code} {args : Array Value} {D : va_G} {Y : Nat → ClassId} {A : Nat → Prop} {o : Nat} {a aa ad : Nat → Nat} {N : Nat} {K : Int32 → mb_S → Prop} {b414 : mb_m → mb_bs → Int32 → Int32 → Int32 → Int32 → Int32 → Prop} (CM : mb_CM l p s m meth c args cL_paints 12 (some .boolean) wsL_paints RL D Y A) (r414 t414 : Nat) (hr414 : 0 + 0 ≤ r414) (ht414 : 0 + 0 ≤ t414) (hb414 : ∀ (F : mb_m) (b : mb_bs) (x4 x6 x7 x8 x9 : Int32) (H : Heap) (locs : List Loc) (ls : Array Slot) (cells slots : Nat), b414 F b x4 x6 x7 x8 x9 → va_P D vwCl (wW Y o a aa ad b F) H → va_D A (wW Y o a aa ad b F) → va_S A s.heap H locs → lv_has ls 12 [(0, .ref o), (4, .int x4), (6, .int x6), (7, .int x7), (8, .int x8), (9, .int x9)] → cells + (r414) ≤ 783 → slots + (t414) ≤ 4751 → W p l e ({ frames := 10, cells := 783, slots := 4751, locals := 182 } : Room) s m args below meth c H locs cells slots (MQ below (va_Qi K (fun u t => mb_T D A (wW Y o a aa ad u.1 u.2) t) A) args s 783 4751 A) (F0 m 414 ls [])) : ∀ (F : mb_m) (b : mb_bs) (x4 x6 x7 x9 : Int32) (H : Heap) (locs : List Loc) (ls : Array Slot) (cells slots : Nat), PL_paints_492 N K b414 F b x4 x6 x7 x9 → va_P D vwCl (wW Y o a aa ad b F) H → va_D A (wW Y o a aa ad b F) → va_S A s.heap H locs → lv_has ls 12 [(0, .ref o), (4, .int x4), (6, .int x6), (7, .int x7), (9, .int x9)] → cells + (0 + r414) ≤ 783 → slots + (0 + t414) ≤ 4751 → W p l e ({ frames := 10, cells := 783, slots := 4751, locals := 182 } : Room) s m args below meth c H locs cells slots (MQ below (va_Qi K (fun u t => mb_T D A (wW Y o a aa ad u.1 u.2) t) A) args s 783 4751 A) (F0 m 492 ls []) := by
  obtain ⟨C, hX, hl0, hN⟩ := id CM
  obtain ⟨hx, hb, hr, hml, hts, hown, hlocks, hA, hG⟩ := id C
  have hK := hG.1
  intro F b x4 x6 x7 x9 H locs ls cells slots hF hP hD hS hl hc hs
  unfold PL_paints_492 at hF
  refine lv_iconst (v := 0) hx hb dL_paints_492 (by decide) ?_
  exact wL_paints_493 CM r414 t414 (by omega) (by omega) hb414 F b x4 x6 x7 x9 (0 : Int32) _ _ _ _ _ hF hP hD hS (lv_sub hl [0, 1, 2, 3, 4] rfl) (by omega) (by omega)
noncomputable def PL_paints_501 (N : Nat) (K : Int32 → mb_S → Prop) (F : mb_m) (b : mb_bs) (x4 x7 x8 : Int32) : Prop := (x8 = 0 → K (0 : Int32) (b, F)) ∧ (¬ x8 = 0 → (¬ x7 = x4 → K (0 : Int32) (b, F)) ∧ (x7 = x4 → K (1 : Int32) (b, F)))
set_option maxHeartbeats 4000000 in
set_option maxRecDepth 100000 in
theorem wL_paints_501 {p : Program} {l : Launch} {e : Env} {s : State} {m : MethodId} {below : List Frame} {meth : Method} {c : Code} {args : Array Value} {D : va_G} {Y : Nat → ClassId} {A : Nat → Prop} {o : Nat} {a aa ad : Nat → Nat} {N : Nat} {K : Int32 → mb_S → Prop} (CM : mb_CM l p s m meth c args cL_paints 12 (some .boolean) wsL_paints RL D Y A) : ∀ (F : mb_m) (b : mb_bs) (x4 x7 x8 : Int32) (H : Heap) (locs : List Loc) (ls : Array Slot) (cells slots : Nat), PL_paints_501 N K  F b x4 x7 x8 → va_P D vwCl (wW Y o a aa ad b F) H → va_D A (wW Y o a aa ad b F) → va_S A s.heap H locs → lv_has ls 12 [(4, .int x4), (7, .int x7), (8, .int x8)] → cells + (0 + 0) ≤ 783 → slots + (0 + 0) ≤ 4751 → W p l e ({ frames := 10, cells := 783, slots := 4751, locals := 182 } : Room) s m args below meth c H locs cells slots (MQ below (va_Qi K (fun u t => mb_T D A (wW Y o a aa ad u.1 u.2) t) A) args s 783 4751 A) (F0 m 501 ls []) := by
  obtain ⟨C, hX, hl0, hN⟩ := id CM
  obtain ⟨hx, hb, hr, hml, hts, hown, hlocks, hA, hG⟩ := id C
  have hK := hG.1
  intro F b x4 x7 x8 H locs ls cells slots hF hP hD hS hl hc hs
  unfold PL_paints_501 at hF
  refine lv_iload hx hb dL_paints_501 (lv_at hl 2 rfl) ?_
  refine lv_if_eq (tgt := 517) hx hb dL_paints_503 (by decide) (fun c_503 => ?_) (fun c_503 => ?_)
  · have hF := hF.1 c_503
    refine lv_iconst (v := 0) hx hb dL_paints_517 (by decide) ?_
    exact mb_ri (S := mb_S) (mc := 783) (ms := 4751) (wf := fun u => wW Y o a aa ad u.1 u.2) C rfl (u := (b, F)) hF hP hD hS dL_paints_518 (by omega) (by omega)
  · have hF := hF.2 c_503
    refine lv_iload hx hb dL_paints_506 (lv_at hl 1 rfl) ?_
    refine lv_iload hx hb dL_paints_508 (lv_at hl 0 rfl) ?_
    refine lv_icmp_ne (tgt := 517) hx hb dL_paints_510 (by decide) (fun c_510 => ?_) (fun c_510 => ?_)
    · have hF := hF.1 c_510
      refine lv_iconst (v := 0) hx hb dL_paints_517 (by decide) ?_
      exact mb_ri (S := mb_S) (mc := 783) (ms := 4751) (wf := fun u => wW Y o a aa ad u.1 u.2) C rfl (u := (b, F)) hF hP hD hS dL_paints_518 (by omega) (by omega)
    · have hF := hF.2 c_510
      refine lv_iconst (v := 1) hx hb dL_paints_513 (by decide) ?_
      refine lv_goto (tgt := 518) hx hb dL_paints_514 (by decide) ?_
      exact mb_ri (S := mb_S) (mc := 783) (ms := 4751) (wf := fun u => wW Y o a aa ad u.1 u.2) C rfl (u := (b, F)) hF hP hD hS dL_paints_518 (by omega) (by omega)
noncomputable def PL_paints_414_b (N : Nat) (K : Int32 → mb_S → Prop) (b414 : mb_m → mb_bs → Int32 → Int32 → Int32 → Int32 → Int32 → Prop) (F : mb_m) (b : mb_bs) (x4 x6 x7 x8 x9 : Int32) : Prop := ((64 : Int32) ≤ x9 → PL_paints_501 N K F b x4 x7 x8) ∧ (¬ (64 : Int32) ≤ x9 → (x8 = 0 → PL_paints_501 N K F b x4 x7 x8) ∧ (¬ x8 = 0 → LP_cellAt N b F (x9 - x9 / (8 : Int32) * (8 : Int32)) (x9 / (8 : Int32)) (0 : Int32) (fun r438 u438 => (r438 < 0 → PL_paints_488 N K b414 u438.2 u438.1 x4 x6 x7 x9) ∧ (¬ r438 < 0 → LP_printAt N u438.1 u438.2 x6 (x9 - x9 / (8 : Int32) * (8 : Int32)) (x9 / (8 : Int32)) (fun r463 u463 => (¬ r438 = r463 → PL_paints_492 N K b414 u463.2 u463.1 x4 x6 x7 x9) ∧ (r438 = r463 → LP_cellAt N u463.1 u463.2 (x9 - x9 / (8 : Int32) * (8 : Int32)) (x9 / (8 : Int32)) (1 : Int32) (fun r481 u481 => (¬ r481 = (1 : Int32) → PL_paints_492 N K b414 u481.2 u481.1 x4 x6 x7 x9) ∧ (r481 = (1 : Int32) → PL_paints_488 N K b414 u481.2 u481.1 x4 x6 x7 x9))))))))
noncomputable def PL_paints_414 (N : Nat) (K : Int32 → mb_S → Prop) (n : Nat) : mb_m → mb_bs → Int32 → Int32 → Int32 → Int32 → Int32 → Prop := Nat.rec (motive := fun _ => mb_m → mb_bs → Int32 → Int32 → Int32 → Int32 → Int32 → Prop) (fun _ _ _ _ _ _ _ => False) (fun _ b414 => PL_paints_414_b N K  b414) n
set_option maxHeartbeats 4000000 in
set_option maxRecDepth 100000 in
theorem wL_paints_414 {p : Program} {l : Launch} {e : Env} {s : State} {m : MethodId} {below : List Frame} {meth : Method} {c : Code} {args : Array Value} {D : va_G} {Y : Nat → ClassId} {A : Nat → Prop} {o : Nat} {a aa ad : Nat → Nat} {N : Nat} {K : Int32 → mb_S → Prop} (CM : mb_CM l p s m meth c args cL_paints 12 (some .boolean) wsL_paints RL D Y A) : ∀ (n : Nat), (∀ (F : mb_m) (b : mb_bs) (x4 x6 x7 x8 x9 : Int32) (H : Heap) (locs : List Loc) (ls : Array Slot) (cells slots : Nat), PL_paints_414 N K  n F b x4 x6 x7 x8 x9 → va_P D vwCl (wW Y o a aa ad b F) H → va_D A (wW Y o a aa ad b F) → va_S A s.heap H locs → lv_has ls 12 [(0, .ref o), (4, .int x4), (6, .int x6), (7, .int x7), (8, .int x8), (9, .int x9)] → cells + (n * 6 + 0 + 0) ≤ 783 → slots + (n * 36 + 0 + 0) ≤ 4751 → W p l e ({ frames := 10, cells := 783, slots := 4751, locals := 182 } : Room) s m args below meth c H locs cells slots (MQ below (va_Qi K (fun u t => mb_T D A (wW Y o a aa ad u.1 u.2) t) A) args s 783 4751 A) (F0 m 414 ls [])) := by
  obtain ⟨C, hX, hl0, hN⟩ := id CM
  obtain ⟨hx, hb, hr, hml, hts, hown, hlocks, hA, hG⟩ := id C
  have hK := hG.1
  intro n
  induction n with
  | zero => intro F b x4 x6 x7 x8 x9 H locs ls cells slots hF; exact (show False from hF).elim
  | succ n ih =>
    intro F b x4 x6 x7 x8 x9 H locs ls cells slots hF hP hD hS hl hc hs
    have hF : PL_paints_414_b N K  (PL_paints_414 N K  n) F b x4 x6 x7 x8 x9 := hF
    unfold PL_paints_414_b at hF
    refine lv_iload hx hb dL_paints_414 (lv_at hl 5 rfl) ?_
    refine lv_bipush (v := 64) hx hb dL_paints_416 (by decide) ?_
    refine lv_icmp_ge (tgt := 501) hx hb dL_paints_418 (by decide) (fun c_418 => ?_) (fun c_418 => ?_)
    · have hF := hF.1 c_418
      exact wL_paints_501 CM F b x4 x7 x8 _ _ _ _ _ hF hP hD hS (lv_sub hl [1, 3, 4] rfl) (by omega) (by omega)
    · have hF := hF.2 c_418
      refine lv_iload hx hb dL_paints_421 (lv_at hl 4 rfl) ?_
      refine lv_if_eq (tgt := 501) hx hb dL_paints_423 (by decide) (fun c_423 => ?_) (fun c_423 => ?_)
      · have hF := hF.1 c_423
        exact wL_paints_501 CM F b x4 x7 x8 _ _ _ _ _ hF hP hD hS (lv_sub hl [1, 3, 4] rfl) (by omega) (by omega)
      · have hF := hF.2 c_423
        refine lv_aload_n hx hb dL_paints_426 rfl (lv_at hl 0 rfl) ?_
        refine lv_iload hx hb dL_paints_427 (lv_at hl 5 rfl) ?_
        refine lv_bipush (v := 8) hx hb dL_paints_429 (by decide) ?_
        refine lv_irem hx hb dL_paints_431 (by decide) ?_
        refine lv_iload hx hb dL_paints_432 (lv_at hl 5 rfl) ?_
        refine lv_bipush (v := 8) hx hb dL_paints_434 (by decide) ?_
        refine lv_idiv hx hb dL_paints_436 (by decide) ?_
        refine lv_iconst (v := 0) hx hb dL_paints_437 (by decide) ?_
        refine mb_cW (S := mb_S) hD hS hA (vx_runSW (As := [.ref o, .int (x9 - x9 / (8 : Int32) * (8 : Int32)), .int (x9 / (8 : Int32)), .int (0 : Int32)]) (rest := []) ⟨hx, hb, hml, hown, hts⟩ (cw_cellAt l hl0 D Y N o a aa ad b F _ (x9 - x9 / (8 : Int32) * (8 : Int32)) (x9 / (8 : Int32)) (0 : Int32) _ hF) (vx_cwSW 4 hts gL_paints_L_cellAt rfl rfl rfl (by decide +kernel) ⟨Nat.le_of_ble_eq_true rfl, Nat.le_of_ble_eq_true rfl⟩) (mbm_pre CM hP hD hS) rfl rfl hl.1 rfl (lv_room (Nat.le_of_ble_eq_true rfl)) dL_paints_438 ⟨by show _ ≤ 783; omega, by show _ ≤ 4751; omega⟩) (fun r438 u438 H locs hF hP hD hS => ?_)
        have hP : va_P D vwCl (wW Y o a aa ad u438.1 u438.2) H := hP
        have hD : va_D A (wW Y o a aa ad u438.1 u438.2) := hD
        refine lv_istore (lv' := [(10, .int r438), (0, .ref o), (4, .int x4), (6, .int x6), (7, .int x7), (8, .int x8), (9, .int x9)]) hx hb dL_paints_441 hl (by decide) rfl (fun ls hl => ?_)
        refine lv_iload hx hb dL_paints_443 (lv_at hl 0 rfl) ?_
        refine lv_if_lt (tgt := 488) hx hb dL_paints_445 (by decide) (fun c_445 => ?_) (fun c_445 => ?_)
        · have hF := hF.1 c_445
          exact wL_paints_488 CM (n * 6 + 0 + 0) (n * 36 + 0 + 0) (by omega) (by omega) ih u438.2 u438.1 x4 x6 x7 x9 _ _ _ _ _ hF hP hD hS (lv_sub hl [1, 2, 3, 4, 6] rfl) (by omega) (by omega)
        · have hF := hF.2 c_445
          refine lv_iload hx hb dL_paints_448 (lv_at hl 0 rfl) ?_
          refine lv_aload_n hx hb dL_paints_450 rfl (lv_at hl 1 rfl) ?_
          refine lv_iload hx hb dL_paints_451 (lv_at hl 3 rfl) ?_
          refine lv_iload hx hb dL_paints_453 (lv_at hl 6 rfl) ?_
          refine lv_bipush (v := 8) hx hb dL_paints_455 (by decide) ?_
          refine lv_irem hx hb dL_paints_457 (by decide) ?_
          refine lv_iload hx hb dL_paints_458 (lv_at hl 6 rfl) ?_
          refine lv_bipush (v := 8) hx hb dL_paints_460 (by decide) ?_
          refine lv_idiv hx hb dL_paints_462 (by decide) ?_
          refine mb_cW (S := mb_S) hD hS hA (vx_runSW (As := [.ref o, .int x6, .int (x9 - x9 / (8 : Int32) * (8 : Int32)), .int (x9 / (8 : Int32))]) (rest := [.int r438]) ⟨hx, hb, hml, hown, hts⟩ (cw_printAt l hl0 D Y N o a aa ad u438.1 u438.2 _ x6 (x9 - x9 / (8 : Int32) * (8 : Int32)) (x9 / (8 : Int32)) _ hF) (vx_cwSW 4 hts gL_paints_L_printAt rfl rfl rfl (by decide +kernel) ⟨Nat.le_of_ble_eq_true rfl, Nat.le_of_ble_eq_true rfl⟩) (mbm_pre CM hP hD hS) rfl rfl hl.1 rfl (lv_room (Nat.le_of_ble_eq_true rfl)) dL_paints_463 ⟨by show _ ≤ 783; omega, by show _ ≤ 4751; omega⟩) (fun r463 u463 H locs hF hP hD hS => ?_)
          have hP : va_P D vwCl (wW Y o a aa ad u463.1 u463.2) H := hP
          have hD : va_D A (wW Y o a aa ad u463.1 u463.2) := hD
          refine lv_icmp_ne (tgt := 492) hx hb dL_paints_466 (by decide) (fun c_466 => ?_) (fun c_466 => ?_)
          · have hF := hF.1 c_466
            exact wL_paints_492 CM (n * 6 + 0 + 0) (n * 36 + 0 + 0) (by omega) (by omega) ih u463.2 u463.1 x4 x6 x7 x9 _ _ _ _ _ hF hP hD hS (lv_sub hl [1, 2, 3, 4, 6] rfl) (by omega) (by omega)
          · have hF := hF.2 c_466
            refine lv_aload_n hx hb dL_paints_469 rfl (lv_at hl 1 rfl) ?_
            refine lv_iload hx hb dL_paints_470 (lv_at hl 6 rfl) ?_
            refine lv_bipush (v := 8) hx hb dL_paints_472 (by decide) ?_
            refine lv_irem hx hb dL_paints_474 (by decide) ?_
            refine lv_iload hx hb dL_paints_475 (lv_at hl 6 rfl) ?_
            refine lv_bipush (v := 8) hx hb dL_paints_477 (by decide) ?_
            refine lv_idiv hx hb dL_paints_479 (by decide) ?_
            refine lv_iconst (v := 1) hx hb dL_paints_480 (by decide) ?_
            refine mb_cW (S := mb_S) hD hS hA (vx_runSW (As := [.ref o, .int (x9 - x9 / (8 : Int32) * (8 : Int32)), .int (x9 / (8 : Int32)), .int (1 : Int32)]) (rest := []) ⟨hx, hb, hml, hown, hts⟩ (cw_cellAt l hl0 D Y N o a aa ad u463.1 u463.2 _ (x9 - x9 / (8 : Int32) * (8 : Int32)) (x9 / (8 : Int32)) (1 : Int32) _ hF) (vx_cwSW 4 hts gL_paints_L_cellAt rfl rfl rfl (by decide +kernel) ⟨Nat.le_of_ble_eq_true rfl, Nat.le_of_ble_eq_true rfl⟩) (mbm_pre CM hP hD hS) rfl rfl hl.1 rfl (lv_room (Nat.le_of_ble_eq_true rfl)) dL_paints_481 ⟨by show _ ≤ 783; omega, by show _ ≤ 4751; omega⟩) (fun r481 u481 H locs hF hP hD hS => ?_)
            have hP : va_P D vwCl (wW Y o a aa ad u481.1 u481.2) H := hP
            have hD : va_D A (wW Y o a aa ad u481.1 u481.2) := hD
            refine lv_iconst (v := 1) hx hb dL_paints_484 (by decide) ?_
            refine lv_icmp_ne (tgt := 492) hx hb dL_paints_485 (by decide) (fun c_485 => ?_) (fun c_485 => ?_)
            · have hF := hF.1 c_485
              exact wL_paints_492 CM (n * 6 + 0 + 0) (n * 36 + 0 + 0) (by omega) (by omega) ih u481.2 u481.1 x4 x6 x7 x9 _ _ _ _ _ hF hP hD hS (lv_sub hl [1, 2, 3, 4, 6] rfl) (by omega) (by omega)
            · have hF := hF.2 c_485
              exact wL_paints_488 CM (n * 6 + 0 + 0) (n * 36 + 0 + 0) (by omega) (by omega) ih u481.2 u481.1 x4 x6 x7 x9 _ _ _ _ _ hF hP hD hS (lv_sub hl [1, 2, 3, 4, 6] rfl) (by omega) (by omega)
noncomputable def PL_paints_385_b (N : Nat) (K : Int32 → mb_S → Prop) (b385 : mb_m → mb_bs → Int32 → Int32 → Int32 → Int32 → Int32 → Prop) (F : mb_m) (b : mb_bs) (x4 x6 x7 x8 x9 : Int32) : Prop := ((6 : Int32) ≤ x9 → PL_paints_414 N K 65 F b x4 x6 x7 x8 (0 : Int32)) ∧ (¬ (6 : Int32) ≤ x9 → LP_count N b F x6 x9 (fun r399 u399 => ∀ v403 : Int32, v403 = (x7 + r399) → (∀ v405 : Int32, v405 = x9 + (1 : Int32) → (b385 u399.2 u399.1 x4 x6 v403 x8 v405))))
noncomputable def PL_paints_385 (N : Nat) (K : Int32 → mb_S → Prop) (n : Nat) : mb_m → mb_bs → Int32 → Int32 → Int32 → Int32 → Int32 → Prop := Nat.rec (motive := fun _ => mb_m → mb_bs → Int32 → Int32 → Int32 → Int32 → Int32 → Prop) (fun _ _ _ _ _ _ _ => False) (fun _ b385 => PL_paints_385_b N K  b385) n
set_option maxHeartbeats 4000000 in
set_option maxRecDepth 100000 in
theorem wL_paints_385 {p : Program} {l : Launch} {e : Env} {s : State} {m : MethodId} {below : List Frame} {meth : Method} {c : Code} {args : Array Value} {D : va_G} {Y : Nat → ClassId} {A : Nat → Prop} {o : Nat} {a aa ad : Nat → Nat} {N : Nat} {K : Int32 → mb_S → Prop} (CM : mb_CM l p s m meth c args cL_paints 12 (some .boolean) wsL_paints RL D Y A) : ∀ (n : Nat), (∀ (F : mb_m) (b : mb_bs) (x4 x6 x7 x8 x9 : Int32) (H : Heap) (locs : List Loc) (ls : Array Slot) (cells slots : Nat), PL_paints_385 N K  n F b x4 x6 x7 x8 x9 → va_P D vwCl (wW Y o a aa ad b F) H → va_D A (wW Y o a aa ad b F) → va_S A s.heap H locs → lv_has ls 12 [(0, .ref o), (4, .int x4), (6, .int x6), (7, .int x7), (8, .int x8), (9, .int x9)] → cells + (n * 2 + 390 + 0) ≤ 783 → slots + (n * 12 + 2340 + 0) ≤ 4751 → W p l e ({ frames := 10, cells := 783, slots := 4751, locals := 182 } : Room) s m args below meth c H locs cells slots (MQ below (va_Qi K (fun u t => mb_T D A (wW Y o a aa ad u.1 u.2) t) A) args s 783 4751 A) (F0 m 385 ls [])) := by
  obtain ⟨C, hX, hl0, hN⟩ := id CM
  obtain ⟨hx, hb, hr, hml, hts, hown, hlocks, hA, hG⟩ := id C
  have hK := hG.1
  intro n
  induction n with
  | zero => intro F b x4 x6 x7 x8 x9 H locs ls cells slots hF; exact (show False from hF).elim
  | succ n ih =>
    intro F b x4 x6 x7 x8 x9 H locs ls cells slots hF hP hD hS hl hc hs
    have hF : PL_paints_385_b N K  (PL_paints_385 N K  n) F b x4 x6 x7 x8 x9 := hF
    unfold PL_paints_385_b at hF
    refine lv_iload hx hb dL_paints_385 (lv_at hl 5 rfl) ?_
    refine lv_bipush (v := 6) hx hb dL_paints_387 (by decide) ?_
    refine lv_icmp_ge (tgt := 411) hx hb dL_paints_389 (by decide) (fun c_389 => ?_) (fun c_389 => ?_)
    · have hF := hF.1 c_389
      refine lv_iconst (v := 0) hx hb dL_paints_411 (by decide) ?_
      refine lv_istore (lv' := [(9, .int (0 : Int32)), (0, .ref o), (4, .int x4), (6, .int x6), (7, .int x7), (8, .int x8)]) hx hb dL_paints_412 hl (by decide) rfl (fun ls hl => ?_)
      exact wL_paints_414 CM 65 F b x4 x6 x7 x8 (0 : Int32) _ _ _ _ _ hF hP hD hS (lv_sub hl [1, 2, 3, 4, 5, 0] rfl) (by omega) (by omega)
    · have hF := hF.2 c_389
      refine lv_iload hx hb dL_paints_392 (lv_at hl 3 rfl) ?_
      refine lv_aload_n hx hb dL_paints_394 rfl (lv_at hl 0 rfl) ?_
      refine lv_iload hx hb dL_paints_395 (lv_at hl 2 rfl) ?_
      refine lv_iload hx hb dL_paints_397 (lv_at hl 5 rfl) ?_
      refine mb_cW (S := mb_S) hD hS hA (vx_runSW (As := [.ref o, .int x6, .int x9]) (rest := [.int x7]) ⟨hx, hb, hml, hown, hts⟩ (cw_count l hl0 D Y N o a aa ad b F _ x6 x9 _ hF) (vx_cwSW 3 hts gL_paints_L_count rfl rfl rfl (by decide +kernel) ⟨Nat.le_of_ble_eq_true rfl, Nat.le_of_ble_eq_true rfl⟩) (mbm_pre CM hP hD hS) rfl rfl hl.1 rfl (lv_room (Nat.le_of_ble_eq_true rfl)) dL_paints_399 ⟨by show _ ≤ 783; omega, by show _ ≤ 4751; omega⟩) (fun r399 u399 H locs hF hP hD hS => ?_)
      have hP : va_P D vwCl (wW Y o a aa ad u399.1 u399.2) H := hP
      have hD : va_D A (wW Y o a aa ad u399.1 u399.2) := hD
      refine lv_iadd hx hb dL_paints_402 ?_
      refine lv_topi (fun v403 ev403 => ?_)
      have hF := hF v403 ev403
      refine lv_istore (lv' := [(7, .int v403), (0, .ref o), (4, .int x4), (6, .int x6), (8, .int x8), (9, .int x9)]) hx hb dL_paints_403 hl (by decide) rfl (fun ls hl => ?_)
      obtain ⟨v405, ev405⟩ : ∃ y : Int32, y = x9 + (1 : Int32) := ⟨_, rfl⟩
      have hF := hF v405 ev405
      refine lv_iinc (v := v405) (lv' := [(9, .int v405), (7, .int v403), (0, .ref o), (4, .int x4), (6, .int x6), (8, .int x8)]) hx hb dL_paints_405 hl (k := 5) rfl (by rw [ev405]; rfl) (by decide) rfl (fun ls hl => ?_)
      refine lv_goto (tgt := 385) hx hb dL_paints_408 (by decide) ?_
      exact ih u399.2 u399.1 x4 x6 v403 x8 v405 _ _ _ _ _ hF hP hD hS (lv_sub hl [2, 3, 4, 1, 5, 0] rfl) (by omega) (by omega)
noncomputable def PL_paints_380 (N : Nat) (K : Int32 → mb_S → Prop) (F : mb_m) (b : mb_bs) (x4 x6 x7 y0 : Int32) : Prop := PL_paints_385 N K 7 F b x4 x6 x7 y0 (0 : Int32)
set_option maxHeartbeats 4000000 in
set_option maxRecDepth 100000 in
theorem wL_paints_380 {p : Program} {l : Launch} {e : Env} {s : State} {m : MethodId} {below : List Frame} {meth : Method} {c : Code} {args : Array Value} {D : va_G} {Y : Nat → ClassId} {A : Nat → Prop} {o : Nat} {a aa ad : Nat → Nat} {N : Nat} {K : Int32 → mb_S → Prop} (CM : mb_CM l p s m meth c args cL_paints 12 (some .boolean) wsL_paints RL D Y A) : ∀ (F : mb_m) (b : mb_bs) (x4 x6 x7 y0 : Int32) (H : Heap) (locs : List Loc) (ls : Array Slot) (cells slots : Nat), PL_paints_380 N K  F b x4 x6 x7 y0 → va_P D vwCl (wW Y o a aa ad b F) H → va_D A (wW Y o a aa ad b F) → va_S A s.heap H locs → lv_has ls 12 [(0, .ref o), (4, .int x4), (6, .int x6), (7, .int x7)] → cells + (404 + 0) ≤ 783 → slots + (2424 + 0) ≤ 4751 → W p l e ({ frames := 10, cells := 783, slots := 4751, locals := 182 } : Room) s m args below meth c H locs cells slots (MQ below (va_Qi K (fun u t => mb_T D A (wW Y o a aa ad u.1 u.2) t) A) args s 783 4751 A) (F0 m 380 ls [.int y0]) := by
  obtain ⟨C, hX, hl0, hN⟩ := id CM
  obtain ⟨hx, hb, hr, hml, hts, hown, hlocks, hA, hG⟩ := id C
  have hK := hG.1
  intro F b x4 x6 x7 y0 H locs ls cells slots hF hP hD hS hl hc hs
  unfold PL_paints_380 at hF
  refine lv_istore (lv' := [(8, .int y0), (0, .ref o), (4, .int x4), (6, .int x6), (7, .int x7)]) hx hb dL_paints_380 hl (by decide) rfl (fun ls hl => ?_)
  refine lv_iconst (v := 0) hx hb dL_paints_382 (by decide) ?_
  refine lv_istore (lv' := [(9, .int (0 : Int32)), (8, .int y0), (0, .ref o), (4, .int x4), (6, .int x6), (7, .int x7)]) hx hb dL_paints_383 hl (by decide) rfl (fun ls hl => ?_)
  exact wL_paints_385 CM 7 F b x4 x6 x7 y0 (0 : Int32) _ _ _ _ _ hF hP hD hS (lv_sub hl [2, 3, 4, 5, 1, 0] rfl) (by omega) (by omega)
noncomputable def PL_paints_379 (N : Nat) (K : Int32 → mb_S → Prop) (F : mb_m) (b : mb_bs) (x4 x6 x7 : Int32) : Prop := PL_paints_380 N K F b x4 x6 x7 (0 : Int32)
set_option maxHeartbeats 4000000 in
set_option maxRecDepth 100000 in
theorem wL_paints_379 {p : Program} {l : Launch} {e : Env} {s : State} {m : MethodId} {below : List Frame} {meth : Method} {c : Code} {args : Array Value} {D : va_G} {Y : Nat → ClassId} {A : Nat → Prop} {o : Nat} {a aa ad : Nat → Nat} {N : Nat} {K : Int32 → mb_S → Prop} (CM : mb_CM l p s m meth c args cL_paints 12 (some .boolean) wsL_paints RL D Y A) : ∀ (F : mb_m) (b : mb_bs) (x4 x6 x7 : Int32) (H : Heap) (locs : List Loc) (ls : Array Slot) (cells slots : Nat), PL_paints_379 N K  F b x4 x6 x7 → va_P D vwCl (wW Y o a aa ad b F) H → va_D A (wW Y o a aa ad b F) → va_S A s.heap H locs → lv_has ls 12 [(0, .ref o), (4, .int x4), (6, .int x6), (7, .int x7)] → cells + (404 + 0) ≤ 783 → slots + (2424 + 0) ≤ 4751 → W p l e ({ frames := 10, cells := 783, slots := 4751, locals := 182 } : Room) s m args below meth c H locs cells slots (MQ below (va_Qi K (fun u t => mb_T D A (wW Y o a aa ad u.1 u.2) t) A) args s 783 4751 A) (F0 m 379 ls []) := by
  obtain ⟨C, hX, hl0, hN⟩ := id CM
  obtain ⟨hx, hb, hr, hml, hts, hown, hlocks, hA, hG⟩ := id C
  have hK := hG.1
  intro F b x4 x6 x7 H locs ls cells slots hF hP hD hS hl hc hs
  unfold PL_paints_379 at hF
  refine lv_iconst (v := 0) hx hb dL_paints_379 (by decide) ?_
  exact wL_paints_380 CM F b x4 x6 x7 (0 : Int32) _ _ _ _ _ hF hP hD hS (lv_sub hl [0, 1, 2, 3] rfl) (by omega) (by omega)
noncomputable def PL_paints (N : Nat) (F : mb_m) (b : mb_bs) (x2 x3 : Int32) (K : Int32 → mb_S → Prop) : Prop := PL_coloured N F b (fun r1 u1 => PL_low N x2 (8 : Int32) (fun r9 _ => ((4 : Int32) ≤ r9 → ((7 : Int32) ≤ r9 → LP_lift N u1.1 u1.2 (fun r281 u281 => vp_in (0 : Int32) 3 ∧ ((¬ (u281.2 0 (0 : Int32).toNatClampNeg) = (10 : Int32) → vp_in (0 : Int32) 3 ∧ (∀ v346 : Int32, v346 = ((u281.2 0 (0 : Int32).toNatClampNeg) + (1 : Int32)) → (vp_in (0 : Int32) 3 ∧ (∀ M346 : mb_m, M346 = mb_u u281.2 0 (upd (u281.2 0) (0 : Int32).toNatClampNeg v346) → (vp_in (0 : Int32) 3 ∧ ((¬ r281 = ((M346 0 (0 : Int32).toNatClampNeg) - (1 : Int32)) → PL_paints_379 N K M346 u281.1 r1 r281 (0 : Int32)) ∧ (r281 = ((M346 0 (0 : Int32).toNatClampNeg) - (1 : Int32)) → LP_count N u281.1 M346 r281 (-1 : Int32) (fun r364 u364 => (¬ r364 = ((64 : Int32) - r1) → PL_paints_379 N K u364.2 u364.1 r1 r281 (0 : Int32)) ∧ (r364 = ((64 : Int32) - r1) → PL_paints_380 N K u364.2 u364.1 r1 r281 (0 : Int32) (1 : Int32)))))))))) ∧ ((u281.2 0 (0 : Int32).toNatClampNeg) = (10 : Int32) → (¬ r281 = (-1000003 : Int32) → K (0 : Int32) (u281.1, u281.2)) ∧ (r281 = (-1000003 : Int32) → PL_coloured N u281.2 u281.1 (fun r302 u302 => (¬ r302 = r1 → K (0 : Int32) (u302.1, u302.2)) ∧ (r302 = r1 → PL_low N x3 (3 : Int32) (fun r312 _ => (0 < r312 → K (1 : Int32) (u302.1, u302.2)) ∧ (¬ 0 < r312 → LP_clean N u302.1 u302.2 (fun r319 u319 => (¬ r319 = r1 → K (0 : Int32) (u319.1, u319.2)) ∧ (r319 = r1 → PL_coloured N u319.2 u319.1 (fun r328 u328 => (¬ r328 = 0 → K (0 : Int32) (u328.1, u328.2)) ∧ (r328 = 0 → K (1 : Int32) (u328.1, u328.2)))))))))))))) ∧ (¬ (7 : Int32) ≤ r9 → PL_low N x3 (2 : Int32) (fun r174 _ => (¬ r174 = 0 → PL_paints_185 N K u1.2 u1.1 x3 r1 (0 : Int32)) ∧ (r174 = 0 → PL_paints_185 N K u1.2 u1.1 x3 r1 (1 : Int32))))) ∧ (¬ (4 : Int32) ≤ r9 → PL_low N (x3 >>> ((9 : Int32) &&& 31)) (64 : Int32) (fun r27 _ => ∀ v31 : Int32, v31 = ((1 : Int32) + r27) → (PL_low N x3 (8 : Int32) (fun r36 _ => PL_low N (x3 >>> ((3 : Int32) &&& 31)) (8 : Int32) (fun r46 _ => PL_low N (x3 >>> ((6 : Int32) &&& 31)) (6 : Int32) (fun r57 _ => LP_drop N u1.1 u1.2 r36 r46 r57 v31 (fun r71 u71 => PL_coloured N u71.2 u71.1 (fun r77 u77 => (r71 < 0 → K (0 : Int32) (u77.1, u77.2)) ∧ (¬ r71 < 0 → (v31 < r71 → K (0 : Int32) (u77.1, u77.2)) ∧ (¬ v31 < r71 → (r77 < r1 → K (0 : Int32) (u77.1, u77.2)) ∧ (¬ r77 < r1 → ((r1 + r71) < r77 → K (0 : Int32) (u77.1, u77.2)) ∧ (¬ (r1 + r71) < r77 → ((65 : Int32) ≤ r77 → K (0 : Int32) (u77.1, u77.2)) ∧ (¬ (65 : Int32) ≤ r77 → (r71 = 0 → PL_paints_128 N K u77.2 u77.1 v31 r36 r46 r57 r71) ∧ (¬ r71 = 0 → (r77 ≤ 0 → K (0 : Int32) (u77.1, u77.2)) ∧ (¬ r77 ≤ 0 → PL_paints_128 N K u77.2 u77.1 v31 r36 r46 r57 r71)))))))))))))))))
set_option maxHeartbeats 4000000 in
set_option maxRecDepth 100000 in
theorem cnL_paints (l : Launch) (hl0 : l.stackTraces = false) (D : va_G) (Y : Nat → ClassId) (N : Nat) (o : Nat) (a aa ad : Nat → Nat) (F : mb_m) (b : mb_bs) (sz : Nat) (x2 x3 : Int32) (K : Int32 → mb_S → Prop) (hF : PL_paints N F b x2 x3 K) : Met l yL_paints wsL_paints ({ frames := 10, cells := 783, slots := 4751, locals := 182 } : Room) (va_Pc [.ref o, .ref (ad 0), .int x2, .int x3] (mb_BL D Y (wW Y o a aa ad b F) sz)) (va_Qi K (fun u t => mb_T D (va_A (wW Y o a aa ad b F) sz) (wW Y o a aa ad u.1 u.2) t) (va_A (wW Y o a aa ad b F) sz)) 783 4751 (va_A (wW Y o a aa ad b F) sz) := by
  refine mbm_begin (cc := cL_paints) (maxL := 12) (ret := (some .boolean)) hl0 (by decide +kernel) rfl (Nat.le_of_ble_eq_true rfl) ?_
  intro p e s m below meth c ls CM hsz hP hD hl
  generalize hAe : va_A (wW Y o a aa ad b F) sz = A at CM hD ⊢
  have CM : mb_CM l p s m meth c ([.ref o, .ref (ad 0), .int x2, .int x3] : List Value).toArray cL_paints 12 (some .boolean) wsL_paints RL D Y A := CM
  obtain ⟨C, hX, hl0, hN⟩ := id CM
  obtain ⟨hx, hb, hr, hml, hts, hown, hlocks, hA, hG⟩ := id C
  have hK := hG.1
  have hS : va_S A s.heap s.heap [] := va_S.rf
  have hl : lv_has ls 12 [(0, .ref o), (1, .ref (ad 0)), (2, .int x2), (3, .int x3)] := hl
  unfold PL_paints at hF
  refine lv_aload_n hx hb dL_paints_0 rfl (lv_at hl 0 rfl) ?_
  refine mb_cW (S := mb_S) hD hS hA (va_runS (As := [.ref o]) (rest := []) ⟨hx, hb, hml, hown, hts⟩ (cnL_coloured l hl0 D Y N o a aa ad F b _ _ hF) (va_cwS 1 hts gL_paints_L_coloured rfl rfl rfl (by decide +kernel) ⟨Nat.le_of_ble_eq_true rfl, Nat.le_of_ble_eq_true rfl⟩) (mbm_pre CM hP hD hS) rfl rfl hl.1 rfl (lv_room (Nat.le_of_ble_eq_true rfl)) dL_paints_1 ⟨by show _ ≤ 783; omega, by show _ ≤ 4751; omega⟩) (fun r1 u1 H locs hF hP hD hS => ?_)
  have hP : va_P D vwCl (wW Y o a aa ad u1.1 u1.2) H := hP
  have hD : va_D A (wW Y o a aa ad u1.1 u1.2) := hD
  refine lv_istore (lv' := [(4, .int r1), (0, .ref o), (1, .ref (ad 0)), (2, .int x2), (3, .int x3)]) hx hb dL_paints_4 hl (by decide) rfl (fun ls hl => ?_)
  refine lv_iload_n hx hb dL_paints_6 rfl (lv_at hl 3 rfl) ?_
  refine lv_bipush (v := 8) hx hb dL_paints_7 (by decide) ?_
  refine mb_cE hP hS hA (va_runS (As := [.int x2, .int (8 : Int32)]) (rest := []) ⟨hx, hb, hml, hown, hts⟩ (cnL_low l D Y N _ x2 (8 : Int32) _ hF) (va_cwS 2 hts gL_paints_L_low rfl rfl rfl (by decide +kernel) ⟨Nat.le_of_ble_eq_true rfl, Nat.le_of_ble_eq_true rfl⟩) (mb_preS (A := A) hG mb_P0 mb_D0) rfl rfl hl.1 rfl (lv_room (Nat.le_of_ble_eq_true rfl)) dL_paints_9 ⟨by show _ ≤ 783; omega, by show _ ≤ 4751; omega⟩) (fun r9 H locs hF hP hS => ?_)
  refine lv_istore (lv' := [(5, .int r9), (4, .int r1), (0, .ref o), (1, .ref (ad 0)), (2, .int x2), (3, .int x3)]) hx hb dL_paints_12 hl (by decide) rfl (fun ls hl => ?_)
  refine lv_iload hx hb dL_paints_14 (lv_at hl 0 rfl) ?_
  refine lv_iconst (v := 4) hx hb dL_paints_16 (by decide) ?_
  refine lv_icmp_ge (tgt := 165) hx hb dL_paints_17 (by decide) (fun c_17 => ?_) (fun c_17 => ?_)
  · have hF := hF.1 c_17
    refine lv_iload hx hb dL_paints_165 (lv_at hl 0 rfl) ?_
    refine lv_bipush (v := 7) hx hb dL_paints_167 (by decide) ?_
    refine lv_icmp_ge (tgt := 280) hx hb dL_paints_169 (by decide) (fun c_169 => ?_) (fun c_169 => ?_)
    · have hF := hF.1 c_169
      refine lv_aload_n hx hb dL_paints_280 rfl (lv_at hl 2 rfl) ?_
      refine mb_cW (S := mb_S) hD hS hA (vx_runSW (As := [.ref o]) (rest := []) ⟨hx, hb, hml, hown, hts⟩ (cw_lift l hl0 D Y N o a aa ad u1.1 u1.2 _ _ hF) (vx_cwSW 1 hts gL_paints_L_lift rfl rfl rfl (by decide +kernel) ⟨Nat.le_of_ble_eq_true rfl, Nat.le_of_ble_eq_true rfl⟩) (mbm_pre CM hP hD hS) rfl rfl hl.1 rfl (lv_room (Nat.le_of_ble_eq_true rfl)) dL_paints_281 ⟨by show _ ≤ 783; omega, by show _ ≤ 4751; omega⟩) (fun r281 u281 H locs hF hP hD hS => ?_)
      have hP : va_P D vwCl (wW Y o a aa ad u281.1 u281.2) H := hP
      have hD : va_D A (wW Y o a aa ad u281.1 u281.2) := hD
      refine lv_istore (lv' := [(6, .int r281), (5, .int r9), (4, .int r1), (0, .ref o), (1, .ref (ad 0)), (2, .int x2), (3, .int x3)]) hx hb dL_paints_284 hl (by decide) rfl (fun ls hl => ?_)
      refine lv_aload_n hx hb dL_paints_286 rfl (lv_at hl 4 rfl) ?_
      refine lv_iconst (v := 0) hx hb dL_paints_287 (by decide) ?_
      obtain ⟨hi288, hF⟩ := hF
      refine va_iald hx hb hK hP 0 0 rfl rfl hi288 dL_paints_288 ?_
      refine lv_bipush (v := 10) hx hb dL_paints_289 (by decide) ?_
      refine lv_icmp_ne (tgt := 340) hx hb dL_paints_291 (by decide) (fun c_291 => ?_) (fun c_291 => ?_)
      · have hF := hF.1 c_291
        refine lv_aload_n hx hb dL_paints_340 rfl (lv_at hl 4 rfl) ?_
        refine lv_iconst (v := 0) hx hb dL_paints_341 (by decide) ?_
        refine lv_dup2_11 hx hb dL_paints_342 rfl rfl ?_
        obtain ⟨hi343, hF⟩ := hF
        refine va_iald hx hb hK hP 0 0 rfl rfl hi343 dL_paints_343 ?_
        refine lv_iconst (v := 1) hx hb dL_paints_344 (by decide) ?_
        refine lv_iadd hx hb dL_paints_345 ?_
        refine lv_topi (fun v346 ev346 => ?_)
        have hF := hF v346 ev346
        obtain ⟨hi346, hF⟩ := hF
        refine va_iast hx hb hK hP hD hS 0 0 rfl rfl hi346 dL_paints_346 (fun H locs hP hD hS => ?_)
        obtain ⟨M346, eM346⟩ : ∃ y : mb_m, y = mb_u u281.2 0 (upd (u281.2 0) (0 : Int32).toNatClampNeg v346) := ⟨_, rfl⟩
        have hF := hF M346 eM346
        have hP : va_P D vwCl (wW Y o a aa ad u281.1 (mb_u u281.2 0 (upd (u281.2 0) (0 : Int32).toNatClampNeg v346))) H := hP
        have hD : va_D A (wW Y o a aa ad u281.1 (mb_u u281.2 0 (upd (u281.2 0) (0 : Int32).toNatClampNeg v346))) := hD
        rw [← eM346] at hP hD
        refine lv_iconst (v := 0) hx hb dL_paints_347 (by decide) ?_
        refine lv_istore (lv' := [(7, .int (0 : Int32)), (6, .int r281), (5, .int r9), (4, .int r1), (0, .ref o), (1, .ref (ad 0)), (2, .int x2), (3, .int x3)]) hx hb dL_paints_348 hl (by decide) rfl (fun ls hl => ?_)
        refine lv_iload hx hb dL_paints_350 (lv_at hl 1 rfl) ?_
        refine lv_aload_n hx hb dL_paints_352 rfl (lv_at hl 5 rfl) ?_
        refine lv_iconst (v := 0) hx hb dL_paints_353 (by decide) ?_
        obtain ⟨hi354, hF⟩ := hF
        refine va_iald hx hb hK hP 0 0 rfl rfl hi354 dL_paints_354 ?_
        refine lv_iconst (v := 1) hx hb dL_paints_355 (by decide) ?_
        refine lv_isub hx hb dL_paints_356 ?_
        refine lv_icmp_ne (tgt := 379) hx hb dL_paints_357 (by decide) (fun c_357 => ?_) (fun c_357 => ?_)
        · have hF := hF.1 c_357
          exact wL_paints_379 CM M346 u281.1 r1 r281 (0 : Int32) _ _ _ _ _ hF hP hD hS (lv_sub hl [4, 3, 1, 0] rfl) (by omega) (by omega)
        · have hF := hF.2 c_357
          refine lv_aload_n hx hb dL_paints_360 rfl (lv_at hl 4 rfl) ?_
          refine lv_iload hx hb dL_paints_361 (lv_at hl 1 rfl) ?_
          refine lv_iconst (v := -1) hx hb dL_paints_363 (by decide) ?_
          refine mb_cW (S := mb_S) hD hS hA (vx_runSW (As := [.ref o, .int r281, .int (-1 : Int32)]) (rest := []) ⟨hx, hb, hml, hown, hts⟩ (cw_count l hl0 D Y N o a aa ad u281.1 M346 _ r281 (-1 : Int32) _ hF) (vx_cwSW 3 hts gL_paints_L_count rfl rfl rfl (by decide +kernel) ⟨Nat.le_of_ble_eq_true rfl, Nat.le_of_ble_eq_true rfl⟩) (mbm_pre CM hP hD hS) rfl rfl hl.1 rfl (lv_room (Nat.le_of_ble_eq_true rfl)) dL_paints_364 ⟨by show _ ≤ 783; omega, by show _ ≤ 4751; omega⟩) (fun r364 u364 H locs hF hP hD hS => ?_)
          have hP : va_P D vwCl (wW Y o a aa ad u364.1 u364.2) H := hP
          have hD : va_D A (wW Y o a aa ad u364.1 u364.2) := hD
          refine lv_bipush (v := 64) hx hb dL_paints_367 (by decide) ?_
          refine lv_iload hx hb dL_paints_369 (lv_at hl 3 rfl) ?_
          refine lv_isub hx hb dL_paints_371 ?_
          refine lv_icmp_ne (tgt := 379) hx hb dL_paints_372 (by decide) (fun c_372 => ?_) (fun c_372 => ?_)
          · have hF := hF.1 c_372
            exact wL_paints_379 CM u364.2 u364.1 r1 r281 (0 : Int32) _ _ _ _ _ hF hP hD hS (lv_sub hl [4, 3, 1, 0] rfl) (by omega) (by omega)
          · have hF := hF.2 c_372
            refine lv_iconst (v := 1) hx hb dL_paints_375 (by decide) ?_
            refine lv_goto (tgt := 380) hx hb dL_paints_376 (by decide) ?_
            exact wL_paints_380 CM u364.2 u364.1 r1 r281 (0 : Int32) (1 : Int32) _ _ _ _ _ hF hP hD hS (lv_sub hl [4, 3, 1, 0] rfl) (by omega) (by omega)
      · have hF := hF.2 c_291
        refine lv_iload hx hb dL_paints_294 (lv_at hl 0 rfl) ?_
        refine lv_ldc (v := -1000003) hx hb hown (hts (.constant RL 32 (-1000003)) (List.mem_of_getElem? (i := 1) rfl)) dL_paints_296 ?_
        refine lv_icmp_ne (tgt := 338) hx hb dL_paints_298 (by decide) (fun c_298 => ?_) (fun c_298 => ?_)
        · have hF := hF.1 c_298
          refine lv_iconst (v := 0) hx hb dL_paints_338 (by decide) ?_
          exact mb_ri (S := mb_S) (mc := 783) (ms := 4751) (wf := fun u => wW Y o a aa ad u.1 u.2) C rfl (u := (u281.1, u281.2)) hF hP hD hS dL_paints_339 (by omega) (by omega)
        · have hF := hF.2 c_298
          refine lv_aload_n hx hb dL_paints_301 rfl (lv_at hl 3 rfl) ?_
          refine mb_cW (S := mb_S) hD hS hA (va_runS (As := [.ref o]) (rest := []) ⟨hx, hb, hml, hown, hts⟩ (cnL_coloured l hl0 D Y N o a aa ad u281.2 u281.1 _ _ hF) (va_cwS 1 hts gL_paints_L_coloured rfl rfl rfl (by decide +kernel) ⟨Nat.le_of_ble_eq_true rfl, Nat.le_of_ble_eq_true rfl⟩) (mbm_pre CM hP hD hS) rfl rfl hl.1 rfl (lv_room (Nat.le_of_ble_eq_true rfl)) dL_paints_302 ⟨by show _ ≤ 783; omega, by show _ ≤ 4751; omega⟩) (fun r302 u302 H locs hF hP hD hS => ?_)
          have hP : va_P D vwCl (wW Y o a aa ad u302.1 u302.2) H := hP
          have hD : va_D A (wW Y o a aa ad u302.1 u302.2) := hD
          refine lv_iload hx hb dL_paints_305 (lv_at hl 2 rfl) ?_
          refine lv_icmp_ne (tgt := 338) hx hb dL_paints_307 (by decide) (fun c_307 => ?_) (fun c_307 => ?_)
          · have hF := hF.1 c_307
            refine lv_iconst (v := 0) hx hb dL_paints_338 (by decide) ?_
            exact mb_ri (S := mb_S) (mc := 783) (ms := 4751) (wf := fun u => wW Y o a aa ad u.1 u.2) C rfl (u := (u302.1, u302.2)) hF hP hD hS dL_paints_339 (by omega) (by omega)
          · have hF := hF.2 c_307
            refine lv_iload_n hx hb dL_paints_310 rfl (lv_at hl 6 rfl) ?_
            refine lv_iconst (v := 3) hx hb dL_paints_311 (by decide) ?_
            refine mb_cE hP hS hA (va_runS (As := [.int x3, .int (3 : Int32)]) (rest := []) ⟨hx, hb, hml, hown, hts⟩ (cnL_low l D Y N _ x3 (3 : Int32) _ hF) (va_cwS 2 hts gL_paints_L_low rfl rfl rfl (by decide +kernel) ⟨Nat.le_of_ble_eq_true rfl, Nat.le_of_ble_eq_true rfl⟩) (mb_preS (A := A) hG mb_P0 mb_D0) rfl rfl hl.1 rfl (lv_room (Nat.le_of_ble_eq_true rfl)) dL_paints_312 ⟨by show _ ≤ 783; omega, by show _ ≤ 4751; omega⟩) (fun r312 H locs hF hP hS => ?_)
            refine lv_if_gt (tgt := 334) hx hb dL_paints_315 (by decide) (fun c_315 => ?_) (fun c_315 => ?_)
            · have hF := hF.1 c_315
              refine lv_iconst (v := 1) hx hb dL_paints_334 (by decide) ?_
              refine lv_goto (tgt := 339) hx hb dL_paints_335 (by decide) ?_
              exact mb_ri (S := mb_S) (mc := 783) (ms := 4751) (wf := fun u => wW Y o a aa ad u.1 u.2) C rfl (u := (u302.1, u302.2)) hF hP hD hS dL_paints_339 (by omega) (by omega)
            · have hF := hF.2 c_315
              refine lv_aload_n hx hb dL_paints_318 rfl (lv_at hl 3 rfl) ?_
              refine mb_cW (S := mb_S) hD hS hA (va_runV (As := []) (rest := []) ⟨hx, hb, hml, hown, hts⟩ (cw_clean l D Y N o a aa ad u302.1 u302.2 _ _ hF) (cwV 0 hts gL_paints_X7_clean rfl rfl rfl (by decide +kernel) ⟨Nat.le_of_ble_eq_true rfl, Nat.le_of_ble_eq_true rfl⟩) (mb_preV hG hP hD 5 rfl rfl) rfl rfl hl.1 rfl (lv_room (Nat.le_of_ble_eq_true rfl)) dL_paints_319 ⟨by show _ ≤ 783; omega, by show _ ≤ 4751; omega⟩) (fun r319 u319 H locs hF hP hD hS => ?_)
              have hP : va_P D vwCl (wW Y o a aa ad u319.1 u319.2) H := hP
              have hD : va_D A (wW Y o a aa ad u319.1 u319.2) := hD
              refine lv_iload hx hb dL_paints_322 (lv_at hl 2 rfl) ?_
              refine lv_icmp_ne (tgt := 338) hx hb dL_paints_324 (by decide) (fun c_324 => ?_) (fun c_324 => ?_)
              · have hF := hF.1 c_324
                refine lv_iconst (v := 0) hx hb dL_paints_338 (by decide) ?_
                exact mb_ri (S := mb_S) (mc := 783) (ms := 4751) (wf := fun u => wW Y o a aa ad u.1 u.2) C rfl (u := (u319.1, u319.2)) hF hP hD hS dL_paints_339 (by omega) (by omega)
              · have hF := hF.2 c_324
                refine lv_aload_n hx hb dL_paints_327 rfl (lv_at hl 3 rfl) ?_
                refine mb_cW (S := mb_S) hD hS hA (va_runS (As := [.ref o]) (rest := []) ⟨hx, hb, hml, hown, hts⟩ (cnL_coloured l hl0 D Y N o a aa ad u319.2 u319.1 _ _ hF) (va_cwS 1 hts gL_paints_L_coloured rfl rfl rfl (by decide +kernel) ⟨Nat.le_of_ble_eq_true rfl, Nat.le_of_ble_eq_true rfl⟩) (mbm_pre CM hP hD hS) rfl rfl hl.1 rfl (lv_room (Nat.le_of_ble_eq_true rfl)) dL_paints_328 ⟨by show _ ≤ 783; omega, by show _ ≤ 4751; omega⟩) (fun r328 u328 H locs hF hP hD hS => ?_)
                have hP : va_P D vwCl (wW Y o a aa ad u328.1 u328.2) H := hP
                have hD : va_D A (wW Y o a aa ad u328.1 u328.2) := hD
                refine lv_if_ne (tgt := 338) hx hb dL_paints_331 (by decide) (fun c_331 => ?_) (fun c_331 => ?_)
                · have hF := hF.1 c_331
                  refine lv_iconst (v := 0) hx hb dL_paints_338 (by decide) ?_
                  exact mb_ri (S := mb_S) (mc := 783) (ms := 4751) (wf := fun u => wW Y o a aa ad u.1 u.2) C rfl (u := (u328.1, u328.2)) hF hP hD hS dL_paints_339 (by omega) (by omega)
                · have hF := hF.2 c_331
                  refine lv_iconst (v := 1) hx hb dL_paints_334 (by decide) ?_
                  refine lv_goto (tgt := 339) hx hb dL_paints_335 (by decide) ?_
                  exact mb_ri (S := mb_S) (mc := 783) (ms := 4751) (wf := fun u => wW Y o a aa ad u.1 u.2) C rfl (u := (u328.1, u328.2)) hF hP hD hS dL_paints_339 (by omega) (by omega)
    · have hF := hF.2 c_169
      refine lv_iload_n hx hb dL_paints_172 rfl (lv_at hl 5 rfl) ?_
      refine lv_iconst (v := 2) hx hb dL_paints_173 (by decide) ?_
      refine mb_cE hP hS hA (va_runS (As := [.int x3, .int (2 : Int32)]) (rest := []) ⟨hx, hb, hml, hown, hts⟩ (cnL_low l D Y N _ x3 (2 : Int32) _ hF) (va_cwS 2 hts gL_paints_L_low rfl rfl rfl (by decide +kernel) ⟨Nat.le_of_ble_eq_true rfl, Nat.le_of_ble_eq_true rfl⟩) (mb_preS (A := A) hG mb_P0 mb_D0) rfl rfl hl.1 rfl (lv_room (Nat.le_of_ble_eq_true rfl)) dL_paints_174 ⟨by show _ ≤ 783; omega, by show _ ≤ 4751; omega⟩) (fun r174 H locs hF hP hS => ?_)
      refine lv_if_ne (tgt := 184) hx hb dL_paints_177 (by decide) (fun c_177 => ?_) (fun c_177 => ?_)
      · have hF := hF.1 c_177
        refine lv_iconst (v := 0) hx hb dL_paints_184 (by decide) ?_
        exact wL_paints_185 CM u1.2 u1.1 x3 r1 (0 : Int32) _ _ _ _ _ hF hP hD hS (lv_sub hl [2, 5, 1] rfl) (by omega) (by omega)
      · have hF := hF.2 c_177
        refine lv_iconst (v := 1) hx hb dL_paints_180 (by decide) ?_
        refine lv_goto (tgt := 185) hx hb dL_paints_181 (by decide) ?_
        exact wL_paints_185 CM u1.2 u1.1 x3 r1 (1 : Int32) _ _ _ _ _ hF hP hD hS (lv_sub hl [2, 5, 1] rfl) (by omega) (by omega)
  · have hF := hF.2 c_17
    refine lv_iconst (v := 1) hx hb dL_paints_20 (by decide) ?_
    refine lv_iload_n hx hb dL_paints_21 rfl (lv_at hl 5 rfl) ?_
    refine lv_bipush (v := 9) hx hb dL_paints_22 (by decide) ?_
    refine lv_ishr hx hb dL_paints_24 ?_
    refine lv_bipush (v := 64) hx hb dL_paints_25 (by decide) ?_
    refine mb_cE hP hS hA (va_runS (As := [.int (x3 >>> ((9 : Int32) &&& 31)), .int (64 : Int32)]) (rest := [.int (1 : Int32)]) ⟨hx, hb, hml, hown, hts⟩ (cnL_low l D Y N _ (x3 >>> ((9 : Int32) &&& 31)) (64 : Int32) _ hF) (va_cwS 2 hts gL_paints_L_low rfl rfl rfl (by decide +kernel) ⟨Nat.le_of_ble_eq_true rfl, Nat.le_of_ble_eq_true rfl⟩) (mb_preS (A := A) hG mb_P0 mb_D0) rfl rfl hl.1 rfl (lv_room (Nat.le_of_ble_eq_true rfl)) dL_paints_27 ⟨by show _ ≤ 783; omega, by show _ ≤ 4751; omega⟩) (fun r27 H locs hF hP hS => ?_)
    refine lv_iadd hx hb dL_paints_30 ?_
    refine lv_topi (fun v31 ev31 => ?_)
    have hF := hF v31 ev31
    refine lv_istore (lv' := [(6, .int v31), (5, .int r9), (4, .int r1), (0, .ref o), (1, .ref (ad 0)), (2, .int x2), (3, .int x3)]) hx hb dL_paints_31 hl (by decide) rfl (fun ls hl => ?_)
    refine lv_iload_n hx hb dL_paints_33 rfl (lv_at hl 6 rfl) ?_
    refine lv_bipush (v := 8) hx hb dL_paints_34 (by decide) ?_
    refine mb_cE hP hS hA (va_runS (As := [.int x3, .int (8 : Int32)]) (rest := []) ⟨hx, hb, hml, hown, hts⟩ (cnL_low l D Y N _ x3 (8 : Int32) _ hF) (va_cwS 2 hts gL_paints_L_low rfl rfl rfl (by decide +kernel) ⟨Nat.le_of_ble_eq_true rfl, Nat.le_of_ble_eq_true rfl⟩) (mb_preS (A := A) hG mb_P0 mb_D0) rfl rfl hl.1 rfl (lv_room (Nat.le_of_ble_eq_true rfl)) dL_paints_36 ⟨by show _ ≤ 783; omega, by show _ ≤ 4751; omega⟩) (fun r36 H locs hF hP hS => ?_)
    refine lv_istore (lv' := [(7, .int r36), (6, .int v31), (5, .int r9), (4, .int r1), (0, .ref o), (1, .ref (ad 0)), (2, .int x2), (3, .int x3)]) hx hb dL_paints_39 hl (by decide) rfl (fun ls hl => ?_)
    refine lv_iload_n hx hb dL_paints_41 rfl (lv_at hl 7 rfl) ?_
    refine lv_iconst (v := 3) hx hb dL_paints_42 (by decide) ?_
    refine lv_ishr hx hb dL_paints_43 ?_
    refine lv_bipush (v := 8) hx hb dL_paints_44 (by decide) ?_
    refine mb_cE hP hS hA (va_runS (As := [.int (x3 >>> ((3 : Int32) &&& 31)), .int (8 : Int32)]) (rest := []) ⟨hx, hb, hml, hown, hts⟩ (cnL_low l D Y N _ (x3 >>> ((3 : Int32) &&& 31)) (8 : Int32) _ hF) (va_cwS 2 hts gL_paints_L_low rfl rfl rfl (by decide +kernel) ⟨Nat.le_of_ble_eq_true rfl, Nat.le_of_ble_eq_true rfl⟩) (mb_preS (A := A) hG mb_P0 mb_D0) rfl rfl hl.1 rfl (lv_room (Nat.le_of_ble_eq_true rfl)) dL_paints_46 ⟨by show _ ≤ 783; omega, by show _ ≤ 4751; omega⟩) (fun r46 H locs hF hP hS => ?_)
    refine lv_istore (lv' := [(8, .int r46), (7, .int r36), (6, .int v31), (5, .int r9), (4, .int r1), (0, .ref o), (1, .ref (ad 0)), (2, .int x2), (3, .int x3)]) hx hb dL_paints_49 hl (by decide) rfl (fun ls hl => ?_)
    refine lv_iload_n hx hb dL_paints_51 rfl (lv_at hl 8 rfl) ?_
    refine lv_bipush (v := 6) hx hb dL_paints_52 (by decide) ?_
    refine lv_ishr hx hb dL_paints_54 ?_
    refine lv_bipush (v := 6) hx hb dL_paints_55 (by decide) ?_
    refine mb_cE hP hS hA (va_runS (As := [.int (x3 >>> ((6 : Int32) &&& 31)), .int (6 : Int32)]) (rest := []) ⟨hx, hb, hml, hown, hts⟩ (cnL_low l D Y N _ (x3 >>> ((6 : Int32) &&& 31)) (6 : Int32) _ hF) (va_cwS 2 hts gL_paints_L_low rfl rfl rfl (by decide +kernel) ⟨Nat.le_of_ble_eq_true rfl, Nat.le_of_ble_eq_true rfl⟩) (mb_preS (A := A) hG mb_P0 mb_D0) rfl rfl hl.1 rfl (lv_room (Nat.le_of_ble_eq_true rfl)) dL_paints_57 ⟨by show _ ≤ 783; omega, by show _ ≤ 4751; omega⟩) (fun r57 H locs hF hP hS => ?_)
    refine lv_istore (lv' := [(9, .int r57), (8, .int r46), (7, .int r36), (6, .int v31), (5, .int r9), (4, .int r1), (0, .ref o), (1, .ref (ad 0)), (2, .int x2), (3, .int x3)]) hx hb dL_paints_60 hl (by decide) rfl (fun ls hl => ?_)
    refine lv_aload_n hx hb dL_paints_62 rfl (lv_at hl 6 rfl) ?_
    refine lv_iload hx hb dL_paints_63 (lv_at hl 2 rfl) ?_
    refine lv_iload hx hb dL_paints_65 (lv_at hl 1 rfl) ?_
    refine lv_iload hx hb dL_paints_67 (lv_at hl 0 rfl) ?_
    refine lv_iload hx hb dL_paints_69 (lv_at hl 3 rfl) ?_
    refine mb_cW (S := mb_S) hD hS hA (vx_runSW (As := [.ref o, .int r36, .int r46, .int r57, .int v31]) (rest := []) ⟨hx, hb, hml, hown, hts⟩ (cw_drop l hl0 D Y N o a aa ad u1.1 u1.2 _ r36 r46 r57 v31 _ hF) (vx_cwSW 5 hts gL_paints_L_drop rfl rfl rfl (by decide +kernel) ⟨Nat.le_of_ble_eq_true rfl, Nat.le_of_ble_eq_true rfl⟩) (mbm_pre CM hP hD hS) rfl rfl hl.1 rfl (lv_room (Nat.le_of_ble_eq_true rfl)) dL_paints_71 ⟨by show _ ≤ 783; omega, by show _ ≤ 4751; omega⟩) (fun r71 u71 H locs hF hP hD hS => ?_)
    have hP : va_P D vwCl (wW Y o a aa ad u71.1 u71.2) H := hP
    have hD : va_D A (wW Y o a aa ad u71.1 u71.2) := hD
    refine lv_istore (lv' := [(10, .int r71), (9, .int r57), (8, .int r46), (7, .int r36), (6, .int v31), (5, .int r9), (4, .int r1), (0, .ref o), (1, .ref (ad 0)), (2, .int x2), (3, .int x3)]) hx hb dL_paints_74 hl (by decide) rfl (fun ls hl => ?_)
    refine lv_aload_n hx hb dL_paints_76 rfl (lv_at hl 7 rfl) ?_
    refine mb_cW (S := mb_S) hD hS hA (va_runS (As := [.ref o]) (rest := []) ⟨hx, hb, hml, hown, hts⟩ (cnL_coloured l hl0 D Y N o a aa ad u71.2 u71.1 _ _ hF) (va_cwS 1 hts gL_paints_L_coloured rfl rfl rfl (by decide +kernel) ⟨Nat.le_of_ble_eq_true rfl, Nat.le_of_ble_eq_true rfl⟩) (mbm_pre CM hP hD hS) rfl rfl hl.1 rfl (lv_room (Nat.le_of_ble_eq_true rfl)) dL_paints_77 ⟨by show _ ≤ 783; omega, by show _ ≤ 4751; omega⟩) (fun r77 u77 H locs hF hP hD hS => ?_)
    have hP : va_P D vwCl (wW Y o a aa ad u77.1 u77.2) H := hP
    have hD : va_D A (wW Y o a aa ad u77.1 u77.2) := hD
    refine lv_istore (lv' := [(11, .int r77), (10, .int r71), (9, .int r57), (8, .int r46), (7, .int r36), (6, .int v31), (5, .int r9), (4, .int r1), (0, .ref o), (1, .ref (ad 0)), (2, .int x2), (3, .int x3)]) hx hb dL_paints_80 hl (by decide) rfl (fun ls hl => ?_)
    refine lv_iload hx hb dL_paints_82 (lv_at hl 1 rfl) ?_
    refine lv_if_lt (tgt := 163) hx hb dL_paints_84 (by decide) (fun c_84 => ?_) (fun c_84 => ?_)
    · have hF := hF.1 c_84
      refine lv_iconst (v := 0) hx hb dL_paints_163 (by decide) ?_
      exact mb_ri (S := mb_S) (mc := 783) (ms := 4751) (wf := fun u => wW Y o a aa ad u.1 u.2) C rfl (u := (u77.1, u77.2)) hF hP hD hS dL_paints_164 (by omega) (by omega)
    · have hF := hF.2 c_84
      refine lv_iload hx hb dL_paints_87 (lv_at hl 1 rfl) ?_
      refine lv_iload hx hb dL_paints_89 (lv_at hl 5 rfl) ?_
      refine lv_icmp_gt (tgt := 163) hx hb dL_paints_91 (by decide) (fun c_91 => ?_) (fun c_91 => ?_)
      · have hF := hF.1 c_91
        refine lv_iconst (v := 0) hx hb dL_paints_163 (by decide) ?_
        exact mb_ri (S := mb_S) (mc := 783) (ms := 4751) (wf := fun u => wW Y o a aa ad u.1 u.2) C rfl (u := (u77.1, u77.2)) hF hP hD hS dL_paints_164 (by omega) (by omega)
      · have hF := hF.2 c_91
        refine lv_iload hx hb dL_paints_94 (lv_at hl 0 rfl) ?_
        refine lv_iload hx hb dL_paints_96 (lv_at hl 7 rfl) ?_
        refine lv_icmp_lt (tgt := 163) hx hb dL_paints_98 (by decide) (fun c_98 => ?_) (fun c_98 => ?_)
        · have hF := hF.1 c_98
          refine lv_iconst (v := 0) hx hb dL_paints_163 (by decide) ?_
          exact mb_ri (S := mb_S) (mc := 783) (ms := 4751) (wf := fun u => wW Y o a aa ad u.1 u.2) C rfl (u := (u77.1, u77.2)) hF hP hD hS dL_paints_164 (by omega) (by omega)
        · have hF := hF.2 c_98
          refine lv_iload hx hb dL_paints_101 (lv_at hl 0 rfl) ?_
          refine lv_iload hx hb dL_paints_103 (lv_at hl 7 rfl) ?_
          refine lv_iload hx hb dL_paints_105 (lv_at hl 1 rfl) ?_
          refine lv_iadd hx hb dL_paints_107 ?_
          refine lv_icmp_gt (tgt := 163) hx hb dL_paints_108 (by decide) (fun c_108 => ?_) (fun c_108 => ?_)
          · have hF := hF.1 c_108
            refine lv_iconst (v := 0) hx hb dL_paints_163 (by decide) ?_
            exact mb_ri (S := mb_S) (mc := 783) (ms := 4751) (wf := fun u => wW Y o a aa ad u.1 u.2) C rfl (u := (u77.1, u77.2)) hF hP hD hS dL_paints_164 (by omega) (by omega)
          · have hF := hF.2 c_108
            refine lv_iload hx hb dL_paints_111 (lv_at hl 0 rfl) ?_
            refine lv_bipush (v := 65) hx hb dL_paints_113 (by decide) ?_
            refine lv_icmp_ge (tgt := 163) hx hb dL_paints_115 (by decide) (fun c_115 => ?_) (fun c_115 => ?_)
            · have hF := hF.1 c_115
              refine lv_iconst (v := 0) hx hb dL_paints_163 (by decide) ?_
              exact mb_ri (S := mb_S) (mc := 783) (ms := 4751) (wf := fun u => wW Y o a aa ad u.1 u.2) C rfl (u := (u77.1, u77.2)) hF hP hD hS dL_paints_164 (by omega) (by omega)
            · have hF := hF.2 c_115
              refine lv_iload hx hb dL_paints_118 (lv_at hl 1 rfl) ?_
              refine lv_if_eq (tgt := 128) hx hb dL_paints_120 (by decide) (fun c_120 => ?_) (fun c_120 => ?_)
              · have hF := hF.1 c_120
                exact wL_paints_128 CM u77.2 u77.1 v31 r36 r46 r57 r71 _ _ _ _ _ hF hP hD hS (lv_sub hl [8, 5, 4, 3, 2, 1] rfl) (by omega) (by omega)
              · have hF := hF.2 c_120
                refine lv_iload hx hb dL_paints_123 (lv_at hl 0 rfl) ?_
                refine lv_if_le (tgt := 163) hx hb dL_paints_125 (by decide) (fun c_125 => ?_) (fun c_125 => ?_)
                · have hF := hF.1 c_125
                  refine lv_iconst (v := 0) hx hb dL_paints_163 (by decide) ?_
                  exact mb_ri (S := mb_S) (mc := 783) (ms := 4751) (wf := fun u => wW Y o a aa ad u.1 u.2) C rfl (u := (u77.1, u77.2)) hF hP hD hS dL_paints_164 (by omega) (by omega)
                · have hF := hF.2 c_125
                  exact wL_paints_128 CM u77.2 u77.1 v31 r36 r46 r57 r71 _ _ _ _ _ hF hP hD hS (lv_sub hl [8, 5, 4, 3, 2, 1] rfl) (by omega) (by omega)
end
