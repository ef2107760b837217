section
noncomputable def PL_pares_187 (N : Nat) (K : Int32 → mb_S → Prop) (F : mb_m) (b : mb_bs) (x2 x4 x5 x6 x7 x8 y0 : Int32) : Prop := (y0 = 0 → K (0 : Int32) (b, F)) ∧ (¬ y0 = 0 → LP_thickAt N b F x2 x4 x5 (fun r200 u200 => vp_in x2 3 ∧ (((u200.2 3 x2.toNatClampNeg) < r200 → K (0 : Int32) (u200.1, u200.2)) ∧ (¬ (u200.2 3 x2.toNatClampNeg) < r200 → LP_pare N u200.1 u200.2 x2 (x6 + (1 : Int32)) x6 x5 x7 x8 (fun r223 u223 => (¬ r223 = (-1000001 : Int32) → K (0 : Int32) (u223.1, u223.2)) ∧ (r223 = (-1000001 : Int32) → K (1 : Int32) (u223.1, u223.2)))))))
set_option maxHeartbeats 4000000 in
set_option maxRecDepth 100000 in
theorem wL_pares_187 {p : Program} {l : Launch} {e : Env} {s : State} {m : MethodId} {below : List Frame} {meth : Method} {c : Code} {args : Array Value} {D : va_G} {Y : Nat → ClassId} {A : Nat → Prop} {o : Nat} {a aa ad : Nat → Nat} {N : Nat} {K : Int32 → mb_S → Prop} (CM : mb_CM l p s m meth c args cL_pares 13 (some .boolean) wsL_pares RL D Y A) : ∀ (F : mb_m) (b : mb_bs) (x2 x4 x5 x6 x7 x8 y0 : Int32) (H : Heap) (locs : List Loc) (ls : Array Slot) (cells slots : Nat), PL_pares_187 N K  F b x2 x4 x5 x6 x7 x8 y0 → va_P D vwCl (wW Y o a aa ad b F) H → va_D A (wW Y o a aa ad b F) → va_S A s.heap H locs → lv_has ls 13 [(0, .ref o), (1, .ref (ad 3)), (2, .int x2), (4, .int x4), (5, .int x5), (6, .int x6), (7, .int x7), (8, .int x8)] → cells + (6 + 0) ≤ 16 → slots + (36 + 0) ≤ 96 → W p l e ({ frames := 9, cells := 16, slots := 96, locals := 167 } : Room) s m args below meth c H locs cells slots (MQ below (va_Qi K (fun u t => mb_T D A (wW Y o a aa ad u.1 u.2) t) A) args s 16 96 A) (F0 m 187 ls [.int y0]) := by
  obtain ⟨C, hX, hl0, hN⟩ := id CM
  obtain ⟨hx, hb, hr, hml, hts, hown, hlocks, hA, hG⟩ := id C
  have hK := hG.1
  intro F b x2 x4 x5 x6 x7 x8 y0 H locs ls cells slots hF hP hD hS hl hc hs
  unfold PL_pares_187 at hF
  refine lv_istore (lv' := [(12, .int y0), (0, .ref o), (1, .ref (ad 3)), (2, .int x2), (4, .int x4), (5, .int x5), (6, .int x6), (7, .int x7), (8, .int x8)]) hx hb dL_pares_187 hl (by decide) rfl (fun ls hl => ?_)
  refine lv_iload hx hb dL_pares_189 (lv_at hl 0 rfl) ?_
  refine lv_if_eq (tgt := 235) hx hb dL_pares_191 (by decide) (fun c_191 => ?_) (fun c_191 => ?_)
  · have hF := hF.1 c_191
    refine lv_iconst (v := 0) hx hb dL_pares_235 (by decide) ?_
    exact mb_ri (S := mb_S) (mc := 16) (ms := 96) (wf := fun u => wW Y o a aa ad u.1 u.2) C rfl (u := (b, F)) hF hP hD hS dL_pares_236 (by omega) (by omega)
  · have hF := hF.2 c_191
    refine lv_aload_n hx hb dL_pares_194 rfl (lv_at hl 1 rfl) ?_
    refine lv_iload_n hx hb dL_pares_195 rfl (lv_at hl 3 rfl) ?_
    refine lv_iload hx hb dL_pares_196 (lv_at hl 4 rfl) ?_
    refine lv_iload hx hb dL_pares_198 (lv_at hl 5 rfl) ?_
    refine mb_cW (S := mb_S) hD hS hA (vx_runSW (As := [.ref o, .int x2, .int x4, .int x5]) (rest := []) ⟨hx, hb, hml, hown, hts⟩ (cw_thickAt l hl0 D Y N o a aa ad b F _ x2 x4 x5 _ hF) (vx_cwSW 4 hts gL_pares_L_thickAt rfl rfl rfl (by decide +kernel) ⟨Nat.le_of_ble_eq_true rfl, Nat.le_of_ble_eq_true rfl⟩) (mbm_pre CM hP hD hS) rfl rfl hl.1 rfl (lv_room (Nat.le_of_ble_eq_true rfl)) dL_pares_200 ⟨by show _ ≤ 16; omega, by show _ ≤ 96; omega⟩) (fun r200 u200 H locs hF hP hD hS => ?_)
    have hP : va_P D vwCl (wW Y o a aa ad u200.1 u200.2) H := hP
    have hD : va_D A (wW Y o a aa ad u200.1 u200.2) := hD
    refine lv_aload_n hx hb dL_pares_203 rfl (lv_at hl 2 rfl) ?_
    refine lv_iload_n hx hb dL_pares_204 rfl (lv_at hl 3 rfl) ?_
    obtain ⟨hi205, hF⟩ := hF
    refine va_iald hx hb hK hP 3 0 rfl rfl hi205 dL_pares_205 ?_
    refine lv_icmp_gt (tgt := 235) hx hb dL_pares_206 (by decide) (fun c_206 => ?_) (fun c_206 => ?_)
    · have hF := hF.1 c_206
      refine lv_iconst (v := 0) hx hb dL_pares_235 (by decide) ?_
      exact mb_ri (S := mb_S) (mc := 16) (ms := 96) (wf := fun u => wW Y o a aa ad u.1 u.2) C rfl (u := (u200.1, u200.2)) hF hP hD hS dL_pares_236 (by omega) (by omega)
    · have hF := hF.2 c_206
      refine lv_aload_n hx hb dL_pares_209 rfl (lv_at hl 1 rfl) ?_
      refine lv_iload_n hx hb dL_pares_210 rfl (lv_at hl 3 rfl) ?_
      refine lv_iload hx hb dL_pares_211 (lv_at hl 6 rfl) ?_
      refine lv_iconst (v := 1) hx hb dL_pares_213 (by decide) ?_
      refine lv_iadd hx hb dL_pares_214 ?_
      refine lv_iload hx hb dL_pares_215 (lv_at hl 6 rfl) ?_
      refine lv_iload hx hb dL_pares_217 (lv_at hl 5 rfl) ?_
      refine lv_iload hx hb dL_pares_219 (lv_at hl 7 rfl) ?_
      refine lv_iload hx hb dL_pares_221 (lv_at hl 8 rfl) ?_
      refine mb_cW (S := mb_S) hD hS hA (vx_runSW (As := [.ref o, .int x2, .int (x6 + (1 : Int32)), .int x6, .int x5, .int x7, .int x8]) (rest := []) ⟨hx, hb, hml, hown, hts⟩ (cw_pare l hl0 D Y N o a aa ad u200.1 u200.2 _ x2 (x6 + (1 : Int32)) x6 x5 x7 x8 _ hF) (vx_cwSW 7 hts gL_pares_L_pare rfl rfl rfl (by decide +kernel) ⟨Nat.le_of_ble_eq_true rfl, Nat.le_of_ble_eq_true rfl⟩) (mbm_pre CM hP hD hS) rfl rfl hl.1 rfl (lv_room (Nat.le_of_ble_eq_true rfl)) dL_pares_223 ⟨by show _ ≤ 16; omega, by show _ ≤ 96; omega⟩) (fun r223 u223 H locs hF hP hD hS => ?_)
      have hP : va_P D vwCl (wW Y o a aa ad u223.1 u223.2) H := hP
      have hD : va_D A (wW Y o a aa ad u223.1 u223.2) := hD
      refine lv_ldc (v := -1000001) hx hb hown (hts (.constant RL 18 (-1000001)) (List.mem_of_getElem? (i := 2) rfl)) dL_pares_226 ?_
      refine lv_icmp_ne (tgt := 235) hx hb dL_pares_228 (by decide) (fun c_228 => ?_) (fun c_228 => ?_)
      · have hF := hF.1 c_228
        refine lv_iconst (v := 0) hx hb dL_pares_235 (by decide) ?_
        exact mb_ri (S := mb_S) (mc := 16) (ms := 96) (wf := fun u => wW Y o a aa ad u.1 u.2) C rfl (u := (u223.1, u223.2)) hF hP hD hS dL_pares_236 (by omega) (by omega)
      · have hF := hF.2 c_228
        refine lv_iconst (v := 1) hx hb dL_pares_231 (by decide) ?_
        refine lv_goto (tgt := 236) hx hb dL_pares_232 (by decide) ?_
        exact mb_ri (S := mb_S) (mc := 16) (ms := 96) (wf := fun u => wW Y o a aa ad u.1 u.2) C rfl (u := (u223.1, u223.2)) hF hP hD hS dL_pares_236 (by omega) (by omega)
noncomputable def PL_pares_135 (N : Nat) (K : Int32 → mb_S → Prop) (F : mb_m) (b : mb_bs) (x2 x4 x5 x6 x7 x8 : Int32) : Prop := PL_pares_187 N K F b x2 x4 x5 x6 x7 x8 (0 : Int32)
set_option maxHeartbeats 4000000 in
set_option maxRecDepth 100000 in
theorem wL_pares_135 {p : Program} {l : Launch} {e : Env} {s : State} {m : MethodId} {below : List Frame} {meth : Method} {c : Code} {args : Array Value} {D : va_G} {Y : Nat → ClassId} {A : Nat → Prop} {o : Nat} {a aa ad : Nat → Nat} {N : Nat} {K : Int32 → mb_S → Prop} (CM : mb_CM l p s m meth c args cL_pares 13 (some .boolean) wsL_pares RL D Y A) : ∀ (F : mb_m) (b : mb_bs) (x2 x4 x5 x6 x7 x8 : Int32) (H : Heap) (locs : List Loc) (ls : Array Slot) (cells slots : Nat), PL_pares_135 N K  F b x2 x4 x5 x6 x7 x8 → va_P D vwCl (wW Y o a aa ad b F) H → va_D A (wW Y o a aa ad b F) → va_S A s.heap H locs → lv_has ls 13 [(0, .ref o), (1, .ref (ad 3)), (2, .int x2), (4, .int x4), (5, .int x5), (6, .int x6), (7, .int x7), (8, .int x8)] → cells + (6 + 0) ≤ 16 → slots + (36 + 0) ≤ 96 → W p l e ({ frames := 9, cells := 16, slots := 96, locals := 167 } : Room) s m args below meth c H locs cells slots (MQ below (va_Qi K (fun u t => mb_T D A (wW Y o a aa ad u.1 u.2) t) A) args s 16 96 A) (F0 m 135 ls []) := by
  obtain ⟨C, hX, hl0, hN⟩ := id CM
  obtain ⟨hx, hb, hr, hml, hts, hown, hlocks, hA, hG⟩ := id C
  have hK := hG.1
  intro F b x2 x4 x5 x6 x7 x8 H locs ls cells slots hF hP hD hS hl hc hs
  unfold PL_pares_135 at hF
  refine lv_iconst (v := 0) hx hb dL_pares_135 (by decide) ?_
  refine lv_goto (tgt := 187) hx hb dL_pares_136 (by decide) ?_
  exact wL_pares_187 CM F b x2 x4 x5 x6 x7 x8 (0 : Int32) _ _ _ _ _ hF hP hD hS (lv_sub hl [0, 1, 2, 3, 4, 5, 6, 7] rfl) (by omega) (by omega)
noncomputable def PL_pares_186 (N : Nat) (K : Int32 → mb_S → Prop) (F : mb_m) (b : mb_bs) (x2 x4 x5 x6 x7 x8 : Int32) : Prop := PL_pares_187 N K F b x2 x4 x5 x6 x7 x8 (0 : Int32)
set_option maxHeartbeats 4000000 in
set_option maxRecDepth 100000 in
theorem wL_pares_186 {p : Program} {l : Launch} {e : Env} {s : State} {m : MethodId} {below : List Frame} {meth : Method} {c : Code} {args : Array Value} {D : va_G} {Y : Nat → ClassId} {A : Nat → Prop} {o : Nat} {a aa ad : Nat → Nat} {N : Nat} {K : Int32 → mb_S → Prop} (CM : mb_CM l p s m meth c args cL_pares 13 (some .boolean) wsL_pares RL D Y A) : ∀ (F : mb_m) (b : mb_bs) (x2 x4 x5 x6 x7 x8 : Int32) (H : Heap) (locs : List Loc) (ls : Array Slot) (cells slots : Nat), PL_pares_186 N K  F b x2 x4 x5 x6 x7 x8 → va_P D vwCl (wW Y o a aa ad b F) H → va_D A (wW Y o a aa ad b F) → va_S A s.heap H locs → lv_has ls 13 [(0, .ref o), (1, .ref (ad 3)), (2, .int x2), (4, .int x4), (5, .int x5), (6, .int x6), (7, .int x7), (8, .int x8)] → cells + (6 + 0) ≤ 16 → slots + (36 + 0) ≤ 96 → W p l e ({ frames := 9, cells := 16, slots := 96, locals := 167 } : Room) s m args below meth c H locs cells slots (MQ below (va_Qi K (fun u t => mb_T D A (wW Y o a aa ad u.1 u.2) t) A) args s 16 96 A) (F0 m 186 ls []) := by
  obtain ⟨C, hX, hl0, hN⟩ := id CM
  obtain ⟨hx, hb, hr, hml, hts, hown, hlocks, hA, hG⟩ := id C
  have hK := hG.1
  intro F b x2 x4 x5 x6 x7 x8 H locs ls cells slots hF hP hD hS hl hc hs
  unfold PL_pares_186 at hF
  refine lv_iconst (v := 0) hx hb dL_pares_186 (by decide) ?_
  exact wL_pares_187 CM F b x2 x4 x5 x6 x7 x8 (0 : Int32) _ _ _ _ _ hF hP hD hS (lv_sub hl [0, 1, 2, 3, 4, 5, 6, 7] rfl) (by omega) (by omega)
noncomputable def PL_pares (N : Nat) (F : mb_m) (b : mb_bs) (x2 x3 : Int32) (K : Int32 → mb_S → Prop) : Prop := PL_low N x3 (8 : Int32) (fun r3 _ => PL_low N (x3 >>> ((3 : Int32) &&& 31)) (8 : Int32) (fun r13 _ => PL_low N (x3 >>> ((6 : Int32) &&& 31)) ((8 : Int32) - r3) (fun r29 _ => ∀ v33 : Int32, v33 = (r3 + r29) → (PL_low N (x3 >>> ((9 : Int32) &&& 31)) ((8 : Int32) - r13) (fun r46 _ => ∀ v50 : Int32, v50 = (r13 + r46) → (PL_low N (x3 >>> ((12 : Int32) &&& 31)) (8 : Int32) (fun r59 _ => ∀ v63 : Int32, v63 = ((1 : Int32) + r59) → (LP_thickAt N b F x2 v33 v50 (fun r71 u71 => LP_tooThick N u71.1 u71.2 x2 (fun r78 u78 => LP_pare N u78.1 u78.2 x2 r3 v33 r13 v50 v63 (fun r95 u95 => (¬ r95 = (-1000003 : Int32) → (r95 < (3 : Int32) → PL_pares_186 N K u95.2 u95.1 x2 r3 r13 v33 v50 v63) ∧ (¬ r95 < (3 : Int32) → ((r71 - v63) < r95 → PL_pares_186 N K u95.2 u95.1 x2 r3 r13 v33 v50 v63) ∧ (¬ (r71 - v63) < r95 → LP_thickAt N u95.1 u95.2 x2 v33 v50 (fun r161 u161 => (¬ r161 = (r71 - v63) → PL_pares_186 N K u161.2 u161.1 x2 r3 r13 v33 v50 v63) ∧ (r161 = (r71 - v63) → LP_tooThick N u161.1 u161.2 x2 (fun r174 u174 => (r78 < r174 → PL_pares_186 N K u174.2 u174.1 x2 r3 r13 v33 v50 v63) ∧ (¬ r78 < r174 → PL_pares_187 N K u174.2 u174.1 x2 r3 r13 v33 v50 v63 (1 : Int32)))))))) ∧ (r95 = (-1000003 : Int32) → LP_thickAt N u95.1 u95.2 x2 v33 v50 (fun r113 u113 => (¬ r113 = r71 → PL_pares_135 N K u113.2 u113.1 x2 r3 r13 v33 v50 v63) ∧ (r113 = r71 → LP_tooThick N u113.1 u113.2 x2 (fun r123 u123 => (¬ r123 = r78 → PL_pares_135 N K u123.2 u123.1 x2 r3 r13 v33 v50 v63) ∧ (r123 = r78 → PL_pares_187 N K u123.2 u123.1 x2 r3 r13 v33 v50 v63 (1 : Int32)))))))))))))))))
set_option maxHeartbeats 4000000 in
set_option maxRecDepth 100000 in
theorem cnL_pares (l : Launch) (hl0 : l.stackTraces = false) (D : va_G) (Y : Nat → ClassId) (N : Nat) (o : Nat) (a aa ad : Nat → Nat) (F : mb_m) (b : mb_bs) (sz : Nat) (x2 x3 : Int32) (K : Int32 → mb_S → Prop) (hF : PL_pares N F b x2 x3 K) : Met l yL_pares wsL_pares ({ frames := 9, cells := 16, slots := 96, locals := 167 } : Room) (va_Pc [.ref o, .ref (ad 3), .int x2, .int x3] (mb_BL D Y (wW Y o a aa ad b F) sz)) (va_Qi K (fun u t => mb_T D (va_A (wW Y o a aa ad b F) sz) (wW Y o a aa ad u.1 u.2) t) (va_A (wW Y o a aa ad b F) sz)) 16 96 (va_A (wW Y o a aa ad b F) sz) := by
  refine mbm_begin (cc := cL_pares) (maxL := 13) (ret := (some .boolean)) hl0 (by decide +kernel) rfl (Nat.le_of_ble_eq_true rfl) ?_
  intro p e s m below meth c ls CM hsz hP hD hl
  generalize hAe : va_A (wW Y o a aa ad b F) sz = A at CM hD ⊢
  have CM : mb_CM l p s m meth c ([.ref o, .ref (ad 3), .int x2, .int x3] : List Value).toArray cL_pares 13 (some .boolean) wsL_pares RL D Y A := CM
  obtain ⟨C, hX, hl0, hN⟩ := id CM
  obtain ⟨hx, hb, hr, hml, hts, hown, hlocks, hA, hG⟩ := id C
  have hK := hG.1
  have hS : va_S A s.heap s.heap [] := va_S.rf
  have hl : lv_has ls 13 [(0, .ref o), (1, .ref (ad 3)), (2, .int x2), (3, .int x3)] := hl
  unfold PL_pares at hF
  refine lv_iload_n hx hb dL_pares_0 rfl (lv_at hl 3 rfl) ?_
  refine lv_bipush (v := 8) hx hb dL_pares_1 (by decide) ?_
  refine mb_cE hP hS hA (va_runS (As := [.int x3, .int (8 : Int32)]) (rest := []) ⟨hx, hb, hml, hown, hts⟩ (cnL_low l D Y N _ x3 (8 : Int32) _ hF) (va_cwS 2 hts gL_pares_L_low rfl rfl rfl (by decide +kernel) ⟨Nat.le_of_ble_eq_true rfl, Nat.le_of_ble_eq_true rfl⟩) (mb_preS (A := A) hG mb_P0 mb_D0) rfl rfl hl.1 rfl (lv_room (Nat.le_of_ble_eq_true rfl)) dL_pares_3 ⟨by show _ ≤ 16; omega, by show _ ≤ 96; omega⟩) (fun r3 H locs hF hP hS => ?_)
  refine lv_istore (lv' := [(4, .int r3), (0, .ref o), (1, .ref (ad 3)), (2, .int x2), (3, .int x3)]) hx hb dL_pares_6 hl (by decide) rfl (fun ls hl => ?_)
  refine lv_iload_n hx hb dL_pares_8 rfl (lv_at hl 4 rfl) ?_
  refine lv_iconst (v := 3) hx hb dL_pares_9 (by decide) ?_
  refine lv_ishr hx hb dL_pares_10 ?_
  refine lv_bipush (v := 8) hx hb dL_pares_11 (by decide) ?_
  refine mb_cE hP hS hA (va_runS (As := [.int (x3 >>> ((3 : Int32) &&& 31)), .int (8 : Int32)]) (rest := []) ⟨hx, hb, hml, hown, hts⟩ (cnL_low l D Y N _ (x3 >>> ((3 : Int32) &&& 31)) (8 : Int32) _ hF) (va_cwS 2 hts gL_pares_L_low rfl rfl rfl (by decide +kernel) ⟨Nat.le_of_ble_eq_true rfl, Nat.le_of_ble_eq_true rfl⟩) (mb_preS (A := A) hG mb_P0 mb_D0) rfl rfl hl.1 rfl (lv_room (Nat.le_of_ble_eq_true rfl)) dL_pares_13 ⟨by show _ ≤ 16; omega, by show _ ≤ 96; omega⟩) (fun r13 H locs hF hP hS => ?_)
  refine lv_istore (lv' := [(5, .int r13), (4, .int r3), (0, .ref o), (1, .ref (ad 3)), (2, .int x2), (3, .int x3)]) hx hb dL_pares_16 hl (by decide) rfl (fun ls hl => ?_)
  refine lv_iload hx hb dL_pares_18 (lv_at hl 1 rfl) ?_
  refine lv_iload_n hx hb dL_pares_20 rfl (lv_at hl 5 rfl) ?_
  refine lv_bipush (v := 6) hx hb dL_pares_21 (by decide) ?_
  refine lv_ishr hx hb dL_pares_23 ?_
  refine lv_bipush (v := 8) hx hb dL_pares_24 (by decide) ?_
  refine lv_iload hx hb dL_pares_26 (lv_at hl 1 rfl) ?_
  refine lv_isub hx hb dL_pares_28 ?_
  refine mb_cE hP hS hA (va_runS (As := [.int (x3 >>> ((6 : Int32) &&& 31)), .int ((8 : Int32) - r3)]) (rest := [.int r3]) ⟨hx, hb, hml, hown, hts⟩ (cnL_low l D Y N _ (x3 >>> ((6 : Int32) &&& 31)) ((8 : Int32) - r3) _ hF) (va_cwS 2 hts gL_pares_L_low rfl rfl rfl (by decide +kernel) ⟨Nat.le_of_ble_eq_true rfl, Nat.le_of_ble_eq_true rfl⟩) (mb_preS (A := A) hG mb_P0 mb_D0) rfl rfl hl.1 rfl (lv_room (Nat.le_of_ble_eq_true rfl)) dL_pares_29 ⟨by show _ ≤ 16; omega, by show _ ≤ 96; omega⟩) (fun r29 H locs hF hP hS => ?_)
  refine lv_iadd hx hb dL_pares_32 ?_
  refine lv_topi (fun v33 ev33 => ?_)
  have hF := hF v33 ev33
  refine lv_istore (lv' := [(6, .int v33), (5, .int r13), (4, .int r3), (0, .ref o), (1, .ref (ad 3)), (2, .int x2), (3, .int x3)]) hx hb dL_pares_33 hl (by decide) rfl (fun ls hl => ?_)
  refine lv_iload hx hb dL_pares_35 (lv_at hl 1 rfl) ?_
  refine lv_iload_n hx hb dL_pares_37 rfl (lv_at hl 6 rfl) ?_
  refine lv_bipush (v := 9) hx hb dL_pares_38 (by decide) ?_
  refine lv_ishr hx hb dL_pares_40 ?_
  refine lv_bipush (v := 8) hx hb dL_pares_41 (by decide) ?_
  refine lv_iload hx hb dL_pares_43 (lv_at hl 1 rfl) ?_
  refine lv_isub hx hb dL_pares_45 ?_
  refine mb_cE hP hS hA (va_runS (As := [.int (x3 >>> ((9 : Int32) &&& 31)), .int ((8 : Int32) - r13)]) (rest := [.int r13]) ⟨hx, hb, hml, hown, hts⟩ (cnL_low l D Y N _ (x3 >>> ((9 : Int32) &&& 31)) ((8 : Int32) - r13) _ hF) (va_cwS 2 hts gL_pares_L_low rfl rfl rfl (by decide +kernel) ⟨Nat.le_of_ble_eq_true rfl, Nat.le_of_ble_eq_true rfl⟩) (mb_preS (A := A) hG mb_P0 mb_D0) rfl rfl hl.1 rfl (lv_room (Nat.le_of_ble_eq_true rfl)) dL_pares_46 ⟨by show _ ≤ 16; omega, by show _ ≤ 96; omega⟩) (fun r46 H locs hF hP hS => ?_)
  refine lv_iadd hx hb dL_pares_49 ?_
  refine lv_topi (fun v50 ev50 => ?_)
  have hF := hF v50 ev50
  refine lv_istore (lv' := [(7, .int v50), (6, .int v33), (5, .int r13), (4, .int r3), (0, .ref o), (1, .ref (ad 3)), (2, .int x2), (3, .int x3)]) hx hb dL_pares_50 hl (by decide) rfl (fun ls hl => ?_)
  refine lv_iconst (v := 1) hx hb dL_pares_52 (by decide) ?_
  refine lv_iload_n hx hb dL_pares_53 rfl (lv_at hl 7 rfl) ?_
  refine lv_bipush (v := 12) hx hb dL_pares_54 (by decide) ?_
  refine lv_ishr hx hb dL_pares_56 ?_
  refine lv_bipush (v := 8) hx hb dL_pares_57 (by decide) ?_
  refine mb_cE hP hS hA (va_runS (As := [.int (x3 >>> ((12 : Int32) &&& 31)), .int (8 : Int32)]) (rest := [.int (1 : Int32)]) ⟨hx, hb, hml, hown, hts⟩ (cnL_low l D Y N _ (x3 >>> ((12 : Int32) &&& 31)) (8 : Int32) _ hF) (va_cwS 2 hts gL_pares_L_low rfl rfl rfl (by decide +kernel) ⟨Nat.le_of_ble_eq_true rfl, Nat.le_of_ble_eq_true rfl⟩) (mb_preS (A := A) hG mb_P0 mb_D0) rfl rfl hl.1 rfl (lv_room (Nat.le_of_ble_eq_true rfl)) dL_pares_59 ⟨by show _ ≤ 16; omega, by show _ ≤ 96; omega⟩) (fun r59 H locs hF hP hS => ?_)
  refine lv_iadd hx hb dL_pares_62 ?_
  refine lv_topi (fun v63 ev63 => ?_)
  have hF := hF v63 ev63
  refine lv_istore (lv' := [(8, .int v63), (7, .int v50), (6, .int v33), (5, .int r13), (4, .int r3), (0, .ref o), (1, .ref (ad 3)), (2, .int x2), (3, .int x3)]) hx hb dL_pares_63 hl (by decide) rfl (fun ls hl => ?_)
  refine lv_aload_n hx hb dL_pares_65 rfl (lv_at hl 5 rfl) ?_
  refine lv_iload_n hx hb dL_pares_66 rfl (lv_at hl 7 rfl) ?_
  refine lv_iload hx hb dL_pares_67 (lv_at hl 2 rfl) ?_
  refine lv_iload hx hb dL_pares_69 (lv_at hl 1 rfl) ?_
  refine mb_cW (S := mb_S) hD hS hA (vx_runSW (As := [.ref o, .int x2, .int v33, .int v50]) (rest := []) ⟨hx, hb, hml, hown, hts⟩ (cw_thickAt l hl0 D Y N o a aa ad b F _ x2 v33 v50 _ hF) (vx_cwSW 4 hts gL_pares_L_thickAt rfl rfl rfl (by decide +kernel) ⟨Nat.le_of_ble_eq_true rfl, Nat.le_of_ble_eq_true rfl⟩) (mbm_pre CM hP hD hS) rfl rfl hl.1 rfl (lv_room (Nat.le_of_ble_eq_true rfl)) dL_pares_71 ⟨by show _ ≤ 16; omega, by show _ ≤ 96; omega⟩) (fun r71 u71 H locs hF hP hD hS => ?_)
  have hP : va_P D vwCl (wW Y o a aa ad u71.1 u71.2) H := hP
  have hD : va_D A (wW Y o a aa ad u71.1 u71.2) := hD
  refine lv_istore (lv' := [(9, .int r71), (8, .int v63), (7, .int v50), (6, .int v33), (5, .int r13), (4, .int r3), (0, .ref o), (1, .ref (ad 3)), (2, .int x2), (3, .int x3)]) hx hb dL_pares_74 hl (by decide) rfl (fun ls hl => ?_)
  refine lv_aload_n hx hb dL_pares_76 rfl (lv_at hl 6 rfl) ?_
  refine lv_iload_n hx hb dL_pares_77 rfl (lv_at hl 8 rfl) ?_
  refine mb_cW (S := mb_S) hD hS hA (vx_runSW (As := [.ref o, .int x2]) (rest := []) ⟨hx, hb, hml, hown, hts⟩ (cw_tooThick l hl0 D Y N o a aa ad u71.1 u71.2 _ x2 _ hF) (vx_cwSW 2 hts gL_pares_L_tooThick rfl rfl rfl (by decide +kernel) ⟨Nat.le_of_ble_eq_true rfl, Nat.le_of_ble_eq_true rfl⟩) (mbm_pre CM hP hD hS) rfl rfl hl.1 rfl (lv_room (Nat.le_of_ble_eq_true rfl)) dL_pares_78 ⟨by show _ ≤ 16; omega, by show _ ≤ 96; omega⟩) (fun r78 u78 H locs hF hP hD hS => ?_)
  have hP : va_P D vwCl (wW Y o a aa ad u78.1 u78.2) H := hP
  have hD : va_D A (wW Y o a aa ad u78.1 u78.2) := hD
  refine lv_istore (lv' := [(10, .int r78), (9, .int r71), (8, .int v63), (7, .int v50), (6, .int v33), (5, .int r13), (4, .int r3), (0, .ref o), (1, .ref (ad 3)), (2, .int x2), (3, .int x3)]) hx hb dL_pares_81 hl (by decide) rfl (fun ls hl => ?_)
  refine lv_aload_n hx hb dL_pares_83 rfl (lv_at hl 7 rfl) ?_
  refine lv_iload_n hx hb dL_pares_84 rfl (lv_at hl 9 rfl) ?_
  refine lv_iload hx hb dL_pares_85 (lv_at hl 6 rfl) ?_
  refine lv_iload hx hb dL_pares_87 (lv_at hl 4 rfl) ?_
  refine lv_iload hx hb dL_pares_89 (lv_at hl 5 rfl) ?_
  refine lv_iload hx hb dL_pares_91 (lv_at hl 3 rfl) ?_
  refine lv_iload hx hb dL_pares_93 (lv_at hl 2 rfl) ?_
  refine mb_cW (S := mb_S) hD hS hA (vx_runSW (As := [.ref o, .int x2, .int r3, .int v33, .int r13, .int v50, .int v63]) (rest := []) ⟨hx, hb, hml, hown, hts⟩ (cw_pare l hl0 D Y N o a aa ad u78.1 u78.2 _ x2 r3 v33 r13 v50 v63 _ hF) (vx_cwSW 7 hts gL_pares_L_pare rfl rfl rfl (by decide +kernel) ⟨Nat.le_of_ble_eq_true rfl, Nat.le_of_ble_eq_true rfl⟩) (mbm_pre CM hP hD hS) rfl rfl hl.1 rfl (lv_room (Nat.le_of_ble_eq_true rfl)) dL_pares_95 ⟨by show _ ≤ 16; omega, by show _ ≤ 96; omega⟩) (fun r95 u95 H locs hF hP hD hS => ?_)
  have hP : va_P D vwCl (wW Y o a aa ad u95.1 u95.2) H := hP
  have hD : va_D A (wW Y o a aa ad u95.1 u95.2) := hD
  refine lv_istore (lv' := [(11, .int r95), (10, .int r78), (9, .int r71), (8, .int v63), (7, .int v50), (6, .int v33), (5, .int r13), (4, .int r3), (0, .ref o), (1, .ref (ad 3)), (2, .int x2), (3, .int x3)]) hx hb dL_pares_98 hl (by decide) rfl (fun ls hl => ?_)
  refine lv_iload hx hb dL_pares_100 (lv_at hl 0 rfl) ?_
  refine lv_ldc (v := -1000003) hx hb hown (hts (.constant RL 32 (-1000003)) (List.mem_of_getElem? (i := 1) rfl)) dL_pares_102 ?_
  refine lv_icmp_ne (tgt := 139) hx hb dL_pares_104 (by decide) (fun c_104 => ?_) (fun c_104 => ?_)
  · have hF := hF.1 c_104
    refine lv_iload hx hb dL_pares_139 (lv_at hl 0 rfl) ?_
    refine lv_iconst (v := 3) hx hb dL_pares_141 (by decide) ?_
    refine lv_icmp_lt (tgt := 186) hx hb dL_pares_142 (by decide) (fun c_142 => ?_) (fun c_142 => ?_)
    · have hF := hF.1 c_142
      exact wL_pares_186 CM u95.2 u95.1 x2 r3 r13 v33 v50 v63 _ _ _ _ _ hF hP hD hS (lv_sub hl [8, 9, 10, 7, 6, 5, 4, 3] rfl) (by omega) (by omega)
    · have hF := hF.2 c_142
      refine lv_iload hx hb dL_pares_145 (lv_at hl 0 rfl) ?_
      refine lv_iload hx hb dL_pares_147 (lv_at hl 2 rfl) ?_
      refine lv_iload hx hb dL_pares_149 (lv_at hl 3 rfl) ?_
      refine lv_isub hx hb dL_pares_151 ?_
      refine lv_icmp_gt (tgt := 186) hx hb dL_pares_152 (by decide) (fun c_152 => ?_) (fun c_152 => ?_)
      · have hF := hF.1 c_152
        exact wL_pares_186 CM u95.2 u95.1 x2 r3 r13 v33 v50 v63 _ _ _ _ _ hF hP hD hS (lv_sub hl [8, 9, 10, 7, 6, 5, 4, 3] rfl) (by omega) (by omega)
      · have hF := hF.2 c_152
        refine lv_aload_n hx hb dL_pares_155 rfl (lv_at hl 8 rfl) ?_
        refine lv_iload_n hx hb dL_pares_156 rfl (lv_at hl 10 rfl) ?_
        refine lv_iload hx hb dL_pares_157 (lv_at hl 5 rfl) ?_
        refine lv_iload hx hb dL_pares_159 (lv_at hl 4 rfl) ?_
        refine mb_cW (S := mb_S) hD hS hA (vx_runSW (As := [.ref o, .int x2, .int v33, .int v50]) (rest := []) ⟨hx, hb, hml, hown, hts⟩ (cw_thickAt l hl0 D Y N o a aa ad u95.1 u95.2 _ x2 v33 v50 _ hF) (vx_cwSW 4 hts gL_pares_L_thickAt rfl rfl rfl (by decide +kernel) ⟨Nat.le_of_ble_eq_true rfl, Nat.le_of_ble_eq_true rfl⟩) (mbm_pre CM hP hD hS) rfl rfl hl.1 rfl (lv_room (Nat.le_of_ble_eq_true rfl)) dL_pares_161 ⟨by show _ ≤ 16; omega, by show _ ≤ 96; omega⟩) (fun r161 u161 H locs hF hP hD hS => ?_)
        have hP : va_P D vwCl (wW Y o a aa ad u161.1 u161.2) H := hP
        have hD : va_D A (wW Y o a aa ad u161.1 u161.2) := hD
        refine lv_iload hx hb dL_pares_164 (lv_at hl 2 rfl) ?_
        refine lv_iload hx hb dL_pares_166 (lv_at hl 3 rfl) ?_
        refine lv_isub hx hb dL_pares_168 ?_
        refine lv_icmp_ne (tgt := 186) hx hb dL_pares_169 (by decide) (fun c_169 => ?_) (fun c_169 => ?_)
        · have hF := hF.1 c_169
          exact wL_pares_186 CM u161.2 u161.1 x2 r3 r13 v33 v50 v63 _ _ _ _ _ hF hP hD hS (lv_sub hl [8, 9, 10, 7, 6, 5, 4, 3] rfl) (by omega) (by omega)
        · have hF := hF.2 c_169
          refine lv_aload_n hx hb dL_pares_172 rfl (lv_at hl 8 rfl) ?_
          refine lv_iload_n hx hb dL_pares_173 rfl (lv_at hl 10 rfl) ?_
          refine mb_cW (S := mb_S) hD hS hA (vx_runSW (As := [.ref o, .int x2]) (rest := []) ⟨hx, hb, hml, hown, hts⟩ (cw_tooThick l hl0 D Y N o a aa ad u161.1 u161.2 _ x2 _ hF) (vx_cwSW 2 hts gL_pares_L_tooThick rfl rfl rfl (by decide +kernel) ⟨Nat.le_of_ble_eq_true rfl, Nat.le_of_ble_eq_true rfl⟩) (mbm_pre CM hP hD hS) rfl rfl hl.1 rfl (lv_room (Nat.le_of_ble_eq_true rfl)) dL_pares_174 ⟨by show _ ≤ 16; omega, by show _ ≤ 96; omega⟩) (fun r174 u174 H locs hF hP hD hS => ?_)
          have hP : va_P D vwCl (wW Y o a aa ad u174.1 u174.2) H := hP
          have hD : va_D A (wW Y o a aa ad u174.1 u174.2) := hD
          refine lv_iload hx hb dL_pares_177 (lv_at hl 1 rfl) ?_
          refine lv_icmp_gt (tgt := 186) hx hb dL_pares_179 (by decide) (fun c_179 => ?_) (fun c_179 => ?_)
          · have hF := hF.1 c_179
            exact wL_pares_186 CM u174.2 u174.1 x2 r3 r13 v33 v50 v63 _ _ _ _ _ hF hP hD hS (lv_sub hl [8, 9, 10, 7, 6, 5, 4, 3] rfl) (by omega) (by omega)
          · have hF := hF.2 c_179
            refine lv_iconst (v := 1) hx hb dL_pares_182 (by decide) ?_
            refine lv_goto (tgt := 187) hx hb dL_pares_183 (by decide) ?_
            exact wL_pares_187 CM u174.2 u174.1 x2 r3 r13 v33 v50 v63 (1 : Int32) _ _ _ _ _ hF hP hD hS (lv_sub hl [8, 9, 10, 7, 6, 5, 4, 3] rfl) (by omega) (by omega)
  · have hF := hF.2 c_104
    refine lv_aload_n hx hb dL_pares_107 rfl (lv_at hl 8 rfl) ?_
    refine lv_iload_n hx hb dL_pares_108 rfl (lv_at hl 10 rfl) ?_
    refine lv_iload hx hb dL_pares_109 (lv_at hl 5 rfl) ?_
    refine lv_iload hx hb dL_pares_111 (lv_at hl 4 rfl) ?_
    refine mb_cW (S := mb_S) hD hS hA (vx_runSW (As := [.ref o, .int x2, .int v33, .int v50]) (rest := []) ⟨hx, hb, hml, hown, hts⟩ (cw_thickAt l hl0 D Y N o a aa ad u95.1 u95.2 _ x2 v33 v50 _ hF) (vx_cwSW 4 hts gL_pares_L_thickAt rfl rfl rfl (by decide +kernel) ⟨Nat.le_of_ble_eq_true rfl, Nat.le_of_ble_eq_true rfl⟩) (mbm_pre CM hP hD hS) rfl rfl hl.1 rfl (lv_room (Nat.le_of_ble_eq_true rfl)) dL_pares_113 ⟨by show _ ≤ 16; omega, by show _ ≤ 96; omega⟩) (fun r113 u113 H locs hF hP hD hS => ?_)
    have hP : va_P D vwCl (wW Y o a aa ad u113.1 u113.2) H := hP
    have hD : va_D A (wW Y o a aa ad u113.1 u113.2) := hD
    refine lv_iload hx hb dL_pares_116 (lv_at hl 2 rfl) ?_
    refine lv_icmp_ne (tgt := 135) hx hb dL_pares_118 (by decide) (fun c_118 => ?_) (fun c_118 => ?_)
    · have hF := hF.1 c_118
      exact wL_pares_135 CM u113.2 u113.1 x2 r3 r13 v33 v50 v63 _ _ _ _ _ hF hP hD hS (lv_sub hl [8, 9, 10, 7, 6, 5, 4, 3] rfl) (by omega) (by omega)
    · have hF := hF.2 c_118
      refine lv_aload_n hx hb dL_pares_121 rfl (lv_at hl 8 rfl) ?_
      refine lv_iload_n hx hb dL_pares_122 rfl (lv_at hl 10 rfl) ?_
      refine mb_cW (S := mb_S) hD hS hA (vx_runSW (As := [.ref o, .int x2]) (rest := []) ⟨hx, hb, hml, hown, hts⟩ (cw_tooThick l hl0 D Y N o a aa ad u113.1 u113.2 _ x2 _ hF) (vx_cwSW 2 hts gL_pares_L_tooThick rfl rfl rfl (by decide +kernel) ⟨Nat.le_of_ble_eq_true rfl, Nat.le_of_ble_eq_true rfl⟩) (mbm_pre CM hP hD hS) rfl rfl hl.1 rfl (lv_room (Nat.le_of_ble_eq_true rfl)) dL_pares_123 ⟨by show _ ≤ 16; omega, by show _ ≤ 96; omega⟩) (fun r123 u123 H locs hF hP hD hS => ?_)
      have hP : va_P D vwCl (wW Y o a aa ad u123.1 u123.2) H := hP
      have hD : va_D A (wW Y o a aa ad u123.1 u123.2) := hD
      refine lv_iload hx hb dL_pares_126 (lv_at hl 1 rfl) ?_
      refine lv_icmp_ne (tgt := 135) hx hb dL_pares_128 (by decide) (fun c_128 => ?_) (fun c_128 => ?_)
      · have hF := hF.1 c_128
        exact wL_pares_135 CM u123.2 u123.1 x2 r3 r13 v33 v50 v63 _ _ _ _ _ hF hP hD hS (lv_sub hl [8, 9, 10, 7, 6, 5, 4, 3] rfl) (by omega) (by omega)
      · have hF := hF.2 c_128
        refine lv_iconst (v := 1) hx hb dL_pares_131 (by decide) ?_
        refine lv_goto (tgt := 187) hx hb dL_pares_132 (by decide) ?_
        exact wL_pares_187 CM u123.2 u123.1 x2 r3 r13 v33 v50 v63 (1 : Int32) _ _ _ _ _ hF hP hD hS (lv_sub hl [8, 9, 10, 7, 6, 5, 4, 3] rfl) (by omega) (by omega)
end
section
noncomputable def PL_begins_107 (N : Nat) (K : Int32 → mb_S → Prop) (F : mb_m) (b : mb_bs) (y0 y1 : Int32) : Prop := (¬ y1 = y0 → K (0 : Int32) (b, F)) ∧ (y1 = y0 → K (1 : Int32) (b, F))
set_option maxHeartbeats 4000000 in
set_option maxRecDepth 100000 in
theorem wL_begins_107 {p : Program} {l : Launch} {e : Env} {s : State} {m : MethodId} {below : List Frame} {meth : Method} {c : Code} {args : Array Value} {D : va_G} {Y : Nat → ClassId} {A : Nat → Prop} {o : Nat} {a aa ad : Nat → Nat} {N : Nat} {K : Int32 → mb_S → Prop} (CM : mb_CM l p s m meth c args cL_begins 13 (some .boolean) wsL_begins RL D Y A) : ∀ (F : mb_m) (b : mb_bs) (y0 y1 : Int32) (H : Heap) (locs : List Loc) (ls : Array Slot) (cells slots : Nat), PL_begins_107 N K  F b y0 y1 → va_P D vwCl (wW Y o a aa ad b F) H → va_D A (wW Y o a aa ad b F) → va_S A s.heap H locs → lv_has ls 13 [] → cells + (0 + 0) ≤ 1231 → slots + (0 + 0) ≤ 7671 → W p l e ({ frames := 10, cells := 1231, slots := 7671, locals := 192 } : Room) s m args below meth c H locs cells slots (MQ below (va_Qi K (fun u t => mb_T D A (wW Y o a aa ad u.1 u.2) t) A) args s 1231 7671 A) (F0 m 107 ls [.int y0, .int y1]) := by
  obtain ⟨C, hX, hl0, hN⟩ := id CM
  obtain ⟨hx, hb, hr, hml, hts, hown, hlocks, hA, hG⟩ := id C
  have hK := hG.1
  intro F b y0 y1 H locs ls cells slots hF hP hD hS hl hc hs
  unfold PL_begins_107 at hF
  refine lv_icmp_ne (tgt := 114) hx hb dL_begins_107 (by decide) (fun c_107 => ?_) (fun c_107 => ?_)
  · have hF := hF.1 c_107
    refine lv_iconst (v := 0) hx hb dL_begins_114 (by decide) ?_
    exact mb_ri (S := mb_S) (mc := 1231) (ms := 7671) (wf := fun u => wW Y o a aa ad u.1 u.2) C rfl (u := (b, F)) hF hP hD hS dL_begins_115 (by omega) (by omega)
  · have hF := hF.2 c_107
    refine lv_iconst (v := 1) hx hb dL_begins_110 (by decide) ?_
    refine lv_goto (tgt := 115) hx hb dL_begins_111 (by decide) ?_
    exact mb_ri (S := mb_S) (mc := 1231) (ms := 7671) (wf := fun u => wW Y o a aa ad u.1 u.2) C rfl (u := (b, F)) hF hP hD hS dL_begins_115 (by omega) (by omega)
noncomputable def PL_begins_217 (N : Nat) (K : Int32 → mb_S → Prop) (F : mb_m) (b : mb_bs) (x6 x7 x8 x9 x10 x11 y0 y1 y2 y3 y4 : Int32) : Prop := LP_book N b F y4 y3 y2 y1 y0 (fun r217 u217 => vp_in (1 : Int32) 3 ∧ ((¬ (u217.2 0 (1 : Int32).toNatClampNeg) = (4 : Int32) → vp_in x6 24 ∧ (∀ M247 : mb_m, M247 = mb_u u217.2 1 (upd (u217.2 1) x6.toNatClampNeg x7) → (vp_in (x6 + (1 : Int32)) 24 ∧ (∀ M255 : mb_m, M255 = mb_u M247 1 (upd (M247 1) (x6 + (1 : Int32)).toNatClampNeg x8) → (vp_in (x6 + (2 : Int32)) 24 ∧ (∀ M263 : mb_m, M263 = mb_u M255 1 (upd (M255 1) (x6 + (2 : Int32)).toNatClampNeg x9) → (vp_in (x6 + (3 : Int32)) 24 ∧ (∀ M271 : mb_m, M271 = mb_u M263 1 (upd (M263 1) (x6 + (3 : Int32)).toNatClampNeg x10) → (vp_in (x6 + (4 : Int32)) 24 ∧ (∀ M279 : mb_m, M279 = mb_u M271 1 (upd (M271 1) (x6 + (4 : Int32)).toNatClampNeg x11) → (vp_in (1 : Int32) 3 ∧ (∀ v286 : Int32, v286 = ((M279 0 (1 : Int32).toNatClampNeg) + (1 : Int32)) → (vp_in (1 : Int32) 3 ∧ (∀ M286 : mb_m, M286 = mb_u M279 0 (upd (M279 0) (1 : Int32).toNatClampNeg v286) → (vp_in (1 : Int32) 3 ∧ ((¬ r217 = ((M286 0 (1 : Int32).toNatClampNeg) - (1 : Int32)) → K (0 : Int32) (u217.1, M286)) ∧ (r217 = ((M286 0 (1 : Int32).toNatClampNeg) - (1 : Int32)) → LP_year N u217.1 M286 r217 (1 : Int32) (fun r301 u301 => (¬ r301 = (-1 : Int32) → K (0 : Int32) (u301.1, u301.2)) ∧ (r301 = (-1 : Int32) → PL_isBook N u301.2 u301.1 r217 (fun r312 u312 => (r312 = 0 → K (0 : Int32) (u312.1, u312.2)) ∧ (¬ r312 = 0 → K (1 : Int32) (u312.1, u312.2)))))))))))))))))))))) ∧ ((u217.2 0 (1 : Int32).toNatClampNeg) = (4 : Int32) → (¬ r217 = (-1000003 : Int32) → K (0 : Int32) (u217.1, u217.2)) ∧ (r217 = (-1000003 : Int32) → K (1 : Int32) (u217.1, u217.2)))))
set_option maxHeartbeats 4000000 in
set_option maxRecDepth 100000 in
theorem wL_begins_217 {p : Program} {l : Launch} {e : Env} {s : State} {m : MethodId} {below : List Frame} {meth : Method} {c : Code} {args : Array Value} {D : va_G} {Y : Nat → ClassId} {A : Nat → Prop} {o : Nat} {a aa ad : Nat → Nat} {N : Nat} {K : Int32 → mb_S → Prop} (CM : mb_CM l p s m meth c args cL_begins 13 (some .boolean) wsL_begins RL D Y A) : ∀ (F : mb_m) (b : mb_bs) (x6 x7 x8 x9 x10 x11 y0 y1 y2 y3 y4 : Int32) (H : Heap) (locs : List Loc) (ls : Array Slot) (cells slots : Nat), PL_begins_217 N K  F b x6 x7 x8 x9 x10 x11 y0 y1 y2 y3 y4 → va_P D vwCl (wW Y o a aa ad b F) H → va_D A (wW Y o a aa ad b F) → va_S A s.heap H locs → lv_has ls 13 [(0, .ref o), (1, .ref (ad 0)), (2, .ref (ad 1)), (6, .int x6), (7, .int x7), (8, .int x8), (9, .int x9), (10, .int x10), (11, .int x11)] → cells + (1231 + 0) ≤ 1231 → slots + (7671 + 0) ≤ 7671 → W p l e ({ frames := 10, cells := 1231, slots := 7671, locals := 192 } : Room) s m args below meth c H locs cells slots (MQ below (va_Qi K (fun u t => mb_T D A (wW Y o a aa ad u.1 u.2) t) A) args s 1231 7671 A) (F0 m 217 ls [.int y0, .int y1, .int y2, .int y3, .int y4, .ref o]) := by
  obtain ⟨C, hX, hl0, hN⟩ := id CM
  obtain ⟨hx, hb, hr, hml, hts, hown, hlocks, hA, hG⟩ := id C
  have hK := hG.1
  intro F b x6 x7 x8 x9 x10 x11 y0 y1 y2 y3 y4 H locs ls cells slots hF hP hD hS hl hc hs
  unfold PL_begins_217 at hF
  refine mb_cW (S := mb_S) hD hS hA (vx_runSW (As := [.ref o, .int y4, .int y3, .int y2, .int y1, .int y0]) (rest := []) ⟨hx, hb, hml, hown, hts⟩ (cw_book l hl0 D Y N o a aa ad b F _ y4 y3 y2 y1 y0 _ hF) (vx_cwSW 6 hts gL_begins_L_book rfl rfl rfl (by decide +kernel) ⟨Nat.le_of_ble_eq_true rfl, Nat.le_of_ble_eq_true rfl⟩) (mbm_pre CM hP hD hS) rfl rfl hl.1 rfl (lv_room (Nat.le_of_ble_eq_true rfl)) dL_begins_217 ⟨by show _ ≤ 1231; omega, by show _ ≤ 7671; omega⟩) (fun r217 u217 H locs hF hP hD hS => ?_)
  have hP : va_P D vwCl (wW Y o a aa ad u217.1 u217.2) H := hP
  have hD : va_D A (wW Y o a aa ad u217.1 u217.2) := hD
  refine lv_istore (lv' := [(12, .int r217), (0, .ref o), (1, .ref (ad 0)), (2, .ref (ad 1)), (6, .int x6), (7, .int x7), (8, .int x8), (9, .int x9), (10, .int x10), (11, .int x11)]) hx hb dL_begins_220 hl (by decide) rfl (fun ls hl => ?_)
  refine lv_aload_n hx hb dL_begins_222 rfl (lv_at hl 2 rfl) ?_
  refine lv_iconst (v := 1) hx hb dL_begins_223 (by decide) ?_
  obtain ⟨hi224, hF⟩ := hF
  refine va_iald hx hb hK hP 0 0 rfl rfl hi224 dL_begins_224 ?_
  refine lv_iconst (v := 4) hx hb dL_begins_225 (by decide) ?_
  refine lv_icmp_ne (tgt := 242) hx hb dL_begins_226 (by decide) (fun c_226 => ?_) (fun c_226 => ?_)
  · have hF := hF.1 c_226
    refine lv_aload_n hx hb dL_begins_242 rfl (lv_at hl 3 rfl) ?_
    refine lv_iload hx hb dL_begins_243 (lv_at hl 4 rfl) ?_
    refine lv_iload hx hb dL_begins_245 (lv_at hl 5 rfl) ?_
    obtain ⟨hi247, hF⟩ := hF
    refine va_iast hx hb hK hP hD hS 1 0 rfl rfl hi247 dL_begins_247 (fun H locs hP hD hS => ?_)
    obtain ⟨M247, eM247⟩ : ∃ y : mb_m, y = mb_u u217.2 1 (upd (u217.2 1) x6.toNatClampNeg x7) := ⟨_, rfl⟩
    have hF := hF M247 eM247
    have hP : va_P D vwCl (wW Y o a aa ad u217.1 (mb_u u217.2 1 (upd (u217.2 1) x6.toNatClampNeg x7))) H := hP
    have hD : va_D A (wW Y o a aa ad u217.1 (mb_u u217.2 1 (upd (u217.2 1) x6.toNatClampNeg x7))) := hD
    rw [← eM247] at hP hD
    refine lv_aload_n hx hb dL_begins_248 rfl (lv_at hl 3 rfl) ?_
    refine lv_iload hx hb dL_begins_249 (lv_at hl 4 rfl) ?_
    refine lv_iconst (v := 1) hx hb dL_begins_251 (by decide) ?_
    refine lv_iadd hx hb dL_begins_252 ?_
    refine lv_iload hx hb dL_begins_253 (lv_at hl 6 rfl) ?_
    obtain ⟨hi255, hF⟩ := hF
    refine va_iast hx hb hK hP hD hS 1 0 rfl rfl hi255 dL_begins_255 (fun H locs hP hD hS => ?_)
    obtain ⟨M255, eM255⟩ : ∃ y : mb_m, y = mb_u M247 1 (upd (M247 1) (x6 + (1 : Int32)).toNatClampNeg x8) := ⟨_, rfl⟩
    have hF := hF M255 eM255
    have hP : va_P D vwCl (wW Y o a aa ad u217.1 (mb_u M247 1 (upd (M247 1) (x6 + (1 : Int32)).toNatClampNeg x8))) H := hP
    have hD : va_D A (wW Y o a aa ad u217.1 (mb_u M247 1 (upd (M247 1) (x6 + (1 : Int32)).toNatClampNeg x8))) := hD
    rw [← eM255] at hP hD
    refine lv_aload_n hx hb dL_begins_256 rfl (lv_at hl 3 rfl) ?_
    refine lv_iload hx hb dL_begins_257 (lv_at hl 4 rfl) ?_
    refine lv_iconst (v := 2) hx hb dL_begins_259 (by decide) ?_
    refine lv_iadd hx hb dL_begins_260 ?_
    refine lv_iload hx hb dL_begins_261 (lv_at hl 7 rfl) ?_
    obtain ⟨hi263, hF⟩ := hF
    refine va_iast hx hb hK hP hD hS 1 0 rfl rfl hi263 dL_begins_263 (fun H locs hP hD hS => ?_)
    obtain ⟨M263, eM263⟩ : ∃ y : mb_m, y = mb_u M255 1 (upd (M255 1) (x6 + (2 : Int32)).toNatClampNeg x9) := ⟨_, rfl⟩
    have hF := hF M263 eM263
    have hP : va_P D vwCl (wW Y o a aa ad u217.1 (mb_u M255 1 (upd (M255 1) (x6 + (2 : Int32)).toNatClampNeg x9))) H := hP
    have hD : va_D A (wW Y o a aa ad u217.1 (mb_u M255 1 (upd (M255 1) (x6 + (2 : Int32)).toNatClampNeg x9))) := hD
    rw [← eM263] at hP hD
    refine lv_aload_n hx hb dL_begins_264 rfl (lv_at hl 3 rfl) ?_
    refine lv_iload hx hb dL_begins_265 (lv_at hl 4 rfl) ?_
    refine lv_iconst (v := 3) hx hb dL_begins_267 (by decide) ?_
    refine lv_iadd hx hb dL_begins_268 ?_
    refine lv_iload hx hb dL_begins_269 (lv_at hl 8 rfl) ?_
    obtain ⟨hi271, hF⟩ := hF
    refine va_iast hx hb hK hP hD hS 1 0 rfl rfl hi271 dL_begins_271 (fun H locs hP hD hS => ?_)
    obtain ⟨M271, eM271⟩ : ∃ y : mb_m, y = mb_u M263 1 (upd (M263 1) (x6 + (3 : Int32)).toNatClampNeg x10) := ⟨_, rfl⟩
    have hF := hF M271 eM271
    have hP : va_P D vwCl (wW Y o a aa ad u217.1 (mb_u M263 1 (upd (M263 1) (x6 + (3 : Int32)).toNatClampNeg x10))) H := hP
    have hD : va_D A (wW Y o a aa ad u217.1 (mb_u M263 1 (upd (M263 1) (x6 + (3 : Int32)).toNatClampNeg x10))) := hD
    rw [← eM271] at hP hD
    refine lv_aload_n hx hb dL_begins_272 rfl (lv_at hl 3 rfl) ?_
    refine lv_iload hx hb dL_begins_273 (lv_at hl 4 rfl) ?_
    refine lv_iconst (v := 4) hx hb dL_begins_275 (by decide) ?_
    refine lv_iadd hx hb dL_begins_276 ?_
    refine lv_iload hx hb dL_begins_277 (lv_at hl 9 rfl) ?_
    obtain ⟨hi279, hF⟩ := hF
    refine va_iast hx hb hK hP hD hS 1 0 rfl rfl hi279 dL_begins_279 (fun H locs hP hD hS => ?_)
    obtain ⟨M279, eM279⟩ : ∃ y : mb_m, y = mb_u M271 1 (upd (M271 1) (x6 + (4 : Int32)).toNatClampNeg x11) := ⟨_, rfl⟩
    have hF := hF M279 eM279
    have hP : va_P D vwCl (wW Y o a aa ad u217.1 (mb_u M271 1 (upd (M271 1) (x6 + (4 : Int32)).toNatClampNeg x11))) H := hP
    have hD : va_D A (wW Y o a aa ad u217.1 (mb_u M271 1 (upd (M271 1) (x6 + (4 : Int32)).toNatClampNeg x11))) := hD
    rw [← eM279] at hP hD
    refine lv_aload_n hx hb dL_begins_280 rfl (lv_at hl 2 rfl) ?_
    refine lv_iconst (v := 1) hx hb dL_begins_281 (by decide) ?_
    refine lv_dup2_11 hx hb dL_begins_282 rfl rfl ?_
    obtain ⟨hi283, hF⟩ := hF
    refine va_iald hx hb hK hP 0 0 rfl rfl hi283 dL_begins_283 ?_
    refine lv_iconst (v := 1) hx hb dL_begins_284 (by decide) ?_
    refine lv_iadd hx hb dL_begins_285 ?_
    refine lv_topi (fun v286 ev286 => ?_)
    have hF := hF v286 ev286
    obtain ⟨hi286, hF⟩ := hF
    refine va_iast hx hb hK hP hD hS 0 0 rfl rfl hi286 dL_begins_286 (fun H locs hP hD hS => ?_)
    obtain ⟨M286, eM286⟩ : ∃ y : mb_m, y = mb_u M279 0 (upd (M279 0) (1 : Int32).toNatClampNeg v286) := ⟨_, rfl⟩
    have hF := hF M286 eM286
    have hP : va_P D vwCl (wW Y o a aa ad u217.1 (mb_u M279 0 (upd (M279 0) (1 : Int32).toNatClampNeg v286))) H := hP
    have hD : va_D A (wW Y o a aa ad u217.1 (mb_u M279 0 (upd (M279 0) (1 : Int32).toNatClampNeg v286))) := hD
    rw [← eM286] at hP hD
    refine lv_iload hx hb dL_begins_287 (lv_at hl 0 rfl) ?_
    refine lv_aload_n hx hb dL_begins_289 rfl (lv_at hl 2 rfl) ?_
    refine lv_iconst (v := 1) hx hb dL_begins_290 (by decide) ?_
    obtain ⟨hi291, hF⟩ := hF
    refine va_iald hx hb hK hP 0 0 rfl rfl hi291 dL_begins_291 ?_
    refine lv_iconst (v := 1) hx hb dL_begins_292 (by decide) ?_
    refine lv_isub hx hb dL_begins_293 ?_
    refine lv_icmp_ne (tgt := 322) hx hb dL_begins_294 (by decide) (fun c_294 => ?_) (fun c_294 => ?_)
    · have hF := hF.1 c_294
      refine lv_iconst (v := 0) hx hb dL_begins_322 (by decide) ?_
      exact mb_ri (S := mb_S) (mc := 1231) (ms := 7671) (wf := fun u => wW Y o a aa ad u.1 u.2) C rfl (u := (u217.1, M286)) hF hP hD hS dL_begins_323 (by omega) (by omega)
    · have hF := hF.2 c_294
      refine lv_aload_n hx hb dL_begins_297 rfl (lv_at hl 1 rfl) ?_
      refine lv_iload hx hb dL_begins_298 (lv_at hl 0 rfl) ?_
      refine lv_iconst (v := 1) hx hb dL_begins_300 (by decide) ?_
      refine mb_cW (S := mb_S) hD hS hA (vx_runSW (As := [.ref o, .int r217, .int (1 : Int32)]) (rest := []) ⟨hx, hb, hml, hown, hts⟩ (cw_year l hl0 D Y N o a aa ad u217.1 M286 _ r217 (1 : Int32) _ hF) (vx_cwSW 3 hts gL_begins_L_year rfl rfl rfl (by decide +kernel) ⟨Nat.le_of_ble_eq_true rfl, Nat.le_of_ble_eq_true rfl⟩) (mbm_pre CM hP hD hS) rfl rfl hl.1 rfl (lv_room (Nat.le_of_ble_eq_true rfl)) dL_begins_301 ⟨by show _ ≤ 1231; omega, by show _ ≤ 7671; omega⟩) (fun r301 u301 H locs hF hP hD hS => ?_)
      have hP : va_P D vwCl (wW Y o a aa ad u301.1 u301.2) H := hP
      have hD : va_D A (wW Y o a aa ad u301.1 u301.2) := hD
      refine lv_iconst (v := -1) hx hb dL_begins_304 (by decide) ?_
      refine lv_icmp_ne (tgt := 322) hx hb dL_begins_305 (by decide) (fun c_305 => ?_) (fun c_305 => ?_)
      · have hF := hF.1 c_305
        refine lv_iconst (v := 0) hx hb dL_begins_322 (by decide) ?_
        exact mb_ri (S := mb_S) (mc := 1231) (ms := 7671) (wf := fun u => wW Y o a aa ad u.1 u.2) C rfl (u := (u301.1, u301.2)) hF hP hD hS dL_begins_323 (by omega) (by omega)
      · have hF := hF.2 c_305
        refine lv_aload_n hx hb dL_begins_308 rfl (lv_at hl 1 rfl) ?_
        refine lv_aload_n hx hb dL_begins_309 rfl (lv_at hl 3 rfl) ?_
        refine lv_iload hx hb dL_begins_310 (lv_at hl 0 rfl) ?_
        refine mb_cW (S := mb_S) hD hS hA (va_runS (As := [.ref o, .ref (ad 1), .int r217]) (rest := []) ⟨hx, hb, hml, hown, hts⟩ (cnL_isBook l hl0 D Y N o a aa ad u301.2 u301.1 _ r217 _ hF) (va_cwS 3 hts gL_begins_L_isBook rfl rfl rfl (by decide +kernel) ⟨Nat.le_of_ble_eq_true rfl, Nat.le_of_ble_eq_true rfl⟩) (mbm_pre CM hP hD hS) rfl rfl hl.1 rfl (lv_room (Nat.le_of_ble_eq_true rfl)) dL_begins_312 ⟨by show _ ≤ 1231; omega, by show _ ≤ 7671; omega⟩) (fun r312 u312 H locs hF hP hD hS => ?_)
        have hP : va_P D vwCl (wW Y o a aa ad u312.1 u312.2) H := hP
        have hD : va_D A (wW Y o a aa ad u312.1 u312.2) := hD
        refine lv_if_eq (tgt := 322) hx hb dL_begins_315 (by decide) (fun c_315 => ?_) (fun c_315 => ?_)
        · have hF := hF.1 c_315
          refine lv_iconst (v := 0) hx hb dL_begins_322 (by decide) ?_
          exact mb_ri (S := mb_S) (mc := 1231) (ms := 7671) (wf := fun u => wW Y o a aa ad u.1 u.2) C rfl (u := (u312.1, u312.2)) hF hP hD hS dL_begins_323 (by omega) (by omega)
        · have hF := hF.2 c_315
          refine lv_iconst (v := 1) hx hb dL_begins_318 (by decide) ?_
          refine lv_goto (tgt := 323) hx hb dL_begins_319 (by decide) ?_
          exact mb_ri (S := mb_S) (mc := 1231) (ms := 7671) (wf := fun u => wW Y o a aa ad u.1 u.2) C rfl (u := (u312.1, u312.2)) hF hP hD hS dL_begins_323 (by omega) (by omega)
  · have hF := hF.2 c_226
    refine lv_iload hx hb dL_begins_229 (lv_at hl 0 rfl) ?_
    refine lv_ldc (v := -1000003) hx hb hown (hts (.constant RL 32 (-1000003)) (List.mem_of_getElem? (i := 1) rfl)) dL_begins_231 ?_
    refine lv_icmp_ne (tgt := 240) hx hb dL_begins_233 (by decide) (fun c_233 => ?_) (fun c_233 => ?_)
    · have hF := hF.1 c_233
      refine lv_iconst (v := 0) hx hb dL_begins_240 (by decide) ?_
      exact mb_ri (S := mb_S) (mc := 1231) (ms := 7671) (wf := fun u => wW Y o a aa ad u.1 u.2) C rfl (u := (u217.1, u217.2)) hF hP hD hS dL_begins_241 (by omega) (by omega)
    · have hF := hF.2 c_233
      refine lv_iconst (v := 1) hx hb dL_begins_236 (by decide) ?_
      refine lv_goto (tgt := 241) hx hb dL_begins_237 (by decide) ?_
      exact mb_ri (S := mb_S) (mc := 1231) (ms := 7671) (wf := fun u => wW Y o a aa ad u.1 u.2) C rfl (u := (u217.1, u217.2)) hF hP hD hS dL_begins_241 (by omega) (by omega)
noncomputable def PL_begins_132 (N : Nat) (K : Int32 → mb_S → Prop) (F : mb_m) (b : mb_bs) (x5 y0 y1 : Int32) : Prop := ∀ v133 : Int32, v133 = (y1 * y0) → (PL_low N x5 (8 : Int32) (fun r140 _ => ∀ v144 : Int32, v144 = ((1 : Int32) + r140) → (PL_low N (x5 >>> ((3 : Int32) &&& 31)) (15 : Int32) (fun r153 _ => ∀ v157 : Int32, v157 = ((2 : Int32) + r153) → (PL_low N (x5 >>> ((7 : Int32) &&& 31)) (4 : Int32) (fun r166 _ => ∀ v170 : Int32, v170 = ((3 : Int32) + r166) → (PL_low N (x5 >>> ((9 : Int32) &&& 31)) (9 : Int32) (fun r180 _ => ∀ v184 : Int32, v184 = ((1 : Int32) + r180) → (PL_low N (x5 >>> ((13 : Int32) &&& 31)) (2 : Int32) (fun r192 _ => (¬ r192 = (1 : Int32) → PL_begins_217 N K F b v133 v144 v157 v170 v184 r192 (0 : Int32) v184 v170 v157 v144) ∧ (r192 = (1 : Int32) → PL_begins_217 N K F b v133 v144 v157 v170 v184 r192 (1 : Int32) v184 v170 v157 v144)))))))))))
set_option maxHeartbeats 4000000 in
set_option maxRecDepth 100000 in
theorem wL_begins_132 {p : Program} {l : Launch} {e : Env} {s : State} {m : MethodId} {below : List Frame} {meth : Method} {c : Code} {args : Array Value} {D : va_G} {Y : Nat → ClassId} {A : Nat → Prop} {o : Nat} {a aa ad : Nat → Nat} {N : Nat} {K : Int32 → mb_S → Prop} (CM : mb_CM l p s m meth c args cL_begins 13 (some .boolean) wsL_begins RL D Y A) : ∀ (F : mb_m) (b : mb_bs) (x5 y0 y1 : Int32) (H : Heap) (locs : List Loc) (ls : Array Slot) (cells slots : Nat), PL_begins_132 N K  F b x5 y0 y1 → va_P D vwCl (wW Y o a aa ad b F) H → va_D A (wW Y o a aa ad b F) → va_S A s.heap H locs → lv_has ls 13 [(0, .ref o), (1, .ref (ad 0)), (2, .ref (ad 1)), (5, .int x5)] → cells + (1231 + 0) ≤ 1231 → slots + (7671 + 0) ≤ 7671 → W p l e ({ frames := 10, cells := 1231, slots := 7671, locals := 192 } : Room) s m args below meth c H locs cells slots (MQ below (va_Qi K (fun u t => mb_T D A (wW Y o a aa ad u.1 u.2) t) A) args s 1231 7671 A) (F0 m 132 ls [.int y0, .int y1]) := by
  obtain ⟨C, hX, hl0, hN⟩ := id CM
  obtain ⟨hx, hb, hr, hml, hts, hown, hlocks, hA, hG⟩ := id C
  have hK := hG.1
  intro F b x5 y0 y1 H locs ls cells slots hF hP hD hS hl hc hs
  unfold PL_begins_132 at hF
  refine lv_imul hx hb dL_begins_132 ?_
  refine lv_topi (fun v133 ev133 => ?_)
  have hF := hF v133 ev133
  refine lv_istore (lv' := [(6, .int v133), (0, .ref o), (1, .ref (ad 0)), (2, .ref (ad 1)), (5, .int x5)]) hx hb dL_begins_133 hl (by decide) rfl (fun ls hl => ?_)
  refine lv_iconst (v := 1) hx hb dL_begins_135 (by decide) ?_
  refine lv_iload hx hb dL_begins_136 (lv_at hl 4 rfl) ?_
  refine lv_bipush (v := 8) hx hb dL_begins_138 (by decide) ?_
  refine mb_cE hP hS hA (va_runS (As := [.int x5, .int (8 : Int32)]) (rest := [.int (1 : Int32)]) ⟨hx, hb, hml, hown, hts⟩ (cnL_low l D Y N _ x5 (8 : Int32) _ hF) (va_cwS 2 hts gL_begins_L_low rfl rfl rfl (by decide +kernel) ⟨Nat.le_of_ble_eq_true rfl, Nat.le_of_ble_eq_true rfl⟩) (mb_preS (A := A) hG mb_P0 mb_D0) rfl rfl hl.1 rfl (lv_room (Nat.le_of_ble_eq_true rfl)) dL_begins_140 ⟨by show _ ≤ 1231; omega, by show _ ≤ 7671; omega⟩) (fun r140 H locs hF hP hS => ?_)
  refine lv_iadd hx hb dL_begins_143 ?_
  refine lv_topi (fun v144 ev144 => ?_)
  have hF := hF v144 ev144
  refine lv_istore (lv' := [(7, .int v144), (6, .int v133), (0, .ref o), (1, .ref (ad 0)), (2, .ref (ad 1)), (5, .int x5)]) hx hb dL_begins_144 hl (by decide) rfl (fun ls hl => ?_)
  refine lv_iconst (v := 2) hx hb dL_begins_146 (by decide) ?_
  refine lv_iload hx hb dL_begins_147 (lv_at hl 5 rfl) ?_
  refine lv_iconst (v := 3) hx hb dL_begins_149 (by decide) ?_
  refine lv_ishr hx hb dL_begins_150 ?_
  refine lv_bipush (v := 15) hx hb dL_begins_151 (by decide) ?_
  refine mb_cE hP hS hA (va_runS (As := [.int (x5 >>> ((3 : Int32) &&& 31)), .int (15 : Int32)]) (rest := [.int (2 : Int32)]) ⟨hx, hb, hml, hown, hts⟩ (cnL_low l D Y N _ (x5 >>> ((3 : Int32) &&& 31)) (15 : Int32) _ hF) (va_cwS 2 hts gL_begins_L_low rfl rfl rfl (by decide +kernel) ⟨Nat.le_of_ble_eq_true rfl, Nat.le_of_ble_eq_true rfl⟩) (mb_preS (A := A) hG mb_P0 mb_D0) rfl rfl hl.1 rfl (lv_room (Nat.le_of_ble_eq_true rfl)) dL_begins_153 ⟨by show _ ≤ 1231; omega, by show _ ≤ 7671; omega⟩) (fun r153 H locs hF hP hS => ?_)
  refine lv_iadd hx hb dL_begins_156 ?_
  refine lv_topi (fun v157 ev157 => ?_)
  have hF := hF v157 ev157
  refine lv_istore (lv' := [(8, .int v157), (7, .int v144), (6, .int v133), (0, .ref o), (1, .ref (ad 0)), (2, .ref (ad 1)), (5, .int x5)]) hx hb dL_begins_157 hl (by decide) rfl (fun ls hl => ?_)
  refine lv_iconst (v := 3) hx hb dL_begins_159 (by decide) ?_
  refine lv_iload hx hb dL_begins_160 (lv_at hl 6 rfl) ?_
  refine lv_bipush (v := 7) hx hb dL_begins_162 (by decide) ?_
  refine lv_ishr hx hb dL_begins_164 ?_
  refine lv_iconst (v := 4) hx hb dL_begins_165 (by decide) ?_
  refine mb_cE hP hS hA (va_runS (As := [.int (x5 >>> ((7 : Int32) &&& 31)), .int (4 : Int32)]) (rest := [.int (3 : Int32)]) ⟨hx, hb, hml, hown, hts⟩ (cnL_low l D Y N _ (x5 >>> ((7 : Int32) &&& 31)) (4 : Int32) _ hF) (va_cwS 2 hts gL_begins_L_low rfl rfl rfl (by decide +kernel) ⟨Nat.le_of_ble_eq_true rfl, Nat.le_of_ble_eq_true rfl⟩) (mb_preS (A := A) hG mb_P0 mb_D0) rfl rfl hl.1 rfl (lv_room (Nat.le_of_ble_eq_true rfl)) dL_begins_166 ⟨by show _ ≤ 1231; omega, by show _ ≤ 7671; omega⟩) (fun r166 H locs hF hP hS => ?_)
  refine lv_iadd hx hb dL_begins_169 ?_
  refine lv_topi (fun v170 ev170 => ?_)
  have hF := hF v170 ev170
  refine lv_istore (lv' := [(9, .int v170), (8, .int v157), (7, .int v144), (6, .int v133), (0, .ref o), (1, .ref (ad 0)), (2, .ref (ad 1)), (5, .int x5)]) hx hb dL_begins_170 hl (by decide) rfl (fun ls hl => ?_)
  refine lv_iconst (v := 1) hx hb dL_begins_172 (by decide) ?_
  refine lv_iload hx hb dL_begins_173 (lv_at hl 7 rfl) ?_
  refine lv_bipush (v := 9) hx hb dL_begins_175 (by decide) ?_
  refine lv_ishr hx hb dL_begins_177 ?_
  refine lv_bipush (v := 9) hx hb dL_begins_178 (by decide) ?_
  refine mb_cE hP hS hA (va_runS (As := [.int (x5 >>> ((9 : Int32) &&& 31)), .int (9 : Int32)]) (rest := [.int (1 : Int32)]) ⟨hx, hb, hml, hown, hts⟩ (cnL_low l D Y N _ (x5 >>> ((9 : Int32) &&& 31)) (9 : Int32) _ hF) (va_cwS 2 hts gL_begins_L_low rfl rfl rfl (by decide +kernel) ⟨Nat.le_of_ble_eq_true rfl, Nat.le_of_ble_eq_true rfl⟩) (mb_preS (A := A) hG mb_P0 mb_D0) rfl rfl hl.1 rfl (lv_room (Nat.le_of_ble_eq_true rfl)) dL_begins_180 ⟨by show _ ≤ 1231; omega, by show _ ≤ 7671; omega⟩) (fun r180 H locs hF hP hS => ?_)
  refine lv_iadd hx hb dL_begins_183 ?_
  refine lv_topi (fun v184 ev184 => ?_)
  have hF := hF v184 ev184
  refine lv_istore (lv' := [(10, .int v184), (9, .int v170), (8, .int v157), (7, .int v144), (6, .int v133), (0, .ref o), (1, .ref (ad 0)), (2, .ref (ad 1)), (5, .int x5)]) hx hb dL_begins_184 hl (by decide) rfl (fun ls hl => ?_)
  refine lv_iload hx hb dL_begins_186 (lv_at hl 8 rfl) ?_
  refine lv_bipush (v := 13) hx hb dL_begins_188 (by decide) ?_
  refine lv_ishr hx hb dL_begins_190 ?_
  refine lv_iconst (v := 2) hx hb dL_begins_191 (by decide) ?_
  refine mb_cE hP hS hA (va_runS (As := [.int (x5 >>> ((13 : Int32) &&& 31)), .int (2 : Int32)]) (rest := []) ⟨hx, hb, hml, hown, hts⟩ (cnL_low l D Y N _ (x5 >>> ((13 : Int32) &&& 31)) (2 : Int32) _ hF) (va_cwS 2 hts gL_begins_L_low rfl rfl rfl (by decide +kernel) ⟨Nat.le_of_ble_eq_true rfl, Nat.le_of_ble_eq_true rfl⟩) (mb_preS (A := A) hG mb_P0 mb_D0) rfl rfl hl.1 rfl (lv_room (Nat.le_of_ble_eq_true rfl)) dL_begins_192 ⟨by show _ ≤ 1231; omega, by show _ ≤ 7671; omega⟩) (fun r192 H locs hF hP hS => ?_)
  refine lv_istore (lv' := [(11, .int r192), (10, .int v184), (9, .int v170), (8, .int v157), (7, .int v144), (6, .int v133), (0, .ref o), (1, .ref (ad 0)), (2, .ref (ad 1)), (5, .int x5)]) hx hb dL_begins_195 hl (by decide) rfl (fun ls hl => ?_)
  refine lv_aload_n hx hb dL_begins_197 rfl (lv_at hl 6 rfl) ?_
  refine lv_iload hx hb dL_begins_198 (lv_at hl 4 rfl) ?_
  refine lv_iload hx hb dL_begins_200 (lv_at hl 3 rfl) ?_
  refine lv_iload hx hb dL_begins_202 (lv_at hl 2 rfl) ?_
  refine lv_iload hx hb dL_begins_204 (lv_at hl 1 rfl) ?_
  refine lv_iload hx hb dL_begins_206 (lv_at hl 0 rfl) ?_
  refine lv_iconst (v := 1) hx hb dL_begins_208 (by decide) ?_
  refine lv_icmp_ne (tgt := 216) hx hb dL_begins_209 (by decide) (fun c_209 => ?_) (fun c_209 => ?_)
  · have hF := hF.1 c_209
    refine lv_iconst (v := 0) hx hb dL_begins_216 (by decide) ?_
    exact wL_begins_217 CM F b v133 v144 v157 v170 v184 r192 (0 : Int32) v184 v170 v157 v144 _ _ _ _ _ hF hP hD hS (lv_sub hl [6, 7, 8, 5, 4, 3, 2, 1, 0] rfl) (by omega) (by omega)
  · have hF := hF.2 c_209
    refine lv_iconst (v := 1) hx hb dL_begins_212 (by decide) ?_
    refine lv_goto (tgt := 217) hx hb dL_begins_213 (by decide) ?_
    exact wL_begins_217 CM F b v133 v144 v157 v170 v184 r192 (1 : Int32) v184 v170 v157 v144 _ _ _ _ _ hF hP hD hS (lv_sub hl [6, 7, 8, 5, 4, 3, 2, 1, 0] rfl) (by omega) (by omega)
noncomputable def PL_begins (N : Nat) (F : mb_m) (b : mb_bs) (x4 x5 : Int32) (K : Int32 → mb_S → Prop) : Prop := PL_low N x4 (3 : Int32) (fun r3 _ => (¬ r3 = 0 → vp_in (1 : Int32) 3 ∧ (((4 : Int32) ≤ (F 0 (1 : Int32).toNatClampNeg) → PL_begins_132 N K F b x5 (0 : Int32) (6 : Int32)) ∧ (¬ (4 : Int32) ≤ (F 0 (1 : Int32).toNatClampNeg) → vp_in (1 : Int32) 3 ∧ (PL_begins_132 N K F b x5 (F 0 (1 : Int32).toNatClampNeg) (6 : Int32))))) ∧ (r3 = 0 → PL_low N x5 (23 : Int32) (fun r15 _ => ∀ v19 : Int32, v19 = ((8 : Int32) + r15) → (LP_skin N b F v19 (fun r24 u24 => vp_in (2 : Int32) 3 ∧ ((¬ (u24.2 0 (2 : Int32).toNatClampNeg) = (3 : Int32) → vp_in (2 : Int32) 3 ∧ (vp_in (u24.2 0 (2 : Int32).toNatClampNeg) 3 ∧ (∀ M55 : mb_m, M55 = mb_u u24.2 3 (upd (u24.2 3) (u24.2 0 (2 : Int32).toNatClampNeg).toNatClampNeg v19) → (vp_in (2 : Int32) 3 ∧ (∀ v62 : Int32, v62 = ((M55 0 (2 : Int32).toNatClampNeg) + (1 : Int32)) → (vp_in (2 : Int32) 3 ∧ (∀ M62 : mb_m, M62 = mb_u M55 0 (upd (M55 0) (2 : Int32).toNatClampNeg v62) → (vp_in (2 : Int32) 3 ∧ ((¬ r24 = ((M62 0 (2 : Int32).toNatClampNeg) - (1 : Int32)) → K (0 : Int32) (u24.1, M62)) ∧ (r24 = ((M62 0 (2 : Int32).toNatClampNeg) - (1 : Int32)) → LP_thickAt N u24.1 M62 r24 (7 : Int32) (0 : Int32) (fun r79 u79 => (¬ r79 = v19 → K (0 : Int32) (u79.1, u79.2)) ∧ (r79 = v19 → LP_tooThick N u79.1 u79.2 r24 (fun r90 u90 => (v19 ≤ (12 : Int32) → PL_begins_107 N K u90.2 u90.1 (28 : Int32) r90) ∧ (¬ v19 ≤ (12 : Int32) → PL_begins_107 N K u90.2 u90.1 (64 : Int32) r90)))))))))))))) ∧ ((u24.2 0 (2 : Int32).toNatClampNeg) = (3 : Int32) → (¬ r24 = (-1000003 : Int32) → K (0 : Int32) (u24.1, u24.2)) ∧ (r24 = (-1000003 : Int32) → K (1 : Int32) (u24.1, u24.2)))))))))
set_option maxHeartbeats 4000000 in
set_option maxRecDepth 100000 in
theorem cnL_begins (l : Launch) (hl0 : l.stackTraces = false) (D : va_G) (Y : Nat → ClassId) (N : Nat) (o : Nat) (a aa ad : Nat → Nat) (F : mb_m) (b : mb_bs) (sz : Nat) (x4 x5 : Int32) (K : Int32 → mb_S → Prop) (hF : PL_begins N F b x4 x5 K) : Met l yL_begins wsL_begins ({ frames := 10, cells := 1231, slots := 7671, locals := 192 } : Room) (va_Pc [.ref o, .ref (ad 0), .ref (ad 1), .ref (ad 3), .int x4, .int x5] (mb_BL D Y (wW Y o a aa ad b F) sz)) (va_Qi K (fun u t => mb_T D (va_A (wW Y o a aa ad b F) sz) (wW Y o a aa ad u.1 u.2) t) (va_A (wW Y o a aa ad b F) sz)) 1231 7671 (va_A (wW Y o a aa ad b F) sz) := by
  refine mbm_begin (cc := cL_begins) (maxL := 13) (ret := (some .boolean)) hl0 (by decide +kernel) rfl (Nat.le_of_ble_eq_true rfl) ?_
  intro p e s m below meth c ls CM hsz hP hD hl
  generalize hAe : va_A (wW Y o a aa ad b F) sz = A at CM hD ⊢
  have CM : mb_CM l p s m meth c ([.ref o, .ref (ad 0), .ref (ad 1), .ref (ad 3), .int x4, .int x5] : List Value).toArray cL_begins 13 (some .boolean) wsL_begins RL D Y A := CM
  obtain ⟨C, hX, hl0, hN⟩ := id CM
  obtain ⟨hx, hb, hr, hml, hts, hown, hlocks, hA, hG⟩ := id C
  have hK := hG.1
  have hS : va_S A s.heap s.heap [] := va_S.rf
  have hl : lv_has ls 13 [(0, .ref o), (1, .ref (ad 0)), (2, .ref (ad 1)), (3, .ref (ad 3)), (4, .int x4), (5, .int x5)] := hl
  unfold PL_begins at hF
  refine lv_iload hx hb dL_begins_0 (lv_at hl 4 rfl) ?_
  refine lv_iconst (v := 3) hx hb dL_begins_2 (by decide) ?_
  refine mb_cE hP hS hA (va_runS (As := [.int x4, .int (3 : Int32)]) (rest := []) ⟨hx, hb, hml, hown, hts⟩ (cnL_low l D Y N _ x4 (3 : Int32) _ hF) (va_cwS 2 hts gL_begins_L_low rfl rfl rfl (by decide +kernel) ⟨Nat.le_of_ble_eq_true rfl, Nat.le_of_ble_eq_true rfl⟩) (mb_preS (A := A) hG mb_P0 mb_D0) rfl rfl hl.1 rfl (lv_room (Nat.le_of_ble_eq_true rfl)) dL_begins_3 ⟨by show _ ≤ 1231; omega, by show _ ≤ 7671; omega⟩) (fun r3 H locs hF hP hS => ?_)
  refine lv_if_ne (tgt := 116) hx hb dL_begins_6 (by decide) (fun c_6 => ?_) (fun c_6 => ?_)
  · have hF := hF.1 c_6
    refine lv_bipush (v := 6) hx hb dL_begins_116 (by decide) ?_
    refine lv_aload_n hx hb dL_begins_118 rfl (lv_at hl 1 rfl) ?_
    refine lv_iconst (v := 1) hx hb dL_begins_119 (by decide) ?_
    obtain ⟨hi120, hF⟩ := hF
    refine va_iald hx hb hK hP 0 0 rfl rfl hi120 dL_begins_120 ?_
    refine lv_iconst (v := 4) hx hb dL_begins_121 (by decide) ?_
    refine lv_icmp_ge (tgt := 131) hx hb dL_begins_122 (by decide) (fun c_122 => ?_) (fun c_122 => ?_)
    · have hF := hF.1 c_122
      refine lv_iconst (v := 0) hx hb dL_begins_131 (by decide) ?_
      exact wL_begins_132 CM F b x5 (0 : Int32) (6 : Int32) _ _ _ _ _ hF hP hD hS (lv_sub hl [0, 1, 2, 5] rfl) (by omega) (by omega)
    · have hF := hF.2 c_122
      refine lv_aload_n hx hb dL_begins_125 rfl (lv_at hl 1 rfl) ?_
      refine lv_iconst (v := 1) hx hb dL_begins_126 (by decide) ?_
      obtain ⟨hi127, hF⟩ := hF
      refine va_iald hx hb hK hP 0 0 rfl rfl hi127 dL_begins_127 ?_
      refine lv_goto (tgt := 132) hx hb dL_begins_128 (by decide) ?_
      exact wL_begins_132 CM F b x5 (F 0 (1 : Int32).toNatClampNeg) (6 : Int32) _ _ _ _ _ hF hP hD hS (lv_sub hl [0, 1, 2, 5] rfl) (by omega) (by omega)
  · have hF := hF.2 c_6
    refine lv_bipush (v := 8) hx hb dL_begins_9 (by decide) ?_
    refine lv_iload hx hb dL_begins_11 (lv_at hl 5 rfl) ?_
    refine lv_bipush (v := 23) hx hb dL_begins_13 (by decide) ?_
    refine mb_cE hP hS hA (va_runS (As := [.int x5, .int (23 : Int32)]) (rest := [.int (8 : Int32)]) ⟨hx, hb, hml, hown, hts⟩ (cnL_low l D Y N _ x5 (23 : Int32) _ hF) (va_cwS 2 hts gL_begins_L_low rfl rfl rfl (by decide +kernel) ⟨Nat.le_of_ble_eq_true rfl, Nat.le_of_ble_eq_true rfl⟩) (mb_preS (A := A) hG mb_P0 mb_D0) rfl rfl hl.1 rfl (lv_room (Nat.le_of_ble_eq_true rfl)) dL_begins_15 ⟨by show _ ≤ 1231; omega, by show _ ≤ 7671; omega⟩) (fun r15 H locs hF hP hS => ?_)
    refine lv_iadd hx hb dL_begins_18 ?_
    refine lv_topi (fun v19 ev19 => ?_)
    have hF := hF v19 ev19
    refine lv_istore (lv' := [(6, .int v19), (0, .ref o), (1, .ref (ad 0)), (2, .ref (ad 1)), (3, .ref (ad 3)), (4, .int x4), (5, .int x5)]) hx hb dL_begins_19 hl (by decide) rfl (fun ls hl => ?_)
    refine lv_aload_n hx hb dL_begins_21 rfl (lv_at hl 1 rfl) ?_
    refine lv_iload hx hb dL_begins_22 (lv_at hl 0 rfl) ?_
    refine mb_cW (S := mb_S) hD hS hA (vx_runSW (As := [.ref o, .int v19]) (rest := []) ⟨hx, hb, hml, hown, hts⟩ (cw_skin l hl0 D Y N o a aa ad b F _ v19 _ hF) (vx_cwSW 2 hts gL_begins_L_skin rfl rfl rfl (by decide +kernel) ⟨Nat.le_of_ble_eq_true rfl, Nat.le_of_ble_eq_true rfl⟩) (mbm_pre CM hP hD hS) rfl rfl hl.1 rfl (lv_room (Nat.le_of_ble_eq_true rfl)) dL_begins_24 ⟨by show _ ≤ 1231; omega, by show _ ≤ 7671; omega⟩) (fun r24 u24 H locs hF hP hD hS => ?_)
    have hP : va_P D vwCl (wW Y o a aa ad u24.1 u24.2) H := hP
    have hD : va_D A (wW Y o a aa ad u24.1 u24.2) := hD
    refine lv_istore (lv' := [(7, .int r24), (6, .int v19), (0, .ref o), (1, .ref (ad 0)), (2, .ref (ad 1)), (3, .ref (ad 3)), (4, .int x4), (5, .int x5)]) hx hb dL_begins_27 hl (by decide) rfl (fun ls hl => ?_)
    refine lv_aload_n hx hb dL_begins_29 rfl (lv_at hl 3 rfl) ?_
    refine lv_iconst (v := 2) hx hb dL_begins_30 (by decide) ?_
    obtain ⟨hi31, hF⟩ := hF
    refine va_iald hx hb hK hP 0 0 rfl rfl hi31 dL_begins_31 ?_
    refine lv_iconst (v := 3) hx hb dL_begins_32 (by decide) ?_
    refine lv_icmp_ne (tgt := 49) hx hb dL_begins_33 (by decide) (fun c_33 => ?_) (fun c_33 => ?_)
    · have hF := hF.1 c_33
      refine lv_aload_n hx hb dL_begins_49 rfl (lv_at hl 5 rfl) ?_
      refine lv_aload_n hx hb dL_begins_50 rfl (lv_at hl 3 rfl) ?_
      refine lv_iconst (v := 2) hx hb dL_begins_51 (by decide) ?_
      obtain ⟨hi52, hF⟩ := hF
      refine va_iald hx hb hK hP 0 0 rfl rfl hi52 dL_begins_52 ?_
      refine lv_iload hx hb dL_begins_53 (lv_at hl 1 rfl) ?_
      obtain ⟨hi55, hF⟩ := hF
      refine va_iast hx hb hK hP hD hS 3 0 rfl rfl hi55 dL_begins_55 (fun H locs hP hD hS => ?_)
      obtain ⟨M55, eM55⟩ : ∃ y : mb_m, y = mb_u u24.2 3 (upd (u24.2 3) (u24.2 0 (2 : Int32).toNatClampNeg).toNatClampNeg v19) := ⟨_, rfl⟩
      have hF := hF M55 eM55
      have hP : va_P D vwCl (wW Y o a aa ad u24.1 (mb_u u24.2 3 (upd (u24.2 3) (u24.2 0 (2 : Int32).toNatClampNeg).toNatClampNeg v19))) H := hP
      have hD : va_D A (wW Y o a aa ad u24.1 (mb_u u24.2 3 (upd (u24.2 3) (u24.2 0 (2 : Int32).toNatClampNeg).toNatClampNeg v19))) := hD
      rw [← eM55] at hP hD
      refine lv_aload_n hx hb dL_begins_56 rfl (lv_at hl 3 rfl) ?_
      refine lv_iconst (v := 2) hx hb dL_begins_57 (by decide) ?_
      refine lv_dup2_11 hx hb dL_begins_58 rfl rfl ?_
      obtain ⟨hi59, hF⟩ := hF
      refine va_iald hx hb hK hP 0 0 rfl rfl hi59 dL_begins_59 ?_
      refine lv_iconst (v := 1) hx hb dL_begins_60 (by decide) ?_
      refine lv_iadd hx hb dL_begins_61 ?_
      refine lv_topi (fun v62 ev62 => ?_)
      have hF := hF v62 ev62
      obtain ⟨hi62, hF⟩ := hF
      refine va_iast hx hb hK hP hD hS 0 0 rfl rfl hi62 dL_begins_62 (fun H locs hP hD hS => ?_)
      obtain ⟨M62, eM62⟩ : ∃ y : mb_m, y = mb_u M55 0 (upd (M55 0) (2 : Int32).toNatClampNeg v62) := ⟨_, rfl⟩
      have hF := hF M62 eM62
      have hP : va_P D vwCl (wW Y o a aa ad u24.1 (mb_u M55 0 (upd (M55 0) (2 : Int32).toNatClampNeg v62))) H := hP
      have hD : va_D A (wW Y o a aa ad u24.1 (mb_u M55 0 (upd (M55 0) (2 : Int32).toNatClampNeg v62))) := hD
      rw [← eM62] at hP hD
      refine lv_iload hx hb dL_begins_63 (lv_at hl 0 rfl) ?_
      refine lv_aload_n hx hb dL_begins_65 rfl (lv_at hl 3 rfl) ?_
      refine lv_iconst (v := 2) hx hb dL_begins_66 (by decide) ?_
      obtain ⟨hi67, hF⟩ := hF
      refine va_iald hx hb hK hP 0 0 rfl rfl hi67 dL_begins_67 ?_
      refine lv_iconst (v := 1) hx hb dL_begins_68 (by decide) ?_
      refine lv_isub hx hb dL_begins_69 ?_
      refine lv_icmp_ne (tgt := 114) hx hb dL_begins_70 (by decide) (fun c_70 => ?_) (fun c_70 => ?_)
      · have hF := hF.1 c_70
        refine lv_iconst (v := 0) hx hb dL_begins_114 (by decide) ?_
        exact mb_ri (S := mb_S) (mc := 1231) (ms := 7671) (wf := fun u => wW Y o a aa ad u.1 u.2) C rfl (u := (u24.1, M62)) hF hP hD hS dL_begins_115 (by omega) (by omega)
      · have hF := hF.2 c_70
        refine lv_aload_n hx hb dL_begins_73 rfl (lv_at hl 2 rfl) ?_
        refine lv_iload hx hb dL_begins_74 (lv_at hl 0 rfl) ?_
        refine lv_bipush (v := 7) hx hb dL_begins_76 (by decide) ?_
        refine lv_iconst (v := 0) hx hb dL_begins_78 (by decide) ?_
        refine mb_cW (S := mb_S) hD hS hA (vx_runSW (As := [.ref o, .int r24, .int (7 : Int32), .int (0 : Int32)]) (rest := []) ⟨hx, hb, hml, hown, hts⟩ (cw_thickAt l hl0 D Y N o a aa ad u24.1 M62 _ r24 (7 : Int32) (0 : Int32) _ hF) (vx_cwSW 4 hts gL_begins_L_thickAt rfl rfl rfl (by decide +kernel) ⟨Nat.le_of_ble_eq_true rfl, Nat.le_of_ble_eq_true rfl⟩) (mbm_pre CM hP hD hS) rfl rfl hl.1 rfl (lv_room (Nat.le_of_ble_eq_true rfl)) dL_begins_79 ⟨by show _ ≤ 1231; omega, by show _ ≤ 7671; omega⟩) (fun r79 u79 H locs hF hP hD hS => ?_)
        have hP : va_P D vwCl (wW Y o a aa ad u79.1 u79.2) H := hP
        have hD : va_D A (wW Y o a aa ad u79.1 u79.2) := hD
        refine lv_iload hx hb dL_begins_82 (lv_at hl 1 rfl) ?_
        refine lv_icmp_ne (tgt := 114) hx hb dL_begins_84 (by decide) (fun c_84 => ?_) (fun c_84 => ?_)
        · have hF := hF.1 c_84
          refine lv_iconst (v := 0) hx hb dL_begins_114 (by decide) ?_
          exact mb_ri (S := mb_S) (mc := 1231) (ms := 7671) (wf := fun u => wW Y o a aa ad u.1 u.2) C rfl (u := (u79.1, u79.2)) hF hP hD hS dL_begins_115 (by omega) (by omega)
        · have hF := hF.2 c_84
          refine lv_aload_n hx hb dL_begins_87 rfl (lv_at hl 2 rfl) ?_
          refine lv_iload hx hb dL_begins_88 (lv_at hl 0 rfl) ?_
          refine mb_cW (S := mb_S) hD hS hA (vx_runSW (As := [.ref o, .int r24]) (rest := []) ⟨hx, hb, hml, hown, hts⟩ (cw_tooThick l hl0 D Y N o a aa ad u79.1 u79.2 _ r24 _ hF) (vx_cwSW 2 hts gL_begins_L_tooThick rfl rfl rfl (by decide +kernel) ⟨Nat.le_of_ble_eq_true rfl, Nat.le_of_ble_eq_true rfl⟩) (mbm_pre CM hP hD hS) rfl rfl hl.1 rfl (lv_room (Nat.le_of_ble_eq_true rfl)) dL_begins_90 ⟨by show _ ≤ 1231; omega, by show _ ≤ 7671; omega⟩) (fun r90 u90 H locs hF hP hD hS => ?_)
          have hP : va_P D vwCl (wW Y o a aa ad u90.1 u90.2) H := hP
          have hD : va_D A (wW Y o a aa ad u90.1 u90.2) := hD
          refine lv_iload hx hb dL_begins_93 (lv_at hl 1 rfl) ?_
          refine lv_bipush (v := 12) hx hb dL_begins_95 (by decide) ?_
          refine lv_icmp_le (tgt := 105) hx hb dL_begins_97 (by decide) (fun c_97 => ?_) (fun c_97 => ?_)
          · have hF := hF.1 c_97
            refine lv_bipush (v := 28) hx hb dL_begins_105 (by decide) ?_
            exact wL_begins_107 CM u90.2 u90.1 (28 : Int32) r90 _ _ _ _ _ hF hP hD hS (lv_sub hl [] rfl) (by omega) (by omega)
          · have hF := hF.2 c_97
            refine lv_bipush (v := 64) hx hb dL_begins_100 (by decide) ?_
            refine lv_goto (tgt := 107) hx hb dL_begins_102 (by decide) ?_
            exact wL_begins_107 CM u90.2 u90.1 (64 : Int32) r90 _ _ _ _ _ hF hP hD hS (lv_sub hl [] rfl) (by omega) (by omega)
    · have hF := hF.2 c_33
      refine lv_iload hx hb dL_begins_36 (lv_at hl 0 rfl) ?_
      refine lv_ldc (v := -1000003) hx hb hown (hts (.constant RL 32 (-1000003)) (List.mem_of_getElem? (i := 1) rfl)) dL_begins_38 ?_
      refine lv_icmp_ne (tgt := 47) hx hb dL_begins_40 (by decide) (fun c_40 => ?_) (fun c_40 => ?_)
      · have hF := hF.1 c_40
        refine lv_iconst (v := 0) hx hb dL_begins_47 (by decide) ?_
        exact mb_ri (S := mb_S) (mc := 1231) (ms := 7671) (wf := fun u => wW Y o a aa ad u.1 u.2) C rfl (u := (u24.1, u24.2)) hF hP hD hS dL_begins_48 (by omega) (by omega)
      · have hF := hF.2 c_40
        refine lv_iconst (v := 1) hx hb dL_begins_43 (by decide) ?_
        refine lv_goto (tgt := 48) hx hb dL_begins_44 (by decide) ?_
        exact mb_ri (S := mb_S) (mc := 1231) (ms := 7671) (wf := fun u => wW Y o a aa ad u.1 u.2) C rfl (u := (u24.1, u24.2)) hF hP hD hS dL_begins_48 (by omega) (by omega)
end
