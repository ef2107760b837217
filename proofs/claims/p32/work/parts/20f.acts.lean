section
noncomputable def PL_acts_27 (N : Nat) (K : Int32 → mb_S → Prop) (F : mb_m) (b : mb_bs) (x6 x7 : Int32) : Prop := PL_begins N F b (x6 >>> ((5 : Int32) &&& 31)) x7 (fun r38 u38 => mb_isB r38 ∧ (K r38 (u38.1, u38.2)))
set_option maxHeartbeats 4000000 in
set_option maxRecDepth 100000 in
theorem wL_acts_27 {p : Program} {l : Launch} {e : Env} {s : State} {m : MethodId} {below : List Frame} {meth : Method} {c : Code} {args : Array Value} {D : va_G} {Y : Nat → ClassId} {A : Nat → Prop} {o : Nat} {a aa ad : Nat → Nat} {N : Nat} {K : Int32 → mb_S → Prop} (CM : mb_CM l p s m meth c args cL_acts 11 (some .boolean) wsL_acts RL D Y A) : ∀ (F : mb_m) (b : mb_bs) (x6 x7 : Int32) (H : Heap) (locs : List Loc) (ls : Array Slot) (cells slots : Nat), PL_acts_27 N K  F b x6 x7 → va_P D vwCl (wW Y o a aa ad b F) H → va_D A (wW Y o a aa ad b F) → va_S A s.heap H locs → lv_has ls 11 [(0, .ref o), (1, .ref (ad 0)), (2, .ref (ad 1)), (4, .ref (ad 3)), (6, .int x6), (7, .int x7)] → cells + (1231 + 0) ≤ 1231 → slots + (7671 + 0) ≤ 7671 → W p l e ({ frames := 11, cells := 1231, slots := 7671, locals := 224 } : Room) s m args below meth c H locs cells slots (MQ below (va_Qi K (fun u t => mb_T D A (wW Y o a aa ad u.1 u.2) t) A) args s 1231 7671 A) (F0 m 27 ls []) := by
  obtain ⟨C, hX, hl0, hN⟩ := id CM
  obtain ⟨hx, hb, hr, hml, hts, hown, hlocks, hA, hG⟩ := id C
  have hK := hG.1
  intro F b x6 x7 H locs ls cells slots hF hP hD hS hl hc hs
  unfold PL_acts_27 at hF
  refine lv_aload_n hx hb dL_acts_27 rfl (lv_at hl 0 rfl) ?_
  refine lv_aload_n hx hb dL_acts_28 rfl (lv_at hl 1 rfl) ?_
  refine lv_aload_n hx hb dL_acts_29 rfl (lv_at hl 2 rfl) ?_
  refine lv_aload hx hb dL_acts_30 (lv_at hl 3 rfl) ?_
  refine lv_iload hx hb dL_acts_32 (lv_at hl 4 rfl) ?_
  refine lv_iconst (v := 5) hx hb dL_acts_34 (by decide) ?_
  refine lv_ishr hx hb dL_acts_35 ?_
  refine lv_iload hx hb dL_acts_36 (lv_at hl 5 rfl) ?_
  refine mb_cW (S := mb_S) hD hS hA (va_runS (As := [.ref o, .ref (ad 0), .ref (ad 1), .ref (ad 3), .int (x6 >>> ((5 : Int32) &&& 31)), .int x7]) (rest := []) ⟨hx, hb, hml, hown, hts⟩ (cnL_begins l hl0 D Y N o a aa ad F b _ (x6 >>> ((5 : Int32) &&& 31)) x7 _ hF) (va_cwS 6 hts gL_acts_L_begins rfl rfl rfl (by decide +kernel) ⟨Nat.le_of_ble_eq_true rfl, Nat.le_of_ble_eq_true rfl⟩) (mbm_pre CM hP hD hS) rfl rfl hl.1 rfl (lv_room (Nat.le_of_ble_eq_true rfl)) dL_acts_38 ⟨by show _ ≤ 1231; omega, by show _ ≤ 7671; omega⟩) (fun r38 u38 H locs hF hP hD hS => ?_)
  have hP : va_P D vwCl (wW Y o a aa ad u38.1 u38.2) H := hP
  have hD : va_D A (wW Y o a aa ad u38.1 u38.2) := hD
  obtain ⟨hz41, hF⟩ := hF
  exact mb_ri (S := mb_S) (mc := 1231) (ms := 7671) (wf := fun u => wW Y o a aa ad u.1 u.2) C (mb_isB_n hz41) (u := (u38.1, u38.2)) hF hP hD hS dL_acts_41 (by omega) (by omega)
noncomputable def PL_acts_225 (N : Nat) (K : Int32 → mb_S → Prop) (F : mb_m) (b : mb_bs) (y0 y1 y2 y3 : Int32) : Prop := (¬ y3 = (y2 + (y1 * y0)) → K (0 : Int32) (b, F)) ∧ (y3 = (y2 + (y1 * y0)) → K (1 : Int32) (b, F))
set_option maxHeartbeats 4000000 in
set_option maxRecDepth 100000 in
theorem wL_acts_225 {p : Program} {l : Launch} {e : Env} {s : State} {m : MethodId} {below : List Frame} {meth : Method} {c : Code} {args : Array Value} {D : va_G} {Y : Nat → ClassId} {A : Nat → Prop} {o : Nat} {a aa ad : Nat → Nat} {N : Nat} {K : Int32 → mb_S → Prop} (CM : mb_CM l p s m meth c args cL_acts 11 (some .boolean) wsL_acts RL D Y A) : ∀ (F : mb_m) (b : mb_bs) (y0 y1 y2 y3 : Int32) (H : Heap) (locs : List Loc) (ls : Array Slot) (cells slots : Nat), PL_acts_225 N K  F b y0 y1 y2 y3 → va_P D vwCl (wW Y o a aa ad b F) H → va_D A (wW Y o a aa ad b F) → va_S A s.heap H locs → lv_has ls 11 [] → cells + (0 + 0) ≤ 1231 → slots + (0 + 0) ≤ 7671 → W p l e ({ frames := 11, cells := 1231, slots := 7671, locals := 224 } : Room) s m args below meth c H locs cells slots (MQ below (va_Qi K (fun u t => mb_T D A (wW Y o a aa ad u.1 u.2) t) A) args s 1231 7671 A) (F0 m 225 ls [.int y0, .int y1, .int y2, .int y3]) := by
  obtain ⟨C, hX, hl0, hN⟩ := id CM
  obtain ⟨hx, hb, hr, hml, hts, hown, hlocks, hA, hG⟩ := id C
  have hK := hG.1
  intro F b y0 y1 y2 y3 H locs ls cells slots hF hP hD hS hl hc hs
  unfold PL_acts_225 at hF
  refine lv_imul hx hb dL_acts_225 ?_
  refine lv_iadd hx hb dL_acts_226 ?_
  refine lv_icmp_ne (tgt := 234) hx hb dL_acts_227 (by decide) (fun c_227 => ?_) (fun c_227 => ?_)
  · have hF := hF.1 c_227
    refine lv_iconst (v := 0) hx hb dL_acts_234 (by decide) ?_
    exact mb_ri (S := mb_S) (mc := 1231) (ms := 7671) (wf := fun u => wW Y o a aa ad u.1 u.2) C rfl (u := (b, F)) hF hP hD hS dL_acts_235 (by omega) (by omega)
  · have hF := hF.2 c_227
    refine lv_iconst (v := 1) hx hb dL_acts_230 (by decide) ?_
    refine lv_goto (tgt := 235) hx hb dL_acts_231 (by decide) ?_
    exact mb_ri (S := mb_S) (mc := 1231) (ms := 7671) (wf := fun u => wW Y o a aa ad u.1 u.2) C rfl (u := (b, F)) hF hP hD hS dL_acts_235 (by omega) (by omega)
noncomputable def PL_acts (N : Nat) (F : mb_m) (b : mb_bs) (x6 x7 : Int32) (K : Int32 → mb_S → Prop) : Prop := PL_low N x6 (20 : Int32) (fun r4 _ => (r4 < (2 : Int32) → PL_acts_27 N K F b x6 x7) ∧ (¬ r4 < (2 : Int32) → vp_in (1 : Int32) 3 ∧ (((F 0 (1 : Int32).toNatClampNeg) = 0 → PL_acts_27 N K F b x6 x7) ∧ (¬ (F 0 (1 : Int32).toNatClampNeg) = 0 → vp_in (2 : Int32) 3 ∧ ((¬ (F 0 (2 : Int32).toNatClampNeg) = 0 → ((6 : Int32) ≤ r4 → (¬ r4 = (6 : Int32) → vp_in (1 : Int32) 3 ∧ (PL_low N (x6 >>> ((5 : Int32) &&& 31)) (F 0 (1 : Int32).toNatClampNeg) (fun r82 _ => ((15 : Int32) ≤ r4 → (¬ r4 = (15 : Int32) → (¬ r4 = (16 : Int32) → (¬ r4 = (17 : Int32) → (¬ r4 = (18 : Int32) → PL_isBook N F b r82 (fun r307 u307 => mb_isB r307 ∧ (K r307 (u307.1, u307.2)))) ∧ (r4 = (18 : Int32) → PL_speaks N F b r82 x7 (fun r297 u297 => mb_isB r297 ∧ (K r297 (u297.1, u297.2))))) ∧ (r4 = (17 : Int32) → PL_repairs N F b r82 x7 (fun r279 u279 => mb_isB r279 ∧ (K r279 (u279.1, u279.2))))) ∧ (r4 = (16 : Int32) → vp_in (2 : Int32) 3 ∧ (PL_low N (x6 >>> ((5 : Int32) &&& 31)) (F 0 (2 : Int32).toNatClampNeg) (fun r253 _ => PL_pares N F b r253 x7 (fun r258 u258 => mb_isB r258 ∧ (K r258 (u258.1, u258.2))))))) ∧ (r4 = (15 : Int32) → PL_low N x7 (3 : Int32) (fun r123 _ => LP_back N b F r82 r123 (fun r126 u126 => PL_low N x7 (3 : Int32) (fun r142 _ => vp_in (((6 : Int32) * r82) + (5 : Int32)) 24 ∧ (∀ M145 : mb_m, M145 = mb_u u126.2 1 (upd (u126.2 1) (((6 : Int32) * r82) + (5 : Int32)).toNatClampNeg r142) → ((r126 < 0 → K (0 : Int32) (u126.1, M145)) ∧ (¬ r126 < 0 → ((3 : Int32) ≤ r126 → K (0 : Int32) (u126.1, M145)) ∧ (¬ (3 : Int32) ≤ r126 → vp_in (((6 : Int32) * r82) + (5 : Int32)) 24 ∧ (LP_back N u126.1 M145 r82 (M145 1 (((6 : Int32) * r82) + (5 : Int32)).toNatClampNeg) (fun r169 u169 => vp_in (((6 : Int32) * r82) + (5 : Int32)) 24 ∧ ((¬ r169 = (u169.2 1 (((6 : Int32) * r82) + (5 : Int32)).toNatClampNeg) → K (0 : Int32) (u169.1, u169.2)) ∧ (r169 = (u169.2 1 (((6 : Int32) * r82) + (5 : Int32)).toNatClampNeg) → LP_strain N u169.1 u169.2 r82 (1 : Int32) (fun r188 u188 => LP_swelling N u188.1 u188.2 r82 (fun r194 u194 => vp_in (((6 : Int32) * r82) + (3 : Int32)) 24 ∧ (PL_low N x7 (3 : Int32) (fun r209 _ => (¬ r209 = 0 → PL_low N x7 (3 : Int32) (fun r222 _ => PL_acts_225 N K u194.2 u194.1 r222 (u194.2 1 (((6 : Int32) * r82) + (3 : Int32)).toNatClampNeg) r194 r188)) ∧ (r209 = 0 → PL_acts_225 N K u194.2 u194.1 (4 : Int32) (u194.2 1 (((6 : Int32) * r82) + (3 : Int32)).toNatClampNeg) r194 r188)))))))))))))))))) ∧ (¬ (15 : Int32) ≤ r4 → PL_sews N F b r82 (x6 >>> ((8 : Int32) &&& 31)) x7 (fun r106 u106 => mb_isB r106 ∧ (K r106 (u106.1, u106.2))))))) ∧ (r4 = (6 : Int32) → PL_arePages N F b x7 (fun r71 u71 => mb_isB r71 ∧ (K r71 (u71.1, u71.2))))) ∧ (¬ (6 : Int32) ≤ r4 → PL_paints N F b (x6 >>> ((5 : Int32) &&& 31)) x7 (fun r57 u57 => mb_isB r57 ∧ (K r57 (u57.1, u57.2))))) ∧ ((F 0 (2 : Int32).toNatClampNeg) = 0 → PL_acts_27 N K F b x6 x7))))))
set_option maxHeartbeats 4000000 in
set_option maxRecDepth 100000 in
theorem cnL_acts (l : Launch) (hl0 : l.stackTraces = false) (D : va_G) (Y : Nat → ClassId) (N : Nat) (o : Nat) (a aa ad : Nat → Nat) (F : mb_m) (b : mb_bs) (sz : Nat) (x6 x7 : Int32) (K : Int32 → mb_S → Prop) (hF : PL_acts N F b x6 x7 K) : Met l yL_acts wsL_acts ({ frames := 11, cells := 1231, slots := 7671, locals := 224 } : Room) (va_Pc [.ref o, .ref (ad 0), .ref (ad 1), .ref (ad 2), .ref (ad 3), .ref (ad 4), .int x6, .int x7] (mb_BL D Y (wW Y o a aa ad b F) sz)) (va_Qi K (fun u t => mb_T D (va_A (wW Y o a aa ad b F) sz) (wW Y o a aa ad u.1 u.2) t) (va_A (wW Y o a aa ad b F) sz)) 1231 7671 (va_A (wW Y o a aa ad b F) sz) := by
  refine mbm_begin (cc := cL_acts) (maxL := 11) (ret := (some .boolean)) hl0 (by decide +kernel) rfl (Nat.le_of_ble_eq_true rfl) ?_
  intro p e s m below meth c ls CM hsz hP hD hl
  generalize hAe : va_A (wW Y o a aa ad b F) sz = A at CM hD ⊢
  have CM : mb_CM l p s m meth c ([.ref o, .ref (ad 0), .ref (ad 1), .ref (ad 2), .ref (ad 3), .ref (ad 4), .int x6, .int x7] : List Value).toArray cL_acts 11 (some .boolean) wsL_acts RL D Y A := CM
  obtain ⟨C, hX, hl0, hN⟩ := id CM
  obtain ⟨hx, hb, hr, hml, hts, hown, hlocks, hA, hG⟩ := id C
  have hK := hG.1
  have hS : va_S A s.heap s.heap [] := va_S.rf
  have hl : lv_has ls 11 [(0, .ref o), (1, .ref (ad 0)), (2, .ref (ad 1)), (3, .ref (ad 2)), (4, .ref (ad 3)), (5, .ref (ad 4)), (6, .int x6), (7, .int x7)] := hl
  unfold PL_acts at hF
  refine lv_iload hx hb dL_acts_0 (lv_at hl 6 rfl) ?_
  refine lv_bipush (v := 20) hx hb dL_acts_2 (by decide) ?_
  refine mb_cE hP hS hA (va_runS (As := [.int x6, .int (20 : Int32)]) (rest := []) ⟨hx, hb, hml, hown, hts⟩ (cnL_low l D Y N _ x6 (20 : Int32) _ hF) (va_cwS 2 hts gL_acts_L_low rfl rfl rfl (by decide +kernel) ⟨Nat.le_of_ble_eq_true rfl, Nat.le_of_ble_eq_true rfl⟩) (mb_preS (A := A) hG mb_P0 mb_D0) rfl rfl hl.1 rfl (lv_room (Nat.le_of_ble_eq_true rfl)) dL_acts_4 ⟨by show _ ≤ 1231; omega, by show _ ≤ 7671; omega⟩) (fun r4 H locs hF hP hS => ?_)
  refine lv_istore (lv' := [(8, .int r4), (0, .ref o), (1, .ref (ad 0)), (2, .ref (ad 1)), (3, .ref (ad 2)), (4, .ref (ad 3)), (5, .ref (ad 4)), (6, .int x6), (7, .int x7)]) hx hb dL_acts_7 hl (by decide) rfl (fun ls hl => ?_)
  refine lv_iload hx hb dL_acts_9 (lv_at hl 0 rfl) ?_
  refine lv_iconst (v := 2) hx hb dL_acts_11 (by decide) ?_
  refine lv_icmp_lt (tgt := 27) hx hb dL_acts_12 (by decide) (fun c_12 => ?_) (fun c_12 => ?_)
  · have hF := hF.1 c_12
    exact wL_acts_27 CM F b x6 x7 _ _ _ _ _ hF hP hD hS (lv_sub hl [1, 2, 3, 5, 7, 8] rfl) (by omega) (by omega)
  · have hF := hF.2 c_12
    refine lv_aload_n hx hb dL_acts_15 rfl (lv_at hl 2 rfl) ?_
    refine lv_iconst (v := 1) hx hb dL_acts_16 (by decide) ?_
    obtain ⟨hi17, hF⟩ := hF
    refine va_iald hx hb hK hP 0 0 rfl rfl hi17 dL_acts_17 ?_
    refine lv_if_eq (tgt := 27) hx hb dL_acts_18 (by decide) (fun c_18 => ?_) (fun c_18 => ?_)
    · have hF := hF.1 c_18
      exact wL_acts_27 CM F b x6 x7 _ _ _ _ _ hF hP hD hS (lv_sub hl [1, 2, 3, 5, 7, 8] rfl) (by omega) (by omega)
    · have hF := hF.2 c_18
      refine lv_aload_n hx hb dL_acts_21 rfl (lv_at hl 2 rfl) ?_
      refine lv_iconst (v := 2) hx hb dL_acts_22 (by decide) ?_
      obtain ⟨hi23, hF⟩ := hF
      refine va_iald hx hb hK hP 0 0 rfl rfl hi23 dL_acts_23 ?_
      refine lv_if_ne (tgt := 42) hx hb dL_acts_24 (by decide) (fun c_24 => ?_) (fun c_24 => ?_)
      · have hF := hF.1 c_24
        refine lv_iload hx hb dL_acts_42 (lv_at hl 0 rfl) ?_
        refine lv_bipush (v := 6) hx hb dL_acts_44 (by decide) ?_
        refine lv_icmp_ge (tgt := 61) hx hb dL_acts_46 (by decide) (fun c_46 => ?_) (fun c_46 => ?_)
        · have hF := hF.1 c_46
          refine lv_iload hx hb dL_acts_61 (lv_at hl 0 rfl) ?_
          refine lv_bipush (v := 6) hx hb dL_acts_63 (by decide) ?_
          refine lv_icmp_ne (tgt := 75) hx hb dL_acts_65 (by decide) (fun c_65 => ?_) (fun c_65 => ?_)
          · have hF := hF.1 c_65
            refine lv_iload hx hb dL_acts_75 (lv_at hl 7 rfl) ?_
            refine lv_iconst (v := 5) hx hb dL_acts_77 (by decide) ?_
            refine lv_ishr hx hb dL_acts_78 ?_
            refine lv_aload_n hx hb dL_acts_79 rfl (lv_at hl 2 rfl) ?_
            refine lv_iconst (v := 1) hx hb dL_acts_80 (by decide) ?_
            obtain ⟨hi81, hF⟩ := hF
            refine va_iald hx hb hK hP 0 0 rfl rfl hi81 dL_acts_81 ?_
            refine mb_cE hP hS hA (va_runS (As := [.int (x6 >>> ((5 : Int32) &&& 31)), .int (F 0 (1 : Int32).toNatClampNeg)]) (rest := []) ⟨hx, hb, hml, hown, hts⟩ (cnL_low l D Y N _ (x6 >>> ((5 : Int32) &&& 31)) (F 0 (1 : Int32).toNatClampNeg) _ hF) (va_cwS 2 hts gL_acts_L_low rfl rfl rfl (by decide +kernel) ⟨Nat.le_of_ble_eq_true rfl, Nat.le_of_ble_eq_true rfl⟩) (mb_preS (A := A) hG mb_P0 mb_D0) rfl rfl hl.1 rfl (lv_room (Nat.le_of_ble_eq_true rfl)) dL_acts_82 ⟨by show _ ≤ 1231; omega, by show _ ≤ 7671; omega⟩) (fun r82 H locs hF hP hS => ?_)
            refine lv_istore (lv' := [(9, .int r82), (8, .int r4), (0, .ref o), (1, .ref (ad 0)), (2, .ref (ad 1)), (3, .ref (ad 2)), (4, .ref (ad 3)), (5, .ref (ad 4)), (6, .int x6), (7, .int x7)]) hx hb dL_acts_85 hl (by decide) rfl (fun ls hl => ?_)
            refine lv_iload hx hb dL_acts_87 (lv_at hl 1 rfl) ?_
            refine lv_bipush (v := 15) hx hb dL_acts_89 (by decide) ?_
            refine lv_icmp_ge (tgt := 110) hx hb dL_acts_91 (by decide) (fun c_91 => ?_) (fun c_91 => ?_)
            · have hF := hF.1 c_91
              refine lv_iload hx hb dL_acts_110 (lv_at hl 1 rfl) ?_
              refine lv_bipush (v := 15) hx hb dL_acts_112 (by decide) ?_
              refine lv_icmp_ne (tgt := 236) hx hb dL_acts_114 (by decide) (fun c_114 => ?_) (fun c_114 => ?_)
              · have hF := hF.1 c_114
                refine lv_iload hx hb dL_acts_236 (lv_at hl 1 rfl) ?_
                refine lv_bipush (v := 16) hx hb dL_acts_238 (by decide) ?_
                refine lv_icmp_ne (tgt := 264) hx hb dL_acts_240 (by decide) (fun c_240 => ?_) (fun c_240 => ?_)
                · have hF := hF.1 c_240
                  refine lv_iload hx hb dL_acts_264 (lv_at hl 1 rfl) ?_
                  refine lv_bipush (v := 17) hx hb dL_acts_266 (by decide) ?_
                  refine lv_icmp_ne (tgt := 285) hx hb dL_acts_268 (by decide) (fun c_268 => ?_) (fun c_268 => ?_)
                  · have hF := hF.1 c_268
                    refine lv_iload hx hb dL_acts_285 (lv_at hl 1 rfl) ?_
                    refine lv_bipush (v := 18) hx hb dL_acts_287 (by decide) ?_
                    refine lv_icmp_ne (tgt := 303) hx hb dL_acts_289 (by decide) (fun c_289 => ?_) (fun c_289 => ?_)
                    · have hF := hF.1 c_289
                      refine lv_aload_n hx hb dL_acts_303 rfl (lv_at hl 2 rfl) ?_
                      refine lv_aload_n hx hb dL_acts_304 rfl (lv_at hl 4 rfl) ?_
                      refine lv_iload hx hb dL_acts_305 (lv_at hl 0 rfl) ?_
                      refine mb_cW (S := mb_S) hD hS hA (va_runS (As := [.ref o, .ref (ad 1), .int r82]) (rest := []) ⟨hx, hb, hml, hown, hts⟩ (cnL_isBook l hl0 D Y N o a aa ad F b _ r82 _ hF) (va_cwS 3 hts gL_acts_L_isBook rfl rfl rfl (by decide +kernel) ⟨Nat.le_of_ble_eq_true rfl, Nat.le_of_ble_eq_true rfl⟩) (mbm_pre CM hP hD hS) rfl rfl hl.1 rfl (lv_room (Nat.le_of_ble_eq_true rfl)) dL_acts_307 ⟨by show _ ≤ 1231; omega, by show _ ≤ 7671; omega⟩) (fun r307 u307 H locs hF hP hD hS => ?_)
                      have hP : va_P D vwCl (wW Y o a aa ad u307.1 u307.2) H := hP
                      have hD : va_D A (wW Y o a aa ad u307.1 u307.2) := hD
                      obtain ⟨hz310, hF⟩ := hF
                      exact mb_ri (S := mb_S) (mc := 1231) (ms := 7671) (wf := fun u => wW Y o a aa ad u.1 u.2) C (mb_isB_n hz310) (u := (u307.1, u307.2)) hF hP hD hS dL_acts_310 (by omega) (by omega)
                    · have hF := hF.2 c_289
                      refine lv_aload_n hx hb dL_acts_292 rfl (lv_at hl 2 rfl) ?_
                      refine lv_iload hx hb dL_acts_293 (lv_at hl 0 rfl) ?_
                      refine lv_iload hx hb dL_acts_295 (lv_at hl 9 rfl) ?_
                      refine mb_cW (S := mb_S) hD hS hA (va_runS (As := [.ref o, .int r82, .int x7]) (rest := []) ⟨hx, hb, hml, hown, hts⟩ (cnL_speaks l hl0 D Y N o a aa ad F b _ r82 x7 _ hF) (va_cwS 3 hts gL_acts_L_speaks rfl rfl rfl (by decide +kernel) ⟨Nat.le_of_ble_eq_true rfl, Nat.le_of_ble_eq_true rfl⟩) (mbm_pre CM hP hD hS) rfl rfl hl.1 rfl (lv_room (Nat.le_of_ble_eq_true rfl)) dL_acts_297 ⟨by show _ ≤ 1231; omega, by show _ ≤ 7671; omega⟩) (fun r297 u297 H locs hF hP hD hS => ?_)
                      have hP : va_P D vwCl (wW Y o a aa ad u297.1 u297.2) H := hP
                      have hD : va_D A (wW Y o a aa ad u297.1 u297.2) := hD
                      refine lv_goto (tgt := 310) hx hb dL_acts_300 (by decide) ?_
                      obtain ⟨hz310, hF⟩ := hF
                      exact mb_ri (S := mb_S) (mc := 1231) (ms := 7671) (wf := fun u => wW Y o a aa ad u.1 u.2) C (mb_isB_n hz310) (u := (u297.1, u297.2)) hF hP hD hS dL_acts_310 (by omega) (by omega)
                  · have hF := hF.2 c_268
                    refine lv_aload_n hx hb dL_acts_271 rfl (lv_at hl 2 rfl) ?_
                    refine lv_aload_n hx hb dL_acts_272 rfl (lv_at hl 4 rfl) ?_
                    refine lv_aload hx hb dL_acts_273 (lv_at hl 7 rfl) ?_
                    refine lv_iload hx hb dL_acts_275 (lv_at hl 0 rfl) ?_
                    refine lv_iload hx hb dL_acts_277 (lv_at hl 9 rfl) ?_
                    refine mb_cW (S := mb_S) hD hS hA (va_runS (As := [.ref o, .ref (ad 1), .ref (ad 4), .int r82, .int x7]) (rest := []) ⟨hx, hb, hml, hown, hts⟩ (cnL_repairs l hl0 D Y N o a aa ad F b _ r82 x7 _ hF) (va_cwS 5 hts gL_acts_L_repairs rfl rfl rfl (by decide +kernel) ⟨Nat.le_of_ble_eq_true rfl, Nat.le_of_ble_eq_true rfl⟩) (mbm_pre CM hP hD hS) rfl rfl hl.1 rfl (lv_room (Nat.le_of_ble_eq_true rfl)) dL_acts_279 ⟨by show _ ≤ 1231; omega, by show _ ≤ 7671; omega⟩) (fun r279 u279 H locs hF hP hD hS => ?_)
                    have hP : va_P D vwCl (wW Y o a aa ad u279.1 u279.2) H := hP
                    have hD : va_D A (wW Y o a aa ad u279.1 u279.2) := hD
                    refine lv_goto (tgt := 310) hx hb dL_acts_282 (by decide) ?_
                    obtain ⟨hz310, hF⟩ := hF
                    exact mb_ri (S := mb_S) (mc := 1231) (ms := 7671) (wf := fun u => wW Y o a aa ad u.1 u.2) C (mb_isB_n hz310) (u := (u279.1, u279.2)) hF hP hD hS dL_acts_310 (by omega) (by omega)
                · have hF := hF.2 c_240
                  refine lv_aload_n hx hb dL_acts_243 rfl (lv_at hl 2 rfl) ?_
                  refine lv_aload hx hb dL_acts_244 (lv_at hl 6 rfl) ?_
                  refine lv_iload hx hb dL_acts_246 (lv_at hl 8 rfl) ?_
                  refine lv_iconst (v := 5) hx hb dL_acts_248 (by decide) ?_
                  refine lv_ishr hx hb dL_acts_249 ?_
                  refine lv_aload_n hx hb dL_acts_250 rfl (lv_at hl 3 rfl) ?_
                  refine lv_iconst (v := 2) hx hb dL_acts_251 (by decide) ?_
                  obtain ⟨hi252, hF⟩ := hF
                  refine va_iald hx hb hK hP 0 0 rfl rfl hi252 dL_acts_252 ?_
                  refine mb_cE hP hS hA (va_runS (As := [.int (x6 >>> ((5 : Int32) &&& 31)), .int (F 0 (2 : Int32).toNatClampNeg)]) (rest := [.ref (ad 3), .ref o]) ⟨hx, hb, hml, hown, hts⟩ (cnL_low l D Y N _ (x6 >>> ((5 : Int32) &&& 31)) (F 0 (2 : Int32).toNatClampNeg) _ hF) (va_cwS 2 hts gL_acts_L_low rfl rfl rfl (by decide +kernel) ⟨Nat.le_of_ble_eq_true rfl, Nat.le_of_ble_eq_true rfl⟩) (mb_preS (A := A) hG mb_P0 mb_D0) rfl rfl hl.1 rfl (lv_room (Nat.le_of_ble_eq_true rfl)) dL_acts_253 ⟨by show _ ≤ 1231; omega, by show _ ≤ 7671; omega⟩) (fun r253 H locs hF hP hS => ?_)
                  refine lv_iload hx hb dL_acts_256 (lv_at hl 9 rfl) ?_
                  refine mb_cW (S := mb_S) hD hS hA (va_runS (As := [.ref o, .ref (ad 3), .int r253, .int x7]) (rest := []) ⟨hx, hb, hml, hown, hts⟩ (cnL_pares l hl0 D Y N o a aa ad F b _ r253 x7 _ hF) (va_cwS 4 hts gL_acts_L_pares rfl rfl rfl (by decide +kernel) ⟨Nat.le_of_ble_eq_true rfl, Nat.le_of_ble_eq_true rfl⟩) (mbm_pre CM hP hD hS) rfl rfl hl.1 rfl (lv_room (Nat.le_of_ble_eq_true rfl)) dL_acts_258 ⟨by show _ ≤ 1231; omega, by show _ ≤ 7671; omega⟩) (fun r258 u258 H locs hF hP hD hS => ?_)
                  have hP : va_P D vwCl (wW Y o a aa ad u258.1 u258.2) H := hP
                  have hD : va_D A (wW Y o a aa ad u258.1 u258.2) := hD
                  refine lv_goto (tgt := 310) hx hb dL_acts_261 (by decide) ?_
                  obtain ⟨hz310, hF⟩ := hF
                  exact mb_ri (S := mb_S) (mc := 1231) (ms := 7671) (wf := fun u => wW Y o a aa ad u.1 u.2) C (mb_isB_n hz310) (u := (u258.1, u258.2)) hF hP hD hS dL_acts_310 (by omega) (by omega)
              · have hF := hF.2 c_114
                refine lv_aload_n hx hb dL_acts_117 rfl (lv_at hl 2 rfl) ?_
                refine lv_iload hx hb dL_acts_118 (lv_at hl 0 rfl) ?_
                refine lv_iload hx hb dL_acts_120 (lv_at hl 9 rfl) ?_
                refine lv_iconst (v := 3) hx hb dL_acts_122 (by decide) ?_
                refine mb_cE hP hS hA (va_runS (As := [.int x7, .int (3 : Int32)]) (rest := [.int r82, .ref o]) ⟨hx, hb, hml, hown, hts⟩ (cnL_low l D Y N _ x7 (3 : Int32) _ hF) (va_cwS 2 hts gL_acts_L_low rfl rfl rfl (by decide +kernel) ⟨Nat.le_of_ble_eq_true rfl, Nat.le_of_ble_eq_true rfl⟩) (mb_preS (A := A) hG mb_P0 mb_D0) rfl rfl hl.1 rfl (lv_room (Nat.le_of_ble_eq_true rfl)) dL_acts_123 ⟨by show _ ≤ 1231; omega, by show _ ≤ 7671; omega⟩) (fun r123 H locs hF hP hS => ?_)
                refine mb_cW (S := mb_S) hD hS hA (vx_runSW (As := [.ref o, .int r82, .int r123]) (rest := []) ⟨hx, hb, hml, hown, hts⟩ (cw_back l hl0 D Y N o a aa ad b F _ r82 r123 _ hF) (vx_cwSW 3 hts gL_acts_L_back rfl rfl rfl (by decide +kernel) ⟨Nat.le_of_ble_eq_true rfl, Nat.le_of_ble_eq_true rfl⟩) (mbm_pre CM hP hD hS) rfl rfl hl.1 rfl (lv_room (Nat.le_of_ble_eq_true rfl)) dL_acts_126 ⟨by show _ ≤ 1231; omega, by show _ ≤ 7671; omega⟩) (fun r126 u126 H locs hF hP hD hS => ?_)
                have hP : va_P D vwCl (wW Y o a aa ad u126.1 u126.2) H := hP
                have hD : va_D A (wW Y o a aa ad u126.1 u126.2) := hD
                refine lv_istore (lv' := [(10, .int r126), (9, .int r82), (8, .int r4), (0, .ref o), (1, .ref (ad 0)), (2, .ref (ad 1)), (3, .ref (ad 2)), (4, .ref (ad 3)), (5, .ref (ad 4)), (6, .int x6), (7, .int x7)]) hx hb dL_acts_129 hl (by decide) rfl (fun ls hl => ?_)
                refine lv_aload_n hx hb dL_acts_131 rfl (lv_at hl 5 rfl) ?_
                refine lv_bipush (v := 6) hx hb dL_acts_132 (by decide) ?_
                refine lv_iload hx hb dL_acts_134 (lv_at hl 1 rfl) ?_
                refine lv_imul hx hb dL_acts_136 ?_
                refine lv_iconst (v := 5) hx hb dL_acts_137 (by decide) ?_
                refine lv_iadd hx hb dL_acts_138 ?_
                refine lv_iload hx hb dL_acts_139 (lv_at hl 10 rfl) ?_
                refine lv_iconst (v := 3) hx hb dL_acts_141 (by decide) ?_
                refine mb_cE hP hS hA (va_runS (As := [.int x7, .int (3 : Int32)]) (rest := [.int (((6 : Int32) * r82) + (5 : Int32)), .ref (ad 1)]) ⟨hx, hb, hml, hown, hts⟩ (cnL_low l D Y N _ x7 (3 : Int32) _ hF) (va_cwS 2 hts gL_acts_L_low rfl rfl rfl (by decide +kernel) ⟨Nat.le_of_ble_eq_true rfl, Nat.le_of_ble_eq_true rfl⟩) (mb_preS (A := A) hG mb_P0 mb_D0) rfl rfl hl.1 rfl (lv_room (Nat.le_of_ble_eq_true rfl)) dL_acts_142 ⟨by show _ ≤ 1231; omega, by show _ ≤ 7671; omega⟩) (fun r142 H locs hF hP hS => ?_)
                obtain ⟨hi145, hF⟩ := hF
                refine va_iast hx hb hK hP hD hS 1 0 rfl rfl hi145 dL_acts_145 (fun H locs hP hD hS => ?_)
                obtain ⟨M145, eM145⟩ : ∃ y : mb_m, y = mb_u u126.2 1 (upd (u126.2 1) (((6 : Int32) * r82) + (5 : Int32)).toNatClampNeg r142) := ⟨_, rfl⟩
                have hF := hF M145 eM145
                have hP : va_P D vwCl (wW Y o a aa ad u126.1 (mb_u u126.2 1 (upd (u126.2 1) (((6 : Int32) * r82) + (5 : Int32)).toNatClampNeg r142))) H := hP
                have hD : va_D A (wW Y o a aa ad u126.1 (mb_u u126.2 1 (upd (u126.2 1) (((6 : Int32) * r82) + (5 : Int32)).toNatClampNeg r142))) := hD
                rw [← eM145] at hP hD
                refine lv_iload hx hb dL_acts_146 (lv_at hl 0 rfl) ?_
                refine lv_if_lt (tgt := 234) hx hb dL_acts_148 (by decide) (fun c_148 => ?_) (fun c_148 => ?_)
                · have hF := hF.1 c_148
                  refine lv_iconst (v := 0) hx hb dL_acts_234 (by decide) ?_
                  exact mb_ri (S := mb_S) (mc := 1231) (ms := 7671) (wf := fun u => wW Y o a aa ad u.1 u.2) C rfl (u := (u126.1, M145)) hF hP hD hS dL_acts_235 (by omega) (by omega)
                · have hF := hF.2 c_148
                  refine lv_iload hx hb dL_acts_151 (lv_at hl 0 rfl) ?_
                  refine lv_iconst (v := 3) hx hb dL_acts_153 (by decide) ?_
                  refine lv_icmp_ge (tgt := 234) hx hb dL_acts_154 (by decide) (fun c_154 => ?_) (fun c_154 => ?_)
                  · have hF := hF.1 c_154
                    refine lv_iconst (v := 0) hx hb dL_acts_234 (by decide) ?_
                    exact mb_ri (S := mb_S) (mc := 1231) (ms := 7671) (wf := fun u => wW Y o a aa ad u.1 u.2) C rfl (u := (u126.1, M145)) hF hP hD hS dL_acts_235 (by omega) (by omega)
                  · have hF := hF.2 c_154
                    refine lv_aload_n hx hb dL_acts_157 rfl (lv_at hl 3 rfl) ?_
                    refine lv_iload hx hb dL_acts_158 (lv_at hl 1 rfl) ?_
                    refine lv_aload_n hx hb dL_acts_160 rfl (lv_at hl 5 rfl) ?_
                    refine lv_bipush (v := 6) hx hb dL_acts_161 (by decide) ?_
                    refine lv_iload hx hb dL_acts_163 (lv_at hl 1 rfl) ?_
                    refine lv_imul hx hb dL_acts_165 ?_
                    refine lv_iconst (v := 5) hx hb dL_acts_166 (by decide) ?_
                    refine lv_iadd hx hb dL_acts_167 ?_
                    obtain ⟨hi168, hF⟩ := hF
                    refine va_iald hx hb hK hP 1 0 rfl rfl hi168 dL_acts_168 ?_
                    refine mb_cW (S := mb_S) hD hS hA (vx_runSW (As := [.ref o, .int r82, .int (M145 1 (((6 : Int32) * r82) + (5 : Int32)).toNatClampNeg)]) (rest := []) ⟨hx, hb, hml, hown, hts⟩ (cw_back l hl0 D Y N o a aa ad u126.1 M145 _ r82 (M145 1 (((6 : Int32) * r82) + (5 : Int32)).toNatClampNeg) _ hF) (vx_cwSW 3 hts gL_acts_L_back rfl rfl rfl (by decide +kernel) ⟨Nat.le_of_ble_eq_true rfl, Nat.le_of_ble_eq_true rfl⟩) (mbm_pre CM hP hD hS) rfl rfl hl.1 rfl (lv_room (Nat.le_of_ble_eq_true rfl)) dL_acts_169 ⟨by show _ ≤ 1231; omega, by show _ ≤ 7671; omega⟩) (fun r169 u169 H locs hF hP hD hS => ?_)
                    have hP : va_P D vwCl (wW Y o a aa ad u169.1 u169.2) H := hP
                    have hD : va_D A (wW Y o a aa ad u169.1 u169.2) := hD
                    refine lv_aload_n hx hb dL_acts_172 rfl (lv_at hl 5 rfl) ?_
                    refine lv_bipush (v := 6) hx hb dL_acts_173 (by decide) ?_
                    refine lv_iload hx hb dL_acts_175 (lv_at hl 1 rfl) ?_
                    refine lv_imul hx hb dL_acts_177 ?_
                    refine lv_iconst (v := 5) hx hb dL_acts_178 (by decide) ?_
                    refine lv_iadd hx hb dL_acts_179 ?_
                    obtain ⟨hi180, hF⟩ := hF
                    refine va_iald hx hb hK hP 1 0 rfl rfl hi180 dL_acts_180 ?_
                    refine lv_icmp_ne (tgt := 234) hx hb dL_acts_181 (by decide) (fun c_181 => ?_) (fun c_181 => ?_)
                    · have hF := hF.1 c_181
                      refine lv_iconst (v := 0) hx hb dL_acts_234 (by decide) ?_
                      exact mb_ri (S := mb_S) (mc := 1231) (ms := 7671) (wf := fun u => wW Y o a aa ad u.1 u.2) C rfl (u := (u169.1, u169.2)) hF hP hD hS dL_acts_235 (by omega) (by omega)
                    · have hF := hF.2 c_181
                      refine lv_aload_n hx hb dL_acts_184 rfl (lv_at hl 3 rfl) ?_
                      refine lv_iload hx hb dL_acts_185 (lv_at hl 1 rfl) ?_
                      refine lv_iconst (v := 1) hx hb dL_acts_187 (by decide) ?_
                      refine mb_cW (S := mb_S) hD hS hA (vx_runSW (As := [.ref o, .int r82, .int (1 : Int32)]) (rest := []) ⟨hx, hb, hml, hown, hts⟩ (cw_strain l hl0 D Y N o a aa ad u169.1 u169.2 _ r82 (1 : Int32) _ hF) (vx_cwSW 3 hts gL_acts_L_strain rfl rfl rfl (by decide +kernel) ⟨Nat.le_of_ble_eq_true rfl, Nat.le_of_ble_eq_true rfl⟩) (mbm_pre CM hP hD hS) rfl rfl hl.1 rfl (lv_room (Nat.le_of_ble_eq_true rfl)) dL_acts_188 ⟨by show _ ≤ 1231; omega, by show _ ≤ 7671; omega⟩) (fun r188 u188 H locs hF hP hD hS => ?_)
                      have hP : va_P D vwCl (wW Y o a aa ad u188.1 u188.2) H := hP
                      have hD : va_D A (wW Y o a aa ad u188.1 u188.2) := hD
                      refine lv_aload_n hx hb dL_acts_191 rfl (lv_at hl 3 rfl) ?_
                      refine lv_iload hx hb dL_acts_192 (lv_at hl 1 rfl) ?_
                      refine mb_cW (S := mb_S) hD hS hA (vx_runSW (As := [.ref o, .int r82]) (rest := [.int r188]) ⟨hx, hb, hml, hown, hts⟩ (cw_swelling l hl0 D Y N o a aa ad u188.1 u188.2 _ r82 _ hF) (vx_cwSW 2 hts gL_acts_L_swelling rfl rfl rfl (by decide +kernel) ⟨Nat.le_of_ble_eq_true rfl, Nat.le_of_ble_eq_true rfl⟩) (mbm_pre CM hP hD hS) rfl rfl hl.1 rfl (lv_room (Nat.le_of_ble_eq_true rfl)) dL_acts_194 ⟨by show _ ≤ 1231; omega, by show _ ≤ 7671; omega⟩) (fun r194 u194 H locs hF hP hD hS => ?_)
                      have hP : va_P D vwCl (wW Y o a aa ad u194.1 u194.2) H := hP
                      have hD : va_D A (wW Y o a aa ad u194.1 u194.2) := hD
                      refine lv_aload_n hx hb dL_acts_197 rfl (lv_at hl 5 rfl) ?_
                      refine lv_bipush (v := 6) hx hb dL_acts_198 (by decide) ?_
                      refine lv_iload hx hb dL_acts_200 (lv_at hl 1 rfl) ?_
                      refine lv_imul hx hb dL_acts_202 ?_
                      refine lv_iconst (v := 3) hx hb dL_acts_203 (by decide) ?_
                      refine lv_iadd hx hb dL_acts_204 ?_
                      obtain ⟨hi205, hF⟩ := hF
                      refine va_iald hx hb hK hP 1 0 rfl rfl hi205 dL_acts_205 ?_
                      refine lv_iload hx hb dL_acts_206 (lv_at hl 10 rfl) ?_
                      refine lv_iconst (v := 3) hx hb dL_acts_208 (by decide) ?_
                      refine mb_cE hP hS hA (va_runS (As := [.int x7, .int (3 : Int32)]) (rest := [.int (u194.2 1 (((6 : Int32) * r82) + (3 : Int32)).toNatClampNeg), .int r194, .int r188]) ⟨hx, hb, hml, hown, hts⟩ (cnL_low l D Y N _ x7 (3 : Int32) _ hF) (va_cwS 2 hts gL_acts_L_low rfl rfl rfl (by decide +kernel) ⟨Nat.le_of_ble_eq_true rfl, Nat.le_of_ble_eq_true rfl⟩) (mb_preS (A := A) hG mb_P0 mb_D0) rfl rfl hl.1 rfl (lv_room (Nat.le_of_ble_eq_true rfl)) dL_acts_209 ⟨by show _ ≤ 1231; omega, by show _ ≤ 7671; omega⟩) (fun r209 H locs hF hP hS => ?_)
                      refine lv_if_ne (tgt := 219) hx hb dL_acts_212 (by decide) (fun c_212 => ?_) (fun c_212 => ?_)
                      · have hF := hF.1 c_212
                        refine lv_iload hx hb dL_acts_219 (lv_at hl 10 rfl) ?_
                        refine lv_iconst (v := 3) hx hb dL_acts_221 (by decide) ?_
                        refine mb_cE hP hS hA (va_runS (As := [.int x7, .int (3 : Int32)]) (rest := [.int (u194.2 1 (((6 : Int32) * r82) + (3 : Int32)).toNatClampNeg), .int r194, .int r188]) ⟨hx, hb, hml, hown, hts⟩ (cnL_low l D Y N _ x7 (3 : Int32) _ hF) (va_cwS 2 hts gL_acts_L_low rfl rfl rfl (by decide +kernel) ⟨Nat.le_of_ble_eq_true rfl, Nat.le_of_ble_eq_true rfl⟩) (mb_preS (A := A) hG mb_P0 mb_D0) rfl rfl hl.1 rfl (lv_room (Nat.le_of_ble_eq_true rfl)) dL_acts_222 ⟨by show _ ≤ 1231; omega, by show _ ≤ 7671; omega⟩) (fun r222 H locs hF hP hS => ?_)
                        exact wL_acts_225 CM u194.2 u194.1 r222 (u194.2 1 (((6 : Int32) * r82) + (3 : Int32)).toNatClampNeg) r194 r188 _ _ _ _ _ hF hP hD hS (lv_sub hl [] rfl) (by omega) (by omega)
                      · have hF := hF.2 c_212
                        refine lv_iconst (v := 4) hx hb dL_acts_215 (by decide) ?_
                        refine lv_goto (tgt := 225) hx hb dL_acts_216 (by decide) ?_
                        exact wL_acts_225 CM u194.2 u194.1 (4 : Int32) (u194.2 1 (((6 : Int32) * r82) + (3 : Int32)).toNatClampNeg) r194 r188 _ _ _ _ _ hF hP hD hS (lv_sub hl [] rfl) (by omega) (by omega)
            · have hF := hF.2 c_91
              refine lv_aload_n hx hb dL_acts_94 rfl (lv_at hl 2 rfl) ?_
              refine lv_aload_n hx hb dL_acts_95 rfl (lv_at hl 4 rfl) ?_
              refine lv_aload_n hx hb dL_acts_96 rfl (lv_at hl 5 rfl) ?_
              refine lv_iload hx hb dL_acts_97 (lv_at hl 0 rfl) ?_
              refine lv_iload hx hb dL_acts_99 (lv_at hl 8 rfl) ?_
              refine lv_bipush (v := 8) hx hb dL_acts_101 (by decide) ?_
              refine lv_ishr hx hb dL_acts_103 ?_
              refine lv_iload hx hb dL_acts_104 (lv_at hl 9 rfl) ?_
              refine mb_cW (S := mb_S) hD hS hA (va_runS (As := [.ref o, .ref (ad 1), .ref (ad 2), .int r82, .int (x6 >>> ((8 : Int32) &&& 31)), .int x7]) (rest := []) ⟨hx, hb, hml, hown, hts⟩ (cnL_sews l hl0 D Y N o a aa ad F b _ r82 (x6 >>> ((8 : Int32) &&& 31)) x7 _ hF) (va_cwS 6 hts gL_acts_L_sews rfl rfl rfl (by decide +kernel) ⟨Nat.le_of_ble_eq_true rfl, Nat.le_of_ble_eq_true rfl⟩) (mbm_pre CM hP hD hS) rfl rfl hl.1 rfl (lv_room (Nat.le_of_ble_eq_true rfl)) dL_acts_106 ⟨by show _ ≤ 1231; omega, by show _ ≤ 7671; omega⟩) (fun r106 u106 H locs hF hP hD hS => ?_)
              have hP : va_P D vwCl (wW Y o a aa ad u106.1 u106.2) H := hP
              have hD : va_D A (wW Y o a aa ad u106.1 u106.2) := hD
              obtain ⟨hz109, hF⟩ := hF
              exact mb_ri (S := mb_S) (mc := 1231) (ms := 7671) (wf := fun u => wW Y o a aa ad u.1 u.2) C (mb_isB_n hz109) (u := (u106.1, u106.2)) hF hP hD hS dL_acts_109 (by omega) (by omega)
          · have hF := hF.2 c_65
            refine lv_aload_n hx hb dL_acts_68 rfl (lv_at hl 1 rfl) ?_
            refine lv_iload hx hb dL_acts_69 (lv_at hl 8 rfl) ?_
            refine mb_cW (S := mb_S) hD hS hA (va_runS (As := [.ref o, .int x7]) (rest := []) ⟨hx, hb, hml, hown, hts⟩ (cnL_arePages l hl0 D Y N o a aa ad F b _ x7 _ hF) (va_cwS 2 hts gL_acts_L_arePages rfl rfl rfl (by decide +kernel) ⟨Nat.le_of_ble_eq_true rfl, Nat.le_of_ble_eq_true rfl⟩) (mbm_pre CM hP hD hS) rfl rfl hl.1 rfl (lv_room (Nat.le_of_ble_eq_true rfl)) dL_acts_71 ⟨by show _ ≤ 1231; omega, by show _ ≤ 7671; omega⟩) (fun r71 u71 H locs hF hP hD hS => ?_)
            have hP : va_P D vwCl (wW Y o a aa ad u71.1 u71.2) H := hP
            have hD : va_D A (wW Y o a aa ad u71.1 u71.2) := hD
            obtain ⟨hz74, hF⟩ := hF
            exact mb_ri (S := mb_S) (mc := 1231) (ms := 7671) (wf := fun u => wW Y o a aa ad u.1 u.2) C (mb_isB_n hz74) (u := (u71.1, u71.2)) hF hP hD hS dL_acts_74 (by omega) (by omega)
        · have hF := hF.2 c_46
          refine lv_aload_n hx hb dL_acts_49 rfl (lv_at hl 1 rfl) ?_
          refine lv_aload_n hx hb dL_acts_50 rfl (lv_at hl 2 rfl) ?_
          refine lv_iload hx hb dL_acts_51 (lv_at hl 7 rfl) ?_
          refine lv_iconst (v := 5) hx hb dL_acts_53 (by decide) ?_
          refine lv_ishr hx hb dL_acts_54 ?_
          refine lv_iload hx hb dL_acts_55 (lv_at hl 8 rfl) ?_
          refine mb_cW (S := mb_S) hD hS hA (va_runS (As := [.ref o, .ref (ad 0), .int (x6 >>> ((5 : Int32) &&& 31)), .int x7]) (rest := []) ⟨hx, hb, hml, hown, hts⟩ (cnL_paints l hl0 D Y N o a aa ad F b _ (x6 >>> ((5 : Int32) &&& 31)) x7 _ hF) (va_cwS 4 hts gL_acts_L_paints rfl rfl rfl (by decide +kernel) ⟨Nat.le_of_ble_eq_true rfl, Nat.le_of_ble_eq_true rfl⟩) (mbm_pre CM hP hD hS) rfl rfl hl.1 rfl (lv_room (Nat.le_of_ble_eq_true rfl)) dL_acts_57 ⟨by show _ ≤ 1231; omega, by show _ ≤ 7671; omega⟩) (fun r57 u57 H locs hF hP hD hS => ?_)
          have hP : va_P D vwCl (wW Y o a aa ad u57.1 u57.2) H := hP
          have hD : va_D A (wW Y o a aa ad u57.1 u57.2) := hD
          obtain ⟨hz60, hF⟩ := hF
          exact mb_ri (S := mb_S) (mc := 1231) (ms := 7671) (wf := fun u => wW Y o a aa ad u.1 u.2) C (mb_isB_n hz60) (u := (u57.1, u57.2)) hF hP hD hS dL_acts_60 (by omega) (by omega)
      · have hF := hF.2 c_24
        exact wL_acts_27 CM F b x6 x7 _ _ _ _ _ hF hP hD hS (lv_sub hl [1, 2, 3, 5, 7, 8] rfl) (by omega) (by omega)
end
