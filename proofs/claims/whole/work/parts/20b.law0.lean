set_option maxHeartbeats 4000000 in
set_option maxRecDepth 100000 in
theorem lc_drop {p : Program} {l : Launch} {e : Env} {s : State} {m : MethodId} {args : Array Value} {below : List Frame} {meth : Method} {c : Code} {H : Heap} {locs : List Loc} {cells slots : Nat} {Q : State → Prop} {D : va_G} {Y : Nat → ClassId} {A : Nat → Prop} {ls : Array Slot} {L : Nat} {xs : Nat → Int32} {bs q om o i : Nat} {am a aa : Nat → Nat} {b : mb_bs} {M : mb_m} {f : Nat → Int64} (C : mb_LC p l s m meth c args L xs bs D Y A) (hi : i + 6 < L) (hc : cells + 14 ≤ 601024) (hs : slots + 369 ≤ 7293034) (hR : Rm b M) (hP : va_P D vwCl (wL Y q f om am M o a aa b) H) (hD : va_D A (wL Y q f om am M o a aa b)) (hS : va_S A s.heap H locs) (hl : lv_has ls 7 [(0, .ref bs), (1, .ref o), (2, .ref om), (3, .ref q), (4, .int (zI i))])
    (kk : lw_K p l e s m args below meth c Q D Y A bs q om am o a aa i cells slots) : W p l e room_1 s m args below meth c H locs cells slots Q (F0 m 172 ls []) := by
  obtain ⟨⟨hx, hb, hr, hml, hts, hown, hlocks, hA, hG⟩, hX, hl0, hN, hX2, hbl, hbA, hL⟩ := id C
  have hK := hG.1
  refine lv_aload_n hx hb dL_law_172 rfl (lv_at hl 1 rfl) ?_
  refine lw_arg 1 C hS (lv_at hl 0 rfl) (lv_at hl 4 rfl) (by omega) (by decide) dL_law_173 dL_law_174 dL_law_176 dL_law_177 dL_law_178 ?_
  refine lw_arg 2 C hS (lv_at hl 0 rfl) (lv_at hl 4 rfl) (by omega) (by decide) dL_law_179 dL_law_180 dL_law_182 dL_law_183 dL_law_184 ?_
  refine lw_arg 3 C hS (lv_at hl 0 rfl) (lv_at hl 4 rfl) (by omega) (by decide) dL_law_185 dL_law_186 dL_law_188 dL_law_189 dL_law_190 ?_
  refine lw_arg 4 C hS (lv_at hl 0 rfl) (lv_at hl 4 rfl) (by omega) (by decide) dL_law_191 dL_law_192 dL_law_194 dL_law_195 dL_law_196 ?_
  refine lv_aload_n hx hb dL_law_197 rfl (lv_at hl 3 rfl) ?_
  refine mb_cW hD hS hA (vx_runSW (As := [.ref o, .int (xs (i + 1)), .int (xs (i + 2)), .int (xs (i + 3)), .int (xs (i + 4)), .ref q]) (rest := []) ⟨hx, hb, hml, hown, hts⟩ (mb_frL (wr := gw8 Y om am M) (WF := fun u : mb_bs × (Nat → Int64) => wL Y q u.2 om am M o a aa u.1) (fun u => u) wL_pL (fun u => wL_pL) (fun _ _ h => h) (cw_drop l hl0 D Y 700 o a aa b q f _ (xs (i + 1)) (xs (i + 2)) (xs (i + 3)) (xs (i + 4)) (fun cd r b => PX8_drop 700 M (xs (i + 1)) (xs (i + 2)) (xs (i + 3)) (xs (i + 4)) (Qe cd r b)) (@s_drop 700 b.1 b.2.1 b.2.2.1 b.2.2.2.1 b.2.2.2.2.1 b.2.2.2.2.2.1 b.2.2.2.2.2.2.1 b.2.2.2.2.2.2.2 M (by decide) hR (xs (i + 1)) (xs (i + 2)) (xs (i + 3)) (xs (i + 4))))) (vx_cwSW 6 hts gL_law_L_drop rfl rfl rfl (by decide +kernel) ⟨(Nat.le_of_ble_eq_true rfl), (Nat.le_of_ble_eq_true rfl)⟩) (lw_preL C hP hD hS) rfl rfl hl.1 rfl (lv_room (Nat.le_of_ble_eq_true rfl)) dL_law_198 ⟨mb_le2 hc (Nat.le_of_ble_eq_true rfl), mb_le2 hs (Nat.le_of_ble_eq_true rfl)⟩) (fun k u H locs hF hP hD hS => ?_)
  obtain ⟨cd, r, hcd, rfl, hF, hout⟩ := hF
  obtain ⟨b1, f1⟩ := u
  have hout : cd = 0 → f1 0 = r.toInt64 := hout
  have hF : PX8_drop 700 M (xs (i + 1)) (xs (i + 2)) (xs (i + 3)) (xs (i + 4)) (Qe cd r b1) := hF
  have hP : va_P D vwCl (wL Y q f1 om am M o a aa b1) H := hP
  have hD : va_D A (wL Y q f1 om am M o a aa b1) := hD
  refine lv_istore (lv' := [(5, .int (zI cd)), (0, .ref bs), (1, .ref o), (2, .ref om), (3, .ref q), (4, .int (zI i))]) hx hb dL_law_201 hl (by decide) rfl (fun ls hl => ?_)
  refine lv_aload_n hx hb dL_law_203 rfl (lv_at hl 3 rfl) ?_
  refine lw_arg 1 C hS (lv_at hl 1 rfl) (lv_at hl 5 rfl) (by omega) (by decide) dL_law_204 dL_law_205 dL_law_207 dL_law_208 dL_law_209 ?_
  refine lw_arg 2 C hS (lv_at hl 1 rfl) (lv_at hl 5 rfl) (by omega) (by decide) dL_law_210 dL_law_211 dL_law_213 dL_law_214 dL_law_215 ?_
  refine lw_arg 3 C hS (lv_at hl 1 rfl) (lv_at hl 5 rfl) (by omega) (by decide) dL_law_216 dL_law_217 dL_law_219 dL_law_220 dL_law_221 ?_
  refine lw_arg 4 C hS (lv_at hl 1 rfl) (lv_at hl 5 rfl) (by omega) (by decide) dL_law_222 dL_law_223 dL_law_225 dL_law_226 dL_law_227 ?_
  refine mb_cW hD hS hA (va_runV (As := [.int (xs (i + 1)), .int (xs (i + 2)), .int (xs (i + 3)), .int (xs (i + 4))]) (rest := []) ⟨hx, hb, hml, hown, hts⟩ (mb_fr (wr := wO Y q f1 ++ wB Y o a aa b1) (WF := fun u : mb_m => wL Y q f1 om am u o a aa b1) (fun u => u) wL_pM (fun u => wL_pM) (fun _ _ h => h) (cnX8_drop l D Y 700 om am M _ (xs (i + 1)) (xs (i + 2)) (xs (i + 3)) (xs (i + 4)) _ hF)) (cwV 4 hts gL_law_X8_drop rfl rfl rfl (by decide +kernel) ⟨(Nat.le_of_ble_eq_true rfl), (Nat.le_of_ble_eq_true rfl)⟩) (mb_preV hG hP hD 1 rfl rfl) rfl rfl hl.1 rfl (lv_room (Nat.le_of_ble_eq_true rfl)) dL_law_228 ⟨by show _ ≤ 601024; omega, by show _ ≤ 7293034; omega⟩) (fun r2 M1 H locs hF hP hD hS => ?_)
  obtain ⟨hm27, hv, hR⟩ := hF
  refine lv_istore (lv' := [(6, .int r2), (5, .int (zI cd)), (0, .ref bs), (1, .ref o), (2, .ref om), (3, .ref q), (4, .int (zI i))]) hx hb dL_law_231 hl (by decide) rfl (fun ls hl => ?_)
  refine lv_aload_n hx hb dL_law_233 rfl (lv_at hl 4 rfl) ?_
  refine mb_cW hD hS hA (va_runV (As := []) (rest := []) ⟨hx, hb, hml, hown, hts⟩ (mb_fr (wr := wO Y q f1 ++ wB Y o a aa b1) (WF := fun u : mb_m => wL Y q f1 om am u o a aa b1) (fun u => u) wL_pM (fun u => wL_pM) (fun _ _ h => h) (cnX8_thrown l D Y 700 om am M1 _ (fun rr MM => rr = zI cd ∧ MM = M1) ⟨hm27, rfl⟩)) (cwV 0 hts gL_law_X8_thrown rfl rfl rfl (by decide +kernel) ⟨(Nat.le_of_ble_eq_true rfl), (Nat.le_of_ble_eq_true rfl)⟩) (mb_preV hG hP hD 1 rfl rfl) rfl rfl hl.1 rfl (lv_room (Nat.le_of_ble_eq_true rfl)) dL_law_234 ⟨by show _ ≤ 601024; omega, by show _ ≤ 7293034; omega⟩) (fun rt M2 H locs hF hP hD hS => ?_)
  obtain ⟨rfl, hM⟩ := hF
  have hM := hM.symm
  subst hM
  refine lv_iload hx hb dL_law_237 (lv_at hl 1 rfl) ?_
  refine lv_icmp_eq (tgt := 244) hx hb dL_law_239 (by decide) (fun _ => ?_) (fun cz => absurd rfl cz)
  refine lv_iload hx hb dL_law_244 (lv_at hl 1 rfl) ?_
  refine lv_if_ne (tgt := 261) hx hb dL_law_246 (by decide) (fun cz => ?_) (fun cz => ?_)
  · refine lv_goto (tgt := 2310) hx hb dL_law_261 (by decide) ?_
    refine W.widen (k := cells + 14) (n := slots + 369) (by omega) (by omega) ?_
    exact kk b1 M1 f1 _ _ _ hR hP hD hS (lv_sub hl [2, 3, 4, 5, 6] rfl)
  · have h0 : cd = 0 := (zI_eq (by omega) (by omega) (by omega) (by omega)).mp (show zI cd = zI 0 from cz)
    have hf1 : f1 ((0 : Int32)).toNatClampNeg = r.toInt64 := hout h0
    have hv := hv h0
    refine lv_aload_n hx hb dL_law_249 rfl (lv_at hl 5 rfl) ?_
    refine lv_iconst (v := 0) hx hb dL_law_250 (by decide) ?_
    refine va_lald hx hb hK hP 0 2 rfl rfl mb_in01 dL_law_251 ?_
    refine lv_iload hx hb dL_law_252 (lv_at hl 0 rfl) ?_
    refine lv_i2l (v := r2.toInt64) hx hb dL_law_254 rfl ?_
    refine W.lcmp hx hb dL_law_255 ?_
    refine lv_if_eq (tgt := 261) hx hb dL_law_256 (by decide) (fun _ => ?_) (fun cy => absurd (mb_cmp (by rw [hf1, hv])) cy)
    refine lv_goto (tgt := 2310) hx hb dL_law_261 (by decide) ?_
    refine W.widen (k := cells + 14) (n := slots + 369) (by omega) (by omega) ?_
    exact kk b1 M1 f1 _ _ _ hR hP hD hS (lv_sub hl [2, 3, 4, 5, 6] rfl)
set_option maxHeartbeats 4000000 in
set_option maxRecDepth 100000 in
theorem lc_comb {p : Program} {l : Launch} {e : Env} {s : State} {m : MethodId} {args : Array Value} {below : List Frame} {meth : Method} {c : Code} {H : Heap} {locs : List Loc} {cells slots : Nat} {Q : State → Prop} {D : va_G} {Y : Nat → ClassId} {A : Nat → Prop} {ls : Array Slot} {L : Nat} {xs : Nat → Int32} {bs q om o i : Nat} {am a aa : Nat → Nat} {b : mb_bs} {M : mb_m} {f : Nat → Int64} (C : mb_LC p l s m meth c args L xs bs D Y A) (hi : i + 6 < L) (hc : cells + 14 ≤ 601024) (hs : slots + 369 ≤ 7293034) (hR : Rm b M) (hP : va_P D vwCl (wL Y q f om am M o a aa b) H) (hD : va_D A (wL Y q f om am M o a aa b)) (hS : va_S A s.heap H locs) (hl : lv_has ls 7 [(0, .ref bs), (1, .ref o), (2, .ref om), (3, .ref q), (4, .int (zI i))])
    (kk : lw_K p l e s m args below meth c Q D Y A bs q om am o a aa i cells slots) : W p l e room_1 s m args below meth c H locs cells slots Q (F0 m 264 ls []) := by
  obtain ⟨⟨hx, hb, hr, hml, hts, hown, hlocks, hA, hG⟩, hX, hl0, hN, hX2, hbl, hbA, hL⟩ := id C
  have hK := hG.1
  refine lv_aload_n hx hb dL_law_264 rfl (lv_at hl 1 rfl) ?_
  refine lw_arg 1 C hS (lv_at hl 0 rfl) (lv_at hl 4 rfl) (by omega) (by decide) dL_law_265 dL_law_266 dL_law_268 dL_law_269 dL_law_270 ?_
  refine lw_bo hx hb dL_law_271 dL_law_274 dL_law_275 dL_law_278 ?_
  refine lw_arg 2 C hS (lv_at hl 0 rfl) (lv_at hl 4 rfl) (by omega) (by decide) dL_law_279 dL_law_280 dL_law_282 dL_law_283 dL_law_284 ?_
  refine lw_arg 3 C hS (lv_at hl 0 rfl) (lv_at hl 4 rfl) (by omega) (by decide) dL_law_285 dL_law_286 dL_law_288 dL_law_289 dL_law_290 ?_
  refine lv_aload_n hx hb dL_law_291 rfl (lv_at hl 3 rfl) ?_
  refine mb_cW hD hS hA (vx_runSW (As := [.ref o, .int (mb_bo (xs (i + 1))), .int (xs (i + 2)), .int (xs (i + 3)), .ref q]) (rest := []) ⟨hx, hb, hml, hown, hts⟩ (mb_frL (wr := gw8 Y om am M) (WF := fun u : mb_bs × (Nat → Int64) => wL Y q u.2 om am M o a aa u.1) (fun u => u) wL_pL (fun u => wL_pL) (fun _ _ h => h) (cw_comb l hl0 D Y 700 o a aa b q f _ (mb_bo (xs (i + 1))) (xs (i + 2)) (xs (i + 3)) (fun cd r b => PX8_comb 700 M (mb_bo (xs (i + 1))) (xs (i + 2)) (xs (i + 3)) (Qe cd r b)) (@s_comb 700 b.1 b.2.1 b.2.2.1 b.2.2.2.1 b.2.2.2.2.1 b.2.2.2.2.2.1 b.2.2.2.2.2.2.1 b.2.2.2.2.2.2.2 M (by decide) hR (mb_bo (xs (i + 1))) (xs (i + 2)) (xs (i + 3))))) (vx_cwSW 5 hts gL_law_L_comb rfl rfl rfl (by decide +kernel) ⟨(Nat.le_of_ble_eq_true rfl), (Nat.le_of_ble_eq_true rfl)⟩) (lw_preL C hP hD hS) rfl rfl hl.1 rfl (lv_room (Nat.le_of_ble_eq_true rfl)) dL_law_292 ⟨mb_le2 hc (Nat.le_of_ble_eq_true rfl), mb_le2 hs (Nat.le_of_ble_eq_true rfl)⟩) (fun k u H locs hF hP hD hS => ?_)
  obtain ⟨cd, r, hcd, rfl, hF, hout⟩ := hF
  obtain ⟨b1, f1⟩ := u
  have hout : cd = 0 → f1 0 = r.toInt64 := hout
  have hF : PX8_comb 700 M (mb_bo (xs (i + 1))) (xs (i + 2)) (xs (i + 3)) (Qe cd r b1) := hF
  have hP : va_P D vwCl (wL Y q f1 om am M o a aa b1) H := hP
  have hD : va_D A (wL Y q f1 om am M o a aa b1) := hD
  refine lv_istore (lv' := [(5, .int (zI cd)), (0, .ref bs), (1, .ref o), (2, .ref om), (3, .ref q), (4, .int (zI i))]) hx hb dL_law_295 hl (by decide) rfl (fun ls hl => ?_)
  refine lv_aload_n hx hb dL_law_297 rfl (lv_at hl 3 rfl) ?_
  refine lw_arg 1 C hS (lv_at hl 1 rfl) (lv_at hl 5 rfl) (by omega) (by decide) dL_law_298 dL_law_299 dL_law_301 dL_law_302 dL_law_303 ?_
  refine lw_bo hx hb dL_law_304 dL_law_307 dL_law_308 dL_law_311 ?_
  refine lw_arg 2 C hS (lv_at hl 1 rfl) (lv_at hl 5 rfl) (by omega) (by decide) dL_law_312 dL_law_313 dL_law_315 dL_law_316 dL_law_317 ?_
  refine lw_arg 3 C hS (lv_at hl 1 rfl) (lv_at hl 5 rfl) (by omega) (by decide) dL_law_318 dL_law_319 dL_law_321 dL_law_322 dL_law_323 ?_
  refine mb_cW hD hS hA (va_runV (As := [.int (mb_bo (xs (i + 1))), .int (xs (i + 2)), .int (xs (i + 3))]) (rest := []) ⟨hx, hb, hml, hown, hts⟩ (mb_fr (wr := wO Y q f1 ++ wB Y o a aa b1) (WF := fun u : mb_m => wL Y q f1 om am u o a aa b1) (fun u => u) wL_pM (fun u => wL_pM) (fun _ _ h => h) (cnX8_comb l D Y 700 om am M _ (mb_bo (xs (i + 1))) (xs (i + 2)) (xs (i + 3)) _ hF)) (cwV 3 hts gL_law_X8_comb rfl rfl rfl (by decide +kernel) ⟨(Nat.le_of_ble_eq_true rfl), (Nat.le_of_ble_eq_true rfl)⟩) (mb_preV hG hP hD 1 rfl rfl) rfl rfl hl.1 rfl (lv_room (Nat.le_of_ble_eq_true rfl)) dL_law_324 ⟨by show _ ≤ 601024; omega, by show _ ≤ 7293034; omega⟩) (fun r2 M1 H locs hF hP hD hS => ?_)
  obtain ⟨hm27, hv, hR⟩ := hF
  refine lv_istore (lv' := [(6, .int r2), (5, .int (zI cd)), (0, .ref bs), (1, .ref o), (2, .ref om), (3, .ref q), (4, .int (zI i))]) hx hb dL_law_327 hl (by decide) rfl (fun ls hl => ?_)
  refine lv_aload_n hx hb dL_law_329 rfl (lv_at hl 4 rfl) ?_
  refine mb_cW hD hS hA (va_runV (As := []) (rest := []) ⟨hx, hb, hml, hown, hts⟩ (mb_fr (wr := wO Y q f1 ++ wB Y o a aa b1) (WF := fun u : mb_m => wL Y q f1 om am u o a aa b1) (fun u => u) wL_pM (fun u => wL_pM) (fun _ _ h => h) (cnX8_thrown l D Y 700 om am M1 _ (fun rr MM => rr = zI cd ∧ MM = M1) ⟨hm27, rfl⟩)) (cwV 0 hts gL_law_X8_thrown rfl rfl rfl (by decide +kernel) ⟨(Nat.le_of_ble_eq_true rfl), (Nat.le_of_ble_eq_true rfl)⟩) (mb_preV hG hP hD 1 rfl rfl) rfl rfl hl.1 rfl (lv_room (Nat.le_of_ble_eq_true rfl)) dL_law_330 ⟨by show _ ≤ 601024; omega, by show _ ≤ 7293034; omega⟩) (fun rt M2 H locs hF hP hD hS => ?_)
  obtain ⟨rfl, hM⟩ := hF
  have hM := hM.symm
  subst hM
  refine lv_iload hx hb dL_law_333 (lv_at hl 1 rfl) ?_
  refine lv_icmp_eq (tgt := 340) hx hb dL_law_335 (by decide) (fun _ => ?_) (fun cz => absurd rfl cz)
  refine lv_iload hx hb dL_law_340 (lv_at hl 1 rfl) ?_
  refine lv_if_ne (tgt := 357) hx hb dL_law_342 (by decide) (fun cz => ?_) (fun cz => ?_)
  · refine lv_goto (tgt := 2310) hx hb dL_law_357 (by decide) ?_
    refine W.widen (k := cells + 14) (n := slots + 369) (by omega) (by omega) ?_
    exact kk b1 M1 f1 _ _ _ hR hP hD hS (lv_sub hl [2, 3, 4, 5, 6] rfl)
  · have h0 : cd = 0 := (zI_eq (by omega) (by omega) (by omega) (by omega)).mp (show zI cd = zI 0 from cz)
    have hf1 : f1 ((0 : Int32)).toNatClampNeg = r.toInt64 := hout h0
    have hv := hv h0
    refine lv_aload_n hx hb dL_law_345 rfl (lv_at hl 5 rfl) ?_
    refine lv_iconst (v := 0) hx hb dL_law_346 (by decide) ?_
    refine va_lald hx hb hK hP 0 2 rfl rfl mb_in01 dL_law_347 ?_
    refine lv_iload hx hb dL_law_348 (lv_at hl 0 rfl) ?_
    refine lv_i2l (v := r2.toInt64) hx hb dL_law_350 rfl ?_
    refine W.lcmp hx hb dL_law_351 ?_
    refine lv_if_eq (tgt := 357) hx hb dL_law_352 (by decide) (fun _ => ?_) (fun cy => absurd (mb_cmp (by rw [hf1, hv])) cy)
    refine lv_goto (tgt := 2310) hx hb dL_law_357 (by decide) ?_
    refine W.widen (k := cells + 14) (n := slots + 369) (by omega) (by omega) ?_
    exact kk b1 M1 f1 _ _ _ hR hP hD hS (lv_sub hl [2, 3, 4, 5, 6] rfl)
set_option maxHeartbeats 4000000 in
set_option maxRecDepth 100000 in
theorem lc_lift {p : Program} {l : Launch} {e : Env} {s : State} {m : MethodId} {args : Array Value} {below : List Frame} {meth : Method} {c : Code} {H : Heap} {locs : List Loc} {cells slots : Nat} {Q : State → Prop} {D : va_G} {Y : Nat → ClassId} {A : Nat → Prop} {ls : Array Slot} {L : Nat} {xs : Nat → Int32} {bs q om o i : Nat} {am a aa : Nat → Nat} {b : mb_bs} {M : mb_m} {f : Nat → Int64} (C : mb_LC p l s m meth c args L xs bs D Y A) (hi : i + 6 < L) (hc : cells + 14 ≤ 601024) (hs : slots + 369 ≤ 7293034) (hR : Rm b M) (hP : va_P D vwCl (wL Y q f om am M o a aa b) H) (hD : va_D A (wL Y q f om am M o a aa b)) (hS : va_S A s.heap H locs) (hl : lv_has ls 7 [(0, .ref bs), (1, .ref o), (2, .ref om), (3, .ref q), (4, .int (zI i))])
    (kk : lw_K p l e s m args below meth c Q D Y A bs q om am o a aa i cells slots) : W p l e room_1 s m args below meth c H locs cells slots Q (F0 m 360 ls []) := by
  obtain ⟨⟨hx, hb, hr, hml, hts, hown, hlocks, hA, hG⟩, hX, hl0, hN, hX2, hbl, hbA, hL⟩ := id C
  have hK := hG.1
  refine lv_aload_n hx hb dL_law_360 rfl (lv_at hl 1 rfl) ?_
  refine lv_aload_n hx hb dL_law_361 rfl (lv_at hl 3 rfl) ?_
  refine mb_cW hD hS hA (vx_runSW (As := [.ref o, .ref q]) (rest := []) ⟨hx, hb, hml, hown, hts⟩ (mb_frL (wr := gw8 Y om am M) (WF := fun u : mb_bs × (Nat → Int64) => wL Y q u.2 om am M o a aa u.1) (fun u => u) wL_pL (fun u => wL_pL) (fun _ _ h => h) (cw_lift l hl0 D Y 700 o a aa b q f _ (fun cd r b => PX8_lift 700 M (Qe cd r b)) (@s_lift 700 b.1 b.2.1 b.2.2.1 b.2.2.2.1 b.2.2.2.2.1 b.2.2.2.2.2.1 b.2.2.2.2.2.2.1 b.2.2.2.2.2.2.2 M (by decide) hR))) (vx_cwSW 2 hts gL_law_L_lift rfl rfl rfl (by decide +kernel) ⟨(Nat.le_of_ble_eq_true rfl), (Nat.le_of_ble_eq_true rfl)⟩) (lw_preL C hP hD hS) rfl rfl hl.1 rfl (lv_room (Nat.le_of_ble_eq_true rfl)) dL_law_362 ⟨mb_le2 hc (Nat.le_of_ble_eq_true rfl), mb_le2 hs (Nat.le_of_ble_eq_true rfl)⟩) (fun k u H locs hF hP hD hS => ?_)
  obtain ⟨cd, r, hcd, rfl, hF, hout⟩ := hF
  obtain ⟨b1, f1⟩ := u
  have hout : cd = 0 → f1 0 = r.toInt64 := hout
  have hF : PX8_lift 700 M (Qe cd r b1) := hF
  have hP : va_P D vwCl (wL Y q f1 om am M o a aa b1) H := hP
  have hD : va_D A (wL Y q f1 om am M o a aa b1) := hD
  refine lv_istore (lv' := [(5, .int (zI cd)), (0, .ref bs), (1, .ref o), (2, .ref om), (3, .ref q), (4, .int (zI i))]) hx hb dL_law_365 hl (by decide) rfl (fun ls hl => ?_)
  refine lv_aload_n hx hb dL_law_367 rfl (lv_at hl 3 rfl) ?_
  refine mb_cW hD hS hA (va_runV (As := []) (rest := []) ⟨hx, hb, hml, hown, hts⟩ (mb_fr (wr := wO Y q f1 ++ wB Y o a aa b1) (WF := fun u : mb_m => wL Y q f1 om am u o a aa b1) (fun u => u) wL_pM (fun u => wL_pM) (fun _ _ h => h) (cnX8_lift l D Y 700 om am M _ _ hF)) (cwV 0 hts gL_law_X8_lift rfl rfl rfl (by decide +kernel) ⟨(Nat.le_of_ble_eq_true rfl), (Nat.le_of_ble_eq_true rfl)⟩) (mb_preV hG hP hD 1 rfl rfl) rfl rfl hl.1 rfl (lv_room (Nat.le_of_ble_eq_true rfl)) dL_law_368 ⟨by show _ ≤ 601024; omega, by show _ ≤ 7293034; omega⟩) (fun r2 M1 H locs hF hP hD hS => ?_)
  obtain ⟨hm27, hv, hR⟩ := hF
  refine lv_istore (lv' := [(6, .int r2), (5, .int (zI cd)), (0, .ref bs), (1, .ref o), (2, .ref om), (3, .ref q), (4, .int (zI i))]) hx hb dL_law_371 hl (by decide) rfl (fun ls hl => ?_)
  refine lv_aload_n hx hb dL_law_373 rfl (lv_at hl 4 rfl) ?_
  refine mb_cW hD hS hA (va_runV (As := []) (rest := []) ⟨hx, hb, hml, hown, hts⟩ (mb_fr (wr := wO Y q f1 ++ wB Y o a aa b1) (WF := fun u : mb_m => wL Y q f1 om am u o a aa b1) (fun u => u) wL_pM (fun u => wL_pM) (fun _ _ h => h) (cnX8_thrown l D Y 700 om am M1 _ (fun rr MM => rr = zI cd ∧ MM = M1) ⟨hm27, rfl⟩)) (cwV 0 hts gL_law_X8_thrown rfl rfl rfl (by decide +kernel) ⟨(Nat.le_of_ble_eq_true rfl), (Nat.le_of_ble_eq_true rfl)⟩) (mb_preV hG hP hD 1 rfl rfl) rfl rfl hl.1 rfl (lv_room (Nat.le_of_ble_eq_true rfl)) dL_law_374 ⟨by show _ ≤ 601024; omega, by show _ ≤ 7293034; omega⟩) (fun rt M2 H locs hF hP hD hS => ?_)
  obtain ⟨rfl, hM⟩ := hF
  have hM := hM.symm
  subst hM
  refine lv_iload hx hb dL_law_377 (lv_at hl 1 rfl) ?_
  refine lv_icmp_eq (tgt := 384) hx hb dL_law_379 (by decide) (fun _ => ?_) (fun cz => absurd rfl cz)
  refine lv_iload hx hb dL_law_384 (lv_at hl 1 rfl) ?_
  refine lv_if_ne (tgt := 401) hx hb dL_law_386 (by decide) (fun cz => ?_) (fun cz => ?_)
  · refine lv_goto (tgt := 2310) hx hb dL_law_401 (by decide) ?_
    refine W.widen (k := cells + 14) (n := slots + 369) (by omega) (by omega) ?_
    exact kk b1 M1 f1 _ _ _ hR hP hD hS (lv_sub hl [2, 3, 4, 5, 6] rfl)
  · have h0 : cd = 0 := (zI_eq (by omega) (by omega) (by omega) (by omega)).mp (show zI cd = zI 0 from cz)
    have hf1 : f1 ((0 : Int32)).toNatClampNeg = r.toInt64 := hout h0
    have hv := hv h0
    refine lv_aload_n hx hb dL_law_389 rfl (lv_at hl 5 rfl) ?_
    refine lv_iconst (v := 0) hx hb dL_law_390 (by decide) ?_
    refine va_lald hx hb hK hP 0 2 rfl rfl mb_in01 dL_law_391 ?_
    refine lv_iload hx hb dL_law_392 (lv_at hl 0 rfl) ?_
    refine lv_i2l (v := r2.toInt64) hx hb dL_law_394 rfl ?_
    refine W.lcmp hx hb dL_law_395 ?_
    refine lv_if_eq (tgt := 401) hx hb dL_law_396 (by decide) (fun _ => ?_) (fun cy => absurd (mb_cmp (by rw [hf1, hv])) cy)
    refine lv_goto (tgt := 2310) hx hb dL_law_401 (by decide) ?_
    refine W.widen (k := cells + 14) (n := slots + 369) (by omega) (by omega) ?_
    exact kk b1 M1 f1 _ _ _ hR hP hD hS (lv_sub hl [2, 3, 4, 5, 6] rfl)
set_option maxHeartbeats 4000000 in
set_option maxRecDepth 100000 in
theorem lc_clean {p : Program} {l : Launch} {e : Env} {s : State} {m : MethodId} {args : Array Value} {below : List Frame} {meth : Method} {c : Code} {H : Heap} {locs : List Loc} {cells slots : Nat} {Q : State → Prop} {D : va_G} {Y : Nat → ClassId} {A : Nat → Prop} {ls : Array Slot} {L : Nat} {xs : Nat → Int32} {bs q om o i : Nat} {am a aa : Nat → Nat} {b : mb_bs} {M : mb_m} {f : Nat → Int64} (C : mb_LC p l s m meth c args L xs bs D Y A) (hi : i + 6 < L) (hc : cells + 14 ≤ 601024) (hs : slots + 369 ≤ 7293034) (hR : Rm b M) (hP : va_P D vwCl (wL Y q f om am M o a aa b) H) (hD : va_D A (wL Y q f om am M o a aa b)) (hS : va_S A s.heap H locs) (hl : lv_has ls 7 [(0, .ref bs), (1, .ref o), (2, .ref om), (3, .ref q), (4, .int (zI i))])
    (kk : lw_K p l e s m args below meth c Q D Y A bs q om am o a aa i cells slots) : W p l e room_1 s m args below meth c H locs cells slots Q (F0 m 404 ls []) := by
  obtain ⟨⟨hx, hb, hr, hml, hts, hown, hlocks, hA, hG⟩, hX, hl0, hN, hX2, hbl, hbA, hL⟩ := id C
  have hK := hG.1
  refine lv_aload_n hx hb dL_law_404 rfl (lv_at hl 1 rfl) ?_
  refine mb_cW hD hS hA (va_runV (As := []) (rest := []) ⟨hx, hb, hml, hown, hts⟩ (mb_fr (wr := wO Y q f ++ gw8 Y om am M) (WF := fun u : mb_bs => wL Y q f om am M o a aa u) (fun u => u) wL_pB (fun u => wL_pB) (fun _ _ h => h) (cf_clean l D Y 700 o a aa _ _ _ _ _ _ _ _ _ (fun r b => PX8_clean 700 M (Qe 0 r b)) (@s_clean 700 b.1 b.2.1 b.2.2.1 b.2.2.2.1 b.2.2.2.2.1 b.2.2.2.2.2.1 b.2.2.2.2.2.2.1 b.2.2.2.2.2.2.2 M (by decide) hR))) (cwV 0 hts gL_law_X7_clean rfl rfl rfl (by decide +kernel) ⟨(Nat.le_of_ble_eq_true rfl), (Nat.le_of_ble_eq_true rfl)⟩) (mb_preV hG hP hD 22 rfl rfl) rfl rfl hl.1 rfl (lv_room (Nat.le_of_ble_eq_true rfl)) dL_law_405 ⟨mb_le2 hc (Nat.le_of_ble_eq_true rfl), mb_le2 hs (Nat.le_of_ble_eq_true rfl)⟩) (fun r b1 H locs hF hP hD hS => ?_)
  refine lv_aload_n hx hb dL_law_408 rfl (lv_at hl 2 rfl) ?_
  refine mb_cW hD hS hA (va_runV (As := []) (rest := [.int r]) ⟨hx, hb, hml, hown, hts⟩ (mb_fr (wr := wO Y q f ++ wB Y o a aa b1) (WF := fun u : mb_m => wL Y q f om am u o a aa b1) (fun u => u) wL_pM (fun u => wL_pM) (fun _ _ h => h) (cnX8_clean l D Y 700 om am M _ _ hF)) (cwV 0 hts gL_law_X8_clean rfl rfl rfl (by decide +kernel) ⟨(Nat.le_of_ble_eq_true rfl), (Nat.le_of_ble_eq_true rfl)⟩) (mb_preV hG hP hD 1 rfl rfl) rfl rfl hl.1 rfl (lv_room (Nat.le_of_ble_eq_true rfl)) dL_law_409 ⟨by show _ ≤ 601024; omega, by show _ ≤ 7293034; omega⟩) (fun r2 M1 H locs hF hP hD hS => ?_)
  obtain ⟨hm27, hv, hR⟩ := hF
  have hv := hv rfl
  refine lv_icmp_eq (tgt := 2310) hx hb dL_law_412 (by decide) (fun _ => ?_) (fun cz => absurd hv.symm cz)
  refine W.widen (k := cells + 14) (n := slots + 369) (by omega) (by omega) ?_
  exact kk b1 M1 f _ _ _ hR hP hD hS hl
set_option maxHeartbeats 4000000 in
set_option maxRecDepth 100000 in
theorem lc_cellAt {p : Program} {l : Launch} {e : Env} {s : State} {m : MethodId} {args : Array Value} {below : List Frame} {meth : Method} {c : Code} {H : Heap} {locs : List Loc} {cells slots : Nat} {Q : State → Prop} {D : va_G} {Y : Nat → ClassId} {A : Nat → Prop} {ls : Array Slot} {L : Nat} {xs : Nat → Int32} {bs q om o i : Nat} {am a aa : Nat → Nat} {b : mb_bs} {M : mb_m} {f : Nat → Int64} (C : mb_LC p l s m meth c args L xs bs D Y A) (hi : i + 6 < L) (hc : cells + 14 ≤ 601024) (hs : slots + 369 ≤ 7293034) (hR : Rm b M) (hP : va_P D vwCl (wL Y q f om am M o a aa b) H) (hD : va_D A (wL Y q f om am M o a aa b)) (hS : va_S A s.heap H locs) (hl : lv_has ls 7 [(0, .ref bs), (1, .ref o), (2, .ref om), (3, .ref q), (4, .int (zI i))])
    (kk : lw_K p l e s m args below meth c Q D Y A bs q om am o a aa i cells slots) : W p l e room_1 s m args below meth c H locs cells slots Q (F0 m 417 ls []) := by
  obtain ⟨⟨hx, hb, hr, hml, hts, hown, hlocks, hA, hG⟩, hX, hl0, hN, hX2, hbl, hbA, hL⟩ := id C
  have hK := hG.1
  refine lv_aload_n hx hb dL_law_417 rfl (lv_at hl 1 rfl) ?_
  refine lw_arg 1 C hS (lv_at hl 0 rfl) (lv_at hl 4 rfl) (by omega) (by decide) dL_law_418 dL_law_419 dL_law_421 dL_law_422 dL_law_423 ?_
  refine lw_arg 2 C hS (lv_at hl 0 rfl) (lv_at hl 4 rfl) (by omega) (by decide) dL_law_424 dL_law_425 dL_law_427 dL_law_428 dL_law_429 ?_
  refine lw_arg 3 C hS (lv_at hl 0 rfl) (lv_at hl 4 rfl) (by omega) (by decide) dL_law_430 dL_law_431 dL_law_433 dL_law_434 dL_law_435 ?_
  refine lv_aload_n hx hb dL_law_436 rfl (lv_at hl 3 rfl) ?_
  refine mb_cW hD hS hA (vx_runSW (As := [.ref o, .int (xs (i + 1)), .int (xs (i + 2)), .int (xs (i + 3)), .ref q]) (rest := []) ⟨hx, hb, hml, hown, hts⟩ (mb_frL (wr := gw8 Y om am M) (WF := fun u : mb_bs × (Nat → Int64) => wL Y q u.2 om am M o a aa u.1) (fun u => u) wL_pL (fun u => wL_pL) (fun _ _ h => h) (cw_cellAt l hl0 D Y 700 o a aa b q f _ (xs (i + 1)) (xs (i + 2)) (xs (i + 3)) (fun cd r b => PX8_cellAt 700 M (xs (i + 1)) (xs (i + 2)) (xs (i + 3)) (Qe cd r b)) (@s_cellAt 700 b.1 b.2.1 b.2.2.1 b.2.2.2.1 b.2.2.2.2.1 b.2.2.2.2.2.1 b.2.2.2.2.2.2.1 b.2.2.2.2.2.2.2 M (by decide) hR (xs (i + 1)) (xs (i + 2)) (xs (i + 3))))) (vx_cwSW 5 hts gL_law_L_cellAt rfl rfl rfl (by decide +kernel) ⟨(Nat.le_of_ble_eq_true rfl), (Nat.le_of_ble_eq_true rfl)⟩) (lw_preL C hP hD hS) rfl rfl hl.1 rfl (lv_room (Nat.le_of_ble_eq_true rfl)) dL_law_437 ⟨mb_le2 hc (Nat.le_of_ble_eq_true rfl), mb_le2 hs (Nat.le_of_ble_eq_true rfl)⟩) (fun k u H locs hF hP hD hS => ?_)
  obtain ⟨cd, r, hcd, rfl, hF, hout⟩ := hF
  obtain ⟨b1, f1⟩ := u
  have hout : cd = 0 → f1 0 = r.toInt64 := hout
  have hF : PX8_cellAt 700 M (xs (i + 1)) (xs (i + 2)) (xs (i + 3)) (Qe cd r b1) := hF
  have hP : va_P D vwCl (wL Y q f1 om am M o a aa b1) H := hP
  have hD : va_D A (wL Y q f1 om am M o a aa b1) := hD
  refine lv_istore (lv' := [(5, .int (zI cd)), (0, .ref bs), (1, .ref o), (2, .ref om), (3, .ref q), (4, .int (zI i))]) hx hb dL_law_440 hl (by decide) rfl (fun ls hl => ?_)
  refine lv_aload_n hx hb dL_law_442 rfl (lv_at hl 3 rfl) ?_
  refine lw_arg 1 C hS (lv_at hl 1 rfl) (lv_at hl 5 rfl) (by omega) (by decide) dL_law_443 dL_law_444 dL_law_446 dL_law_447 dL_law_448 ?_
  refine lw_arg 2 C hS (lv_at hl 1 rfl) (lv_at hl 5 rfl) (by omega) (by decide) dL_law_449 dL_law_450 dL_law_452 dL_law_453 dL_law_454 ?_
  refine lw_arg 3 C hS (lv_at hl 1 rfl) (lv_at hl 5 rfl) (by omega) (by decide) dL_law_455 dL_law_456 dL_law_458 dL_law_459 dL_law_460 ?_
  refine mb_cW hD hS hA (va_runV (As := [.int (xs (i + 1)), .int (xs (i + 2)), .int (xs (i + 3))]) (rest := []) ⟨hx, hb, hml, hown, hts⟩ (mb_fr (wr := wO Y q f1 ++ wB Y o a aa b1) (WF := fun u : mb_m => wL Y q f1 om am u o a aa b1) (fun u => u) wL_pM (fun u => wL_pM) (fun _ _ h => h) (cnX8_cellAt l D Y 700 om am M _ (xs (i + 1)) (xs (i + 2)) (xs (i + 3)) _ hF)) (cwV 3 hts gL_law_X8_cellAt rfl rfl rfl (by decide +kernel) ⟨(Nat.le_of_ble_eq_true rfl), (Nat.le_of_ble_eq_true rfl)⟩) (mb_preV hG hP hD 1 rfl rfl) rfl rfl hl.1 rfl (lv_room (Nat.le_of_ble_eq_true rfl)) dL_law_461 ⟨by show _ ≤ 601024; omega, by show _ ≤ 7293034; omega⟩) (fun r2 M1 H locs hF hP hD hS => ?_)
  obtain ⟨hm27, hv, hR⟩ := hF
  refine lv_istore (lv' := [(6, .int r2), (5, .int (zI cd)), (0, .ref bs), (1, .ref o), (2, .ref om), (3, .ref q), (4, .int (zI i))]) hx hb dL_law_464 hl (by decide) rfl (fun ls hl => ?_)
  refine lv_aload_n hx hb dL_law_466 rfl (lv_at hl 4 rfl) ?_
  refine mb_cW hD hS hA (va_runV (As := []) (rest := []) ⟨hx, hb, hml, hown, hts⟩ (mb_fr (wr := wO Y q f1 ++ wB Y o a aa b1) (WF := fun u : mb_m => wL Y q f1 om am u o a aa b1) (fun u => u) wL_pM (fun u => wL_pM) (fun _ _ h => h) (cnX8_thrown l D Y 700 om am M1 _ (fun rr MM => rr = zI cd ∧ MM = M1) ⟨hm27, rfl⟩)) (cwV 0 hts gL_law_X8_thrown rfl rfl rfl (by decide +kernel) ⟨(Nat.le_of_ble_eq_true rfl), (Nat.le_of_ble_eq_true rfl)⟩) (mb_preV hG hP hD 1 rfl rfl) rfl rfl hl.1 rfl (lv_room (Nat.le_of_ble_eq_true rfl)) dL_law_467 ⟨by show _ ≤ 601024; omega, by show _ ≤ 7293034; omega⟩) (fun rt M2 H locs hF hP hD hS => ?_)
  obtain ⟨rfl, hM⟩ := hF
  have hM := hM.symm
  subst hM
  refine lv_iload hx hb dL_law_470 (lv_at hl 1 rfl) ?_
  refine lv_icmp_eq (tgt := 477) hx hb dL_law_472 (by decide) (fun _ => ?_) (fun cz => absurd rfl cz)
  refine lv_iload hx hb dL_law_477 (lv_at hl 1 rfl) ?_
  refine lv_if_ne (tgt := 494) hx hb dL_law_479 (by decide) (fun cz => ?_) (fun cz => ?_)
  · refine lv_goto (tgt := 2310) hx hb dL_law_494 (by decide) ?_
    refine W.widen (k := cells + 14) (n := slots + 369) (by omega) (by omega) ?_
    exact kk b1 M1 f1 _ _ _ hR hP hD hS (lv_sub hl [2, 3, 4, 5, 6] rfl)
  · have h0 : cd = 0 := (zI_eq (by omega) (by omega) (by omega) (by omega)).mp (show zI cd = zI 0 from cz)
    have hf1 : f1 ((0 : Int32)).toNatClampNeg = r.toInt64 := hout h0
    have hv := hv h0
    refine lv_aload_n hx hb dL_law_482 rfl (lv_at hl 5 rfl) ?_
    refine lv_iconst (v := 0) hx hb dL_law_483 (by decide) ?_
    refine va_lald hx hb hK hP 0 2 rfl rfl mb_in01 dL_law_484 ?_
    refine lv_iload hx hb dL_law_485 (lv_at hl 0 rfl) ?_
    refine lv_i2l (v := r2.toInt64) hx hb dL_law_487 rfl ?_
    refine W.lcmp hx hb dL_law_488 ?_
    refine lv_if_eq (tgt := 494) hx hb dL_law_489 (by decide) (fun _ => ?_) (fun cy => absurd (mb_cmp (by rw [hf1, hv])) cy)
    refine lv_goto (tgt := 2310) hx hb dL_law_494 (by decide) ?_
    refine W.widen (k := cells + 14) (n := slots + 369) (by omega) (by omega) ?_
    exact kk b1 M1 f1 _ _ _ hR hP hD hS (lv_sub hl [2, 3, 4, 5, 6] rfl)
set_option maxHeartbeats 4000000 in
set_option maxRecDepth 100000 in
theorem lc_printAt {p : Program} {l : Launch} {e : Env} {s : State} {m : MethodId} {args : Array Value} {below : List Frame} {meth : Method} {c : Code} {H : Heap} {locs : List Loc} {cells slots : Nat} {Q : State → Prop} {D : va_G} {Y : Nat → ClassId} {A : Nat → Prop} {ls : Array Slot} {L : Nat} {xs : Nat → Int32} {bs q om o i : Nat} {am a aa : Nat → Nat} {b : mb_bs} {M : mb_m} {f : Nat → Int64} (C : mb_LC p l s m meth c args L xs bs D Y A) (hi : i + 6 < L) (hc : cells + 14 ≤ 601024) (hs : slots + 369 ≤ 7293034) (hR : Rm b M) (hP : va_P D vwCl (wL Y q f om am M o a aa b) H) (hD : va_D A (wL Y q f om am M o a aa b)) (hS : va_S A s.heap H locs) (hl : lv_has ls 7 [(0, .ref bs), (1, .ref o), (2, .ref om), (3, .ref q), (4, .int (zI i))])
    (kk : lw_K p l e s m args below meth c Q D Y A bs q om am o a aa i cells slots) : W p l e room_1 s m args below meth c H locs cells slots Q (F0 m 497 ls []) := by
  obtain ⟨⟨hx, hb, hr, hml, hts, hown, hlocks, hA, hG⟩, hX, hl0, hN, hX2, hbl, hbA, hL⟩ := id C
  have hK := hG.1
  refine lv_aload_n hx hb dL_law_497 rfl (lv_at hl 1 rfl) ?_
  refine lw_arg 1 C hS (lv_at hl 0 rfl) (lv_at hl 4 rfl) (by omega) (by decide) dL_law_498 dL_law_499 dL_law_501 dL_law_502 dL_law_503 ?_
  refine lw_arg 2 C hS (lv_at hl 0 rfl) (lv_at hl 4 rfl) (by omega) (by decide) dL_law_504 dL_law_505 dL_law_507 dL_law_508 dL_law_509 ?_
  refine lw_arg 3 C hS (lv_at hl 0 rfl) (lv_at hl 4 rfl) (by omega) (by decide) dL_law_510 dL_law_511 dL_law_513 dL_law_514 dL_law_515 ?_
  refine lv_aload_n hx hb dL_law_516 rfl (lv_at hl 3 rfl) ?_
  refine mb_cW hD hS hA (vx_runSW (As := [.ref o, .int (xs (i + 1)), .int (xs (i + 2)), .int (xs (i + 3)), .ref q]) (rest := []) ⟨hx, hb, hml, hown, hts⟩ (mb_frL (wr := gw8 Y om am M) (WF := fun u : mb_bs × (Nat → Int64) => wL Y q u.2 om am M o a aa u.1) (fun u => u) wL_pL (fun u => wL_pL) (fun _ _ h => h) (cw_printAt l hl0 D Y 700 o a aa b q f _ (xs (i + 1)) (xs (i + 2)) (xs (i + 3)) (fun cd r b => PX8_printAt 700 M (xs (i + 1)) (xs (i + 2)) (xs (i + 3)) (Qe cd r b)) (@s_printAt 700 b.1 b.2.1 b.2.2.1 b.2.2.2.1 b.2.2.2.2.1 b.2.2.2.2.2.1 b.2.2.2.2.2.2.1 b.2.2.2.2.2.2.2 M (by decide) hR (xs (i + 1)) (xs (i + 2)) (xs (i + 3))))) (vx_cwSW 5 hts gL_law_L_printAt rfl rfl rfl (by decide +kernel) ⟨(Nat.le_of_ble_eq_true rfl), (Nat.le_of_ble_eq_true rfl)⟩) (lw_preL C hP hD hS) rfl rfl hl.1 rfl (lv_room (Nat.le_of_ble_eq_true rfl)) dL_law_517 ⟨mb_le2 hc (Nat.le_of_ble_eq_true rfl), mb_le2 hs (Nat.le_of_ble_eq_true rfl)⟩) (fun k u H locs hF hP hD hS => ?_)
  obtain ⟨cd, r, hcd, rfl, hF, hout⟩ := hF
  obtain ⟨b1, f1⟩ := u
  have hout : cd = 0 → f1 0 = r.toInt64 := hout
  have hF : PX8_printAt 700 M (xs (i + 1)) (xs (i + 2)) (xs (i + 3)) (Qe cd r b1) := hF
  have hP : va_P D vwCl (wL Y q f1 om am M o a aa b1) H := hP
  have hD : va_D A (wL Y q f1 om am M o a aa b1) := hD
  refine lv_istore (lv' := [(5, .int (zI cd)), (0, .ref bs), (1, .ref o), (2, .ref om), (3, .ref q), (4, .int (zI i))]) hx hb dL_law_520 hl (by decide) rfl (fun ls hl => ?_)
  refine lv_aload_n hx hb dL_law_522 rfl (lv_at hl 3 rfl) ?_
  refine lw_arg 1 C hS (lv_at hl 1 rfl) (lv_at hl 5 rfl) (by omega) (by decide) dL_law_523 dL_law_524 dL_law_526 dL_law_527 dL_law_528 ?_
  refine lw_arg 2 C hS (lv_at hl 1 rfl) (lv_at hl 5 rfl) (by omega) (by decide) dL_law_529 dL_law_530 dL_law_532 dL_law_533 dL_law_534 ?_
  refine lw_arg 3 C hS (lv_at hl 1 rfl) (lv_at hl 5 rfl) (by omega) (by decide) dL_law_535 dL_law_536 dL_law_538 dL_law_539 dL_law_540 ?_
  refine mb_cW hD hS hA (va_runV (As := [.int (xs (i + 1)), .int (xs (i + 2)), .int (xs (i + 3))]) (rest := []) ⟨hx, hb, hml, hown, hts⟩ (mb_fr (wr := wO Y q f1 ++ wB Y o a aa b1) (WF := fun u : mb_m => wL Y q f1 om am u o a aa b1) (fun u => u) wL_pM (fun u => wL_pM) (fun _ _ h => h) (cnX8_printAt l D Y 700 om am M _ (xs (i + 1)) (xs (i + 2)) (xs (i + 3)) _ hF)) (cwV 3 hts gL_law_X8_printAt rfl rfl rfl (by decide +kernel) ⟨(Nat.le_of_ble_eq_true rfl), (Nat.le_of_ble_eq_true rfl)⟩) (mb_preV hG hP hD 1 rfl rfl) rfl rfl hl.1 rfl (lv_room (Nat.le_of_ble_eq_true rfl)) dL_law_541 ⟨by show _ ≤ 601024; omega, by show _ ≤ 7293034; omega⟩) (fun r2 M1 H locs hF hP hD hS => ?_)
  obtain ⟨hm27, hv, hR⟩ := hF
  refine lv_istore (lv' := [(6, .int r2), (5, .int (zI cd)), (0, .ref bs), (1, .ref o), (2, .ref om), (3, .ref q), (4, .int (zI i))]) hx hb dL_law_544 hl (by decide) rfl (fun ls hl => ?_)
  refine lv_aload_n hx hb dL_law_546 rfl (lv_at hl 4 rfl) ?_
  refine mb_cW hD hS hA (va_runV (As := []) (rest := []) ⟨hx, hb, hml, hown, hts⟩ (mb_fr (wr := wO Y q f1 ++ wB Y o a aa b1) (WF := fun u : mb_m => wL Y q f1 om am u o a aa b1) (fun u => u) wL_pM (fun u => wL_pM) (fun _ _ h => h) (cnX8_thrown l D Y 700 om am M1 _ (fun rr MM => rr = zI cd ∧ MM = M1) ⟨hm27, rfl⟩)) (cwV 0 hts gL_law_X8_thrown rfl rfl rfl (by decide +kernel) ⟨(Nat.le_of_ble_eq_true rfl), (Nat.le_of_ble_eq_true rfl)⟩) (mb_preV hG hP hD 1 rfl rfl) rfl rfl hl.1 rfl (lv_room (Nat.le_of_ble_eq_true rfl)) dL_law_547 ⟨by show _ ≤ 601024; omega, by show _ ≤ 7293034; omega⟩) (fun rt M2 H locs hF hP hD hS => ?_)
  obtain ⟨rfl, hM⟩ := hF
  have hM := hM.symm
  subst hM
  refine lv_iload hx hb dL_law_550 (lv_at hl 1 rfl) ?_
  refine lv_icmp_eq (tgt := 557) hx hb dL_law_552 (by decide) (fun _ => ?_) (fun cz => absurd rfl cz)
  refine lv_iload hx hb dL_law_557 (lv_at hl 1 rfl) ?_
  refine lv_if_ne (tgt := 574) hx hb dL_law_559 (by decide) (fun cz => ?_) (fun cz => ?_)
  · refine lv_goto (tgt := 2310) hx hb dL_law_574 (by decide) ?_
    refine W.widen (k := cells + 14) (n := slots + 369) (by omega) (by omega) ?_
    exact kk b1 M1 f1 _ _ _ hR hP hD hS (lv_sub hl [2, 3, 4, 5, 6] rfl)
  · have h0 : cd = 0 := (zI_eq (by omega) (by omega) (by omega) (by omega)).mp (show zI cd = zI 0 from cz)
    have hf1 : f1 ((0 : Int32)).toNatClampNeg = r.toInt64 := hout h0
    have hv := hv h0
    refine lv_aload_n hx hb dL_law_562 rfl (lv_at hl 5 rfl) ?_
    refine lv_iconst (v := 0) hx hb dL_law_563 (by decide) ?_
    refine va_lald hx hb hK hP 0 2 rfl rfl mb_in01 dL_law_564 ?_
    refine lv_iload hx hb dL_law_565 (lv_at hl 0 rfl) ?_
    refine lv_i2l (v := r2.toInt64) hx hb dL_law_567 rfl ?_
    refine W.lcmp hx hb dL_law_568 ?_
    refine lv_if_eq (tgt := 574) hx hb dL_law_569 (by decide) (fun _ => ?_) (fun cy => absurd (mb_cmp (by rw [hf1, hv])) cy)
    refine lv_goto (tgt := 2310) hx hb dL_law_574 (by decide) ?_
    refine W.widen (k := cells + 14) (n := slots + 369) (by omega) (by omega) ?_
    exact kk b1 M1 f1 _ _ _ hR hP hD hS (lv_sub hl [2, 3, 4, 5, 6] rfl)
set_option maxHeartbeats 4000000 in
set_option maxRecDepth 100000 in
theorem lc_count {p : Program} {l : Launch} {e : Env} {s : State} {m : MethodId} {args : Array Value} {below : List Frame} {meth : Method} {c : Code} {H : Heap} {locs : List Loc} {cells slots : Nat} {Q : State → Prop} {D : va_G} {Y : Nat → ClassId} {A : Nat → Prop} {ls : Array Slot} {L : Nat} {xs : Nat → Int32} {bs q om o i : Nat} {am a aa : Nat → Nat} {b : mb_bs} {M : mb_m} {f : Nat → Int64} (C : mb_LC p l s m meth c args L xs bs D Y A) (hi : i + 6 < L) (hc : cells + 14 ≤ 601024) (hs : slots + 369 ≤ 7293034) (hR : Rm b M) (hP : va_P D vwCl (wL Y q f om am M o a aa b) H) (hD : va_D A (wL Y q f om am M o a aa b)) (hS : va_S A s.heap H locs) (hl : lv_has ls 7 [(0, .ref bs), (1, .ref o), (2, .ref om), (3, .ref q), (4, .int (zI i))])
    (kk : lw_K p l e s m args below meth c Q D Y A bs q om am o a aa i cells slots) : W p l e room_1 s m args below meth c H locs cells slots Q (F0 m 577 ls []) := by
  obtain ⟨⟨hx, hb, hr, hml, hts, hown, hlocks, hA, hG⟩, hX, hl0, hN, hX2, hbl, hbA, hL⟩ := id C
  have hK := hG.1
  refine lv_aload_n hx hb dL_law_577 rfl (lv_at hl 1 rfl) ?_
  refine lw_arg 1 C hS (lv_at hl 0 rfl) (lv_at hl 4 rfl) (by omega) (by decide) dL_law_578 dL_law_579 dL_law_581 dL_law_582 dL_law_583 ?_
  refine lw_arg 2 C hS (lv_at hl 0 rfl) (lv_at hl 4 rfl) (by omega) (by decide) dL_law_584 dL_law_585 dL_law_587 dL_law_588 dL_law_589 ?_
  refine lv_aload_n hx hb dL_law_590 rfl (lv_at hl 3 rfl) ?_
  refine mb_cW hD hS hA (vx_runSW (As := [.ref o, .int (xs (i + 1)), .int (xs (i + 2)), .ref q]) (rest := []) ⟨hx, hb, hml, hown, hts⟩ (mb_frL (wr := gw8 Y om am M) (WF := fun u : mb_bs × (Nat → Int64) => wL Y q u.2 om am M o a aa u.1) (fun u => u) wL_pL (fun u => wL_pL) (fun _ _ h => h) (cw_count l hl0 D Y 700 o a aa b q f _ (xs (i + 1)) (xs (i + 2)) (fun cd r b => PX8_count 700 M (xs (i + 1)) (xs (i + 2)) (Qe cd r b)) (@s_count 700 b.1 b.2.1 b.2.2.1 b.2.2.2.1 b.2.2.2.2.1 b.2.2.2.2.2.1 b.2.2.2.2.2.2.1 b.2.2.2.2.2.2.2 M (by decide) hR (xs (i + 1)) (xs (i + 2))))) (vx_cwSW 4 hts gL_law_L_count rfl rfl rfl (by decide +kernel) ⟨(Nat.le_of_ble_eq_true rfl), (Nat.le_of_ble_eq_true rfl)⟩) (lw_preL C hP hD hS) rfl rfl hl.1 rfl (lv_room (Nat.le_of_ble_eq_true rfl)) dL_law_591 ⟨mb_le2 hc (Nat.le_of_ble_eq_true rfl), mb_le2 hs (Nat.le_of_ble_eq_true rfl)⟩) (fun k u H locs hF hP hD hS => ?_)
  obtain ⟨cd, r, hcd, rfl, hF, hout⟩ := hF
  obtain ⟨b1, f1⟩ := u
  have hout : cd = 0 → f1 0 = r.toInt64 := hout
  have hF : PX8_count 700 M (xs (i + 1)) (xs (i + 2)) (Qe cd r b1) := hF
  have hP : va_P D vwCl (wL Y q f1 om am M o a aa b1) H := hP
  have hD : va_D A (wL Y q f1 om am M o a aa b1) := hD
  refine lv_istore (lv' := [(5, .int (zI cd)), (0, .ref bs), (1, .ref o), (2, .ref om), (3, .ref q), (4, .int (zI i))]) hx hb dL_law_594 hl (by decide) rfl (fun ls hl => ?_)
  refine lv_aload_n hx hb dL_law_596 rfl (lv_at hl 3 rfl) ?_
  refine lw_arg 1 C hS (lv_at hl 1 rfl) (lv_at hl 5 rfl) (by omega) (by decide) dL_law_597 dL_law_598 dL_law_600 dL_law_601 dL_law_602 ?_
  refine lw_arg 2 C hS (lv_at hl 1 rfl) (lv_at hl 5 rfl) (by omega) (by decide) dL_law_603 dL_law_604 dL_law_606 dL_law_607 dL_law_608 ?_
  refine mb_cW hD hS hA (va_runV (As := [.int (xs (i + 1)), .int (xs (i + 2))]) (rest := []) ⟨hx, hb, hml, hown, hts⟩ (mb_fr (wr := wO Y q f1 ++ wB Y o a aa b1) (WF := fun u : mb_m => wL Y q f1 om am u o a aa b1) (fun u => u) wL_pM (fun u => wL_pM) (fun _ _ h => h) (cnX8_count l D Y 700 om am M _ (xs (i + 1)) (xs (i + 2)) _ hF)) (cwV 2 hts gL_law_X8_count rfl rfl rfl (by decide +kernel) ⟨(Nat.le_of_ble_eq_true rfl), (Nat.le_of_ble_eq_true rfl)⟩) (mb_preV hG hP hD 1 rfl rfl) rfl rfl hl.1 rfl (lv_room (Nat.le_of_ble_eq_true rfl)) dL_law_609 ⟨by show _ ≤ 601024; omega, by show _ ≤ 7293034; omega⟩) (fun r2 M1 H locs hF hP hD hS => ?_)
  obtain ⟨hm27, hv, hR⟩ := hF
  refine lv_istore (lv' := [(6, .int r2), (5, .int (zI cd)), (0, .ref bs), (1, .ref o), (2, .ref om), (3, .ref q), (4, .int (zI i))]) hx hb dL_law_612 hl (by decide) rfl (fun ls hl => ?_)
  refine lv_aload_n hx hb dL_law_614 rfl (lv_at hl 4 rfl) ?_
  refine mb_cW hD hS hA (va_runV (As := []) (rest := []) ⟨hx, hb, hml, hown, hts⟩ (mb_fr (wr := wO Y q f1 ++ wB Y o a aa b1) (WF := fun u : mb_m => wL Y q f1 om am u o a aa b1) (fun u => u) wL_pM (fun u => wL_pM) (fun _ _ h => h) (cnX8_thrown l D Y 700 om am M1 _ (fun rr MM => rr = zI cd ∧ MM = M1) ⟨hm27, rfl⟩)) (cwV 0 hts gL_law_X8_thrown rfl rfl rfl (by decide +kernel) ⟨(Nat.le_of_ble_eq_true rfl), (Nat.le_of_ble_eq_true rfl)⟩) (mb_preV hG hP hD 1 rfl rfl) rfl rfl hl.1 rfl (lv_room (Nat.le_of_ble_eq_true rfl)) dL_law_615 ⟨by show _ ≤ 601024; omega, by show _ ≤ 7293034; omega⟩) (fun rt M2 H locs hF hP hD hS => ?_)
  obtain ⟨rfl, hM⟩ := hF
  have hM := hM.symm
  subst hM
  refine lv_iload hx hb dL_law_618 (lv_at hl 1 rfl) ?_
  refine lv_icmp_eq (tgt := 625) hx hb dL_law_620 (by decide) (fun _ => ?_) (fun cz => absurd rfl cz)
  refine lv_iload hx hb dL_law_625 (lv_at hl 1 rfl) ?_
  refine lv_if_ne (tgt := 642) hx hb dL_law_627 (by decide) (fun cz => ?_) (fun cz => ?_)
  · refine lv_goto (tgt := 2310) hx hb dL_law_642 (by decide) ?_
    refine W.widen (k := cells + 14) (n := slots + 369) (by omega) (by omega) ?_
    exact kk b1 M1 f1 _ _ _ hR hP hD hS (lv_sub hl [2, 3, 4, 5, 6] rfl)
  · have h0 : cd = 0 := (zI_eq (by omega) (by omega) (by omega) (by omega)).mp (show zI cd = zI 0 from cz)
    have hf1 : f1 ((0 : Int32)).toNatClampNeg = r.toInt64 := hout h0
    have hv := hv h0
    refine lv_aload_n hx hb dL_law_630 rfl (lv_at hl 5 rfl) ?_
    refine lv_iconst (v := 0) hx hb dL_law_631 (by decide) ?_
    refine va_lald hx hb hK hP 0 2 rfl rfl mb_in01 dL_law_632 ?_
    refine lv_iload hx hb dL_law_633 (lv_at hl 0 rfl) ?_
    refine lv_i2l (v := r2.toInt64) hx hb dL_law_635 rfl ?_
    refine W.lcmp hx hb dL_law_636 ?_
    refine lv_if_eq (tgt := 642) hx hb dL_law_637 (by decide) (fun _ => ?_) (fun cy => absurd (mb_cmp (by rw [hf1, hv])) cy)
    refine lv_goto (tgt := 2310) hx hb dL_law_642 (by decide) ?_
    refine W.widen (k := cells + 14) (n := slots + 369) (by omega) (by omega) ?_
    exact kk b1 M1 f1 _ _ _ hR hP hD hS (lv_sub hl [2, 3, 4, 5, 6] rfl)
set_option maxHeartbeats 4000000 in
set_option maxRecDepth 100000 in
theorem lc_pageAt {p : Program} {l : Launch} {e : Env} {s : State} {m : MethodId} {args : Array Value} {below : List Frame} {meth : Method} {c : Code} {H : Heap} {locs : List Loc} {cells slots : Nat} {Q : State → Prop} {D : va_G} {Y : Nat → ClassId} {A : Nat → Prop} {ls : Array Slot} {L : Nat} {xs : Nat → Int32} {bs q om o i : Nat} {am a aa : Nat → Nat} {b : mb_bs} {M : mb_m} {f : Nat → Int64} (C : mb_LC p l s m meth c args L xs bs D Y A) (hi : i + 6 < L) (hc : cells + 14 ≤ 601024) (hs : slots + 369 ≤ 7293034) (hR : Rm b M) (hP : va_P D vwCl (wL Y q f om am M o a aa b) H) (hD : va_D A (wL Y q f om am M o a aa b)) (hS : va_S A s.heap H locs) (hl : lv_has ls 7 [(0, .ref bs), (1, .ref o), (2, .ref om), (3, .ref q), (4, .int (zI i))])
    (kk : lw_K p l e s m args below meth c Q D Y A bs q om am o a aa i cells slots) : W p l e room_1 s m args below meth c H locs cells slots Q (F0 m 645 ls []) := by
  obtain ⟨⟨hx, hb, hr, hml, hts, hown, hlocks, hA, hG⟩, hX, hl0, hN, hX2, hbl, hbA, hL⟩ := id C
  have hK := hG.1
  refine lv_aload_n hx hb dL_law_645 rfl (lv_at hl 1 rfl) ?_
  refine lw_arg 1 C hS (lv_at hl 0 rfl) (lv_at hl 4 rfl) (by omega) (by decide) dL_law_646 dL_law_647 dL_law_649 dL_law_650 dL_law_651 ?_
  refine lw_arg 2 C hS (lv_at hl 0 rfl) (lv_at hl 4 rfl) (by omega) (by decide) dL_law_652 dL_law_653 dL_law_655 dL_law_656 dL_law_657 ?_
  refine lw_bo hx hb dL_law_658 dL_law_661 dL_law_662 dL_law_665 ?_
  refine lw_arg 3 C hS (lv_at hl 0 rfl) (lv_at hl 4 rfl) (by omega) (by decide) dL_law_666 dL_law_667 dL_law_669 dL_law_670 dL_law_671 ?_
  refine lw_arg 4 C hS (lv_at hl 0 rfl) (lv_at hl 4 rfl) (by omega) (by decide) dL_law_672 dL_law_673 dL_law_675 dL_law_676 dL_law_677 ?_
  refine lv_aload_n hx hb dL_law_678 rfl (lv_at hl 3 rfl) ?_
  refine mb_cW hD hS hA (vx_runSW (As := [.ref o, .int (xs (i + 1)), .int (mb_bo (xs (i + 2))), .int (xs (i + 3)), .int (xs (i + 4)), .ref q]) (rest := []) ⟨hx, hb, hml, hown, hts⟩ (mb_frL (wr := gw8 Y om am M) (WF := fun u : mb_bs × (Nat → Int64) => wL Y q u.2 om am M o a aa u.1) (fun u => u) wL_pL (fun u => wL_pL) (fun _ _ h => h) (cw_pageAt l hl0 D Y 700 o a aa b q f _ (xs (i + 1)) (mb_bo (xs (i + 2))) (xs (i + 3)) (xs (i + 4)) (fun cd r b => PX8_pageAt 700 M (xs (i + 1)) (mb_bo (xs (i + 2))) (xs (i + 3)) (xs (i + 4)) (Qe cd r b)) (@s_pageAt 700 b.1 b.2.1 b.2.2.1 b.2.2.2.1 b.2.2.2.2.1 b.2.2.2.2.2.1 b.2.2.2.2.2.2.1 b.2.2.2.2.2.2.2 M (by decide) hR (xs (i + 1)) (mb_bo (xs (i + 2))) (xs (i + 3)) (xs (i + 4)) (mb_bo_isB _)))) (vx_cwSW 6 hts gL_law_L_pageAt rfl rfl rfl (by decide +kernel) ⟨(Nat.le_of_ble_eq_true rfl), (Nat.le_of_ble_eq_true rfl)⟩) (lw_preL C hP hD hS) rfl rfl hl.1 rfl (lv_room (Nat.le_of_ble_eq_true rfl)) dL_law_679 ⟨mb_le2 hc (Nat.le_of_ble_eq_true rfl), mb_le2 hs (Nat.le_of_ble_eq_true rfl)⟩) (fun k u H locs hF hP hD hS => ?_)
  obtain ⟨cd, r, hcd, rfl, hF, hout⟩ := hF
  obtain ⟨b1, f1⟩ := u
  have hout : cd = 0 → f1 0 = r.toInt64 := hout
  have hF : PX8_pageAt 700 M (xs (i + 1)) (mb_bo (xs (i + 2))) (xs (i + 3)) (xs (i + 4)) (Qe cd r b1) := hF
  have hP : va_P D vwCl (wL Y q f1 om am M o a aa b1) H := hP
  have hD : va_D A (wL Y q f1 om am M o a aa b1) := hD
  refine lv_istore (lv' := [(5, .int (zI cd)), (0, .ref bs), (1, .ref o), (2, .ref om), (3, .ref q), (4, .int (zI i))]) hx hb dL_law_682 hl (by decide) rfl (fun ls hl => ?_)
  refine lv_aload_n hx hb dL_law_684 rfl (lv_at hl 3 rfl) ?_
  refine lw_arg 1 C hS (lv_at hl 1 rfl) (lv_at hl 5 rfl) (by omega) (by decide) dL_law_685 dL_law_686 dL_law_688 dL_law_689 dL_law_690 ?_
  refine lw_arg 2 C hS (lv_at hl 1 rfl) (lv_at hl 5 rfl) (by omega) (by decide) dL_law_691 dL_law_692 dL_law_694 dL_law_695 dL_law_696 ?_
  refine lw_bo hx hb dL_law_697 dL_law_700 dL_law_701 dL_law_704 ?_
  refine lw_arg 3 C hS (lv_at hl 1 rfl) (lv_at hl 5 rfl) (by omega) (by decide) dL_law_705 dL_law_706 dL_law_708 dL_law_709 dL_law_710 ?_
  refine lw_arg 4 C hS (lv_at hl 1 rfl) (lv_at hl 5 rfl) (by omega) (by decide) dL_law_711 dL_law_712 dL_law_714 dL_law_715 dL_law_716 ?_
  refine mb_cW hD hS hA (va_runV (As := [.int (xs (i + 1)), .int (mb_bo (xs (i + 2))), .int (xs (i + 3)), .int (xs (i + 4))]) (rest := []) ⟨hx, hb, hml, hown, hts⟩ (mb_fr (wr := wO Y q f1 ++ wB Y o a aa b1) (WF := fun u : mb_m => wL Y q f1 om am u o a aa b1) (fun u => u) wL_pM (fun u => wL_pM) (fun _ _ h => h) (cnX8_pageAt l D Y 700 om am M _ (xs (i + 1)) (mb_bo (xs (i + 2))) (xs (i + 3)) (xs (i + 4)) _ hF)) (cwV 4 hts gL_law_X8_pageAt rfl rfl rfl (by decide +kernel) ⟨(Nat.le_of_ble_eq_true rfl), (Nat.le_of_ble_eq_true rfl)⟩) (mb_preV hG hP hD 1 rfl rfl) rfl rfl hl.1 rfl (lv_room (Nat.le_of_ble_eq_true rfl)) dL_law_717 ⟨by show _ ≤ 601024; omega, by show _ ≤ 7293034; omega⟩) (fun r2 M1 H locs hF hP hD hS => ?_)
  obtain ⟨hm27, hv, hR⟩ := hF
  refine lv_istore (lv' := [(6, .int r2), (5, .int (zI cd)), (0, .ref bs), (1, .ref o), (2, .ref om), (3, .ref q), (4, .int (zI i))]) hx hb dL_law_720 hl (by decide) rfl (fun ls hl => ?_)
  refine lv_aload_n hx hb dL_law_722 rfl (lv_at hl 4 rfl) ?_
  refine mb_cW hD hS hA (va_runV (As := []) (rest := []) ⟨hx, hb, hml, hown, hts⟩ (mb_fr (wr := wO Y q f1 ++ wB Y o a aa b1) (WF := fun u : mb_m => wL Y q f1 om am u o a aa b1) (fun u => u) wL_pM (fun u => wL_pM) (fun _ _ h => h) (cnX8_thrown l D Y 700 om am M1 _ (fun rr MM => rr = zI cd ∧ MM = M1) ⟨hm27, rfl⟩)) (cwV 0 hts gL_law_X8_thrown rfl rfl rfl (by decide +kernel) ⟨(Nat.le_of_ble_eq_true rfl), (Nat.le_of_ble_eq_true rfl)⟩) (mb_preV hG hP hD 1 rfl rfl) rfl rfl hl.1 rfl (lv_room (Nat.le_of_ble_eq_true rfl)) dL_law_723 ⟨by show _ ≤ 601024; omega, by show _ ≤ 7293034; omega⟩) (fun rt M2 H locs hF hP hD hS => ?_)
  obtain ⟨rfl, hM⟩ := hF
  have hM := hM.symm
  subst hM
  refine lv_iload hx hb dL_law_726 (lv_at hl 1 rfl) ?_
  refine lv_icmp_eq (tgt := 733) hx hb dL_law_728 (by decide) (fun _ => ?_) (fun cz => absurd rfl cz)
  refine lv_iload hx hb dL_law_733 (lv_at hl 1 rfl) ?_
  refine lv_if_ne (tgt := 750) hx hb dL_law_735 (by decide) (fun cz => ?_) (fun cz => ?_)
  · refine lv_goto (tgt := 2310) hx hb dL_law_750 (by decide) ?_
    refine W.widen (k := cells + 14) (n := slots + 369) (by omega) (by omega) ?_
    exact kk b1 M1 f1 _ _ _ hR hP hD hS (lv_sub hl [2, 3, 4, 5, 6] rfl)
  · have h0 : cd = 0 := (zI_eq (by omega) (by omega) (by omega) (by omega)).mp (show zI cd = zI 0 from cz)
    have hf1 : f1 ((0 : Int32)).toNatClampNeg = r.toInt64 := hout h0
    have hv := hv h0
    refine lv_aload_n hx hb dL_law_738 rfl (lv_at hl 5 rfl) ?_
    refine lv_iconst (v := 0) hx hb dL_law_739 (by decide) ?_
    refine va_lald hx hb hK hP 0 2 rfl rfl mb_in01 dL_law_740 ?_
    refine lv_iload hx hb dL_law_741 (lv_at hl 0 rfl) ?_
    refine lv_i2l (v := r2.toInt64) hx hb dL_law_743 rfl ?_
    refine W.lcmp hx hb dL_law_744 ?_
    refine lv_if_eq (tgt := 750) hx hb dL_law_745 (by decide) (fun _ => ?_) (fun cy => absurd (mb_cmp (by rw [hf1, hv])) cy)
    refine lv_goto (tgt := 2310) hx hb dL_law_750 (by decide) ?_
    refine W.widen (k := cells + 14) (n := slots + 369) (by omega) (by omega) ?_
    exact kk b1 M1 f1 _ _ _ hR hP hD hS (lv_sub hl [2, 3, 4, 5, 6] rfl)
