set_option maxHeartbeats 4000000 in
set_option maxRecDepth 100000 in
theorem lc_back {p : Program} {l : Launch} {e : Env} {s : State} {m : MethodId} {args : Array Value} {below : List Frame} {meth : Method} {c : Code} {H : Heap} {locs : List Loc} {cells slots : Nat} {Q : State → Prop} {D : va_G} {Y : Nat → ClassId} {A : Nat → Prop} {ls : Array Slot} {L : Nat} {xs : Nat → Int32} {bs q om o i : Nat} {am a aa : Nat → Nat} {b : mb_bs} {M : mb_m} {f : Nat → Int64} (C : mb_LC p l s m meth c args L xs bs D Y A) (hi : i + 6 < L) (hc : cells + 14 ≤ 601024) (hs : slots + 369 ≤ 7293034) (hR : Rm b M) (hP : va_P D vwCl (wL Y q f om am M o a aa b) H) (hD : va_D A (wL Y q f om am M o a aa b)) (hS : va_S A s.heap H locs) (hl : lv_has ls 7 [(0, .ref bs), (1, .ref o), (2, .ref om), (3, .ref q), (4, .int (zI i))])
    (kk : lw_K p l e s m args below meth c Q D Y A bs q om am o a aa i cells slots) : W p l e room_1 s m args below meth c H locs cells slots Q (F0 m 1300 ls []) := by
  obtain ⟨⟨hx, hb, hr, hml, hts, hown, hlocks, hA, hG⟩, hX, hl0, hN, hX2, hbl, hbA, hL⟩ := id C
  have hK := hG.1
  refine lv_aload_n hx hb dL_law_1300 rfl (lv_at hl 1 rfl) ?_
  refine lw_arg 1 C hS (lv_at hl 0 rfl) (lv_at hl 4 rfl) (by omega) (by decide) dL_law_1301 dL_law_1302 dL_law_1304 dL_law_1305 dL_law_1306 ?_
  refine lw_arg 2 C hS (lv_at hl 0 rfl) (lv_at hl 4 rfl) (by omega) (by decide) dL_law_1307 dL_law_1308 dL_law_1310 dL_law_1311 dL_law_1312 ?_
  refine lv_aload_n hx hb dL_law_1313 rfl (lv_at hl 3 rfl) ?_
  refine mb_cW hD hS hA (vx_runSW (As := [.ref o, .int (xs (i + 1)), .int (xs (i + 2)), .ref q]) (rest := []) ⟨hx, hb, hml, hown, hts⟩ (mb_frL (wr := gw8 Y om am M) (WF := fun u : mb_bs × (Nat → Int64) => wL Y q u.2 om am M o a aa u.1) (fun u => u) wL_pL (fun u => wL_pL) (fun _ _ h => h) (cw_back l hl0 D Y 700 o a aa b q f _ (xs (i + 1)) (xs (i + 2)) (fun cd r b => PX8_back 700 M (xs (i + 1)) (xs (i + 2)) (Qe cd r b)) (@s_back 700 b.1 b.2.1 b.2.2.1 b.2.2.2.1 b.2.2.2.2.1 b.2.2.2.2.2.1 b.2.2.2.2.2.2.1 b.2.2.2.2.2.2.2 M (by decide) hR (xs (i + 1)) (xs (i + 2))))) (vx_cwSW 4 hts gL_law_L_back rfl rfl rfl (by decide +kernel) ⟨(Nat.le_of_ble_eq_true rfl), (Nat.le_of_ble_eq_true rfl)⟩) (lw_preL C hP hD hS) rfl rfl hl.1 rfl (lv_room (Nat.le_of_ble_eq_true rfl)) dL_law_1314 ⟨mb_le2 hc (Nat.le_of_ble_eq_true rfl), mb_le2 hs (Nat.le_of_ble_eq_true rfl)⟩) (fun k u H locs hF hP hD hS => ?_)
  obtain ⟨cd, r, hcd, rfl, hF, hout⟩ := hF
  obtain ⟨b1, f1⟩ := u
  have hout : cd = 0 → f1 0 = r.toInt64 := hout
  have hF : PX8_back 700 M (xs (i + 1)) (xs (i + 2)) (Qe cd r b1) := hF
  have hP : va_P D vwCl (wL Y q f1 om am M o a aa b1) H := hP
  have hD : va_D A (wL Y q f1 om am M o a aa b1) := hD
  refine lv_istore (lv' := [(5, .int (zI cd)), (0, .ref bs), (1, .ref o), (2, .ref om), (3, .ref q), (4, .int (zI i))]) hx hb dL_law_1317 hl (by decide) rfl (fun ls hl => ?_)
  refine lv_aload_n hx hb dL_law_1319 rfl (lv_at hl 3 rfl) ?_
  refine lw_arg 1 C hS (lv_at hl 1 rfl) (lv_at hl 5 rfl) (by omega) (by decide) dL_law_1320 dL_law_1321 dL_law_1323 dL_law_1324 dL_law_1325 ?_
  refine lw_arg 2 C hS (lv_at hl 1 rfl) (lv_at hl 5 rfl) (by omega) (by decide) dL_law_1326 dL_law_1327 dL_law_1329 dL_law_1330 dL_law_1331 ?_
  refine mb_cW hD hS hA (va_runV (As := [.int (xs (i + 1)), .int (xs (i + 2))]) (rest := []) ⟨hx, hb, hml, hown, hts⟩ (mb_fr (wr := wO Y q f1 ++ wB Y o a aa b1) (WF := fun u : mb_m => wL Y q f1 om am u o a aa b1) (fun u => u) wL_pM (fun u => wL_pM) (fun _ _ h => h) (cnX8_back l D Y 700 om am M _ (xs (i + 1)) (xs (i + 2)) _ hF)) (cwV 2 hts gL_law_X8_back rfl rfl rfl (by decide +kernel) ⟨(Nat.le_of_ble_eq_true rfl), (Nat.le_of_ble_eq_true rfl)⟩) (mb_preV hG hP hD 1 rfl rfl) rfl rfl hl.1 rfl (lv_room (Nat.le_of_ble_eq_true rfl)) dL_law_1332 ⟨by show _ ≤ 601024; omega, by show _ ≤ 7293034; omega⟩) (fun r2 M1 H locs hF hP hD hS => ?_)
  obtain ⟨hm27, hv, hR⟩ := hF
  refine lv_istore (lv' := [(6, .int r2), (5, .int (zI cd)), (0, .ref bs), (1, .ref o), (2, .ref om), (3, .ref q), (4, .int (zI i))]) hx hb dL_law_1335 hl (by decide) rfl (fun ls hl => ?_)
  refine lv_aload_n hx hb dL_law_1337 rfl (lv_at hl 4 rfl) ?_
  refine mb_cW hD hS hA (va_runV (As := []) (rest := []) ⟨hx, hb, hml, hown, hts⟩ (mb_fr (wr := wO Y q f1 ++ wB Y o a aa b1) (WF := fun u : mb_m => wL Y q f1 om am u o a aa b1) (fun u => u) wL_pM (fun u => wL_pM) (fun _ _ h => h) (cnX8_thrown l D Y 700 om am M1 _ (fun rr MM => rr = zI cd ∧ MM = M1) ⟨hm27, rfl⟩)) (cwV 0 hts gL_law_X8_thrown rfl rfl rfl (by decide +kernel) ⟨(Nat.le_of_ble_eq_true rfl), (Nat.le_of_ble_eq_true rfl)⟩) (mb_preV hG hP hD 1 rfl rfl) rfl rfl hl.1 rfl (lv_room (Nat.le_of_ble_eq_true rfl)) dL_law_1338 ⟨by show _ ≤ 601024; omega, by show _ ≤ 7293034; omega⟩) (fun rt M2 H locs hF hP hD hS => ?_)
  obtain ⟨rfl, hM⟩ := hF
  have hM := hM.symm
  subst hM
  refine lv_iload hx hb dL_law_1341 (lv_at hl 1 rfl) ?_
  refine lv_icmp_eq (tgt := 1348) hx hb dL_law_1343 (by decide) (fun _ => ?_) (fun cz => absurd rfl cz)
  refine lv_iload hx hb dL_law_1348 (lv_at hl 1 rfl) ?_
  refine lv_if_ne (tgt := 1365) hx hb dL_law_1350 (by decide) (fun cz => ?_) (fun cz => ?_)
  · refine lv_goto (tgt := 2310) hx hb dL_law_1365 (by decide) ?_
    refine W.widen (k := cells + 14) (n := slots + 369) (by omega) (by omega) ?_
    exact kk b1 M1 f1 _ _ _ hR hP hD hS (lv_sub hl [2, 3, 4, 5, 6] rfl)
  · have h0 : cd = 0 := (zI_eq (by omega) (by omega) (by omega) (by omega)).mp (show zI cd = zI 0 from cz)
    have hf1 : f1 ((0 : Int32)).toNatClampNeg = r.toInt64 := hout h0
    have hv := hv h0
    refine lv_aload_n hx hb dL_law_1353 rfl (lv_at hl 5 rfl) ?_
    refine lv_iconst (v := 0) hx hb dL_law_1354 (by decide) ?_
    refine va_lald hx hb hK hP 0 2 rfl rfl mb_in01 dL_law_1355 ?_
    refine lv_iload hx hb dL_law_1356 (lv_at hl 0 rfl) ?_
    refine lv_i2l (v := r2.toInt64) hx hb dL_law_1358 rfl ?_
    refine W.lcmp hx hb dL_law_1359 ?_
    refine lv_if_eq (tgt := 1365) hx hb dL_law_1360 (by decide) (fun _ => ?_) (fun cy => absurd (mb_cmp (by rw [hf1, hv])) cy)
    refine lv_goto (tgt := 2310) hx hb dL_law_1365 (by decide) ?_
    refine W.widen (k := cells + 14) (n := slots + 369) (by omega) (by omega) ?_
    exact kk b1 M1 f1 _ _ _ hR hP hD hS (lv_sub hl [2, 3, 4, 5, 6] rfl)
set_option maxHeartbeats 4000000 in
set_option maxRecDepth 100000 in
theorem lc_swelling {p : Program} {l : Launch} {e : Env} {s : State} {m : MethodId} {args : Array Value} {below : List Frame} {meth : Method} {c : Code} {H : Heap} {locs : List Loc} {cells slots : Nat} {Q : State → Prop} {D : va_G} {Y : Nat → ClassId} {A : Nat → Prop} {ls : Array Slot} {L : Nat} {xs : Nat → Int32} {bs q om o i : Nat} {am a aa : Nat → Nat} {b : mb_bs} {M : mb_m} {f : Nat → Int64} (C : mb_LC p l s m meth c args L xs bs D Y A) (hi : i + 6 < L) (hc : cells + 14 ≤ 601024) (hs : slots + 369 ≤ 7293034) (hR : Rm b M) (hP : va_P D vwCl (wL Y q f om am M o a aa b) H) (hD : va_D A (wL Y q f om am M o a aa b)) (hS : va_S A s.heap H locs) (hl : lv_has ls 7 [(0, .ref bs), (1, .ref o), (2, .ref om), (3, .ref q), (4, .int (zI i))])
    (kk : lw_K p l e s m args below meth c Q D Y A bs q om am o a aa i cells slots) : W p l e room_1 s m args below meth c H locs cells slots Q (F0 m 1368 ls []) := by
  obtain ⟨⟨hx, hb, hr, hml, hts, hown, hlocks, hA, hG⟩, hX, hl0, hN, hX2, hbl, hbA, hL⟩ := id C
  have hK := hG.1
  refine lv_aload_n hx hb dL_law_1368 rfl (lv_at hl 1 rfl) ?_
  refine lw_arg 1 C hS (lv_at hl 0 rfl) (lv_at hl 4 rfl) (by omega) (by decide) dL_law_1369 dL_law_1370 dL_law_1372 dL_law_1373 dL_law_1374 ?_
  refine lv_aload_n hx hb dL_law_1375 rfl (lv_at hl 3 rfl) ?_
  refine mb_cW hD hS hA (vx_runSW (As := [.ref o, .int (xs (i + 1)), .ref q]) (rest := []) ⟨hx, hb, hml, hown, hts⟩ (mb_frL (wr := gw8 Y om am M) (WF := fun u : mb_bs × (Nat → Int64) => wL Y q u.2 om am M o a aa u.1) (fun u => u) wL_pL (fun u => wL_pL) (fun _ _ h => h) (cw_swelling l hl0 D Y 700 o a aa b q f _ (xs (i + 1)) (fun cd r b => PX8_swelling 700 M (xs (i + 1)) (Qe cd r b)) (@s_swelling 700 b.1 b.2.1 b.2.2.1 b.2.2.2.1 b.2.2.2.2.1 b.2.2.2.2.2.1 b.2.2.2.2.2.2.1 b.2.2.2.2.2.2.2 M (by decide) hR (xs (i + 1))))) (vx_cwSW 3 hts gL_law_L_swelling rfl rfl rfl (by decide +kernel) ⟨(Nat.le_of_ble_eq_true rfl), (Nat.le_of_ble_eq_true rfl)⟩) (lw_preL C hP hD hS) rfl rfl hl.1 rfl (lv_room (Nat.le_of_ble_eq_true rfl)) dL_law_1376 ⟨mb_le2 hc (Nat.le_of_ble_eq_true rfl), mb_le2 hs (Nat.le_of_ble_eq_true rfl)⟩) (fun k u H locs hF hP hD hS => ?_)
  obtain ⟨cd, r, hcd, rfl, hF, hout⟩ := hF
  obtain ⟨b1, f1⟩ := u
  have hout : cd = 0 → f1 0 = r.toInt64 := hout
  have hF : PX8_swelling 700 M (xs (i + 1)) (Qe cd r b1) := hF
  have hP : va_P D vwCl (wL Y q f1 om am M o a aa b1) H := hP
  have hD : va_D A (wL Y q f1 om am M o a aa b1) := hD
  refine lv_istore (lv' := [(5, .int (zI cd)), (0, .ref bs), (1, .ref o), (2, .ref om), (3, .ref q), (4, .int (zI i))]) hx hb dL_law_1379 hl (by decide) rfl (fun ls hl => ?_)
  refine lv_aload_n hx hb dL_law_1381 rfl (lv_at hl 3 rfl) ?_
  refine lw_arg 1 C hS (lv_at hl 1 rfl) (lv_at hl 5 rfl) (by omega) (by decide) dL_law_1382 dL_law_1383 dL_law_1385 dL_law_1386 dL_law_1387 ?_
  refine mb_cW hD hS hA (va_runV (As := [.int (xs (i + 1))]) (rest := []) ⟨hx, hb, hml, hown, hts⟩ (mb_fr (wr := wO Y q f1 ++ wB Y o a aa b1) (WF := fun u : mb_m => wL Y q f1 om am u o a aa b1) (fun u => u) wL_pM (fun u => wL_pM) (fun _ _ h => h) (cnX8_swelling l D Y 700 om am M _ (xs (i + 1)) _ hF)) (cwV 1 hts gL_law_X8_swelling rfl rfl rfl (by decide +kernel) ⟨(Nat.le_of_ble_eq_true rfl), (Nat.le_of_ble_eq_true rfl)⟩) (mb_preV hG hP hD 1 rfl rfl) rfl rfl hl.1 rfl (lv_room (Nat.le_of_ble_eq_true rfl)) dL_law_1388 ⟨by show _ ≤ 601024; omega, by show _ ≤ 7293034; omega⟩) (fun r2 M1 H locs hF hP hD hS => ?_)
  obtain ⟨hm27, hv, hR⟩ := hF
  refine lv_istore (lv' := [(6, .int r2), (5, .int (zI cd)), (0, .ref bs), (1, .ref o), (2, .ref om), (3, .ref q), (4, .int (zI i))]) hx hb dL_law_1391 hl (by decide) rfl (fun ls hl => ?_)
  refine lv_aload_n hx hb dL_law_1393 rfl (lv_at hl 4 rfl) ?_
  refine mb_cW hD hS hA (va_runV (As := []) (rest := []) ⟨hx, hb, hml, hown, hts⟩ (mb_fr (wr := wO Y q f1 ++ wB Y o a aa b1) (WF := fun u : mb_m => wL Y q f1 om am u o a aa b1) (fun u => u) wL_pM (fun u => wL_pM) (fun _ _ h => h) (cnX8_thrown l D Y 700 om am M1 _ (fun rr MM => rr = zI cd ∧ MM = M1) ⟨hm27, rfl⟩)) (cwV 0 hts gL_law_X8_thrown rfl rfl rfl (by decide +kernel) ⟨(Nat.le_of_ble_eq_true rfl), (Nat.le_of_ble_eq_true rfl)⟩) (mb_preV hG hP hD 1 rfl rfl) rfl rfl hl.1 rfl (lv_room (Nat.le_of_ble_eq_true rfl)) dL_law_1394 ⟨by show _ ≤ 601024; omega, by show _ ≤ 7293034; omega⟩) (fun rt M2 H locs hF hP hD hS => ?_)
  obtain ⟨rfl, hM⟩ := hF
  have hM := hM.symm
  subst hM
  refine lv_iload hx hb dL_law_1397 (lv_at hl 1 rfl) ?_
  refine lv_icmp_eq (tgt := 1404) hx hb dL_law_1399 (by decide) (fun _ => ?_) (fun cz => absurd rfl cz)
  refine lv_iload hx hb dL_law_1404 (lv_at hl 1 rfl) ?_
  refine lv_if_ne (tgt := 1421) hx hb dL_law_1406 (by decide) (fun cz => ?_) (fun cz => ?_)
  · refine lv_goto (tgt := 2310) hx hb dL_law_1421 (by decide) ?_
    refine W.widen (k := cells + 14) (n := slots + 369) (by omega) (by omega) ?_
    exact kk b1 M1 f1 _ _ _ hR hP hD hS (lv_sub hl [2, 3, 4, 5, 6] rfl)
  · have h0 : cd = 0 := (zI_eq (by omega) (by omega) (by omega) (by omega)).mp (show zI cd = zI 0 from cz)
    have hf1 : f1 ((0 : Int32)).toNatClampNeg = r.toInt64 := hout h0
    have hv := hv h0
    refine lv_aload_n hx hb dL_law_1409 rfl (lv_at hl 5 rfl) ?_
    refine lv_iconst (v := 0) hx hb dL_law_1410 (by decide) ?_
    refine va_lald hx hb hK hP 0 2 rfl rfl mb_in01 dL_law_1411 ?_
    refine lv_iload hx hb dL_law_1412 (lv_at hl 0 rfl) ?_
    refine lv_i2l (v := r2.toInt64) hx hb dL_law_1414 rfl ?_
    refine W.lcmp hx hb dL_law_1415 ?_
    refine lv_if_eq (tgt := 1421) hx hb dL_law_1416 (by decide) (fun _ => ?_) (fun cy => absurd (mb_cmp (by rw [hf1, hv])) cy)
    refine lv_goto (tgt := 2310) hx hb dL_law_1421 (by decide) ?_
    refine W.widen (k := cells + 14) (n := slots + 369) (by omega) (by omega) ?_
    exact kk b1 M1 f1 _ _ _ hR hP hD hS (lv_sub hl [2, 3, 4, 5, 6] rfl)
set_option maxHeartbeats 4000000 in
set_option maxRecDepth 100000 in
theorem lc_strain {p : Program} {l : Launch} {e : Env} {s : State} {m : MethodId} {args : Array Value} {below : List Frame} {meth : Method} {c : Code} {H : Heap} {locs : List Loc} {cells slots : Nat} {Q : State → Prop} {D : va_G} {Y : Nat → ClassId} {A : Nat → Prop} {ls : Array Slot} {L : Nat} {xs : Nat → Int32} {bs q om o i : Nat} {am a aa : Nat → Nat} {b : mb_bs} {M : mb_m} {f : Nat → Int64} (C : mb_LC p l s m meth c args L xs bs D Y A) (hi : i + 6 < L) (hc : cells + 14 ≤ 601024) (hs : slots + 369 ≤ 7293034) (hR : Rm b M) (hP : va_P D vwCl (wL Y q f om am M o a aa b) H) (hD : va_D A (wL Y q f om am M o a aa b)) (hS : va_S A s.heap H locs) (hl : lv_has ls 7 [(0, .ref bs), (1, .ref o), (2, .ref om), (3, .ref q), (4, .int (zI i))])
    (kk : lw_K p l e s m args below meth c Q D Y A bs q om am o a aa i cells slots) : W p l e room_1 s m args below meth c H locs cells slots Q (F0 m 1424 ls []) := by
  obtain ⟨⟨hx, hb, hr, hml, hts, hown, hlocks, hA, hG⟩, hX, hl0, hN, hX2, hbl, hbA, hL⟩ := id C
  have hK := hG.1
  refine lv_aload_n hx hb dL_law_1424 rfl (lv_at hl 1 rfl) ?_
  refine lw_arg 1 C hS (lv_at hl 0 rfl) (lv_at hl 4 rfl) (by omega) (by decide) dL_law_1425 dL_law_1426 dL_law_1428 dL_law_1429 dL_law_1430 ?_
  refine lw_arg 2 C hS (lv_at hl 0 rfl) (lv_at hl 4 rfl) (by omega) (by decide) dL_law_1431 dL_law_1432 dL_law_1434 dL_law_1435 dL_law_1436 ?_
  refine lv_aload_n hx hb dL_law_1437 rfl (lv_at hl 3 rfl) ?_
  refine mb_cW hD hS hA (vx_runSW (As := [.ref o, .int (xs (i + 1)), .int (xs (i + 2)), .ref q]) (rest := []) ⟨hx, hb, hml, hown, hts⟩ (mb_frL (wr := gw8 Y om am M) (WF := fun u : mb_bs × (Nat → Int64) => wL Y q u.2 om am M o a aa u.1) (fun u => u) wL_pL (fun u => wL_pL) (fun _ _ h => h) (cw_strain l hl0 D Y 700 o a aa b q f _ (xs (i + 1)) (xs (i + 2)) (fun cd r b => PX8_strain 700 M (xs (i + 1)) (xs (i + 2)) (Qe cd r b)) (@s_strain 700 b.1 b.2.1 b.2.2.1 b.2.2.2.1 b.2.2.2.2.1 b.2.2.2.2.2.1 b.2.2.2.2.2.2.1 b.2.2.2.2.2.2.2 M (by decide) hR (xs (i + 1)) (xs (i + 2))))) (vx_cwSW 4 hts gL_law_L_strain rfl rfl rfl (by decide +kernel) ⟨(Nat.le_of_ble_eq_true rfl), (Nat.le_of_ble_eq_true rfl)⟩) (lw_preL C hP hD hS) rfl rfl hl.1 rfl (lv_room (Nat.le_of_ble_eq_true rfl)) dL_law_1438 ⟨mb_le2 hc (Nat.le_of_ble_eq_true rfl), mb_le2 hs (Nat.le_of_ble_eq_true rfl)⟩) (fun k u H locs hF hP hD hS => ?_)
  obtain ⟨cd, r, hcd, rfl, hF, hout⟩ := hF
  obtain ⟨b1, f1⟩ := u
  have hout : cd = 0 → f1 0 = r.toInt64 := hout
  have hF : PX8_strain 700 M (xs (i + 1)) (xs (i + 2)) (Qe cd r b1) := hF
  have hP : va_P D vwCl (wL Y q f1 om am M o a aa b1) H := hP
  have hD : va_D A (wL Y q f1 om am M o a aa b1) := hD
  refine lv_istore (lv' := [(5, .int (zI cd)), (0, .ref bs), (1, .ref o), (2, .ref om), (3, .ref q), (4, .int (zI i))]) hx hb dL_law_1441 hl (by decide) rfl (fun ls hl => ?_)
  refine lv_aload_n hx hb dL_law_1443 rfl (lv_at hl 3 rfl) ?_
  refine lw_arg 1 C hS (lv_at hl 1 rfl) (lv_at hl 5 rfl) (by omega) (by decide) dL_law_1444 dL_law_1445 dL_law_1447 dL_law_1448 dL_law_1449 ?_
  refine lw_arg 2 C hS (lv_at hl 1 rfl) (lv_at hl 5 rfl) (by omega) (by decide) dL_law_1450 dL_law_1451 dL_law_1453 dL_law_1454 dL_law_1455 ?_
  refine mb_cW hD hS hA (va_runV (As := [.int (xs (i + 1)), .int (xs (i + 2))]) (rest := []) ⟨hx, hb, hml, hown, hts⟩ (mb_fr (wr := wO Y q f1 ++ wB Y o a aa b1) (WF := fun u : mb_m => wL Y q f1 om am u o a aa b1) (fun u => u) wL_pM (fun u => wL_pM) (fun _ _ h => h) (cnX8_strain l D Y 700 om am M _ (xs (i + 1)) (xs (i + 2)) _ hF)) (cwV 2 hts gL_law_X8_strain rfl rfl rfl (by decide +kernel) ⟨(Nat.le_of_ble_eq_true rfl), (Nat.le_of_ble_eq_true rfl)⟩) (mb_preV hG hP hD 1 rfl rfl) rfl rfl hl.1 rfl (lv_room (Nat.le_of_ble_eq_true rfl)) dL_law_1456 ⟨by show _ ≤ 601024; omega, by show _ ≤ 7293034; omega⟩) (fun r2 M1 H locs hF hP hD hS => ?_)
  obtain ⟨hm27, hv, hR⟩ := hF
  refine lv_istore (lv' := [(6, .int r2), (5, .int (zI cd)), (0, .ref bs), (1, .ref o), (2, .ref om), (3, .ref q), (4, .int (zI i))]) hx hb dL_law_1459 hl (by decide) rfl (fun ls hl => ?_)
  refine lv_aload_n hx hb dL_law_1461 rfl (lv_at hl 4 rfl) ?_
  refine mb_cW hD hS hA (va_runV (As := []) (rest := []) ⟨hx, hb, hml, hown, hts⟩ (mb_fr (wr := wO Y q f1 ++ wB Y o a aa b1) (WF := fun u : mb_m => wL Y q f1 om am u o a aa b1) (fun u => u) wL_pM (fun u => wL_pM) (fun _ _ h => h) (cnX8_thrown l D Y 700 om am M1 _ (fun rr MM => rr = zI cd ∧ MM = M1) ⟨hm27, rfl⟩)) (cwV 0 hts gL_law_X8_thrown rfl rfl rfl (by decide +kernel) ⟨(Nat.le_of_ble_eq_true rfl), (Nat.le_of_ble_eq_true rfl)⟩) (mb_preV hG hP hD 1 rfl rfl) rfl rfl hl.1 rfl (lv_room (Nat.le_of_ble_eq_true rfl)) dL_law_1462 ⟨by show _ ≤ 601024; omega, by show _ ≤ 7293034; omega⟩) (fun rt M2 H locs hF hP hD hS => ?_)
  obtain ⟨rfl, hM⟩ := hF
  have hM := hM.symm
  subst hM
  refine lv_iload hx hb dL_law_1465 (lv_at hl 1 rfl) ?_
  refine lv_icmp_eq (tgt := 1472) hx hb dL_law_1467 (by decide) (fun _ => ?_) (fun cz => absurd rfl cz)
  refine lv_iload hx hb dL_law_1472 (lv_at hl 1 rfl) ?_
  refine lv_if_ne (tgt := 1489) hx hb dL_law_1474 (by decide) (fun cz => ?_) (fun cz => ?_)
  · refine lv_goto (tgt := 2310) hx hb dL_law_1489 (by decide) ?_
    refine W.widen (k := cells + 14) (n := slots + 369) (by omega) (by omega) ?_
    exact kk b1 M1 f1 _ _ _ hR hP hD hS (lv_sub hl [2, 3, 4, 5, 6] rfl)
  · have h0 : cd = 0 := (zI_eq (by omega) (by omega) (by omega) (by omega)).mp (show zI cd = zI 0 from cz)
    have hf1 : f1 ((0 : Int32)).toNatClampNeg = r.toInt64 := hout h0
    have hv := hv h0
    refine lv_aload_n hx hb dL_law_1477 rfl (lv_at hl 5 rfl) ?_
    refine lv_iconst (v := 0) hx hb dL_law_1478 (by decide) ?_
    refine va_lald hx hb hK hP 0 2 rfl rfl mb_in01 dL_law_1479 ?_
    refine lv_iload hx hb dL_law_1480 (lv_at hl 0 rfl) ?_
    refine lv_i2l (v := r2.toInt64) hx hb dL_law_1482 rfl ?_
    refine W.lcmp hx hb dL_law_1483 ?_
    refine lv_if_eq (tgt := 1489) hx hb dL_law_1484 (by decide) (fun _ => ?_) (fun cy => absurd (mb_cmp (by rw [hf1, hv])) cy)
    refine lv_goto (tgt := 2310) hx hb dL_law_1489 (by decide) ?_
    refine W.widen (k := cells + 14) (n := slots + 369) (by omega) (by omega) ?_
    exact kk b1 M1 f1 _ _ _ hR hP hD hS (lv_sub hl [2, 3, 4, 5, 6] rfl)
set_option maxHeartbeats 4000000 in
set_option maxRecDepth 100000 in
theorem lc_worst {p : Program} {l : Launch} {e : Env} {s : State} {m : MethodId} {args : Array Value} {below : List Frame} {meth : Method} {c : Code} {H : Heap} {locs : List Loc} {cells slots : Nat} {Q : State → Prop} {D : va_G} {Y : Nat → ClassId} {A : Nat → Prop} {ls : Array Slot} {L : Nat} {xs : Nat → Int32} {bs q om o i : Nat} {am a aa : Nat → Nat} {b : mb_bs} {M : mb_m} {f : Nat → Int64} (C : mb_LC p l s m meth c args L xs bs D Y A) (hi : i + 6 < L) (hc : cells + 14 ≤ 601024) (hs : slots + 369 ≤ 7293034) (hR : Rm b M) (hP : va_P D vwCl (wL Y q f om am M o a aa b) H) (hD : va_D A (wL Y q f om am M o a aa b)) (hS : va_S A s.heap H locs) (hl : lv_has ls 7 [(0, .ref bs), (1, .ref o), (2, .ref om), (3, .ref q), (4, .int (zI i))])
    (kk : lw_K p l e s m args below meth c Q D Y A bs q om am o a aa i cells slots) : W p l e room_1 s m args below meth c H locs cells slots Q (F0 m 1492 ls []) := by
  obtain ⟨⟨hx, hb, hr, hml, hts, hown, hlocks, hA, hG⟩, hX, hl0, hN, hX2, hbl, hbA, hL⟩ := id C
  have hK := hG.1
  refine lv_aload_n hx hb dL_law_1492 rfl (lv_at hl 1 rfl) ?_
  refine lw_arg 1 C hS (lv_at hl 0 rfl) (lv_at hl 4 rfl) (by omega) (by decide) dL_law_1493 dL_law_1494 dL_law_1496 dL_law_1497 dL_law_1498 ?_
  refine lv_aload_n hx hb dL_law_1499 rfl (lv_at hl 3 rfl) ?_
  refine mb_cW hD hS hA (vx_runSW (As := [.ref o, .int (xs (i + 1)), .ref q]) (rest := []) ⟨hx, hb, hml, hown, hts⟩ (mb_frL (wr := gw8 Y om am M) (WF := fun u : mb_bs × (Nat → Int64) => wL Y q u.2 om am M o a aa u.1) (fun u => u) wL_pL (fun u => wL_pL) (fun _ _ h => h) (cw_worst l hl0 D Y 700 o a aa b q f _ (xs (i + 1)) (fun cd r b => PX8_worst 700 M (xs (i + 1)) (Qe cd r b)) (@s_worst 700 b.1 b.2.1 b.2.2.1 b.2.2.2.1 b.2.2.2.2.1 b.2.2.2.2.2.1 b.2.2.2.2.2.2.1 b.2.2.2.2.2.2.2 M (by decide) hR (xs (i + 1))))) (vx_cwSW 3 hts gL_law_L_worst rfl rfl rfl (by decide +kernel) ⟨(Nat.le_of_ble_eq_true rfl), (Nat.le_of_ble_eq_true rfl)⟩) (lw_preL C hP hD hS) rfl rfl hl.1 rfl (lv_room (Nat.le_of_ble_eq_true rfl)) dL_law_1500 ⟨mb_le2 hc (Nat.le_of_ble_eq_true rfl), mb_le2 hs (Nat.le_of_ble_eq_true rfl)⟩) (fun k u H locs hF hP hD hS => ?_)
  obtain ⟨cd, r, hcd, rfl, hF, hout⟩ := hF
  obtain ⟨b1, f1⟩ := u
  have hout : cd = 0 → f1 0 = r.toInt64 := hout
  have hF : PX8_worst 700 M (xs (i + 1)) (Qe cd r b1) := hF
  have hP : va_P D vwCl (wL Y q f1 om am M o a aa b1) H := hP
  have hD : va_D A (wL Y q f1 om am M o a aa b1) := hD
  refine lv_istore (lv' := [(5, .int (zI cd)), (0, .ref bs), (1, .ref o), (2, .ref om), (3, .ref q), (4, .int (zI i))]) hx hb dL_law_1503 hl (by decide) rfl (fun ls hl => ?_)
  refine lv_aload_n hx hb dL_law_1505 rfl (lv_at hl 3 rfl) ?_
  refine lw_arg 1 C hS (lv_at hl 1 rfl) (lv_at hl 5 rfl) (by omega) (by decide) dL_law_1506 dL_law_1507 dL_law_1509 dL_law_1510 dL_law_1511 ?_
  refine mb_cW hD hS hA (va_runV (As := [.int (xs (i + 1))]) (rest := []) ⟨hx, hb, hml, hown, hts⟩ (mb_fr (wr := wO Y q f1 ++ wB Y o a aa b1) (WF := fun u : mb_m => wL Y q f1 om am u o a aa b1) (fun u => u) wL_pM (fun u => wL_pM) (fun _ _ h => h) (cnX8_worst l D Y 700 om am M _ (xs (i + 1)) _ hF)) (cwV 1 hts gL_law_X8_worst rfl rfl rfl (by decide +kernel) ⟨(Nat.le_of_ble_eq_true rfl), (Nat.le_of_ble_eq_true rfl)⟩) (mb_preV hG hP hD 1 rfl rfl) rfl rfl hl.1 rfl (lv_room (Nat.le_of_ble_eq_true rfl)) dL_law_1512 ⟨by show _ ≤ 601024; omega, by show _ ≤ 7293034; omega⟩) (fun r2 M1 H locs hF hP hD hS => ?_)
  obtain ⟨hm27, hv, hR⟩ := hF
  refine lv_istore (lv' := [(6, .int r2), (5, .int (zI cd)), (0, .ref bs), (1, .ref o), (2, .ref om), (3, .ref q), (4, .int (zI i))]) hx hb dL_law_1515 hl (by decide) rfl (fun ls hl => ?_)
  refine lv_aload_n hx hb dL_law_1517 rfl (lv_at hl 4 rfl) ?_
  refine mb_cW hD hS hA (va_runV (As := []) (rest := []) ⟨hx, hb, hml, hown, hts⟩ (mb_fr (wr := wO Y q f1 ++ wB Y o a aa b1) (WF := fun u : mb_m => wL Y q f1 om am u o a aa b1) (fun u => u) wL_pM (fun u => wL_pM) (fun _ _ h => h) (cnX8_thrown l D Y 700 om am M1 _ (fun rr MM => rr = zI cd ∧ MM = M1) ⟨hm27, rfl⟩)) (cwV 0 hts gL_law_X8_thrown rfl rfl rfl (by decide +kernel) ⟨(Nat.le_of_ble_eq_true rfl), (Nat.le_of_ble_eq_true rfl)⟩) (mb_preV hG hP hD 1 rfl rfl) rfl rfl hl.1 rfl (lv_room (Nat.le_of_ble_eq_true rfl)) dL_law_1518 ⟨by show _ ≤ 601024; omega, by show _ ≤ 7293034; omega⟩) (fun rt M2 H locs hF hP hD hS => ?_)
  obtain ⟨rfl, hM⟩ := hF
  have hM := hM.symm
  subst hM
  refine lv_iload hx hb dL_law_1521 (lv_at hl 1 rfl) ?_
  refine lv_icmp_eq (tgt := 1528) hx hb dL_law_1523 (by decide) (fun _ => ?_) (fun cz => absurd rfl cz)
  refine lv_iload hx hb dL_law_1528 (lv_at hl 1 rfl) ?_
  refine lv_if_ne (tgt := 1545) hx hb dL_law_1530 (by decide) (fun cz => ?_) (fun cz => ?_)
  · refine lv_goto (tgt := 2310) hx hb dL_law_1545 (by decide) ?_
    refine W.widen (k := cells + 14) (n := slots + 369) (by omega) (by omega) ?_
    exact kk b1 M1 f1 _ _ _ hR hP hD hS (lv_sub hl [2, 3, 4, 5, 6] rfl)
  · have h0 : cd = 0 := (zI_eq (by omega) (by omega) (by omega) (by omega)).mp (show zI cd = zI 0 from cz)
    have hf1 : f1 ((0 : Int32)).toNatClampNeg = r.toInt64 := hout h0
    have hv := hv h0
    refine lv_aload_n hx hb dL_law_1533 rfl (lv_at hl 5 rfl) ?_
    refine lv_iconst (v := 0) hx hb dL_law_1534 (by decide) ?_
    refine va_lald hx hb hK hP 0 2 rfl rfl mb_in01 dL_law_1535 ?_
    refine lv_iload hx hb dL_law_1536 (lv_at hl 0 rfl) ?_
    refine lv_i2l (v := r2.toInt64) hx hb dL_law_1538 rfl ?_
    refine W.lcmp hx hb dL_law_1539 ?_
    refine lv_if_eq (tgt := 1545) hx hb dL_law_1540 (by decide) (fun _ => ?_) (fun cy => absurd (mb_cmp (by rw [hf1, hv])) cy)
    refine lv_goto (tgt := 2310) hx hb dL_law_1545 (by decide) ?_
    refine W.widen (k := cells + 14) (n := slots + 369) (by omega) (by omega) ?_
    exact kk b1 M1 f1 _ _ _ hR hP hD hS (lv_sub hl [2, 3, 4, 5, 6] rfl)
set_option maxHeartbeats 4000000 in
set_option maxRecDepth 100000 in
theorem lc_opens {p : Program} {l : Launch} {e : Env} {s : State} {m : MethodId} {args : Array Value} {below : List Frame} {meth : Method} {c : Code} {H : Heap} {locs : List Loc} {cells slots : Nat} {Q : State → Prop} {D : va_G} {Y : Nat → ClassId} {A : Nat → Prop} {ls : Array Slot} {L : Nat} {xs : Nat → Int32} {bs q om o i : Nat} {am a aa : Nat → Nat} {b : mb_bs} {M : mb_m} {f : Nat → Int64} (C : mb_LC p l s m meth c args L xs bs D Y A) (hi : i + 6 < L) (hc : cells + 14 ≤ 601024) (hs : slots + 369 ≤ 7293034) (hR : Rm b M) (hP : va_P D vwCl (wL Y q f om am M o a aa b) H) (hD : va_D A (wL Y q f om am M o a aa b)) (hS : va_S A s.heap H locs) (hl : lv_has ls 7 [(0, .ref bs), (1, .ref o), (2, .ref om), (3, .ref q), (4, .int (zI i))])
    (kk : lw_K p l e s m args below meth c Q D Y A bs q om am o a aa i cells slots) : W p l e room_1 s m args below meth c H locs cells slots Q (F0 m 1548 ls []) := by
  obtain ⟨⟨hx, hb, hr, hml, hts, hown, hlocks, hA, hG⟩, hX, hl0, hN, hX2, hbl, hbA, hL⟩ := id C
  have hK := hG.1
  refine lv_aload_n hx hb dL_law_1548 rfl (lv_at hl 1 rfl) ?_
  refine lw_arg 1 C hS (lv_at hl 0 rfl) (lv_at hl 4 rfl) (by omega) (by decide) dL_law_1549 dL_law_1550 dL_law_1552 dL_law_1553 dL_law_1554 ?_
  refine lw_arg 2 C hS (lv_at hl 0 rfl) (lv_at hl 4 rfl) (by omega) (by decide) dL_law_1555 dL_law_1556 dL_law_1558 dL_law_1559 dL_law_1560 ?_
  refine lv_aload_n hx hb dL_law_1561 rfl (lv_at hl 3 rfl) ?_
  refine mb_cW hD hS hA (vx_runSW (As := [.ref o, .int (xs (i + 1)), .int (xs (i + 2)), .ref q]) (rest := []) ⟨hx, hb, hml, hown, hts⟩ (mb_frL (wr := gw8 Y om am M) (WF := fun u : mb_bs × (Nat → Int64) => wL Y q u.2 om am M o a aa u.1) (fun u => u) wL_pL (fun u => wL_pL) (fun _ _ h => h) (cw_opens l hl0 D Y 700 o a aa b q f _ (xs (i + 1)) (xs (i + 2)) (fun cd r b => PX8_opens 700 M (xs (i + 1)) (xs (i + 2)) (Qe cd r b)) (@s_opens 700 b.1 b.2.1 b.2.2.1 b.2.2.2.1 b.2.2.2.2.1 b.2.2.2.2.2.1 b.2.2.2.2.2.2.1 b.2.2.2.2.2.2.2 M (by decide) hR (xs (i + 1)) (xs (i + 2))))) (vx_cwSW 4 hts gL_law_L_opens rfl rfl rfl (by decide +kernel) ⟨(Nat.le_of_ble_eq_true rfl), (Nat.le_of_ble_eq_true rfl)⟩) (lw_preL C hP hD hS) rfl rfl hl.1 rfl (lv_room (Nat.le_of_ble_eq_true rfl)) dL_law_1562 ⟨mb_le2 hc (Nat.le_of_ble_eq_true rfl), mb_le2 hs (Nat.le_of_ble_eq_true rfl)⟩) (fun k u H locs hF hP hD hS => ?_)
  obtain ⟨cd, r, hcd, rfl, hF, hout⟩ := hF
  obtain ⟨b1, f1⟩ := u
  have hout : cd = 0 → f1 0 = r.toInt64 := hout
  have hF : PX8_opens 700 M (xs (i + 1)) (xs (i + 2)) (Qe cd r b1) := hF
  have hP : va_P D vwCl (wL Y q f1 om am M o a aa b1) H := hP
  have hD : va_D A (wL Y q f1 om am M o a aa b1) := hD
  refine lv_istore (lv' := [(5, .int (zI cd)), (0, .ref bs), (1, .ref o), (2, .ref om), (3, .ref q), (4, .int (zI i))]) hx hb dL_law_1565 hl (by decide) rfl (fun ls hl => ?_)
  refine lv_aload_n hx hb dL_law_1567 rfl (lv_at hl 3 rfl) ?_
  refine lw_arg 1 C hS (lv_at hl 1 rfl) (lv_at hl 5 rfl) (by omega) (by decide) dL_law_1568 dL_law_1569 dL_law_1571 dL_law_1572 dL_law_1573 ?_
  refine lw_arg 2 C hS (lv_at hl 1 rfl) (lv_at hl 5 rfl) (by omega) (by decide) dL_law_1574 dL_law_1575 dL_law_1577 dL_law_1578 dL_law_1579 ?_
  refine mb_cW hD hS hA (va_runV (As := [.int (xs (i + 1)), .int (xs (i + 2))]) (rest := []) ⟨hx, hb, hml, hown, hts⟩ (mb_fr (wr := wO Y q f1 ++ wB Y o a aa b1) (WF := fun u : mb_m => wL Y q f1 om am u o a aa b1) (fun u => u) wL_pM (fun u => wL_pM) (fun _ _ h => h) (cnX8_opens l D Y 700 om am M _ (xs (i + 1)) (xs (i + 2)) _ hF)) (cwV 2 hts gL_law_X8_opens rfl rfl rfl (by decide +kernel) ⟨(Nat.le_of_ble_eq_true rfl), (Nat.le_of_ble_eq_true rfl)⟩) (mb_preV hG hP hD 1 rfl rfl) rfl rfl hl.1 rfl (lv_room (Nat.le_of_ble_eq_true rfl)) dL_law_1580 ⟨by show _ ≤ 601024; omega, by show _ ≤ 7293034; omega⟩) (fun r2 M1 H locs hF hP hD hS => ?_)
  obtain ⟨hm27, hv, hR⟩ := hF
  refine lv_istore (lv' := [(6, .int r2), (5, .int (zI cd)), (0, .ref bs), (1, .ref o), (2, .ref om), (3, .ref q), (4, .int (zI i))]) hx hb dL_law_1583 hl (by decide) rfl (fun ls hl => ?_)
  refine lv_aload_n hx hb dL_law_1585 rfl (lv_at hl 4 rfl) ?_
  refine mb_cW hD hS hA (va_runV (As := []) (rest := []) ⟨hx, hb, hml, hown, hts⟩ (mb_fr (wr := wO Y q f1 ++ wB Y o a aa b1) (WF := fun u : mb_m => wL Y q f1 om am u o a aa b1) (fun u => u) wL_pM (fun u => wL_pM) (fun _ _ h => h) (cnX8_thrown l D Y 700 om am M1 _ (fun rr MM => rr = zI cd ∧ MM = M1) ⟨hm27, rfl⟩)) (cwV 0 hts gL_law_X8_thrown rfl rfl rfl (by decide +kernel) ⟨(Nat.le_of_ble_eq_true rfl), (Nat.le_of_ble_eq_true rfl)⟩) (mb_preV hG hP hD 1 rfl rfl) rfl rfl hl.1 rfl (lv_room (Nat.le_of_ble_eq_true rfl)) dL_law_1586 ⟨by show _ ≤ 601024; omega, by show _ ≤ 7293034; omega⟩) (fun rt M2 H locs hF hP hD hS => ?_)
  obtain ⟨rfl, hM⟩ := hF
  have hM := hM.symm
  subst hM
  refine lv_iload hx hb dL_law_1589 (lv_at hl 1 rfl) ?_
  refine lv_icmp_eq (tgt := 1596) hx hb dL_law_1591 (by decide) (fun _ => ?_) (fun cz => absurd rfl cz)
  refine lv_iload hx hb dL_law_1596 (lv_at hl 1 rfl) ?_
  refine lv_if_ne (tgt := 1613) hx hb dL_law_1598 (by decide) (fun cz => ?_) (fun cz => ?_)
  · refine lv_goto (tgt := 2310) hx hb dL_law_1613 (by decide) ?_
    refine W.widen (k := cells + 14) (n := slots + 369) (by omega) (by omega) ?_
    exact kk b1 M1 f1 _ _ _ hR hP hD hS (lv_sub hl [2, 3, 4, 5, 6] rfl)
  · have h0 : cd = 0 := (zI_eq (by omega) (by omega) (by omega) (by omega)).mp (show zI cd = zI 0 from cz)
    have hf1 : f1 ((0 : Int32)).toNatClampNeg = r.toInt64 := hout h0
    have hv := hv h0
    refine lv_aload_n hx hb dL_law_1601 rfl (lv_at hl 5 rfl) ?_
    refine lv_iconst (v := 0) hx hb dL_law_1602 (by decide) ?_
    refine va_lald hx hb hK hP 0 2 rfl rfl mb_in01 dL_law_1603 ?_
    refine lv_iload hx hb dL_law_1604 (lv_at hl 0 rfl) ?_
    refine lv_i2l (v := r2.toInt64) hx hb dL_law_1606 rfl ?_
    refine W.lcmp hx hb dL_law_1607 ?_
    refine lv_if_eq (tgt := 1613) hx hb dL_law_1608 (by decide) (fun _ => ?_) (fun cy => absurd (mb_cmp (by rw [hf1, hv])) cy)
    refine lv_goto (tgt := 2310) hx hb dL_law_1613 (by decide) ?_
    refine W.widen (k := cells + 14) (n := slots + 369) (by omega) (by omega) ?_
    exact kk b1 M1 f1 _ _ _ hR hP hD hS (lv_sub hl [2, 3, 4, 5, 6] rfl)
set_option maxHeartbeats 4000000 in
set_option maxRecDepth 100000 in
theorem lc_skin {p : Program} {l : Launch} {e : Env} {s : State} {m : MethodId} {args : Array Value} {below : List Frame} {meth : Method} {c : Code} {H : Heap} {locs : List Loc} {cells slots : Nat} {Q : State → Prop} {D : va_G} {Y : Nat → ClassId} {A : Nat → Prop} {ls : Array Slot} {L : Nat} {xs : Nat → Int32} {bs q om o i : Nat} {am a aa : Nat → Nat} {b : mb_bs} {M : mb_m} {f : Nat → Int64} (C : mb_LC p l s m meth c args L xs bs D Y A) (hi : i + 6 < L) (hc : cells + 14 ≤ 601024) (hs : slots + 369 ≤ 7293034) (hR : Rm b M) (hP : va_P D vwCl (wL Y q f om am M o a aa b) H) (hD : va_D A (wL Y q f om am M o a aa b)) (hS : va_S A s.heap H locs) (hl : lv_has ls 7 [(0, .ref bs), (1, .ref o), (2, .ref om), (3, .ref q), (4, .int (zI i))])
    (kk : lw_K p l e s m args below meth c Q D Y A bs q om am o a aa i cells slots) : W p l e room_1 s m args below meth c H locs cells slots Q (F0 m 1616 ls []) := by
  obtain ⟨⟨hx, hb, hr, hml, hts, hown, hlocks, hA, hG⟩, hX, hl0, hN, hX2, hbl, hbA, hL⟩ := id C
  have hK := hG.1
  refine lv_aload_n hx hb dL_law_1616 rfl (lv_at hl 1 rfl) ?_
  refine lw_arg 1 C hS (lv_at hl 0 rfl) (lv_at hl 4 rfl) (by omega) (by decide) dL_law_1617 dL_law_1618 dL_law_1620 dL_law_1621 dL_law_1622 ?_
  refine lv_aload_n hx hb dL_law_1623 rfl (lv_at hl 3 rfl) ?_
  refine mb_cW hD hS hA (vx_runSW (As := [.ref o, .int (xs (i + 1)), .ref q]) (rest := []) ⟨hx, hb, hml, hown, hts⟩ (mb_frL (wr := gw8 Y om am M) (WF := fun u : mb_bs × (Nat → Int64) => wL Y q u.2 om am M o a aa u.1) (fun u => u) wL_pL (fun u => wL_pL) (fun _ _ h => h) (cw_skin l hl0 D Y 700 o a aa b q f _ (xs (i + 1)) (fun cd r b => PX8_skin 700 M (xs (i + 1)) (Qe cd r b)) (@s_skin 700 b.1 b.2.1 b.2.2.1 b.2.2.2.1 b.2.2.2.2.1 b.2.2.2.2.2.1 b.2.2.2.2.2.2.1 b.2.2.2.2.2.2.2 M (by decide) hR (xs (i + 1))))) (vx_cwSW 3 hts gL_law_L_skin rfl rfl rfl (by decide +kernel) ⟨(Nat.le_of_ble_eq_true rfl), (Nat.le_of_ble_eq_true rfl)⟩) (lw_preL C hP hD hS) rfl rfl hl.1 rfl (lv_room (Nat.le_of_ble_eq_true rfl)) dL_law_1624 ⟨mb_le2 hc (Nat.le_of_ble_eq_true rfl), mb_le2 hs (Nat.le_of_ble_eq_true rfl)⟩) (fun k u H locs hF hP hD hS => ?_)
  obtain ⟨cd, r, hcd, rfl, hF, hout⟩ := hF
  obtain ⟨b1, f1⟩ := u
  have hout : cd = 0 → f1 0 = r.toInt64 := hout
  have hF : PX8_skin 700 M (xs (i + 1)) (Qe cd r b1) := hF
  have hP : va_P D vwCl (wL Y q f1 om am M o a aa b1) H := hP
  have hD : va_D A (wL Y q f1 om am M o a aa b1) := hD
  refine lv_istore (lv' := [(5, .int (zI cd)), (0, .ref bs), (1, .ref o), (2, .ref om), (3, .ref q), (4, .int (zI i))]) hx hb dL_law_1627 hl (by decide) rfl (fun ls hl => ?_)
  refine lv_aload_n hx hb dL_law_1629 rfl (lv_at hl 3 rfl) ?_
  refine lw_arg 1 C hS (lv_at hl 1 rfl) (lv_at hl 5 rfl) (by omega) (by decide) dL_law_1630 dL_law_1631 dL_law_1633 dL_law_1634 dL_law_1635 ?_
  refine mb_cW hD hS hA (va_runV (As := [.int (xs (i + 1))]) (rest := []) ⟨hx, hb, hml, hown, hts⟩ (mb_fr (wr := wO Y q f1 ++ wB Y o a aa b1) (WF := fun u : mb_m => wL Y q f1 om am u o a aa b1) (fun u => u) wL_pM (fun u => wL_pM) (fun _ _ h => h) (cnX8_skin l D Y 700 om am M _ (xs (i + 1)) _ hF)) (cwV 1 hts gL_law_X8_skin rfl rfl rfl (by decide +kernel) ⟨(Nat.le_of_ble_eq_true rfl), (Nat.le_of_ble_eq_true rfl)⟩) (mb_preV hG hP hD 1 rfl rfl) rfl rfl hl.1 rfl (lv_room (Nat.le_of_ble_eq_true rfl)) dL_law_1636 ⟨by show _ ≤ 601024; omega, by show _ ≤ 7293034; omega⟩) (fun r2 M1 H locs hF hP hD hS => ?_)
  obtain ⟨hm27, hv, hR⟩ := hF
  refine lv_istore (lv' := [(6, .int r2), (5, .int (zI cd)), (0, .ref bs), (1, .ref o), (2, .ref om), (3, .ref q), (4, .int (zI i))]) hx hb dL_law_1639 hl (by decide) rfl (fun ls hl => ?_)
  refine lv_aload_n hx hb dL_law_1641 rfl (lv_at hl 4 rfl) ?_
  refine mb_cW hD hS hA (va_runV (As := []) (rest := []) ⟨hx, hb, hml, hown, hts⟩ (mb_fr (wr := wO Y q f1 ++ wB Y o a aa b1) (WF := fun u : mb_m => wL Y q f1 om am u o a aa b1) (fun u => u) wL_pM (fun u => wL_pM) (fun _ _ h => h) (cnX8_thrown l D Y 700 om am M1 _ (fun rr MM => rr = zI cd ∧ MM = M1) ⟨hm27, rfl⟩)) (cwV 0 hts gL_law_X8_thrown rfl rfl rfl (by decide +kernel) ⟨(Nat.le_of_ble_eq_true rfl), (Nat.le_of_ble_eq_true rfl)⟩) (mb_preV hG hP hD 1 rfl rfl) rfl rfl hl.1 rfl (lv_room (Nat.le_of_ble_eq_true rfl)) dL_law_1642 ⟨by show _ ≤ 601024; omega, by show _ ≤ 7293034; omega⟩) (fun rt M2 H locs hF hP hD hS => ?_)
  obtain ⟨rfl, hM⟩ := hF
  have hM := hM.symm
  subst hM
  refine lv_iload hx hb dL_law_1645 (lv_at hl 1 rfl) ?_
  refine lv_icmp_eq (tgt := 1652) hx hb dL_law_1647 (by decide) (fun _ => ?_) (fun cz => absurd rfl cz)
  refine lv_iload hx hb dL_law_1652 (lv_at hl 1 rfl) ?_
  refine lv_if_ne (tgt := 1669) hx hb dL_law_1654 (by decide) (fun cz => ?_) (fun cz => ?_)
  · refine lv_goto (tgt := 2310) hx hb dL_law_1669 (by decide) ?_
    refine W.widen (k := cells + 14) (n := slots + 369) (by omega) (by omega) ?_
    exact kk b1 M1 f1 _ _ _ hR hP hD hS (lv_sub hl [2, 3, 4, 5, 6] rfl)
  · have h0 : cd = 0 := (zI_eq (by omega) (by omega) (by omega) (by omega)).mp (show zI cd = zI 0 from cz)
    have hf1 : f1 ((0 : Int32)).toNatClampNeg = r.toInt64 := hout h0
    have hv := hv h0
    refine lv_aload_n hx hb dL_law_1657 rfl (lv_at hl 5 rfl) ?_
    refine lv_iconst (v := 0) hx hb dL_law_1658 (by decide) ?_
    refine va_lald hx hb hK hP 0 2 rfl rfl mb_in01 dL_law_1659 ?_
    refine lv_iload hx hb dL_law_1660 (lv_at hl 0 rfl) ?_
    refine lv_i2l (v := r2.toInt64) hx hb dL_law_1662 rfl ?_
    refine W.lcmp hx hb dL_law_1663 ?_
    refine lv_if_eq (tgt := 1669) hx hb dL_law_1664 (by decide) (fun _ => ?_) (fun cy => absurd (mb_cmp (by rw [hf1, hv])) cy)
    refine lv_goto (tgt := 2310) hx hb dL_law_1669 (by decide) ?_
    refine W.widen (k := cells + 14) (n := slots + 369) (by omega) (by omega) ?_
    exact kk b1 M1 f1 _ _ _ hR hP hD hS (lv_sub hl [2, 3, 4, 5, 6] rfl)
set_option maxHeartbeats 4000000 in
set_option maxRecDepth 100000 in
theorem lc_pare {p : Program} {l : Launch} {e : Env} {s : State} {m : MethodId} {args : Array Value} {below : List Frame} {meth : Method} {c : Code} {H : Heap} {locs : List Loc} {cells slots : Nat} {Q : State → Prop} {D : va_G} {Y : Nat → ClassId} {A : Nat → Prop} {ls : Array Slot} {L : Nat} {xs : Nat → Int32} {bs q om o i : Nat} {am a aa : Nat → Nat} {b : mb_bs} {M : mb_m} {f : Nat → Int64} (C : mb_LC p l s m meth c args L xs bs D Y A) (hi : i + 6 < L) (hc : cells + 14 ≤ 601024) (hs : slots + 369 ≤ 7293034) (hR : Rm b M) (hP : va_P D vwCl (wL Y q f om am M o a aa b) H) (hD : va_D A (wL Y q f om am M o a aa b)) (hS : va_S A s.heap H locs) (hl : lv_has ls 7 [(0, .ref bs), (1, .ref o), (2, .ref om), (3, .ref q), (4, .int (zI i))])
    (kk : lw_K p l e s m args below meth c Q D Y A bs q om am o a aa i cells slots) : W p l e room_1 s m args below meth c H locs cells slots Q (F0 m 1672 ls []) := by
  obtain ⟨⟨hx, hb, hr, hml, hts, hown, hlocks, hA, hG⟩, hX, hl0, hN, hX2, hbl, hbA, hL⟩ := id C
  have hK := hG.1
  refine lv_aload_n hx hb dL_law_1672 rfl (lv_at hl 1 rfl) ?_
  refine lw_arg 1 C hS (lv_at hl 0 rfl) (lv_at hl 4 rfl) (by omega) (by decide) dL_law_1673 dL_law_1674 dL_law_1676 dL_law_1677 dL_law_1678 ?_
  refine lw_arg 2 C hS (lv_at hl 0 rfl) (lv_at hl 4 rfl) (by omega) (by decide) dL_law_1679 dL_law_1680 dL_law_1682 dL_law_1683 dL_law_1684 ?_
  refine lw_arg 3 C hS (lv_at hl 0 rfl) (lv_at hl 4 rfl) (by omega) (by decide) dL_law_1685 dL_law_1686 dL_law_1688 dL_law_1689 dL_law_1690 ?_
  refine lw_arg 4 C hS (lv_at hl 0 rfl) (lv_at hl 4 rfl) (by omega) (by decide) dL_law_1691 dL_law_1692 dL_law_1694 dL_law_1695 dL_law_1696 ?_
  refine lw_arg 5 C hS (lv_at hl 0 rfl) (lv_at hl 4 rfl) (by omega) (by decide) dL_law_1697 dL_law_1698 dL_law_1700 dL_law_1701 dL_law_1702 ?_
  refine lw_arg6 C hS (lv_at hl 0 rfl) (lv_at hl 4 rfl) (by omega) dL_law_1703 dL_law_1704 dL_law_1706 dL_law_1708 dL_law_1709 ?_
  refine lv_aload_n hx hb dL_law_1710 rfl (lv_at hl 3 rfl) ?_
  refine mb_cW hD hS hA (vx_runSW (As := [.ref o, .int (xs (i + 1)), .int (xs (i + 2)), .int (xs (i + 3)), .int (xs (i + 4)), .int (xs (i + 5)), .int (xs (i + 6)), .ref q]) (rest := []) ⟨hx, hb, hml, hown, hts⟩ (mb_frL (wr := gw8 Y om am M) (WF := fun u : mb_bs × (Nat → Int64) => wL Y q u.2 om am M o a aa u.1) (fun u => u) wL_pL (fun u => wL_pL) (fun _ _ h => h) (cw_pare l hl0 D Y 700 o a aa b q f _ (xs (i + 1)) (xs (i + 2)) (xs (i + 3)) (xs (i + 4)) (xs (i + 5)) (xs (i + 6)) (fun cd r b => PX8_pare 700 M (xs (i + 1)) (xs (i + 2)) (xs (i + 3)) (xs (i + 4)) (xs (i + 5)) (xs (i + 6)) (Qe cd r b)) (@s_pare 700 b.1 b.2.1 b.2.2.1 b.2.2.2.1 b.2.2.2.2.1 b.2.2.2.2.2.1 b.2.2.2.2.2.2.1 b.2.2.2.2.2.2.2 M (by decide) hR (xs (i + 1)) (xs (i + 2)) (xs (i + 3)) (xs (i + 4)) (xs (i + 5)) (xs (i + 6))))) (vx_cwSW 8 hts gL_law_L_pare rfl rfl rfl (by decide +kernel) ⟨(Nat.le_of_ble_eq_true rfl), (Nat.le_of_ble_eq_true rfl)⟩) (lw_preL C hP hD hS) rfl rfl hl.1 rfl (lv_room (Nat.le_of_ble_eq_true rfl)) dL_law_1711 ⟨mb_le2 hc (Nat.le_of_ble_eq_true rfl), mb_le2 hs (Nat.le_of_ble_eq_true rfl)⟩) (fun k u H locs hF hP hD hS => ?_)
  obtain ⟨cd, r, hcd, rfl, hF, hout⟩ := hF
  obtain ⟨b1, f1⟩ := u
  have hout : cd = 0 → f1 0 = r.toInt64 := hout
  have hF : PX8_pare 700 M (xs (i + 1)) (xs (i + 2)) (xs (i + 3)) (xs (i + 4)) (xs (i + 5)) (xs (i + 6)) (Qe cd r b1) := hF
  have hP : va_P D vwCl (wL Y q f1 om am M o a aa b1) H := hP
  have hD : va_D A (wL Y q f1 om am M o a aa b1) := hD
  refine lv_istore (lv' := [(5, .int (zI cd)), (0, .ref bs), (1, .ref o), (2, .ref om), (3, .ref q), (4, .int (zI i))]) hx hb dL_law_1714 hl (by decide) rfl (fun ls hl => ?_)
  refine lv_aload_n hx hb dL_law_1716 rfl (lv_at hl 3 rfl) ?_
  refine lw_arg 1 C hS (lv_at hl 1 rfl) (lv_at hl 5 rfl) (by omega) (by decide) dL_law_1717 dL_law_1718 dL_law_1720 dL_law_1721 dL_law_1722 ?_
  refine lw_arg 2 C hS (lv_at hl 1 rfl) (lv_at hl 5 rfl) (by omega) (by decide) dL_law_1723 dL_law_1724 dL_law_1726 dL_law_1727 dL_law_1728 ?_
  refine lw_arg 3 C hS (lv_at hl 1 rfl) (lv_at hl 5 rfl) (by omega) (by decide) dL_law_1729 dL_law_1730 dL_law_1732 dL_law_1733 dL_law_1734 ?_
  refine lw_arg 4 C hS (lv_at hl 1 rfl) (lv_at hl 5 rfl) (by omega) (by decide) dL_law_1735 dL_law_1736 dL_law_1738 dL_law_1739 dL_law_1740 ?_
  refine lw_arg 5 C hS (lv_at hl 1 rfl) (lv_at hl 5 rfl) (by omega) (by decide) dL_law_1741 dL_law_1742 dL_law_1744 dL_law_1745 dL_law_1746 ?_
  refine lw_arg6 C hS (lv_at hl 1 rfl) (lv_at hl 5 rfl) (by omega) dL_law_1747 dL_law_1748 dL_law_1750 dL_law_1752 dL_law_1753 ?_
  refine mb_cW hD hS hA (va_runV (As := [.int (xs (i + 1)), .int (xs (i + 2)), .int (xs (i + 3)), .int (xs (i + 4)), .int (xs (i + 5)), .int (xs (i + 6))]) (rest := []) ⟨hx, hb, hml, hown, hts⟩ (mb_fr (wr := wO Y q f1 ++ wB Y o a aa b1) (WF := fun u : mb_m => wL Y q f1 om am u o a aa b1) (fun u => u) wL_pM (fun u => wL_pM) (fun _ _ h => h) (cnX8_pare l D Y 700 om am M _ (xs (i + 1)) (xs (i + 2)) (xs (i + 3)) (xs (i + 4)) (xs (i + 5)) (xs (i + 6)) _ hF)) (cwV 6 hts gL_law_X8_pare rfl rfl rfl (by decide +kernel) ⟨(Nat.le_of_ble_eq_true rfl), (Nat.le_of_ble_eq_true rfl)⟩) (mb_preV hG hP hD 1 rfl rfl) rfl rfl hl.1 rfl (lv_room (Nat.le_of_ble_eq_true rfl)) dL_law_1754 ⟨by show _ ≤ 601024; omega, by show _ ≤ 7293034; omega⟩) (fun r2 M1 H locs hF hP hD hS => ?_)
  obtain ⟨hm27, hv, hR⟩ := hF
  refine lv_istore (lv' := [(6, .int r2), (5, .int (zI cd)), (0, .ref bs), (1, .ref o), (2, .ref om), (3, .ref q), (4, .int (zI i))]) hx hb dL_law_1757 hl (by decide) rfl (fun ls hl => ?_)
  refine lv_aload_n hx hb dL_law_1759 rfl (lv_at hl 4 rfl) ?_
  refine mb_cW hD hS hA (va_runV (As := []) (rest := []) ⟨hx, hb, hml, hown, hts⟩ (mb_fr (wr := wO Y q f1 ++ wB Y o a aa b1) (WF := fun u : mb_m => wL Y q f1 om am u o a aa b1) (fun u => u) wL_pM (fun u => wL_pM) (fun _ _ h => h) (cnX8_thrown l D Y 700 om am M1 _ (fun rr MM => rr = zI cd ∧ MM = M1) ⟨hm27, rfl⟩)) (cwV 0 hts gL_law_X8_thrown rfl rfl rfl (by decide +kernel) ⟨(Nat.le_of_ble_eq_true rfl), (Nat.le_of_ble_eq_true rfl)⟩) (mb_preV hG hP hD 1 rfl rfl) rfl rfl hl.1 rfl (lv_room (Nat.le_of_ble_eq_true rfl)) dL_law_1760 ⟨by show _ ≤ 601024; omega, by show _ ≤ 7293034; omega⟩) (fun rt M2 H locs hF hP hD hS => ?_)
  obtain ⟨rfl, hM⟩ := hF
  have hM := hM.symm
  subst hM
  refine lv_iload hx hb dL_law_1763 (lv_at hl 1 rfl) ?_
  refine lv_icmp_eq (tgt := 1770) hx hb dL_law_1765 (by decide) (fun _ => ?_) (fun cz => absurd rfl cz)
  refine lv_iload hx hb dL_law_1770 (lv_at hl 1 rfl) ?_
  refine lv_if_ne (tgt := 1787) hx hb dL_law_1772 (by decide) (fun cz => ?_) (fun cz => ?_)
  · refine lv_goto (tgt := 2310) hx hb dL_law_1787 (by decide) ?_
    refine W.widen (k := cells + 14) (n := slots + 369) (by omega) (by omega) ?_
    exact kk b1 M1 f1 _ _ _ hR hP hD hS (lv_sub hl [2, 3, 4, 5, 6] rfl)
  · have h0 : cd = 0 := (zI_eq (by omega) (by omega) (by omega) (by omega)).mp (show zI cd = zI 0 from cz)
    have hf1 : f1 ((0 : Int32)).toNatClampNeg = r.toInt64 := hout h0
    have hv := hv h0
    refine lv_aload_n hx hb dL_law_1775 rfl (lv_at hl 5 rfl) ?_
    refine lv_iconst (v := 0) hx hb dL_law_1776 (by decide) ?_
    refine va_lald hx hb hK hP 0 2 rfl rfl mb_in01 dL_law_1777 ?_
    refine lv_iload hx hb dL_law_1778 (lv_at hl 0 rfl) ?_
    refine lv_i2l (v := r2.toInt64) hx hb dL_law_1780 rfl ?_
    refine W.lcmp hx hb dL_law_1781 ?_
    refine lv_if_eq (tgt := 1787) hx hb dL_law_1782 (by decide) (fun _ => ?_) (fun cy => absurd (mb_cmp (by rw [hf1, hv])) cy)
    refine lv_goto (tgt := 2310) hx hb dL_law_1787 (by decide) ?_
    refine W.widen (k := cells + 14) (n := slots + 369) (by omega) (by omega) ?_
    exact kk b1 M1 f1 _ _ _ hR hP hD hS (lv_sub hl [2, 3, 4, 5, 6] rfl)
