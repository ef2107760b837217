set_option maxHeartbeats 4000000 in
set_option maxRecDepth 100000 in
theorem lc_thickAt {p : Program} {l : Launch} {e : Env} {s : State} {m : MethodId} {args : Array Value} {below : List Frame} {meth : Method} {c : Code} {H : Heap} {locs : List Loc} {cells slots : Nat} {Q : State → Prop} {D : va_G} {Y : Nat → ClassId} {A : Nat → Prop} {ls : Array Slot} {L : Nat} {xs : Nat → Int32} {bs q om o i : Nat} {am a aa : Nat → Nat} {b : mb_bs} {M : mb_m} {f : Nat → Int64} (C : mb_LC p l s m meth c args L xs bs D Y A) (hi : i + 6 < L) (hc : cells + 14 ≤ 601024) (hs : slots + 369 ≤ 7293034) (hR : Rm b M) (hP : va_P D vwCl (wL Y q f om am M o a aa b) H) (hD : va_D A (wL Y q f om am M o a aa b)) (hS : va_S A s.heap H locs) (hl : lv_has ls 7 [(0, .ref bs), (1, .ref o), (2, .ref om), (3, .ref q), (4, .int (zI i))])
    (kk : lw_K p l e s m args below meth c Q D Y A bs q om am o a aa i cells slots) : W p l e room_1 s m args below meth c H locs cells slots Q (F0 m 1790 ls []) := by
  obtain ⟨⟨hx, hb, hr, hml, hts, hown, hlocks, hA, hG⟩, hX, hl0, hN, hX2, hbl, hbA, hL⟩ := id C
  have hK := hG.1
  refine lv_aload_n hx hb dL_law_1790 rfl (lv_at hl 1 rfl) ?_
  refine lw_arg 1 C hS (lv_at hl 0 rfl) (lv_at hl 4 rfl) (by omega) (by decide) dL_law_1791 dL_law_1792 dL_law_1794 dL_law_1795 dL_law_1796 ?_
  refine lw_arg 2 C hS (lv_at hl 0 rfl) (lv_at hl 4 rfl) (by omega) (by decide) dL_law_1797 dL_law_1798 dL_law_1800 dL_law_1801 dL_law_1802 ?_
  refine lw_arg 3 C hS (lv_at hl 0 rfl) (lv_at hl 4 rfl) (by omega) (by decide) dL_law_1803 dL_law_1804 dL_law_1806 dL_law_1807 dL_law_1808 ?_
  refine lv_aload_n hx hb dL_law_1809 rfl (lv_at hl 3 rfl) ?_
  refine mb_cW hD hS hA (vx_runSW (As := [.ref o, .int (xs (i + 1)), .int (xs (i + 2)), .int (xs (i + 3)), .ref q]) (rest := []) ⟨hx, hb, hml, hown, hts⟩ (mb_frL (wr := gw8 Y om am M) (WF := fun u : mb_bs × (Nat → Int64) => wL Y q u.2 om am M o a aa u.1) (fun u => u) wL_pL (fun u => wL_pL) (fun _ _ h => h) (cw_thickAt l hl0 D Y 700 o a aa b q f _ (xs (i + 1)) (xs (i + 2)) (xs (i + 3)) (fun cd r b => PX8_thickAt 700 M (xs (i + 1)) (xs (i + 2)) (xs (i + 3)) (Qe cd r b)) (@s_thickAt 700 b.1 b.2.1 b.2.2.1 b.2.2.2.1 b.2.2.2.2.1 b.2.2.2.2.2.1 b.2.2.2.2.2.2.1 b.2.2.2.2.2.2.2 M (by decide) hR (xs (i + 1)) (xs (i + 2)) (xs (i + 3))))) (vx_cwSW 5 hts gL_law_L_thickAt rfl rfl rfl (by decide +kernel) ⟨(Nat.le_of_ble_eq_true rfl), (Nat.le_of_ble_eq_true rfl)⟩) (lw_preL C hP hD hS) rfl rfl hl.1 rfl (lv_room (Nat.le_of_ble_eq_true rfl)) dL_law_1810 ⟨mb_le2 hc (Nat.le_of_ble_eq_true rfl), mb_le2 hs (Nat.le_of_ble_eq_true rfl)⟩) (fun k u H locs hF hP hD hS => ?_)
  obtain ⟨cd, r, hcd, rfl, hF, hout⟩ := hF
  obtain ⟨b1, f1⟩ := u
  have hout : cd = 0 → f1 0 = r.toInt64 := hout
  have hF : PX8_thickAt 700 M (xs (i + 1)) (xs (i + 2)) (xs (i + 3)) (Qe cd r b1) := hF
  have hP : va_P D vwCl (wL Y q f1 om am M o a aa b1) H := hP
  have hD : va_D A (wL Y q f1 om am M o a aa b1) := hD
  refine lv_istore (lv' := [(5, .int (zI cd)), (0, .ref bs), (1, .ref o), (2, .ref om), (3, .ref q), (4, .int (zI i))]) hx hb dL_law_1813 hl (by decide) rfl (fun ls hl => ?_)
  refine lv_aload_n hx hb dL_law_1815 rfl (lv_at hl 3 rfl) ?_
  refine lw_arg 1 C hS (lv_at hl 1 rfl) (lv_at hl 5 rfl) (by omega) (by decide) dL_law_1816 dL_law_1817 dL_law_1819 dL_law_1820 dL_law_1821 ?_
  refine lw_arg 2 C hS (lv_at hl 1 rfl) (lv_at hl 5 rfl) (by omega) (by decide) dL_law_1822 dL_law_1823 dL_law_1825 dL_law_1826 dL_law_1827 ?_
  refine lw_arg 3 C hS (lv_at hl 1 rfl) (lv_at hl 5 rfl) (by omega) (by decide) dL_law_1828 dL_law_1829 dL_law_1831 dL_law_1832 dL_law_1833 ?_
  refine mb_cW hD hS hA (va_runV (As := [.int (xs (i + 1)), .int (xs (i + 2)), .int (xs (i + 3))]) (rest := []) ⟨hx, hb, hml, hown, hts⟩ (mb_fr (wr := wO Y q f1 ++ wB Y o a aa b1) (WF := fun u : mb_m => wL Y q f1 om am u o a aa b1) (fun u => u) wL_pM (fun u => wL_pM) (fun _ _ h => h) (cnX8_thickAt l D Y 700 om am M _ (xs (i + 1)) (xs (i + 2)) (xs (i + 3)) _ hF)) (cwV 3 hts gL_law_X8_thickAt rfl rfl rfl (by decide +kernel) ⟨(Nat.le_of_ble_eq_true rfl), (Nat.le_of_ble_eq_true rfl)⟩) (mb_preV hG hP hD 1 rfl rfl) rfl rfl hl.1 rfl (lv_room (Nat.le_of_ble_eq_true rfl)) dL_law_1834 ⟨by show _ ≤ 601024; omega, by show _ ≤ 7293034; omega⟩) (fun r2 M1 H locs hF hP hD hS => ?_)
  obtain ⟨hm27, hv, hR⟩ := hF
  refine lv_istore (lv' := [(6, .int r2), (5, .int (zI cd)), (0, .ref bs), (1, .ref o), (2, .ref om), (3, .ref q), (4, .int (zI i))]) hx hb dL_law_1837 hl (by decide) rfl (fun ls hl => ?_)
  refine lv_aload_n hx hb dL_law_1839 rfl (lv_at hl 4 rfl) ?_
  refine mb_cW hD hS hA (va_runV (As := []) (rest := []) ⟨hx, hb, hml, hown, hts⟩ (mb_fr (wr := wO Y q f1 ++ wB Y o a aa b1) (WF := fun u : mb_m => wL Y q f1 om am u o a aa b1) (fun u => u) wL_pM (fun u => wL_pM) (fun _ _ h => h) (cnX8_thrown l D Y 700 om am M1 _ (fun rr MM => rr = zI cd ∧ MM = M1) ⟨hm27, rfl⟩)) (cwV 0 hts gL_law_X8_thrown rfl rfl rfl (by decide +kernel) ⟨(Nat.le_of_ble_eq_true rfl), (Nat.le_of_ble_eq_true rfl)⟩) (mb_preV hG hP hD 1 rfl rfl) rfl rfl hl.1 rfl (lv_room (Nat.le_of_ble_eq_true rfl)) dL_law_1840 ⟨by show _ ≤ 601024; omega, by show _ ≤ 7293034; omega⟩) (fun rt M2 H locs hF hP hD hS => ?_)
  obtain ⟨rfl, hM⟩ := hF
  have hM := hM.symm
  subst hM
  refine lv_iload hx hb dL_law_1843 (lv_at hl 1 rfl) ?_
  refine lv_icmp_eq (tgt := 1850) hx hb dL_law_1845 (by decide) (fun _ => ?_) (fun cz => absurd rfl cz)
  refine lv_iload hx hb dL_law_1850 (lv_at hl 1 rfl) ?_
  refine lv_if_ne (tgt := 1867) hx hb dL_law_1852 (by decide) (fun cz => ?_) (fun cz => ?_)
  · refine lv_goto (tgt := 2310) hx hb dL_law_1867 (by decide) ?_
    refine W.widen (k := cells + 14) (n := slots + 369) (by omega) (by omega) ?_
    exact kk b1 M1 f1 _ _ _ hR hP hD hS (lv_sub hl [2, 3, 4, 5, 6] rfl)
  · have h0 : cd = 0 := (zI_eq (by omega) (by omega) (by omega) (by omega)).mp (show zI cd = zI 0 from cz)
    have hf1 : f1 ((0 : Int32)).toNatClampNeg = r.toInt64 := hout h0
    have hv := hv h0
    refine lv_aload_n hx hb dL_law_1855 rfl (lv_at hl 5 rfl) ?_
    refine lv_iconst (v := 0) hx hb dL_law_1856 (by decide) ?_
    refine va_lald hx hb hK hP 0 2 rfl rfl mb_in01 dL_law_1857 ?_
    refine lv_iload hx hb dL_law_1858 (lv_at hl 0 rfl) ?_
    refine lv_i2l (v := r2.toInt64) hx hb dL_law_1860 rfl ?_
    refine W.lcmp hx hb dL_law_1861 ?_
    refine lv_if_eq (tgt := 1867) hx hb dL_law_1862 (by decide) (fun _ => ?_) (fun cy => absurd (mb_cmp (by rw [hf1, hv])) cy)
    refine lv_goto (tgt := 2310) hx hb dL_law_1867 (by decide) ?_
    refine W.widen (k := cells + 14) (n := slots + 369) (by omega) (by omega) ?_
    exact kk b1 M1 f1 _ _ _ hR hP hD hS (lv_sub hl [2, 3, 4, 5, 6] rfl)
set_option maxHeartbeats 4000000 in
set_option maxRecDepth 100000 in
theorem lc_tooThick {p : Program} {l : Launch} {e : Env} {s : State} {m : MethodId} {args : Array Value} {below : List Frame} {meth : Method} {c : Code} {H : Heap} {locs : List Loc} {cells slots : Nat} {Q : State → Prop} {D : va_G} {Y : Nat → ClassId} {A : Nat → Prop} {ls : Array Slot} {L : Nat} {xs : Nat → Int32} {bs q om o i : Nat} {am a aa : Nat → Nat} {b : mb_bs} {M : mb_m} {f : Nat → Int64} (C : mb_LC p l s m meth c args L xs bs D Y A) (hi : i + 6 < L) (hc : cells + 14 ≤ 601024) (hs : slots + 369 ≤ 7293034) (hR : Rm b M) (hP : va_P D vwCl (wL Y q f om am M o a aa b) H) (hD : va_D A (wL Y q f om am M o a aa b)) (hS : va_S A s.heap H locs) (hl : lv_has ls 7 [(0, .ref bs), (1, .ref o), (2, .ref om), (3, .ref q), (4, .int (zI i))])
    (kk : lw_K p l e s m args below meth c Q D Y A bs q om am o a aa i cells slots) : W p l e room_1 s m args below meth c H locs cells slots Q (F0 m 1870 ls []) := by
  obtain ⟨⟨hx, hb, hr, hml, hts, hown, hlocks, hA, hG⟩, hX, hl0, hN, hX2, hbl, hbA, hL⟩ := id C
  have hK := hG.1
  refine lv_aload_n hx hb dL_law_1870 rfl (lv_at hl 1 rfl) ?_
  refine lw_arg 1 C hS (lv_at hl 0 rfl) (lv_at hl 4 rfl) (by omega) (by decide) dL_law_1871 dL_law_1872 dL_law_1874 dL_law_1875 dL_law_1876 ?_
  refine lv_aload_n hx hb dL_law_1877 rfl (lv_at hl 3 rfl) ?_
  refine mb_cW hD hS hA (vx_runSW (As := [.ref o, .int (xs (i + 1)), .ref q]) (rest := []) ⟨hx, hb, hml, hown, hts⟩ (mb_frL (wr := gw8 Y om am M) (WF := fun u : mb_bs × (Nat → Int64) => wL Y q u.2 om am M o a aa u.1) (fun u => u) wL_pL (fun u => wL_pL) (fun _ _ h => h) (cw_tooThick l hl0 D Y 700 o a aa b q f _ (xs (i + 1)) (fun cd r b => PX8_tooThick 700 M (xs (i + 1)) (Qe cd r b)) (@s_tooThick 700 b.1 b.2.1 b.2.2.1 b.2.2.2.1 b.2.2.2.2.1 b.2.2.2.2.2.1 b.2.2.2.2.2.2.1 b.2.2.2.2.2.2.2 M (by decide) hR (xs (i + 1))))) (vx_cwSW 3 hts gL_law_L_tooThick rfl rfl rfl (by decide +kernel) ⟨(Nat.le_of_ble_eq_true rfl), (Nat.le_of_ble_eq_true rfl)⟩) (lw_preL C hP hD hS) rfl rfl hl.1 rfl (lv_room (Nat.le_of_ble_eq_true rfl)) dL_law_1878 ⟨mb_le2 hc (Nat.le_of_ble_eq_true rfl), mb_le2 hs (Nat.le_of_ble_eq_true rfl)⟩) (fun k u H locs hF hP hD hS => ?_)
  obtain ⟨cd, r, hcd, rfl, hF, hout⟩ := hF
  obtain ⟨b1, f1⟩ := u
  have hout : cd = 0 → f1 0 = r.toInt64 := hout
  have hF : PX8_tooThick 700 M (xs (i + 1)) (Qe cd r b1) := hF
  have hP : va_P D vwCl (wL Y q f1 om am M o a aa b1) H := hP
  have hD : va_D A (wL Y q f1 om am M o a aa b1) := hD
  refine lv_istore (lv' := [(5, .int (zI cd)), (0, .ref bs), (1, .ref o), (2, .ref om), (3, .ref q), (4, .int (zI i))]) hx hb dL_law_1881 hl (by decide) rfl (fun ls hl => ?_)
  refine lv_aload_n hx hb dL_law_1883 rfl (lv_at hl 3 rfl) ?_
  refine lw_arg 1 C hS (lv_at hl 1 rfl) (lv_at hl 5 rfl) (by omega) (by decide) dL_law_1884 dL_law_1885 dL_law_1887 dL_law_1888 dL_law_1889 ?_
  refine mb_cW hD hS hA (va_runV (As := [.int (xs (i + 1))]) (rest := []) ⟨hx, hb, hml, hown, hts⟩ (mb_fr (wr := wO Y q f1 ++ wB Y o a aa b1) (WF := fun u : mb_m => wL Y q f1 om am u o a aa b1) (fun u => u) wL_pM (fun u => wL_pM) (fun _ _ h => h) (cnX8_tooThick l D Y 700 om am M _ (xs (i + 1)) _ hF)) (cwV 1 hts gL_law_X8_tooThick rfl rfl rfl (by decide +kernel) ⟨(Nat.le_of_ble_eq_true rfl), (Nat.le_of_ble_eq_true rfl)⟩) (mb_preV hG hP hD 1 rfl rfl) rfl rfl hl.1 rfl (lv_room (Nat.le_of_ble_eq_true rfl)) dL_law_1890 ⟨by show _ ≤ 601024; omega, by show _ ≤ 7293034; omega⟩) (fun r2 M1 H locs hF hP hD hS => ?_)
  obtain ⟨hm27, hv, hR⟩ := hF
  refine lv_istore (lv' := [(6, .int r2), (5, .int (zI cd)), (0, .ref bs), (1, .ref o), (2, .ref om), (3, .ref q), (4, .int (zI i))]) hx hb dL_law_1893 hl (by decide) rfl (fun ls hl => ?_)
  refine lv_aload_n hx hb dL_law_1895 rfl (lv_at hl 4 rfl) ?_
  refine mb_cW hD hS hA (va_runV (As := []) (rest := []) ⟨hx, hb, hml, hown, hts⟩ (mb_fr (wr := wO Y q f1 ++ wB Y o a aa b1) (WF := fun u : mb_m => wL Y q f1 om am u o a aa b1) (fun u => u) wL_pM (fun u => wL_pM) (fun _ _ h => h) (cnX8_thrown l D Y 700 om am M1 _ (fun rr MM => rr = zI cd ∧ MM = M1) ⟨hm27, rfl⟩)) (cwV 0 hts gL_law_X8_thrown rfl rfl rfl (by decide +kernel) ⟨(Nat.le_of_ble_eq_true rfl), (Nat.le_of_ble_eq_true rfl)⟩) (mb_preV hG hP hD 1 rfl rfl) rfl rfl hl.1 rfl (lv_room (Nat.le_of_ble_eq_true rfl)) dL_law_1896 ⟨by show _ ≤ 601024; omega, by show _ ≤ 7293034; omega⟩) (fun rt M2 H locs hF hP hD hS => ?_)
  obtain ⟨rfl, hM⟩ := hF
  have hM := hM.symm
  subst hM
  refine lv_iload hx hb dL_law_1899 (lv_at hl 1 rfl) ?_
  refine lv_icmp_eq (tgt := 1906) hx hb dL_law_1901 (by decide) (fun _ => ?_) (fun cz => absurd rfl cz)
  refine lv_iload hx hb dL_law_1906 (lv_at hl 1 rfl) ?_
  refine lv_if_ne (tgt := 1923) hx hb dL_law_1908 (by decide) (fun cz => ?_) (fun cz => ?_)
  · refine lv_goto (tgt := 2310) hx hb dL_law_1923 (by decide) ?_
    refine W.widen (k := cells + 14) (n := slots + 369) (by omega) (by omega) ?_
    exact kk b1 M1 f1 _ _ _ hR hP hD hS (lv_sub hl [2, 3, 4, 5, 6] rfl)
  · have h0 : cd = 0 := (zI_eq (by omega) (by omega) (by omega) (by omega)).mp (show zI cd = zI 0 from cz)
    have hf1 : f1 ((0 : Int32)).toNatClampNeg = r.toInt64 := hout h0
    have hv := hv h0
    refine lv_aload_n hx hb dL_law_1911 rfl (lv_at hl 5 rfl) ?_
    refine lv_iconst (v := 0) hx hb dL_law_1912 (by decide) ?_
    refine va_lald hx hb hK hP 0 2 rfl rfl mb_in01 dL_law_1913 ?_
    refine lv_iload hx hb dL_law_1914 (lv_at hl 0 rfl) ?_
    refine lv_i2l (v := r2.toInt64) hx hb dL_law_1916 rfl ?_
    refine W.lcmp hx hb dL_law_1917 ?_
    refine lv_if_eq (tgt := 1923) hx hb dL_law_1918 (by decide) (fun _ => ?_) (fun cy => absurd (mb_cmp (by rw [hf1, hv])) cy)
    refine lv_goto (tgt := 2310) hx hb dL_law_1923 (by decide) ?_
    refine W.widen (k := cells + 14) (n := slots + 369) (by omega) (by omega) ?_
    exact kk b1 M1 f1 _ _ _ hR hP hD hS (lv_sub hl [2, 3, 4, 5, 6] rfl)
set_option maxHeartbeats 4000000 in
set_option maxRecDepth 100000 in
theorem lc_repair {p : Program} {l : Launch} {e : Env} {s : State} {m : MethodId} {args : Array Value} {below : List Frame} {meth : Method} {c : Code} {H : Heap} {locs : List Loc} {cells slots : Nat} {Q : State → Prop} {D : va_G} {Y : Nat → ClassId} {A : Nat → Prop} {ls : Array Slot} {L : Nat} {xs : Nat → Int32} {bs q om o i : Nat} {am a aa : Nat → Nat} {b : mb_bs} {M : mb_m} {f : Nat → Int64} (C : mb_LC p l s m meth c args L xs bs D Y A) (hi : i + 6 < L) (hc : cells + 14 ≤ 601024) (hs : slots + 369 ≤ 7293034) (hR : Rm b M) (hP : va_P D vwCl (wL Y q f om am M o a aa b) H) (hD : va_D A (wL Y q f om am M o a aa b)) (hS : va_S A s.heap H locs) (hl : lv_has ls 7 [(0, .ref bs), (1, .ref o), (2, .ref om), (3, .ref q), (4, .int (zI i))])
    (kk : lw_K p l e s m args below meth c Q D Y A bs q om am o a aa i cells slots) : W p l e room_1 s m args below meth c H locs cells slots Q (F0 m 1926 ls []) := by
  obtain ⟨⟨hx, hb, hr, hml, hts, hown, hlocks, hA, hG⟩, hX, hl0, hN, hX2, hbl, hbA, hL⟩ := id C
  have hK := hG.1
  refine lv_aload_n hx hb dL_law_1926 rfl (lv_at hl 1 rfl) ?_
  refine lw_arg 1 C hS (lv_at hl 0 rfl) (lv_at hl 4 rfl) (by omega) (by decide) dL_law_1927 dL_law_1928 dL_law_1930 dL_law_1931 dL_law_1932 ?_
  refine lw_arg 2 C hS (lv_at hl 0 rfl) (lv_at hl 4 rfl) (by omega) (by decide) dL_law_1933 dL_law_1934 dL_law_1936 dL_law_1937 dL_law_1938 ?_
  refine lv_aload_n hx hb dL_law_1939 rfl (lv_at hl 3 rfl) ?_
  refine mb_cW hD hS hA (vx_runSW (As := [.ref o, .int (xs (i + 1)), .int (xs (i + 2)), .ref q]) (rest := []) ⟨hx, hb, hml, hown, hts⟩ (mb_frL (wr := gw8 Y om am M) (WF := fun u : mb_bs × (Nat → Int64) => wL Y q u.2 om am M o a aa u.1) (fun u => u) wL_pL (fun u => wL_pL) (fun _ _ h => h) (cw_repair l hl0 D Y 700 o a aa b q f _ (xs (i + 1)) (xs (i + 2)) (fun cd r b => PX8_repair 700 M (xs (i + 1)) (xs (i + 2)) (Qe cd r b)) (@s_repair 700 b.1 b.2.1 b.2.2.1 b.2.2.2.1 b.2.2.2.2.1 b.2.2.2.2.2.1 b.2.2.2.2.2.2.1 b.2.2.2.2.2.2.2 M (by decide) hR (xs (i + 1)) (xs (i + 2))))) (vx_cwSW 4 hts gL_law_L_repair rfl rfl rfl (by decide +kernel) ⟨(Nat.le_of_ble_eq_true rfl), (Nat.le_of_ble_eq_true rfl)⟩) (lw_preL C hP hD hS) rfl rfl hl.1 rfl (lv_room (Nat.le_of_ble_eq_true rfl)) dL_law_1940 ⟨mb_le2 hc (Nat.le_of_ble_eq_true rfl), mb_le2 hs (Nat.le_of_ble_eq_true rfl)⟩) (fun k u H locs hF hP hD hS => ?_)
  obtain ⟨cd, r, hcd, rfl, hF, hout⟩ := hF
  obtain ⟨b1, f1⟩ := u
  have hout : cd = 0 → f1 0 = r.toInt64 := hout
  have hF : PX8_repair 700 M (xs (i + 1)) (xs (i + 2)) (Qe cd r b1) := hF
  have hP : va_P D vwCl (wL Y q f1 om am M o a aa b1) H := hP
  have hD : va_D A (wL Y q f1 om am M o a aa b1) := hD
  refine lv_istore (lv' := [(5, .int (zI cd)), (0, .ref bs), (1, .ref o), (2, .ref om), (3, .ref q), (4, .int (zI i))]) hx hb dL_law_1943 hl (by decide) rfl (fun ls hl => ?_)
  refine lv_aload_n hx hb dL_law_1945 rfl (lv_at hl 3 rfl) ?_
  refine lw_arg 1 C hS (lv_at hl 1 rfl) (lv_at hl 5 rfl) (by omega) (by decide) dL_law_1946 dL_law_1947 dL_law_1949 dL_law_1950 dL_law_1951 ?_
  refine lw_arg 2 C hS (lv_at hl 1 rfl) (lv_at hl 5 rfl) (by omega) (by decide) dL_law_1952 dL_law_1953 dL_law_1955 dL_law_1956 dL_law_1957 ?_
  refine mb_cW hD hS hA (va_runV (As := [.int (xs (i + 1)), .int (xs (i + 2))]) (rest := []) ⟨hx, hb, hml, hown, hts⟩ (mb_fr (wr := wO Y q f1 ++ wB Y o a aa b1) (WF := fun u : mb_m => wL Y q f1 om am u o a aa b1) (fun u => u) wL_pM (fun u => wL_pM) (fun _ _ h => h) (cnX8_repair l D Y 700 om am M _ (xs (i + 1)) (xs (i + 2)) _ hF)) (cwV 2 hts gL_law_X8_repair rfl rfl rfl (by decide +kernel) ⟨(Nat.le_of_ble_eq_true rfl), (Nat.le_of_ble_eq_true rfl)⟩) (mb_preV hG hP hD 1 rfl rfl) rfl rfl hl.1 rfl (lv_room (Nat.le_of_ble_eq_true rfl)) dL_law_1958 ⟨by show _ ≤ 601024; omega, by show _ ≤ 7293034; omega⟩) (fun r2 M1 H locs hF hP hD hS => ?_)
  obtain ⟨hm27, hv, hR⟩ := hF
  refine lv_istore (lv' := [(6, .int r2), (5, .int (zI cd)), (0, .ref bs), (1, .ref o), (2, .ref om), (3, .ref q), (4, .int (zI i))]) hx hb dL_law_1961 hl (by decide) rfl (fun ls hl => ?_)
  refine lv_aload_n hx hb dL_law_1963 rfl (lv_at hl 4 rfl) ?_
  refine mb_cW hD hS hA (va_runV (As := []) (rest := []) ⟨hx, hb, hml, hown, hts⟩ (mb_fr (wr := wO Y q f1 ++ wB Y o a aa b1) (WF := fun u : mb_m => wL Y q f1 om am u o a aa b1) (fun u => u) wL_pM (fun u => wL_pM) (fun _ _ h => h) (cnX8_thrown l D Y 700 om am M1 _ (fun rr MM => rr = zI cd ∧ MM = M1) ⟨hm27, rfl⟩)) (cwV 0 hts gL_law_X8_thrown rfl rfl rfl (by decide +kernel) ⟨(Nat.le_of_ble_eq_true rfl), (Nat.le_of_ble_eq_true rfl)⟩) (mb_preV hG hP hD 1 rfl rfl) rfl rfl hl.1 rfl (lv_room (Nat.le_of_ble_eq_true rfl)) dL_law_1964 ⟨by show _ ≤ 601024; omega, by show _ ≤ 7293034; omega⟩) (fun rt M2 H locs hF hP hD hS => ?_)
  obtain ⟨rfl, hM⟩ := hF
  have hM := hM.symm
  subst hM
  refine lv_iload hx hb dL_law_1967 (lv_at hl 1 rfl) ?_
  refine lv_icmp_eq (tgt := 1974) hx hb dL_law_1969 (by decide) (fun _ => ?_) (fun cz => absurd rfl cz)
  refine lv_iload hx hb dL_law_1974 (lv_at hl 1 rfl) ?_
  refine lv_if_ne (tgt := 1991) hx hb dL_law_1976 (by decide) (fun cz => ?_) (fun cz => ?_)
  · refine lv_goto (tgt := 2310) hx hb dL_law_1991 (by decide) ?_
    refine W.widen (k := cells + 14) (n := slots + 369) (by omega) (by omega) ?_
    exact kk b1 M1 f1 _ _ _ hR hP hD hS (lv_sub hl [2, 3, 4, 5, 6] rfl)
  · have h0 : cd = 0 := (zI_eq (by omega) (by omega) (by omega) (by omega)).mp (show zI cd = zI 0 from cz)
    have hf1 : f1 ((0 : Int32)).toNatClampNeg = r.toInt64 := hout h0
    have hv := hv h0
    refine lv_aload_n hx hb dL_law_1979 rfl (lv_at hl 5 rfl) ?_
    refine lv_iconst (v := 0) hx hb dL_law_1980 (by decide) ?_
    refine va_lald hx hb hK hP 0 2 rfl rfl mb_in01 dL_law_1981 ?_
    refine lv_iload hx hb dL_law_1982 (lv_at hl 0 rfl) ?_
    refine lv_i2l (v := r2.toInt64) hx hb dL_law_1984 rfl ?_
    refine W.lcmp hx hb dL_law_1985 ?_
    refine lv_if_eq (tgt := 1991) hx hb dL_law_1986 (by decide) (fun _ => ?_) (fun cy => absurd (mb_cmp (by rw [hf1, hv])) cy)
    refine lv_goto (tgt := 2310) hx hb dL_law_1991 (by decide) ?_
    refine W.widen (k := cells + 14) (n := slots + 369) (by omega) (by omega) ?_
    exact kk b1 M1 f1 _ _ _ hR hP hD hS (lv_sub hl [2, 3, 4, 5, 6] rfl)
set_option maxHeartbeats 4000000 in
set_option maxRecDepth 100000 in
theorem lc_undo {p : Program} {l : Launch} {e : Env} {s : State} {m : MethodId} {args : Array Value} {below : List Frame} {meth : Method} {c : Code} {H : Heap} {locs : List Loc} {cells slots : Nat} {Q : State → Prop} {D : va_G} {Y : Nat → ClassId} {A : Nat → Prop} {ls : Array Slot} {L : Nat} {xs : Nat → Int32} {bs q om o i : Nat} {am a aa : Nat → Nat} {b : mb_bs} {M : mb_m} {f : Nat → Int64} (C : mb_LC p l s m meth c args L xs bs D Y A) (hi : i + 6 < L) (hc : cells + 14 ≤ 601024) (hs : slots + 369 ≤ 7293034) (hR : Rm b M) (hP : va_P D vwCl (wL Y q f om am M o a aa b) H) (hD : va_D A (wL Y q f om am M o a aa b)) (hS : va_S A s.heap H locs) (hl : lv_has ls 7 [(0, .ref bs), (1, .ref o), (2, .ref om), (3, .ref q), (4, .int (zI i))])
    (kk : lw_K p l e s m args below meth c Q D Y A bs q om am o a aa i cells slots) : W p l e room_1 s m args below meth c H locs cells slots Q (F0 m 1994 ls []) := by
  obtain ⟨⟨hx, hb, hr, hml, hts, hown, hlocks, hA, hG⟩, hX, hl0, hN, hX2, hbl, hbA, hL⟩ := id C
  have hK := hG.1
  refine lv_aload_n hx hb dL_law_1994 rfl (lv_at hl 1 rfl) ?_
  refine lw_arg 1 C hS (lv_at hl 0 rfl) (lv_at hl 4 rfl) (by omega) (by decide) dL_law_1995 dL_law_1996 dL_law_1998 dL_law_1999 dL_law_2000 ?_
  refine lv_aload_n hx hb dL_law_2001 rfl (lv_at hl 3 rfl) ?_
  refine mb_cW hD hS hA (vx_runSW (As := [.ref o, .int (xs (i + 1)), .ref q]) (rest := []) ⟨hx, hb, hml, hown, hts⟩ (mb_frL (wr := gw8 Y om am M) (WF := fun u : mb_bs × (Nat → Int64) => wL Y q u.2 om am M o a aa u.1) (fun u => u) wL_pL (fun u => wL_pL) (fun _ _ h => h) (cw_undo l hl0 D Y 700 o a aa b q f _ (xs (i + 1)) (fun cd r b => PX8_undo 700 M (xs (i + 1)) (Qe cd r b)) (@s_undo 700 b.1 b.2.1 b.2.2.1 b.2.2.2.1 b.2.2.2.2.1 b.2.2.2.2.2.1 b.2.2.2.2.2.2.1 b.2.2.2.2.2.2.2 M (by decide) hR (xs (i + 1))))) (vx_cwSW 3 hts gL_law_L_undo rfl rfl rfl (by decide +kernel) ⟨(Nat.le_of_ble_eq_true rfl), (Nat.le_of_ble_eq_true rfl)⟩) (lw_preL C hP hD hS) rfl rfl hl.1 rfl (lv_room (Nat.le_of_ble_eq_true rfl)) dL_law_2002 ⟨mb_le2 hc (Nat.le_of_ble_eq_true rfl), mb_le2 hs (Nat.le_of_ble_eq_true rfl)⟩) (fun k u H locs hF hP hD hS => ?_)
  obtain ⟨cd, r, hcd, rfl, hF, hout⟩ := hF
  obtain ⟨b1, f1⟩ := u
  have hout : cd = 0 → f1 0 = r.toInt64 := hout
  have hF : PX8_undo 700 M (xs (i + 1)) (Qe cd r b1) := hF
  have hP : va_P D vwCl (wL Y q f1 om am M o a aa b1) H := hP
  have hD : va_D A (wL Y q f1 om am M o a aa b1) := hD
  refine lv_istore (lv' := [(5, .int (zI cd)), (0, .ref bs), (1, .ref o), (2, .ref om), (3, .ref q), (4, .int (zI i))]) hx hb dL_law_2005 hl (by decide) rfl (fun ls hl => ?_)
  refine lv_aload_n hx hb dL_law_2007 rfl (lv_at hl 3 rfl) ?_
  refine lw_arg 1 C hS (lv_at hl 1 rfl) (lv_at hl 5 rfl) (by omega) (by decide) dL_law_2008 dL_law_2009 dL_law_2011 dL_law_2012 dL_law_2013 ?_
  refine mb_cW hD hS hA (va_runV (As := [.int (xs (i + 1))]) (rest := []) ⟨hx, hb, hml, hown, hts⟩ (mb_fr (wr := wO Y q f1 ++ wB Y o a aa b1) (WF := fun u : mb_m => wL Y q f1 om am u o a aa b1) (fun u => u) wL_pM (fun u => wL_pM) (fun _ _ h => h) (cnX8_undo l D Y 700 om am M _ (xs (i + 1)) _ hF)) (cwV 1 hts gL_law_X8_undo rfl rfl rfl (by decide +kernel) ⟨(Nat.le_of_ble_eq_true rfl), (Nat.le_of_ble_eq_true rfl)⟩) (mb_preV hG hP hD 1 rfl rfl) rfl rfl hl.1 rfl (lv_room (Nat.le_of_ble_eq_true rfl)) dL_law_2014 ⟨by show _ ≤ 601024; omega, by show _ ≤ 7293034; omega⟩) (fun r2 M1 H locs hF hP hD hS => ?_)
  obtain ⟨hm27, hv, hR⟩ := hF
  refine lv_istore (lv' := [(6, .int r2), (5, .int (zI cd)), (0, .ref bs), (1, .ref o), (2, .ref om), (3, .ref q), (4, .int (zI i))]) hx hb dL_law_2017 hl (by decide) rfl (fun ls hl => ?_)
  refine lv_aload_n hx hb dL_law_2019 rfl (lv_at hl 4 rfl) ?_
  refine mb_cW hD hS hA (va_runV (As := []) (rest := []) ⟨hx, hb, hml, hown, hts⟩ (mb_fr (wr := wO Y q f1 ++ wB Y o a aa b1) (WF := fun u : mb_m => wL Y q f1 om am u o a aa b1) (fun u => u) wL_pM (fun u => wL_pM) (fun _ _ h => h) (cnX8_thrown l D Y 700 om am M1 _ (fun rr MM => rr = zI cd ∧ MM = M1) ⟨hm27, rfl⟩)) (cwV 0 hts gL_law_X8_thrown rfl rfl rfl (by decide +kernel) ⟨(Nat.le_of_ble_eq_true rfl), (Nat.le_of_ble_eq_true rfl)⟩) (mb_preV hG hP hD 1 rfl rfl) rfl rfl hl.1 rfl (lv_room (Nat.le_of_ble_eq_true rfl)) dL_law_2020 ⟨by show _ ≤ 601024; omega, by show _ ≤ 7293034; omega⟩) (fun rt M2 H locs hF hP hD hS => ?_)
  obtain ⟨rfl, hM⟩ := hF
  have hM := hM.symm
  subst hM
  refine lv_iload hx hb dL_law_2023 (lv_at hl 1 rfl) ?_
  refine lv_icmp_eq (tgt := 2030) hx hb dL_law_2025 (by decide) (fun _ => ?_) (fun cz => absurd rfl cz)
  refine lv_iload hx hb dL_law_2030 (lv_at hl 1 rfl) ?_
  refine lv_if_ne (tgt := 2047) hx hb dL_law_2032 (by decide) (fun cz => ?_) (fun cz => ?_)
  · refine lv_goto (tgt := 2310) hx hb dL_law_2047 (by decide) ?_
    refine W.widen (k := cells + 14) (n := slots + 369) (by omega) (by omega) ?_
    exact kk b1 M1 f1 _ _ _ hR hP hD hS (lv_sub hl [2, 3, 4, 5, 6] rfl)
  · have h0 : cd = 0 := (zI_eq (by omega) (by omega) (by omega) (by omega)).mp (show zI cd = zI 0 from cz)
    have hf1 : f1 ((0 : Int32)).toNatClampNeg = r.toInt64 := hout h0
    have hv := hv h0
    refine lv_aload_n hx hb dL_law_2035 rfl (lv_at hl 5 rfl) ?_
    refine lv_iconst (v := 0) hx hb dL_law_2036 (by decide) ?_
    refine va_lald hx hb hK hP 0 2 rfl rfl mb_in01 dL_law_2037 ?_
    refine lv_iload hx hb dL_law_2038 (lv_at hl 0 rfl) ?_
    refine lv_i2l (v := r2.toInt64) hx hb dL_law_2040 rfl ?_
    refine W.lcmp hx hb dL_law_2041 ?_
    refine lv_if_eq (tgt := 2047) hx hb dL_law_2042 (by decide) (fun _ => ?_) (fun cy => absurd (mb_cmp (by rw [hf1, hv])) cy)
    refine lv_goto (tgt := 2310) hx hb dL_law_2047 (by decide) ?_
    refine W.widen (k := cells + 14) (n := slots + 369) (by omega) (by omega) ?_
    exact kk b1 M1 f1 _ _ _ hR hP hD hS (lv_sub hl [2, 3, 4, 5, 6] rfl)
set_option maxHeartbeats 4000000 in
set_option maxRecDepth 100000 in
theorem lc_speak {p : Program} {l : Launch} {e : Env} {s : State} {m : MethodId} {args : Array Value} {below : List Frame} {meth : Method} {c : Code} {H : Heap} {locs : List Loc} {cells slots : Nat} {Q : State → Prop} {D : va_G} {Y : Nat → ClassId} {A : Nat → Prop} {ls : Array Slot} {L : Nat} {xs : Nat → Int32} {bs q om o i : Nat} {am a aa : Nat → Nat} {b : mb_bs} {M : mb_m} {f : Nat → Int64} (C : mb_LC p l s m meth c args L xs bs D Y A) (hi : i + 6 < L) (hc : cells + 14 ≤ 601024) (hs : slots + 369 ≤ 7293034) (hR : Rm b M) (hP : va_P D vwCl (wL Y q f om am M o a aa b) H) (hD : va_D A (wL Y q f om am M o a aa b)) (hS : va_S A s.heap H locs) (hl : lv_has ls 7 [(0, .ref bs), (1, .ref o), (2, .ref om), (3, .ref q), (4, .int (zI i))])
    (kk : lw_K p l e s m args below meth c Q D Y A bs q om am o a aa i cells slots) : W p l e room_1 s m args below meth c H locs cells slots Q (F0 m 2050 ls []) := by
  obtain ⟨⟨hx, hb, hr, hml, hts, hown, hlocks, hA, hG⟩, hX, hl0, hN, hX2, hbl, hbA, hL⟩ := id C
  have hK := hG.1
  refine lv_aload_n hx hb dL_law_2050 rfl (lv_at hl 1 rfl) ?_
  refine lw_arg 1 C hS (lv_at hl 0 rfl) (lv_at hl 4 rfl) (by omega) (by decide) dL_law_2051 dL_law_2052 dL_law_2054 dL_law_2055 dL_law_2056 ?_
  refine lw_arg 2 C hS (lv_at hl 0 rfl) (lv_at hl 4 rfl) (by omega) (by decide) dL_law_2057 dL_law_2058 dL_law_2060 dL_law_2061 dL_law_2062 ?_
  refine lw_arg 3 C hS (lv_at hl 0 rfl) (lv_at hl 4 rfl) (by omega) (by decide) dL_law_2063 dL_law_2064 dL_law_2066 dL_law_2067 dL_law_2068 ?_
  refine lw_arg 4 C hS (lv_at hl 0 rfl) (lv_at hl 4 rfl) (by omega) (by decide) dL_law_2069 dL_law_2070 dL_law_2072 dL_law_2073 dL_law_2074 ?_
  refine lv_aload_n hx hb dL_law_2075 rfl (lv_at hl 3 rfl) ?_
  refine mb_cW hD hS hA (vx_runSW (As := [.ref o, .int (xs (i + 1)), .int (xs (i + 2)), .int (xs (i + 3)), .int (xs (i + 4)), .ref q]) (rest := []) ⟨hx, hb, hml, hown, hts⟩ (mb_frL (wr := gw8 Y om am M) (WF := fun u : mb_bs × (Nat → Int64) => wL Y q u.2 om am M o a aa u.1) (fun u => u) wL_pL (fun u => wL_pL) (fun _ _ h => h) (cw_speak l hl0 D Y 700 o a aa b q f _ (xs (i + 1)) (xs (i + 2)) (xs (i + 3)) (xs (i + 4)) (fun cd r b => PX8_speak 700 M (xs (i + 1)) (xs (i + 2)) (xs (i + 3)) (xs (i + 4)) (Qe cd r b)) (@s_speak 700 b.1 b.2.1 b.2.2.1 b.2.2.2.1 b.2.2.2.2.1 b.2.2.2.2.2.1 b.2.2.2.2.2.2.1 b.2.2.2.2.2.2.2 M (by decide) hR (xs (i + 1)) (xs (i + 2)) (xs (i + 3)) (xs (i + 4))))) (vx_cwSW 6 hts gL_law_L_speak rfl rfl rfl (by decide +kernel) ⟨(Nat.le_of_ble_eq_true rfl), (Nat.le_of_ble_eq_true rfl)⟩) (lw_preL C hP hD hS) rfl rfl hl.1 rfl (lv_room (Nat.le_of_ble_eq_true rfl)) dL_law_2076 ⟨mb_le2 hc (Nat.le_of_ble_eq_true rfl), mb_le2 hs (Nat.le_of_ble_eq_true rfl)⟩) (fun k u H locs hF hP hD hS => ?_)
  obtain ⟨cd, r, hcd, rfl, hF, hout⟩ := hF
  obtain ⟨b1, f1⟩ := u
  have hout : cd = 0 → f1 0 = r.toInt64 := hout
  have hF : PX8_speak 700 M (xs (i + 1)) (xs (i + 2)) (xs (i + 3)) (xs (i + 4)) (Qe cd r b1) := hF
  have hP : va_P D vwCl (wL Y q f1 om am M o a aa b1) H := hP
  have hD : va_D A (wL Y q f1 om am M o a aa b1) := hD
  refine lv_istore (lv' := [(5, .int (zI cd)), (0, .ref bs), (1, .ref o), (2, .ref om), (3, .ref q), (4, .int (zI i))]) hx hb dL_law_2079 hl (by decide) rfl (fun ls hl => ?_)
  refine lv_aload_n hx hb dL_law_2081 rfl (lv_at hl 3 rfl) ?_
  refine lw_arg 1 C hS (lv_at hl 1 rfl) (lv_at hl 5 rfl) (by omega) (by decide) dL_law_2082 dL_law_2083 dL_law_2085 dL_law_2086 dL_law_2087 ?_
  refine lw_arg 2 C hS (lv_at hl 1 rfl) (lv_at hl 5 rfl) (by omega) (by decide) dL_law_2088 dL_law_2089 dL_law_2091 dL_law_2092 dL_law_2093 ?_
  refine lw_arg 3 C hS (lv_at hl 1 rfl) (lv_at hl 5 rfl) (by omega) (by decide) dL_law_2094 dL_law_2095 dL_law_2097 dL_law_2098 dL_law_2099 ?_
  refine lw_arg 4 C hS (lv_at hl 1 rfl) (lv_at hl 5 rfl) (by omega) (by decide) dL_law_2100 dL_law_2101 dL_law_2103 dL_law_2104 dL_law_2105 ?_
  refine mb_cW hD hS hA (va_runV (As := [.int (xs (i + 1)), .int (xs (i + 2)), .int (xs (i + 3)), .int (xs (i + 4))]) (rest := []) ⟨hx, hb, hml, hown, hts⟩ (mb_fr (wr := wO Y q f1 ++ wB Y o a aa b1) (WF := fun u : mb_m => wL Y q f1 om am u o a aa b1) (fun u => u) wL_pM (fun u => wL_pM) (fun _ _ h => h) (cnX8_speak l D Y 700 om am M _ (xs (i + 1)) (xs (i + 2)) (xs (i + 3)) (xs (i + 4)) _ hF)) (cwV 4 hts gL_law_X8_speak rfl rfl rfl (by decide +kernel) ⟨(Nat.le_of_ble_eq_true rfl), (Nat.le_of_ble_eq_true rfl)⟩) (mb_preV hG hP hD 1 rfl rfl) rfl rfl hl.1 rfl (lv_room (Nat.le_of_ble_eq_true rfl)) dL_law_2106 ⟨by show _ ≤ 601024; omega, by show _ ≤ 7293034; omega⟩) (fun r2 M1 H locs hF hP hD hS => ?_)
  obtain ⟨hm27, hv, hR⟩ := hF
  refine lv_istore (lv' := [(6, .int r2), (5, .int (zI cd)), (0, .ref bs), (1, .ref o), (2, .ref om), (3, .ref q), (4, .int (zI i))]) hx hb dL_law_2109 hl (by decide) rfl (fun ls hl => ?_)
  refine lv_aload_n hx hb dL_law_2111 rfl (lv_at hl 4 rfl) ?_
  refine mb_cW hD hS hA (va_runV (As := []) (rest := []) ⟨hx, hb, hml, hown, hts⟩ (mb_fr (wr := wO Y q f1 ++ wB Y o a aa b1) (WF := fun u : mb_m => wL Y q f1 om am u o a aa b1) (fun u => u) wL_pM (fun u => wL_pM) (fun _ _ h => h) (cnX8_thrown l D Y 700 om am M1 _ (fun rr MM => rr = zI cd ∧ MM = M1) ⟨hm27, rfl⟩)) (cwV 0 hts gL_law_X8_thrown rfl rfl rfl (by decide +kernel) ⟨(Nat.le_of_ble_eq_true rfl), (Nat.le_of_ble_eq_true rfl)⟩) (mb_preV hG hP hD 1 rfl rfl) rfl rfl hl.1 rfl (lv_room (Nat.le_of_ble_eq_true rfl)) dL_law_2112 ⟨by show _ ≤ 601024; omega, by show _ ≤ 7293034; omega⟩) (fun rt M2 H locs hF hP hD hS => ?_)
  obtain ⟨rfl, hM⟩ := hF
  have hM := hM.symm
  subst hM
  refine lv_iload hx hb dL_law_2115 (lv_at hl 1 rfl) ?_
  refine lv_icmp_eq (tgt := 2122) hx hb dL_law_2117 (by decide) (fun _ => ?_) (fun cz => absurd rfl cz)
  refine lv_iload hx hb dL_law_2122 (lv_at hl 1 rfl) ?_
  refine lv_if_ne (tgt := 2139) hx hb dL_law_2124 (by decide) (fun cz => ?_) (fun cz => ?_)
  · refine lv_goto (tgt := 2310) hx hb dL_law_2139 (by decide) ?_
    refine W.widen (k := cells + 14) (n := slots + 369) (by omega) (by omega) ?_
    exact kk b1 M1 f1 _ _ _ hR hP hD hS (lv_sub hl [2, 3, 4, 5, 6] rfl)
  · have h0 : cd = 0 := (zI_eq (by omega) (by omega) (by omega) (by omega)).mp (show zI cd = zI 0 from cz)
    have hf1 : f1 ((0 : Int32)).toNatClampNeg = r.toInt64 := hout h0
    have hv := hv h0
    refine lv_aload_n hx hb dL_law_2127 rfl (lv_at hl 5 rfl) ?_
    refine lv_iconst (v := 0) hx hb dL_law_2128 (by decide) ?_
    refine va_lald hx hb hK hP 0 2 rfl rfl mb_in01 dL_law_2129 ?_
    refine lv_iload hx hb dL_law_2130 (lv_at hl 0 rfl) ?_
    refine lv_i2l (v := r2.toInt64) hx hb dL_law_2132 rfl ?_
    refine W.lcmp hx hb dL_law_2133 ?_
    refine lv_if_eq (tgt := 2139) hx hb dL_law_2134 (by decide) (fun _ => ?_) (fun cy => absurd (mb_cmp (by rw [hf1, hv])) cy)
    refine lv_goto (tgt := 2310) hx hb dL_law_2139 (by decide) ?_
    refine W.widen (k := cells + 14) (n := slots + 369) (by omega) (by omega) ?_
    exact kk b1 M1 f1 _ _ _ hR hP hD hS (lv_sub hl [2, 3, 4, 5, 6] rfl)
set_option maxHeartbeats 4000000 in
set_option maxRecDepth 100000 in
theorem lc_year {p : Program} {l : Launch} {e : Env} {s : State} {m : MethodId} {args : Array Value} {below : List Frame} {meth : Method} {c : Code} {H : Heap} {locs : List Loc} {cells slots : Nat} {Q : State → Prop} {D : va_G} {Y : Nat → ClassId} {A : Nat → Prop} {ls : Array Slot} {L : Nat} {xs : Nat → Int32} {bs q om o i : Nat} {am a aa : Nat → Nat} {b : mb_bs} {M : mb_m} {f : Nat → Int64} (C : mb_LC p l s m meth c args L xs bs D Y A) (hi : i + 6 < L) (hc : cells + 14 ≤ 601024) (hs : slots + 369 ≤ 7293034) (hR : Rm b M) (hP : va_P D vwCl (wL Y q f om am M o a aa b) H) (hD : va_D A (wL Y q f om am M o a aa b)) (hS : va_S A s.heap H locs) (hl : lv_has ls 7 [(0, .ref bs), (1, .ref o), (2, .ref om), (3, .ref q), (4, .int (zI i))])
    (kk : lw_K p l e s m args below meth c Q D Y A bs q om am o a aa i cells slots) : W p l e room_1 s m args below meth c H locs cells slots Q (F0 m 2142 ls []) := by
  obtain ⟨⟨hx, hb, hr, hml, hts, hown, hlocks, hA, hG⟩, hX, hl0, hN, hX2, hbl, hbA, hL⟩ := id C
  have hK := hG.1
  refine lv_aload_n hx hb dL_law_2142 rfl (lv_at hl 1 rfl) ?_
  refine lw_arg 1 C hS (lv_at hl 0 rfl) (lv_at hl 4 rfl) (by omega) (by decide) dL_law_2143 dL_law_2144 dL_law_2146 dL_law_2147 dL_law_2148 ?_
  refine lw_arg 2 C hS (lv_at hl 0 rfl) (lv_at hl 4 rfl) (by omega) (by decide) dL_law_2149 dL_law_2150 dL_law_2152 dL_law_2153 dL_law_2154 ?_
  refine lw_bo hx hb dL_law_2155 dL_law_2158 dL_law_2159 dL_law_2162 ?_
  refine lv_aload_n hx hb dL_law_2163 rfl (lv_at hl 3 rfl) ?_
  refine mb_cW hD hS hA (vx_runSW (As := [.ref o, .int (xs (i + 1)), .int (mb_bo (xs (i + 2))), .ref q]) (rest := []) ⟨hx, hb, hml, hown, hts⟩ (mb_frL (wr := gw8 Y om am M) (WF := fun u : mb_bs × (Nat → Int64) => wL Y q u.2 om am M o a aa u.1) (fun u => u) wL_pL (fun u => wL_pL) (fun _ _ h => h) (cw_year l hl0 D Y 700 o a aa b q f _ (xs (i + 1)) (mb_bo (xs (i + 2))) (fun cd r b => PX8_year 700 M (xs (i + 1)) (mb_bo (xs (i + 2))) (Qe cd r b)) (@s_year 700 b.1 b.2.1 b.2.2.1 b.2.2.2.1 b.2.2.2.2.1 b.2.2.2.2.2.1 b.2.2.2.2.2.2.1 b.2.2.2.2.2.2.2 M (by decide) hR (xs (i + 1)) (mb_bo (xs (i + 2)))))) (vx_cwSW 4 hts gL_law_L_year rfl rfl rfl (by decide +kernel) ⟨(Nat.le_of_ble_eq_true rfl), (Nat.le_of_ble_eq_true rfl)⟩) (lw_preL C hP hD hS) rfl rfl hl.1 rfl (lv_room (Nat.le_of_ble_eq_true rfl)) dL_law_2164 ⟨mb_le2 hc (Nat.le_of_ble_eq_true rfl), mb_le2 hs (Nat.le_of_ble_eq_true rfl)⟩) (fun k u H locs hF hP hD hS => ?_)
  obtain ⟨cd, r, hcd, rfl, hF, hout⟩ := hF
  obtain ⟨b1, f1⟩ := u
  have hout : cd = 0 → f1 0 = r.toInt64 := hout
  have hF : PX8_year 700 M (xs (i + 1)) (mb_bo (xs (i + 2))) (Qe cd r b1) := hF
  have hP : va_P D vwCl (wL Y q f1 om am M o a aa b1) H := hP
  have hD : va_D A (wL Y q f1 om am M o a aa b1) := hD
  refine lv_istore (lv' := [(5, .int (zI cd)), (0, .ref bs), (1, .ref o), (2, .ref om), (3, .ref q), (4, .int (zI i))]) hx hb dL_law_2167 hl (by decide) rfl (fun ls hl => ?_)
  refine lv_aload_n hx hb dL_law_2169 rfl (lv_at hl 3 rfl) ?_
  refine lw_arg 1 C hS (lv_at hl 1 rfl) (lv_at hl 5 rfl) (by omega) (by decide) dL_law_2170 dL_law_2171 dL_law_2173 dL_law_2174 dL_law_2175 ?_
  refine lw_arg 2 C hS (lv_at hl 1 rfl) (lv_at hl 5 rfl) (by omega) (by decide) dL_law_2176 dL_law_2177 dL_law_2179 dL_law_2180 dL_law_2181 ?_
  refine lw_bo hx hb dL_law_2182 dL_law_2185 dL_law_2186 dL_law_2189 ?_
  refine mb_cW hD hS hA (va_runV (As := [.int (xs (i + 1)), .int (mb_bo (xs (i + 2)))]) (rest := []) ⟨hx, hb, hml, hown, hts⟩ (mb_fr (wr := wO Y q f1 ++ wB Y o a aa b1) (WF := fun u : mb_m => wL Y q f1 om am u o a aa b1) (fun u => u) wL_pM (fun u => wL_pM) (fun _ _ h => h) (cnX8_year l D Y 700 om am M _ (xs (i + 1)) (mb_bo (xs (i + 2))) _ hF)) (cwV 2 hts gL_law_X8_year rfl rfl rfl (by decide +kernel) ⟨(Nat.le_of_ble_eq_true rfl), (Nat.le_of_ble_eq_true rfl)⟩) (mb_preV hG hP hD 1 rfl rfl) rfl rfl hl.1 rfl (lv_room (Nat.le_of_ble_eq_true rfl)) dL_law_2190 ⟨by show _ ≤ 601024; omega, by show _ ≤ 7293034; omega⟩) (fun r2 M1 H locs hF hP hD hS => ?_)
  obtain ⟨hm27, hv, hR⟩ := hF
  refine lv_istore (lv' := [(6, .int r2), (5, .int (zI cd)), (0, .ref bs), (1, .ref o), (2, .ref om), (3, .ref q), (4, .int (zI i))]) hx hb dL_law_2193 hl (by decide) rfl (fun ls hl => ?_)
  refine lv_aload_n hx hb dL_law_2195 rfl (lv_at hl 4 rfl) ?_
  refine mb_cW hD hS hA (va_runV (As := []) (rest := []) ⟨hx, hb, hml, hown, hts⟩ (mb_fr (wr := wO Y q f1 ++ wB Y o a aa b1) (WF := fun u : mb_m => wL Y q f1 om am u o a aa b1) (fun u => u) wL_pM (fun u => wL_pM) (fun _ _ h => h) (cnX8_thrown l D Y 700 om am M1 _ (fun rr MM => rr = zI cd ∧ MM = M1) ⟨hm27, rfl⟩)) (cwV 0 hts gL_law_X8_thrown rfl rfl rfl (by decide +kernel) ⟨(Nat.le_of_ble_eq_true rfl), (Nat.le_of_ble_eq_true rfl)⟩) (mb_preV hG hP hD 1 rfl rfl) rfl rfl hl.1 rfl (lv_room (Nat.le_of_ble_eq_true rfl)) dL_law_2196 ⟨by show _ ≤ 601024; omega, by show _ ≤ 7293034; omega⟩) (fun rt M2 H locs hF hP hD hS => ?_)
  obtain ⟨rfl, hM⟩ := hF
  have hM := hM.symm
  subst hM
  refine lv_iload hx hb dL_law_2199 (lv_at hl 1 rfl) ?_
  refine lv_icmp_eq (tgt := 2206) hx hb dL_law_2201 (by decide) (fun _ => ?_) (fun cz => absurd rfl cz)
  refine lv_iload hx hb dL_law_2206 (lv_at hl 1 rfl) ?_
  refine lv_if_ne (tgt := 2223) hx hb dL_law_2208 (by decide) (fun cz => ?_) (fun cz => ?_)
  · refine lv_goto (tgt := 2310) hx hb dL_law_2223 (by decide) ?_
    refine W.widen (k := cells + 14) (n := slots + 369) (by omega) (by omega) ?_
    exact kk b1 M1 f1 _ _ _ hR hP hD hS (lv_sub hl [2, 3, 4, 5, 6] rfl)
  · have h0 : cd = 0 := (zI_eq (by omega) (by omega) (by omega) (by omega)).mp (show zI cd = zI 0 from cz)
    have hf1 : f1 ((0 : Int32)).toNatClampNeg = r.toInt64 := hout h0
    have hv := hv h0
    refine lv_aload_n hx hb dL_law_2211 rfl (lv_at hl 5 rfl) ?_
    refine lv_iconst (v := 0) hx hb dL_law_2212 (by decide) ?_
    refine va_lald hx hb hK hP 0 2 rfl rfl mb_in01 dL_law_2213 ?_
    refine lv_iload hx hb dL_law_2214 (lv_at hl 0 rfl) ?_
    refine lv_i2l (v := r2.toInt64) hx hb dL_law_2216 rfl ?_
    refine W.lcmp hx hb dL_law_2217 ?_
    refine lv_if_eq (tgt := 2223) hx hb dL_law_2218 (by decide) (fun _ => ?_) (fun cy => absurd (mb_cmp (by rw [hf1, hv])) cy)
    refine lv_goto (tgt := 2310) hx hb dL_law_2223 (by decide) ?_
    refine W.widen (k := cells + 14) (n := slots + 369) (by omega) (by omega) ?_
    exact kk b1 M1 f1 _ _ _ hR hP hD hS (lv_sub hl [2, 3, 4, 5, 6] rfl)
set_option maxHeartbeats 4000000 in
set_option maxRecDepth 100000 in
theorem lc_yearAnew {p : Program} {l : Launch} {e : Env} {s : State} {m : MethodId} {args : Array Value} {below : List Frame} {meth : Method} {c : Code} {H : Heap} {locs : List Loc} {cells slots : Nat} {Q : State → Prop} {D : va_G} {Y : Nat → ClassId} {A : Nat → Prop} {ls : Array Slot} {L : Nat} {xs : Nat → Int32} {bs q om o i : Nat} {am a aa : Nat → Nat} {b : mb_bs} {M : mb_m} {f : Nat → Int64} (C : mb_LC p l s m meth c args L xs bs D Y A) (hi : i + 6 < L) (hc : cells + 14 ≤ 601024) (hs : slots + 369 ≤ 7293034) (hR : Rm b M) (hP : va_P D vwCl (wL Y q f om am M o a aa b) H) (hD : va_D A (wL Y q f om am M o a aa b)) (hS : va_S A s.heap H locs) (hl : lv_has ls 7 [(0, .ref bs), (1, .ref o), (2, .ref om), (3, .ref q), (4, .int (zI i))])
    (kk : lw_K p l e s m args below meth c Q D Y A bs q om am o a aa i cells slots) : W p l e room_1 s m args below meth c H locs cells slots Q (F0 m 2226 ls []) := by
  obtain ⟨⟨hx, hb, hr, hml, hts, hown, hlocks, hA, hG⟩, hX, hl0, hN, hX2, hbl, hbA, hL⟩ := id C
  have hK := hG.1
  refine lv_aload_n hx hb dL_law_2226 rfl (lv_at hl 1 rfl) ?_
  refine lw_arg 1 C hS (lv_at hl 0 rfl) (lv_at hl 4 rfl) (by omega) (by decide) dL_law_2227 dL_law_2228 dL_law_2230 dL_law_2231 dL_law_2232 ?_
  refine lw_arg 2 C hS (lv_at hl 0 rfl) (lv_at hl 4 rfl) (by omega) (by decide) dL_law_2233 dL_law_2234 dL_law_2236 dL_law_2237 dL_law_2238 ?_
  refine lw_bo hx hb dL_law_2239 dL_law_2242 dL_law_2243 dL_law_2246 ?_
  refine lv_aload_n hx hb dL_law_2247 rfl (lv_at hl 3 rfl) ?_
  refine mb_cW hD hS hA (vx_runSW (As := [.ref o, .int (xs (i + 1)), .int (mb_bo (xs (i + 2))), .ref q]) (rest := []) ⟨hx, hb, hml, hown, hts⟩ (mb_frL (wr := gw8 Y om am M) (WF := fun u : mb_bs × (Nat → Int64) => wL Y q u.2 om am M o a aa u.1) (fun u => u) wL_pL (fun u => wL_pL) (fun _ _ h => h) (cw_yearAnew l hl0 D Y 700 o a aa b q f _ (xs (i + 1)) (mb_bo (xs (i + 2))) (fun cd r b => PX8_yearAnew 700 M (xs (i + 1)) (mb_bo (xs (i + 2))) (Qe cd r b)) (@s_yearAnew 700 b.1 b.2.1 b.2.2.1 b.2.2.2.1 b.2.2.2.2.1 b.2.2.2.2.2.1 b.2.2.2.2.2.2.1 b.2.2.2.2.2.2.2 M (by decide) hR (xs (i + 1)) (mb_bo (xs (i + 2)))))) (vx_cwSW 4 hts gL_law_L_yearAnew rfl rfl rfl (by decide +kernel) ⟨(Nat.le_of_ble_eq_true rfl), (Nat.le_of_ble_eq_true rfl)⟩) (lw_preL C hP hD hS) rfl rfl hl.1 rfl (lv_room (Nat.le_of_ble_eq_true rfl)) dL_law_2248 ⟨mb_le2 hc (Nat.le_of_ble_eq_true rfl), mb_le2 hs (Nat.le_of_ble_eq_true rfl)⟩) (fun k u H locs hF hP hD hS => ?_)
  obtain ⟨cd, r, hcd, rfl, hF, hout⟩ := hF
  obtain ⟨b1, f1⟩ := u
  have hout : cd = 0 → f1 0 = r.toInt64 := hout
  have hF : PX8_yearAnew 700 M (xs (i + 1)) (mb_bo (xs (i + 2))) (Qe cd r b1) := hF
  have hP : va_P D vwCl (wL Y q f1 om am M o a aa b1) H := hP
  have hD : va_D A (wL Y q f1 om am M o a aa b1) := hD
  refine lv_istore (lv' := [(5, .int (zI cd)), (0, .ref bs), (1, .ref o), (2, .ref om), (3, .ref q), (4, .int (zI i))]) hx hb dL_law_2251 hl (by decide) rfl (fun ls hl => ?_)
  refine lv_aload_n hx hb dL_law_2253 rfl (lv_at hl 3 rfl) ?_
  refine lw_arg 1 C hS (lv_at hl 1 rfl) (lv_at hl 5 rfl) (by omega) (by decide) dL_law_2254 dL_law_2255 dL_law_2257 dL_law_2258 dL_law_2259 ?_
  refine lw_arg 2 C hS (lv_at hl 1 rfl) (lv_at hl 5 rfl) (by omega) (by decide) dL_law_2260 dL_law_2261 dL_law_2263 dL_law_2264 dL_law_2265 ?_
  refine lw_bo hx hb dL_law_2266 dL_law_2269 dL_law_2270 dL_law_2273 ?_
  refine mb_cW hD hS hA (va_runV (As := [.int (xs (i + 1)), .int (mb_bo (xs (i + 2)))]) (rest := []) ⟨hx, hb, hml, hown, hts⟩ (mb_fr (wr := wO Y q f1 ++ wB Y o a aa b1) (WF := fun u : mb_m => wL Y q f1 om am u o a aa b1) (fun u => u) wL_pM (fun u => wL_pM) (fun _ _ h => h) (cnX8_yearAnew l D Y 700 om am M _ (xs (i + 1)) (mb_bo (xs (i + 2))) _ hF)) (cwV 2 hts gL_law_X8_yearAnew rfl rfl rfl (by decide +kernel) ⟨(Nat.le_of_ble_eq_true rfl), (Nat.le_of_ble_eq_true rfl)⟩) (mb_preV hG hP hD 1 rfl rfl) rfl rfl hl.1 rfl (lv_room (Nat.le_of_ble_eq_true rfl)) dL_law_2274 ⟨by show _ ≤ 601024; omega, by show _ ≤ 7293034; omega⟩) (fun r2 M1 H locs hF hP hD hS => ?_)
  obtain ⟨hm27, hv, hR⟩ := hF
  refine lv_istore (lv' := [(6, .int r2), (5, .int (zI cd)), (0, .ref bs), (1, .ref o), (2, .ref om), (3, .ref q), (4, .int (zI i))]) hx hb dL_law_2277 hl (by decide) rfl (fun ls hl => ?_)
  refine lv_aload_n hx hb dL_law_2279 rfl (lv_at hl 4 rfl) ?_
  refine mb_cW hD hS hA (va_runV (As := []) (rest := []) ⟨hx, hb, hml, hown, hts⟩ (mb_fr (wr := wO Y q f1 ++ wB Y o a aa b1) (WF := fun u : mb_m => wL Y q f1 om am u o a aa b1) (fun u => u) wL_pM (fun u => wL_pM) (fun _ _ h => h) (cnX8_thrown l D Y 700 om am M1 _ (fun rr MM => rr = zI cd ∧ MM = M1) ⟨hm27, rfl⟩)) (cwV 0 hts gL_law_X8_thrown rfl rfl rfl (by decide +kernel) ⟨(Nat.le_of_ble_eq_true rfl), (Nat.le_of_ble_eq_true rfl)⟩) (mb_preV hG hP hD 1 rfl rfl) rfl rfl hl.1 rfl (lv_room (Nat.le_of_ble_eq_true rfl)) dL_law_2280 ⟨by show _ ≤ 601024; omega, by show _ ≤ 7293034; omega⟩) (fun rt M2 H locs hF hP hD hS => ?_)
  obtain ⟨rfl, hM⟩ := hF
  have hM := hM.symm
  subst hM
  refine lv_iload hx hb dL_law_2283 (lv_at hl 1 rfl) ?_
  refine lv_icmp_eq (tgt := 2290) hx hb dL_law_2285 (by decide) (fun _ => ?_) (fun cz => absurd rfl cz)
  refine lv_iload hx hb dL_law_2290 (lv_at hl 1 rfl) ?_
  refine lv_if_ne (tgt := 2307) hx hb dL_law_2292 (by decide) (fun cz => ?_) (fun cz => ?_)
  · refine lv_goto (tgt := 2310) hx hb dL_law_2307 (by decide) ?_
    refine W.widen (k := cells + 14) (n := slots + 369) (by omega) (by omega) ?_
    exact kk b1 M1 f1 _ _ _ hR hP hD hS (lv_sub hl [2, 3, 4, 5, 6] rfl)
  · have h0 : cd = 0 := (zI_eq (by omega) (by omega) (by omega) (by omega)).mp (show zI cd = zI 0 from cz)
    have hf1 : f1 ((0 : Int32)).toNatClampNeg = r.toInt64 := hout h0
    have hv := hv h0
    refine lv_aload_n hx hb dL_law_2295 rfl (lv_at hl 5 rfl) ?_
    refine lv_iconst (v := 0) hx hb dL_law_2296 (by decide) ?_
    refine va_lald hx hb hK hP 0 2 rfl rfl mb_in01 dL_law_2297 ?_
    refine lv_iload hx hb dL_law_2298 (lv_at hl 0 rfl) ?_
    refine lv_i2l (v := r2.toInt64) hx hb dL_law_2300 rfl ?_
    refine W.lcmp hx hb dL_law_2301 ?_
    refine lv_if_eq (tgt := 2307) hx hb dL_law_2302 (by decide) (fun _ => ?_) (fun cy => absurd (mb_cmp (by rw [hf1, hv])) cy)
    refine lv_goto (tgt := 2310) hx hb dL_law_2307 (by decide) ?_
    refine W.widen (k := cells + 14) (n := slots + 369) (by omega) (by omega) ?_
    exact kk b1 M1 f1 _ _ _ hR hP hD hS (lv_sub hl [2, 3, 4, 5, 6] rfl)
