set_option maxHeartbeats 4000000 in
set_option maxRecDepth 100000 in
theorem lc_placeOf {p : Program} {l : Launch} {e : Env} {s : State} {m : MethodId} {args : Array Value} {below : List Frame} {meth : Method} {c : Code} {H : Heap} {locs : List Loc} {cells slots : Nat} {Q : State → Prop} {D : va_G} {Y : Nat → ClassId} {A : Nat → Prop} {ls : Array Slot} {L : Nat} {xs : Nat → Int32} {bs q om o i : Nat} {am a aa : Nat → Nat} {b : mb_bs} {M : mb_m} {f : Nat → Int64} (C : mb_LC p l s m meth c args L xs bs D Y A) (hi : i + 6 < L) (hc : cells + 14 ≤ 601024) (hs : slots + 369 ≤ 7293034) (hR : Rm b M) (hP : va_P D vwCl (wL Y q f om am M o a aa b) H) (hD : va_D A (wL Y q f om am M o a aa b)) (hS : va_S A s.heap H locs) (hl : lv_has ls 7 [(0, .ref bs), (1, .ref o), (2, .ref om), (3, .ref q), (4, .int (zI i))])
    (kk : lw_K p l e s m args below meth c Q D Y A bs q om am o a aa i cells slots) : W p l e room_1 s m args below meth c H locs cells slots Q (F0 m 753 ls []) := by
  obtain ⟨⟨hx, hb, hr, hml, hts, hown, hlocks, hA, hG⟩, hX, hl0, hN, hX2, hbl, hbA, hL⟩ := id C
  have hK := hG.1
  refine lv_aload_n hx hb dL_law_753 rfl (lv_at hl 1 rfl) ?_
  refine lw_arg 1 C hS (lv_at hl 0 rfl) (lv_at hl 4 rfl) (by omega) (by decide) dL_law_754 dL_law_755 dL_law_757 dL_law_758 dL_law_759 ?_
  refine lw_arg 2 C hS (lv_at hl 0 rfl) (lv_at hl 4 rfl) (by omega) (by decide) dL_law_760 dL_law_761 dL_law_763 dL_law_764 dL_law_765 ?_
  refine lv_aload_n hx hb dL_law_766 rfl (lv_at hl 3 rfl) ?_
  refine mb_cW hD hS hA (vx_runSW (As := [.ref o, .int (xs (i + 1)), .int (xs (i + 2)), .ref q]) (rest := []) ⟨hx, hb, hml, hown, hts⟩ (mb_frL (wr := gw8 Y om am M) (WF := fun u : mb_bs × (Nat → Int64) => wL Y q u.2 om am M o a aa u.1) (fun u => u) wL_pL (fun u => wL_pL) (fun _ _ h => h) (cw_placeOf l hl0 D Y 700 o a aa b q f _ (xs (i + 1)) (xs (i + 2)) (fun cd r b => PX8_placeOf 700 M (xs (i + 1)) (xs (i + 2)) (Qe cd r b)) (@s_placeOf 700 b.1 b.2.1 b.2.2.1 b.2.2.2.1 b.2.2.2.2.1 b.2.2.2.2.2.1 b.2.2.2.2.2.2.1 b.2.2.2.2.2.2.2 M (by decide) hR (xs (i + 1)) (xs (i + 2))))) (vx_cwSW 4 hts gL_law_L_placeOf rfl rfl rfl (by decide +kernel) ⟨(Nat.le_of_ble_eq_true rfl), (Nat.le_of_ble_eq_true rfl)⟩) (lw_preL C hP hD hS) rfl rfl hl.1 rfl (lv_room (Nat.le_of_ble_eq_true rfl)) dL_law_767 ⟨mb_le2 hc (Nat.le_of_ble_eq_true rfl), mb_le2 hs (Nat.le_of_ble_eq_true rfl)⟩) (fun k u H locs hF hP hD hS => ?_)
  obtain ⟨cd, r, hcd, rfl, hF, hout⟩ := hF
  obtain ⟨b1, f1⟩ := u
  have hout : cd = 0 → f1 0 = r.toInt64 := hout
  have hF : PX8_placeOf 700 M (xs (i + 1)) (xs (i + 2)) (Qe cd r b1) := hF
  have hP : va_P D vwCl (wL Y q f1 om am M o a aa b1) H := hP
  have hD : va_D A (wL Y q f1 om am M o a aa b1) := hD
  refine lv_istore (lv' := [(5, .int (zI cd)), (0, .ref bs), (1, .ref o), (2, .ref om), (3, .ref q), (4, .int (zI i))]) hx hb dL_law_770 hl (by decide) rfl (fun ls hl => ?_)
  refine lv_aload_n hx hb dL_law_772 rfl (lv_at hl 3 rfl) ?_
  refine lw_arg 1 C hS (lv_at hl 1 rfl) (lv_at hl 5 rfl) (by omega) (by decide) dL_law_773 dL_law_774 dL_law_776 dL_law_777 dL_law_778 ?_
  refine lw_arg 2 C hS (lv_at hl 1 rfl) (lv_at hl 5 rfl) (by omega) (by decide) dL_law_779 dL_law_780 dL_law_782 dL_law_783 dL_law_784 ?_
  refine mb_cW hD hS hA (va_runV (As := [.int (xs (i + 1)), .int (xs (i + 2))]) (rest := []) ⟨hx, hb, hml, hown, hts⟩ (mb_fr (wr := wO Y q f1 ++ wB Y o a aa b1) (WF := fun u : mb_m => wL Y q f1 om am u o a aa b1) (fun u => u) wL_pM (fun u => wL_pM) (fun _ _ h => h) (cnX8_placeOf l D Y 700 om am M _ (xs (i + 1)) (xs (i + 2)) _ hF)) (cwV 2 hts gL_law_X8_placeOf rfl rfl rfl (by decide +kernel) ⟨(Nat.le_of_ble_eq_true rfl), (Nat.le_of_ble_eq_true rfl)⟩) (mb_preV hG hP hD 1 rfl rfl) rfl rfl hl.1 rfl (lv_room (Nat.le_of_ble_eq_true rfl)) dL_law_785 ⟨by show _ ≤ 601024; omega, by show _ ≤ 7293034; omega⟩) (fun r2 M1 H locs hF hP hD hS => ?_)
  obtain ⟨hm27, hv, hR⟩ := hF
  refine lv_istore (lv' := [(6, .int r2), (5, .int (zI cd)), (0, .ref bs), (1, .ref o), (2, .ref om), (3, .ref q), (4, .int (zI i))]) hx hb dL_law_788 hl (by decide) rfl (fun ls hl => ?_)
  refine lv_aload_n hx hb dL_law_790 rfl (lv_at hl 4 rfl) ?_
  refine mb_cW hD hS hA (va_runV (As := []) (rest := []) ⟨hx, hb, hml, hown, hts⟩ (mb_fr (wr := wO Y q f1 ++ wB Y o a aa b1) (WF := fun u : mb_m => wL Y q f1 om am u o a aa b1) (fun u => u) wL_pM (fun u => wL_pM) (fun _ _ h => h) (cnX8_thrown l D Y 700 om am M1 _ (fun rr MM => rr = zI cd ∧ MM = M1) ⟨hm27, rfl⟩)) (cwV 0 hts gL_law_X8_thrown rfl rfl rfl (by decide +kernel) ⟨(Nat.le_of_ble_eq_true rfl), (Nat.le_of_ble_eq_true rfl)⟩) (mb_preV hG hP hD 1 rfl rfl) rfl rfl hl.1 rfl (lv_room (Nat.le_of_ble_eq_true rfl)) dL_law_791 ⟨by show _ ≤ 601024; omega, by show _ ≤ 7293034; omega⟩) (fun rt M2 H locs hF hP hD hS => ?_)
  obtain ⟨rfl, hM⟩ := hF
  have hM := hM.symm
  subst hM
  refine lv_iload hx hb dL_law_794 (lv_at hl 1 rfl) ?_
  refine lv_icmp_eq (tgt := 801) hx hb dL_law_796 (by decide) (fun _ => ?_) (fun cz => absurd rfl cz)
  refine lv_iload hx hb dL_law_801 (lv_at hl 1 rfl) ?_
  refine lv_if_ne (tgt := 818) hx hb dL_law_803 (by decide) (fun cz => ?_) (fun cz => ?_)
  · refine lv_goto (tgt := 2310) hx hb dL_law_818 (by decide) ?_
    refine W.widen (k := cells + 14) (n := slots + 369) (by omega) (by omega) ?_
    exact kk b1 M1 f1 _ _ _ hR hP hD hS (lv_sub hl [2, 3, 4, 5, 6] rfl)
  · have h0 : cd = 0 := (zI_eq (by omega) (by omega) (by omega) (by omega)).mp (show zI cd = zI 0 from cz)
    have hf1 : f1 ((0 : Int32)).toNatClampNeg = r.toInt64 := hout h0
    have hv := hv h0
    refine lv_aload_n hx hb dL_law_806 rfl (lv_at hl 5 rfl) ?_
    refine lv_iconst (v := 0) hx hb dL_law_807 (by decide) ?_
    refine va_lald hx hb hK hP 0 2 rfl rfl mb_in01 dL_law_808 ?_
    refine lv_iload hx hb dL_law_809 (lv_at hl 0 rfl) ?_
    refine lv_i2l (v := r2.toInt64) hx hb dL_law_811 rfl ?_
    refine W.lcmp hx hb dL_law_812 ?_
    refine lv_if_eq (tgt := 818) hx hb dL_law_813 (by decide) (fun _ => ?_) (fun cy => absurd (mb_cmp (by rw [hf1, hv])) cy)
    refine lv_goto (tgt := 2310) hx hb dL_law_818 (by decide) ?_
    refine W.widen (k := cells + 14) (n := slots + 369) (by omega) (by omega) ?_
    exact kk b1 M1 f1 _ _ _ hR hP hD hS (lv_sub hl [2, 3, 4, 5, 6] rfl)
set_option maxHeartbeats 4000000 in
set_option maxRecDepth 100000 in
theorem lc_book {p : Program} {l : Launch} {e : Env} {s : State} {m : MethodId} {args : Array Value} {below : List Frame} {meth : Method} {c : Code} {H : Heap} {locs : List Loc} {cells slots : Nat} {Q : State → Prop} {D : va_G} {Y : Nat → ClassId} {A : Nat → Prop} {ls : Array Slot} {L : Nat} {xs : Nat → Int32} {bs q om o i : Nat} {am a aa : Nat → Nat} {b : mb_bs} {M : mb_m} {f : Nat → Int64} (C : mb_LC p l s m meth c args L xs bs D Y A) (hi : i + 6 < L) (hc : cells + 14 ≤ 601024) (hs : slots + 369 ≤ 7293034) (hR : Rm b M) (hP : va_P D vwCl (wL Y q f om am M o a aa b) H) (hD : va_D A (wL Y q f om am M o a aa b)) (hS : va_S A s.heap H locs) (hl : lv_has ls 7 [(0, .ref bs), (1, .ref o), (2, .ref om), (3, .ref q), (4, .int (zI i))])
    (kk : lw_K p l e s m args below meth c Q D Y A bs q om am o a aa i cells slots) : W p l e room_1 s m args below meth c H locs cells slots Q (F0 m 821 ls []) := by
  obtain ⟨⟨hx, hb, hr, hml, hts, hown, hlocks, hA, hG⟩, hX, hl0, hN, hX2, hbl, hbA, hL⟩ := id C
  have hK := hG.1
  refine lv_aload_n hx hb dL_law_821 rfl (lv_at hl 1 rfl) ?_
  refine lw_arg 1 C hS (lv_at hl 0 rfl) (lv_at hl 4 rfl) (by omega) (by decide) dL_law_822 dL_law_823 dL_law_825 dL_law_826 dL_law_827 ?_
  refine lw_arg 2 C hS (lv_at hl 0 rfl) (lv_at hl 4 rfl) (by omega) (by decide) dL_law_828 dL_law_829 dL_law_831 dL_law_832 dL_law_833 ?_
  refine lw_arg 3 C hS (lv_at hl 0 rfl) (lv_at hl 4 rfl) (by omega) (by decide) dL_law_834 dL_law_835 dL_law_837 dL_law_838 dL_law_839 ?_
  refine lw_arg 4 C hS (lv_at hl 0 rfl) (lv_at hl 4 rfl) (by omega) (by decide) dL_law_840 dL_law_841 dL_law_843 dL_law_844 dL_law_845 ?_
  refine lw_arg 5 C hS (lv_at hl 0 rfl) (lv_at hl 4 rfl) (by omega) (by decide) dL_law_846 dL_law_847 dL_law_849 dL_law_850 dL_law_851 ?_
  refine lw_bo hx hb dL_law_852 dL_law_855 dL_law_856 dL_law_859 ?_
  refine lv_aload_n hx hb dL_law_860 rfl (lv_at hl 3 rfl) ?_
  refine mb_cW hD hS hA (vx_runSW (As := [.ref o, .int (xs (i + 1)), .int (xs (i + 2)), .int (xs (i + 3)), .int (xs (i + 4)), .int (mb_bo (xs (i + 5))), .ref q]) (rest := []) ⟨hx, hb, hml, hown, hts⟩ (mb_frL (wr := gw8 Y om am M) (WF := fun u : mb_bs × (Nat → Int64) => wL Y q u.2 om am M o a aa u.1) (fun u => u) wL_pL (fun u => wL_pL) (fun _ _ h => h) (cw_book l hl0 D Y 700 o a aa b q f _ (xs (i + 1)) (xs (i + 2)) (xs (i + 3)) (xs (i + 4)) (mb_bo (xs (i + 5))) (fun cd r b => PX8_book 700 M (xs (i + 1)) (xs (i + 2)) (xs (i + 3)) (xs (i + 4)) (mb_bo (xs (i + 5))) (Qe cd r b)) (@s_book 700 b.1 b.2.1 b.2.2.1 b.2.2.2.1 b.2.2.2.2.1 b.2.2.2.2.2.1 b.2.2.2.2.2.2.1 b.2.2.2.2.2.2.2 M (by decide) hR (xs (i + 1)) (xs (i + 2)) (xs (i + 3)) (xs (i + 4)) (mb_bo (xs (i + 5))) (mb_bo_isB _)))) (vx_cwSW 7 hts gL_law_L_book rfl rfl rfl (by decide +kernel) ⟨(Nat.le_of_ble_eq_true rfl), (Nat.le_of_ble_eq_true rfl)⟩) (lw_preL C hP hD hS) rfl rfl hl.1 rfl (lv_room (Nat.le_of_ble_eq_true rfl)) dL_law_861 ⟨mb_le2 hc (Nat.le_of_ble_eq_true rfl), mb_le2 hs (Nat.le_of_ble_eq_true rfl)⟩) (fun k u H locs hF hP hD hS => ?_)
  obtain ⟨cd, r, hcd, rfl, hF, hout⟩ := hF
  obtain ⟨b1, f1⟩ := u
  have hout : cd = 0 → f1 0 = r.toInt64 := hout
  have hF : PX8_book 700 M (xs (i + 1)) (xs (i + 2)) (xs (i + 3)) (xs (i + 4)) (mb_bo (xs (i + 5))) (Qe cd r b1) := hF
  have hP : va_P D vwCl (wL Y q f1 om am M o a aa b1) H := hP
  have hD : va_D A (wL Y q f1 om am M o a aa b1) := hD
  refine lv_istore (lv' := [(5, .int (zI cd)), (0, .ref bs), (1, .ref o), (2, .ref om), (3, .ref q), (4, .int (zI i))]) hx hb dL_law_864 hl (by decide) rfl (fun ls hl => ?_)
  refine lv_aload_n hx hb dL_law_866 rfl (lv_at hl 3 rfl) ?_
  refine lw_arg 1 C hS (lv_at hl 1 rfl) (lv_at hl 5 rfl) (by omega) (by decide) dL_law_867 dL_law_868 dL_law_870 dL_law_871 dL_law_872 ?_
  refine lw_arg 2 C hS (lv_at hl 1 rfl) (lv_at hl 5 rfl) (by omega) (by decide) dL_law_873 dL_law_874 dL_law_876 dL_law_877 dL_law_878 ?_
  refine lw_arg 3 C hS (lv_at hl 1 rfl) (lv_at hl 5 rfl) (by omega) (by decide) dL_law_879 dL_law_880 dL_law_882 dL_law_883 dL_law_884 ?_
  refine lw_arg 4 C hS (lv_at hl 1 rfl) (lv_at hl 5 rfl) (by omega) (by decide) dL_law_885 dL_law_886 dL_law_888 dL_law_889 dL_law_890 ?_
  refine lw_arg 5 C hS (lv_at hl 1 rfl) (lv_at hl 5 rfl) (by omega) (by decide) dL_law_891 dL_law_892 dL_law_894 dL_law_895 dL_law_896 ?_
  refine lw_bo hx hb dL_law_897 dL_law_900 dL_law_901 dL_law_904 ?_
  refine mb_cW hD hS hA (va_runV (As := [.int (xs (i + 1)), .int (xs (i + 2)), .int (xs (i + 3)), .int (xs (i + 4)), .int (mb_bo (xs (i + 5)))]) (rest := []) ⟨hx, hb, hml, hown, hts⟩ (mb_fr (wr := wO Y q f1 ++ wB Y o a aa b1) (WF := fun u : mb_m => wL Y q f1 om am u o a aa b1) (fun u => u) wL_pM (fun u => wL_pM) (fun _ _ h => h) (cnX8_book l D Y 700 om am M _ (xs (i + 1)) (xs (i + 2)) (xs (i + 3)) (xs (i + 4)) (mb_bo (xs (i + 5))) _ hF)) (cwV 5 hts gL_law_X8_book rfl rfl rfl (by decide +kernel) ⟨(Nat.le_of_ble_eq_true rfl), (Nat.le_of_ble_eq_true rfl)⟩) (mb_preV hG hP hD 1 rfl rfl) rfl rfl hl.1 rfl (lv_room (Nat.le_of_ble_eq_true rfl)) dL_law_905 ⟨by show _ ≤ 601024; omega, by show _ ≤ 7293034; omega⟩) (fun r2 M1 H locs hF hP hD hS => ?_)
  obtain ⟨hm27, hv, hR⟩ := hF
  refine lv_istore (lv' := [(6, .int r2), (5, .int (zI cd)), (0, .ref bs), (1, .ref o), (2, .ref om), (3, .ref q), (4, .int (zI i))]) hx hb dL_law_908 hl (by decide) rfl (fun ls hl => ?_)
  refine lv_aload_n hx hb dL_law_910 rfl (lv_at hl 4 rfl) ?_
  refine mb_cW hD hS hA (va_runV (As := []) (rest := []) ⟨hx, hb, hml, hown, hts⟩ (mb_fr (wr := wO Y q f1 ++ wB Y o a aa b1) (WF := fun u : mb_m => wL Y q f1 om am u o a aa b1) (fun u => u) wL_pM (fun u => wL_pM) (fun _ _ h => h) (cnX8_thrown l D Y 700 om am M1 _ (fun rr MM => rr = zI cd ∧ MM = M1) ⟨hm27, rfl⟩)) (cwV 0 hts gL_law_X8_thrown rfl rfl rfl (by decide +kernel) ⟨(Nat.le_of_ble_eq_true rfl), (Nat.le_of_ble_eq_true rfl)⟩) (mb_preV hG hP hD 1 rfl rfl) rfl rfl hl.1 rfl (lv_room (Nat.le_of_ble_eq_true rfl)) dL_law_911 ⟨by show _ ≤ 601024; omega, by show _ ≤ 7293034; omega⟩) (fun rt M2 H locs hF hP hD hS => ?_)
  obtain ⟨rfl, hM⟩ := hF
  have hM := hM.symm
  subst hM
  refine lv_iload hx hb dL_law_914 (lv_at hl 1 rfl) ?_
  refine lv_icmp_eq (tgt := 921) hx hb dL_law_916 (by decide) (fun _ => ?_) (fun cz => absurd rfl cz)
  refine lv_iload hx hb dL_law_921 (lv_at hl 1 rfl) ?_
  refine lv_if_ne (tgt := 938) hx hb dL_law_923 (by decide) (fun cz => ?_) (fun cz => ?_)
  · refine lv_goto (tgt := 2310) hx hb dL_law_938 (by decide) ?_
    refine W.widen (k := cells + 14) (n := slots + 369) (by omega) (by omega) ?_
    exact kk b1 M1 f1 _ _ _ hR hP hD hS (lv_sub hl [2, 3, 4, 5, 6] rfl)
  · have h0 : cd = 0 := (zI_eq (by omega) (by omega) (by omega) (by omega)).mp (show zI cd = zI 0 from cz)
    have hf1 : f1 ((0 : Int32)).toNatClampNeg = r.toInt64 := hout h0
    have hv := hv h0
    refine lv_aload_n hx hb dL_law_926 rfl (lv_at hl 5 rfl) ?_
    refine lv_iconst (v := 0) hx hb dL_law_927 (by decide) ?_
    refine va_lald hx hb hK hP 0 2 rfl rfl mb_in01 dL_law_928 ?_
    refine lv_iload hx hb dL_law_929 (lv_at hl 0 rfl) ?_
    refine lv_i2l (v := r2.toInt64) hx hb dL_law_931 rfl ?_
    refine W.lcmp hx hb dL_law_932 ?_
    refine lv_if_eq (tgt := 938) hx hb dL_law_933 (by decide) (fun _ => ?_) (fun cy => absurd (mb_cmp (by rw [hf1, hv])) cy)
    refine lv_goto (tgt := 2310) hx hb dL_law_938 (by decide) ?_
    refine W.widen (k := cells + 14) (n := slots + 369) (by omega) (by omega) ?_
    exact kk b1 M1 f1 _ _ _ hR hP hD hS (lv_sub hl [2, 3, 4, 5, 6] rfl)
set_option maxHeartbeats 4000000 in
set_option maxRecDepth 100000 in
theorem lc_sew {p : Program} {l : Launch} {e : Env} {s : State} {m : MethodId} {args : Array Value} {below : List Frame} {meth : Method} {c : Code} {H : Heap} {locs : List Loc} {cells slots : Nat} {Q : State → Prop} {D : va_G} {Y : Nat → ClassId} {A : Nat → Prop} {ls : Array Slot} {L : Nat} {xs : Nat → Int32} {bs q om o i : Nat} {am a aa : Nat → Nat} {b : mb_bs} {M : mb_m} {f : Nat → Int64} (C : mb_LC p l s m meth c args L xs bs D Y A) (hi : i + 6 < L) (hc : cells + 14 ≤ 601024) (hs : slots + 369 ≤ 7293034) (hR : Rm b M) (hP : va_P D vwCl (wL Y q f om am M o a aa b) H) (hD : va_D A (wL Y q f om am M o a aa b)) (hS : va_S A s.heap H locs) (hl : lv_has ls 7 [(0, .ref bs), (1, .ref o), (2, .ref om), (3, .ref q), (4, .int (zI i))])
    (kk : lw_K p l e s m args below meth c Q D Y A bs q om am o a aa i cells slots) : W p l e room_1 s m args below meth c H locs cells slots Q (F0 m 941 ls []) := by
  obtain ⟨⟨hx, hb, hr, hml, hts, hown, hlocks, hA, hG⟩, hX, hl0, hN, hX2, hbl, hbA, hL⟩ := id C
  have hK := hG.1
  refine lv_aload_n hx hb dL_law_941 rfl (lv_at hl 1 rfl) ?_
  refine lw_arg 1 C hS (lv_at hl 0 rfl) (lv_at hl 4 rfl) (by omega) (by decide) dL_law_942 dL_law_943 dL_law_945 dL_law_946 dL_law_947 ?_
  refine lw_arg 2 C hS (lv_at hl 0 rfl) (lv_at hl 4 rfl) (by omega) (by decide) dL_law_948 dL_law_949 dL_law_951 dL_law_952 dL_law_953 ?_
  refine lv_aload_n hx hb dL_law_954 rfl (lv_at hl 3 rfl) ?_
  refine mb_cW hD hS hA (vx_runSW (As := [.ref o, .int (xs (i + 1)), .int (xs (i + 2)), .ref q]) (rest := []) ⟨hx, hb, hml, hown, hts⟩ (mb_frL (wr := gw8 Y om am M) (WF := fun u : mb_bs × (Nat → Int64) => wL Y q u.2 om am M o a aa u.1) (fun u => u) wL_pL (fun u => wL_pL) (fun _ _ h => h) (cw_sew l hl0 D Y 700 o a aa b q f _ (xs (i + 1)) (xs (i + 2)) (fun cd r b => PX8_sew 700 M (xs (i + 1)) (xs (i + 2)) (Qe cd r b)) (@s_sew 700 b.1 b.2.1 b.2.2.1 b.2.2.2.1 b.2.2.2.2.1 b.2.2.2.2.2.1 b.2.2.2.2.2.2.1 b.2.2.2.2.2.2.2 M (by decide) hR (xs (i + 1)) (xs (i + 2))))) (vx_cwSW 4 hts gL_law_L_sew rfl rfl rfl (by decide +kernel) ⟨(Nat.le_of_ble_eq_true rfl), (Nat.le_of_ble_eq_true rfl)⟩) (lw_preL C hP hD hS) rfl rfl hl.1 rfl (lv_room (Nat.le_of_ble_eq_true rfl)) dL_law_955 ⟨mb_le2 hc (Nat.le_of_ble_eq_true rfl), mb_le2 hs (Nat.le_of_ble_eq_true rfl)⟩) (fun k u H locs hF hP hD hS => ?_)
  obtain ⟨cd, r, hcd, rfl, hF, hout⟩ := hF
  obtain ⟨b1, f1⟩ := u
  have hout : cd = 0 → f1 0 = r.toInt64 := hout
  have hF : PX8_sew 700 M (xs (i + 1)) (xs (i + 2)) (Qe cd r b1) := hF
  have hP : va_P D vwCl (wL Y q f1 om am M o a aa b1) H := hP
  have hD : va_D A (wL Y q f1 om am M o a aa b1) := hD
  refine lv_istore (lv' := [(5, .int (zI cd)), (0, .ref bs), (1, .ref o), (2, .ref om), (3, .ref q), (4, .int (zI i))]) hx hb dL_law_958 hl (by decide) rfl (fun ls hl => ?_)
  refine lv_aload_n hx hb dL_law_960 rfl (lv_at hl 3 rfl) ?_
  refine lw_arg 1 C hS (lv_at hl 1 rfl) (lv_at hl 5 rfl) (by omega) (by decide) dL_law_961 dL_law_962 dL_law_964 dL_law_965 dL_law_966 ?_
  refine lw_arg 2 C hS (lv_at hl 1 rfl) (lv_at hl 5 rfl) (by omega) (by decide) dL_law_967 dL_law_968 dL_law_970 dL_law_971 dL_law_972 ?_
  refine mb_cW hD hS hA (va_runV (As := [.int (xs (i + 1)), .int (xs (i + 2))]) (rest := []) ⟨hx, hb, hml, hown, hts⟩ (mb_fr (wr := wO Y q f1 ++ wB Y o a aa b1) (WF := fun u : mb_m => wL Y q f1 om am u o a aa b1) (fun u => u) wL_pM (fun u => wL_pM) (fun _ _ h => h) (cnX8_sew l D Y 700 om am M _ (xs (i + 1)) (xs (i + 2)) _ hF)) (cwV 2 hts gL_law_X8_sew rfl rfl rfl (by decide +kernel) ⟨(Nat.le_of_ble_eq_true rfl), (Nat.le_of_ble_eq_true rfl)⟩) (mb_preV hG hP hD 1 rfl rfl) rfl rfl hl.1 rfl (lv_room (Nat.le_of_ble_eq_true rfl)) dL_law_973 ⟨by show _ ≤ 601024; omega, by show _ ≤ 7293034; omega⟩) (fun r2 M1 H locs hF hP hD hS => ?_)
  obtain ⟨hm27, hv, hR⟩ := hF
  refine lv_istore (lv' := [(6, .int r2), (5, .int (zI cd)), (0, .ref bs), (1, .ref o), (2, .ref om), (3, .ref q), (4, .int (zI i))]) hx hb dL_law_976 hl (by decide) rfl (fun ls hl => ?_)
  refine lv_aload_n hx hb dL_law_978 rfl (lv_at hl 4 rfl) ?_
  refine mb_cW hD hS hA (va_runV (As := []) (rest := []) ⟨hx, hb, hml, hown, hts⟩ (mb_fr (wr := wO Y q f1 ++ wB Y o a aa b1) (WF := fun u : mb_m => wL Y q f1 om am u o a aa b1) (fun u => u) wL_pM (fun u => wL_pM) (fun _ _ h => h) (cnX8_thrown l D Y 700 om am M1 _ (fun rr MM => rr = zI cd ∧ MM = M1) ⟨hm27, rfl⟩)) (cwV 0 hts gL_law_X8_thrown rfl rfl rfl (by decide +kernel) ⟨(Nat.le_of_ble_eq_true rfl), (Nat.le_of_ble_eq_true rfl)⟩) (mb_preV hG hP hD 1 rfl rfl) rfl rfl hl.1 rfl (lv_room (Nat.le_of_ble_eq_true rfl)) dL_law_979 ⟨by show _ ≤ 601024; omega, by show _ ≤ 7293034; omega⟩) (fun rt M2 H locs hF hP hD hS => ?_)
  obtain ⟨rfl, hM⟩ := hF
  have hM := hM.symm
  subst hM
  refine lv_iload hx hb dL_law_982 (lv_at hl 1 rfl) ?_
  refine lv_icmp_eq (tgt := 989) hx hb dL_law_984 (by decide) (fun _ => ?_) (fun cz => absurd rfl cz)
  refine lv_iload hx hb dL_law_989 (lv_at hl 1 rfl) ?_
  refine lv_if_ne (tgt := 1006) hx hb dL_law_991 (by decide) (fun cz => ?_) (fun cz => ?_)
  · refine lv_goto (tgt := 2310) hx hb dL_law_1006 (by decide) ?_
    refine W.widen (k := cells + 14) (n := slots + 369) (by omega) (by omega) ?_
    exact kk b1 M1 f1 _ _ _ hR hP hD hS (lv_sub hl [2, 3, 4, 5, 6] rfl)
  · have h0 : cd = 0 := (zI_eq (by omega) (by omega) (by omega) (by omega)).mp (show zI cd = zI 0 from cz)
    have hf1 : f1 ((0 : Int32)).toNatClampNeg = r.toInt64 := hout h0
    have hv := hv h0
    refine lv_aload_n hx hb dL_law_994 rfl (lv_at hl 5 rfl) ?_
    refine lv_iconst (v := 0) hx hb dL_law_995 (by decide) ?_
    refine va_lald hx hb hK hP 0 2 rfl rfl mb_in01 dL_law_996 ?_
    refine lv_iload hx hb dL_law_997 (lv_at hl 0 rfl) ?_
    refine lv_i2l (v := r2.toInt64) hx hb dL_law_999 rfl ?_
    refine W.lcmp hx hb dL_law_1000 ?_
    refine lv_if_eq (tgt := 1006) hx hb dL_law_1001 (by decide) (fun _ => ?_) (fun cy => absurd (mb_cmp (by rw [hf1, hv])) cy)
    refine lv_goto (tgt := 2310) hx hb dL_law_1006 (by decide) ?_
    refine W.widen (k := cells + 14) (n := slots + 369) (by omega) (by omega) ?_
    exact kk b1 M1 f1 _ _ _ hR hP hD hS (lv_sub hl [2, 3, 4, 5, 6] rfl)
set_option maxHeartbeats 4000000 in
set_option maxRecDepth 100000 in
theorem lc_unsew {p : Program} {l : Launch} {e : Env} {s : State} {m : MethodId} {args : Array Value} {below : List Frame} {meth : Method} {c : Code} {H : Heap} {locs : List Loc} {cells slots : Nat} {Q : State → Prop} {D : va_G} {Y : Nat → ClassId} {A : Nat → Prop} {ls : Array Slot} {L : Nat} {xs : Nat → Int32} {bs q om o i : Nat} {am a aa : Nat → Nat} {b : mb_bs} {M : mb_m} {f : Nat → Int64} (C : mb_LC p l s m meth c args L xs bs D Y A) (hi : i + 6 < L) (hc : cells + 14 ≤ 601024) (hs : slots + 369 ≤ 7293034) (hR : Rm b M) (hP : va_P D vwCl (wL Y q f om am M o a aa b) H) (hD : va_D A (wL Y q f om am M o a aa b)) (hS : va_S A s.heap H locs) (hl : lv_has ls 7 [(0, .ref bs), (1, .ref o), (2, .ref om), (3, .ref q), (4, .int (zI i))])
    (kk : lw_K p l e s m args below meth c Q D Y A bs q om am o a aa i cells slots) : W p l e room_1 s m args below meth c H locs cells slots Q (F0 m 1009 ls []) := by
  obtain ⟨⟨hx, hb, hr, hml, hts, hown, hlocks, hA, hG⟩, hX, hl0, hN, hX2, hbl, hbA, hL⟩ := id C
  have hK := hG.1
  refine lv_aload_n hx hb dL_law_1009 rfl (lv_at hl 1 rfl) ?_
  refine lw_arg 1 C hS (lv_at hl 0 rfl) (lv_at hl 4 rfl) (by omega) (by decide) dL_law_1010 dL_law_1011 dL_law_1013 dL_law_1014 dL_law_1015 ?_
  refine lw_arg 2 C hS (lv_at hl 0 rfl) (lv_at hl 4 rfl) (by omega) (by decide) dL_law_1016 dL_law_1017 dL_law_1019 dL_law_1020 dL_law_1021 ?_
  refine lv_aload_n hx hb dL_law_1022 rfl (lv_at hl 3 rfl) ?_
  refine mb_cW hD hS hA (vx_runSW (As := [.ref o, .int (xs (i + 1)), .int (xs (i + 2)), .ref q]) (rest := []) ⟨hx, hb, hml, hown, hts⟩ (mb_frL (wr := gw8 Y om am M) (WF := fun u : mb_bs × (Nat → Int64) => wL Y q u.2 om am M o a aa u.1) (fun u => u) wL_pL (fun u => wL_pL) (fun _ _ h => h) (cw_unsew l hl0 D Y 700 o a aa b q f _ (xs (i + 1)) (xs (i + 2)) (fun cd r b => PX8_unsew 700 M (xs (i + 1)) (xs (i + 2)) (Qe cd r b)) (@s_unsew 700 b.1 b.2.1 b.2.2.1 b.2.2.2.1 b.2.2.2.2.1 b.2.2.2.2.2.1 b.2.2.2.2.2.2.1 b.2.2.2.2.2.2.2 M (by decide) hR (xs (i + 1)) (xs (i + 2))))) (vx_cwSW 4 hts gL_law_L_unsew rfl rfl rfl (by decide +kernel) ⟨(Nat.le_of_ble_eq_true rfl), (Nat.le_of_ble_eq_true rfl)⟩) (lw_preL C hP hD hS) rfl rfl hl.1 rfl (lv_room (Nat.le_of_ble_eq_true rfl)) dL_law_1023 ⟨mb_le2 hc (Nat.le_of_ble_eq_true rfl), mb_le2 hs (Nat.le_of_ble_eq_true rfl)⟩) (fun k u H locs hF hP hD hS => ?_)
  obtain ⟨cd, r, hcd, rfl, hF, hout⟩ := hF
  obtain ⟨b1, f1⟩ := u
  have hout : cd = 0 → f1 0 = r.toInt64 := hout
  have hF : PX8_unsew 700 M (xs (i + 1)) (xs (i + 2)) (Qe cd r b1) := hF
  have hP : va_P D vwCl (wL Y q f1 om am M o a aa b1) H := hP
  have hD : va_D A (wL Y q f1 om am M o a aa b1) := hD
  refine lv_istore (lv' := [(5, .int (zI cd)), (0, .ref bs), (1, .ref o), (2, .ref om), (3, .ref q), (4, .int (zI i))]) hx hb dL_law_1026 hl (by decide) rfl (fun ls hl => ?_)
  refine lv_aload_n hx hb dL_law_1028 rfl (lv_at hl 3 rfl) ?_
  refine lw_arg 1 C hS (lv_at hl 1 rfl) (lv_at hl 5 rfl) (by omega) (by decide) dL_law_1029 dL_law_1030 dL_law_1032 dL_law_1033 dL_law_1034 ?_
  refine lw_arg 2 C hS (lv_at hl 1 rfl) (lv_at hl 5 rfl) (by omega) (by decide) dL_law_1035 dL_law_1036 dL_law_1038 dL_law_1039 dL_law_1040 ?_
  refine mb_cW hD hS hA (va_runV (As := [.int (xs (i + 1)), .int (xs (i + 2))]) (rest := []) ⟨hx, hb, hml, hown, hts⟩ (mb_fr (wr := wO Y q f1 ++ wB Y o a aa b1) (WF := fun u : mb_m => wL Y q f1 om am u o a aa b1) (fun u => u) wL_pM (fun u => wL_pM) (fun _ _ h => h) (cnX8_unsew l D Y 700 om am M _ (xs (i + 1)) (xs (i + 2)) _ hF)) (cwV 2 hts gL_law_X8_unsew rfl rfl rfl (by decide +kernel) ⟨(Nat.le_of_ble_eq_true rfl), (Nat.le_of_ble_eq_true rfl)⟩) (mb_preV hG hP hD 1 rfl rfl) rfl rfl hl.1 rfl (lv_room (Nat.le_of_ble_eq_true rfl)) dL_law_1041 ⟨by show _ ≤ 601024; omega, by show _ ≤ 7293034; omega⟩) (fun r2 M1 H locs hF hP hD hS => ?_)
  obtain ⟨hm27, hv, hR⟩ := hF
  refine lv_istore (lv' := [(6, .int r2), (5, .int (zI cd)), (0, .ref bs), (1, .ref o), (2, .ref om), (3, .ref q), (4, .int (zI i))]) hx hb dL_law_1044 hl (by decide) rfl (fun ls hl => ?_)
  refine lv_aload_n hx hb dL_law_1046 rfl (lv_at hl 4 rfl) ?_
  refine mb_cW hD hS hA (va_runV (As := []) (rest := []) ⟨hx, hb, hml, hown, hts⟩ (mb_fr (wr := wO Y q f1 ++ wB Y o a aa b1) (WF := fun u : mb_m => wL Y q f1 om am u o a aa b1) (fun u => u) wL_pM (fun u => wL_pM) (fun _ _ h => h) (cnX8_thrown l D Y 700 om am M1 _ (fun rr MM => rr = zI cd ∧ MM = M1) ⟨hm27, rfl⟩)) (cwV 0 hts gL_law_X8_thrown rfl rfl rfl (by decide +kernel) ⟨(Nat.le_of_ble_eq_true rfl), (Nat.le_of_ble_eq_true rfl)⟩) (mb_preV hG hP hD 1 rfl rfl) rfl rfl hl.1 rfl (lv_room (Nat.le_of_ble_eq_true rfl)) dL_law_1047 ⟨by show _ ≤ 601024; omega, by show _ ≤ 7293034; omega⟩) (fun rt M2 H locs hF hP hD hS => ?_)
  obtain ⟨rfl, hM⟩ := hF
  have hM := hM.symm
  subst hM
  refine lv_iload hx hb dL_law_1050 (lv_at hl 1 rfl) ?_
  refine lv_icmp_eq (tgt := 1057) hx hb dL_law_1052 (by decide) (fun _ => ?_) (fun cz => absurd rfl cz)
  refine lv_iload hx hb dL_law_1057 (lv_at hl 1 rfl) ?_
  refine lv_if_ne (tgt := 1074) hx hb dL_law_1059 (by decide) (fun cz => ?_) (fun cz => ?_)
  · refine lv_goto (tgt := 2310) hx hb dL_law_1074 (by decide) ?_
    refine W.widen (k := cells + 14) (n := slots + 369) (by omega) (by omega) ?_
    exact kk b1 M1 f1 _ _ _ hR hP hD hS (lv_sub hl [2, 3, 4, 5, 6] rfl)
  · have h0 : cd = 0 := (zI_eq (by omega) (by omega) (by omega) (by omega)).mp (show zI cd = zI 0 from cz)
    have hf1 : f1 ((0 : Int32)).toNatClampNeg = r.toInt64 := hout h0
    have hv := hv h0
    refine lv_aload_n hx hb dL_law_1062 rfl (lv_at hl 5 rfl) ?_
    refine lv_iconst (v := 0) hx hb dL_law_1063 (by decide) ?_
    refine va_lald hx hb hK hP 0 2 rfl rfl mb_in01 dL_law_1064 ?_
    refine lv_iload hx hb dL_law_1065 (lv_at hl 0 rfl) ?_
    refine lv_i2l (v := r2.toInt64) hx hb dL_law_1067 rfl ?_
    refine W.lcmp hx hb dL_law_1068 ?_
    refine lv_if_eq (tgt := 1074) hx hb dL_law_1069 (by decide) (fun _ => ?_) (fun cy => absurd (mb_cmp (by rw [hf1, hv])) cy)
    refine lv_goto (tgt := 2310) hx hb dL_law_1074 (by decide) ?_
    refine W.widen (k := cells + 14) (n := slots + 369) (by omega) (by omega) ?_
    exact kk b1 M1 f1 _ _ _ hR hP hD hS (lv_sub hl [2, 3, 4, 5, 6] rfl)
set_option maxHeartbeats 4000000 in
set_option maxRecDepth 100000 in
theorem lc_ofThread {p : Program} {l : Launch} {e : Env} {s : State} {m : MethodId} {args : Array Value} {below : List Frame} {meth : Method} {c : Code} {H : Heap} {locs : List Loc} {cells slots : Nat} {Q : State → Prop} {D : va_G} {Y : Nat → ClassId} {A : Nat → Prop} {ls : Array Slot} {L : Nat} {xs : Nat → Int32} {bs q om o i : Nat} {am a aa : Nat → Nat} {b : mb_bs} {M : mb_m} {f : Nat → Int64} (C : mb_LC p l s m meth c args L xs bs D Y A) (hi : i + 6 < L) (hc : cells + 14 ≤ 601024) (hs : slots + 369 ≤ 7293034) (hR : Rm b M) (hP : va_P D vwCl (wL Y q f om am M o a aa b) H) (hD : va_D A (wL Y q f om am M o a aa b)) (hS : va_S A s.heap H locs) (hl : lv_has ls 7 [(0, .ref bs), (1, .ref o), (2, .ref om), (3, .ref q), (4, .int (zI i))])
    (kk : lw_K p l e s m args below meth c Q D Y A bs q om am o a aa i cells slots) : W p l e room_1 s m args below meth c H locs cells slots Q (F0 m 1077 ls []) := by
  obtain ⟨⟨hx, hb, hr, hml, hts, hown, hlocks, hA, hG⟩, hX, hl0, hN, hX2, hbl, hbA, hL⟩ := id C
  have hK := hG.1
  refine lv_aload_n hx hb dL_law_1077 rfl (lv_at hl 1 rfl) ?_
  refine lw_arg 1 C hS (lv_at hl 0 rfl) (lv_at hl 4 rfl) (by omega) (by decide) dL_law_1078 dL_law_1079 dL_law_1081 dL_law_1082 dL_law_1083 ?_
  refine lw_arg 2 C hS (lv_at hl 0 rfl) (lv_at hl 4 rfl) (by omega) (by decide) dL_law_1084 dL_law_1085 dL_law_1087 dL_law_1088 dL_law_1089 ?_
  refine lv_aload_n hx hb dL_law_1090 rfl (lv_at hl 3 rfl) ?_
  refine mb_cW hD hS hA (vx_runSW (As := [.ref o, .int (xs (i + 1)), .int (xs (i + 2)), .ref q]) (rest := []) ⟨hx, hb, hml, hown, hts⟩ (mb_frL (wr := gw8 Y om am M) (WF := fun u : mb_bs × (Nat → Int64) => wL Y q u.2 om am M o a aa u.1) (fun u => u) wL_pL (fun u => wL_pL) (fun _ _ h => h) (cw_ofThread l hl0 D Y 700 o a aa b q f _ (xs (i + 1)) (xs (i + 2)) (fun cd r b => PX8_ofThread 700 M (xs (i + 1)) (xs (i + 2)) (Qe cd r b)) (@s_ofThread 700 b.1 b.2.1 b.2.2.1 b.2.2.2.1 b.2.2.2.2.1 b.2.2.2.2.2.1 b.2.2.2.2.2.2.1 b.2.2.2.2.2.2.2 M (by decide) hR (xs (i + 1)) (xs (i + 2))))) (vx_cwSW 4 hts gL_law_L_ofThread rfl rfl rfl (by decide +kernel) ⟨(Nat.le_of_ble_eq_true rfl), (Nat.le_of_ble_eq_true rfl)⟩) (lw_preL C hP hD hS) rfl rfl hl.1 rfl (lv_room (Nat.le_of_ble_eq_true rfl)) dL_law_1091 ⟨mb_le2 hc (Nat.le_of_ble_eq_true rfl), mb_le2 hs (Nat.le_of_ble_eq_true rfl)⟩) (fun k u H locs hF hP hD hS => ?_)
  obtain ⟨cd, r, hcd, rfl, hF, hout⟩ := hF
  obtain ⟨b1, f1⟩ := u
  have hout : cd = 0 → f1 0 = r.toInt64 := hout
  have hF : PX8_ofThread 700 M (xs (i + 1)) (xs (i + 2)) (Qe cd r b1) := hF
  have hP : va_P D vwCl (wL Y q f1 om am M o a aa b1) H := hP
  have hD : va_D A (wL Y q f1 om am M o a aa b1) := hD
  refine lv_istore (lv' := [(5, .int (zI cd)), (0, .ref bs), (1, .ref o), (2, .ref om), (3, .ref q), (4, .int (zI i))]) hx hb dL_law_1094 hl (by decide) rfl (fun ls hl => ?_)
  refine lv_aload_n hx hb dL_law_1096 rfl (lv_at hl 3 rfl) ?_
  refine lw_arg 1 C hS (lv_at hl 1 rfl) (lv_at hl 5 rfl) (by omega) (by decide) dL_law_1097 dL_law_1098 dL_law_1100 dL_law_1101 dL_law_1102 ?_
  refine lw_arg 2 C hS (lv_at hl 1 rfl) (lv_at hl 5 rfl) (by omega) (by decide) dL_law_1103 dL_law_1104 dL_law_1106 dL_law_1107 dL_law_1108 ?_
  refine mb_cW hD hS hA (va_runV (As := [.int (xs (i + 1)), .int (xs (i + 2))]) (rest := []) ⟨hx, hb, hml, hown, hts⟩ (mb_fr (wr := wO Y q f1 ++ wB Y o a aa b1) (WF := fun u : mb_m => wL Y q f1 om am u o a aa b1) (fun u => u) wL_pM (fun u => wL_pM) (fun _ _ h => h) (cnX8_ofThread l D Y 700 om am M _ (xs (i + 1)) (xs (i + 2)) _ hF)) (cwV 2 hts gL_law_X8_ofThread rfl rfl rfl (by decide +kernel) ⟨(Nat.le_of_ble_eq_true rfl), (Nat.le_of_ble_eq_true rfl)⟩) (mb_preV hG hP hD 1 rfl rfl) rfl rfl hl.1 rfl (lv_room (Nat.le_of_ble_eq_true rfl)) dL_law_1109 ⟨by show _ ≤ 601024; omega, by show _ ≤ 7293034; omega⟩) (fun r2 M1 H locs hF hP hD hS => ?_)
  obtain ⟨hm27, hv, hR⟩ := hF
  refine lv_istore (lv' := [(6, .int r2), (5, .int (zI cd)), (0, .ref bs), (1, .ref o), (2, .ref om), (3, .ref q), (4, .int (zI i))]) hx hb dL_law_1112 hl (by decide) rfl (fun ls hl => ?_)
  refine lv_aload_n hx hb dL_law_1114 rfl (lv_at hl 4 rfl) ?_
  refine mb_cW hD hS hA (va_runV (As := []) (rest := []) ⟨hx, hb, hml, hown, hts⟩ (mb_fr (wr := wO Y q f1 ++ wB Y o a aa b1) (WF := fun u : mb_m => wL Y q f1 om am u o a aa b1) (fun u => u) wL_pM (fun u => wL_pM) (fun _ _ h => h) (cnX8_thrown l D Y 700 om am M1 _ (fun rr MM => rr = zI cd ∧ MM = M1) ⟨hm27, rfl⟩)) (cwV 0 hts gL_law_X8_thrown rfl rfl rfl (by decide +kernel) ⟨(Nat.le_of_ble_eq_true rfl), (Nat.le_of_ble_eq_true rfl)⟩) (mb_preV hG hP hD 1 rfl rfl) rfl rfl hl.1 rfl (lv_room (Nat.le_of_ble_eq_true rfl)) dL_law_1115 ⟨by show _ ≤ 601024; omega, by show _ ≤ 7293034; omega⟩) (fun rt M2 H locs hF hP hD hS => ?_)
  obtain ⟨rfl, hM⟩ := hF
  have hM := hM.symm
  subst hM
  refine lv_iload hx hb dL_law_1118 (lv_at hl 1 rfl) ?_
  refine lv_icmp_eq (tgt := 1125) hx hb dL_law_1120 (by decide) (fun _ => ?_) (fun cz => absurd rfl cz)
  refine lv_iload hx hb dL_law_1125 (lv_at hl 1 rfl) ?_
  refine lv_if_ne (tgt := 1142) hx hb dL_law_1127 (by decide) (fun cz => ?_) (fun cz => ?_)
  · refine lv_goto (tgt := 2310) hx hb dL_law_1142 (by decide) ?_
    refine W.widen (k := cells + 14) (n := slots + 369) (by omega) (by omega) ?_
    exact kk b1 M1 f1 _ _ _ hR hP hD hS (lv_sub hl [2, 3, 4, 5, 6] rfl)
  · have h0 : cd = 0 := (zI_eq (by omega) (by omega) (by omega) (by omega)).mp (show zI cd = zI 0 from cz)
    have hf1 : f1 ((0 : Int32)).toNatClampNeg = r.toInt64 := hout h0
    have hv := hv h0
    refine lv_aload_n hx hb dL_law_1130 rfl (lv_at hl 5 rfl) ?_
    refine lv_iconst (v := 0) hx hb dL_law_1131 (by decide) ?_
    refine va_lald hx hb hK hP 0 2 rfl rfl mb_in01 dL_law_1132 ?_
    refine lv_iload hx hb dL_law_1133 (lv_at hl 0 rfl) ?_
    refine lv_i2l (v := r2.toInt64) hx hb dL_law_1135 rfl ?_
    refine W.lcmp hx hb dL_law_1136 ?_
    refine lv_if_eq (tgt := 1142) hx hb dL_law_1137 (by decide) (fun _ => ?_) (fun cy => absurd (mb_cmp (by rw [hf1, hv])) cy)
    refine lv_goto (tgt := 2310) hx hb dL_law_1142 (by decide) ?_
    refine W.widen (k := cells + 14) (n := slots + 369) (by omega) (by omega) ?_
    exact kk b1 M1 f1 _ _ _ hR hP hD hS (lv_sub hl [2, 3, 4, 5, 6] rfl)
set_option maxHeartbeats 4000000 in
set_option maxRecDepth 100000 in
theorem lc_stitches {p : Program} {l : Launch} {e : Env} {s : State} {m : MethodId} {args : Array Value} {below : List Frame} {meth : Method} {c : Code} {H : Heap} {locs : List Loc} {cells slots : Nat} {Q : State → Prop} {D : va_G} {Y : Nat → ClassId} {A : Nat → Prop} {ls : Array Slot} {L : Nat} {xs : Nat → Int32} {bs q om o i : Nat} {am a aa : Nat → Nat} {b : mb_bs} {M : mb_m} {f : Nat → Int64} (C : mb_LC p l s m meth c args L xs bs D Y A) (hi : i + 6 < L) (hc : cells + 14 ≤ 601024) (hs : slots + 369 ≤ 7293034) (hR : Rm b M) (hP : va_P D vwCl (wL Y q f om am M o a aa b) H) (hD : va_D A (wL Y q f om am M o a aa b)) (hS : va_S A s.heap H locs) (hl : lv_has ls 7 [(0, .ref bs), (1, .ref o), (2, .ref om), (3, .ref q), (4, .int (zI i))])
    (kk : lw_K p l e s m args below meth c Q D Y A bs q om am o a aa i cells slots) : W p l e room_1 s m args below meth c H locs cells slots Q (F0 m 1145 ls []) := by
  obtain ⟨⟨hx, hb, hr, hml, hts, hown, hlocks, hA, hG⟩, hX, hl0, hN, hX2, hbl, hbA, hL⟩ := id C
  have hK := hG.1
  refine lv_aload_n hx hb dL_law_1145 rfl (lv_at hl 1 rfl) ?_
  refine lw_arg 1 C hS (lv_at hl 0 rfl) (lv_at hl 4 rfl) (by omega) (by decide) dL_law_1146 dL_law_1147 dL_law_1149 dL_law_1150 dL_law_1151 ?_
  refine lw_arg 2 C hS (lv_at hl 0 rfl) (lv_at hl 4 rfl) (by omega) (by decide) dL_law_1152 dL_law_1153 dL_law_1155 dL_law_1156 dL_law_1157 ?_
  refine lw_arg 3 C hS (lv_at hl 0 rfl) (lv_at hl 4 rfl) (by omega) (by decide) dL_law_1158 dL_law_1159 dL_law_1161 dL_law_1162 dL_law_1163 ?_
  refine lv_aload_n hx hb dL_law_1164 rfl (lv_at hl 3 rfl) ?_
  refine mb_cW hD hS hA (vx_runSW (As := [.ref o, .int (xs (i + 1)), .int (xs (i + 2)), .int (xs (i + 3)), .ref q]) (rest := []) ⟨hx, hb, hml, hown, hts⟩ (mb_frL (wr := gw8 Y om am M) (WF := fun u : mb_bs × (Nat → Int64) => wL Y q u.2 om am M o a aa u.1) (fun u => u) wL_pL (fun u => wL_pL) (fun _ _ h => h) (cw_stitches l hl0 D Y 700 o a aa b q f _ (xs (i + 1)) (xs (i + 2)) (xs (i + 3)) (fun cd r b => PX8_stitches 700 M (xs (i + 1)) (xs (i + 2)) (xs (i + 3)) (Qe cd r b)) (@s_stitches 700 b.1 b.2.1 b.2.2.1 b.2.2.2.1 b.2.2.2.2.1 b.2.2.2.2.2.1 b.2.2.2.2.2.2.1 b.2.2.2.2.2.2.2 M (by decide) hR (xs (i + 1)) (xs (i + 2)) (xs (i + 3))))) (vx_cwSW 5 hts gL_law_L_stitches rfl rfl rfl (by decide +kernel) ⟨(Nat.le_of_ble_eq_true rfl), (Nat.le_of_ble_eq_true rfl)⟩) (lw_preL C hP hD hS) rfl rfl hl.1 rfl (lv_room (Nat.le_of_ble_eq_true rfl)) dL_law_1165 ⟨mb_le2 hc (Nat.le_of_ble_eq_true rfl), mb_le2 hs (Nat.le_of_ble_eq_true rfl)⟩) (fun k u H locs hF hP hD hS => ?_)
  obtain ⟨cd, r, hcd, rfl, hF, hout⟩ := hF
  obtain ⟨b1, f1⟩ := u
  have hout : cd = 0 → f1 0 = r.toInt64 := hout
  have hF : PX8_stitches 700 M (xs (i + 1)) (xs (i + 2)) (xs (i + 3)) (Qe cd r b1) := hF
  have hP : va_P D vwCl (wL Y q f1 om am M o a aa b1) H := hP
  have hD : va_D A (wL Y q f1 om am M o a aa b1) := hD
  refine lv_istore (lv' := [(5, .int (zI cd)), (0, .ref bs), (1, .ref o), (2, .ref om), (3, .ref q), (4, .int (zI i))]) hx hb dL_law_1168 hl (by decide) rfl (fun ls hl => ?_)
  refine lv_aload_n hx hb dL_law_1170 rfl (lv_at hl 3 rfl) ?_
  refine lw_arg 1 C hS (lv_at hl 1 rfl) (lv_at hl 5 rfl) (by omega) (by decide) dL_law_1171 dL_law_1172 dL_law_1174 dL_law_1175 dL_law_1176 ?_
  refine lw_arg 2 C hS (lv_at hl 1 rfl) (lv_at hl 5 rfl) (by omega) (by decide) dL_law_1177 dL_law_1178 dL_law_1180 dL_law_1181 dL_law_1182 ?_
  refine lw_arg 3 C hS (lv_at hl 1 rfl) (lv_at hl 5 rfl) (by omega) (by decide) dL_law_1183 dL_law_1184 dL_law_1186 dL_law_1187 dL_law_1188 ?_
  refine mb_cW hD hS hA (va_runV (As := [.int (xs (i + 1)), .int (xs (i + 2)), .int (xs (i + 3))]) (rest := []) ⟨hx, hb, hml, hown, hts⟩ (mb_fr (wr := wO Y q f1 ++ wB Y o a aa b1) (WF := fun u : mb_m => wL Y q f1 om am u o a aa b1) (fun u => u) wL_pM (fun u => wL_pM) (fun _ _ h => h) (cnX8_stitches l D Y 700 om am M _ (xs (i + 1)) (xs (i + 2)) (xs (i + 3)) _ hF)) (cwV 3 hts gL_law_X8_stitches rfl rfl rfl (by decide +kernel) ⟨(Nat.le_of_ble_eq_true rfl), (Nat.le_of_ble_eq_true rfl)⟩) (mb_preV hG hP hD 1 rfl rfl) rfl rfl hl.1 rfl (lv_room (Nat.le_of_ble_eq_true rfl)) dL_law_1189 ⟨by show _ ≤ 601024; omega, by show _ ≤ 7293034; omega⟩) (fun r2 M1 H locs hF hP hD hS => ?_)
  obtain ⟨hm27, hv, hR⟩ := hF
  refine lv_istore (lv' := [(6, .int r2), (5, .int (zI cd)), (0, .ref bs), (1, .ref o), (2, .ref om), (3, .ref q), (4, .int (zI i))]) hx hb dL_law_1192 hl (by decide) rfl (fun ls hl => ?_)
  refine lv_aload_n hx hb dL_law_1194 rfl (lv_at hl 4 rfl) ?_
  refine mb_cW hD hS hA (va_runV (As := []) (rest := []) ⟨hx, hb, hml, hown, hts⟩ (mb_fr (wr := wO Y q f1 ++ wB Y o a aa b1) (WF := fun u : mb_m => wL Y q f1 om am u o a aa b1) (fun u => u) wL_pM (fun u => wL_pM) (fun _ _ h => h) (cnX8_thrown l D Y 700 om am M1 _ (fun rr MM => rr = zI cd ∧ MM = M1) ⟨hm27, rfl⟩)) (cwV 0 hts gL_law_X8_thrown rfl rfl rfl (by decide +kernel) ⟨(Nat.le_of_ble_eq_true rfl), (Nat.le_of_ble_eq_true rfl)⟩) (mb_preV hG hP hD 1 rfl rfl) rfl rfl hl.1 rfl (lv_room (Nat.le_of_ble_eq_true rfl)) dL_law_1195 ⟨by show _ ≤ 601024; omega, by show _ ≤ 7293034; omega⟩) (fun rt M2 H locs hF hP hD hS => ?_)
  obtain ⟨rfl, hM⟩ := hF
  have hM := hM.symm
  subst hM
  refine lv_iload hx hb dL_law_1198 (lv_at hl 1 rfl) ?_
  refine lv_icmp_eq (tgt := 1205) hx hb dL_law_1200 (by decide) (fun _ => ?_) (fun cz => absurd rfl cz)
  refine lv_iload hx hb dL_law_1205 (lv_at hl 1 rfl) ?_
  refine lv_if_ne (tgt := 1222) hx hb dL_law_1207 (by decide) (fun cz => ?_) (fun cz => ?_)
  · refine lv_goto (tgt := 2310) hx hb dL_law_1222 (by decide) ?_
    refine W.widen (k := cells + 14) (n := slots + 369) (by omega) (by omega) ?_
    exact kk b1 M1 f1 _ _ _ hR hP hD hS (lv_sub hl [2, 3, 4, 5, 6] rfl)
  · have h0 : cd = 0 := (zI_eq (by omega) (by omega) (by omega) (by omega)).mp (show zI cd = zI 0 from cz)
    have hf1 : f1 ((0 : Int32)).toNatClampNeg = r.toInt64 := hout h0
    have hv := hv h0
    refine lv_aload_n hx hb dL_law_1210 rfl (lv_at hl 5 rfl) ?_
    refine lv_iconst (v := 0) hx hb dL_law_1211 (by decide) ?_
    refine va_lald hx hb hK hP 0 2 rfl rfl mb_in01 dL_law_1212 ?_
    refine lv_iload hx hb dL_law_1213 (lv_at hl 0 rfl) ?_
    refine lv_i2l (v := r2.toInt64) hx hb dL_law_1215 rfl ?_
    refine W.lcmp hx hb dL_law_1216 ?_
    refine lv_if_eq (tgt := 1222) hx hb dL_law_1217 (by decide) (fun _ => ?_) (fun cy => absurd (mb_cmp (by rw [hf1, hv])) cy)
    refine lv_goto (tgt := 2310) hx hb dL_law_1222 (by decide) ?_
    refine W.widen (k := cells + 14) (n := slots + 369) (by omega) (by omega) ?_
    exact kk b1 M1 f1 _ _ _ hR hP hD hS (lv_sub hl [2, 3, 4, 5, 6] rfl)
set_option maxHeartbeats 4000000 in
set_option maxRecDepth 100000 in
theorem lc_isHeld {p : Program} {l : Launch} {e : Env} {s : State} {m : MethodId} {args : Array Value} {below : List Frame} {meth : Method} {c : Code} {H : Heap} {locs : List Loc} {cells slots : Nat} {Q : State → Prop} {D : va_G} {Y : Nat → ClassId} {A : Nat → Prop} {ls : Array Slot} {L : Nat} {xs : Nat → Int32} {bs q om o i : Nat} {am a aa : Nat → Nat} {b : mb_bs} {M : mb_m} {f : Nat → Int64} (C : mb_LC p l s m meth c args L xs bs D Y A) (hi : i + 6 < L) (hc : cells + 14 ≤ 601024) (hs : slots + 369 ≤ 7293034) (hR : Rm b M) (hP : va_P D vwCl (wL Y q f om am M o a aa b) H) (hD : va_D A (wL Y q f om am M o a aa b)) (hS : va_S A s.heap H locs) (hl : lv_has ls 7 [(0, .ref bs), (1, .ref o), (2, .ref om), (3, .ref q), (4, .int (zI i))])
    (kk : lw_K p l e s m args below meth c Q D Y A bs q om am o a aa i cells slots) : W p l e room_1 s m args below meth c H locs cells slots Q (F0 m 1225 ls []) := by
  obtain ⟨⟨hx, hb, hr, hml, hts, hown, hlocks, hA, hG⟩, hX, hl0, hN, hX2, hbl, hbA, hL⟩ := id C
  have hK := hG.1
  refine lv_aload_n hx hb dL_law_1225 rfl (lv_at hl 1 rfl) ?_
  refine lw_arg 1 C hS (lv_at hl 0 rfl) (lv_at hl 4 rfl) (by omega) (by decide) dL_law_1226 dL_law_1227 dL_law_1229 dL_law_1230 dL_law_1231 ?_
  refine lw_arg 2 C hS (lv_at hl 0 rfl) (lv_at hl 4 rfl) (by omega) (by decide) dL_law_1232 dL_law_1233 dL_law_1235 dL_law_1236 dL_law_1237 ?_
  refine lv_aload_n hx hb dL_law_1238 rfl (lv_at hl 3 rfl) ?_
  refine mb_cW hD hS hA (vx_runSW (As := [.ref o, .int (xs (i + 1)), .int (xs (i + 2)), .ref q]) (rest := []) ⟨hx, hb, hml, hown, hts⟩ (mb_frL (wr := gw8 Y om am M) (WF := fun u : mb_bs × (Nat → Int64) => wL Y q u.2 om am M o a aa u.1) (fun u => u) wL_pL (fun u => wL_pL) (fun _ _ h => h) (cw_isHeld l hl0 D Y 700 o a aa b q f _ (xs (i + 1)) (xs (i + 2)) (fun cd r b => PX8_isHeld 700 M (xs (i + 1)) (xs (i + 2)) (Qe cd r b)) (@s_isHeld 700 b.1 b.2.1 b.2.2.1 b.2.2.2.1 b.2.2.2.2.1 b.2.2.2.2.2.1 b.2.2.2.2.2.2.1 b.2.2.2.2.2.2.2 M (by decide) hR (xs (i + 1)) (xs (i + 2))))) (vx_cwSW 4 hts gL_law_L_isHeld rfl rfl rfl (by decide +kernel) ⟨(Nat.le_of_ble_eq_true rfl), (Nat.le_of_ble_eq_true rfl)⟩) (lw_preL C hP hD hS) rfl rfl hl.1 rfl (lv_room (Nat.le_of_ble_eq_true rfl)) dL_law_1239 ⟨mb_le2 hc (Nat.le_of_ble_eq_true rfl), mb_le2 hs (Nat.le_of_ble_eq_true rfl)⟩) (fun k u H locs hF hP hD hS => ?_)
  obtain ⟨cd, r, hcd, rfl, ⟨hBr, hF⟩, hout⟩ := hF
  obtain ⟨b1, f1⟩ := u
  have hout : cd = 0 → f1 0 = r.toInt64 := hout
  have hF : PX8_isHeld 700 M (xs (i + 1)) (xs (i + 2)) (Qe cd r b1) := hF
  have hP : va_P D vwCl (wL Y q f1 om am M o a aa b1) H := hP
  have hD : va_D A (wL Y q f1 om am M o a aa b1) := hD
  refine lv_istore (lv' := [(5, .int (zI cd)), (0, .ref bs), (1, .ref o), (2, .ref om), (3, .ref q), (4, .int (zI i))]) hx hb dL_law_1242 hl (by decide) rfl (fun ls hl => ?_)
  refine lv_aload_n hx hb dL_law_1244 rfl (lv_at hl 3 rfl) ?_
  refine lw_arg 1 C hS (lv_at hl 1 rfl) (lv_at hl 5 rfl) (by omega) (by decide) dL_law_1245 dL_law_1246 dL_law_1248 dL_law_1249 dL_law_1250 ?_
  refine lw_arg 2 C hS (lv_at hl 1 rfl) (lv_at hl 5 rfl) (by omega) (by decide) dL_law_1251 dL_law_1252 dL_law_1254 dL_law_1255 dL_law_1256 ?_
  refine mb_cW hD hS hA (va_runV (As := [.int (xs (i + 1)), .int (xs (i + 2))]) (rest := []) ⟨hx, hb, hml, hown, hts⟩ (mb_fr (wr := wO Y q f1 ++ wB Y o a aa b1) (WF := fun u : mb_m => wL Y q f1 om am u o a aa b1) (fun u => u) wL_pM (fun u => wL_pM) (fun _ _ h => h) (cnX8_isHeld l D Y 700 om am M _ (xs (i + 1)) (xs (i + 2)) _ hF)) (cwV 2 hts gL_law_X8_isHeld rfl rfl rfl (by decide +kernel) ⟨(Nat.le_of_ble_eq_true rfl), (Nat.le_of_ble_eq_true rfl)⟩) (mb_preV hG hP hD 1 rfl rfl) rfl rfl hl.1 rfl (lv_room (Nat.le_of_ble_eq_true rfl)) dL_law_1257 ⟨by show _ ≤ 601024; omega, by show _ ≤ 7293034; omega⟩) (fun r2 M1 H locs hF hP hD hS => ?_)
  obtain ⟨hm27, hv, hR⟩ := hF
  refine lv_istore (lv' := [(6, .int r2), (5, .int (zI cd)), (0, .ref bs), (1, .ref o), (2, .ref om), (3, .ref q), (4, .int (zI i))]) hx hb dL_law_1260 hl (by decide) rfl (fun ls hl => ?_)
  refine lv_aload_n hx hb dL_law_1262 rfl (lv_at hl 4 rfl) ?_
  refine mb_cW hD hS hA (va_runV (As := []) (rest := []) ⟨hx, hb, hml, hown, hts⟩ (mb_fr (wr := wO Y q f1 ++ wB Y o a aa b1) (WF := fun u : mb_m => wL Y q f1 om am u o a aa b1) (fun u => u) wL_pM (fun u => wL_pM) (fun _ _ h => h) (cnX8_thrown l D Y 700 om am M1 _ (fun rr MM => rr = zI cd ∧ MM = M1) ⟨hm27, rfl⟩)) (cwV 0 hts gL_law_X8_thrown rfl rfl rfl (by decide +kernel) ⟨(Nat.le_of_ble_eq_true rfl), (Nat.le_of_ble_eq_true rfl)⟩) (mb_preV hG hP hD 1 rfl rfl) rfl rfl hl.1 rfl (lv_room (Nat.le_of_ble_eq_true rfl)) dL_law_1263 ⟨by show _ ≤ 601024; omega, by show _ ≤ 7293034; omega⟩) (fun rt M2 H locs hF hP hD hS => ?_)
  obtain ⟨rfl, hM⟩ := hF
  have hM := hM.symm
  subst hM
  refine lv_iload hx hb dL_law_1266 (lv_at hl 1 rfl) ?_
  refine lv_icmp_eq (tgt := 1273) hx hb dL_law_1268 (by decide) (fun _ => ?_) (fun cz => absurd rfl cz)
  refine lv_iload hx hb dL_law_1273 (lv_at hl 1 rfl) ?_
  refine lv_if_ne (tgt := 1297) hx hb dL_law_1275 (by decide) (fun cz => ?_) (fun cz => ?_)
  · refine lv_goto (tgt := 2310) hx hb dL_law_1297 (by decide) ?_
    refine W.widen (k := cells + 14) (n := slots + 369) (by omega) (by omega) ?_
    exact kk b1 M1 f1 _ _ _ hR hP hD hS (lv_sub hl [2, 3, 4, 5, 6] rfl)
  · have h0 : cd = 0 := (zI_eq (by omega) (by omega) (by omega) (by omega)).mp (show zI cd = zI 0 from cz)
    have hf1 : f1 ((0 : Int32)).toNatClampNeg = r.toInt64 := hout h0
    have hv := hv h0
    refine lv_aload_n hx hb dL_law_1278 rfl (lv_at hl 5 rfl) ?_
    refine lv_iconst (v := 0) hx hb dL_law_1279 (by decide) ?_
    refine va_lald hx hb hK hP 0 2 rfl rfl mb_in01 dL_law_1280 ?_
    refine lv_iload hx hb dL_law_1281 (lv_at hl 0 rfl) ?_
    refine lv_if_eq (tgt := 1290) hx hb dL_law_1283 (by decide) (fun cx => ?_) (fun cx => ?_)
    · refine lv_lconst (v := 0) hx hb dL_law_1290 rfl ?_
      refine W.lcmp hx hb dL_law_1291 ?_
      refine lv_if_eq (tgt := 1297) hx hb dL_law_1292 (by decide) (fun _ => ?_) (fun cy => absurd (mb_cmp (by rw [hf1, ← hv, cx]; rfl)) cy)
      refine lv_goto (tgt := 2310) hx hb dL_law_1297 (by decide) ?_
      refine W.widen (k := cells + 14) (n := slots + 369) (by omega) (by omega) ?_
      exact kk b1 M1 f1 _ _ _ hR hP hD hS (lv_sub hl [2, 3, 4, 5, 6] rfl)
    · refine lv_lconst (v := 1) hx hb dL_law_1286 rfl ?_
      refine lv_goto (tgt := 1291) hx hb dL_law_1287 (by decide) ?_
      refine W.lcmp hx hb dL_law_1291 ?_
      refine lv_if_eq (tgt := 1297) hx hb dL_law_1292 (by decide) (fun _ => ?_) (fun cy => absurd (mb_cmp (by rcases hBr with hz | hz; exact absurd (hv.trans hz) cx; rw [hf1, hz]; rfl)) cy)
      refine lv_goto (tgt := 2310) hx hb dL_law_1297 (by decide) ?_
      refine W.widen (k := cells + 14) (n := slots + 369) (by omega) (by omega) ?_
      exact kk b1 M1 f1 _ _ _ hR hP hD hS (lv_sub hl [2, 3, 4, 5, 6] rfl)
