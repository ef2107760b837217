/-! THE CLAIM OUT OF ONE WALK OF THE LAW'S BODY. Your part is whole_start (and what it stands on); all else here is the same for every law, but numbers. -/
def R_law : String := "MarbleBenchLaw"
def lw_P (b : Addr) (xs : List Int32) (args : Array Value) (s : State) : Prop := args = #[.ref b] ∧ s.IntsAt b xs ∧ xs.length ≤ 3584 ∧ (Jvm.Cond.and given_1 narrow_1).before args s = true
def lw_Q (_ : Array Value) (s : State) (o : Outcome) (t : State) : Prop := o = .returned (some (.int 1)) ∧ Framed s o t [] 601024 7293034
def lw_Z (below : List Frame) (a : Array Value) (s : State) : State → Prop := fun t => ∃ o, t.status = .running ∧ Ended t below o ∧ lw_Q a s o t
/-- the law's own end, with 1 on the stack, nothing written that was there before, its room as the claim has it -/
theorem lw_ret {p : Program} {l : Launch} {e : Env} {s : State} {m : MethodId} {below : List Frame} {meth : Method} {c : Code} {b : Nat} (hx : p.tables.exec = Jvm.exec) (hb : c.code = code) (hr : meth.sig.returnType = ret) (hlocks : meth.locks = false) {pc : Nat} {H : Heap} {ls : Array Slot} (hdg : decode code pc = .ok (.ireturn, 1)) : W p l e room_1 s m #[Value.ref b] below meth c H [] 601024 7293034 (lw_Z below #[Value.ref b] s) (F0 m pc ls [.int 1]) := by
  intro T hT X
  obtain ⟨fs, hret, hrun, hended, hW, hframe⟩ := X.leave (v := some (.int 1)) (hlocks := hlocks) (fun h => by rw [hr] at h; cases h)
  have hmeth' : T.vm.method? m = some meth := X.method'
  refine ⟨T.setFrames fs, ?_, .returned (some (.int 1)), hrun, hended, rfl, ⟨_, rfl⟩, hW, hframe⟩
  jvm_step X.here [X.here.top, hx, hb, hdg, hmeth', hr, ret, narrow_b1]
  (try refine ⟨rfl, ?_⟩); (try refine ⟨rfl, ?_⟩)
  first | (intro acts; rw [hret _ acts rfl rfl rfl]) | rw [hret _ _ rfl rfl rfl]
  exact Steps.refl _
/-- what holds at the law's entry: the machine, the code, the tables' words (any of lw_tbl by 'hts w (by decide +kernel)'), the script of L ints xs at the cell b, what the Statement gives of the start (any of its parts by flat_of_before) -/
def lw_At (p : Program) (s : State) (m : MethodId) (meth : Method) (c : Code) (b L : Nat) (xs : Nat → Int32) : Prop :=
  p.tables.exec = Jvm.exec ∧ c.code = code ∧ meth.sig.returnType = ret ∧ c.maxLocals = 7 ∧ s.vm.findClass R_law = some m.cls ∧ (∀ w ∈ lw_tbl, w.before #[Value.ref b] s = true) ∧ va_X b L xs s s.heap ∧ b < s.heap.size ∧ meth.locks = false ∧ (Jvm.Cond.and given_1 narrow_1).before #[Value.ref b] s = true
theorem nt_zI (n : Nat) : Int32.ofNat n = zI (n : Int) := by
  unfold zI
  exact (Int32.ofInt_eq_ofNat).symm
set_option maxHeartbeats 4000000 in
set_option maxRecDepth 100000 in
theorem law_loop {p : Program} {l : Launch} {e : Env} {s : State} {m : MethodId} {below : List Frame} {meth : Method} {c : Code} {D : va_G} {Y : Nat → ClassId} {L : Nat} {xs : Nat → Int32} {bs q om o : Nat} {am a aa : Nat → Nat} (C : mb_LC p l s m meth c #[Value.ref bs] L xs bs D Y (fun q : Nat => s.heap.size ≤ q)) :
    ∀ (n i cells slots : Nat) (b : mb_bs) (M : mb_m) (f : Nat → Int64) (H : Heap) (locs : List Loc) (ls : Array Slot), L ≤ i + 7 * n + 6 → i ≤ L → cells + 14 * n ≤ 601024 → slots + 369 * n ≤ 7293034 → Rm b M → va_P D vwCl (wL Y q f om am M o a aa b) H → va_D (fun q : Nat => s.heap.size ≤ q) (wL Y q f om am M o a aa b) → va_S (fun q : Nat => s.heap.size ≤ q) s.heap H locs → lv_has ls 7 [(0, .ref bs), (1, .ref o), (2, .ref om), (3, .ref q), (4, .int (zI i))] → W p l e room_1 s m #[Value.ref bs] below meth c H locs cells slots (lw_Z below #[Value.ref bs] s) (F0 m 23 ls []) := by
  obtain ⟨⟨hx, hb, hr, hml, hts, hown, hlocks, hA, hG⟩, hX, hl0, hN, hX2, hbl, hbA, hL⟩ := id C
  intro n
  induction n with
  | zero =>
    intro i cells slots b M f H locs ls h1 h2 h3 h4 hR hP hD hS hl
    refine lv_iload hx hb dL_law_23 (lv_at hl 4 rfl) ?_
    refine lv_aload_n hx hb dL_law_25 rfl (lv_at hl 0 rfl) ?_
    refine va_slen hx hb hX2 hbl hbA hS dL_law_26 ?_
    refine lv_bipush (v := zI 7) hx hb dL_law_27 rfl ?_
    refine lv_isub hx hb dL_law_29 ?_
    rw [nt_zI, zI_sub]
    refine lv_icmp_gt (tgt := 2316) hx hb dL_law_30 (by decide) (fun cz => ?_) (fun cz => absurd ((zI_lt (by omega) (by omega) (by omega) (by omega)).mpr (by omega)) cz)
    refine lv_iconst (v := 1) hx hb dL_law_2316 (by decide) ?_
    refine va_forget (fun q hq => hS.2.2 q hq) ?_
    refine W.widen (k := 601024) (n := 7293034) (by omega) (by omega) ?_
    exact lw_ret hx hb hr hlocks dL_law_2317
  | succ n ih =>
    intro i cells slots b M f H locs ls h1 h2 h3 h4 hR hP hD hS hl
    refine lv_iload hx hb dL_law_23 (lv_at hl 4 rfl) ?_
    refine lv_aload_n hx hb dL_law_25 rfl (lv_at hl 0 rfl) ?_
    refine va_slen hx hb hX2 hbl hbA hS dL_law_26 ?_
    refine lv_bipush (v := zI 7) hx hb dL_law_27 rfl ?_
    refine lv_isub hx hb dL_law_29 ?_
    rw [nt_zI, zI_sub]
    refine lv_icmp_gt (tgt := 2316) hx hb dL_law_30 (by decide) (fun cz => ?_) (fun cz => ?_)
    · refine lv_iconst (v := 1) hx hb dL_law_2316 (by decide) ?_
      refine va_forget (fun q hq => hS.2.2 q hq) ?_
      refine W.widen (k := 601024) (n := 7293034) (by omega) (by omega) ?_
      exact lw_ret hx hb hr hlocks dL_law_2317
    · have hi : i + 6 < L := by
        refine Nat.lt_of_not_le (fun h => cz ?_)
        exact (zI_lt (by omega) (by omega) (by omega) (by omega)).mpr (by omega)
      have kk : lw_K p l e s m #[Value.ref bs] below meth c (lw_Z below #[Value.ref bs] s) D Y (fun q : Nat => s.heap.size ≤ q) bs q om am o a aa i cells slots := by
        intro b M f H locs ls hR hP hD hS hl
        refine lv_iinc (v := zI ((i + 7 : Nat) : Int)) (lv' := [(4, .int (zI ((i + 7 : Nat) : Int))), (0, .ref bs), (1, .ref o), (2, .ref om), (3, .ref q)]) hx hb dL_law_2310 hl (k := 4) rfl ((zI_add (i : Int) 7).trans (by congr 1)) (by decide) rfl (fun ls hl => ?_)
        refine lv_goto (tgt := 23) hx hb dL_law_2313 (by decide) ?_
        exact ih (i + 7) (cells + 14) (slots + 369) b M f H locs ls (by omega) (by omega) (by omega) (by omega) hR hP hD hS (lv_sub hl [1, 2, 3, 4, 0] rfl)
      have hc : cells + 14 ≤ 601024 := by omega
      have hs : slots + 369 ≤ 7293034 := by omega
      refine lv_aload_n hx hb dL_law_33 rfl (lv_at hl 0 rfl) ?_
      refine lv_iload hx hb dL_law_34 (lv_at hl 4 rfl) ?_
      refine va_sld hx hb hX2 hbl hbA hS (by rw [zI_vp (by omega) (by omega) (by omega)]; trivial) dL_law_36 ?_
      refine lv_bipush (v := 31) hx hb dL_law_37 (by decide) ?_
      refine lv_iand hx hb dL_law_39 ?_
      generalize xs (zI (i : Int)).toNatClampNeg &&& 31 = x
      by_cases ho : x.toInt < 0 ∨ 28 < x.toInt
      · refine lv_tableOut (tgt := 2310) hx hb dL_law_40 ho (by decide) ?_
        refine W.widen (k := cells + 14) (n := slots + 369) (by omega) (by omega) ?_
        exact kk b M f H locs ls hR hP hD hS hl
      · have hv : x.toInt = 0 ∨ x.toInt = 1 ∨ x.toInt = 2 ∨ x.toInt = 3 ∨ x.toInt = 4 ∨ x.toInt = 5 ∨ x.toInt = 6 ∨ x.toInt = 7 ∨ x.toInt = 8 ∨ x.toInt = 9 ∨ x.toInt = 10 ∨ x.toInt = 11 ∨ x.toInt = 12 ∨ x.toInt = 13 ∨ x.toInt = 14 ∨ x.toInt = 15 ∨ x.toInt = 16 ∨ x.toInt = 17 ∨ x.toInt = 18 ∨ x.toInt = 19 ∨ x.toInt = 20 ∨ x.toInt = 21 ∨ x.toInt = 22 ∨ x.toInt = 23 ∨ x.toInt = 24 ∨ x.toInt = 25 ∨ x.toInt = 26 ∨ x.toInt = 27 ∨ x.toInt = 28 := by omega
        rcases hv with hv | hv | hv | hv | hv | hv | hv | hv | hv | hv | hv | hv | hv | hv | hv | hv | hv | hv | hv | hv | hv | hv | hv | hv | hv | hv | hv | hv | hv
        · exact lv_tableIn (off := 132) (tgt := 172) hx hb dL_law_40 (by omega) (by omega) (by rw [hv]; rfl) (by decide) (lc_drop C hi hc hs hR hP hD hS hl kk)
        · exact lv_tableIn (off := 224) (tgt := 264) hx hb dL_law_40 (by omega) (by omega) (by rw [hv]; rfl) (by decide) (lc_comb C hi hc hs hR hP hD hS hl kk)
        · exact lv_tableIn (off := 320) (tgt := 360) hx hb dL_law_40 (by omega) (by omega) (by rw [hv]; rfl) (by decide) (lc_lift C hi hc hs hR hP hD hS hl kk)
        · exact lv_tableIn (off := 364) (tgt := 404) hx hb dL_law_40 (by omega) (by omega) (by rw [hv]; rfl) (by decide) (lc_clean C hi hc hs hR hP hD hS hl kk)
        · exact lv_tableIn (off := 377) (tgt := 417) hx hb dL_law_40 (by omega) (by omega) (by rw [hv]; rfl) (by decide) (lc_cellAt C hi hc hs hR hP hD hS hl kk)
        · exact lv_tableIn (off := 457) (tgt := 497) hx hb dL_law_40 (by omega) (by omega) (by rw [hv]; rfl) (by decide) (lc_printAt C hi hc hs hR hP hD hS hl kk)
        · exact lv_tableIn (off := 537) (tgt := 577) hx hb dL_law_40 (by omega) (by omega) (by rw [hv]; rfl) (by decide) (lc_count C hi hc hs hR hP hD hS hl kk)
        · exact lv_tableIn (off := 605) (tgt := 645) hx hb dL_law_40 (by omega) (by omega) (by rw [hv]; rfl) (by decide) (lc_pageAt C hi hc hs hR hP hD hS hl kk)
        · exact lv_tableIn (off := 713) (tgt := 753) hx hb dL_law_40 (by omega) (by omega) (by rw [hv]; rfl) (by decide) (lc_placeOf C hi hc hs hR hP hD hS hl kk)
        · exact lv_tableIn (off := 781) (tgt := 821) hx hb dL_law_40 (by omega) (by omega) (by rw [hv]; rfl) (by decide) (lc_book C hi hc hs hR hP hD hS hl kk)
        · exact lv_tableIn (off := 901) (tgt := 941) hx hb dL_law_40 (by omega) (by omega) (by rw [hv]; rfl) (by decide) (lc_sew C hi hc hs hR hP hD hS hl kk)
        · exact lv_tableIn (off := 969) (tgt := 1009) hx hb dL_law_40 (by omega) (by omega) (by rw [hv]; rfl) (by decide) (lc_unsew C hi hc hs hR hP hD hS hl kk)
        · exact lv_tableIn (off := 1037) (tgt := 1077) hx hb dL_law_40 (by omega) (by omega) (by rw [hv]; rfl) (by decide) (lc_ofThread C hi hc hs hR hP hD hS hl kk)
        · exact lv_tableIn (off := 1105) (tgt := 1145) hx hb dL_law_40 (by omega) (by omega) (by rw [hv]; rfl) (by decide) (lc_stitches C hi hc hs hR hP hD hS hl kk)
        · exact lv_tableIn (off := 1185) (tgt := 1225) hx hb dL_law_40 (by omega) (by omega) (by rw [hv]; rfl) (by decide) (lc_isHeld C hi hc hs hR hP hD hS hl kk)
        · exact lv_tableIn (off := 1260) (tgt := 1300) hx hb dL_law_40 (by omega) (by omega) (by rw [hv]; rfl) (by decide) (lc_back C hi hc hs hR hP hD hS hl kk)
        · exact lv_tableIn (off := 1328) (tgt := 1368) hx hb dL_law_40 (by omega) (by omega) (by rw [hv]; rfl) (by decide) (lc_swelling C hi hc hs hR hP hD hS hl kk)
        · exact lv_tableIn (off := 1384) (tgt := 1424) hx hb dL_law_40 (by omega) (by omega) (by rw [hv]; rfl) (by decide) (lc_strain C hi hc hs hR hP hD hS hl kk)
        · exact lv_tableIn (off := 1452) (tgt := 1492) hx hb dL_law_40 (by omega) (by omega) (by rw [hv]; rfl) (by decide) (lc_worst C hi hc hs hR hP hD hS hl kk)
        · exact lv_tableIn (off := 1508) (tgt := 1548) hx hb dL_law_40 (by omega) (by omega) (by rw [hv]; rfl) (by decide) (lc_opens C hi hc hs hR hP hD hS hl kk)
        · exact lv_tableIn (off := 1576) (tgt := 1616) hx hb dL_law_40 (by omega) (by omega) (by rw [hv]; rfl) (by decide) (lc_skin C hi hc hs hR hP hD hS hl kk)
        · exact lv_tableIn (off := 1632) (tgt := 1672) hx hb dL_law_40 (by omega) (by omega) (by rw [hv]; rfl) (by decide) (lc_pare C hi hc hs hR hP hD hS hl kk)
        · exact lv_tableIn (off := 1750) (tgt := 1790) hx hb dL_law_40 (by omega) (by omega) (by rw [hv]; rfl) (by decide) (lc_thickAt C hi hc hs hR hP hD hS hl kk)
        · exact lv_tableIn (off := 1830) (tgt := 1870) hx hb dL_law_40 (by omega) (by omega) (by rw [hv]; rfl) (by decide) (lc_tooThick C hi hc hs hR hP hD hS hl kk)
        · exact lv_tableIn (off := 1886) (tgt := 1926) hx hb dL_law_40 (by omega) (by omega) (by rw [hv]; rfl) (by decide) (lc_repair C hi hc hs hR hP hD hS hl kk)
        · exact lv_tableIn (off := 1954) (tgt := 1994) hx hb dL_law_40 (by omega) (by omega) (by rw [hv]; rfl) (by decide) (lc_undo C hi hc hs hR hP hD hS hl kk)
        · exact lv_tableIn (off := 2010) (tgt := 2050) hx hb dL_law_40 (by omega) (by omega) (by rw [hv]; rfl) (by decide) (lc_speak C hi hc hs hR hP hD hS hl kk)
        · exact lv_tableIn (off := 2102) (tgt := 2142) hx hb dL_law_40 (by omega) (by omega) (by rw [hv]; rfl) (by decide) (lc_year C hi hc hs hR hP hD hS hl kk)
        · exact lv_tableIn (off := 2186) (tgt := 2226) hx hb dL_law_40 (by omega) (by omega) (by rw [hv]; rfl) (by decide) (lc_yearAnew C hi hc hs hR hP hD hS hl kk)
/-- the model's start -/
theorem s_init8 : PX8_init 700 (fun M => M = mb_z) := by
  unfold PX8_init
  rfl
set_option maxHeartbeats 4000000 in
set_option maxRecDepth 100000 in
/-- THE LAW, from its entry -/
theorem whole_start {p : Program} {e : Env} {s : State} {m : MethodId} {below : List Frame} {meth : Method} {c : Code} (l : Launch) (hflags : l.flags = flags0) {b L : Nat} {xs : Nat → Int32} (hL : L ≤ 3584) (C0 : lw_At p s m meth c b L xs) : W p l e room_1 s m #[Value.ref b] below meth c s.heap [] 0 0 (lw_Z below #[Value.ref b] s) (entryFrame m ([Value.ref b] : List Value).toArray 7) := by
  obtain ⟨hx, hb, hr, hml, hown, hts0, hX2, hbl, hlocks, hgv⟩ := id C0
  have hA : ∀ q : Nat, s.heap.size ≤ q → (fun q : Nat => s.heap.size ≤ q) q := fun _ h => h
  have hbA : ¬ (fun q : Nat => s.heap.size ≤ q) b := Nat.not_le.mpr hbl
  obtain ⟨D, Y, hK⟩ := st_K hts0
  have hG : mb_G D Y s := ⟨hK, st_E hts0 hgv⟩
  have hts : ∀ w ∈ wsL_law, w.before #[Value.ref b] s = true := fun w h => hts0 w (wsL_law_in w h)
  have C : mb_LC p l s m meth c #[Value.ref b] L xs b D Y (fun q : Nat => s.heap.size ≤ q) := ⟨⟨hx, hb, hr, hml, hts, hown, hlocks, hA, hG⟩, st_X hts0 hgv (fun a h => Nat.not_le.mpr h), st_traces hflags, st_NC hgv, hX2, hbl, hbA, hL⟩
  have hS : va_S (fun q : Nat => s.heap.size ≤ q) s.heap s.heap [] := va_S.rf
  have hP : va_P D vwCl [] s.heap := mb_P0
  have hD : va_D (fun q : Nat => s.heap.size ≤ q) [] := mb_D0
  have hl := lv_entry ([.ref b]) (n := 7) (Nat.le_of_ble_eq_true rfl)
  rw [lg_entry_eq]
  generalize (lg_sl ([.ref b]) ++ List.replicate (7 - (lg_sl ([.ref b])).length) Slot.unset).toArray = ls at hl ⊢
  have hl : lv_has ls 7 [(0, .ref b)] := hl
  refine va_new (ci := 7) (fs := [.null, .null, .null, .null, .int 0, .int 0, .int 0]) (C := RX7) (T := TX7) (N := 7) hx hb hts inlX7 tyX7 tyX7_ok hown (hts0 (.classLink RL 8 RX7) (by decide +kernel)) (hts0 (.instantiable RX7 7) (by decide +kernel)) (hts0 (.initialized RX7) (by decide +kernel)) hK hP hD hS hA rfl (fun j hj => by rcases (show j = 0 ∨ j = 1 ∨ j = 2 ∨ j = 3 ∨ j = 4 ∨ j = 5 ∨ j = 6 by omega) with rfl | rfl | rfl | rfl | rfl | rfl | rfl <;> rfl) (Nat.le_of_ble_eq_true rfl) (Nat.le_of_ble_eq_true rfl) dL_law_0 (fun o H hP hD hS => ?_)
  have hP : va_P D vwCl [(o, .inr (7, [.null, .null, .null, .null, .int 0, .int 0, .int 0]))] H := hP
  have hD : va_D (fun q : Nat => s.heap.size ≤ q) [(o, .inr (7, [.null, .null, .null, .null, .int 0, .int 0, .int 0]))] := hD
  refine lv_dup hx hb dL_law_3 rfl ?_
  refine mb_cWv hD hS hA (va_runI (As := []) (rest := [.ref o]) ⟨hx, hb, hml, hown, hts⟩ (cnX7_init l D Y 700 o _ _ (s_init (by decide))) (cwI 0 hts gL_law_X7_init rfl rfl rfl (hts0 (.initialized RX7) (by decide +kernel)) (hts0 (.methodLink RL 110 yX7_init) (by decide +kernel)) (hts0 (.instanceMethod yX7_init) (by decide +kernel)) rfl (by decide +kernel) ⟨(Nat.le_of_ble_eq_true rfl), (Nat.le_of_ble_eq_true rfl)⟩) (mb_preS hG hP hD) rfl rfl hl.1 rfl (lv_room (Nat.le_of_ble_eq_true rfl)) dL_law_4 ⟨(Nat.le_of_ble_eq_true rfl), (Nat.le_of_ble_eq_true rfl)⟩) (fun u H locs hF hP hD hS => ?_)
  obtain ⟨a, aa, MA⟩ := u
  have hR : Rm (mb_z, MA, fun _ => none, fun _ => none, fun _ => none, [], [], []) mb_z := hF
  have eB : gw7 Y o a mb_z ++ gw0 Y (a 0) aa MA ++ grP Y (a 1) (fun _ => none) ++ grB Y (a 2) (fun _ => none) ++ grS Y (a 3) (fun _ => none) = wB Y o a aa (mb_z, MA, fun _ => none, fun _ => none, fun _ => none, [], [], []) := by
    unfold wB
    simp only [List.flatMap_nil, List.append_nil]
  have hP : va_P D vwCl (gw7 Y o a mb_z ++ gw0 Y (a 0) aa MA ++ grP Y (a 1) (fun _ => none) ++ grB Y (a 2) (fun _ => none) ++ grS Y (a 3) (fun _ => none)) H := hP
  have hD : va_D (fun q : Nat => s.heap.size ≤ q) (gw7 Y o a mb_z ++ gw0 Y (a 0) aa MA ++ grP Y (a 1) (fun _ => none) ++ grB Y (a 2) (fun _ => none) ++ grS Y (a 3) (fun _ => none)) := hD
  rw [eB] at hP hD
  clear eB hF
  generalize ((mb_z, MA, fun _ => none, fun _ => none, fun _ => none, [], [], []) : mb_bs) = b0 at hR hP hD
  refine lv_astore_n (lv' := [(1, .ref o), (0, .ref b)]) hx hb dL_law_7 rfl hl (by decide) rfl (fun ls hl => ?_)
  refine va_new (ci := 8) (fs := [.null, .null, .int 0, .null, .int 0, .null, .null, .null, .null, .null, .null, .null, .null, .null, .null, .int 0, .int 0, .int 0, .int 0, .int 0, .null, .null, .null, .null, .null, .null, .null, .int 0]) (C := RX8) (T := TX8) (N := 28) hx hb hts inlX8 tyX8 tyX8_ok hown (hts0 (.classLink RL 111 RX8) (by decide +kernel)) (hts0 (.instantiable RX8 28) (by decide +kernel)) (hts0 (.initialized RX8) (by decide +kernel)) hK hP hD hS hA rfl (fun j hj => by rcases (show j = 0 ∨ j = 1 ∨ j = 2 ∨ j = 3 ∨ j = 4 ∨ j = 5 ∨ j = 6 ∨ j = 7 ∨ j = 8 ∨ j = 9 ∨ j = 10 ∨ j = 11 ∨ j = 12 ∨ j = 13 ∨ j = 14 ∨ j = 15 ∨ j = 16 ∨ j = 17 ∨ j = 18 ∨ j = 19 ∨ j = 20 ∨ j = 21 ∨ j = 22 ∨ j = 23 ∨ j = 24 ∨ j = 25 ∨ j = 26 ∨ j = 27 by omega) with rfl | rfl | rfl | rfl | rfl | rfl | rfl | rfl | rfl | rfl | rfl | rfl | rfl | rfl | rfl | rfl | rfl | rfl | rfl | rfl | rfl | rfl | rfl | rfl | rfl | rfl | rfl | rfl <;> rfl) (Nat.le_of_ble_eq_true rfl) (Nat.le_of_ble_eq_true rfl) dL_law_8 (fun om H hP hD hS => ?_)
  refine lv_dup hx hb dL_law_11 rfl ?_
  refine mb_cWv hD hS hA (va_runI (As := []) (rest := [.ref om]) ⟨hx, hb, hml, hown, hts⟩ (mb_frv (wr := wB Y o a aa b0) (WF := fun u : (Nat → Nat) × mb_m => gw8 Y om u.1 u.2 ++ wB Y o a aa b0) (K' := fun u : (Nat → Nat) × mb_m => u.2 = mb_z) (fun u => u) List.perm_append_comm (fun u => List.Perm.refl _) (fun _ h => h) (cnX8_init l D Y 700 om _ _ s_init8)) (cwI 0 hts gL_law_X8_init rfl rfl rfl (hts0 (.initialized RX8) (by decide +kernel)) (hts0 (.methodLink RL 113 yX8_init) (by decide +kernel)) (hts0 (.instanceMethod yX8_init) (by decide +kernel)) rfl (by decide +kernel) ⟨(Nat.le_of_ble_eq_true rfl), (Nat.le_of_ble_eq_true rfl)⟩) (mb_preS hG hP hD) rfl rfl hl.1 rfl (lv_room (Nat.le_of_ble_eq_true rfl)) dL_law_12 ⟨(Nat.le_of_ble_eq_true rfl), (Nat.le_of_ble_eq_true rfl)⟩) (fun u H locs hF hP hD hS => ?_)
  obtain ⟨am, M0⟩ := u
  have hM : M0 = mb_z := hF
  subst hM
  refine lv_astore_n (lv' := [(2, .ref om), (1, .ref o), (0, .ref b)]) hx hb dL_law_15 rfl hl (by decide) rfl (fun ls hl => ?_)
  refine lv_iconst (v := 1) hx hb dL_law_16 (by decide) ?_
  refine mb_newL hx hb (hts0 (.arrayClass .long) (by decide +kernel)) hK hP hD hS hA (by decide) rfl (Nat.le_of_ble_eq_true rfl) (Nat.le_of_ble_eq_true rfl) (Nat.le_of_ble_eq_true rfl) dL_law_17 (fun q H hP hD hS => ?_)
  have hp : ((gw8 Y om am mb_z ++ wB Y o a aa b0) ++ [(q, .inl (Y 2, (1 : Int32).toNatClampNeg, .inr (.inl (fun _ => (0 : Int64)))))] : va_W).Perm (wL Y q (fun _ => 0) om am mb_z o a aa b0) := by
    refine List.perm_append_comm.trans ?_
    unfold wL
    rw [List.append_assoc]
    exact List.Perm.refl _
  have hP := mb_Pperm hp hP
  have hD := mb_Dperm hp hD
  refine lv_astore_n (lv' := [(3, .ref q), (2, .ref om), (1, .ref o), (0, .ref b)]) hx hb dL_law_19 rfl hl (by decide) rfl (fun ls hl => ?_)
  refine lv_iconst (v := 0) hx hb dL_law_20 (by decide) ?_
  refine lv_istore (lv' := [(4, .int 0), (3, .ref q), (2, .ref om), (1, .ref o), (0, .ref b)]) hx hb dL_law_21 hl (by decide) rfl (fun ls hl => ?_)
  refine W.widen (k := 32) (n := 2465) (Nat.le_of_ble_eq_true rfl) (Nat.le_of_ble_eq_true rfl) ?_
  exact law_loop C (L / 7) 0 32 2465 b0 mb_z (fun _ => 0) H _ ls (by omega) (by omega) (by omega) (by omega) hR hP hD hS (lv_sub hl [4, 3, 2, 1, 0] rfl)
