/-! WHAT HOLDS AT THE LAW'S ENTRY -/
theorem st_arr {s : State} {args : Array Value} {ty : FieldType} (h : (Cond.arrayClass ty).before args s = true) : ∃ cA : ClassId, ArrOfT s cA ty ∧ s.vm.findClass ("[" ++ ty.toString) = some cA := by
  obtain ⟨c, k, comp, h1, h2, h3⟩ := Cond.arrayClass_spec h
  exact ⟨c, fun n z => ⟨(fun k h => by cases h), k, h2, comp, h3⟩, h1⟩
theorem st_arq {s : State} {args : Array Value} {C : String} (h : (Cond.arrayOver (.object C)).before args s = true) : ∃ cA : ClassId, ArrOfT s cA (.object C) ∧ va_RA s cA (.object C) := by
  obtain ⟨comp, c, k, h1, h2, h3, h4, h5⟩ := Cond.arrayOver_spec h
  exact ⟨c, fun n z => ⟨(fun k h => by cases h), k, h3, comp, h4⟩, k, comp, h3, h4, h1, h5⟩
set_option maxHeartbeats 4000000 in
set_option maxRecDepth 100000 in
theorem st_K {s : State} {args : Array Value} (hts : ∀ w ∈ lw_tbl, w.before args s = true) : ∃ (D : va_G) (Y : Nat → ClassId), va_K D vwCl (mb_ty Y) s := by
  obtain ⟨c0, i0, k0⟩ := u_known (C := RX0) (T := TX0) (N := 5) (n := 5) hts inX0 (hts (.instantiable RX0 5) (by decide +kernel))
  obtain ⟨c1, i1, k1⟩ := u_known (C := RX1) (T := TX1) (N := 7) (n := 7) hts inX1 (hts (.instantiable RX1 7) (by decide +kernel))
  obtain ⟨c2, i2, k2⟩ := u_known (C := RX2) (T := TX2) (N := 1) (n := 1) hts inX2 (hts (.instantiable RX2 1) (by decide +kernel))
  obtain ⟨c3, i3, k3⟩ := u_known (C := RX3) (T := TX3) (N := 2) (n := 2) hts inX3 (hts (.instantiable RX3 2) (by decide +kernel))
  obtain ⟨c4, i4, k4⟩ := u_known (C := RX4) (T := TX4) (N := 10) (n := 10) hts inX4 (hts (.instantiable RX4 10) (by decide +kernel))
  obtain ⟨c5, i5, k5⟩ := u_known (C := RX5) (T := TX5) (N := 1) (n := 1) hts inX5 (hts (.instantiable RX5 1) (by decide +kernel))
  obtain ⟨c6, i6, k6⟩ := u_known (C := RX6) (T := TX6) (N := 4) (n := 4) hts inX6 (hts (.instantiable RX6 4) (by decide +kernel))
  obtain ⟨c7, i7, k7⟩ := u_known (C := RX7) (T := TX7) (N := 7) (n := 7) hts inX7 (hts (.instantiable RX7 7) (by decide +kernel))
  obtain ⟨y0, a0, r0⟩ := st_arr (hts (.arrayClass .int) (by decide +kernel))
  obtain ⟨y1, a1, r1⟩ := st_arr (hts (.arrayClass .int) (by decide +kernel))
  obtain ⟨y2, a2, r2⟩ := st_arr (hts (.arrayClass .int) (by decide +kernel))
  obtain ⟨y3, a3, r3⟩ := st_arq (hts (.arrayOver (.object "MarbleBench$Print")) (by decide +kernel))
  obtain ⟨y4, a4, r4⟩ := st_arq (hts (.arrayOver (.object "MarbleBench$Book")) (by decide +kernel))
  obtain ⟨y5, a5, r5⟩ := st_arq (hts (.arrayOver (.object "MarbleBench$Skin")) (by decide +kernel))
  refine ⟨((fun k => match k with | 0 => c0 | 1 => c1 | 2 => c2 | 3 => c3 | 4 => c4 | 5 => c5 | 6 => c6 | _ => c7), (fun k => match k with | 0 => i0 | 1 => i1 | 2 => i2 | 3 => i3 | 4 => i4 | 5 => i5 | 6 => i6 | _ => i7)), (fun k => match k with | 0 => y0 | 1 => y1 | 2 => y2 | 3 => y3 | 4 => y4 | _ => y5), fun k q hq => ?_, fun k q hq => ?_⟩
  · match k, hq with
    | 0, hq => cases hq; exact k0
    | 1, hq => cases hq; exact k1
    | 2, hq => cases hq; exact k2
    | 3, hq => cases hq; exact k3
    | 4, hq => cases hq; exact k4
    | 5, hq => cases hq; exact k5
    | 6, hq => cases hq; exact k6
    | 7, hq => cases hq; exact k7
    | k + 8, hq => simp [vwCl] at hq
  · match k, hq with
    | 0, hq => cases hq; exact ⟨a0, r0⟩
    | 1, hq => cases hq; exact ⟨a1, r1⟩
    | 2, hq => cases hq; exact ⟨a2, r2⟩
    | 3, hq => cases hq; exact ⟨a3, r3⟩
    | 4, hq => cases hq; exact ⟨a4, r4⟩
    | 5, hq => cases hq; exact ⟨a5, r5⟩
    | k + 6, hq => simp [mb_ty] at hq
theorem st_nw : ∀ w ∈ mb_nw, w ∈ lw_tbl := by decide +kernel
theorem st_str {s : State} {args : Array Value} {k : Nat} {tx : String} (h1 : (Cond.stringRef RX7 k tx).before args s = true) (h2 : (Cond.exactly (Term.string "MarbleBench" k) "java/lang/String").before args s = true) : ∃ a, vk_R RX7 k tx a s := by
  obtain ⟨a, c, cell, kk, g1, -⟩ := Cond.exactly_spec h2
  exact ⟨a, vk_R.of h1 g1⟩
set_option maxHeartbeats 4000000 in
set_option maxRecDepth 100000 in
theorem st_E {s : State} {args : Array Value} (hts : ∀ w ∈ lw_tbl, w.before args s = true) (hgv : (Jvm.Cond.and given_1 narrow_1).before args s = true) : mb_E s := by
  have hs := flat_of_before _ hgv
  refine ⟨fun w hw => va_Nw.of (mb_nw2 (List.all_eq_true.mp mb_nw_ok w hw)) (hts w (st_nw w hw)), fun q hq => ?_, fun C hC => ?_⟩
  · simp only [mb_tx, List.mem_cons, List.not_mem_nil, or_false] at hq
    rcases hq with rfl | rfl | rfl | rfl | rfl | rfl
    · exact st_str (hts (.stringRef RX7 259 "there is no such place") (by decide +kernel)) (hs (Cond.exactly (Term.string "MarbleBench" 259) "java/lang/String") (by decide +kernel))
    · exact st_str (hts (.stringRef RX7 266 "an argument is out of its range") (by decide +kernel)) (hs (Cond.exactly (Term.string "MarbleBench" 266) "java/lang/String") (by decide +kernel))
    · exact st_str (hts (.stringRef RX7 271 "this cannot be done now") (by decide +kernel)) (hs (Cond.exactly (Term.string "MarbleBench" 271) "java/lang/String") (by decide +kernel))
    · exact st_str (hts (.stringRef RX7 274 "there is no such print") (by decide +kernel)) (hs (Cond.exactly (Term.string "MarbleBench" 274) "java/lang/String") (by decide +kernel))
    · exact st_str (hts (.stringRef RX7 276 "there is no such book") (by decide +kernel)) (hs (Cond.exactly (Term.string "MarbleBench" 276) "java/lang/String") (by decide +kernel))
    · exact st_str (hts (.stringRef RX7 278 "there is no such skin") (by decide +kernel)) (hs (Cond.exactly (Term.string "MarbleBench" 278) "java/lang/String") (by decide +kernel))
  · simp only [List.mem_cons, List.not_mem_nil, or_false] at hC
    rcases hC with rfl | rfl | rfl
    · exact va_AO.of (hts (.arrayOver (.object "MarbleBench$Print")) (by decide +kernel))
    · exact va_AO.of (hts (.arrayOver (.object "MarbleBench$Book")) (by decide +kernel))
    · exact va_AO.of (hts (.arrayOver (.object "MarbleBench$Skin")) (by decide +kernel))
set_option maxHeartbeats 4000000 in
set_option maxRecDepth 100000 in
theorem st_X {s : State} {args : Array Value} (hts : ∀ w ∈ lw_tbl, w.before args s = true) (hgv : (Jvm.Cond.and given_1 narrow_1).before args s = true) {A : Nat → Prop} (hA : ∀ a : Nat, a < s.heap.size → ¬ A a) : mb_X A s s.heap := by
  have hs := flat_of_before _ hgv
  exact ⟨vx_Zqof (hts (.laysStatic "java/lang/Throwable" "UNASSIGNED_STACK" "[Ljava/lang/StackTraceElement;") (by decide +kernel)) (hts (.initialized "java/lang/Throwable") (by decide +kernel)) (hs (Cond.isRef (Term.static "java/lang/Throwable" "UNASSIGNED_STACK" "[Ljava/lang/StackTraceElement;")) (by decide +kernel)) hA, vx_Zqof (hts (.laysStatic "java/lang/Throwable" "SUPPRESSED_SENTINEL" "Ljava/util/List;") (by decide +kernel)) (hts (.initialized "java/lang/Throwable") (by decide +kernel)) (hs (Cond.isRef (Term.static "java/lang/Throwable" "SUPPRESSED_SENTINEL" "Ljava/util/List;")) (by decide +kernel)) hA⟩
set_option maxHeartbeats 4000000 in
set_option maxRecDepth 100000 in
theorem st_NC {s : State} {args : Array Value} (hgv : (Jvm.Cond.and given_1 narrow_1).before args s = true) : mb_NC s := by
  have hs := flat_of_before _ hgv
  exact ⟨va_Nc.of (hs (Cond.not (.castable "java/lang/IllegalArgumentException" "java/lang/IndexOutOfBoundsException")) (by decide +kernel)), va_Nc.of (hs (Cond.not (.castable "java/lang/IllegalStateException" "java/lang/IndexOutOfBoundsException")) (by decide +kernel)), va_Nc.of (hs (Cond.not (.castable "java/lang/IllegalStateException" "java/lang/IllegalArgumentException")) (by decide +kernel))⟩
theorem st_traces {l : Launch} (h : l.flags = flags0) : l.stackTraces = false := by
  unfold Launch.stackTraces
  rw [h]
  decide +kernel
