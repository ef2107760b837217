theorem l_start {MA : mb_m} (hV : Vw (mb_z, MA, fun _ => none, fun _ => none, fun _ => none, [], [], []) (fun _ => 0) (fun _ => 0) 0 (fun _ _ => 0) 0 (fun _ => (fun _ => 0, fun _ => 0, fun _ => 0, fun _ => 0, fun _ => 0, fun _ => 0)) 0 (fun _ _ => 0)) : PL_law 700 mb_z (mb_z, MA, fun _ => none, fun _ => none, fun _ => none, [], [], []) (fun r _ => r = 1) :=
  l_law (by decide) ⟨hV, zS_0, ⟨⟨rfl, rfl, rfl⟩, fun i hi => absurd hi (Nat.not_lt_zero i), fun i hi => absurd hi (Nat.not_lt_zero i), fun i _ _ => ⟨rfl, rfl⟩, fun i hi => absurd hi (Nat.not_lt_zero i)⟩, fun i hi => absurd hi (Nat.not_lt_zero i)⟩ (fun _ _ => rfl)
def wAd (q0 q1 q2 q3 q4 : Nat) : Nat → Nat := fun k => match k with | 0 => q0 | 1 => q1 | 2 => q2 | 3 => q3 | _ => q4
theorem wW_new {Y : Nat → ClassId} {w : va_W} {q0 q1 q2 q3 q4 : Nat} : (w ++ [(q0, .inl (Y 0, 3, .inl (fun _ => 0)))] ++ [(q1, .inl (Y 0, 24, .inl (fun _ => 0)))] ++ [(q2, .inl (Y 0, 4, .inl (fun _ => 0)))] ++ [(q3, .inl (Y 0, 3, .inl (fun _ => 0)))] ++ [(q4, .inl (Y 0, 4, .inl (fun _ => 0)))] : va_W).Perm (wR Y (wAd q0 q1 q2 q3 q4) mb_z ++ w) := by
  have e : (w ++ [(q0, .inl (Y 0, 3, .inl (fun _ => 0)))] ++ [(q1, .inl (Y 0, 24, .inl (fun _ => 0)))] ++ [(q2, .inl (Y 0, 4, .inl (fun _ => 0)))] ++ [(q3, .inl (Y 0, 3, .inl (fun _ => 0)))] ++ [(q4, .inl (Y 0, 4, .inl (fun _ => 0)))] : va_W) = w ++ wR Y (wAd q0 q1 q2 q3 q4) mb_z := by
    simp only [List.append_assoc]
    rfl
  rw [e]
  exact List.perm_append_comm
set_option maxHeartbeats 8000000 in
set_option maxRecDepth 100000 in
theorem whole_start {p : Program} {e : Env} {s : State} {m : MethodId} {below : List Frame} {meth : Method} {c : Code} (l : Launch) (hflags : l.flags = flags0) {b L : Nat} {xs : Nat → Int32} (hL : L ≤ 260) (C0 : lw_At p s m meth c b L xs) : W p l e room_1 s m #[Value.ref b] below meth c s.heap [] 0 0 (lw_Z below #[Value.ref b] s) (entryFrame m ([Value.ref b] : List Value).toArray 9) := by
  obtain ⟨hx, hb, hr, hml, hown, hts0, hX2, hbl, hlocks, hgv⟩ := id C0
  have hA : ∀ q : Nat, s.heap.size ≤ q → (fun q : Nat => s.heap.size ≤ q) q := fun _ h => h
  have hbA : ¬ (fun q : Nat => s.heap.size ≤ q) b := Nat.not_le.mpr hbl
  obtain ⟨D, Y, hK⟩ := st_K hts0
  have hG : mb_G D Y s := ⟨hK, st_E hts0 hgv⟩
  have hts : ∀ w ∈ wsL_law, w.before #[Value.ref b] s = true := fun w h => hts0 w (wsL_law_in w h)
  have CM : mb_CM l p s m meth c #[Value.ref b] cL_law 9 (some .boolean) wsL_law RL D Y (fun q : Nat => s.heap.size ≤ q) := ⟨⟨hx, hb, hr, hml, hts, hown, hlocks, hA, hG⟩, st_X hts0 hgv (fun a h => Nat.not_le.mpr h), st_traces hflags, st_NC hgv⟩
  have hS : va_S (fun q : Nat => s.heap.size ≤ q) s.heap s.heap [] := va_S.rf
  have hP : va_P D vwCl [] s.heap := mb_P0
  have hD : va_D (fun q : Nat => s.heap.size ≤ q) [] := mb_D0
  have hl := lv_entry ([.ref b]) (n := 9) (Nat.le_of_ble_eq_true rfl)
  rw [lg_entry_eq]
  generalize (lg_sl ([.ref b]) ++ List.replicate (9 - (lg_sl ([.ref b])).length) Slot.unset).toArray = ls at hl ⊢
  have hl : lv_has ls 9 [(0, .ref b)] := hl
  refine va_new (ci := 7) (fs := [.null, .null, .null, .null, .int 0, .int 0, .int 0]) (C := RX7) (T := TX7) (N := 7) hx hb hts inlX7 tyX7 tyX7_ok hown (hts0 (.classLink RL 11 RX7) (by decide +kernel)) (hts0 (.instantiable RX7 7) (by decide +kernel)) (hts0 (.initialized RX7) (by decide +kernel)) hK hP hD hS hA rfl (fun j hj => by rcases (show j = 0 ∨ j = 1 ∨ j = 2 ∨ j = 3 ∨ j = 4 ∨ j = 5 ∨ j = 6 by omega) with rfl | rfl | rfl | rfl | rfl | rfl | rfl <;> rfl) (Nat.le_of_ble_eq_true rfl) (Nat.le_of_ble_eq_true rfl) dL_law_0 (fun o H hP hD hS => ?_)
  have hP : va_P D vwCl [(o, .inr (7, [.null, .null, .null, .null, .int 0, .int 0, .int 0]))] H := hP
  have hD : va_D (fun q : Nat => s.heap.size ≤ q) [(o, .inr (7, [.null, .null, .null, .null, .int 0, .int 0, .int 0]))] := hD
  refine lv_dup hx hb dL_law_3 rfl ?_
  refine mb_cWv hD hS hA (va_runI (As := []) (rest := [.ref o]) ⟨hx, hb, hml, hown, hts⟩ (cnX7_init l D Y 700 o _ _ (t_init (by decide))) (cwI 0 hts gL_law_X7_init rfl rfl rfl (hts0 (.initialized RX7) (by decide +kernel)) (hts0 (.methodLink RL 225 yX7_init) (by decide +kernel)) (hts0 (.instanceMethod yX7_init) (by decide +kernel)) rfl (by decide +kernel) ⟨(Nat.le_of_ble_eq_true rfl), (Nat.le_of_ble_eq_true rfl)⟩) (mb_preS hG hP hD) rfl rfl hl.1 rfl (lv_room (Nat.le_of_ble_eq_true rfl)) dL_law_4 ⟨(Nat.le_of_ble_eq_true rfl), (Nat.le_of_ble_eq_true rfl)⟩) (fun u H locs hF hP hD hS => ?_)
  obtain ⟨a, aa, MA⟩ := u
  have hV := l_start (MA := MA) hF
  have eB : gw7 Y o a mb_z ++ gw0 Y (a 0) aa MA ++ grP Y (a 1) (fun _ => none) ++ grB Y (a 2) (fun _ => none) ++ grS Y (a 3) (fun _ => none) = wB Y o a aa (mb_z, MA, fun _ => none, fun _ => none, fun _ => none, [], [], []) := by
    unfold wB
    simp only [List.flatMap_nil, List.append_nil]
  have hP : va_P D vwCl (gw7 Y o a mb_z ++ gw0 Y (a 0) aa MA ++ grP Y (a 1) (fun _ => none) ++ grB Y (a 2) (fun _ => none) ++ grS Y (a 3) (fun _ => none)) H := hP
  have hD : va_D (fun q : Nat => s.heap.size ≤ q) (gw7 Y o a mb_z ++ gw0 Y (a 0) aa MA ++ grP Y (a 1) (fun _ => none) ++ grB Y (a 2) (fun _ => none) ++ grS Y (a 3) (fun _ => none)) := hD
  rw [eB] at hP hD
  clear eB hF
  generalize ((mb_z, MA, fun _ => none, fun _ => none, fun _ => none, [], [], []) : mb_bs) = b0 at hV hP hD
  refine lv_astore_n (lv' := [(1, .ref o), (0, .ref b)]) hx hb dL_law_7 rfl hl (by decide) rfl (fun ls hl => ?_)
  refine lv_iconst (v := 3) hx hb dL_law_8 (by decide) ?_
  refine mb_newI (N' := 3) hx hb (hts0 (.arrayClass .int) (by decide +kernel)) hK hP hD hS hA (by decide) rfl (Nat.le_of_ble_eq_true rfl) (Nat.le_of_ble_eq_true rfl) (Nat.le_of_ble_eq_true rfl) dL_law_9 (fun q0 H hP hD hS => ?_)
  refine lv_astore_n (lv' := [(2, .ref q0), (1, .ref o), (0, .ref b)]) hx hb dL_law_11 rfl hl (by decide) rfl (fun ls hl => ?_)
  refine lv_bipush (v := 24) hx hb dL_law_12 (by decide) ?_
  refine mb_newI (N' := 24) hx hb (hts0 (.arrayClass .int) (by decide +kernel)) hK hP hD hS hA (by decide) rfl (Nat.le_of_ble_eq_true rfl) (Nat.le_of_ble_eq_true rfl) (Nat.le_of_ble_eq_true rfl) dL_law_14 (fun q1 H hP hD hS => ?_)
  refine lv_astore_n (lv' := [(3, .ref q1), (2, .ref q0), (1, .ref o), (0, .ref b)]) hx hb dL_law_16 rfl hl (by decide) rfl (fun ls hl => ?_)
  refine lv_iconst (v := 4) hx hb dL_law_17 (by decide) ?_
  refine mb_newI (N' := 4) hx hb (hts0 (.arrayClass .int) (by decide +kernel)) hK hP hD hS hA (by decide) rfl (Nat.le_of_ble_eq_true rfl) (Nat.le_of_ble_eq_true rfl) (Nat.le_of_ble_eq_true rfl) dL_law_18 (fun q2 H hP hD hS => ?_)
  refine lv_astore (lv' := [(4, .ref q2), (3, .ref q1), (2, .ref q0), (1, .ref o), (0, .ref b)]) hx hb dL_law_20 hl (by decide) rfl (fun ls hl => ?_)
  refine lv_iconst (v := 3) hx hb dL_law_22 (by decide) ?_
  refine mb_newI (N' := 3) hx hb (hts0 (.arrayClass .int) (by decide +kernel)) hK hP hD hS hA (by decide) rfl (Nat.le_of_ble_eq_true rfl) (Nat.le_of_ble_eq_true rfl) (Nat.le_of_ble_eq_true rfl) dL_law_23 (fun q3 H hP hD hS => ?_)
  refine lv_astore (lv' := [(5, .ref q3), (4, .ref q2), (3, .ref q1), (2, .ref q0), (1, .ref o), (0, .ref b)]) hx hb dL_law_25 hl (by decide) rfl (fun ls hl => ?_)
  refine lv_iconst (v := 4) hx hb dL_law_27 (by decide) ?_
  refine mb_newI (N' := 4) hx hb (hts0 (.arrayClass .int) (by decide +kernel)) hK hP hD hS hA (by decide) rfl (Nat.le_of_ble_eq_true rfl) (Nat.le_of_ble_eq_true rfl) (Nat.le_of_ble_eq_true rfl) dL_law_28 (fun q4 H hP hD hS => ?_)
  refine lv_astore (lv' := [(6, .ref q4), (5, .ref q3), (4, .ref q2), (3, .ref q1), (2, .ref q0), (1, .ref o), (0, .ref b)]) hx hb dL_law_30 hl (by decide) rfl (fun ls hl => ?_)
  have hP := mb_Pperm wW_new hP
  have hD := mb_Dperm wW_new hD
  have hP : va_P D vwCl (wW Y o a aa (wAd q0 q1 q2 q3 q4) b0 mb_z) H := hP
  have hD : va_D (fun q : Nat => s.heap.size ≤ q) (wW Y o a aa (wAd q0 q1 q2 q3 q4) b0 mb_z) := hD
  refine W.widen (k := 100) (n := 5000) (Nat.le_of_ble_eq_true rfl) (Nat.le_of_ble_eq_true rfl) ?_
  exact wL_law_in (N := 700) CM hX2 hbl hbA hL rfl mb_z b0 H _ ls 100 5000 hV hP hD hS (lv_sub hl [6, 5, 4, 3, 2, 1, 0] rfl) (Nat.le_of_ble_eq_true rfl) (Nat.le_of_ble_eq_true rfl)
