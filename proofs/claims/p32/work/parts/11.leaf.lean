section
noncomputable def PX0_countCellsAway_23_b (N : Nat) (K : mb_m → Prop) (b23 : mb_m → Int32 → Int32 → Int32 → Prop) (M : mb_m) (x1 x2 x3 : Int32) : Prop := ((64 : Int32) ≤ x3 → K M) ∧ (¬ (64 : Int32) ≤ x3 → PX0_distance N x3 x1 x2 (fun r36 _ => vp_in r36 99 ∧ (∀ v43 : Int32, v43 = ((M 2 r36.toNatClampNeg) + (1 : Int32)) → (vp_in r36 99 ∧ (∀ M43 : mb_m, M43 = mb_u M 2 (upd (M 2) r36.toNatClampNeg v43) → (∀ v44 : Int32, v44 = x3 + (1 : Int32) → (b23 M43 x1 x2 v44)))))))
noncomputable def PX0_countCellsAway_23 (N : Nat) (K : mb_m → Prop) (n : Nat) : mb_m → Int32 → Int32 → Int32 → Prop := Nat.rec (motive := fun _ => mb_m → Int32 → Int32 → Int32 → Prop) (fun _ _ _ _ => False) (fun _ b23 => PX0_countCellsAway_23_b N K  b23) n
set_option maxHeartbeats 4000000 in
set_option maxRecDepth 100000 in
theorem wX0_countCellsAway_23 {p : Program} {l : Launch} {e : Env} {s : State} {m : MethodId} {below : List Frame} {meth : Method} {c : Code} {args : Array Value} {D : va_G} {Y : Nat → ClassId} {A : Nat → Prop} {o : Nat} {a : Nat → Nat} {N : Nat} {K : mb_m → Prop} (C : mb_Cx p s m meth c args cX0_countCellsAway 4 none wsX0_countCellsAway RX0 D Y A) : ∀ (n : Nat), (∀ (M : mb_m) (x1 x2 x3 : Int32) (H : Heap) (locs : List Loc) (ls : Array Slot), PX0_countCellsAway_23 N K  n M x1 x2 x3 → va_P D vwCl (gw0 Y o a M) H → va_D A (gw0 Y o a M) → va_S A s.heap H locs → lv_has ls 4 [(0, .ref o), (1, .int x1), (2, .int x2), (3, .int x3)] → W p l e ({ frames := 1, cells := 0, slots := 0, locals := 24 } : Room) s m args below meth c H locs 0 0 (MQ below (va_Qv K (fun u t => mb_T D A (gw0 Y o a u) t) A) args s 0 0 A) (F0 m 23 ls [])) := by
  obtain ⟨hx, hb, hr, hml, hts, hown, hlocks, hA, hG⟩ := id C
  have hK := hG.1
  intro n
  induction n with
  | zero => intro M x1 x2 x3 H locs ls hF; exact (show False from hF).elim
  | succ n ih =>
    intro M x1 x2 x3 H locs ls hF hP hD hS hl
    have hF : PX0_countCellsAway_23_b N K  (PX0_countCellsAway_23 N K  n) M x1 x2 x3 := hF
    refine lv_iload_n hx hb dX0_countCellsAway_23 rfl (lv_at hl 3 rfl) ?_
    refine lv_bipush (v := 64) hx hb dX0_countCellsAway_24 (by decide) ?_
    refine lv_icmp_ge (tgt := 50) hx hb dX0_countCellsAway_26 (by decide) (fun c_26 => ?_) (fun c_26 => ?_)
    · have hF := hF.1 c_26
      exact mb_rv (S := mb_m) (mc := 0) (ms := 0) (wf := fun u => gw0 Y o a u) C (u := M) hF hP hD hS dX0_countCellsAway_50 (Nat.le_of_ble_eq_true rfl) (Nat.le_of_ble_eq_true rfl)
    · have hF := hF.2 c_26
      refine lv_aload_n hx hb dX0_countCellsAway_29 rfl (lv_at hl 0 rfl) ?_
      refine va_get (D := D) (ci := 0) (v := .ref (a 2)) (C := RX0) (T := TX0) (N := 5) hx hb hts (fun _ h9 => List.mem_cons_of_mem _ (List.mem_append_right _ (h9))) hown hK hP 0 rfl rfl 2 (by decide) (hts (.fieldLink RX0 18 "MarbleBench$Bath" "cellsAway" "[I") (List.mem_of_getElem? (i := 1) rfl)) (fun _ h9 => h9) rfl dX0_countCellsAway_30 ?_
      refine lv_iload_n hx hb dX0_countCellsAway_33 rfl (lv_at hl 3 rfl) ?_
      refine lv_iload_n hx hb dX0_countCellsAway_34 rfl (lv_at hl 1 rfl) ?_
      refine lv_iload_n hx hb dX0_countCellsAway_35 rfl (lv_at hl 2 rfl) ?_
      refine mb_cE hP hS hA (va_runS (As := [.int x3, .int x1, .int x2]) (rest := [.ref (a 2)]) ⟨hx, hb, hml, hown, hts⟩ (cnX0_distance l D Y N _ x3 x1 x2 _ hF) (va_cwS 3 hts gX0_countCellsAway_X0_distance rfl rfl rfl (by decide +kernel) ⟨Nat.le_of_ble_eq_true rfl, Nat.le_of_ble_eq_true rfl⟩) (mb_preS (A := A) hG mb_P0 mb_D0) rfl rfl hl.1 rfl (lv_room (Nat.le_of_ble_eq_true rfl)) dX0_countCellsAway_36 ⟨Nat.le_of_ble_eq_true rfl, Nat.le_of_ble_eq_true rfl⟩) (fun r36 H locs hF hP hS => ?_)
      refine lv_dup2_11 hx hb dX0_countCellsAway_39 rfl rfl ?_
      obtain ⟨hi40, hF⟩ := hF
      refine va_iald hx hb hK hP 3 0 rfl rfl hi40 dX0_countCellsAway_40 ?_
      refine lv_iconst (v := 1) hx hb dX0_countCellsAway_41 (by decide) ?_
      refine lv_iadd hx hb dX0_countCellsAway_42 ?_
      refine lv_topi (fun v43 ev43 => ?_)
      have hF := hF v43 ev43
      obtain ⟨hi43, hF⟩ := hF
      refine va_iast hx hb hK hP hD hS 3 0 rfl rfl hi43 dX0_countCellsAway_43 (fun H locs hP hD hS => ?_)
      obtain ⟨M43, eM43⟩ : ∃ y : mb_m, y = mb_u M 2 (upd (M 2) r36.toNatClampNeg v43) := ⟨_, rfl⟩
      have hF := hF M43 eM43
      have hP : va_P D vwCl (gw0 Y o a (mb_u M 2 (upd (M 2) r36.toNatClampNeg v43))) H := hP
      have hD : va_D A (gw0 Y o a (mb_u M 2 (upd (M 2) r36.toNatClampNeg v43))) := hD
      rw [← eM43] at hP hD
      obtain ⟨v44, ev44⟩ : ∃ y : Int32, y = x3 + (1 : Int32) := ⟨_, rfl⟩
      have hF := hF v44 ev44
      refine lv_iinc (v := v44) (lv' := [(3, .int v44), (0, .ref o), (1, .int x1), (2, .int x2)]) hx hb dX0_countCellsAway_44 hl (k := 3) rfl (by rw [ev44]; rfl) (by decide) rfl (fun ls hl => ?_)
      refine lv_goto (tgt := 23) hx hb dX0_countCellsAway_47 (by decide) ?_
      exact ih M43 x1 x2 v44 _ _ _ hF hP hD hS (lv_sub hl [1, 2, 3, 0] rfl)
noncomputable def PX0_countCellsAway_2_b (N : Nat) (K : mb_m → Prop) (b2 : mb_m → Int32 → Int32 → Int32 → Prop) (M : mb_m) (x1 x2 x3 : Int32) : Prop := ((98 : Int32) < x3 → PX0_countCellsAway_23 N K N M x1 x2 (0 : Int32)) ∧ (¬ (98 : Int32) < x3 → vp_in x3 99 ∧ (∀ M14 : mb_m, M14 = mb_u M 2 (upd (M 2) x3.toNatClampNeg (0 : Int32)) → (∀ v15 : Int32, v15 = x3 + (1 : Int32) → (b2 M14 x1 x2 v15))))
noncomputable def PX0_countCellsAway_2 (N : Nat) (K : mb_m → Prop) (n : Nat) : mb_m → Int32 → Int32 → Int32 → Prop := Nat.rec (motive := fun _ => mb_m → Int32 → Int32 → Int32 → Prop) (fun _ _ _ _ => False) (fun _ b2 => PX0_countCellsAway_2_b N K  b2) n
set_option maxHeartbeats 4000000 in
set_option maxRecDepth 100000 in
theorem wX0_countCellsAway_2 {p : Program} {l : Launch} {e : Env} {s : State} {m : MethodId} {below : List Frame} {meth : Method} {c : Code} {args : Array Value} {D : va_G} {Y : Nat → ClassId} {A : Nat → Prop} {o : Nat} {a : Nat → Nat} {N : Nat} {K : mb_m → Prop} (C : mb_Cx p s m meth c args cX0_countCellsAway 4 none wsX0_countCellsAway RX0 D Y A) : ∀ (n : Nat), (∀ (M : mb_m) (x1 x2 x3 : Int32) (H : Heap) (locs : List Loc) (ls : Array Slot), PX0_countCellsAway_2 N K  n M x1 x2 x3 → va_P D vwCl (gw0 Y o a M) H → va_D A (gw0 Y o a M) → va_S A s.heap H locs → lv_has ls 4 [(0, .ref o), (1, .int x1), (2, .int x2), (3, .int x3)] → W p l e ({ frames := 1, cells := 0, slots := 0, locals := 24 } : Room) s m args below meth c H locs 0 0 (MQ below (va_Qv K (fun u t => mb_T D A (gw0 Y o a u) t) A) args s 0 0 A) (F0 m 2 ls [])) := by
  obtain ⟨hx, hb, hr, hml, hts, hown, hlocks, hA, hG⟩ := id C
  have hK := hG.1
  intro n
  induction n with
  | zero => intro M x1 x2 x3 H locs ls hF; exact (show False from hF).elim
  | succ n ih =>
    intro M x1 x2 x3 H locs ls hF hP hD hS hl
    have hF : PX0_countCellsAway_2_b N K  (PX0_countCellsAway_2 N K  n) M x1 x2 x3 := hF
    refine lv_iload_n hx hb dX0_countCellsAway_2 rfl (lv_at hl 3 rfl) ?_
    refine lv_bipush (v := 98) hx hb dX0_countCellsAway_3 (by decide) ?_
    refine lv_icmp_gt (tgt := 21) hx hb dX0_countCellsAway_5 (by decide) (fun c_5 => ?_) (fun c_5 => ?_)
    · have hF := hF.1 c_5
      refine lv_iconst (v := 0) hx hb dX0_countCellsAway_21 (by decide) ?_
      refine lv_istore_n (lv' := [(3, .int (0 : Int32)), (0, .ref o), (1, .int x1), (2, .int x2)]) hx hb dX0_countCellsAway_22 rfl hl (by decide) rfl (fun ls hl => ?_)
      exact wX0_countCellsAway_23 C N M x1 x2 (0 : Int32) _ _ _ hF hP hD hS (lv_sub hl [1, 2, 3, 0] rfl)
    · have hF := hF.2 c_5
      refine lv_aload_n hx hb dX0_countCellsAway_8 rfl (lv_at hl 0 rfl) ?_
      refine va_get (D := D) (ci := 0) (v := .ref (a 2)) (C := RX0) (T := TX0) (N := 5) hx hb hts (fun _ h9 => List.mem_cons_of_mem _ (List.mem_append_right _ (h9))) hown hK hP 0 rfl rfl 2 (by decide) (hts (.fieldLink RX0 18 "MarbleBench$Bath" "cellsAway" "[I") (List.mem_of_getElem? (i := 1) rfl)) (fun _ h9 => h9) rfl dX0_countCellsAway_9 ?_
      refine lv_iload_n hx hb dX0_countCellsAway_12 rfl (lv_at hl 3 rfl) ?_
      refine lv_iconst (v := 0) hx hb dX0_countCellsAway_13 (by decide) ?_
      obtain ⟨hi14, hF⟩ := hF
      refine va_iast hx hb hK hP hD hS 3 0 rfl rfl hi14 dX0_countCellsAway_14 (fun H locs hP hD hS => ?_)
      obtain ⟨M14, eM14⟩ : ∃ y : mb_m, y = mb_u M 2 (upd (M 2) x3.toNatClampNeg (0 : Int32)) := ⟨_, rfl⟩
      have hF := hF M14 eM14
      have hP : va_P D vwCl (gw0 Y o a (mb_u M 2 (upd (M 2) x3.toNatClampNeg (0 : Int32)))) H := hP
      have hD : va_D A (gw0 Y o a (mb_u M 2 (upd (M 2) x3.toNatClampNeg (0 : Int32)))) := hD
      rw [← eM14] at hP hD
      obtain ⟨v15, ev15⟩ : ∃ y : Int32, y = x3 + (1 : Int32) := ⟨_, rfl⟩
      have hF := hF v15 ev15
      refine lv_iinc (v := v15) (lv' := [(3, .int v15), (0, .ref o), (1, .int x1), (2, .int x2)]) hx hb dX0_countCellsAway_15 hl (k := 3) rfl (by rw [ev15]; rfl) (by decide) rfl (fun ls hl => ?_)
      refine lv_goto (tgt := 2) hx hb dX0_countCellsAway_18 (by decide) ?_
      exact ih M14 x1 x2 v15 _ _ _ hF hP hD hS (lv_sub hl [1, 2, 3, 0] rfl)
noncomputable def PX0_countCellsAway (N : Nat) (M : mb_m) (x1 x2 : Int32) (K : mb_m → Prop) : Prop := PX0_countCellsAway_2 N K N M x1 x2 (0 : Int32)
set_option maxHeartbeats 4000000 in
set_option maxRecDepth 100000 in
theorem cnX0_countCellsAway (l : Launch) (D : va_G) (Y : Nat → ClassId) (N : Nat) (o : Nat) (a : Nat → Nat) (M : mb_m) (sz : Nat) (x1 x2 : Int32) (K : mb_m → Prop) (hF : PX0_countCellsAway N M x1 x2 K) : Met l yX0_countCellsAway wsX0_countCellsAway ({ frames := 1, cells := 0, slots := 0, locals := 24 } : Room) (va_Pc [.ref o, .int x1, .int x2] (mb_B D Y (gw0 Y o a M) sz)) (va_Qv K (fun u t => mb_T D (va_A (gw0 Y o a M) sz) (gw0 Y o a u) t) (va_A (gw0 Y o a M) sz)) 0 0 (va_A (gw0 Y o a M) sz) := by
  refine mb_begin (cc := cX0_countCellsAway) (maxL := 4) (ret := none) (by decide +kernel) rfl (Nat.le_of_ble_eq_true rfl) ?_
  intro p e s m below meth c ls C hsz hnm hP hD hl
  generalize hAe : va_A (gw0 Y o a M) sz = A at C hD ⊢
  have C : mb_Cx p s m meth c ([.ref o, .int x1, .int x2] : List Value).toArray cX0_countCellsAway 4 none wsX0_countCellsAway RX0 D Y A := C
  obtain ⟨hx, hb, hr, hml, hts, hown, hlocks, hA, hG⟩ := id C
  have hK := hG.1
  have hS : va_S A s.heap s.heap [] := va_S.rf
  have hl : lv_has ls 4 [(0, .ref o), (1, .int x1), (2, .int x2)] := hl
  refine lv_iconst (v := 0) hx hb dX0_countCellsAway_0 (by decide) ?_
  refine lv_istore_n (lv' := [(3, .int (0 : Int32)), (0, .ref o), (1, .int x1), (2, .int x2)]) hx hb dX0_countCellsAway_1 rfl hl (by decide) rfl (fun ls hl => ?_)
  exact wX0_countCellsAway_2 C N M x1 x2 (0 : Int32) _ _ _ hF hP hD hS (lv_sub hl [1, 2, 3, 0] rfl)
end
section
noncomputable def PX0_spread_143 (N : Nat) (K : Int32 → mb_m → Prop) (b56 : mb_m → Int32 → Int32 → Int32 → Int32 → Int32 → Int32 → Int32 → Prop) (M : mb_m) (x1 x2 x3 x5 x6 x7 x8 : Int32) : Prop := ∀ v143 : Int32, v143 = x8 + (1 : Int32) → (b56 M x1 x2 x3 x5 x6 x7 v143)
set_option maxHeartbeats 4000000 in
set_option maxRecDepth 100000 in
theorem wX0_spread_143 {p : Program} {l : Launch} {e : Env} {s : State} {m : MethodId} {below : List Frame} {meth : Method} {c : Code} {args : Array Value} {D : va_G} {Y : Nat → ClassId} {A : Nat → Prop} {o : Nat} {a : Nat → Nat} {N : Nat} {K : Int32 → mb_m → Prop} {b56 : mb_m → Int32 → Int32 → Int32 → Int32 → Int32 → Int32 → Int32 → Prop} (C : mb_Cx p s m meth c args cX0_spread 11 (some .int) wsX0_spread RX0 D Y A) (hb56 : ∀ (M : mb_m) (x1 x2 x3 x5 x6 x7 x8 : Int32) (H : Heap) (locs : List Loc) (ls : Array Slot), b56 M x1 x2 x3 x5 x6 x7 x8 → va_P D vwCl (gw0 Y o a M) H → va_D A (gw0 Y o a M) → va_S A s.heap H locs → lv_has ls 11 [(0, .ref o), (1, .int x1), (2, .int x2), (3, .int x3), (5, .int x5), (6, .int x6), (7, .int x7), (8, .int x8)] → W p l e ({ frames := 2, cells := 0, slots := 0, locals := 47 } : Room) s m args below meth c H locs 0 0 (MQ below (va_Qi K (fun u t => mb_T D A (gw0 Y o a u) t) A) args s 0 0 A) (F0 m 56 ls [])) : ∀ (M : mb_m) (x1 x2 x3 x5 x6 x7 x8 : Int32) (H : Heap) (locs : List Loc) (ls : Array Slot), PX0_spread_143 N K b56 M x1 x2 x3 x5 x6 x7 x8 → va_P D vwCl (gw0 Y o a M) H → va_D A (gw0 Y o a M) → va_S A s.heap H locs → lv_has ls 11 [(0, .ref o), (1, .int x1), (2, .int x2), (3, .int x3), (5, .int x5), (6, .int x6), (7, .int x7), (8, .int x8)] → W p l e ({ frames := 2, cells := 0, slots := 0, locals := 47 } : Room) s m args below meth c H locs 0 0 (MQ below (va_Qi K (fun u t => mb_T D A (gw0 Y o a u) t) A) args s 0 0 A) (F0 m 143 ls []) := by
  obtain ⟨hx, hb, hr, hml, hts, hown, hlocks, hA, hG⟩ := id C
  have hK := hG.1
  intro M x1 x2 x3 x5 x6 x7 x8 H locs ls hF hP hD hS hl
  obtain ⟨v143, ev143⟩ : ∃ y : Int32, y = x8 + (1 : Int32) := ⟨_, rfl⟩
  have hF := hF v143 ev143
  refine lv_iinc (v := v143) (lv' := [(8, .int v143), (0, .ref o), (1, .int x1), (2, .int x2), (3, .int x3), (5, .int x5), (6, .int x6), (7, .int x7)]) hx hb dX0_spread_143 hl (k := 7) rfl (by rw [ev143]; rfl) (by decide) rfl (fun ls hl => ?_)
  refine lv_goto (tgt := 56) hx hb dX0_spread_146 (by decide) ?_
  exact hb56 M x1 x2 x3 x5 x6 x7 v143 _ _ _ hF hP hD hS (lv_sub hl [1, 2, 3, 4, 5, 6, 7, 0] rfl)
noncomputable def PX0_spread_108 (N : Nat) (K : Int32 → mb_m → Prop) (b56 : mb_m → Int32 → Int32 → Int32 → Int32 → Int32 → Int32 → Int32 → Prop) (M : mb_m) (x1 x2 x3 x5 x6 x7 x8 x10 : Int32) : Prop := (x10 = 0 → PX0_spread_143 N K b56 M x1 x2 x3 x5 x6 x7 x8) ∧ (¬ x10 = 0 → vp_in x8 64 ∧ ((x3 < (M 0 x8.toNatClampNeg) → PX0_spread_143 N K b56 M x1 x2 x3 x5 x6 x7 x8) ∧ (¬ x3 < (M 0 x8.toNatClampNeg) → vp_in x8 64 ∧ (∀ M131 : mb_m, M131 = mb_u M 0 (upd (M 0) x8.toNatClampNeg x3) → (vp_in x8 64 ∧ (∀ M139 : mb_m, M139 = mb_u M131 1 (upd (M131 1) x8.toNatClampNeg (2 : Int32)) → (∀ v140 : Int32, v140 = x7 + (1 : Int32) → (PX0_spread_143 N K b56 M139 x1 x2 x3 x5 x6 v140 x8))))))))
set_option maxHeartbeats 4000000 in
set_option maxRecDepth 100000 in
theorem wX0_spread_108 {p : Program} {l : Launch} {e : Env} {s : State} {m : MethodId} {below : List Frame} {meth : Method} {c : Code} {args : Array Value} {D : va_G} {Y : Nat → ClassId} {A : Nat → Prop} {o : Nat} {a : Nat → Nat} {N : Nat} {K : Int32 → mb_m → Prop} {b56 : mb_m → Int32 → Int32 → Int32 → Int32 → Int32 → Int32 → Int32 → Prop} (C : mb_Cx p s m meth c args cX0_spread 11 (some .int) wsX0_spread RX0 D Y A) (hb56 : ∀ (M : mb_m) (x1 x2 x3 x5 x6 x7 x8 : Int32) (H : Heap) (locs : List Loc) (ls : Array Slot), b56 M x1 x2 x3 x5 x6 x7 x8 → va_P D vwCl (gw0 Y o a M) H → va_D A (gw0 Y o a M) → va_S A s.heap H locs → lv_has ls 11 [(0, .ref o), (1, .int x1), (2, .int x2), (3, .int x3), (5, .int x5), (6, .int x6), (7, .int x7), (8, .int x8)] → W p l e ({ frames := 2, cells := 0, slots := 0, locals := 47 } : Room) s m args below meth c H locs 0 0 (MQ below (va_Qi K (fun u t => mb_T D A (gw0 Y o a u) t) A) args s 0 0 A) (F0 m 56 ls [])) : ∀ (M : mb_m) (x1 x2 x3 x5 x6 x7 x8 x10 : Int32) (H : Heap) (locs : List Loc) (ls : Array Slot), PX0_spread_108 N K b56 M x1 x2 x3 x5 x6 x7 x8 x10 → va_P D vwCl (gw0 Y o a M) H → va_D A (gw0 Y o a M) → va_S A s.heap H locs → lv_has ls 11 [(0, .ref o), (1, .int x1), (2, .int x2), (3, .int x3), (5, .int x5), (6, .int x6), (7, .int x7), (8, .int x8), (10, .int x10)] → W p l e ({ frames := 2, cells := 0, slots := 0, locals := 47 } : Room) s m args below meth c H locs 0 0 (MQ below (va_Qi K (fun u t => mb_T D A (gw0 Y o a u) t) A) args s 0 0 A) (F0 m 108 ls []) := by
  obtain ⟨hx, hb, hr, hml, hts, hown, hlocks, hA, hG⟩ := id C
  have hK := hG.1
  intro M x1 x2 x3 x5 x6 x7 x8 x10 H locs ls hF hP hD hS hl
  refine lv_iload hx hb dX0_spread_108 (lv_at hl 8 rfl) ?_
  refine lv_if_eq (tgt := 143) hx hb dX0_spread_110 (by decide) (fun c_110 => ?_) (fun c_110 => ?_)
  · have hF := hF.1 c_110
    exact wX0_spread_143 C hb56 M x1 x2 x3 x5 x6 x7 x8 _ _ _ hF hP hD hS (lv_sub hl [0, 1, 2, 3, 4, 5, 6, 7] rfl)
  · have hF := hF.2 c_110
    refine lv_aload_n hx hb dX0_spread_113 rfl (lv_at hl 0 rfl) ?_
    refine va_get (D := D) (ci := 0) (v := .ref (a 0)) (C := RX0) (T := TX0) (N := 5) hx hb hts (fun _ h9 => List.mem_cons_of_mem _ (List.mem_append_right _ (h9))) hown hK hP 0 rfl rfl 0 (by decide) (hts (.fieldLink RX0 9 "MarbleBench$Bath" "colours" "[I") (List.mem_of_getElem? (i := 2) rfl)) (fun _ h9 => h9) rfl dX0_spread_114 ?_
    refine lv_iload hx hb dX0_spread_117 (lv_at hl 7 rfl) ?_
    obtain ⟨hi119, hF⟩ := hF
    refine va_iald hx hb hK hP 1 0 rfl rfl hi119 dX0_spread_119 ?_
    refine lv_iload_n hx hb dX0_spread_120 rfl (lv_at hl 3 rfl) ?_
    refine lv_icmp_gt (tgt := 143) hx hb dX0_spread_121 (by decide) (fun c_121 => ?_) (fun c_121 => ?_)
    · have hF := hF.1 c_121
      exact wX0_spread_143 C hb56 M x1 x2 x3 x5 x6 x7 x8 _ _ _ hF hP hD hS (lv_sub hl [0, 1, 2, 3, 4, 5, 6, 7] rfl)
    · have hF := hF.2 c_121
      refine lv_aload_n hx hb dX0_spread_124 rfl (lv_at hl 0 rfl) ?_
      refine va_get (D := D) (ci := 0) (v := .ref (a 0)) (C := RX0) (T := TX0) (N := 5) hx hb hts (fun _ h9 => List.mem_cons_of_mem _ (List.mem_append_right _ (h9))) hown hK hP 0 rfl rfl 0 (by decide) (hts (.fieldLink RX0 9 "MarbleBench$Bath" "colours" "[I") (List.mem_of_getElem? (i := 2) rfl)) (fun _ h9 => h9) rfl dX0_spread_125 ?_
      refine lv_iload hx hb dX0_spread_128 (lv_at hl 7 rfl) ?_
      refine lv_iload_n hx hb dX0_spread_130 rfl (lv_at hl 3 rfl) ?_
      obtain ⟨hi131, hF⟩ := hF
      refine va_iast hx hb hK hP hD hS 1 0 rfl rfl hi131 dX0_spread_131 (fun H locs hP hD hS => ?_)
      obtain ⟨M131, eM131⟩ : ∃ y : mb_m, y = mb_u M 0 (upd (M 0) x8.toNatClampNeg x3) := ⟨_, rfl⟩
      have hF := hF M131 eM131
      have hP : va_P D vwCl (gw0 Y o a (mb_u M 0 (upd (M 0) x8.toNatClampNeg x3))) H := hP
      have hD : va_D A (gw0 Y o a (mb_u M 0 (upd (M 0) x8.toNatClampNeg x3))) := hD
      rw [← eM131] at hP hD
      refine lv_aload_n hx hb dX0_spread_132 rfl (lv_at hl 0 rfl) ?_
      refine va_get (D := D) (ci := 0) (v := .ref (a 1)) (C := RX0) (T := TX0) (N := 5) hx hb hts (fun _ h9 => List.mem_cons_of_mem _ (List.mem_append_right _ (h9))) hown hK hP 0 rfl rfl 1 (by decide) (hts (.fieldLink RX0 15 "MarbleBench$Bath" "strengths" "[I") (List.mem_of_getElem? (i := 3) rfl)) (fun _ h9 => h9) rfl dX0_spread_133 ?_
      refine lv_iload hx hb dX0_spread_136 (lv_at hl 7 rfl) ?_
      refine lv_iconst (v := 2) hx hb dX0_spread_138 (by decide) ?_
      obtain ⟨hi139, hF⟩ := hF
      refine va_iast hx hb hK hP hD hS 2 0 rfl rfl hi139 dX0_spread_139 (fun H locs hP hD hS => ?_)
      obtain ⟨M139, eM139⟩ : ∃ y : mb_m, y = mb_u M131 1 (upd (M131 1) x8.toNatClampNeg (2 : Int32)) := ⟨_, rfl⟩
      have hF := hF M139 eM139
      have hP : va_P D vwCl (gw0 Y o a (mb_u M131 1 (upd (M131 1) x8.toNatClampNeg (2 : Int32)))) H := hP
      have hD : va_D A (gw0 Y o a (mb_u M131 1 (upd (M131 1) x8.toNatClampNeg (2 : Int32)))) := hD
      rw [← eM139] at hP hD
      obtain ⟨v140, ev140⟩ : ∃ y : Int32, y = x7 + (1 : Int32) := ⟨_, rfl⟩
      have hF := hF v140 ev140
      refine lv_iinc (v := v140) (lv' := [(7, .int v140), (0, .ref o), (1, .int x1), (2, .int x2), (3, .int x3), (5, .int x5), (6, .int x6), (8, .int x8), (10, .int x10)]) hx hb dX0_spread_140 hl (k := 6) rfl (by rw [ev140]; rfl) (by decide) rfl (fun ls hl => ?_)
      exact wX0_spread_143 C hb56 M139 x1 x2 x3 x5 x6 v140 x8 _ _ _ hF hP hD hS (lv_sub hl [1, 2, 3, 4, 5, 6, 0, 7] rfl)
noncomputable def PX0_spread_96 (N : Nat) (K : Int32 → mb_m → Prop) (b56 : mb_m → Int32 → Int32 → Int32 → Int32 → Int32 → Int32 → Int32 → Prop) (M : mb_m) (x1 x2 x3 x5 x6 x7 x8 x9 y0 : Int32) : Prop := (¬ x9 = x5 → PX0_spread_108 N K b56 M x1 x2 x3 x5 x6 x7 x8 y0) ∧ (x9 = x5 → ∀ v105 : Int32, v105 = x6 + (-1 : Int32) → (PX0_spread_108 N K b56 M x1 x2 x3 x5 v105 x7 x8 y0))
set_option maxHeartbeats 4000000 in
set_option maxRecDepth 100000 in
theorem wX0_spread_96 {p : Program} {l : Launch} {e : Env} {s : State} {m : MethodId} {below : List Frame} {meth : Method} {c : Code} {args : Array Value} {D : va_G} {Y : Nat → ClassId} {A : Nat → Prop} {o : Nat} {a : Nat → Nat} {N : Nat} {K : Int32 → mb_m → Prop} {b56 : mb_m → Int32 → Int32 → Int32 → Int32 → Int32 → Int32 → Int32 → Prop} (C : mb_Cx p s m meth c args cX0_spread 11 (some .int) wsX0_spread RX0 D Y A) (hb56 : ∀ (M : mb_m) (x1 x2 x3 x5 x6 x7 x8 : Int32) (H : Heap) (locs : List Loc) (ls : Array Slot), b56 M x1 x2 x3 x5 x6 x7 x8 → va_P D vwCl (gw0 Y o a M) H → va_D A (gw0 Y o a M) → va_S A s.heap H locs → lv_has ls 11 [(0, .ref o), (1, .int x1), (2, .int x2), (3, .int x3), (5, .int x5), (6, .int x6), (7, .int x7), (8, .int x8)] → W p l e ({ frames := 2, cells := 0, slots := 0, locals := 47 } : Room) s m args below meth c H locs 0 0 (MQ below (va_Qi K (fun u t => mb_T D A (gw0 Y o a u) t) A) args s 0 0 A) (F0 m 56 ls [])) : ∀ (M : mb_m) (x1 x2 x3 x5 x6 x7 x8 x9 y0 : Int32) (H : Heap) (locs : List Loc) (ls : Array Slot), PX0_spread_96 N K b56 M x1 x2 x3 x5 x6 x7 x8 x9 y0 → va_P D vwCl (gw0 Y o a M) H → va_D A (gw0 Y o a M) → va_S A s.heap H locs → lv_has ls 11 [(0, .ref o), (1, .int x1), (2, .int x2), (3, .int x3), (5, .int x5), (6, .int x6), (7, .int x7), (8, .int x8), (9, .int x9)] → W p l e ({ frames := 2, cells := 0, slots := 0, locals := 47 } : Room) s m args below meth c H locs 0 0 (MQ below (va_Qi K (fun u t => mb_T D A (gw0 Y o a u) t) A) args s 0 0 A) (F0 m 96 ls [.int y0]) := by
  obtain ⟨hx, hb, hr, hml, hts, hown, hlocks, hA, hG⟩ := id C
  have hK := hG.1
  intro M x1 x2 x3 x5 x6 x7 x8 x9 y0 H locs ls hF hP hD hS hl
  refine lv_istore (lv' := [(10, .int y0), (0, .ref o), (1, .int x1), (2, .int x2), (3, .int x3), (5, .int x5), (6, .int x6), (7, .int x7), (8, .int x8), (9, .int x9)]) hx hb dX0_spread_96 hl (by decide) rfl (fun ls hl => ?_)
  refine lv_iload hx hb dX0_spread_98 (lv_at hl 9 rfl) ?_
  refine lv_iload hx hb dX0_spread_100 (lv_at hl 5 rfl) ?_
  refine lv_icmp_ne (tgt := 108) hx hb dX0_spread_102 (by decide) (fun c_102 => ?_) (fun c_102 => ?_)
  · have hF := hF.1 c_102
    exact wX0_spread_108 C hb56 M x1 x2 x3 x5 x6 x7 x8 y0 _ _ _ hF hP hD hS (lv_sub hl [1, 2, 3, 4, 5, 6, 7, 8, 0] rfl)
  · have hF := hF.2 c_102
    obtain ⟨v105, ev105⟩ : ∃ y : Int32, y = x6 + (-1 : Int32) := ⟨_, rfl⟩
    have hF := hF v105 ev105
    refine lv_iinc (v := v105) (lv' := [(6, .int v105), (10, .int y0), (0, .ref o), (1, .int x1), (2, .int x2), (3, .int x3), (5, .int x5), (7, .int x7), (8, .int x8), (9, .int x9)]) hx hb dX0_spread_105 hl (k := 6) rfl (by rw [ev105]; rfl) (by decide) rfl (fun ls hl => ?_)
    exact wX0_spread_108 C hb56 M x1 x2 x3 x5 v105 x7 x8 y0 _ _ _ hF hP hD hS (lv_sub hl [2, 3, 4, 5, 6, 0, 7, 8, 1] rfl)
noncomputable def PX0_spread_91 (N : Nat) (K : Int32 → mb_m → Prop) (b56 : mb_m → Int32 → Int32 → Int32 → Int32 → Int32 → Int32 → Int32 → Prop) (M : mb_m) (x1 x2 x3 x5 x6 x7 x8 x9 : Int32) : Prop := PX0_spread_96 N K b56 M x1 x2 x3 x5 x6 x7 x8 x9 (1 : Int32)
set_option maxHeartbeats 4000000 in
set_option maxRecDepth 100000 in
theorem wX0_spread_91 {p : Program} {l : Launch} {e : Env} {s : State} {m : MethodId} {below : List Frame} {meth : Method} {c : Code} {args : Array Value} {D : va_G} {Y : Nat → ClassId} {A : Nat → Prop} {o : Nat} {a : Nat → Nat} {N : Nat} {K : Int32 → mb_m → Prop} {b56 : mb_m → Int32 → Int32 → Int32 → Int32 → Int32 → Int32 → Int32 → Prop} (C : mb_Cx p s m meth c args cX0_spread 11 (some .int) wsX0_spread RX0 D Y A) (hb56 : ∀ (M : mb_m) (x1 x2 x3 x5 x6 x7 x8 : Int32) (H : Heap) (locs : List Loc) (ls : Array Slot), b56 M x1 x2 x3 x5 x6 x7 x8 → va_P D vwCl (gw0 Y o a M) H → va_D A (gw0 Y o a M) → va_S A s.heap H locs → lv_has ls 11 [(0, .ref o), (1, .int x1), (2, .int x2), (3, .int x3), (5, .int x5), (6, .int x6), (7, .int x7), (8, .int x8)] → W p l e ({ frames := 2, cells := 0, slots := 0, locals := 47 } : Room) s m args below meth c H locs 0 0 (MQ below (va_Qi K (fun u t => mb_T D A (gw0 Y o a u) t) A) args s 0 0 A) (F0 m 56 ls [])) : ∀ (M : mb_m) (x1 x2 x3 x5 x6 x7 x8 x9 : Int32) (H : Heap) (locs : List Loc) (ls : Array Slot), PX0_spread_91 N K b56 M x1 x2 x3 x5 x6 x7 x8 x9 → va_P D vwCl (gw0 Y o a M) H → va_D A (gw0 Y o a M) → va_S A s.heap H locs → lv_has ls 11 [(0, .ref o), (1, .int x1), (2, .int x2), (3, .int x3), (5, .int x5), (6, .int x6), (7, .int x7), (8, .int x8), (9, .int x9)] → W p l e ({ frames := 2, cells := 0, slots := 0, locals := 47 } : Room) s m args below meth c H locs 0 0 (MQ below (va_Qi K (fun u t => mb_T D A (gw0 Y o a u) t) A) args s 0 0 A) (F0 m 91 ls []) := by
  obtain ⟨hx, hb, hr, hml, hts, hown, hlocks, hA, hG⟩ := id C
  have hK := hG.1
  intro M x1 x2 x3 x5 x6 x7 x8 x9 H locs ls hF hP hD hS hl
  refine lv_iconst (v := 1) hx hb dX0_spread_91 (by decide) ?_
  refine lv_goto (tgt := 96) hx hb dX0_spread_92 (by decide) ?_
  exact wX0_spread_96 C hb56 M x1 x2 x3 x5 x6 x7 x8 x9 (1 : Int32) _ _ _ hF hP hD hS (lv_sub hl [0, 1, 2, 3, 4, 5, 6, 7, 8] rfl)
noncomputable def PX0_spread_95 (N : Nat) (K : Int32 → mb_m → Prop) (b56 : mb_m → Int32 → Int32 → Int32 → Int32 → Int32 → Int32 → Int32 → Prop) (M : mb_m) (x1 x2 x3 x5 x6 x7 x8 x9 : Int32) : Prop := PX0_spread_96 N K b56 M x1 x2 x3 x5 x6 x7 x8 x9 (0 : Int32)
set_option maxHeartbeats 4000000 in
set_option maxRecDepth 100000 in
theorem wX0_spread_95 {p : Program} {l : Launch} {e : Env} {s : State} {m : MethodId} {below : List Frame} {meth : Method} {c : Code} {args : Array Value} {D : va_G} {Y : Nat → ClassId} {A : Nat → Prop} {o : Nat} {a : Nat → Nat} {N : Nat} {K : Int32 → mb_m → Prop} {b56 : mb_m → Int32 → Int32 → Int32 → Int32 → Int32 → Int32 → Int32 → Prop} (C : mb_Cx p s m meth c args cX0_spread 11 (some .int) wsX0_spread RX0 D Y A) (hb56 : ∀ (M : mb_m) (x1 x2 x3 x5 x6 x7 x8 : Int32) (H : Heap) (locs : List Loc) (ls : Array Slot), b56 M x1 x2 x3 x5 x6 x7 x8 → va_P D vwCl (gw0 Y o a M) H → va_D A (gw0 Y o a M) → va_S A s.heap H locs → lv_has ls 11 [(0, .ref o), (1, .int x1), (2, .int x2), (3, .int x3), (5, .int x5), (6, .int x6), (7, .int x7), (8, .int x8)] → W p l e ({ frames := 2, cells := 0, slots := 0, locals := 47 } : Room) s m args below meth c H locs 0 0 (MQ below (va_Qi K (fun u t => mb_T D A (gw0 Y o a u) t) A) args s 0 0 A) (F0 m 56 ls [])) : ∀ (M : mb_m) (x1 x2 x3 x5 x6 x7 x8 x9 : Int32) (H : Heap) (locs : List Loc) (ls : Array Slot), PX0_spread_95 N K b56 M x1 x2 x3 x5 x6 x7 x8 x9 → va_P D vwCl (gw0 Y o a M) H → va_D A (gw0 Y o a M) → va_S A s.heap H locs → lv_has ls 11 [(0, .ref o), (1, .int x1), (2, .int x2), (3, .int x3), (5, .int x5), (6, .int x6), (7, .int x7), (8, .int x8), (9, .int x9)] → W p l e ({ frames := 2, cells := 0, slots := 0, locals := 47 } : Room) s m args below meth c H locs 0 0 (MQ below (va_Qi K (fun u t => mb_T D A (gw0 Y o a u) t) A) args s 0 0 A) (F0 m 95 ls []) := by
  obtain ⟨hx, hb, hr, hml, hts, hown, hlocks, hA, hG⟩ := id C
  have hK := hG.1
  intro M x1 x2 x3 x5 x6 x7 x8 x9 H locs ls hF hP hD hS hl
  refine lv_iconst (v := 0) hx hb dX0_spread_95 (by decide) ?_
  exact wX0_spread_96 C hb56 M x1 x2 x3 x5 x6 x7 x8 x9 (0 : Int32) _ _ _ hF hP hD hS (lv_sub hl [0, 1, 2, 3, 4, 5, 6, 7, 8] rfl)
noncomputable def PX0_spread_56_b (N : Nat) (K : Int32 → mb_m → Prop) (b56 : mb_m → Int32 → Int32 → Int32 → Int32 → Int32 → Int32 → Int32 → Prop) (M : mb_m) (x1 x2 x3 x5 x6 x7 x8 : Int32) : Prop := ((64 : Int32) ≤ x8 → K x7 M) ∧ (¬ (64 : Int32) ≤ x8 → PX0_distance N x8 x1 x2 (fun r67 _ => (r67 < x5 → PX0_spread_91 N K b56 M x1 x2 x3 x5 x6 x7 x8 r67) ∧ (¬ r67 < x5 → (¬ r67 = x5 → PX0_spread_95 N K b56 M x1 x2 x3 x5 x6 x7 x8 r67) ∧ (r67 = x5 → (x6 ≤ 0 → PX0_spread_95 N K b56 M x1 x2 x3 x5 x6 x7 x8 r67) ∧ (¬ x6 ≤ 0 → PX0_spread_91 N K b56 M x1 x2 x3 x5 x6 x7 x8 r67)))))
noncomputable def PX0_spread_56 (N : Nat) (K : Int32 → mb_m → Prop) (n : Nat) : mb_m → Int32 → Int32 → Int32 → Int32 → Int32 → Int32 → Int32 → Prop := Nat.rec (motive := fun _ => mb_m → Int32 → Int32 → Int32 → Int32 → Int32 → Int32 → Int32 → Prop) (fun _ _ _ _ _ _ _ _ => False) (fun _ b56 => PX0_spread_56_b N K  b56) n
set_option maxHeartbeats 4000000 in
set_option maxRecDepth 100000 in
theorem wX0_spread_56 {p : Program} {l : Launch} {e : Env} {s : State} {m : MethodId} {below : List Frame} {meth : Method} {c : Code} {args : Array Value} {D : va_G} {Y : Nat → ClassId} {A : Nat → Prop} {o : Nat} {a : Nat → Nat} {N : Nat} {K : Int32 → mb_m → Prop} (C : mb_Cx p s m meth c args cX0_spread 11 (some .int) wsX0_spread RX0 D Y A) : ∀ (n : Nat), (∀ (M : mb_m) (x1 x2 x3 x5 x6 x7 x8 : Int32) (H : Heap) (locs : List Loc) (ls : Array Slot), PX0_spread_56 N K  n M x1 x2 x3 x5 x6 x7 x8 → va_P D vwCl (gw0 Y o a M) H → va_D A (gw0 Y o a M) → va_S A s.heap H locs → lv_has ls 11 [(0, .ref o), (1, .int x1), (2, .int x2), (3, .int x3), (5, .int x5), (6, .int x6), (7, .int x7), (8, .int x8)] → W p l e ({ frames := 2, cells := 0, slots := 0, locals := 47 } : Room) s m args below meth c H locs 0 0 (MQ below (va_Qi K (fun u t => mb_T D A (gw0 Y o a u) t) A) args s 0 0 A) (F0 m 56 ls [])) := by
  obtain ⟨hx, hb, hr, hml, hts, hown, hlocks, hA, hG⟩ := id C
  have hK := hG.1
  intro n
  induction n with
  | zero => intro M x1 x2 x3 x5 x6 x7 x8 H locs ls hF; exact (show False from hF).elim
  | succ n ih =>
    intro M x1 x2 x3 x5 x6 x7 x8 H locs ls hF hP hD hS hl
    have hF : PX0_spread_56_b N K  (PX0_spread_56 N K  n) M x1 x2 x3 x5 x6 x7 x8 := hF
    refine lv_iload hx hb dX0_spread_56 (lv_at hl 7 rfl) ?_
    refine lv_bipush (v := 64) hx hb dX0_spread_58 (by decide) ?_
    refine lv_icmp_ge (tgt := 149) hx hb dX0_spread_60 (by decide) (fun c_60 => ?_) (fun c_60 => ?_)
    · have hF := hF.1 c_60
      refine lv_iload hx hb dX0_spread_149 (lv_at hl 6 rfl) ?_
      exact mb_ri (S := mb_m) (mc := 0) (ms := 0) (wf := fun u => gw0 Y o a u) C rfl (u := M) hF hP hD hS dX0_spread_151 (Nat.le_of_ble_eq_true rfl) (Nat.le_of_ble_eq_true rfl)
    · have hF := hF.2 c_60
      refine lv_iload hx hb dX0_spread_63 (lv_at hl 7 rfl) ?_
      refine lv_iload_n hx hb dX0_spread_65 rfl (lv_at hl 1 rfl) ?_
      refine lv_iload_n hx hb dX0_spread_66 rfl (lv_at hl 2 rfl) ?_
      refine mb_cE hP hS hA (va_runS (As := [.int x8, .int x1, .int x2]) (rest := []) ⟨hx, hb, hml, hown, hts⟩ (cnX0_distance l D Y N _ x8 x1 x2 _ hF) (va_cwS 3 hts gX0_spread_X0_distance rfl rfl rfl (by decide +kernel) ⟨Nat.le_of_ble_eq_true rfl, Nat.le_of_ble_eq_true rfl⟩) (mb_preS (A := A) hG mb_P0 mb_D0) rfl rfl hl.1 rfl (lv_room (Nat.le_of_ble_eq_true rfl)) dX0_spread_67 ⟨Nat.le_of_ble_eq_true rfl, Nat.le_of_ble_eq_true rfl⟩) (fun r67 H locs hF hP hS => ?_)
      refine lv_istore (lv' := [(9, .int r67), (0, .ref o), (1, .int x1), (2, .int x2), (3, .int x3), (5, .int x5), (6, .int x6), (7, .int x7), (8, .int x8)]) hx hb dX0_spread_70 hl (by decide) rfl (fun ls hl => ?_)
      refine lv_iload hx hb dX0_spread_72 (lv_at hl 0 rfl) ?_
      refine lv_iload hx hb dX0_spread_74 (lv_at hl 5 rfl) ?_
      refine lv_icmp_lt (tgt := 91) hx hb dX0_spread_76 (by decide) (fun c_76 => ?_) (fun c_76 => ?_)
      · have hF := hF.1 c_76
        exact wX0_spread_91 C ih M x1 x2 x3 x5 x6 x7 x8 r67 _ _ _ hF hP hD hS (lv_sub hl [1, 2, 3, 4, 5, 6, 7, 8, 0] rfl)
      · have hF := hF.2 c_76
        refine lv_iload hx hb dX0_spread_79 (lv_at hl 0 rfl) ?_
        refine lv_iload hx hb dX0_spread_81 (lv_at hl 5 rfl) ?_
        refine lv_icmp_ne (tgt := 95) hx hb dX0_spread_83 (by decide) (fun c_83 => ?_) (fun c_83 => ?_)
        · have hF := hF.1 c_83
          exact wX0_spread_95 C ih M x1 x2 x3 x5 x6 x7 x8 r67 _ _ _ hF hP hD hS (lv_sub hl [1, 2, 3, 4, 5, 6, 7, 8, 0] rfl)
        · have hF := hF.2 c_83
          refine lv_iload hx hb dX0_spread_86 (lv_at hl 6 rfl) ?_
          refine lv_if_le (tgt := 95) hx hb dX0_spread_88 (by decide) (fun c_88 => ?_) (fun c_88 => ?_)
          · have hF := hF.1 c_88
            exact wX0_spread_95 C ih M x1 x2 x3 x5 x6 x7 x8 r67 _ _ _ hF hP hD hS (lv_sub hl [1, 2, 3, 4, 5, 6, 7, 8, 0] rfl)
          · have hF := hF.2 c_88
            exact wX0_spread_91 C ih M x1 x2 x3 x5 x6 x7 x8 r67 _ _ _ hF hP hD hS (lv_sub hl [1, 2, 3, 4, 5, 6, 7, 8, 0] rfl)
noncomputable def PX0_spread_50 (N : Nat) (K : Int32 → mb_m → Prop) (M : mb_m) (x1 x2 x3 x5 x6 : Int32) : Prop := PX0_spread_56 N K N M x1 x2 x3 x5 x6 (0 : Int32) (0 : Int32)
set_option maxHeartbeats 4000000 in
set_option maxRecDepth 100000 in
theorem wX0_spread_50 {p : Program} {l : Launch} {e : Env} {s : State} {m : MethodId} {below : List Frame} {meth : Method} {c : Code} {args : Array Value} {D : va_G} {Y : Nat → ClassId} {A : Nat → Prop} {o : Nat} {a : Nat → Nat} {N : Nat} {K : Int32 → mb_m → Prop} (C : mb_Cx p s m meth c args cX0_spread 11 (some .int) wsX0_spread RX0 D Y A) : ∀ (M : mb_m) (x1 x2 x3 x5 x6 : Int32) (H : Heap) (locs : List Loc) (ls : Array Slot), PX0_spread_50 N K  M x1 x2 x3 x5 x6 → va_P D vwCl (gw0 Y o a M) H → va_D A (gw0 Y o a M) → va_S A s.heap H locs → lv_has ls 11 [(0, .ref o), (1, .int x1), (2, .int x2), (3, .int x3), (5, .int x5), (6, .int x6)] → W p l e ({ frames := 2, cells := 0, slots := 0, locals := 47 } : Room) s m args below meth c H locs 0 0 (MQ below (va_Qi K (fun u t => mb_T D A (gw0 Y o a u) t) A) args s 0 0 A) (F0 m 50 ls []) := by
  obtain ⟨hx, hb, hr, hml, hts, hown, hlocks, hA, hG⟩ := id C
  have hK := hG.1
  intro M x1 x2 x3 x5 x6 H locs ls hF hP hD hS hl
  refine lv_iconst (v := 0) hx hb dX0_spread_50 (by decide) ?_
  refine lv_istore (lv' := [(7, .int (0 : Int32)), (0, .ref o), (1, .int x1), (2, .int x2), (3, .int x3), (5, .int x5), (6, .int x6)]) hx hb dX0_spread_51 hl (by decide) rfl (fun ls hl => ?_)
  refine lv_iconst (v := 0) hx hb dX0_spread_53 (by decide) ?_
  refine lv_istore (lv' := [(8, .int (0 : Int32)), (7, .int (0 : Int32)), (0, .ref o), (1, .int x1), (2, .int x2), (3, .int x3), (5, .int x5), (6, .int x6)]) hx hb dX0_spread_54 hl (by decide) rfl (fun ls hl => ?_)
  exact wX0_spread_56 C N M x1 x2 x3 x5 x6 (0 : Int32) (0 : Int32) _ _ _ hF hP hD hS (lv_sub hl [2, 3, 4, 5, 6, 7, 1, 0] rfl)
noncomputable def PX0_spread_13_b (N : Nat) (K : Int32 → mb_m → Prop) (b13 : mb_m → Int32 → Int32 → Int32 → Int32 → Int32 → Prop) (M : mb_m) (x1 x2 x3 x5 x6 : Int32) : Prop := ((98 : Int32) ≤ x5 → PX0_spread_50 N K M x1 x2 x3 x5 x6) ∧ (¬ (98 : Int32) ≤ x5 → vp_in x5 99 ∧ ((x6 ≤ (M 2 x5.toNatClampNeg) → PX0_spread_50 N K M x1 x2 x3 x5 x6) ∧ (¬ x6 ≤ (M 2 x5.toNatClampNeg) → vp_in x5 99 ∧ (∀ v42 : Int32, v42 = (x6 - (M 2 x5.toNatClampNeg)) → (∀ v44 : Int32, v44 = x5 + (1 : Int32) → (b13 M x1 x2 x3 v44 v42))))))
noncomputable def PX0_spread_13 (N : Nat) (K : Int32 → mb_m → Prop) (n : Nat) : mb_m → Int32 → Int32 → Int32 → Int32 → Int32 → Prop := Nat.rec (motive := fun _ => mb_m → Int32 → Int32 → Int32 → Int32 → Int32 → Prop) (fun _ _ _ _ _ _ => False) (fun _ b13 => PX0_spread_13_b N K  b13) n
set_option maxHeartbeats 4000000 in
set_option maxRecDepth 100000 in
theorem wX0_spread_13 {p : Program} {l : Launch} {e : Env} {s : State} {m : MethodId} {below : List Frame} {meth : Method} {c : Code} {args : Array Value} {D : va_G} {Y : Nat → ClassId} {A : Nat → Prop} {o : Nat} {a : Nat → Nat} {N : Nat} {K : Int32 → mb_m → Prop} (C : mb_Cx p s m meth c args cX0_spread 11 (some .int) wsX0_spread RX0 D Y A) : ∀ (n : Nat), (∀ (M : mb_m) (x1 x2 x3 x5 x6 : Int32) (H : Heap) (locs : List Loc) (ls : Array Slot), PX0_spread_13 N K  n M x1 x2 x3 x5 x6 → va_P D vwCl (gw0 Y o a M) H → va_D A (gw0 Y o a M) → va_S A s.heap H locs → lv_has ls 11 [(0, .ref o), (1, .int x1), (2, .int x2), (3, .int x3), (5, .int x5), (6, .int x6)] → W p l e ({ frames := 2, cells := 0, slots := 0, locals := 47 } : Room) s m args below meth c H locs 0 0 (MQ below (va_Qi K (fun u t => mb_T D A (gw0 Y o a u) t) A) args s 0 0 A) (F0 m 13 ls [])) := by
  obtain ⟨hx, hb, hr, hml, hts, hown, hlocks, hA, hG⟩ := id C
  have hK := hG.1
  intro n
  induction n with
  | zero => intro M x1 x2 x3 x5 x6 H locs ls hF; exact (show False from hF).elim
  | succ n ih =>
    intro M x1 x2 x3 x5 x6 H locs ls hF hP hD hS hl
    have hF : PX0_spread_13_b N K  (PX0_spread_13 N K  n) M x1 x2 x3 x5 x6 := hF
    refine lv_iload hx hb dX0_spread_13 (lv_at hl 4 rfl) ?_
    refine lv_bipush (v := 98) hx hb dX0_spread_15 (by decide) ?_
    refine lv_icmp_ge (tgt := 50) hx hb dX0_spread_17 (by decide) (fun c_17 => ?_) (fun c_17 => ?_)
    · have hF := hF.1 c_17
      exact wX0_spread_50 C M x1 x2 x3 x5 x6 _ _ _ hF hP hD hS (lv_sub hl [0, 1, 2, 3, 4, 5] rfl)
    · have hF := hF.2 c_17
      refine lv_iload hx hb dX0_spread_20 (lv_at hl 5 rfl) ?_
      refine lv_aload_n hx hb dX0_spread_22 rfl (lv_at hl 0 rfl) ?_
      refine va_get (D := D) (ci := 0) (v := .ref (a 2)) (C := RX0) (T := TX0) (N := 5) hx hb hts (fun _ h9 => List.mem_cons_of_mem _ (List.mem_append_right _ (h9))) hown hK hP 0 rfl rfl 2 (by decide) (hts (.fieldLink RX0 18 "MarbleBench$Bath" "cellsAway" "[I") (List.mem_of_getElem? (i := 1) rfl)) (fun _ h9 => h9) rfl dX0_spread_23 ?_
      refine lv_iload hx hb dX0_spread_26 (lv_at hl 4 rfl) ?_
      obtain ⟨hi28, hF⟩ := hF
      refine va_iald hx hb hK hP 3 0 rfl rfl hi28 dX0_spread_28 ?_
      refine lv_icmp_le (tgt := 50) hx hb dX0_spread_29 (by decide) (fun c_29 => ?_) (fun c_29 => ?_)
      · have hF := hF.1 c_29
        exact wX0_spread_50 C M x1 x2 x3 x5 x6 _ _ _ hF hP hD hS (lv_sub hl [0, 1, 2, 3, 4, 5] rfl)
      · have hF := hF.2 c_29
        refine lv_iload hx hb dX0_spread_32 (lv_at hl 5 rfl) ?_
        refine lv_aload_n hx hb dX0_spread_34 rfl (lv_at hl 0 rfl) ?_
        refine va_get (D := D) (ci := 0) (v := .ref (a 2)) (C := RX0) (T := TX0) (N := 5) hx hb hts (fun _ h9 => List.mem_cons_of_mem _ (List.mem_append_right _ (h9))) hown hK hP 0 rfl rfl 2 (by decide) (hts (.fieldLink RX0 18 "MarbleBench$Bath" "cellsAway" "[I") (List.mem_of_getElem? (i := 1) rfl)) (fun _ h9 => h9) rfl dX0_spread_35 ?_
        refine lv_iload hx hb dX0_spread_38 (lv_at hl 4 rfl) ?_
        obtain ⟨hi40, hF⟩ := hF
        refine va_iald hx hb hK hP 3 0 rfl rfl hi40 dX0_spread_40 ?_
        refine lv_isub hx hb dX0_spread_41 ?_
        refine lv_topi (fun v42 ev42 => ?_)
        have hF := hF v42 ev42
        refine lv_istore (lv' := [(6, .int v42), (0, .ref o), (1, .int x1), (2, .int x2), (3, .int x3), (5, .int x5)]) hx hb dX0_spread_42 hl (by decide) rfl (fun ls hl => ?_)
        obtain ⟨v44, ev44⟩ : ∃ y : Int32, y = x5 + (1 : Int32) := ⟨_, rfl⟩
        have hF := hF v44 ev44
        refine lv_iinc (v := v44) (lv' := [(5, .int v44), (6, .int v42), (0, .ref o), (1, .int x1), (2, .int x2), (3, .int x3)]) hx hb dX0_spread_44 hl (k := 5) rfl (by rw [ev44]; rfl) (by decide) rfl (fun ls hl => ?_)
        refine lv_goto (tgt := 13) hx hb dX0_spread_47 (by decide) ?_
        exact ih M x1 x2 x3 v44 v42 _ _ _ hF hP hD hS (lv_sub hl [2, 3, 4, 5, 0, 1] rfl)
noncomputable def PX0_spread (N : Nat) (M : mb_m) (x1 x2 x3 x4 : Int32) (K : Int32 → mb_m → Prop) : Prop := PX0_countCellsAway N M x1 x2 (fun M3 => PX0_spread_13 N K N M3 x1 x2 x3 (0 : Int32) x4)
set_option maxHeartbeats 4000000 in
set_option maxRecDepth 100000 in
theorem cnX0_spread (l : Launch) (D : va_G) (Y : Nat → ClassId) (N : Nat) (o : Nat) (a : Nat → Nat) (M : mb_m) (sz : Nat) (x1 x2 x3 x4 : Int32) (K : Int32 → mb_m → Prop) (hF : PX0_spread N M x1 x2 x3 x4 K) : Met l yX0_spread wsX0_spread ({ frames := 2, cells := 0, slots := 0, locals := 47 } : Room) (va_Pc [.ref o, .int x1, .int x2, .int x3, .int x4] (mb_B D Y (gw0 Y o a M) sz)) (va_Qi K (fun u t => mb_T D (va_A (gw0 Y o a M) sz) (gw0 Y o a u) t) (va_A (gw0 Y o a M) sz)) 0 0 (va_A (gw0 Y o a M) sz) := by
  refine mb_begin (cc := cX0_spread) (maxL := 11) (ret := (some .int)) (by decide +kernel) rfl (Nat.le_of_ble_eq_true rfl) ?_
  intro p e s m below meth c ls C hsz hnm hP hD hl
  generalize hAe : va_A (gw0 Y o a M) sz = A at C hD ⊢
  have C : mb_Cx p s m meth c ([.ref o, .int x1, .int x2, .int x3, .int x4] : List Value).toArray cX0_spread 11 (some .int) wsX0_spread RX0 D Y A := C
  obtain ⟨hx, hb, hr, hml, hts, hown, hlocks, hA, hG⟩ := id C
  have hK := hG.1
  have hS : va_S A s.heap s.heap [] := va_S.rf
  have hl : lv_has ls 11 [(0, .ref o), (1, .int x1), (2, .int x2), (3, .int x3), (4, .int x4)] := hl
  refine lv_aload_n hx hb dX0_spread_0 rfl (lv_at hl 0 rfl) ?_
  refine lv_iload_n hx hb dX0_spread_1 rfl (lv_at hl 1 rfl) ?_
  refine lv_iload_n hx hb dX0_spread_2 rfl (lv_at hl 2 rfl) ?_
  refine mb_cWv hD hS hA (va_runV (As := [.int x1, .int x2]) (rest := []) ⟨hx, hb, hml, hown, hts⟩ (cnX0_countCellsAway l D Y N o a M _ x1 x2 _ hF) (cwV 2 hts gX0_spread_X0_countCellsAway rfl rfl rfl (by decide +kernel) ⟨Nat.le_of_ble_eq_true rfl, Nat.le_of_ble_eq_true rfl⟩) (mb_preV hG hP hD 0 rfl rfl) rfl rfl hl.1 rfl (lv_room (Nat.le_of_ble_eq_true rfl)) dX0_spread_3 ⟨Nat.le_of_ble_eq_true rfl, Nat.le_of_ble_eq_true rfl⟩) (fun M3 H locs hF hP hD hS => ?_)
  refine lv_iconst (v := 0) hx hb dX0_spread_6 (by decide) ?_
  refine lv_istore (lv' := [(5, .int (0 : Int32)), (0, .ref o), (1, .int x1), (2, .int x2), (3, .int x3), (4, .int x4)]) hx hb dX0_spread_7 hl (by decide) rfl (fun ls hl => ?_)
  refine lv_iload hx hb dX0_spread_9 (lv_at hl 5 rfl) ?_
  refine lv_istore (lv' := [(6, .int x4), (5, .int (0 : Int32)), (0, .ref o), (1, .int x1), (2, .int x2), (3, .int x3), (4, .int x4)]) hx hb dX0_spread_11 hl (by decide) rfl (fun ls hl => ?_)
  exact wX0_spread_13 C N M3 x1 x2 x3 (0 : Int32) x4 _ _ _ hF hP hD hS (lv_sub hl [2, 3, 4, 5, 1, 0] rfl)
end
section
noncomputable def PX0_shift_169 (N : Nat) (K : Int32 → mb_m → Prop) (b104 : mb_m → Int32 → Int32 → Int32 → Int32 → Prop) (M : mb_m) (x4 x5 x7 y0 y1 : Int32) : Prop := ∀ v170 : Int32, v170 = (y1 + y0) → (∀ v172 : Int32, v172 = x7 + (1 : Int32) → (b104 M x4 x5 v170 v172))
set_option maxHeartbeats 4000000 in
set_option maxRecDepth 100000 in
theorem wX0_shift_169 {p : Program} {l : Launch} {e : Env} {s : State} {m : MethodId} {below : List Frame} {meth : Method} {c : Code} {args : Array Value} {D : va_G} {Y : Nat → ClassId} {A : Nat → Prop} {o : Nat} {a : Nat → Nat} {N : Nat} {K : Int32 → mb_m → Prop} {b104 : mb_m → Int32 → Int32 → Int32 → Int32 → Prop} (C : mb_Cx p s m meth c args cX0_shift 8 (some .int) wsX0_shift RX0 D Y A) (hb104 : ∀ (M : mb_m) (x4 x5 x6 x7 : Int32) (H : Heap) (locs : List Loc) (ls : Array Slot), b104 M x4 x5 x6 x7 → va_P D vwCl (gw0 Y o a M) H → va_D A (gw0 Y o a M) → va_S A s.heap H locs → lv_has ls 8 [(0, .ref o), (4, .int x4), (5, .int x5), (6, .int x6), (7, .int x7)] → W p l e ({ frames := 1, cells := 0, slots := 0, locals := 22 } : Room) s m args below meth c H locs 0 0 (MQ below (va_Qi K (fun u t => mb_T D A (gw0 Y o a u) t) A) args s 0 0 A) (F0 m 104 ls [])) : ∀ (M : mb_m) (x4 x5 x7 y0 y1 : Int32) (H : Heap) (locs : List Loc) (ls : Array Slot), PX0_shift_169 N K b104 M x4 x5 x7 y0 y1 → va_P D vwCl (gw0 Y o a M) H → va_D A (gw0 Y o a M) → va_S A s.heap H locs → lv_has ls 8 [(0, .ref o), (4, .int x4), (5, .int x5), (7, .int x7)] → W p l e ({ frames := 1, cells := 0, slots := 0, locals := 22 } : Room) s m args below meth c H locs 0 0 (MQ below (va_Qi K (fun u t => mb_T D A (gw0 Y o a u) t) A) args s 0 0 A) (F0 m 169 ls [.int y0, .int y1]) := by
  obtain ⟨hx, hb, hr, hml, hts, hown, hlocks, hA, hG⟩ := id C
  have hK := hG.1
  intro M x4 x5 x7 y0 y1 H locs ls hF hP hD hS hl
  refine lv_iadd hx hb dX0_shift_169 ?_
  refine lv_topi (fun v170 ev170 => ?_)
  have hF := hF v170 ev170
  refine lv_istore (lv' := [(6, .int v170), (0, .ref o), (4, .int x4), (5, .int x5), (7, .int x7)]) hx hb dX0_shift_170 hl (by decide) rfl (fun ls hl => ?_)
  obtain ⟨v172, ev172⟩ : ∃ y : Int32, y = x7 + (1 : Int32) := ⟨_, rfl⟩
  have hF := hF v172 ev172
  refine lv_iinc (v := v172) (lv' := [(7, .int v172), (6, .int v170), (0, .ref o), (4, .int x4), (5, .int x5)]) hx hb dX0_shift_172 hl (k := 4) rfl (by rw [ev172]; rfl) (by decide) rfl (fun ls hl => ?_)
  refine lv_goto (tgt := 104) hx hb dX0_shift_175 (by decide) ?_
  exact hb104 M x4 x5 v170 v172 _ _ _ hF hP hD hS (lv_sub hl [2, 3, 4, 1, 0] rfl)
noncomputable def PX0_shift_104_b (N : Nat) (K : Int32 → mb_m → Prop) (b104 : mb_m → Int32 → Int32 → Int32 → Int32 → Prop) (M : mb_m) (x4 x5 x6 x7 : Int32) : Prop := ((8 : Int32) ≤ x7 → K x6 M) ∧ (¬ (8 : Int32) ≤ x7 → vp_in x7 8 ∧ (∀ v130 : Int32, v130 = (M 3 x7.toNatClampNeg) → (vp_in (x4 + (x7 * x5)) 64 ∧ (∀ M130 : mb_m, M130 = mb_u M 0 (upd (M 0) (x4 + (x7 * x5)).toNatClampNeg v130) → (vp_in x7 8 ∧ (∀ v150 : Int32, v150 = (M130 4 x7.toNatClampNeg) → (vp_in (x4 + (x7 * x5)) 64 ∧ (∀ M150 : mb_m, M150 = mb_u M130 1 (upd (M130 1) (x4 + (x7 * x5)).toNatClampNeg v150) → (vp_in x7 8 ∧ ((¬ (M150 3 x7.toNatClampNeg) = (-1 : Int32) → PX0_shift_169 N K b104 M150 x4 x5 x7 (1 : Int32) x6) ∧ ((M150 3 x7.toNatClampNeg) = (-1 : Int32) → PX0_shift_169 N K b104 M150 x4 x5 x7 (0 : Int32) x6)))))))))))
noncomputable def PX0_shift_104 (N : Nat) (K : Int32 → mb_m → Prop) (n : Nat) : mb_m → Int32 → Int32 → Int32 → Int32 → Prop := Nat.rec (motive := fun _ => mb_m → Int32 → Int32 → Int32 → Int32 → Prop) (fun _ _ _ _ _ => False) (fun _ b104 => PX0_shift_104_b N K  b104) n
set_option maxHeartbeats 4000000 in
set_option maxRecDepth 100000 in
theorem wX0_shift_104 {p : Program} {l : Launch} {e : Env} {s : State} {m : MethodId} {below : List Frame} {meth : Method} {c : Code} {args : Array Value} {D : va_G} {Y : Nat → ClassId} {A : Nat → Prop} {o : Nat} {a : Nat → Nat} {N : Nat} {K : Int32 → mb_m → Prop} (C : mb_Cx p s m meth c args cX0_shift 8 (some .int) wsX0_shift RX0 D Y A) : ∀ (n : Nat), (∀ (M : mb_m) (x4 x5 x6 x7 : Int32) (H : Heap) (locs : List Loc) (ls : Array Slot), PX0_shift_104 N K  n M x4 x5 x6 x7 → va_P D vwCl (gw0 Y o a M) H → va_D A (gw0 Y o a M) → va_S A s.heap H locs → lv_has ls 8 [(0, .ref o), (4, .int x4), (5, .int x5), (6, .int x6), (7, .int x7)] → W p l e ({ frames := 1, cells := 0, slots := 0, locals := 22 } : Room) s m args below meth c H locs 0 0 (MQ below (va_Qi K (fun u t => mb_T D A (gw0 Y o a u) t) A) args s 0 0 A) (F0 m 104 ls [])) := by
  obtain ⟨hx, hb, hr, hml, hts, hown, hlocks, hA, hG⟩ := id C
  have hK := hG.1
  intro n
  induction n with
  | zero => intro M x4 x5 x6 x7 H locs ls hF; exact (show False from hF).elim
  | succ n ih =>
    intro M x4 x5 x6 x7 H locs ls hF hP hD hS hl
    have hF : PX0_shift_104_b N K  (PX0_shift_104 N K  n) M x4 x5 x6 x7 := hF
    refine lv_iload hx hb dX0_shift_104 (lv_at hl 4 rfl) ?_
    refine lv_bipush (v := 8) hx hb dX0_shift_106 (by decide) ?_
    refine lv_icmp_ge (tgt := 178) hx hb dX0_shift_108 (by decide) (fun c_108 => ?_) (fun c_108 => ?_)
    · have hF := hF.1 c_108
      refine lv_iload hx hb dX0_shift_178 (lv_at hl 3 rfl) ?_
      exact mb_ri (S := mb_m) (mc := 0) (ms := 0) (wf := fun u => gw0 Y o a u) C rfl (u := M) hF hP hD hS dX0_shift_180 (Nat.le_of_ble_eq_true rfl) (Nat.le_of_ble_eq_true rfl)
    · have hF := hF.2 c_108
      refine lv_aload_n hx hb dX0_shift_111 rfl (lv_at hl 0 rfl) ?_
      refine va_get (D := D) (ci := 0) (v := .ref (a 0)) (C := RX0) (T := TX0) (N := 5) hx hb hts (fun _ h9 => List.mem_cons_of_mem _ (List.mem_append_right _ (h9))) hown hK hP 0 rfl rfl 0 (by decide) (hts (.fieldLink RX0 9 "MarbleBench$Bath" "colours" "[I") (List.mem_of_getElem? (i := 2) rfl)) (fun _ h9 => h9) rfl dX0_shift_112 ?_
      refine lv_iload hx hb dX0_shift_115 (lv_at hl 1 rfl) ?_
      refine lv_iload hx hb dX0_shift_117 (lv_at hl 4 rfl) ?_
      refine lv_iload hx hb dX0_shift_119 (lv_at hl 2 rfl) ?_
      refine lv_imul hx hb dX0_shift_121 ?_
      refine lv_iadd hx hb dX0_shift_122 ?_
      refine lv_aload_n hx hb dX0_shift_123 rfl (lv_at hl 0 rfl) ?_
      refine va_get (D := D) (ci := 0) (v := .ref (a 3)) (C := RX0) (T := TX0) (N := 5) hx hb hts (fun _ h9 => List.mem_cons_of_mem _ (List.mem_append_right _ (h9))) hown hK hP 0 rfl rfl 3 (by decide) (hts (.fieldLink RX0 21 "MarbleBench$Bath" "lineColours" "[I") (List.mem_of_getElem? (i := 1) rfl)) (fun _ h9 => h9) rfl dX0_shift_124 ?_
      refine lv_iload hx hb dX0_shift_127 (lv_at hl 4 rfl) ?_
      obtain ⟨hi129, hF⟩ := hF
      refine va_iald hx hb hK hP 4 0 rfl rfl hi129 dX0_shift_129 ?_
      refine lv_topi (fun v130 ev130 => ?_)
      have hF := hF v130 ev130
      obtain ⟨hi130, hF⟩ := hF
      refine va_iast hx hb hK hP hD hS 1 0 rfl rfl hi130 dX0_shift_130 (fun H locs hP hD hS => ?_)
      obtain ⟨M130, eM130⟩ : ∃ y : mb_m, y = mb_u M 0 (upd (M 0) (x4 + (x7 * x5)).toNatClampNeg v130) := ⟨_, rfl⟩
      have hF := hF M130 eM130
      have hP : va_P D vwCl (gw0 Y o a (mb_u M 0 (upd (M 0) (x4 + (x7 * x5)).toNatClampNeg v130))) H := hP
      have hD : va_D A (gw0 Y o a (mb_u M 0 (upd (M 0) (x4 + (x7 * x5)).toNatClampNeg v130))) := hD
      rw [← eM130] at hP hD
      refine lv_aload_n hx hb dX0_shift_131 rfl (lv_at hl 0 rfl) ?_
      refine va_get (D := D) (ci := 0) (v := .ref (a 1)) (C := RX0) (T := TX0) (N := 5) hx hb hts (fun _ h9 => List.mem_cons_of_mem _ (List.mem_append_right _ (h9))) hown hK hP 0 rfl rfl 1 (by decide) (hts (.fieldLink RX0 15 "MarbleBench$Bath" "strengths" "[I") (List.mem_of_getElem? (i := 4) rfl)) (fun _ h9 => h9) rfl dX0_shift_132 ?_
      refine lv_iload hx hb dX0_shift_135 (lv_at hl 1 rfl) ?_
      refine lv_iload hx hb dX0_shift_137 (lv_at hl 4 rfl) ?_
      refine lv_iload hx hb dX0_shift_139 (lv_at hl 2 rfl) ?_
      refine lv_imul hx hb dX0_shift_141 ?_
      refine lv_iadd hx hb dX0_shift_142 ?_
      refine lv_aload_n hx hb dX0_shift_143 rfl (lv_at hl 0 rfl) ?_
      refine va_get (D := D) (ci := 0) (v := .ref (a 4)) (C := RX0) (T := TX0) (N := 5) hx hb hts (fun _ h9 => List.mem_cons_of_mem _ (List.mem_append_right _ (h9))) hown hK hP 0 rfl rfl 4 (by decide) (hts (.fieldLink RX0 24 "MarbleBench$Bath" "lineStrengths" "[I") (List.mem_of_getElem? (i := 3) rfl)) (fun _ h9 => h9) rfl dX0_shift_144 ?_
      refine lv_iload hx hb dX0_shift_147 (lv_at hl 4 rfl) ?_
      obtain ⟨hi149, hF⟩ := hF
      refine va_iald hx hb hK hP 5 0 rfl rfl hi149 dX0_shift_149 ?_
      refine lv_topi (fun v150 ev150 => ?_)
      have hF := hF v150 ev150
      obtain ⟨hi150, hF⟩ := hF
      refine va_iast hx hb hK hP hD hS 2 0 rfl rfl hi150 dX0_shift_150 (fun H locs hP hD hS => ?_)
      obtain ⟨M150, eM150⟩ : ∃ y : mb_m, y = mb_u M130 1 (upd (M130 1) (x4 + (x7 * x5)).toNatClampNeg v150) := ⟨_, rfl⟩
      have hF := hF M150 eM150
      have hP : va_P D vwCl (gw0 Y o a (mb_u M130 1 (upd (M130 1) (x4 + (x7 * x5)).toNatClampNeg v150))) H := hP
      have hD : va_D A (gw0 Y o a (mb_u M130 1 (upd (M130 1) (x4 + (x7 * x5)).toNatClampNeg v150))) := hD
      rw [← eM150] at hP hD
      refine lv_iload hx hb dX0_shift_151 (lv_at hl 3 rfl) ?_
      refine lv_aload_n hx hb dX0_shift_153 rfl (lv_at hl 0 rfl) ?_
      refine va_get (D := D) (ci := 0) (v := .ref (a 3)) (C := RX0) (T := TX0) (N := 5) hx hb hts (fun _ h9 => List.mem_cons_of_mem _ (List.mem_append_right _ (h9))) hown hK hP 0 rfl rfl 3 (by decide) (hts (.fieldLink RX0 21 "MarbleBench$Bath" "lineColours" "[I") (List.mem_of_getElem? (i := 1) rfl)) (fun _ h9 => h9) rfl dX0_shift_154 ?_
      refine lv_iload hx hb dX0_shift_157 (lv_at hl 4 rfl) ?_
      obtain ⟨hi159, hF⟩ := hF
      refine va_iald hx hb hK hP 4 0 rfl rfl hi159 dX0_shift_159 ?_
      refine lv_iconst (v := -1) hx hb dX0_shift_160 (by decide) ?_
      refine lv_icmp_ne (tgt := 168) hx hb dX0_shift_161 (by decide) (fun c_161 => ?_) (fun c_161 => ?_)
      · have hF := hF.1 c_161
        refine lv_iconst (v := 1) hx hb dX0_shift_168 (by decide) ?_
        exact wX0_shift_169 C ih M150 x4 x5 x7 (1 : Int32) x6 _ _ _ hF hP hD hS (lv_sub hl [0, 1, 2, 4] rfl)
      · have hF := hF.2 c_161
        refine lv_iconst (v := 0) hx hb dX0_shift_164 (by decide) ?_
        refine lv_goto (tgt := 169) hx hb dX0_shift_165 (by decide) ?_
        exact wX0_shift_169 C ih M150 x4 x5 x7 (0 : Int32) x6 _ _ _ hF hP hD hS (lv_sub hl [0, 1, 2, 4] rfl)
noncomputable def PX0_shift_34_b (N : Nat) (K : Int32 → mb_m → Prop) (b34 : mb_m → Int32 → Int32 → Int32 → Int32 → Prop) (M : mb_m) (x3 x4 x5 x6 : Int32) : Prop := ((8 : Int32) ≤ x6 → PX0_shift_104 N K N M x4 x5 (0 : Int32) (0 : Int32)) ∧ (¬ (8 : Int32) ≤ x6 → PJ9_floorMod_7cf53 N (x6 + x3) (8 : Int32) (fun r47 _ => vp_in (x4 + (x6 * x5)) 64 ∧ (∀ v71 : Int32, v71 = (M 0 (x4 + (x6 * x5)).toNatClampNeg) → (vp_in r47 8 ∧ (∀ M71 : mb_m, M71 = mb_u M 3 (upd (M 3) r47.toNatClampNeg v71) → (vp_in (x4 + (x6 * x5)) 64 ∧ (∀ v91 : Int32, v91 = (M71 1 (x4 + (x6 * x5)).toNatClampNeg) → (vp_in r47 8 ∧ (∀ M91 : mb_m, M91 = mb_u M71 4 (upd (M71 4) r47.toNatClampNeg v91) → (∀ v92 : Int32, v92 = x6 + (1 : Int32) → (b34 M91 x3 x4 x5 v92)))))))))))
noncomputable def PX0_shift_34 (N : Nat) (K : Int32 → mb_m → Prop) (n : Nat) : mb_m → Int32 → Int32 → Int32 → Int32 → Prop := Nat.rec (motive := fun _ => mb_m → Int32 → Int32 → Int32 → Int32 → Prop) (fun _ _ _ _ _ => False) (fun _ b34 => PX0_shift_34_b N K  b34) n
set_option maxHeartbeats 4000000 in
set_option maxRecDepth 100000 in
theorem wX0_shift_34 {p : Program} {l : Launch} {e : Env} {s : State} {m : MethodId} {below : List Frame} {meth : Method} {c : Code} {args : Array Value} {D : va_G} {Y : Nat → ClassId} {A : Nat → Prop} {o : Nat} {a : Nat → Nat} {N : Nat} {K : Int32 → mb_m → Prop} (C : mb_Cx p s m meth c args cX0_shift 8 (some .int) wsX0_shift RX0 D Y A) : ∀ (n : Nat), (∀ (M : mb_m) (x3 x4 x5 x6 : Int32) (H : Heap) (locs : List Loc) (ls : Array Slot), PX0_shift_34 N K  n M x3 x4 x5 x6 → va_P D vwCl (gw0 Y o a M) H → va_D A (gw0 Y o a M) → va_S A s.heap H locs → lv_has ls 8 [(0, .ref o), (3, .int x3), (4, .int x4), (5, .int x5), (6, .int x6)] → W p l e ({ frames := 1, cells := 0, slots := 0, locals := 22 } : Room) s m args below meth c H locs 0 0 (MQ below (va_Qi K (fun u t => mb_T D A (gw0 Y o a u) t) A) args s 0 0 A) (F0 m 34 ls [])) := by
  obtain ⟨hx, hb, hr, hml, hts, hown, hlocks, hA, hG⟩ := id C
  have hK := hG.1
  intro n
  induction n with
  | zero => intro M x3 x4 x5 x6 H locs ls hF; exact (show False from hF).elim
  | succ n ih =>
    intro M x3 x4 x5 x6 H locs ls hF hP hD hS hl
    have hF : PX0_shift_34_b N K  (PX0_shift_34 N K  n) M x3 x4 x5 x6 := hF
    refine lv_iload hx hb dX0_shift_34 (lv_at hl 4 rfl) ?_
    refine lv_bipush (v := 8) hx hb dX0_shift_36 (by decide) ?_
    refine lv_icmp_ge (tgt := 98) hx hb dX0_shift_38 (by decide) (fun c_38 => ?_) (fun c_38 => ?_)
    · have hF := hF.1 c_38
      refine lv_iconst (v := 0) hx hb dX0_shift_98 (by decide) ?_
      refine lv_istore (lv' := [(6, .int (0 : Int32)), (0, .ref o), (3, .int x3), (4, .int x4), (5, .int x5)]) hx hb dX0_shift_99 hl (by decide) rfl (fun ls hl => ?_)
      refine lv_iconst (v := 0) hx hb dX0_shift_101 (by decide) ?_
      refine lv_istore (lv' := [(7, .int (0 : Int32)), (6, .int (0 : Int32)), (0, .ref o), (3, .int x3), (4, .int x4), (5, .int x5)]) hx hb dX0_shift_102 hl (by decide) rfl (fun ls hl => ?_)
      exact wX0_shift_104 C N M x4 x5 (0 : Int32) (0 : Int32) _ _ _ hF hP hD hS (lv_sub hl [2, 4, 5, 1, 0] rfl)
    · have hF := hF.2 c_38
      refine lv_iload hx hb dX0_shift_41 (lv_at hl 4 rfl) ?_
      refine lv_iload_n hx hb dX0_shift_43 rfl (lv_at hl 1 rfl) ?_
      refine lv_iadd hx hb dX0_shift_44 ?_
      refine lv_bipush (v := 8) hx hb dX0_shift_45 (by decide) ?_
      refine mb_cE hP hS hA (va_runS (As := [.int (x6 + x3), .int (8 : Int32)]) (rest := []) ⟨hx, hb, hml, hown, hts⟩ (cnJ9_floorMod_7cf53 l D Y N _ (x6 + x3) (8 : Int32) _ hF) (va_cwS 2 hts gX0_shift_J9_floorMod_7cf53 rfl rfl rfl (by decide +kernel) ⟨Nat.le_of_ble_eq_true rfl, Nat.le_of_ble_eq_true rfl⟩) (mb_preS (A := A) hG mb_P0 mb_D0) rfl rfl hl.1 rfl (lv_room (Nat.le_of_ble_eq_true rfl)) dX0_shift_47 ⟨Nat.le_of_ble_eq_true rfl, Nat.le_of_ble_eq_true rfl⟩) (fun r47 H locs hF hP hS => ?_)
      refine lv_istore (lv' := [(7, .int r47), (0, .ref o), (3, .int x3), (4, .int x4), (5, .int x5), (6, .int x6)]) hx hb dX0_shift_50 hl (by decide) rfl (fun ls hl => ?_)
      refine lv_aload_n hx hb dX0_shift_52 rfl (lv_at hl 1 rfl) ?_
      refine va_get (D := D) (ci := 0) (v := .ref (a 3)) (C := RX0) (T := TX0) (N := 5) hx hb hts (fun _ h9 => List.mem_cons_of_mem _ (List.mem_append_right _ (h9))) hown hK hP 0 rfl rfl 3 (by decide) (hts (.fieldLink RX0 21 "MarbleBench$Bath" "lineColours" "[I") (List.mem_of_getElem? (i := 1) rfl)) (fun _ h9 => h9) rfl dX0_shift_53 ?_
      refine lv_iload hx hb dX0_shift_56 (lv_at hl 0 rfl) ?_
      refine lv_aload_n hx hb dX0_shift_58 rfl (lv_at hl 1 rfl) ?_
      refine va_get (D := D) (ci := 0) (v := .ref (a 0)) (C := RX0) (T := TX0) (N := 5) hx hb hts (fun _ h9 => List.mem_cons_of_mem _ (List.mem_append_right _ (h9))) hown hK hP 0 rfl rfl 0 (by decide) (hts (.fieldLink RX0 9 "MarbleBench$Bath" "colours" "[I") (List.mem_of_getElem? (i := 2) rfl)) (fun _ h9 => h9) rfl dX0_shift_59 ?_
      refine lv_iload hx hb dX0_shift_62 (lv_at hl 3 rfl) ?_
      refine lv_iload hx hb dX0_shift_64 (lv_at hl 5 rfl) ?_
      refine lv_iload hx hb dX0_shift_66 (lv_at hl 4 rfl) ?_
      refine lv_imul hx hb dX0_shift_68 ?_
      refine lv_iadd hx hb dX0_shift_69 ?_
      obtain ⟨hi70, hF⟩ := hF
      refine va_iald hx hb hK hP 1 0 rfl rfl hi70 dX0_shift_70 ?_
      refine lv_topi (fun v71 ev71 => ?_)
      have hF := hF v71 ev71
      obtain ⟨hi71, hF⟩ := hF
      refine va_iast hx hb hK hP hD hS 4 0 rfl rfl hi71 dX0_shift_71 (fun H locs hP hD hS => ?_)
      obtain ⟨M71, eM71⟩ : ∃ y : mb_m, y = mb_u M 3 (upd (M 3) r47.toNatClampNeg v71) := ⟨_, rfl⟩
      have hF := hF M71 eM71
      have hP : va_P D vwCl (gw0 Y o a (mb_u M 3 (upd (M 3) r47.toNatClampNeg v71))) H := hP
      have hD : va_D A (gw0 Y o a (mb_u M 3 (upd (M 3) r47.toNatClampNeg v71))) := hD
      rw [← eM71] at hP hD
      refine lv_aload_n hx hb dX0_shift_72 rfl (lv_at hl 1 rfl) ?_
      refine va_get (D := D) (ci := 0) (v := .ref (a 4)) (C := RX0) (T := TX0) (N := 5) hx hb hts (fun _ h9 => List.mem_cons_of_mem _ (List.mem_append_right _ (h9))) hown hK hP 0 rfl rfl 4 (by decide) (hts (.fieldLink RX0 24 "MarbleBench$Bath" "lineStrengths" "[I") (List.mem_of_getElem? (i := 3) rfl)) (fun _ h9 => h9) rfl dX0_shift_73 ?_
      refine lv_iload hx hb dX0_shift_76 (lv_at hl 0 rfl) ?_
      refine lv_aload_n hx hb dX0_shift_78 rfl (lv_at hl 1 rfl) ?_
      refine va_get (D := D) (ci := 0) (v := .ref (a 1)) (C := RX0) (T := TX0) (N := 5) hx hb hts (fun _ h9 => List.mem_cons_of_mem _ (List.mem_append_right _ (h9))) hown hK hP 0 rfl rfl 1 (by decide) (hts (.fieldLink RX0 15 "MarbleBench$Bath" "strengths" "[I") (List.mem_of_getElem? (i := 4) rfl)) (fun _ h9 => h9) rfl dX0_shift_79 ?_
      refine lv_iload hx hb dX0_shift_82 (lv_at hl 3 rfl) ?_
      refine lv_iload hx hb dX0_shift_84 (lv_at hl 5 rfl) ?_
      refine lv_iload hx hb dX0_shift_86 (lv_at hl 4 rfl) ?_
      refine lv_imul hx hb dX0_shift_88 ?_
      refine lv_iadd hx hb dX0_shift_89 ?_
      obtain ⟨hi90, hF⟩ := hF
      refine va_iald hx hb hK hP 2 0 rfl rfl hi90 dX0_shift_90 ?_
      refine lv_topi (fun v91 ev91 => ?_)
      have hF := hF v91 ev91
      obtain ⟨hi91, hF⟩ := hF
      refine va_iast hx hb hK hP hD hS 5 0 rfl rfl hi91 dX0_shift_91 (fun H locs hP hD hS => ?_)
      obtain ⟨M91, eM91⟩ : ∃ y : mb_m, y = mb_u M71 4 (upd (M71 4) r47.toNatClampNeg v91) := ⟨_, rfl⟩
      have hF := hF M91 eM91
      have hP : va_P D vwCl (gw0 Y o a (mb_u M71 4 (upd (M71 4) r47.toNatClampNeg v91))) H := hP
      have hD : va_D A (gw0 Y o a (mb_u M71 4 (upd (M71 4) r47.toNatClampNeg v91))) := hD
      rw [← eM91] at hP hD
      obtain ⟨v92, ev92⟩ : ∃ y : Int32, y = x6 + (1 : Int32) := ⟨_, rfl⟩
      have hF := hF v92 ev92
      refine lv_iinc (v := v92) (lv' := [(6, .int v92), (7, .int r47), (0, .ref o), (3, .int x3), (4, .int x4), (5, .int x5)]) hx hb dX0_shift_92 hl (k := 5) rfl (by rw [ev92]; rfl) (by decide) rfl (fun ls hl => ?_)
      refine lv_goto (tgt := 34) hx hb dX0_shift_95 (by decide) ?_
      exact ih M91 x3 x4 x5 v92 _ _ _ hF hP hD hS (lv_sub hl [2, 3, 4, 5, 0] rfl)
noncomputable def PX0_shift_29 (N : Nat) (K : Int32 → mb_m → Prop) (M : mb_m) (x3 x4 y0 : Int32) : Prop := PX0_shift_34 N K N M x3 x4 y0 (0 : Int32)
set_option maxHeartbeats 4000000 in
set_option maxRecDepth 100000 in
theorem wX0_shift_29 {p : Program} {l : Launch} {e : Env} {s : State} {m : MethodId} {below : List Frame} {meth : Method} {c : Code} {args : Array Value} {D : va_G} {Y : Nat → ClassId} {A : Nat → Prop} {o : Nat} {a : Nat → Nat} {N : Nat} {K : Int32 → mb_m → Prop} (C : mb_Cx p s m meth c args cX0_shift 8 (some .int) wsX0_shift RX0 D Y A) : ∀ (M : mb_m) (x3 x4 y0 : Int32) (H : Heap) (locs : List Loc) (ls : Array Slot), PX0_shift_29 N K  M x3 x4 y0 → va_P D vwCl (gw0 Y o a M) H → va_D A (gw0 Y o a M) → va_S A s.heap H locs → lv_has ls 8 [(0, .ref o), (3, .int x3), (4, .int x4)] → W p l e ({ frames := 1, cells := 0, slots := 0, locals := 22 } : Room) s m args below meth c H locs 0 0 (MQ below (va_Qi K (fun u t => mb_T D A (gw0 Y o a u) t) A) args s 0 0 A) (F0 m 29 ls [.int y0]) := by
  obtain ⟨hx, hb, hr, hml, hts, hown, hlocks, hA, hG⟩ := id C
  have hK := hG.1
  intro M x3 x4 y0 H locs ls hF hP hD hS hl
  refine lv_istore (lv' := [(5, .int y0), (0, .ref o), (3, .int x3), (4, .int x4)]) hx hb dX0_shift_29 hl (by decide) rfl (fun ls hl => ?_)
  refine lv_iconst (v := 0) hx hb dX0_shift_31 (by decide) ?_
  refine lv_istore (lv' := [(6, .int (0 : Int32)), (5, .int y0), (0, .ref o), (3, .int x3), (4, .int x4)]) hx hb dX0_shift_32 hl (by decide) rfl (fun ls hl => ?_)
  exact wX0_shift_34 C N M x3 x4 y0 (0 : Int32) _ _ _ hF hP hD hS (lv_sub hl [2, 3, 4, 1, 0] rfl)
noncomputable def PX0_shift_17 (N : Nat) (K : Int32 → mb_m → Prop) (M : mb_m) (x1 x3 y0 : Int32) : Prop := (x1 = 0 → PX0_shift_29 N K M x3 y0 (8 : Int32)) ∧ (¬ x1 = 0 → PX0_shift_29 N K M x3 y0 (1 : Int32))
set_option maxHeartbeats 4000000 in
set_option maxRecDepth 100000 in
theorem wX0_shift_17 {p : Program} {l : Launch} {e : Env} {s : State} {m : MethodId} {below : List Frame} {meth : Method} {c : Code} {args : Array Value} {D : va_G} {Y : Nat → ClassId} {A : Nat → Prop} {o : Nat} {a : Nat → Nat} {N : Nat} {K : Int32 → mb_m → Prop} (C : mb_Cx p s m meth c args cX0_shift 8 (some .int) wsX0_shift RX0 D Y A) : ∀ (M : mb_m) (x1 x3 y0 : Int32) (H : Heap) (locs : List Loc) (ls : Array Slot), PX0_shift_17 N K  M x1 x3 y0 → va_P D vwCl (gw0 Y o a M) H → va_D A (gw0 Y o a M) → va_S A s.heap H locs → lv_has ls 8 [(0, .ref o), (1, .int x1), (3, .int x3)] → W p l e ({ frames := 1, cells := 0, slots := 0, locals := 22 } : Room) s m args below meth c H locs 0 0 (MQ below (va_Qi K (fun u t => mb_T D A (gw0 Y o a u) t) A) args s 0 0 A) (F0 m 17 ls [.int y0]) := by
  obtain ⟨hx, hb, hr, hml, hts, hown, hlocks, hA, hG⟩ := id C
  have hK := hG.1
  intro M x1 x3 y0 H locs ls hF hP hD hS hl
  refine lv_istore (lv' := [(4, .int y0), (0, .ref o), (1, .int x1), (3, .int x3)]) hx hb dX0_shift_17 hl (by decide) rfl (fun ls hl => ?_)
  refine lv_iload_n hx hb dX0_shift_19 rfl (lv_at hl 2 rfl) ?_
  refine lv_if_eq (tgt := 27) hx hb dX0_shift_20 (by decide) (fun c_20 => ?_) (fun c_20 => ?_)
  · have hF := hF.1 c_20
    refine lv_bipush (v := 8) hx hb dX0_shift_27 (by decide) ?_
    exact wX0_shift_29 C M x3 y0 (8 : Int32) _ _ _ hF hP hD hS (lv_sub hl [1, 3, 0] rfl)
  · have hF := hF.2 c_20
    refine lv_iconst (v := 1) hx hb dX0_shift_23 (by decide) ?_
    refine lv_goto (tgt := 29) hx hb dX0_shift_24 (by decide) ?_
    exact wX0_shift_29 C M x3 y0 (1 : Int32) _ _ _ hF hP hD hS (lv_sub hl [1, 3, 0] rfl)
noncomputable def PX0_shift (N : Nat) (M : mb_m) (x1 x2 x3 : Int32) (K : Int32 → mb_m → Prop) : Prop := (x1 = 0 → PX7_cellOf N x2 (0 : Int32) (fun r14 _ => PX0_shift_17 N K M x1 x3 r14)) ∧ (¬ x1 = 0 → PX7_cellOf N (0 : Int32) x2 (fun r6 _ => PX0_shift_17 N K M x1 x3 r6))
set_option maxHeartbeats 4000000 in
set_option maxRecDepth 100000 in
theorem cnX0_shift (l : Launch) (D : va_G) (Y : Nat → ClassId) (N : Nat) (o : Nat) (a : Nat → Nat) (M : mb_m) (sz : Nat) (x1 x2 x3 : Int32) (K : Int32 → mb_m → Prop) (hF : PX0_shift N M x1 x2 x3 K) : Met l yX0_shift wsX0_shift ({ frames := 1, cells := 0, slots := 0, locals := 22 } : Room) (va_Pc [.ref o, .int x1, .int x2, .int x3] (mb_B D Y (gw0 Y o a M) sz)) (va_Qi K (fun u t => mb_T D (va_A (gw0 Y o a M) sz) (gw0 Y o a u) t) (va_A (gw0 Y o a M) sz)) 0 0 (va_A (gw0 Y o a M) sz) := by
  refine mb_begin (cc := cX0_shift) (maxL := 8) (ret := (some .int)) (by decide +kernel) rfl (Nat.le_of_ble_eq_true rfl) ?_
  intro p e s m below meth c ls C hsz hnm hP hD hl
  generalize hAe : va_A (gw0 Y o a M) sz = A at C hD ⊢
  have C : mb_Cx p s m meth c ([.ref o, .int x1, .int x2, .int x3] : List Value).toArray cX0_shift 8 (some .int) wsX0_shift RX0 D Y A := C
  obtain ⟨hx, hb, hr, hml, hts, hown, hlocks, hA, hG⟩ := id C
  have hK := hG.1
  have hS : va_S A s.heap s.heap [] := va_S.rf
  have hl : lv_has ls 8 [(0, .ref o), (1, .int x1), (2, .int x2), (3, .int x3)] := hl
  refine lv_iload_n hx hb dX0_shift_0 rfl (lv_at hl 1 rfl) ?_
  refine lv_if_eq (tgt := 12) hx hb dX0_shift_1 (by decide) (fun c_1 => ?_) (fun c_1 => ?_)
  · have hF := hF.1 c_1
    refine lv_iload_n hx hb dX0_shift_12 rfl (lv_at hl 2 rfl) ?_
    refine lv_iconst (v := 0) hx hb dX0_shift_13 (by decide) ?_
    refine mb_cE hP hS hA (va_runSN (As := [.int x2, .int (0 : Int32)]) (rest := []) ⟨hx, hb, hml, hown, hts⟩ (cnX7_cellOf l D Y N _ x2 (0 : Int32) _ hF) ⟨va_cnB 2 hts gX0_shift_X7_cellOf_n35 rfl rfl rfl (hG.2.1 _ (List.mem_of_getElem? (i := 20) rfl)) (hts (.initialized RX7) (List.mem_of_getElem? (i := 6) rfl)) (by decide +kernel) ⟨Nat.le_of_ble_eq_true rfl, Nat.le_of_ble_eq_true rfl⟩, hts (.static yX7_cellOf) (List.mem_of_getElem? (i := 5) rfl), trivial⟩ (mb_preS (A := A) hG mb_P0 mb_D0) rfl rfl hl.1 rfl (lv_room (Nat.le_of_ble_eq_true rfl)) dX0_shift_14 ⟨Nat.le_of_ble_eq_true rfl, Nat.le_of_ble_eq_true rfl⟩) (fun r14 H locs hF hP hS => ?_)
    exact wX0_shift_17 C M x1 x3 r14 _ _ _ hF hP hD hS (lv_sub hl [0, 1, 3] rfl)
  · have hF := hF.2 c_1
    refine lv_iconst (v := 0) hx hb dX0_shift_4 (by decide) ?_
    refine lv_iload_n hx hb dX0_shift_5 rfl (lv_at hl 2 rfl) ?_
    refine mb_cE hP hS hA (va_runSN (As := [.int (0 : Int32), .int x2]) (rest := []) ⟨hx, hb, hml, hown, hts⟩ (cnX7_cellOf l D Y N _ (0 : Int32) x2 _ hF) ⟨va_cnB 2 hts gX0_shift_X7_cellOf_n35 rfl rfl rfl (hG.2.1 _ (List.mem_of_getElem? (i := 20) rfl)) (hts (.initialized RX7) (List.mem_of_getElem? (i := 6) rfl)) (by decide +kernel) ⟨Nat.le_of_ble_eq_true rfl, Nat.le_of_ble_eq_true rfl⟩, hts (.static yX7_cellOf) (List.mem_of_getElem? (i := 5) rfl), trivial⟩ (mb_preS (A := A) hG mb_P0 mb_D0) rfl rfl hl.1 rfl (lv_room (Nat.le_of_ble_eq_true rfl)) dX0_shift_6 ⟨Nat.le_of_ble_eq_true rfl, Nat.le_of_ble_eq_true rfl⟩) (fun r6 H locs hF hP hS => ?_)
    refine lv_goto (tgt := 17) hx hb dX0_shift_9 (by decide) ?_
    exact wX0_shift_17 C M x1 x3 r6 _ _ _ hF hP hD hS (lv_sub hl [0, 1, 3] rfl)
end
section
noncomputable def PX0_fade_53 (N : Nat) (K : mb_m → Prop) (b2 : mb_m → Int32 → Prop) (M : mb_m) (x1 : Int32) : Prop := ∀ v53 : Int32, v53 = x1 + (1 : Int32) → (b2 M v53)
set_option maxHeartbeats 4000000 in
set_option maxRecDepth 100000 in
theorem wX0_fade_53 {p : Program} {l : Launch} {e : Env} {s : State} {m : MethodId} {below : List Frame} {meth : Method} {c : Code} {args : Array Value} {D : va_G} {Y : Nat → ClassId} {A : Nat → Prop} {o : Nat} {a : Nat → Nat} {N : Nat} {K : mb_m → Prop} {b2 : mb_m → Int32 → Prop} (C : mb_Cx p s m meth c args cX0_fade 2 none wsX0_fade RX0 D Y A) (hb2 : ∀ (M : mb_m) (x1 : Int32) (H : Heap) (locs : List Loc) (ls : Array Slot), b2 M x1 → va_P D vwCl (gw0 Y o a M) H → va_D A (gw0 Y o a M) → va_S A s.heap H locs → lv_has ls 2 [(0, .ref o), (1, .int x1)] → W p l e ({ frames := 0, cells := 0, slots := 0, locals := 0 } : Room) s m args below meth c H locs 0 0 (MQ below (va_Qv K (fun u t => mb_T D A (gw0 Y o a u) t) A) args s 0 0 A) (F0 m 2 ls [])) : ∀ (M : mb_m) (x1 : Int32) (H : Heap) (locs : List Loc) (ls : Array Slot), PX0_fade_53 N K b2 M x1 → va_P D vwCl (gw0 Y o a M) H → va_D A (gw0 Y o a M) → va_S A s.heap H locs → lv_has ls 2 [(0, .ref o), (1, .int x1)] → W p l e ({ frames := 0, cells := 0, slots := 0, locals := 0 } : Room) s m args below meth c H locs 0 0 (MQ below (va_Qv K (fun u t => mb_T D A (gw0 Y o a u) t) A) args s 0 0 A) (F0 m 53 ls []) := by
  obtain ⟨hx, hb, hr, hml, hts, hown, hlocks, hA, hG⟩ := id C
  have hK := hG.1
  intro M x1 H locs ls hF hP hD hS hl
  obtain ⟨v53, ev53⟩ : ∃ y : Int32, y = x1 + (1 : Int32) := ⟨_, rfl⟩
  have hF := hF v53 ev53
  refine lv_iinc (v := v53) (lv' := [(1, .int v53), (0, .ref o)]) hx hb dX0_fade_53 hl (k := 1) rfl (by rw [ev53]; rfl) (by decide) rfl (fun ls hl => ?_)
  refine lv_goto (tgt := 2) hx hb dX0_fade_56 (by decide) ?_
  exact hb2 M v53 _ _ _ hF hP hD hS (lv_sub hl [1, 0] rfl)
noncomputable def PX0_fade_52 (N : Nat) (K : mb_m → Prop) (b2 : mb_m → Int32 → Prop) (M : mb_m) (x1 y0 y1 : Int32) : Prop := vp_in y1 64 ∧ (∀ M52 : mb_m, M52 = mb_u M 0 (upd (M 0) y1.toNatClampNeg y0) → (PX0_fade_53 N K b2 M52 x1))
set_option maxHeartbeats 4000000 in
set_option maxRecDepth 100000 in
theorem wX0_fade_52 {p : Program} {l : Launch} {e : Env} {s : State} {m : MethodId} {below : List Frame} {meth : Method} {c : Code} {args : Array Value} {D : va_G} {Y : Nat → ClassId} {A : Nat → Prop} {o : Nat} {a : Nat → Nat} {N : Nat} {K : mb_m → Prop} {b2 : mb_m → Int32 → Prop} (C : mb_Cx p s m meth c args cX0_fade 2 none wsX0_fade RX0 D Y A) (hb2 : ∀ (M : mb_m) (x1 : Int32) (H : Heap) (locs : List Loc) (ls : Array Slot), b2 M x1 → va_P D vwCl (gw0 Y o a M) H → va_D A (gw0 Y o a M) → va_S A s.heap H locs → lv_has ls 2 [(0, .ref o), (1, .int x1)] → W p l e ({ frames := 0, cells := 0, slots := 0, locals := 0 } : Room) s m args below meth c H locs 0 0 (MQ below (va_Qv K (fun u t => mb_T D A (gw0 Y o a u) t) A) args s 0 0 A) (F0 m 2 ls [])) : ∀ (M : mb_m) (x1 y0 y1 : Int32) (H : Heap) (locs : List Loc) (ls : Array Slot), PX0_fade_52 N K b2 M x1 y0 y1 → va_P D vwCl (gw0 Y o a M) H → va_D A (gw0 Y o a M) → va_S A s.heap H locs → lv_has ls 2 [(0, .ref o), (1, .int x1)] → W p l e ({ frames := 0, cells := 0, slots := 0, locals := 0 } : Room) s m args below meth c H locs 0 0 (MQ below (va_Qv K (fun u t => mb_T D A (gw0 Y o a u) t) A) args s 0 0 A) (F0 m 52 ls [.int y0, .int y1, .ref (a 0)]) := by
  obtain ⟨hx, hb, hr, hml, hts, hown, hlocks, hA, hG⟩ := id C
  have hK := hG.1
  intro M x1 y0 y1 H locs ls hF hP hD hS hl
  obtain ⟨hi52, hF⟩ := hF
  refine va_iast hx hb hK hP hD hS 1 0 rfl rfl hi52 dX0_fade_52 (fun H locs hP hD hS => ?_)
  obtain ⟨M52, eM52⟩ : ∃ y : mb_m, y = mb_u M 0 (upd (M 0) y1.toNatClampNeg y0) := ⟨_, rfl⟩
  have hF := hF M52 eM52
  have hP : va_P D vwCl (gw0 Y o a (mb_u M 0 (upd (M 0) y1.toNatClampNeg y0))) H := hP
  have hD : va_D A (gw0 Y o a (mb_u M 0 (upd (M 0) y1.toNatClampNeg y0))) := hD
  rw [← eM52] at hP hD
  exact wX0_fade_53 C hb2 M52 x1 _ _ _ hF hP hD hS (lv_sub hl [0, 1] rfl)
noncomputable def PX0_fade_2_b (N : Nat) (K : mb_m → Prop) (b2 : mb_m → Int32 → Prop) (M : mb_m) (x1 : Int32) : Prop := ((64 : Int32) ≤ x1 → K M) ∧ (¬ (64 : Int32) ≤ x1 → vp_in x1 64 ∧ (((M 0 x1.toNatClampNeg) = (-1 : Int32) → PX0_fade_53 N K b2 M x1) ∧ (¬ (M 0 x1.toNatClampNeg) = (-1 : Int32) → vp_in x1 64 ∧ (∀ v27 : Int32, v27 = ((M 1 x1.toNatClampNeg) - (1 : Int32)) → (vp_in x1 64 ∧ (∀ M27 : mb_m, M27 = mb_u M 1 (upd (M 1) x1.toNatClampNeg v27) → (vp_in x1 64 ∧ (((M27 1 x1.toNatClampNeg) ≤ 0 → PX0_fade_52 N K b2 M27 x1 (-1 : Int32) x1) ∧ (¬ (M27 1 x1.toNatClampNeg) ≤ 0 → vp_in x1 64 ∧ (PX0_fade_52 N K b2 M27 x1 (M27 0 x1.toNatClampNeg) x1))))))))))
noncomputable def PX0_fade_2 (N : Nat) (K : mb_m → Prop) (n : Nat) : mb_m → Int32 → Prop := Nat.rec (motive := fun _ => mb_m → Int32 → Prop) (fun _ _ => False) (fun _ b2 => PX0_fade_2_b N K  b2) n
set_option maxHeartbeats 4000000 in
set_option maxRecDepth 100000 in
theorem wX0_fade_2 {p : Program} {l : Launch} {e : Env} {s : State} {m : MethodId} {below : List Frame} {meth : Method} {c : Code} {args : Array Value} {D : va_G} {Y : Nat → ClassId} {A : Nat → Prop} {o : Nat} {a : Nat → Nat} {N : Nat} {K : mb_m → Prop} (C : mb_Cx p s m meth c args cX0_fade 2 none wsX0_fade RX0 D Y A) : ∀ (n : Nat), (∀ (M : mb_m) (x1 : Int32) (H : Heap) (locs : List Loc) (ls : Array Slot), PX0_fade_2 N K  n M x1 → va_P D vwCl (gw0 Y o a M) H → va_D A (gw0 Y o a M) → va_S A s.heap H locs → lv_has ls 2 [(0, .ref o), (1, .int x1)] → W p l e ({ frames := 0, cells := 0, slots := 0, locals := 0 } : Room) s m args below meth c H locs 0 0 (MQ below (va_Qv K (fun u t => mb_T D A (gw0 Y o a u) t) A) args s 0 0 A) (F0 m 2 ls [])) := by
  obtain ⟨hx, hb, hr, hml, hts, hown, hlocks, hA, hG⟩ := id C
  have hK := hG.1
  intro n
  induction n with
  | zero => intro M x1 H locs ls hF; exact (show False from hF).elim
  | succ n ih =>
    intro M x1 H locs ls hF hP hD hS hl
    have hF : PX0_fade_2_b N K  (PX0_fade_2 N K  n) M x1 := hF
    refine lv_iload_n hx hb dX0_fade_2 rfl (lv_at hl 1 rfl) ?_
    refine lv_bipush (v := 64) hx hb dX0_fade_3 (by decide) ?_
    refine lv_icmp_ge (tgt := 59) hx hb dX0_fade_5 (by decide) (fun c_5 => ?_) (fun c_5 => ?_)
    · have hF := hF.1 c_5
      exact mb_rv (S := mb_m) (mc := 0) (ms := 0) (wf := fun u => gw0 Y o a u) C (u := M) hF hP hD hS dX0_fade_59 (Nat.le_of_ble_eq_true rfl) (Nat.le_of_ble_eq_true rfl)
    · have hF := hF.2 c_5
      refine lv_aload_n hx hb dX0_fade_8 rfl (lv_at hl 0 rfl) ?_
      refine va_get (D := D) (ci := 0) (v := .ref (a 0)) (C := RX0) (T := TX0) (N := 5) hx hb hts (fun _ h9 => List.mem_cons_of_mem _ (List.mem_append_right _ (h9))) hown hK hP 0 rfl rfl 0 (by decide) (hts (.fieldLink RX0 9 "MarbleBench$Bath" "colours" "[I") (List.mem_of_getElem? (i := 1) rfl)) (fun _ h9 => h9) rfl dX0_fade_9 ?_
      refine lv_iload_n hx hb dX0_fade_12 rfl (lv_at hl 1 rfl) ?_
      obtain ⟨hi13, hF⟩ := hF
      refine va_iald hx hb hK hP 1 0 rfl rfl hi13 dX0_fade_13 ?_
      refine lv_iconst (v := -1) hx hb dX0_fade_14 (by decide) ?_
      refine lv_icmp_eq (tgt := 53) hx hb dX0_fade_15 (by decide) (fun c_15 => ?_) (fun c_15 => ?_)
      · have hF := hF.1 c_15
        exact wX0_fade_53 C ih M x1 _ _ _ hF hP hD hS (lv_sub hl [0, 1] rfl)
      · have hF := hF.2 c_15
        refine lv_aload_n hx hb dX0_fade_18 rfl (lv_at hl 0 rfl) ?_
        refine va_get (D := D) (ci := 0) (v := .ref (a 1)) (C := RX0) (T := TX0) (N := 5) hx hb hts (fun _ h9 => List.mem_cons_of_mem _ (List.mem_append_right _ (h9))) hown hK hP 0 rfl rfl 1 (by decide) (hts (.fieldLink RX0 15 "MarbleBench$Bath" "strengths" "[I") (List.mem_of_getElem? (i := 2) rfl)) (fun _ h9 => h9) rfl dX0_fade_19 ?_
        refine lv_iload_n hx hb dX0_fade_22 rfl (lv_at hl 1 rfl) ?_
        refine lv_dup2_11 hx hb dX0_fade_23 rfl rfl ?_
        obtain ⟨hi24, hF⟩ := hF
        refine va_iald hx hb hK hP 2 0 rfl rfl hi24 dX0_fade_24 ?_
        refine lv_iconst (v := 1) hx hb dX0_fade_25 (by decide) ?_
        refine lv_isub hx hb dX0_fade_26 ?_
        refine lv_topi (fun v27 ev27 => ?_)
        have hF := hF v27 ev27
        obtain ⟨hi27, hF⟩ := hF
        refine va_iast hx hb hK hP hD hS 2 0 rfl rfl hi27 dX0_fade_27 (fun H locs hP hD hS => ?_)
        obtain ⟨M27, eM27⟩ : ∃ y : mb_m, y = mb_u M 1 (upd (M 1) x1.toNatClampNeg v27) := ⟨_, rfl⟩
        have hF := hF M27 eM27
        have hP : va_P D vwCl (gw0 Y o a (mb_u M 1 (upd (M 1) x1.toNatClampNeg v27))) H := hP
        have hD : va_D A (gw0 Y o a (mb_u M 1 (upd (M 1) x1.toNatClampNeg v27))) := hD
        rw [← eM27] at hP hD
        refine lv_aload_n hx hb dX0_fade_28 rfl (lv_at hl 0 rfl) ?_
        refine va_get (D := D) (ci := 0) (v := .ref (a 0)) (C := RX0) (T := TX0) (N := 5) hx hb hts (fun _ h9 => List.mem_cons_of_mem _ (List.mem_append_right _ (h9))) hown hK hP 0 rfl rfl 0 (by decide) (hts (.fieldLink RX0 9 "MarbleBench$Bath" "colours" "[I") (List.mem_of_getElem? (i := 1) rfl)) (fun _ h9 => h9) rfl dX0_fade_29 ?_
        refine lv_iload_n hx hb dX0_fade_32 rfl (lv_at hl 1 rfl) ?_
        refine lv_aload_n hx hb dX0_fade_33 rfl (lv_at hl 0 rfl) ?_
        refine va_get (D := D) (ci := 0) (v := .ref (a 1)) (C := RX0) (T := TX0) (N := 5) hx hb hts (fun _ h9 => List.mem_cons_of_mem _ (List.mem_append_right _ (h9))) hown hK hP 0 rfl rfl 1 (by decide) (hts (.fieldLink RX0 15 "MarbleBench$Bath" "strengths" "[I") (List.mem_of_getElem? (i := 2) rfl)) (fun _ h9 => h9) rfl dX0_fade_34 ?_
        refine lv_iload_n hx hb dX0_fade_37 rfl (lv_at hl 1 rfl) ?_
        obtain ⟨hi38, hF⟩ := hF
        refine va_iald hx hb hK hP 2 0 rfl rfl hi38 dX0_fade_38 ?_
        refine lv_if_le (tgt := 51) hx hb dX0_fade_39 (by decide) (fun c_39 => ?_) (fun c_39 => ?_)
        · have hF := hF.1 c_39
          refine lv_iconst (v := -1) hx hb dX0_fade_51 (by decide) ?_
          exact wX0_fade_52 C ih M27 x1 (-1 : Int32) x1 _ _ _ hF hP hD hS (lv_sub hl [0, 1] rfl)
        · have hF := hF.2 c_39
          refine lv_aload_n hx hb dX0_fade_42 rfl (lv_at hl 0 rfl) ?_
          refine va_get (D := D) (ci := 0) (v := .ref (a 0)) (C := RX0) (T := TX0) (N := 5) hx hb hts (fun _ h9 => List.mem_cons_of_mem _ (List.mem_append_right _ (h9))) hown hK hP 0 rfl rfl 0 (by decide) (hts (.fieldLink RX0 9 "MarbleBench$Bath" "colours" "[I") (List.mem_of_getElem? (i := 1) rfl)) (fun _ h9 => h9) rfl dX0_fade_43 ?_
          refine lv_iload_n hx hb dX0_fade_46 rfl (lv_at hl 1 rfl) ?_
          obtain ⟨hi47, hF⟩ := hF
          refine va_iald hx hb hK hP 1 0 rfl rfl hi47 dX0_fade_47 ?_
          refine lv_goto (tgt := 52) hx hb dX0_fade_48 (by decide) ?_
          exact wX0_fade_52 C ih M27 x1 (M27 0 x1.toNatClampNeg) x1 _ _ _ hF hP hD hS (lv_sub hl [0, 1] rfl)
noncomputable def PX0_fade (N : Nat) (M : mb_m) (K : mb_m → Prop) : Prop := PX0_fade_2 N K N M (0 : Int32)
set_option maxHeartbeats 4000000 in
set_option maxRecDepth 100000 in
theorem cnX0_fade (l : Launch) (D : va_G) (Y : Nat → ClassId) (N : Nat) (o : Nat) (a : Nat → Nat) (M : mb_m) (sz : Nat) (K : mb_m → Prop) (hF : PX0_fade N M K) : Met l yX0_fade wsX0_fade ({ frames := 0, cells := 0, slots := 0, locals := 0 } : Room) (va_Pc [.ref o] (mb_B D Y (gw0 Y o a M) sz)) (va_Qv K (fun u t => mb_T D (va_A (gw0 Y o a M) sz) (gw0 Y o a u) t) (va_A (gw0 Y o a M) sz)) 0 0 (va_A (gw0 Y o a M) sz) := by
  refine mb_begin (cc := cX0_fade) (maxL := 2) (ret := none) (by decide +kernel) rfl (Nat.le_of_ble_eq_true rfl) ?_
  intro p e s m below meth c ls C hsz hnm hP hD hl
  generalize hAe : va_A (gw0 Y o a M) sz = A at C hD ⊢
  have C : mb_Cx p s m meth c ([.ref o] : List Value).toArray cX0_fade 2 none wsX0_fade RX0 D Y A := C
  obtain ⟨hx, hb, hr, hml, hts, hown, hlocks, hA, hG⟩ := id C
  have hK := hG.1
  have hS : va_S A s.heap s.heap [] := va_S.rf
  have hl : lv_has ls 2 [(0, .ref o)] := hl
  refine lv_iconst (v := 0) hx hb dX0_fade_0 (by decide) ?_
  refine lv_istore_n (lv' := [(1, .int (0 : Int32)), (0, .ref o)]) hx hb dX0_fade_1 rfl hl (by decide) rfl (fun ls hl => ?_)
  exact wX0_fade_2 C N M (0 : Int32) _ _ _ hF hP hD hS (lv_sub hl [1, 0] rfl)
end
section
noncomputable def PX0_empty_26 (N : Nat) (K : Int32 → mb_m → Prop) (b4 : mb_m → Int32 → Int32 → Prop) (M : mb_m) (x2 y0 y1 : Int32) : Prop := ∀ v27 : Int32, v27 = (y1 + y0) → (vp_in x2 64 ∧ (∀ M34 : mb_m, M34 = mb_u M 0 (upd (M 0) x2.toNatClampNeg (-1 : Int32)) → (vp_in x2 64 ∧ (∀ M41 : mb_m, M41 = mb_u M34 1 (upd (M34 1) x2.toNatClampNeg (0 : Int32)) → (∀ v42 : Int32, v42 = x2 + (1 : Int32) → (b4 M41 v27 v42))))))
set_option maxHeartbeats 4000000 in
set_option maxRecDepth 100000 in
theorem wX0_empty_26 {p : Program} {l : Launch} {e : Env} {s : State} {m : MethodId} {below : List Frame} {meth : Method} {c : Code} {args : Array Value} {D : va_G} {Y : Nat → ClassId} {A : Nat → Prop} {o : Nat} {a : Nat → Nat} {N : Nat} {K : Int32 → mb_m → Prop} {b4 : mb_m → Int32 → Int32 → Prop} (C : mb_Cx p s m meth c args cX0_empty 3 (some .int) wsX0_empty RX0 D Y A) (hb4 : ∀ (M : mb_m) (x1 x2 : Int32) (H : Heap) (locs : List Loc) (ls : Array Slot), b4 M x1 x2 → va_P D vwCl (gw0 Y o a M) H → va_D A (gw0 Y o a M) → va_S A s.heap H locs → lv_has ls 3 [(0, .ref o), (1, .int x1), (2, .int x2)] → W p l e ({ frames := 0, cells := 0, slots := 0, locals := 0 } : Room) s m args below meth c H locs 0 0 (MQ below (va_Qi K (fun u t => mb_T D A (gw0 Y o a u) t) A) args s 0 0 A) (F0 m 4 ls [])) : ∀ (M : mb_m) (x2 y0 y1 : Int32) (H : Heap) (locs : List Loc) (ls : Array Slot), PX0_empty_26 N K b4 M x2 y0 y1 → va_P D vwCl (gw0 Y o a M) H → va_D A (gw0 Y o a M) → va_S A s.heap H locs → lv_has ls 3 [(0, .ref o), (2, .int x2)] → W p l e ({ frames := 0, cells := 0, slots := 0, locals := 0 } : Room) s m args below meth c H locs 0 0 (MQ below (va_Qi K (fun u t => mb_T D A (gw0 Y o a u) t) A) args s 0 0 A) (F0 m 26 ls [.int y0, .int y1]) := by
  obtain ⟨hx, hb, hr, hml, hts, hown, hlocks, hA, hG⟩ := id C
  have hK := hG.1
  intro M x2 y0 y1 H locs ls hF hP hD hS hl
  refine lv_iadd hx hb dX0_empty_26 ?_
  refine lv_topi (fun v27 ev27 => ?_)
  have hF := hF v27 ev27
  refine lv_istore_n (lv' := [(1, .int v27), (0, .ref o), (2, .int x2)]) hx hb dX0_empty_27 rfl hl (by decide) rfl (fun ls hl => ?_)
  refine lv_aload_n hx hb dX0_empty_28 rfl (lv_at hl 1 rfl) ?_
  refine va_get (D := D) (ci := 0) (v := .ref (a 0)) (C := RX0) (T := TX0) (N := 5) hx hb hts (fun _ h9 => List.mem_cons_of_mem _ (List.mem_append_right _ (h9))) hown hK hP 0 rfl rfl 0 (by decide) (hts (.fieldLink RX0 9 "MarbleBench$Bath" "colours" "[I") (List.mem_of_getElem? (i := 1) rfl)) (fun _ h9 => h9) rfl dX0_empty_29 ?_
  refine lv_iload_n hx hb dX0_empty_32 rfl (lv_at hl 2 rfl) ?_
  refine lv_iconst (v := -1) hx hb dX0_empty_33 (by decide) ?_
  obtain ⟨hi34, hF⟩ := hF
  refine va_iast hx hb hK hP hD hS 1 0 rfl rfl hi34 dX0_empty_34 (fun H locs hP hD hS => ?_)
  obtain ⟨M34, eM34⟩ : ∃ y : mb_m, y = mb_u M 0 (upd (M 0) x2.toNatClampNeg (-1 : Int32)) := ⟨_, rfl⟩
  have hF := hF M34 eM34
  have hP : va_P D vwCl (gw0 Y o a (mb_u M 0 (upd (M 0) x2.toNatClampNeg (-1 : Int32)))) H := hP
  have hD : va_D A (gw0 Y o a (mb_u M 0 (upd (M 0) x2.toNatClampNeg (-1 : Int32)))) := hD
  rw [← eM34] at hP hD
  refine lv_aload_n hx hb dX0_empty_35 rfl (lv_at hl 1 rfl) ?_
  refine va_get (D := D) (ci := 0) (v := .ref (a 1)) (C := RX0) (T := TX0) (N := 5) hx hb hts (fun _ h9 => List.mem_cons_of_mem _ (List.mem_append_right _ (h9))) hown hK hP 0 rfl rfl 1 (by decide) (hts (.fieldLink RX0 15 "MarbleBench$Bath" "strengths" "[I") (List.mem_of_getElem? (i := 2) rfl)) (fun _ h9 => h9) rfl dX0_empty_36 ?_
  refine lv_iload_n hx hb dX0_empty_39 rfl (lv_at hl 2 rfl) ?_
  refine lv_iconst (v := 0) hx hb dX0_empty_40 (by decide) ?_
  obtain ⟨hi41, hF⟩ := hF
  refine va_iast hx hb hK hP hD hS 2 0 rfl rfl hi41 dX0_empty_41 (fun H locs hP hD hS => ?_)
  obtain ⟨M41, eM41⟩ : ∃ y : mb_m, y = mb_u M34 1 (upd (M34 1) x2.toNatClampNeg (0 : Int32)) := ⟨_, rfl⟩
  have hF := hF M41 eM41
  have hP : va_P D vwCl (gw0 Y o a (mb_u M34 1 (upd (M34 1) x2.toNatClampNeg (0 : Int32)))) H := hP
  have hD : va_D A (gw0 Y o a (mb_u M34 1 (upd (M34 1) x2.toNatClampNeg (0 : Int32)))) := hD
  rw [← eM41] at hP hD
  obtain ⟨v42, ev42⟩ : ∃ y : Int32, y = x2 + (1 : Int32) := ⟨_, rfl⟩
  have hF := hF v42 ev42
  refine lv_iinc (v := v42) (lv' := [(2, .int v42), (1, .int v27), (0, .ref o)]) hx hb dX0_empty_42 hl (k := 2) rfl (by rw [ev42]; rfl) (by decide) rfl (fun ls hl => ?_)
  refine lv_goto (tgt := 4) hx hb dX0_empty_45 (by decide) ?_
  exact hb4 M41 v27 v42 _ _ _ hF hP hD hS (lv_sub hl [2, 1, 0] rfl)
noncomputable def PX0_empty_4_b (N : Nat) (K : Int32 → mb_m → Prop) (b4 : mb_m → Int32 → Int32 → Prop) (M : mb_m) (x1 x2 : Int32) : Prop := ((64 : Int32) ≤ x2 → K x1 M) ∧ (¬ (64 : Int32) ≤ x2 → vp_in x2 64 ∧ ((¬ (M 0 x2.toNatClampNeg) = (-1 : Int32) → PX0_empty_26 N K b4 M x2 (1 : Int32) x1) ∧ ((M 0 x2.toNatClampNeg) = (-1 : Int32) → PX0_empty_26 N K b4 M x2 (0 : Int32) x1)))
noncomputable def PX0_empty_4 (N : Nat) (K : Int32 → mb_m → Prop) (n : Nat) : mb_m → Int32 → Int32 → Prop := Nat.rec (motive := fun _ => mb_m → Int32 → Int32 → Prop) (fun _ _ _ => False) (fun _ b4 => PX0_empty_4_b N K  b4) n
set_option maxHeartbeats 4000000 in
set_option maxRecDepth 100000 in
theorem wX0_empty_4 {p : Program} {l : Launch} {e : Env} {s : State} {m : MethodId} {below : List Frame} {meth : Method} {c : Code} {args : Array Value} {D : va_G} {Y : Nat → ClassId} {A : Nat → Prop} {o : Nat} {a : Nat → Nat} {N : Nat} {K : Int32 → mb_m → Prop} (C : mb_Cx p s m meth c args cX0_empty 3 (some .int) wsX0_empty RX0 D Y A) : ∀ (n : Nat), (∀ (M : mb_m) (x1 x2 : Int32) (H : Heap) (locs : List Loc) (ls : Array Slot), PX0_empty_4 N K  n M x1 x2 → va_P D vwCl (gw0 Y o a M) H → va_D A (gw0 Y o a M) → va_S A s.heap H locs → lv_has ls 3 [(0, .ref o), (1, .int x1), (2, .int x2)] → W p l e ({ frames := 0, cells := 0, slots := 0, locals := 0 } : Room) s m args below meth c H locs 0 0 (MQ below (va_Qi K (fun u t => mb_T D A (gw0 Y o a u) t) A) args s 0 0 A) (F0 m 4 ls [])) := by
  obtain ⟨hx, hb, hr, hml, hts, hown, hlocks, hA, hG⟩ := id C
  have hK := hG.1
  intro n
  induction n with
  | zero => intro M x1 x2 H locs ls hF; exact (show False from hF).elim
  | succ n ih =>
    intro M x1 x2 H locs ls hF hP hD hS hl
    have hF : PX0_empty_4_b N K  (PX0_empty_4 N K  n) M x1 x2 := hF
    refine lv_iload_n hx hb dX0_empty_4 rfl (lv_at hl 2 rfl) ?_
    refine lv_bipush (v := 64) hx hb dX0_empty_5 (by decide) ?_
    refine lv_icmp_ge (tgt := 48) hx hb dX0_empty_7 (by decide) (fun c_7 => ?_) (fun c_7 => ?_)
    · have hF := hF.1 c_7
      refine lv_iload_n hx hb dX0_empty_48 rfl (lv_at hl 1 rfl) ?_
      exact mb_ri (S := mb_m) (mc := 0) (ms := 0) (wf := fun u => gw0 Y o a u) C rfl (u := M) hF hP hD hS dX0_empty_49 (Nat.le_of_ble_eq_true rfl) (Nat.le_of_ble_eq_true rfl)
    · have hF := hF.2 c_7
      refine lv_iload_n hx hb dX0_empty_10 rfl (lv_at hl 1 rfl) ?_
      refine lv_aload_n hx hb dX0_empty_11 rfl (lv_at hl 0 rfl) ?_
      refine va_get (D := D) (ci := 0) (v := .ref (a 0)) (C := RX0) (T := TX0) (N := 5) hx hb hts (fun _ h9 => List.mem_cons_of_mem _ (List.mem_append_right _ (h9))) hown hK hP 0 rfl rfl 0 (by decide) (hts (.fieldLink RX0 9 "MarbleBench$Bath" "colours" "[I") (List.mem_of_getElem? (i := 1) rfl)) (fun _ h9 => h9) rfl dX0_empty_12 ?_
      refine lv_iload_n hx hb dX0_empty_15 rfl (lv_at hl 2 rfl) ?_
      obtain ⟨hi16, hF⟩ := hF
      refine va_iald hx hb hK hP 1 0 rfl rfl hi16 dX0_empty_16 ?_
      refine lv_iconst (v := -1) hx hb dX0_empty_17 (by decide) ?_
      refine lv_icmp_ne (tgt := 25) hx hb dX0_empty_18 (by decide) (fun c_18 => ?_) (fun c_18 => ?_)
      · have hF := hF.1 c_18
        refine lv_iconst (v := 1) hx hb dX0_empty_25 (by decide) ?_
        exact wX0_empty_26 C ih M x2 (1 : Int32) x1 _ _ _ hF hP hD hS (lv_sub hl [0, 2] rfl)
      · have hF := hF.2 c_18
        refine lv_iconst (v := 0) hx hb dX0_empty_21 (by decide) ?_
        refine lv_goto (tgt := 26) hx hb dX0_empty_22 (by decide) ?_
        exact wX0_empty_26 C ih M x2 (0 : Int32) x1 _ _ _ hF hP hD hS (lv_sub hl [0, 2] rfl)
noncomputable def PX0_empty (N : Nat) (M : mb_m) (K : Int32 → mb_m → Prop) : Prop := PX0_empty_4 N K N M (0 : Int32) (0 : Int32)
set_option maxHeartbeats 4000000 in
set_option maxRecDepth 100000 in
theorem cnX0_empty (l : Launch) (D : va_G) (Y : Nat → ClassId) (N : Nat) (o : Nat) (a : Nat → Nat) (M : mb_m) (sz : Nat) (K : Int32 → mb_m → Prop) (hF : PX0_empty N M K) : Met l yX0_empty wsX0_empty ({ frames := 0, cells := 0, slots := 0, locals := 0 } : Room) (va_Pc [.ref o] (mb_B D Y (gw0 Y o a M) sz)) (va_Qi K (fun u t => mb_T D (va_A (gw0 Y o a M) sz) (gw0 Y o a u) t) (va_A (gw0 Y o a M) sz)) 0 0 (va_A (gw0 Y o a M) sz) := by
  refine mb_begin (cc := cX0_empty) (maxL := 3) (ret := (some .int)) (by decide +kernel) rfl (Nat.le_of_ble_eq_true rfl) ?_
  intro p e s m below meth c ls C hsz hnm hP hD hl
  generalize hAe : va_A (gw0 Y o a M) sz = A at C hD ⊢
  have C : mb_Cx p s m meth c ([.ref o] : List Value).toArray cX0_empty 3 (some .int) wsX0_empty RX0 D Y A := C
  obtain ⟨hx, hb, hr, hml, hts, hown, hlocks, hA, hG⟩ := id C
  have hK := hG.1
  have hS : va_S A s.heap s.heap [] := va_S.rf
  have hl : lv_has ls 3 [(0, .ref o)] := hl
  refine lv_iconst (v := 0) hx hb dX0_empty_0 (by decide) ?_
  refine lv_istore_n (lv' := [(1, .int (0 : Int32)), (0, .ref o)]) hx hb dX0_empty_1 rfl hl (by decide) rfl (fun ls hl => ?_)
  refine lv_iconst (v := 0) hx hb dX0_empty_2 (by decide) ?_
  refine lv_istore_n (lv' := [(2, .int (0 : Int32)), (1, .int (0 : Int32)), (0, .ref o)]) hx hb dX0_empty_3 rfl hl (by decide) rfl (fun ls hl => ?_)
  exact wX0_empty_4 C N M (0 : Int32) (0 : Int32) _ _ _ hF hP hD hS (lv_sub hl [2, 1, 0] rfl)
end
section
noncomputable def PX1_stiffness (N : Nat) (M : mb_m) (K : Int32 → mb_m → Prop) : Prop := ((¬ (M 6 0).toInt = 1 ∧ ¬ (M 6 0).toInt = 2) → K (4 : Int32) M) ∧ ((M 6 0).toInt = 1 → K (1 : Int32) M) ∧ ((M 6 0).toInt = 2 → K (2 : Int32) M)
set_option maxHeartbeats 4000000 in
set_option maxRecDepth 100000 in
theorem cnX1_stiffness (l : Launch) (D : va_G) (Y : Nat → ClassId) (N : Nat) (o : Nat) (a : Nat → Nat) (M : mb_m) (sz : Nat) (K : Int32 → mb_m → Prop) (hF : PX1_stiffness N M K) : Met l yX1_stiffness wsX1_stiffness ({ frames := 0, cells := 0, slots := 0, locals := 0 } : Room) (va_Pc [.ref o] (mb_B D Y (gw1 Y o a M) sz)) (va_Qi K (fun u t => mb_T D (va_A (gw1 Y o a M) sz) (gw1 Y o a u) t) (va_A (gw1 Y o a M) sz)) 0 0 (va_A (gw1 Y o a M) sz) := by
  refine mb_begin (cc := cX1_stiffness) (maxL := 1) (ret := (some .int)) (by decide +kernel) rfl (Nat.le_of_ble_eq_true rfl) ?_
  intro p e s m below meth c ls C hsz hnm hP hD hl
  generalize hAe : va_A (gw1 Y o a M) sz = A at C hD ⊢
  have C : mb_Cx p s m meth c ([.ref o] : List Value).toArray cX1_stiffness 1 (some .int) wsX1_stiffness RX1 D Y A := C
  obtain ⟨hx, hb, hr, hml, hts, hown, hlocks, hA, hG⟩ := id C
  have hK := hG.1
  have hS : va_S A s.heap s.heap [] := va_S.rf
  have hl : lv_has ls 1 [(0, .ref o)] := hl
  refine lv_aload_n hx hb dX1_stiffness_0 rfl (lv_at hl 0 rfl) ?_
  refine va_get (D := D) (ci := 1) (v := .int (M 6 0)) (C := RX1) (T := TX1) (N := 7) hx hb hts (fun _ h9 => List.mem_cons_of_mem _ (List.mem_append_right _ (h9))) hown hK hP 0 rfl rfl 6 (by decide) (hts (.fieldLink RX1 25 "MarbleBench$Book" "spine" "I") (List.mem_of_getElem? (i := 1) rfl)) (fun _ h9 => h9) rfl dX1_stiffness_1 ?_
  rcases (show (¬ (M 6 0).toInt = 1 ∧ ¬ (M 6 0).toInt = 2) ∨ (M 6 0).toInt = 1 ∨ (M 6 0).toInt = 2 by omega) with c_4 | c_4 | c_4
  · have hF := hF.1 c_4
    refine lv_lookup (off := 32) (tgt := 36) hx hb dX1_stiffness_4 (by decide) (mb_lk2 c_4.1 c_4.2) (by decide) ?_
    refine lv_iconst (v := 4) hx hb dX1_stiffness_36 (by decide) ?_
    exact mb_ri (S := mb_m) (mc := 0) (ms := 0) (wf := fun u => gw1 Y o a u) C rfl (u := M) hF hP hD hS dX1_stiffness_37 (Nat.le_of_ble_eq_true rfl) (Nat.le_of_ble_eq_true rfl)
  · have hF := hF.2.1 c_4
    refine lv_lookup (off := 28) (tgt := 32) hx hb dX1_stiffness_4 (by decide) (by rw [c_4]; rfl) (by decide) ?_
    refine lv_iconst (v := 1) hx hb dX1_stiffness_32 (by decide) ?_
    exact mb_ri (S := mb_m) (mc := 0) (ms := 0) (wf := fun u => gw1 Y o a u) C rfl (u := M) hF hP hD hS dX1_stiffness_33 (Nat.le_of_ble_eq_true rfl) (Nat.le_of_ble_eq_true rfl)
  · have hF := hF.2.2 c_4
    refine lv_lookup (off := 30) (tgt := 34) hx hb dX1_stiffness_4 (by decide) (by rw [c_4]; rfl) (by decide) ?_
    refine lv_iconst (v := 2) hx hb dX1_stiffness_34 (by decide) ?_
    exact mb_ri (S := mb_m) (mc := 0) (ms := 0) (wf := fun u => gw1 Y o a u) C rfl (u := M) hF hP hD hS dX1_stiffness_35 (Nat.le_of_ble_eq_true rfl) (Nat.le_of_ble_eq_true rfl)
end
section
noncomputable def PX1_bendAt (N : Nat) (M : mb_m) (x1 : Int32) (K : Int32 → mb_m → Prop) : Prop := PX1_stiffness N M  (fun r16 M16 => K (((if ((M 3 0) - x1) < x1 then ((M 3 0) - x1) else x1) * (M 4 0)) * r16) M16)
set_option maxHeartbeats 4000000 in
set_option maxRecDepth 100000 in
theorem cnX1_bendAt (l : Launch) (D : va_G) (Y : Nat → ClassId) (N : Nat) (o : Nat) (a : Nat → Nat) (M : mb_m) (sz : Nat) (x1 : Int32) (K : Int32 → mb_m → Prop) (hF : PX1_bendAt N M x1 K) : Met l yX1_bendAt wsX1_bendAt ({ frames := 1, cells := 0, slots := 0, locals := 25 } : Room) (va_Pc [.ref o, .int x1] (mb_B D Y (gw1 Y o a M) sz)) (va_Qi K (fun u t => mb_T D (va_A (gw1 Y o a M) sz) (gw1 Y o a u) t) (va_A (gw1 Y o a M) sz)) 0 0 (va_A (gw1 Y o a M) sz) := by
  refine mb_begin (cc := cX1_bendAt) (maxL := 2) (ret := (some .int)) (by decide +kernel) rfl (Nat.le_of_ble_eq_true rfl) ?_
  intro p e s m below meth c ls C hsz hnm hP hD hl
  generalize hAe : va_A (gw1 Y o a M) sz = A at C hD ⊢
  have C : mb_Cx p s m meth c ([.ref o, .int x1] : List Value).toArray cX1_bendAt 2 (some .int) wsX1_bendAt RX1 D Y A := C
  obtain ⟨hx, hb, hr, hml, hts, hown, hlocks, hA, hG⟩ := id C
  have hK := hG.1
  have hS : va_S A s.heap s.heap [] := va_S.rf
  have hl : lv_has ls 2 [(0, .ref o), (1, .int x1)] := hl
  refine lv_iload_n hx hb dX1_bendAt_0 rfl (lv_at hl 1 rfl) ?_
  refine lv_aload_n hx hb dX1_bendAt_1 rfl (lv_at hl 0 rfl) ?_
  refine va_get (D := D) (ci := 1) (v := .int (M 3 0)) (C := RX1) (T := TX1) (N := 7) hx hb hts (fun _ h9 => List.mem_cons_of_mem _ (List.mem_append_right _ (h9))) hown hK hP 0 rfl rfl 3 (by decide) (hts (.fieldLink RX1 38 "MarbleBench$Book" "leavesInAll" "I") (List.mem_of_getElem? (i := 1) rfl)) (fun _ h9 => h9) rfl dX1_bendAt_2 ?_
  refine lv_iload_n hx hb dX1_bendAt_5 rfl (lv_at hl 1 rfl) ?_
  refine lv_isub hx hb dX1_bendAt_6 ?_
  refine va_mmin hx hb (hml.trans hl.1.symm) hown (hts (.methodLink RX1 48 Lib.Math.min.name) (List.mem_of_getElem? (i := 2) rfl)) (hts (.static Lib.Math.min.name) (List.mem_of_getElem? (i := 3) rfl)) (hts (.initialized "java/lang/Math") (List.mem_of_getElem? (i := 4) rfl)) (hts (.code Lib.Math.min.name Lib.Math.min.code 2 (some .int)) (List.mem_of_getElem? (i := 5) rfl)) (Nat.le_of_ble_eq_true rfl) (Nat.le_of_ble_eq_true rfl) (Nat.le_of_ble_eq_true rfl) (Nat.le_of_ble_eq_true rfl) dX1_bendAt_7 ?_
  refine lv_aload_n hx hb dX1_bendAt_10 rfl (lv_at hl 0 rfl) ?_
  refine va_get (D := D) (ci := 1) (v := .int (M 4 0)) (C := RX1) (T := TX1) (N := 7) hx hb hts (fun _ h9 => List.mem_cons_of_mem _ (List.mem_append_right _ (h9))) hown hK hP 0 rfl rfl 4 (by decide) (hts (.fieldLink RX1 41 "MarbleBench$Book" "thickness" "I") (List.mem_of_getElem? (i := 6) rfl)) (fun _ h9 => h9) rfl dX1_bendAt_11 ?_
  refine lv_imul hx hb dX1_bendAt_14 ?_
  refine lv_aload_n hx hb dX1_bendAt_15 rfl (lv_at hl 0 rfl) ?_
  refine mb_cW hD hS hA (va_runV (As := []) (rest := [.int ((if ((M 3 0) - x1) < x1 then ((M 3 0) - x1) else x1) * (M 4 0))]) ⟨hx, hb, hml, hown, hts⟩ (cnX1_stiffness l D Y N o a M _  _ hF) (cwV 0 hts gX1_bendAt_X1_stiffness rfl rfl rfl (by decide +kernel) ⟨Nat.le_of_ble_eq_true rfl, Nat.le_of_ble_eq_true rfl⟩) (mb_preV hG hP hD 0 rfl rfl) rfl rfl hl.1 rfl (lv_room (Nat.le_of_ble_eq_true rfl)) dX1_bendAt_16 ⟨Nat.le_of_ble_eq_true rfl, Nat.le_of_ble_eq_true rfl⟩) (fun r16 M16 H locs hF hP hD hS => ?_)
  refine lv_imul hx hb dX1_bendAt_19 ?_
  exact mb_ri (S := mb_m) (mc := 0) (ms := 0) (wf := fun u => gw1 Y o a u) C rfl (u := M16) hF hP hD hS dX1_bendAt_20 (Nat.le_of_ble_eq_true rfl) (Nat.le_of_ble_eq_true rfl)
end
section
noncomputable def PX1_stiffestOpening_27 (N : Nat) (K : Int32 → mb_m → Prop) (b4 : mb_m → Int32 → Int32 → Prop) (M : mb_m) (x1 x2 : Int32) : Prop := ∀ v27 : Int32, v27 = x2 + (1 : Int32) → (b4 M x1 v27)
set_option maxHeartbeats 4000000 in
set_option maxRecDepth 100000 in
theorem wX1_stiffestOpening_27 {p : Program} {l : Launch} {e : Env} {s : State} {m : MethodId} {below : List Frame} {meth : Method} {c : Code} {args : Array Value} {D : va_G} {Y : Nat → ClassId} {A : Nat → Prop} {o : Nat} {a : Nat → Nat} {N : Nat} {K : Int32 → mb_m → Prop} {b4 : mb_m → Int32 → Int32 → Prop} (C : mb_Cx p s m meth c args cX1_stiffestOpening 3 (some .int) wsX1_stiffestOpening RX1 D Y A) (hb4 : ∀ (M : mb_m) (x1 x2 : Int32) (H : Heap) (locs : List Loc) (ls : Array Slot), b4 M x1 x2 → va_P D vwCl (gw1 Y o a M) H → va_D A (gw1 Y o a M) → va_S A s.heap H locs → lv_has ls 3 [(0, .ref o), (1, .int x1), (2, .int x2)] → W p l e ({ frames := 2, cells := 0, slots := 0, locals := 46 } : Room) s m args below meth c H locs 0 0 (MQ below (va_Qi K (fun u t => mb_T D A (gw1 Y o a u) t) A) args s 0 0 A) (F0 m 4 ls [])) : ∀ (M : mb_m) (x1 x2 : Int32) (H : Heap) (locs : List Loc) (ls : Array Slot), PX1_stiffestOpening_27 N K b4 M x1 x2 → va_P D vwCl (gw1 Y o a M) H → va_D A (gw1 Y o a M) → va_S A s.heap H locs → lv_has ls 3 [(0, .ref o), (1, .int x1), (2, .int x2)] → W p l e ({ frames := 2, cells := 0, slots := 0, locals := 46 } : Room) s m args below meth c H locs 0 0 (MQ below (va_Qi K (fun u t => mb_T D A (gw1 Y o a u) t) A) args s 0 0 A) (F0 m 27 ls []) := by
  obtain ⟨hx, hb, hr, hml, hts, hown, hlocks, hA, hG⟩ := id C
  have hK := hG.1
  intro M x1 x2 H locs ls hF hP hD hS hl
  obtain ⟨v27, ev27⟩ : ∃ y : Int32, y = x2 + (1 : Int32) := ⟨_, rfl⟩
  have hF := hF v27 ev27
  refine lv_iinc (v := v27) (lv' := [(2, .int v27), (0, .ref o), (1, .int x1)]) hx hb dX1_stiffestOpening_27 hl (k := 2) rfl (by rw [ev27]; rfl) (by decide) rfl (fun ls hl => ?_)
  refine lv_goto (tgt := 4) hx hb dX1_stiffestOpening_30 (by decide) ?_
  exact hb4 M x1 v27 _ _ _ hF hP hD hS (lv_sub hl [1, 2, 0] rfl)
noncomputable def PX1_stiffestOpening_4_b (N : Nat) (K : Int32 → mb_m → Prop) (b4 : mb_m → Int32 → Int32 → Prop) (M : mb_m) (x1 x2 : Int32) : Prop := ((M 3 0) < x2 → K x1 M) ∧ (¬ (M 3 0) < x2 → PX1_bendAt N M x2 (fun r14 M14 => PX1_bendAt N M14 x1 (fun r19 M19 => (r14 ≤ r19 → PX1_stiffestOpening_27 N K b4 M19 x1 x2) ∧ (¬ r14 ≤ r19 → PX1_stiffestOpening_27 N K b4 M19 x2 x2))))
noncomputable def PX1_stiffestOpening_4 (N : Nat) (K : Int32 → mb_m → Prop) (n : Nat) : mb_m → Int32 → Int32 → Prop := Nat.rec (motive := fun _ => mb_m → Int32 → Int32 → Prop) (fun _ _ _ => False) (fun _ b4 => PX1_stiffestOpening_4_b N K  b4) n
set_option maxHeartbeats 4000000 in
set_option maxRecDepth 100000 in
theorem wX1_stiffestOpening_4 {p : Program} {l : Launch} {e : Env} {s : State} {m : MethodId} {below : List Frame} {meth : Method} {c : Code} {args : Array Value} {D : va_G} {Y : Nat → ClassId} {A : Nat → Prop} {o : Nat} {a : Nat → Nat} {N : Nat} {K : Int32 → mb_m → Prop} (C : mb_Cx p s m meth c args cX1_stiffestOpening 3 (some .int) wsX1_stiffestOpening RX1 D Y A) : ∀ (n : Nat), (∀ (M : mb_m) (x1 x2 : Int32) (H : Heap) (locs : List Loc) (ls : Array Slot), PX1_stiffestOpening_4 N K  n M x1 x2 → va_P D vwCl (gw1 Y o a M) H → va_D A (gw1 Y o a M) → va_S A s.heap H locs → lv_has ls 3 [(0, .ref o), (1, .int x1), (2, .int x2)] → W p l e ({ frames := 2, cells := 0, slots := 0, locals := 46 } : Room) s m args below meth c H locs 0 0 (MQ below (va_Qi K (fun u t => mb_T D A (gw1 Y o a u) t) A) args s 0 0 A) (F0 m 4 ls [])) := by
  obtain ⟨hx, hb, hr, hml, hts, hown, hlocks, hA, hG⟩ := id C
  have hK := hG.1
  intro n
  induction n with
  | zero => intro M x1 x2 H locs ls hF; exact (show False from hF).elim
  | succ n ih =>
    intro M x1 x2 H locs ls hF hP hD hS hl
    have hF : PX1_stiffestOpening_4_b N K  (PX1_stiffestOpening_4 N K  n) M x1 x2 := hF
    refine lv_iload_n hx hb dX1_stiffestOpening_4 rfl (lv_at hl 2 rfl) ?_
    refine lv_aload_n hx hb dX1_stiffestOpening_5 rfl (lv_at hl 0 rfl) ?_
    refine va_get (D := D) (ci := 1) (v := .int (M 3 0)) (C := RX1) (T := TX1) (N := 7) hx hb hts (fun _ h9 => List.mem_cons_of_mem _ (List.mem_append_right _ (h9))) hown hK hP 0 rfl rfl 3 (by decide) (hts (.fieldLink RX1 38 "MarbleBench$Book" "leavesInAll" "I") (List.mem_of_getElem? (i := 1) rfl)) (fun _ h9 => h9) rfl dX1_stiffestOpening_6 ?_
    refine lv_icmp_gt (tgt := 33) hx hb dX1_stiffestOpening_9 (by decide) (fun c_9 => ?_) (fun c_9 => ?_)
    · have hF := hF.1 c_9
      refine lv_iload_n hx hb dX1_stiffestOpening_33 rfl (lv_at hl 1 rfl) ?_
      exact mb_ri (S := mb_m) (mc := 0) (ms := 0) (wf := fun u => gw1 Y o a u) C rfl (u := M) hF hP hD hS dX1_stiffestOpening_34 (Nat.le_of_ble_eq_true rfl) (Nat.le_of_ble_eq_true rfl)
    · have hF := hF.2 c_9
      refine lv_aload_n hx hb dX1_stiffestOpening_12 rfl (lv_at hl 0 rfl) ?_
      refine lv_iload_n hx hb dX1_stiffestOpening_13 rfl (lv_at hl 2 rfl) ?_
      refine mb_cW hD hS hA (va_runV (As := [.int x2]) (rest := []) ⟨hx, hb, hml, hown, hts⟩ (cnX1_bendAt l D Y N o a M _ x2 _ hF) (cwV 1 hts gX1_stiffestOpening_X1_bendAt rfl rfl rfl (by decide +kernel) ⟨Nat.le_of_ble_eq_true rfl, Nat.le_of_ble_eq_true rfl⟩) (mb_preV hG hP hD 0 rfl rfl) rfl rfl hl.1 rfl (lv_room (Nat.le_of_ble_eq_true rfl)) dX1_stiffestOpening_14 ⟨Nat.le_of_ble_eq_true rfl, Nat.le_of_ble_eq_true rfl⟩) (fun r14 M14 H locs hF hP hD hS => ?_)
      refine lv_aload_n hx hb dX1_stiffestOpening_17 rfl (lv_at hl 0 rfl) ?_
      refine lv_iload_n hx hb dX1_stiffestOpening_18 rfl (lv_at hl 1 rfl) ?_
      refine mb_cW hD hS hA (va_runV (As := [.int x1]) (rest := [.int r14]) ⟨hx, hb, hml, hown, hts⟩ (cnX1_bendAt l D Y N o a M14 _ x1 _ hF) (cwV 1 hts gX1_stiffestOpening_X1_bendAt rfl rfl rfl (by decide +kernel) ⟨Nat.le_of_ble_eq_true rfl, Nat.le_of_ble_eq_true rfl⟩) (mb_preV hG hP hD 0 rfl rfl) rfl rfl hl.1 rfl (lv_room (Nat.le_of_ble_eq_true rfl)) dX1_stiffestOpening_19 ⟨Nat.le_of_ble_eq_true rfl, Nat.le_of_ble_eq_true rfl⟩) (fun r19 M19 H locs hF hP hD hS => ?_)
      refine lv_icmp_le (tgt := 27) hx hb dX1_stiffestOpening_22 (by decide) (fun c_22 => ?_) (fun c_22 => ?_)
      · have hF := hF.1 c_22
        exact wX1_stiffestOpening_27 C ih M19 x1 x2 _ _ _ hF hP hD hS (lv_sub hl [0, 1, 2] rfl)
      · have hF := hF.2 c_22
        refine lv_iload_n hx hb dX1_stiffestOpening_25 rfl (lv_at hl 2 rfl) ?_
        refine lv_istore_n (lv' := [(1, .int x2), (0, .ref o), (2, .int x2)]) hx hb dX1_stiffestOpening_26 rfl hl (by decide) rfl (fun ls hl => ?_)
        exact wX1_stiffestOpening_27 C ih M19 x2 x2 _ _ _ hF hP hD hS (lv_sub hl [1, 0, 2] rfl)
noncomputable def PX1_stiffestOpening (N : Nat) (M : mb_m) (K : Int32 → mb_m → Prop) : Prop := PX1_stiffestOpening_4 N K N M (0 : Int32) (1 : Int32)
set_option maxHeartbeats 4000000 in
set_option maxRecDepth 100000 in
theorem cnX1_stiffestOpening (l : Launch) (D : va_G) (Y : Nat → ClassId) (N : Nat) (o : Nat) (a : Nat → Nat) (M : mb_m) (sz : Nat) (K : Int32 → mb_m → Prop) (hF : PX1_stiffestOpening N M K) : Met l yX1_stiffestOpening wsX1_stiffestOpening ({ frames := 2, cells := 0, slots := 0, locals := 46 } : Room) (va_Pc [.ref o] (mb_B D Y (gw1 Y o a M) sz)) (va_Qi K (fun u t => mb_T D (va_A (gw1 Y o a M) sz) (gw1 Y o a u) t) (va_A (gw1 Y o a M) sz)) 0 0 (va_A (gw1 Y o a M) sz) := by
  refine mb_begin (cc := cX1_stiffestOpening) (maxL := 3) (ret := (some .int)) (by decide +kernel) rfl (Nat.le_of_ble_eq_true rfl) ?_
  intro p e s m below meth c ls C hsz hnm hP hD hl
  generalize hAe : va_A (gw1 Y o a M) sz = A at C hD ⊢
  have C : mb_Cx p s m meth c ([.ref o] : List Value).toArray cX1_stiffestOpening 3 (some .int) wsX1_stiffestOpening RX1 D Y A := C
  obtain ⟨hx, hb, hr, hml, hts, hown, hlocks, hA, hG⟩ := id C
  have hK := hG.1
  have hS : va_S A s.heap s.heap [] := va_S.rf
  have hl : lv_has ls 3 [(0, .ref o)] := hl
  refine lv_iconst (v := 0) hx hb dX1_stiffestOpening_0 (by decide) ?_
  refine lv_istore_n (lv' := [(1, .int (0 : Int32)), (0, .ref o)]) hx hb dX1_stiffestOpening_1 rfl hl (by decide) rfl (fun ls hl => ?_)
  refine lv_iconst (v := 1) hx hb dX1_stiffestOpening_2 (by decide) ?_
  refine lv_istore_n (lv' := [(2, .int (1 : Int32)), (1, .int (0 : Int32)), (0, .ref o)]) hx hb dX1_stiffestOpening_3 rfl hl (by decide) rfl (fun ls hl => ?_)
  exact wX1_stiffestOpening_4 C N M (0 : Int32) (1 : Int32) _ _ _ hF hP hD hS (lv_sub hl [2, 1, 0] rfl)
end
section
noncomputable def PX4_stitchesAt (N : Nat) (M : mb_m) (x1 x2 : Int32) (K : Int32 → mb_m → Prop) : Prop := ∀ v5 : Int32, v5 = ((x1 * (5 : Int32)) + x2) → ((v5 < 0 → K (0 : Int32) M) ∧ (¬ v5 < 0 → ((40 : Int32) ≤ v5 → K (0 : Int32) M) ∧ (¬ (40 : Int32) ≤ v5 → vp_in v5 40 ∧ (K (M 2 v5.toNatClampNeg) M))))
set_option maxHeartbeats 4000000 in
set_option maxRecDepth 100000 in
theorem cnX4_stitchesAt (l : Launch) (D : va_G) (Y : Nat → ClassId) (N : Nat) (o : Nat) (a : Nat → Nat) (M : mb_m) (sz : Nat) (x1 x2 : Int32) (K : Int32 → mb_m → Prop) (hF : PX4_stitchesAt N M x1 x2 K) : Met l yX4_stitchesAt wsX4_stitchesAt ({ frames := 0, cells := 0, slots := 0, locals := 0 } : Room) (va_Pc [.ref o, .int x1, .int x2] (mb_B D Y (gw4 Y o a M) sz)) (va_Qi K (fun u t => mb_T D (va_A (gw4 Y o a M) sz) (gw4 Y o a u) t) (va_A (gw4 Y o a M) sz)) 0 0 (va_A (gw4 Y o a M) sz) := by
  refine mb_begin (cc := cX4_stitchesAt) (maxL := 4) (ret := (some .int)) (by decide +kernel) rfl (Nat.le_of_ble_eq_true rfl) ?_
  intro p e s m below meth c ls C hsz hnm hP hD hl
  generalize hAe : va_A (gw4 Y o a M) sz = A at C hD ⊢
  have C : mb_Cx p s m meth c ([.ref o, .int x1, .int x2] : List Value).toArray cX4_stitchesAt 4 (some .int) wsX4_stitchesAt RX4 D Y A := C
  obtain ⟨hx, hb, hr, hml, hts, hown, hlocks, hA, hG⟩ := id C
  have hK := hG.1
  have hS : va_S A s.heap s.heap [] := va_S.rf
  have hl : lv_has ls 4 [(0, .ref o), (1, .int x1), (2, .int x2)] := hl
  refine lv_iload_n hx hb dX4_stitchesAt_0 rfl (lv_at hl 1 rfl) ?_
  refine lv_iconst (v := 5) hx hb dX4_stitchesAt_1 (by decide) ?_
  refine lv_imul hx hb dX4_stitchesAt_2 ?_
  refine lv_iload_n hx hb dX4_stitchesAt_3 rfl (lv_at hl 2 rfl) ?_
  refine lv_iadd hx hb dX4_stitchesAt_4 ?_
  refine lv_topi (fun v5 ev5 => ?_)
  have hF := hF v5 ev5
  refine lv_istore_n (lv' := [(3, .int v5), (0, .ref o), (1, .int x1), (2, .int x2)]) hx hb dX4_stitchesAt_5 rfl hl (by decide) rfl (fun ls hl => ?_)
  refine lv_iload_n hx hb dX4_stitchesAt_6 rfl (lv_at hl 0 rfl) ?_
  refine lv_if_lt (tgt := 28) hx hb dX4_stitchesAt_7 (by decide) (fun c_7 => ?_) (fun c_7 => ?_)
  · have hF := hF.1 c_7
    refine lv_iconst (v := 0) hx hb dX4_stitchesAt_28 (by decide) ?_
    exact mb_ri (S := mb_m) (mc := 0) (ms := 0) (wf := fun u => gw4 Y o a u) C rfl (u := M) hF hP hD hS dX4_stitchesAt_29 (Nat.le_of_ble_eq_true rfl) (Nat.le_of_ble_eq_true rfl)
  · have hF := hF.2 c_7
    refine lv_iload_n hx hb dX4_stitchesAt_10 rfl (lv_at hl 0 rfl) ?_
    refine lv_aload_n hx hb dX4_stitchesAt_11 rfl (lv_at hl 1 rfl) ?_
    refine va_get (D := D) (ci := 4) (v := .ref (a 2)) (C := RX4) (T := TX4) (N := 10) hx hb hts (fun _ h9 => List.mem_cons_of_mem _ (List.mem_append_right _ (h9))) hown hK hP 0 rfl rfl 2 (by decide) (hts (.fieldLink RX4 9 "MarbleBench$Sewing" "laid" "[I") (List.mem_of_getElem? (i := 1) rfl)) (fun _ h9 => h9) rfl dX4_stitchesAt_12 ?_
    refine va_alen (v := 40) hx hb hK hP 1 0 rfl rfl rfl dX4_stitchesAt_15 ?_
    refine lv_icmp_ge (tgt := 28) hx hb dX4_stitchesAt_16 (by decide) (fun c_16 => ?_) (fun c_16 => ?_)
    · have hF := hF.1 c_16
      refine lv_iconst (v := 0) hx hb dX4_stitchesAt_28 (by decide) ?_
      exact mb_ri (S := mb_m) (mc := 0) (ms := 0) (wf := fun u => gw4 Y o a u) C rfl (u := M) hF hP hD hS dX4_stitchesAt_29 (Nat.le_of_ble_eq_true rfl) (Nat.le_of_ble_eq_true rfl)
    · have hF := hF.2 c_16
      refine lv_aload_n hx hb dX4_stitchesAt_19 rfl (lv_at hl 1 rfl) ?_
      refine va_get (D := D) (ci := 4) (v := .ref (a 2)) (C := RX4) (T := TX4) (N := 10) hx hb hts (fun _ h9 => List.mem_cons_of_mem _ (List.mem_append_right _ (h9))) hown hK hP 0 rfl rfl 2 (by decide) (hts (.fieldLink RX4 9 "MarbleBench$Sewing" "laid" "[I") (List.mem_of_getElem? (i := 1) rfl)) (fun _ h9 => h9) rfl dX4_stitchesAt_20 ?_
      refine lv_iload_n hx hb dX4_stitchesAt_23 rfl (lv_at hl 0 rfl) ?_
      obtain ⟨hi24, hF⟩ := hF
      refine va_iald hx hb hK hP 1 0 rfl rfl hi24 dX4_stitchesAt_24 ?_
      refine lv_goto (tgt := 29) hx hb dX4_stitchesAt_25 (by decide) ?_
      exact mb_ri (S := mb_m) (mc := 0) (ms := 0) (wf := fun u => gw4 Y o a u) C rfl (u := M) hF hP hD hS dX4_stitchesAt_29 (Nat.le_of_ble_eq_true rfl) (Nat.le_of_ble_eq_true rfl)
end
section
noncomputable def PX4_mostStitches_4_b (N : Nat) (K : Int32 → mb_m → Prop) (b4 : mb_m → Int32 → Int32 → Int32 → Prop) (M : mb_m) (x1 x2 x3 : Int32) : Prop := (((M 1 0) - (1 : Int32)) ≤ x3 → K x2 M) ∧ (¬ ((M 1 0) - (1 : Int32)) ≤ x3 → PX4_stitchesAt N M x1 x3 (fun r18 M18 => ∀ v24 : Int32, v24 = (if x2 < r18 then r18 else x2) → (∀ v25 : Int32, v25 = x3 + (1 : Int32) → (b4 M18 x1 v24 v25))))
noncomputable def PX4_mostStitches_4 (N : Nat) (K : Int32 → mb_m → Prop) (n : Nat) : mb_m → Int32 → Int32 → Int32 → Prop := Nat.rec (motive := fun _ => mb_m → Int32 → Int32 → Int32 → Prop) (fun _ _ _ _ => False) (fun _ b4 => PX4_mostStitches_4_b N K  b4) n
set_option maxHeartbeats 4000000 in
set_option maxRecDepth 100000 in
theorem wX4_mostStitches_4 {p : Program} {l : Launch} {e : Env} {s : State} {m : MethodId} {below : List Frame} {meth : Method} {c : Code} {args : Array Value} {D : va_G} {Y : Nat → ClassId} {A : Nat → Prop} {o : Nat} {a : Nat → Nat} {N : Nat} {K : Int32 → mb_m → Prop} (C : mb_Cx p s m meth c args cX4_mostStitches 4 (some .int) wsX4_mostStitches RX4 D Y A) : ∀ (n : Nat), (∀ (M : mb_m) (x1 x2 x3 : Int32) (H : Heap) (locs : List Loc) (ls : Array Slot), PX4_mostStitches_4 N K  n M x1 x2 x3 → va_P D vwCl (gw4 Y o a M) H → va_D A (gw4 Y o a M) → va_S A s.heap H locs → lv_has ls 4 [(0, .ref o), (1, .int x1), (2, .int x2), (3, .int x3)] → W p l e ({ frames := 1, cells := 0, slots := 0, locals := 25 } : Room) s m args below meth c H locs 0 0 (MQ below (va_Qi K (fun u t => mb_T D A (gw4 Y o a u) t) A) args s 0 0 A) (F0 m 4 ls [])) := by
  obtain ⟨hx, hb, hr, hml, hts, hown, hlocks, hA, hG⟩ := id C
  have hK := hG.1
  intro n
  induction n with
  | zero => intro M x1 x2 x3 H locs ls hF; exact (show False from hF).elim
  | succ n ih =>
    intro M x1 x2 x3 H locs ls hF hP hD hS hl
    have hF : PX4_mostStitches_4_b N K  (PX4_mostStitches_4 N K  n) M x1 x2 x3 := hF
    refine lv_iload_n hx hb dX4_mostStitches_4 rfl (lv_at hl 3 rfl) ?_
    refine lv_aload_n hx hb dX4_mostStitches_5 rfl (lv_at hl 0 rfl) ?_
    refine va_get (D := D) (ci := 4) (v := .int (M 1 0)) (C := RX4) (T := TX4) (N := 10) hx hb hts (fun _ h9 => List.mem_cons_of_mem _ (List.mem_append_right _ (h9))) hown hK hP 0 rfl rfl 1 (by decide) (hts (.fieldLink RX4 25 "MarbleBench$Sewing" "stations" "I") (List.mem_of_getElem? (i := 1) rfl)) (fun _ h9 => h9) rfl dX4_mostStitches_6 ?_
    refine lv_iconst (v := 1) hx hb dX4_mostStitches_9 (by decide) ?_
    refine lv_isub hx hb dX4_mostStitches_10 ?_
    refine lv_icmp_ge (tgt := 31) hx hb dX4_mostStitches_11 (by decide) (fun c_11 => ?_) (fun c_11 => ?_)
    · have hF := hF.1 c_11
      refine lv_iload_n hx hb dX4_mostStitches_31 rfl (lv_at hl 2 rfl) ?_
      exact mb_ri (S := mb_m) (mc := 0) (ms := 0) (wf := fun u => gw4 Y o a u) C rfl (u := M) hF hP hD hS dX4_mostStitches_32 (Nat.le_of_ble_eq_true rfl) (Nat.le_of_ble_eq_true rfl)
    · have hF := hF.2 c_11
      refine lv_iload_n hx hb dX4_mostStitches_14 rfl (lv_at hl 2 rfl) ?_
      refine lv_aload_n hx hb dX4_mostStitches_15 rfl (lv_at hl 0 rfl) ?_
      refine lv_iload_n hx hb dX4_mostStitches_16 rfl (lv_at hl 1 rfl) ?_
      refine lv_iload_n hx hb dX4_mostStitches_17 rfl (lv_at hl 3 rfl) ?_
      refine mb_cW hD hS hA (va_runV (As := [.int x1, .int x3]) (rest := [.int x2]) ⟨hx, hb, hml, hown, hts⟩ (cnX4_stitchesAt l D Y N o a M _ x1 x3 _ hF) (cwV 2 hts gX4_mostStitches_X4_stitchesAt rfl rfl rfl (by decide +kernel) ⟨Nat.le_of_ble_eq_true rfl, Nat.le_of_ble_eq_true rfl⟩) (mb_preV hG hP hD 0 rfl rfl) rfl rfl hl.1 rfl (lv_room (Nat.le_of_ble_eq_true rfl)) dX4_mostStitches_18 ⟨Nat.le_of_ble_eq_true rfl, Nat.le_of_ble_eq_true rfl⟩) (fun r18 M18 H locs hF hP hD hS => ?_)
      refine va_mmax hx hb (hml.trans hl.1.symm) hown (hts (.methodLink RX4 69 Lib.Math.max.name) (List.mem_of_getElem? (i := 2) rfl)) (hts (.static Lib.Math.max.name) (List.mem_of_getElem? (i := 3) rfl)) (hts (.initialized "java/lang/Math") (List.mem_of_getElem? (i := 4) rfl)) (hts (.code Lib.Math.max.name Lib.Math.max.code 2 (some .int)) (List.mem_of_getElem? (i := 5) rfl)) (Nat.le_of_ble_eq_true rfl) (Nat.le_of_ble_eq_true rfl) (Nat.le_of_ble_eq_true rfl) (Nat.le_of_ble_eq_true rfl) dX4_mostStitches_21 ?_
      refine lv_topi (fun v24 ev24 => ?_)
      have hF := hF v24 ev24
      refine lv_istore_n (lv' := [(2, .int v24), (0, .ref o), (1, .int x1), (3, .int x3)]) hx hb dX4_mostStitches_24 rfl hl (by decide) rfl (fun ls hl => ?_)
      obtain ⟨v25, ev25⟩ : ∃ y : Int32, y = x3 + (1 : Int32) := ⟨_, rfl⟩
      have hF := hF v25 ev25
      refine lv_iinc (v := v25) (lv' := [(3, .int v25), (2, .int v24), (0, .ref o), (1, .int x1)]) hx hb dX4_mostStitches_25 hl (k := 3) rfl (by rw [ev25]; rfl) (by decide) rfl (fun ls hl => ?_)
      refine lv_goto (tgt := 4) hx hb dX4_mostStitches_28 (by decide) ?_
      exact ih M18 x1 v24 v25 _ _ _ hF hP hD hS (lv_sub hl [2, 3, 1, 0] rfl)
noncomputable def PX4_mostStitches (N : Nat) (M : mb_m) (x1 : Int32) (K : Int32 → mb_m → Prop) : Prop := PX4_mostStitches_4 N K N M x1 (0 : Int32) (0 : Int32)
set_option maxHeartbeats 4000000 in
set_option maxRecDepth 100000 in
theorem cnX4_mostStitches (l : Launch) (D : va_G) (Y : Nat → ClassId) (N : Nat) (o : Nat) (a : Nat → Nat) (M : mb_m) (sz : Nat) (x1 : Int32) (K : Int32 → mb_m → Prop) (hF : PX4_mostStitches N M x1 K) : Met l yX4_mostStitches wsX4_mostStitches ({ frames := 1, cells := 0, slots := 0, locals := 25 } : Room) (va_Pc [.ref o, .int x1] (mb_B D Y (gw4 Y o a M) sz)) (va_Qi K (fun u t => mb_T D (va_A (gw4 Y o a M) sz) (gw4 Y o a u) t) (va_A (gw4 Y o a M) sz)) 0 0 (va_A (gw4 Y o a M) sz) := by
  refine mb_begin (cc := cX4_mostStitches) (maxL := 4) (ret := (some .int)) (by decide +kernel) rfl (Nat.le_of_ble_eq_true rfl) ?_
  intro p e s m below meth c ls C hsz hnm hP hD hl
  generalize hAe : va_A (gw4 Y o a M) sz = A at C hD ⊢
  have C : mb_Cx p s m meth c ([.ref o, .int x1] : List Value).toArray cX4_mostStitches 4 (some .int) wsX4_mostStitches RX4 D Y A := C
  obtain ⟨hx, hb, hr, hml, hts, hown, hlocks, hA, hG⟩ := id C
  have hK := hG.1
  have hS : va_S A s.heap s.heap [] := va_S.rf
  have hl : lv_has ls 4 [(0, .ref o), (1, .int x1)] := hl
  refine lv_iconst (v := 0) hx hb dX4_mostStitches_0 (by decide) ?_
  refine lv_istore_n (lv' := [(2, .int (0 : Int32)), (0, .ref o), (1, .int x1)]) hx hb dX4_mostStitches_1 rfl hl (by decide) rfl (fun ls hl => ?_)
  refine lv_iconst (v := 0) hx hb dX4_mostStitches_2 (by decide) ?_
  refine lv_istore_n (lv' := [(3, .int (0 : Int32)), (2, .int (0 : Int32)), (0, .ref o), (1, .int x1)]) hx hb dX4_mostStitches_3 rfl hl (by decide) rfl (fun ls hl => ?_)
  exact wX4_mostStitches_4 C N M x1 (0 : Int32) (0 : Int32) _ _ _ hF hP hD hS (lv_sub hl [2, 3, 1, 0] rfl)
end
section
noncomputable def PX4_swell_4_b (N : Nat) (K : Int32 → mb_m → Prop) (b4 : mb_m → Int32 → Int32 → Prop) (M : mb_m) (x1 x2 : Int32) : Prop := ((M 0 0) ≤ x2 → K ((3 : Int32) * x1) M) ∧ (¬ (M 0 0) ≤ x2 → PX4_mostStitches N M x2 (fun r15 M15 => ∀ v19 : Int32, v19 = (x1 + r15) → (∀ v20 : Int32, v20 = x2 + (1 : Int32) → (b4 M15 v19 v20))))
noncomputable def PX4_swell_4 (N : Nat) (K : Int32 → mb_m → Prop) (n : Nat) : mb_m → Int32 → Int32 → Prop := Nat.rec (motive := fun _ => mb_m → Int32 → Int32 → Prop) (fun _ _ _ => False) (fun _ b4 => PX4_swell_4_b N K  b4) n
set_option maxHeartbeats 4000000 in
set_option maxRecDepth 100000 in
theorem wX4_swell_4 {p : Program} {l : Launch} {e : Env} {s : State} {m : MethodId} {below : List Frame} {meth : Method} {c : Code} {args : Array Value} {D : va_G} {Y : Nat → ClassId} {A : Nat → Prop} {o : Nat} {a : Nat → Nat} {N : Nat} {K : Int32 → mb_m → Prop} (C : mb_Cx p s m meth c args cX4_swell 3 (some .int) wsX4_swell RX4 D Y A) : ∀ (n : Nat), (∀ (M : mb_m) (x1 x2 : Int32) (H : Heap) (locs : List Loc) (ls : Array Slot), PX4_swell_4 N K  n M x1 x2 → va_P D vwCl (gw4 Y o a M) H → va_D A (gw4 Y o a M) → va_S A s.heap H locs → lv_has ls 3 [(0, .ref o), (1, .int x1), (2, .int x2)] → W p l e ({ frames := 2, cells := 0, slots := 0, locals := 48 } : Room) s m args below meth c H locs 0 0 (MQ below (va_Qi K (fun u t => mb_T D A (gw4 Y o a u) t) A) args s 0 0 A) (F0 m 4 ls [])) := by
  obtain ⟨hx, hb, hr, hml, hts, hown, hlocks, hA, hG⟩ := id C
  have hK := hG.1
  intro n
  induction n with
  | zero => intro M x1 x2 H locs ls hF; exact (show False from hF).elim
  | succ n ih =>
    intro M x1 x2 H locs ls hF hP hD hS hl
    have hF : PX4_swell_4_b N K  (PX4_swell_4 N K  n) M x1 x2 := hF
    refine lv_iload_n hx hb dX4_swell_4 rfl (lv_at hl 2 rfl) ?_
    refine lv_aload_n hx hb dX4_swell_5 rfl (lv_at hl 0 rfl) ?_
    refine va_get (D := D) (ci := 4) (v := .int (M 0 0)) (C := RX4) (T := TX4) (N := 10) hx hb hts (fun _ h9 => List.mem_cons_of_mem _ (List.mem_append_right _ (h9))) hown hK hP 0 rfl rfl 0 (by decide) (hts (.fieldLink RX4 21 "MarbleBench$Sewing" "gatherings" "I") (List.mem_of_getElem? (i := 1) rfl)) (fun _ h9 => h9) rfl dX4_swell_6 ?_
    refine lv_icmp_ge (tgt := 26) hx hb dX4_swell_9 (by decide) (fun c_9 => ?_) (fun c_9 => ?_)
    · have hF := hF.1 c_9
      refine lv_iconst (v := 3) hx hb dX4_swell_26 (by decide) ?_
      refine lv_iload_n hx hb dX4_swell_27 rfl (lv_at hl 1 rfl) ?_
      refine lv_imul hx hb dX4_swell_28 ?_
      exact mb_ri (S := mb_m) (mc := 0) (ms := 0) (wf := fun u => gw4 Y o a u) C rfl (u := M) hF hP hD hS dX4_swell_29 (Nat.le_of_ble_eq_true rfl) (Nat.le_of_ble_eq_true rfl)
    · have hF := hF.2 c_9
      refine lv_iload_n hx hb dX4_swell_12 rfl (lv_at hl 1 rfl) ?_
      refine lv_aload_n hx hb dX4_swell_13 rfl (lv_at hl 0 rfl) ?_
      refine lv_iload_n hx hb dX4_swell_14 rfl (lv_at hl 2 rfl) ?_
      refine mb_cW hD hS hA (va_runV (As := [.int x2]) (rest := [.int x1]) ⟨hx, hb, hml, hown, hts⟩ (cnX4_mostStitches l D Y N o a M _ x2 _ hF) (cwV 1 hts gX4_swell_X4_mostStitches rfl rfl rfl (by decide +kernel) ⟨Nat.le_of_ble_eq_true rfl, Nat.le_of_ble_eq_true rfl⟩) (mb_preV hG hP hD 0 rfl rfl) rfl rfl hl.1 rfl (lv_room (Nat.le_of_ble_eq_true rfl)) dX4_swell_15 ⟨Nat.le_of_ble_eq_true rfl, Nat.le_of_ble_eq_true rfl⟩) (fun r15 M15 H locs hF hP hD hS => ?_)
      refine lv_iadd hx hb dX4_swell_18 ?_
      refine lv_topi (fun v19 ev19 => ?_)
      have hF := hF v19 ev19
      refine lv_istore_n (lv' := [(1, .int v19), (0, .ref o), (2, .int x2)]) hx hb dX4_swell_19 rfl hl (by decide) rfl (fun ls hl => ?_)
      obtain ⟨v20, ev20⟩ : ∃ y : Int32, y = x2 + (1 : Int32) := ⟨_, rfl⟩
      have hF := hF v20 ev20
      refine lv_iinc (v := v20) (lv' := [(2, .int v20), (1, .int v19), (0, .ref o)]) hx hb dX4_swell_20 hl (k := 2) rfl (by rw [ev20]; rfl) (by decide) rfl (fun ls hl => ?_)
      refine lv_goto (tgt := 4) hx hb dX4_swell_23 (by decide) ?_
      exact ih M15 v19 v20 _ _ _ hF hP hD hS (lv_sub hl [2, 1, 0] rfl)
noncomputable def PX4_swell (N : Nat) (M : mb_m) (K : Int32 → mb_m → Prop) : Prop := PX4_swell_4 N K N M (0 : Int32) (0 : Int32)
set_option maxHeartbeats 4000000 in
set_option maxRecDepth 100000 in
theorem cnX4_swell (l : Launch) (D : va_G) (Y : Nat → ClassId) (N : Nat) (o : Nat) (a : Nat → Nat) (M : mb_m) (sz : Nat) (K : Int32 → mb_m → Prop) (hF : PX4_swell N M K) : Met l yX4_swell wsX4_swell ({ frames := 2, cells := 0, slots := 0, locals := 48 } : Room) (va_Pc [.ref o] (mb_B D Y (gw4 Y o a M) sz)) (va_Qi K (fun u t => mb_T D (va_A (gw4 Y o a M) sz) (gw4 Y o a u) t) (va_A (gw4 Y o a M) sz)) 0 0 (va_A (gw4 Y o a M) sz) := by
  refine mb_begin (cc := cX4_swell) (maxL := 3) (ret := (some .int)) (by decide +kernel) rfl (Nat.le_of_ble_eq_true rfl) ?_
  intro p e s m below meth c ls C hsz hnm hP hD hl
  generalize hAe : va_A (gw4 Y o a M) sz = A at C hD ⊢
  have C : mb_Cx p s m meth c ([.ref o] : List Value).toArray cX4_swell 3 (some .int) wsX4_swell RX4 D Y A := C
  obtain ⟨hx, hb, hr, hml, hts, hown, hlocks, hA, hG⟩ := id C
  have hK := hG.1
  have hS : va_S A s.heap s.heap [] := va_S.rf
  have hl : lv_has ls 3 [(0, .ref o)] := hl
  refine lv_iconst (v := 0) hx hb dX4_swell_0 (by decide) ?_
  refine lv_istore_n (lv' := [(1, .int (0 : Int32)), (0, .ref o)]) hx hb dX4_swell_1 rfl hl (by decide) rfl (fun ls hl => ?_)
  refine lv_iconst (v := 0) hx hb dX4_swell_2 (by decide) ?_
  refine lv_istore_n (lv' := [(2, .int (0 : Int32)), (1, .int (0 : Int32)), (0, .ref o)]) hx hb dX4_swell_3 rfl hl (by decide) rfl (fun ls hl => ?_)
  exact wX4_swell_4 C N M (0 : Int32) (0 : Int32) _ _ _ hF hP hD hS (lv_sub hl [2, 1, 0] rfl)
end
section
noncomputable def PX1_openingsWithin_40 (N : Nat) (K : Int32 → (mb_m × mb_m) → Prop) (b13 : mb_m → mb_m → Int32 → Int32 → Int32 → Int32 → Prop) (M : mb_m) (M_1 : mb_m) (x1 x2 x4 y0 y1 : Int32) : Prop := ∀ v41 : Int32, v41 = (y1 + y0) → (∀ v42 : Int32, v42 = x4 + (1 : Int32) → (b13 M M_1 x1 x2 v41 v42))
set_option maxHeartbeats 4000000 in
set_option maxRecDepth 100000 in
theorem wX1_openingsWithin_40 {p : Program} {l : Launch} {e : Env} {s : State} {m : MethodId} {below : List Frame} {meth : Method} {c : Code} {args : Array Value} {D : va_G} {Y : Nat → ClassId} {A : Nat → Prop} {o : Nat} {a : Nat → Nat} {a1 : Nat → Nat} {N : Nat} {K : Int32 → (mb_m × mb_m) → Prop} {b13 : mb_m → mb_m → Int32 → Int32 → Int32 → Int32 → Prop} (C : mb_Cx p s m meth c args cX1_openingsWithin 5 (some .int) wsX1_openingsWithin RX1 D Y A) (hb13 : ∀ (M : mb_m) (M_1 : mb_m) (x1 x2 x3 x4 : Int32) (H : Heap) (locs : List Loc) (ls : Array Slot), b13 M M_1 x1 x2 x3 x4 → va_P D vwCl (gw1 Y o a M ++ gw4 Y (a 0) a1 M_1) H → va_D A (gw1 Y o a M ++ gw4 Y (a 0) a1 M_1) → va_S A s.heap H locs → lv_has ls 5 [(0, .ref o), (1, .int x1), (2, .int x2), (3, .int x3), (4, .int x4)] → W p l e ({ frames := 3, cells := 0, slots := 0, locals := 70 } : Room) s m args below meth c H locs 0 0 (MQ below (va_Qi K (fun u t => mb_T D A (gw1 Y o a u.1 ++ gw4 Y (a 0) a1 u.2) t) A) args s 0 0 A) (F0 m 13 ls [])) : ∀ (M : mb_m) (M_1 : mb_m) (x1 x2 x4 y0 y1 : Int32) (H : Heap) (locs : List Loc) (ls : Array Slot), PX1_openingsWithin_40 N K b13 M M_1 x1 x2 x4 y0 y1 → va_P D vwCl (gw1 Y o a M ++ gw4 Y (a 0) a1 M_1) H → va_D A (gw1 Y o a M ++ gw4 Y (a 0) a1 M_1) → va_S A s.heap H locs → lv_has ls 5 [(0, .ref o), (1, .int x1), (2, .int x2), (4, .int x4)] → W p l e ({ frames := 3, cells := 0, slots := 0, locals := 70 } : Room) s m args below meth c H locs 0 0 (MQ below (va_Qi K (fun u t => mb_T D A (gw1 Y o a u.1 ++ gw4 Y (a 0) a1 u.2) t) A) args s 0 0 A) (F0 m 40 ls [.int y0, .int y1]) := by
  obtain ⟨hx, hb, hr, hml, hts, hown, hlocks, hA, hG⟩ := id C
  have hK := hG.1
  intro M M_1 x1 x2 x4 y0 y1 H locs ls hF hP hD hS hl
  refine lv_iadd hx hb dX1_openingsWithin_40 ?_
  refine lv_topi (fun v41 ev41 => ?_)
  have hF := hF v41 ev41
  refine lv_istore_n (lv' := [(3, .int v41), (0, .ref o), (1, .int x1), (2, .int x2), (4, .int x4)]) hx hb dX1_openingsWithin_41 rfl hl (by decide) rfl (fun ls hl => ?_)
  obtain ⟨v42, ev42⟩ : ∃ y : Int32, y = x4 + (1 : Int32) := ⟨_, rfl⟩
  have hF := hF v42 ev42
  refine lv_iinc (v := v42) (lv' := [(4, .int v42), (3, .int v41), (0, .ref o), (1, .int x1), (2, .int x2)]) hx hb dX1_openingsWithin_42 hl (k := 4) rfl (by rw [ev42]; rfl) (by decide) rfl (fun ls hl => ?_)
  refine lv_goto (tgt := 13) hx hb dX1_openingsWithin_45 (by decide) ?_
  exact hb13 M M_1 x1 x2 v41 v42 _ _ _ hF hP hD hS (lv_sub hl [2, 3, 4, 1, 0] rfl)
noncomputable def PX1_openingsWithin_13_b (N : Nat) (K : Int32 → (mb_m × mb_m) → Prop) (b13 : mb_m → mb_m → Int32 → Int32 → Int32 → Int32 → Prop) (M : mb_m) (M_1 : mb_m) (x1 x2 x3 x4 : Int32) : Prop := ((M 3 0) < x4 → K x3 (M, M_1)) ∧ (¬ (M 3 0) < x4 → PX1_bendAt N M x4 (fun r26 M26 => (x1 < (r26 + x2) → PX1_openingsWithin_40 N K b13 M26 M_1 x1 x2 x4 (0 : Int32) x3) ∧ (¬ x1 < (r26 + x2) → PX1_openingsWithin_40 N K b13 M26 M_1 x1 x2 x4 (1 : Int32) x3)))
noncomputable def PX1_openingsWithin_13 (N : Nat) (K : Int32 → (mb_m × mb_m) → Prop) (n : Nat) : mb_m → mb_m → Int32 → Int32 → Int32 → Int32 → Prop := Nat.rec (motive := fun _ => mb_m → mb_m → Int32 → Int32 → Int32 → Int32 → Prop) (fun _ _ _ _ _ _ => False) (fun _ b13 => PX1_openingsWithin_13_b N K  b13) n
set_option maxHeartbeats 4000000 in
set_option maxRecDepth 100000 in
theorem wX1_openingsWithin_13 {p : Program} {l : Launch} {e : Env} {s : State} {m : MethodId} {below : List Frame} {meth : Method} {c : Code} {args : Array Value} {D : va_G} {Y : Nat → ClassId} {A : Nat → Prop} {o : Nat} {a : Nat → Nat} {a1 : Nat → Nat} {N : Nat} {K : Int32 → (mb_m × mb_m) → Prop} (C : mb_Cx p s m meth c args cX1_openingsWithin 5 (some .int) wsX1_openingsWithin RX1 D Y A) : ∀ (n : Nat), (∀ (M : mb_m) (M_1 : mb_m) (x1 x2 x3 x4 : Int32) (H : Heap) (locs : List Loc) (ls : Array Slot), PX1_openingsWithin_13 N K  n M M_1 x1 x2 x3 x4 → va_P D vwCl (gw1 Y o a M ++ gw4 Y (a 0) a1 M_1) H → va_D A (gw1 Y o a M ++ gw4 Y (a 0) a1 M_1) → va_S A s.heap H locs → lv_has ls 5 [(0, .ref o), (1, .int x1), (2, .int x2), (3, .int x3), (4, .int x4)] → W p l e ({ frames := 3, cells := 0, slots := 0, locals := 70 } : Room) s m args below meth c H locs 0 0 (MQ below (va_Qi K (fun u t => mb_T D A (gw1 Y o a u.1 ++ gw4 Y (a 0) a1 u.2) t) A) args s 0 0 A) (F0 m 13 ls [])) := by
  obtain ⟨hx, hb, hr, hml, hts, hown, hlocks, hA, hG⟩ := id C
  have hK := hG.1
  intro n
  induction n with
  | zero => intro M M_1 x1 x2 x3 x4 H locs ls hF; exact (show False from hF).elim
  | succ n ih =>
    intro M M_1 x1 x2 x3 x4 H locs ls hF hP hD hS hl
    have hF : PX1_openingsWithin_13_b N K  (PX1_openingsWithin_13 N K  n) M M_1 x1 x2 x3 x4 := hF
    refine lv_iload hx hb dX1_openingsWithin_13 (lv_at hl 4 rfl) ?_
    refine lv_aload_n hx hb dX1_openingsWithin_15 rfl (lv_at hl 0 rfl) ?_
    refine va_get (D := D) (ci := 1) (v := .int (M 3 0)) (C := RX1) (T := TX1) (N := 7) hx hb hts (fun _ h9 => List.mem_cons_of_mem _ (List.mem_append_left _ (List.mem_append_right _ (h9)))) hown hK hP 0 rfl rfl 3 (by decide) (hts (.fieldLink RX1 38 "MarbleBench$Book" "leavesInAll" "I") (List.mem_of_getElem? (i := 2) rfl)) (fun _ h9 => h9) rfl dX1_openingsWithin_16 ?_
    refine lv_icmp_gt (tgt := 48) hx hb dX1_openingsWithin_19 (by decide) (fun c_19 => ?_) (fun c_19 => ?_)
    · have hF := hF.1 c_19
      refine lv_iload_n hx hb dX1_openingsWithin_48 rfl (lv_at hl 3 rfl) ?_
      exact mb_ri (S := mb_m × mb_m) (mc := 0) (ms := 0) (wf := fun u => gw1 Y o a u.1 ++ gw4 Y (a 0) a1 u.2) C rfl (u := (M, M_1)) hF hP hD hS dX1_openingsWithin_49 (Nat.le_of_ble_eq_true rfl) (Nat.le_of_ble_eq_true rfl)
    · have hF := hF.2 c_19
      refine lv_iload_n hx hb dX1_openingsWithin_22 rfl (lv_at hl 3 rfl) ?_
      refine lv_aload_n hx hb dX1_openingsWithin_23 rfl (lv_at hl 0 rfl) ?_
      refine lv_iload hx hb dX1_openingsWithin_24 (lv_at hl 4 rfl) ?_
      have hPc := hP.sub (ws' := gw1 Y o a M) [0] rfl
      have hDc := hD.sub (ws' := gw1 Y o a M) [0] (by decide) rfl
      refine mb_cP (wc := gw1 Y o a M) (wr := gw4 Y (a 0) a1 M_1) hP hD hS hA [0] [1, 2, 3, 4] rfl rfl (by decide) (by decide) (va_runV (As := [.int x4]) (rest := [.int x3]) ⟨hx, hb, hml, hown, hts⟩ (cnX1_bendAt l D Y N o a M _ x4 _ hF) (cwV 1 hts gX1_openingsWithin_X1_bendAt rfl rfl rfl (by decide +kernel) ⟨Nat.le_of_ble_eq_true rfl, Nat.le_of_ble_eq_true rfl⟩) (mb_preV hG hPc hDc 0 rfl rfl) rfl rfl hl.1 rfl (lv_room (Nat.le_of_ble_eq_true rfl)) dX1_openingsWithin_26 ⟨Nat.le_of_ble_eq_true rfl, Nat.le_of_ble_eq_true rfl⟩) (fun r26 M26 H locs hF hP hD hS => ?_)
      have hP := hP.sub (ws' := gw1 Y o a M26 ++ gw4 Y (a 0) a1 M_1) [4, 0, 1, 2, 3] rfl
      have hD := hD.sub (ws' := gw1 Y o a M26 ++ gw4 Y (a 0) a1 M_1) [4, 0, 1, 2, 3] (by decide) rfl
      refine lv_iload_n hx hb dX1_openingsWithin_29 rfl (lv_at hl 2 rfl) ?_
      refine lv_iadd hx hb dX1_openingsWithin_30 ?_
      refine lv_iload_n hx hb dX1_openingsWithin_31 rfl (lv_at hl 1 rfl) ?_
      refine lv_icmp_gt (tgt := 39) hx hb dX1_openingsWithin_32 (by decide) (fun c_32 => ?_) (fun c_32 => ?_)
      · have hF := hF.1 c_32
        refine lv_iconst (v := 0) hx hb dX1_openingsWithin_39 (by decide) ?_
        exact wX1_openingsWithin_40 C ih M26 M_1 x1 x2 x4 (0 : Int32) x3 _ _ _ hF hP hD hS (lv_sub hl [0, 1, 2, 4] rfl)
      · have hF := hF.2 c_32
        refine lv_iconst (v := 1) hx hb dX1_openingsWithin_35 (by decide) ?_
        refine lv_goto (tgt := 40) hx hb dX1_openingsWithin_36 (by decide) ?_
        exact wX1_openingsWithin_40 C ih M26 M_1 x1 x2 x4 (1 : Int32) x3 _ _ _ hF hP hD hS (lv_sub hl [0, 1, 2, 4] rfl)
noncomputable def PX1_openingsWithin (N : Nat) (M : mb_m) (M_1 : mb_m) (x1 : Int32) (K : Int32 → (mb_m × mb_m) → Prop) : Prop := PX4_swell N M_1  (fun r4 M4 => PX1_openingsWithin_13 N K N M M4 x1 r4 (0 : Int32) (0 : Int32))
set_option maxHeartbeats 4000000 in
set_option maxRecDepth 100000 in
theorem cnX1_openingsWithin (l : Launch) (D : va_G) (Y : Nat → ClassId) (N : Nat) (o : Nat) (a : Nat → Nat) (M : mb_m) (a1 : Nat → Nat) (M_1 : mb_m) (sz : Nat) (x1 : Int32) (K : Int32 → (mb_m × mb_m) → Prop) (hF : PX1_openingsWithin N M M_1 x1 K) : Met l yX1_openingsWithin wsX1_openingsWithin ({ frames := 3, cells := 0, slots := 0, locals := 70 } : Room) (va_Pc [.ref o, .int x1] (mb_B D Y (gw1 Y o a M ++ gw4 Y (a 0) a1 M_1) sz)) (va_Qi K (fun u t => mb_T D (va_A (gw1 Y o a M ++ gw4 Y (a 0) a1 M_1) sz) (gw1 Y o a u.1 ++ gw4 Y (a 0) a1 u.2) t) (va_A (gw1 Y o a M ++ gw4 Y (a 0) a1 M_1) sz)) 0 0 (va_A (gw1 Y o a M ++ gw4 Y (a 0) a1 M_1) sz) := by
  refine mb_begin (cc := cX1_openingsWithin) (maxL := 5) (ret := (some .int)) (by decide +kernel) rfl (Nat.le_of_ble_eq_true rfl) ?_
  intro p e s m below meth c ls C hsz hnm hP hD hl
  generalize hAe : va_A (gw1 Y o a M ++ gw4 Y (a 0) a1 M_1) sz = A at C hD ⊢
  have C : mb_Cx p s m meth c ([.ref o, .int x1] : List Value).toArray cX1_openingsWithin 5 (some .int) wsX1_openingsWithin RX1 D Y A := C
  obtain ⟨hx, hb, hr, hml, hts, hown, hlocks, hA, hG⟩ := id C
  have hK := hG.1
  have hS : va_S A s.heap s.heap [] := va_S.rf
  have hl : lv_has ls 5 [(0, .ref o), (1, .int x1)] := hl
  refine lv_aload_n hx hb dX1_openingsWithin_0 rfl (lv_at hl 0 rfl) ?_
  refine va_get (D := D) (ci := 1) (v := .ref (a 0)) (C := RX1) (T := TX1) (N := 7) hx hb hts (fun _ h9 => List.mem_cons_of_mem _ (List.mem_append_left _ (List.mem_append_right _ (h9)))) hown hK hP 0 rfl rfl 0 (by decide) (hts (.fieldLink RX1 34 "MarbleBench$Book" "sewing" "LMarbleBench$Sewing;") (List.mem_of_getElem? (i := 1) rfl)) (fun _ h9 => h9) rfl dX1_openingsWithin_1 ?_
  have hPc := hP.sub (ws' := gw4 Y (a 0) a1 M_1) [1, 2, 3, 4] rfl
  have hDc := hD.sub (ws' := gw4 Y (a 0) a1 M_1) [1, 2, 3, 4] (by decide) rfl
  refine mb_cP (wc := gw4 Y (a 0) a1 M_1) (wr := gw1 Y o a M) hP hD hS hA [1, 2, 3, 4] [0] rfl rfl (by decide) (by decide) (va_runV (As := []) (rest := []) ⟨hx, hb, hml, hown, hts⟩ (cnX4_swell l D Y N (a 0) a1 M_1 _  _ hF) (cwV 0 hts gX1_openingsWithin_X4_swell rfl rfl rfl (by decide +kernel) ⟨Nat.le_of_ble_eq_true rfl, Nat.le_of_ble_eq_true rfl⟩) (mb_preV hG hPc hDc 0 rfl rfl) rfl rfl hl.1 rfl (lv_room (Nat.le_of_ble_eq_true rfl)) dX1_openingsWithin_4 ⟨Nat.le_of_ble_eq_true rfl, Nat.le_of_ble_eq_true rfl⟩) (fun r4 M4 H locs hF hP hD hS => ?_)
  have hP := hP.sub (ws' := gw1 Y o a M ++ gw4 Y (a 0) a1 M4) [0, 1, 2, 3, 4] rfl
  have hD := hD.sub (ws' := gw1 Y o a M ++ gw4 Y (a 0) a1 M4) [0, 1, 2, 3, 4] (by decide) rfl
  refine lv_istore_n (lv' := [(2, .int r4), (0, .ref o), (1, .int x1)]) hx hb dX1_openingsWithin_7 rfl hl (by decide) rfl (fun ls hl => ?_)
  refine lv_iconst (v := 0) hx hb dX1_openingsWithin_8 (by decide) ?_
  refine lv_istore_n (lv' := [(3, .int (0 : Int32)), (2, .int r4), (0, .ref o), (1, .int x1)]) hx hb dX1_openingsWithin_9 rfl hl (by decide) rfl (fun ls hl => ?_)
  refine lv_iconst (v := 0) hx hb dX1_openingsWithin_10 (by decide) ?_
  refine lv_istore (lv' := [(4, .int (0 : Int32)), (3, .int (0 : Int32)), (2, .int r4), (0, .ref o), (1, .int x1)]) hx hb dX1_openingsWithin_11 hl (by decide) rfl (fun ls hl => ?_)
  exact wX1_openingsWithin_13 C N M M4 x1 r4 (0 : Int32) (0 : Int32) _ _ _ hF hP hD hS (lv_sub hl [3, 4, 2, 1, 0] rfl)
end
section
noncomputable def PX2_cellsWith_26 (N : Nat) (K : Int32 → mb_m → Prop) (b4 : mb_m → Int32 → Int32 → Int32 → Prop) (M : mb_m) (x1 x3 y0 y1 : Int32) : Prop := ∀ v27 : Int32, v27 = (y1 + y0) → (∀ v28 : Int32, v28 = x3 + (1 : Int32) → (b4 M x1 v27 v28))
set_option maxHeartbeats 4000000 in
set_option maxRecDepth 100000 in
theorem wX2_cellsWith_26 {p : Program} {l : Launch} {e : Env} {s : State} {m : MethodId} {below : List Frame} {meth : Method} {c : Code} {args : Array Value} {D : va_G} {Y : Nat → ClassId} {A : Nat → Prop} {o : Nat} {a : Nat → Nat} {N : Nat} {K : Int32 → mb_m → Prop} {b4 : mb_m → Int32 → Int32 → Int32 → Prop} (C : mb_Cx p s m meth c args cX2_cellsWith 4 (some .int) wsX2_cellsWith RX2 D Y A) (hb4 : ∀ (M : mb_m) (x1 x2 x3 : Int32) (H : Heap) (locs : List Loc) (ls : Array Slot), b4 M x1 x2 x3 → va_P D vwCl (gw2 Y o a M) H → va_D A (gw2 Y o a M) → va_S A s.heap H locs → lv_has ls 4 [(0, .ref o), (1, .int x1), (2, .int x2), (3, .int x3)] → W p l e ({ frames := 0, cells := 0, slots := 0, locals := 0 } : Room) s m args below meth c H locs 0 0 (MQ below (va_Qi K (fun u t => mb_T D A (gw2 Y o a u) t) A) args s 0 0 A) (F0 m 4 ls [])) : ∀ (M : mb_m) (x1 x3 y0 y1 : Int32) (H : Heap) (locs : List Loc) (ls : Array Slot), PX2_cellsWith_26 N K b4 M x1 x3 y0 y1 → va_P D vwCl (gw2 Y o a M) H → va_D A (gw2 Y o a M) → va_S A s.heap H locs → lv_has ls 4 [(0, .ref o), (1, .int x1), (3, .int x3)] → W p l e ({ frames := 0, cells := 0, slots := 0, locals := 0 } : Room) s m args below meth c H locs 0 0 (MQ below (va_Qi K (fun u t => mb_T D A (gw2 Y o a u) t) A) args s 0 0 A) (F0 m 26 ls [.int y0, .int y1]) := by
  obtain ⟨hx, hb, hr, hml, hts, hown, hlocks, hA, hG⟩ := id C
  have hK := hG.1
  intro M x1 x3 y0 y1 H locs ls hF hP hD hS hl
  refine lv_iadd hx hb dX2_cellsWith_26 ?_
  refine lv_topi (fun v27 ev27 => ?_)
  have hF := hF v27 ev27
  refine lv_istore_n (lv' := [(2, .int v27), (0, .ref o), (1, .int x1), (3, .int x3)]) hx hb dX2_cellsWith_27 rfl hl (by decide) rfl (fun ls hl => ?_)
  obtain ⟨v28, ev28⟩ : ∃ y : Int32, y = x3 + (1 : Int32) := ⟨_, rfl⟩
  have hF := hF v28 ev28
  refine lv_iinc (v := v28) (lv' := [(3, .int v28), (2, .int v27), (0, .ref o), (1, .int x1)]) hx hb dX2_cellsWith_28 hl (k := 3) rfl (by rw [ev28]; rfl) (by decide) rfl (fun ls hl => ?_)
  refine lv_goto (tgt := 4) hx hb dX2_cellsWith_31 (by decide) ?_
  exact hb4 M x1 v27 v28 _ _ _ hF hP hD hS (lv_sub hl [2, 3, 1, 0] rfl)
noncomputable def PX2_cellsWith_4_b (N : Nat) (K : Int32 → mb_m → Prop) (b4 : mb_m → Int32 → Int32 → Int32 → Prop) (M : mb_m) (x1 x2 x3 : Int32) : Prop := ((64 : Int32) ≤ x3 → K x2 M) ∧ (¬ (64 : Int32) ≤ x3 → vp_in x3 64 ∧ ((¬ (M 0 x3.toNatClampNeg) = x1 → PX2_cellsWith_26 N K b4 M x1 x3 (0 : Int32) x2) ∧ ((M 0 x3.toNatClampNeg) = x1 → PX2_cellsWith_26 N K b4 M x1 x3 (1 : Int32) x2)))
noncomputable def PX2_cellsWith_4 (N : Nat) (K : Int32 → mb_m → Prop) (n : Nat) : mb_m → Int32 → Int32 → Int32 → Prop := Nat.rec (motive := fun _ => mb_m → Int32 → Int32 → Int32 → Prop) (fun _ _ _ _ => False) (fun _ b4 => PX2_cellsWith_4_b N K  b4) n
set_option maxHeartbeats 4000000 in
set_option maxRecDepth 100000 in
theorem wX2_cellsWith_4 {p : Program} {l : Launch} {e : Env} {s : State} {m : MethodId} {below : List Frame} {meth : Method} {c : Code} {args : Array Value} {D : va_G} {Y : Nat → ClassId} {A : Nat → Prop} {o : Nat} {a : Nat → Nat} {N : Nat} {K : Int32 → mb_m → Prop} (C : mb_Cx p s m meth c args cX2_cellsWith 4 (some .int) wsX2_cellsWith RX2 D Y A) : ∀ (n : Nat), (∀ (M : mb_m) (x1 x2 x3 : Int32) (H : Heap) (locs : List Loc) (ls : Array Slot), PX2_cellsWith_4 N K  n M x1 x2 x3 → va_P D vwCl (gw2 Y o a M) H → va_D A (gw2 Y o a M) → va_S A s.heap H locs → lv_has ls 4 [(0, .ref o), (1, .int x1), (2, .int x2), (3, .int x3)] → W p l e ({ frames := 0, cells := 0, slots := 0, locals := 0 } : Room) s m args below meth c H locs 0 0 (MQ below (va_Qi K (fun u t => mb_T D A (gw2 Y o a u) t) A) args s 0 0 A) (F0 m 4 ls [])) := by
  obtain ⟨hx, hb, hr, hml, hts, hown, hlocks, hA, hG⟩ := id C
  have hK := hG.1
  intro n
  induction n with
  | zero => intro M x1 x2 x3 H locs ls hF; exact (show False from hF).elim
  | succ n ih =>
    intro M x1 x2 x3 H locs ls hF hP hD hS hl
    have hF : PX2_cellsWith_4_b N K  (PX2_cellsWith_4 N K  n) M x1 x2 x3 := hF
    refine lv_iload_n hx hb dX2_cellsWith_4 rfl (lv_at hl 3 rfl) ?_
    refine lv_bipush (v := 64) hx hb dX2_cellsWith_5 (by decide) ?_
    refine lv_icmp_ge (tgt := 34) hx hb dX2_cellsWith_7 (by decide) (fun c_7 => ?_) (fun c_7 => ?_)
    · have hF := hF.1 c_7
      refine lv_iload_n hx hb dX2_cellsWith_34 rfl (lv_at hl 2 rfl) ?_
      exact mb_ri (S := mb_m) (mc := 0) (ms := 0) (wf := fun u => gw2 Y o a u) C rfl (u := M) hF hP hD hS dX2_cellsWith_35 (Nat.le_of_ble_eq_true rfl) (Nat.le_of_ble_eq_true rfl)
    · have hF := hF.2 c_7
      refine lv_iload_n hx hb dX2_cellsWith_10 rfl (lv_at hl 2 rfl) ?_
      refine lv_aload_n hx hb dX2_cellsWith_11 rfl (lv_at hl 0 rfl) ?_
      refine va_get (D := D) (ci := 2) (v := .ref (a 0)) (C := RX2) (T := TX2) (N := 1) hx hb hts (fun _ h9 => List.mem_cons_of_mem _ (List.mem_append_right _ (h9))) hown hK hP 0 rfl rfl 0 (by decide) (hts (.fieldLink RX2 9 "MarbleBench$Print" "colours" "[I") (List.mem_of_getElem? (i := 1) rfl)) (fun _ h9 => h9) rfl dX2_cellsWith_12 ?_
      refine lv_iload_n hx hb dX2_cellsWith_15 rfl (lv_at hl 3 rfl) ?_
      obtain ⟨hi16, hF⟩ := hF
      refine va_iald hx hb hK hP 1 0 rfl rfl hi16 dX2_cellsWith_16 ?_
      refine lv_iload_n hx hb dX2_cellsWith_17 rfl (lv_at hl 1 rfl) ?_
      refine lv_icmp_ne (tgt := 25) hx hb dX2_cellsWith_18 (by decide) (fun c_18 => ?_) (fun c_18 => ?_)
      · have hF := hF.1 c_18
        refine lv_iconst (v := 0) hx hb dX2_cellsWith_25 (by decide) ?_
        exact wX2_cellsWith_26 C ih M x1 x3 (0 : Int32) x2 _ _ _ hF hP hD hS (lv_sub hl [0, 1, 3] rfl)
      · have hF := hF.2 c_18
        refine lv_iconst (v := 1) hx hb dX2_cellsWith_21 (by decide) ?_
        refine lv_goto (tgt := 26) hx hb dX2_cellsWith_22 (by decide) ?_
        exact wX2_cellsWith_26 C ih M x1 x3 (1 : Int32) x2 _ _ _ hF hP hD hS (lv_sub hl [0, 1, 3] rfl)
noncomputable def PX2_cellsWith (N : Nat) (M : mb_m) (x1 : Int32) (K : Int32 → mb_m → Prop) : Prop := PX2_cellsWith_4 N K N M x1 (0 : Int32) (0 : Int32)
set_option maxHeartbeats 4000000 in
set_option maxRecDepth 100000 in
theorem cnX2_cellsWith (l : Launch) (D : va_G) (Y : Nat → ClassId) (N : Nat) (o : Nat) (a : Nat → Nat) (M : mb_m) (sz : Nat) (x1 : Int32) (K : Int32 → mb_m → Prop) (hF : PX2_cellsWith N M x1 K) : Met l yX2_cellsWith wsX2_cellsWith ({ frames := 0, cells := 0, slots := 0, locals := 0 } : Room) (va_Pc [.ref o, .int x1] (mb_B D Y (gw2 Y o a M) sz)) (va_Qi K (fun u t => mb_T D (va_A (gw2 Y o a M) sz) (gw2 Y o a u) t) (va_A (gw2 Y o a M) sz)) 0 0 (va_A (gw2 Y o a M) sz) := by
  refine mb_begin (cc := cX2_cellsWith) (maxL := 4) (ret := (some .int)) (by decide +kernel) rfl (Nat.le_of_ble_eq_true rfl) ?_
  intro p e s m below meth c ls C hsz hnm hP hD hl
  generalize hAe : va_A (gw2 Y o a M) sz = A at C hD ⊢
  have C : mb_Cx p s m meth c ([.ref o, .int x1] : List Value).toArray cX2_cellsWith 4 (some .int) wsX2_cellsWith RX2 D Y A := C
  obtain ⟨hx, hb, hr, hml, hts, hown, hlocks, hA, hG⟩ := id C
  have hK := hG.1
  have hS : va_S A s.heap s.heap [] := va_S.rf
  have hl : lv_has ls 4 [(0, .ref o), (1, .int x1)] := hl
  refine lv_iconst (v := 0) hx hb dX2_cellsWith_0 (by decide) ?_
  refine lv_istore_n (lv' := [(2, .int (0 : Int32)), (0, .ref o), (1, .int x1)]) hx hb dX2_cellsWith_1 rfl hl (by decide) rfl (fun ls hl => ?_)
  refine lv_iconst (v := 0) hx hb dX2_cellsWith_2 (by decide) ?_
  refine lv_istore_n (lv' := [(3, .int (0 : Int32)), (2, .int (0 : Int32)), (0, .ref o), (1, .int x1)]) hx hb dX2_cellsWith_3 rfl hl (by decide) rfl (fun ls hl => ?_)
  exact wX2_cellsWith_4 C N M x1 (0 : Int32) (0 : Int32) _ _ _ hF hP hD hS (lv_sub hl [2, 3, 1, 0] rfl)
end
section
noncomputable def PX3_add (N : Nat) (M : mb_m) (x1 : Int32) (K : mb_m → Prop) : Prop := ((20 : Int32) ≤ (M 1 0) → K M) ∧ (¬ (20 : Int32) ≤ (M 1 0) → vp_in (M 1 0) 20 ∧ (∀ M18 : mb_m, M18 = mb_u M 0 (upd (M 0) (M 1 0).toNatClampNeg x1) → (∀ v26 : Int32, v26 = ((M18 1 0) + (1 : Int32)) → (∀ M26 : mb_m, M26 = mb_u M18 1 (mb_c v26) → (K M26)))))
set_option maxHeartbeats 4000000 in
set_option maxRecDepth 100000 in
theorem cnX3_add (l : Launch) (D : va_G) (Y : Nat → ClassId) (N : Nat) (o : Nat) (a : Nat → Nat) (M : mb_m) (sz : Nat) (x1 : Int32) (K : mb_m → Prop) (hF : PX3_add N M x1 K) : Met l yX3_add wsX3_add ({ frames := 0, cells := 0, slots := 0, locals := 0 } : Room) (va_Pc [.ref o, .int x1] (mb_B D Y (gw3 Y o a M) sz)) (va_Qv K (fun u t => mb_T D (va_A (gw3 Y o a M) sz) (gw3 Y o a u) t) (va_A (gw3 Y o a M) sz)) 0 0 (va_A (gw3 Y o a M) sz) := by
  refine mb_begin (cc := cX3_add) (maxL := 2) (ret := none) (by decide +kernel) rfl (Nat.le_of_ble_eq_true rfl) ?_
  intro p e s m below meth c ls C hsz hnm hP hD hl
  generalize hAe : va_A (gw3 Y o a M) sz = A at C hD ⊢
  have C : mb_Cx p s m meth c ([.ref o, .int x1] : List Value).toArray cX3_add 2 none wsX3_add RX3 D Y A := C
  obtain ⟨hx, hb, hr, hml, hts, hown, hlocks, hA, hG⟩ := id C
  have hK := hG.1
  have hS : va_S A s.heap s.heap [] := va_S.rf
  have hl : lv_has ls 2 [(0, .ref o), (1, .int x1)] := hl
  refine lv_aload_n hx hb dX3_add_0 rfl (lv_at hl 0 rfl) ?_
  refine va_get (D := D) (ci := 3) (v := .int (M 1 0)) (C := RX3) (T := TX3) (N := 2) hx hb hts (fun _ h9 => List.mem_cons_of_mem _ (List.mem_append_right _ (h9))) hown hK hP 0 rfl rfl 1 (by decide) (hts (.fieldLink RX3 15 "MarbleBench$Repairs" "number" "I") (List.mem_of_getElem? (i := 1) rfl)) (fun _ h9 => h9) rfl dX3_add_1 ?_
  refine lv_bipush (v := 20) hx hb dX3_add_4 (by decide) ?_
  refine lv_icmp_ge (tgt := 29) hx hb dX3_add_6 (by decide) (fun c_6 => ?_) (fun c_6 => ?_)
  · have hF := hF.1 c_6
    exact mb_rv (S := mb_m) (mc := 0) (ms := 0) (wf := fun u => gw3 Y o a u) C (u := M) hF hP hD hS dX3_add_29 (Nat.le_of_ble_eq_true rfl) (Nat.le_of_ble_eq_true rfl)
  · have hF := hF.2 c_6
    refine lv_aload_n hx hb dX3_add_9 rfl (lv_at hl 0 rfl) ?_
    refine va_get (D := D) (ci := 3) (v := .ref (a 0)) (C := RX3) (T := TX3) (N := 2) hx hb hts (fun _ h9 => List.mem_cons_of_mem _ (List.mem_append_right _ (h9))) hown hK hP 0 rfl rfl 0 (by decide) (hts (.fieldLink RX3 9 "MarbleBench$Repairs" "stuffs" "[I") (List.mem_of_getElem? (i := 2) rfl)) (fun _ h9 => h9) rfl dX3_add_10 ?_
    refine lv_aload_n hx hb dX3_add_13 rfl (lv_at hl 0 rfl) ?_
    refine va_get (D := D) (ci := 3) (v := .int (M 1 0)) (C := RX3) (T := TX3) (N := 2) hx hb hts (fun _ h9 => List.mem_cons_of_mem _ (List.mem_append_right _ (h9))) hown hK hP 0 rfl rfl 1 (by decide) (hts (.fieldLink RX3 15 "MarbleBench$Repairs" "number" "I") (List.mem_of_getElem? (i := 1) rfl)) (fun _ h9 => h9) rfl dX3_add_14 ?_
    refine lv_iload_n hx hb dX3_add_17 rfl (lv_at hl 1 rfl) ?_
    obtain ⟨hi18, hF⟩ := hF
    refine va_iast hx hb hK hP hD hS 1 0 rfl rfl hi18 dX3_add_18 (fun H locs hP hD hS => ?_)
    obtain ⟨M18, eM18⟩ : ∃ y : mb_m, y = mb_u M 0 (upd (M 0) (M 1 0).toNatClampNeg x1) := ⟨_, rfl⟩
    have hF := hF M18 eM18
    have hP : va_P D vwCl (gw3 Y o a (mb_u M 0 (upd (M 0) (M 1 0).toNatClampNeg x1))) H := hP
    have hD : va_D A (gw3 Y o a (mb_u M 0 (upd (M 0) (M 1 0).toNatClampNeg x1))) := hD
    rw [← eM18] at hP hD
    refine lv_aload_n hx hb dX3_add_19 rfl (lv_at hl 0 rfl) ?_
    refine lv_dup hx hb dX3_add_20 rfl ?_
    refine va_get (D := D) (ci := 3) (v := .int (M18 1 0)) (C := RX3) (T := TX3) (N := 2) hx hb hts (fun _ h9 => List.mem_cons_of_mem _ (List.mem_append_right _ (h9))) hown hK hP 0 rfl rfl 1 (by decide) (hts (.fieldLink RX3 15 "MarbleBench$Repairs" "number" "I") (List.mem_of_getElem? (i := 1) rfl)) (fun _ h9 => h9) rfl dX3_add_21 ?_
    refine lv_iconst (v := 1) hx hb dX3_add_24 (by decide) ?_
    refine lv_iadd hx hb dX3_add_25 ?_
    refine lv_topi (fun v26 ev26 => ?_)
    have hF := hF v26 ev26
    refine va_put (D := D) (ci := 3) (v := .int v26) (ty := .int) (C := RX3) (T := TX3) (N := 2) hx hb hts (fun _ h9 => List.mem_cons_of_mem _ (List.mem_append_right _ (h9))) tyX3 tyX3_ok nmX3 hown hK hP hD hS 0 rfl rfl 1 (by decide) (hts (.fieldLink RX3 15 "MarbleBench$Repairs" "number" "I") (List.mem_of_getElem? (i := 1) rfl)) (fun _ h9 => h9) rfl (by decide +kernel) rfl rfl (Nat.le_of_ble_eq_true rfl) dX3_add_26 (fun H locs hP hD hS => ?_)
    obtain ⟨M26, eM26⟩ : ∃ y : mb_m, y = mb_u M18 1 (mb_c v26) := ⟨_, rfl⟩
    have hF := hF M26 eM26
    have hP : va_P D vwCl (gw3 Y o a (mb_u M18 1 (mb_c v26))) H := hP
    have hD : va_D A (gw3 Y o a (mb_u M18 1 (mb_c v26))) := hD
    rw [← eM26] at hP hD
    exact mb_rv (S := mb_m) (mc := 0) (ms := 0) (wf := fun u => gw3 Y o a u) C (u := M26) hF hP hD hS dX3_add_29 (Nat.le_of_ble_eq_true rfl) (Nat.le_of_ble_eq_true rfl)
end
section
noncomputable def PX3_latest (N : Nat) (M : mb_m) (K : Int32 → mb_m → Prop) : Prop := ((M 1 0) ≤ 0 → K (-1 : Int32) M) ∧ (¬ (M 1 0) ≤ 0 → vp_in ((M 1 0) - (1 : Int32)) 20 ∧ (K (M 0 ((M 1 0) - (1 : Int32)).toNatClampNeg) M))
set_option maxHeartbeats 4000000 in
set_option maxRecDepth 100000 in
theorem cnX3_latest (l : Launch) (D : va_G) (Y : Nat → ClassId) (N : Nat) (o : Nat) (a : Nat → Nat) (M : mb_m) (sz : Nat) (K : Int32 → mb_m → Prop) (hF : PX3_latest N M K) : Met l yX3_latest wsX3_latest ({ frames := 0, cells := 0, slots := 0, locals := 0 } : Room) (va_Pc [.ref o] (mb_B D Y (gw3 Y o a M) sz)) (va_Qi K (fun u t => mb_T D (va_A (gw3 Y o a M) sz) (gw3 Y o a u) t) (va_A (gw3 Y o a M) sz)) 0 0 (va_A (gw3 Y o a M) sz) := by
  refine mb_begin (cc := cX3_latest) (maxL := 1) (ret := (some .int)) (by decide +kernel) rfl (Nat.le_of_ble_eq_true rfl) ?_
  intro p e s m below meth c ls C hsz hnm hP hD hl
  generalize hAe : va_A (gw3 Y o a M) sz = A at C hD ⊢
  have C : mb_Cx p s m meth c ([.ref o] : List Value).toArray cX3_latest 1 (some .int) wsX3_latest RX3 D Y A := C
  obtain ⟨hx, hb, hr, hml, hts, hown, hlocks, hA, hG⟩ := id C
  have hK := hG.1
  have hS : va_S A s.heap s.heap [] := va_S.rf
  have hl : lv_has ls 1 [(0, .ref o)] := hl
  refine lv_aload_n hx hb dX3_latest_0 rfl (lv_at hl 0 rfl) ?_
  refine va_get (D := D) (ci := 3) (v := .int (M 1 0)) (C := RX3) (T := TX3) (N := 2) hx hb hts (fun _ h9 => List.mem_cons_of_mem _ (List.mem_append_right _ (h9))) hown hK hP 0 rfl rfl 1 (by decide) (hts (.fieldLink RX3 15 "MarbleBench$Repairs" "number" "I") (List.mem_of_getElem? (i := 1) rfl)) (fun _ h9 => h9) rfl dX3_latest_1 ?_
  refine lv_if_le (tgt := 21) hx hb dX3_latest_4 (by decide) (fun c_4 => ?_) (fun c_4 => ?_)
  · have hF := hF.1 c_4
    refine lv_iconst (v := -1) hx hb dX3_latest_21 (by decide) ?_
    exact mb_ri (S := mb_m) (mc := 0) (ms := 0) (wf := fun u => gw3 Y o a u) C rfl (u := M) hF hP hD hS dX3_latest_22 (Nat.le_of_ble_eq_true rfl) (Nat.le_of_ble_eq_true rfl)
  · have hF := hF.2 c_4
    refine lv_aload_n hx hb dX3_latest_7 rfl (lv_at hl 0 rfl) ?_
    refine va_get (D := D) (ci := 3) (v := .ref (a 0)) (C := RX3) (T := TX3) (N := 2) hx hb hts (fun _ h9 => List.mem_cons_of_mem _ (List.mem_append_right _ (h9))) hown hK hP 0 rfl rfl 0 (by decide) (hts (.fieldLink RX3 9 "MarbleBench$Repairs" "stuffs" "[I") (List.mem_of_getElem? (i := 2) rfl)) (fun _ h9 => h9) rfl dX3_latest_8 ?_
    refine lv_aload_n hx hb dX3_latest_11 rfl (lv_at hl 0 rfl) ?_
    refine va_get (D := D) (ci := 3) (v := .int (M 1 0)) (C := RX3) (T := TX3) (N := 2) hx hb hts (fun _ h9 => List.mem_cons_of_mem _ (List.mem_append_right _ (h9))) hown hK hP 0 rfl rfl 1 (by decide) (hts (.fieldLink RX3 15 "MarbleBench$Repairs" "number" "I") (List.mem_of_getElem? (i := 1) rfl)) (fun _ h9 => h9) rfl dX3_latest_12 ?_
    refine lv_iconst (v := 1) hx hb dX3_latest_15 (by decide) ?_
    refine lv_isub hx hb dX3_latest_16 ?_
    obtain ⟨hi17, hF⟩ := hF
    refine va_iald hx hb hK hP 1 0 rfl rfl hi17 dX3_latest_17 ?_
    refine lv_goto (tgt := 22) hx hb dX3_latest_18 (by decide) ?_
    exact mb_ri (S := mb_m) (mc := 0) (ms := 0) (wf := fun u => gw3 Y o a u) C rfl (u := M) hF hP hD hS dX3_latest_22 (Nat.le_of_ble_eq_true rfl) (Nat.le_of_ble_eq_true rfl)
end
section
noncomputable def PX3_dropLatest (N : Nat) (M : mb_m) (K : mb_m → Prop) : Prop := ((M 1 0) ≤ 0 → K M) ∧ (¬ (M 1 0) ≤ 0 → ∀ v14 : Int32, v14 = ((M 1 0) - (1 : Int32)) → (∀ M14 : mb_m, M14 = mb_u M 1 (mb_c v14) → (K M14)))
set_option maxHeartbeats 4000000 in
set_option maxRecDepth 100000 in
theorem cnX3_dropLatest (l : Launch) (D : va_G) (Y : Nat → ClassId) (N : Nat) (o : Nat) (a : Nat → Nat) (M : mb_m) (sz : Nat) (K : mb_m → Prop) (hF : PX3_dropLatest N M K) : Met l yX3_dropLatest wsX3_dropLatest ({ frames := 0, cells := 0, slots := 0, locals := 0 } : Room) (va_Pc [.ref o] (mb_B D Y (gw3 Y o a M) sz)) (va_Qv K (fun u t => mb_T D (va_A (gw3 Y o a M) sz) (gw3 Y o a u) t) (va_A (gw3 Y o a M) sz)) 0 0 (va_A (gw3 Y o a M) sz) := by
  refine mb_begin (cc := cX3_dropLatest) (maxL := 1) (ret := none) (by decide +kernel) rfl (Nat.le_of_ble_eq_true rfl) ?_
  intro p e s m below meth c ls C hsz hnm hP hD hl
  generalize hAe : va_A (gw3 Y o a M) sz = A at C hD ⊢
  have C : mb_Cx p s m meth c ([.ref o] : List Value).toArray cX3_dropLatest 1 none wsX3_dropLatest RX3 D Y A := C
  obtain ⟨hx, hb, hr, hml, hts, hown, hlocks, hA, hG⟩ := id C
  have hK := hG.1
  have hS : va_S A s.heap s.heap [] := va_S.rf
  have hl : lv_has ls 1 [(0, .ref o)] := hl
  refine lv_aload_n hx hb dX3_dropLatest_0 rfl (lv_at hl 0 rfl) ?_
  refine va_get (D := D) (ci := 3) (v := .int (M 1 0)) (C := RX3) (T := TX3) (N := 2) hx hb hts (fun _ h9 => List.mem_cons_of_mem _ (List.mem_append_right _ (h9))) hown hK hP 0 rfl rfl 1 (by decide) (hts (.fieldLink RX3 15 "MarbleBench$Repairs" "number" "I") (List.mem_of_getElem? (i := 1) rfl)) (fun _ h9 => h9) rfl dX3_dropLatest_1 ?_
  refine lv_if_le (tgt := 17) hx hb dX3_dropLatest_4 (by decide) (fun c_4 => ?_) (fun c_4 => ?_)
  · have hF := hF.1 c_4
    exact mb_rv (S := mb_m) (mc := 0) (ms := 0) (wf := fun u => gw3 Y o a u) C (u := M) hF hP hD hS dX3_dropLatest_17 (Nat.le_of_ble_eq_true rfl) (Nat.le_of_ble_eq_true rfl)
  · have hF := hF.2 c_4
    refine lv_aload_n hx hb dX3_dropLatest_7 rfl (lv_at hl 0 rfl) ?_
    refine lv_dup hx hb dX3_dropLatest_8 rfl ?_
    refine va_get (D := D) (ci := 3) (v := .int (M 1 0)) (C := RX3) (T := TX3) (N := 2) hx hb hts (fun _ h9 => List.mem_cons_of_mem _ (List.mem_append_right _ (h9))) hown hK hP 0 rfl rfl 1 (by decide) (hts (.fieldLink RX3 15 "MarbleBench$Repairs" "number" "I") (List.mem_of_getElem? (i := 1) rfl)) (fun _ h9 => h9) rfl dX3_dropLatest_9 ?_
    refine lv_iconst (v := 1) hx hb dX3_dropLatest_12 (by decide) ?_
    refine lv_isub hx hb dX3_dropLatest_13 ?_
    refine lv_topi (fun v14 ev14 => ?_)
    have hF := hF v14 ev14
    refine va_put (D := D) (ci := 3) (v := .int v14) (ty := .int) (C := RX3) (T := TX3) (N := 2) hx hb hts (fun _ h9 => List.mem_cons_of_mem _ (List.mem_append_right _ (h9))) tyX3 tyX3_ok nmX3 hown hK hP hD hS 0 rfl rfl 1 (by decide) (hts (.fieldLink RX3 15 "MarbleBench$Repairs" "number" "I") (List.mem_of_getElem? (i := 1) rfl)) (fun _ h9 => h9) rfl (by decide +kernel) rfl rfl (Nat.le_of_ble_eq_true rfl) dX3_dropLatest_14 (fun H locs hP hD hS => ?_)
    obtain ⟨M14, eM14⟩ : ∃ y : mb_m, y = mb_u M 1 (mb_c v14) := ⟨_, rfl⟩
    have hF := hF M14 eM14
    have hP : va_P D vwCl (gw3 Y o a (mb_u M 1 (mb_c v14))) H := hP
    have hD : va_D A (gw3 Y o a (mb_u M 1 (mb_c v14))) := hD
    rw [← eM14] at hP hD
    exact mb_rv (S := mb_m) (mc := 0) (ms := 0) (wf := fun u => gw3 Y o a u) C (u := M14) hF hP hD hS dX3_dropLatest_17 (Nat.le_of_ble_eq_true rfl) (Nat.le_of_ble_eq_true rfl)
end
section
noncomputable def PX4_allows (N : Nat) (M : mb_m) (x1 : Int32) (K : Int32 → mb_m → Prop) : Prop := ((M 5 0) < (200 : Int32) → ((x1.toInt < 1 ∨ 4 < x1.toInt) → K (1 : Int32) M) ∧ (x1.toInt = 1 → ((M 1 0) ≤ ((M 7 0) + (1 : Int32)) → K (0 : Int32) M) ∧ (¬ (M 1 0) ≤ ((M 7 0) + (1 : Int32)) → K (1 : Int32) M)) ∧ (x1.toInt = 2 → ((M 7 0) ≤ 0 → K (0 : Int32) M) ∧ (¬ (M 7 0) ≤ 0 → K (1 : Int32) M)) ∧ (x1.toInt = 3 → (¬ (M 8 0) = 0 → K (0 : Int32) M) ∧ ((M 8 0) = 0 → ((M 0 0) ≤ ((M 6 0) + (1 : Int32)) → K (0 : Int32) M) ∧ (¬ (M 0 0) ≤ ((M 6 0) + (1 : Int32)) → K (1 : Int32) M))) ∧ (x1.toInt = 4 → (¬ (M 8 0) = 0 → K (0 : Int32) M) ∧ ((M 8 0) = 0 → ((M 6 0) ≤ 0 → K (0 : Int32) M) ∧ (¬ (M 6 0) ≤ 0 → K (1 : Int32) M)))) ∧ (¬ (M 5 0) < (200 : Int32) → K (0 : Int32) M)
set_option maxHeartbeats 4000000 in
set_option maxRecDepth 100000 in
theorem cnX4_allows (l : Launch) (D : va_G) (Y : Nat → ClassId) (N : Nat) (o : Nat) (a : Nat → Nat) (M : mb_m) (sz : Nat) (x1 : Int32) (K : Int32 → mb_m → Prop) (hF : PX4_allows N M x1 K) : Met l yX4_allows wsX4_allows ({ frames := 0, cells := 0, slots := 0, locals := 0 } : Room) (va_Pc [.ref o, .int x1] (mb_B D Y (gw4 Y o a M) sz)) (va_Qi K (fun u t => mb_T D (va_A (gw4 Y o a M) sz) (gw4 Y o a u) t) (va_A (gw4 Y o a M) sz)) 0 0 (va_A (gw4 Y o a M) sz) := by
  refine mb_begin (cc := cX4_allows) (maxL := 2) (ret := (some .boolean)) (by decide +kernel) rfl (Nat.le_of_ble_eq_true rfl) ?_
  intro p e s m below meth c ls C hsz hnm hP hD hl
  generalize hAe : va_A (gw4 Y o a M) sz = A at C hD ⊢
  have C : mb_Cx p s m meth c ([.ref o, .int x1] : List Value).toArray cX4_allows 2 (some .boolean) wsX4_allows RX4 D Y A := C
  obtain ⟨hx, hb, hr, hml, hts, hown, hlocks, hA, hG⟩ := id C
  have hK := hG.1
  have hS : va_S A s.heap s.heap [] := va_S.rf
  have hl : lv_has ls 2 [(0, .ref o), (1, .int x1)] := hl
  refine lv_aload_n hx hb dX4_allows_0 rfl (lv_at hl 0 rfl) ?_
  refine va_get (D := D) (ci := 4) (v := .int (M 5 0)) (C := RX4) (T := TX4) (N := 10) hx hb hts (fun _ h9 => List.mem_cons_of_mem _ (List.mem_append_right _ (h9))) hown hK hP 0 rfl rfl 5 (by decide) (hts (.fieldLink RX4 28 "MarbleBench$Sewing" "moveCount" "I") (List.mem_of_getElem? (i := 1) rfl)) (fun _ h9 => h9) rfl dX4_allows_1 ?_
  refine lv_sipush (v := 200) hx hb dX4_allows_4 (by decide) ?_
  refine lv_icmp_lt (tgt := 12) hx hb dX4_allows_7 (by decide) (fun c_7 => ?_) (fun c_7 => ?_)
  · have hF := hF.1 c_7
    refine lv_iload_n hx hb dX4_allows_12 rfl (lv_at hl 1 rfl) ?_
    rcases (show (x1.toInt < 1 ∨ 4 < x1.toInt) ∨ x1.toInt = 1 ∨ x1.toInt = 2 ∨ x1.toInt = 3 ∨ x1.toInt = 4 by omega) with c_13 | c_13 | c_13 | c_13 | c_13
    · have hF := hF.1 c_13
      refine lv_tableOut (tgt := 122) hx hb dX4_allows_13 c_13 (by decide) ?_
      refine lv_iconst (v := 1) hx hb dX4_allows_122 (by decide) ?_
      exact mb_ri (S := mb_m) (mc := 0) (ms := 0) (wf := fun u => gw4 Y o a u) C rfl (u := M) hF hP hD hS dX4_allows_123 (Nat.le_of_ble_eq_true rfl) (Nat.le_of_ble_eq_true rfl)
    · have hF := hF.2.1 c_13
      refine lv_tableIn (off := 31) (tgt := 44) hx hb dX4_allows_13 (by omega) (by omega) (by rw [c_13]; rfl) (by decide) ?_
      refine lv_aload_n hx hb dX4_allows_44 rfl (lv_at hl 0 rfl) ?_
      refine va_get (D := D) (ci := 4) (v := .int (M 7 0)) (C := RX4) (T := TX4) (N := 10) hx hb hts (fun _ h9 => List.mem_cons_of_mem _ (List.mem_append_right _ (h9))) hown hK hP 0 rfl rfl 7 (by decide) (hts (.fieldLink RX4 31 "MarbleBench$Sewing" "station" "I") (List.mem_of_getElem? (i := 2) rfl)) (fun _ h9 => h9) rfl dX4_allows_45 ?_
      refine lv_iconst (v := 1) hx hb dX4_allows_48 (by decide) ?_
      refine lv_iadd hx hb dX4_allows_49 ?_
      refine lv_aload_n hx hb dX4_allows_50 rfl (lv_at hl 0 rfl) ?_
      refine va_get (D := D) (ci := 4) (v := .int (M 1 0)) (C := RX4) (T := TX4) (N := 10) hx hb hts (fun _ h9 => List.mem_cons_of_mem _ (List.mem_append_right _ (h9))) hown hK hP 0 rfl rfl 1 (by decide) (hts (.fieldLink RX4 25 "MarbleBench$Sewing" "stations" "I") (List.mem_of_getElem? (i := 3) rfl)) (fun _ h9 => h9) rfl dX4_allows_51 ?_
      refine lv_icmp_ge (tgt := 61) hx hb dX4_allows_54 (by decide) (fun c_54 => ?_) (fun c_54 => ?_)
      · have hF := hF.1 c_54
        refine lv_iconst (v := 0) hx hb dX4_allows_61 (by decide) ?_
        exact mb_ri (S := mb_m) (mc := 0) (ms := 0) (wf := fun u => gw4 Y o a u) C rfl (u := M) hF hP hD hS dX4_allows_62 (Nat.le_of_ble_eq_true rfl) (Nat.le_of_ble_eq_true rfl)
      · have hF := hF.2 c_54
        refine lv_iconst (v := 1) hx hb dX4_allows_57 (by decide) ?_
        refine lv_goto (tgt := 62) hx hb dX4_allows_58 (by decide) ?_
        exact mb_ri (S := mb_m) (mc := 0) (ms := 0) (wf := fun u => gw4 Y o a u) C rfl (u := M) hF hP hD hS dX4_allows_62 (Nat.le_of_ble_eq_true rfl) (Nat.le_of_ble_eq_true rfl)
    · have hF := hF.2.2.1 c_13
      refine lv_tableIn (off := 50) (tgt := 63) hx hb dX4_allows_13 (by omega) (by omega) (by rw [c_13]; rfl) (by decide) ?_
      refine lv_aload_n hx hb dX4_allows_63 rfl (lv_at hl 0 rfl) ?_
      refine va_get (D := D) (ci := 4) (v := .int (M 7 0)) (C := RX4) (T := TX4) (N := 10) hx hb hts (fun _ h9 => List.mem_cons_of_mem _ (List.mem_append_right _ (h9))) hown hK hP 0 rfl rfl 7 (by decide) (hts (.fieldLink RX4 31 "MarbleBench$Sewing" "station" "I") (List.mem_of_getElem? (i := 2) rfl)) (fun _ h9 => h9) rfl dX4_allows_64 ?_
      refine lv_if_le (tgt := 74) hx hb dX4_allows_67 (by decide) (fun c_67 => ?_) (fun c_67 => ?_)
      · have hF := hF.1 c_67
        refine lv_iconst (v := 0) hx hb dX4_allows_74 (by decide) ?_
        exact mb_ri (S := mb_m) (mc := 0) (ms := 0) (wf := fun u => gw4 Y o a u) C rfl (u := M) hF hP hD hS dX4_allows_75 (Nat.le_of_ble_eq_true rfl) (Nat.le_of_ble_eq_true rfl)
      · have hF := hF.2 c_67
        refine lv_iconst (v := 1) hx hb dX4_allows_70 (by decide) ?_
        refine lv_goto (tgt := 75) hx hb dX4_allows_71 (by decide) ?_
        exact mb_ri (S := mb_m) (mc := 0) (ms := 0) (wf := fun u => gw4 Y o a u) C rfl (u := M) hF hP hD hS dX4_allows_75 (Nat.le_of_ble_eq_true rfl) (Nat.le_of_ble_eq_true rfl)
    · have hF := hF.2.2.2.1 c_13
      refine lv_tableIn (off := 63) (tgt := 76) hx hb dX4_allows_13 (by omega) (by omega) (by rw [c_13]; rfl) (by decide) ?_
      refine lv_aload_n hx hb dX4_allows_76 rfl (lv_at hl 0 rfl) ?_
      refine va_get (D := D) (ci := 4) (v := .int (M 8 0)) (C := RX4) (T := TX4) (N := 10) hx hb hts (fun _ h9 => List.mem_cons_of_mem _ (List.mem_append_right _ (h9))) hown hK hP 0 rfl rfl 8 (by decide) (hts (.fieldLink RX4 34 "MarbleBench$Sewing" "isInside" "Z") (List.mem_of_getElem? (i := 4) rfl)) (fun _ h9 => h9) rfl dX4_allows_77 ?_
      refine lv_if_ne (tgt := 100) hx hb dX4_allows_80 (by decide) (fun c_80 => ?_) (fun c_80 => ?_)
      · have hF := hF.1 c_80
        refine lv_iconst (v := 0) hx hb dX4_allows_100 (by decide) ?_
        exact mb_ri (S := mb_m) (mc := 0) (ms := 0) (wf := fun u => gw4 Y o a u) C rfl (u := M) hF hP hD hS dX4_allows_101 (Nat.le_of_ble_eq_true rfl) (Nat.le_of_ble_eq_true rfl)
      · have hF := hF.2 c_80
        refine lv_aload_n hx hb dX4_allows_83 rfl (lv_at hl 0 rfl) ?_
        refine va_get (D := D) (ci := 4) (v := .int (M 6 0)) (C := RX4) (T := TX4) (N := 10) hx hb hts (fun _ h9 => List.mem_cons_of_mem _ (List.mem_append_right _ (h9))) hown hK hP 0 rfl rfl 6 (by decide) (hts (.fieldLink RX4 38 "MarbleBench$Sewing" "gathering" "I") (List.mem_of_getElem? (i := 5) rfl)) (fun _ h9 => h9) rfl dX4_allows_84 ?_
        refine lv_iconst (v := 1) hx hb dX4_allows_87 (by decide) ?_
        refine lv_iadd hx hb dX4_allows_88 ?_
        refine lv_aload_n hx hb dX4_allows_89 rfl (lv_at hl 0 rfl) ?_
        refine va_get (D := D) (ci := 4) (v := .int (M 0 0)) (C := RX4) (T := TX4) (N := 10) hx hb hts (fun _ h9 => List.mem_cons_of_mem _ (List.mem_append_right _ (h9))) hown hK hP 0 rfl rfl 0 (by decide) (hts (.fieldLink RX4 21 "MarbleBench$Sewing" "gatherings" "I") (List.mem_of_getElem? (i := 6) rfl)) (fun _ h9 => h9) rfl dX4_allows_90 ?_
        refine lv_icmp_ge (tgt := 100) hx hb dX4_allows_93 (by decide) (fun c_93 => ?_) (fun c_93 => ?_)
        · have hF := hF.1 c_93
          refine lv_iconst (v := 0) hx hb dX4_allows_100 (by decide) ?_
          exact mb_ri (S := mb_m) (mc := 0) (ms := 0) (wf := fun u => gw4 Y o a u) C rfl (u := M) hF hP hD hS dX4_allows_101 (Nat.le_of_ble_eq_true rfl) (Nat.le_of_ble_eq_true rfl)
        · have hF := hF.2 c_93
          refine lv_iconst (v := 1) hx hb dX4_allows_96 (by decide) ?_
          refine lv_goto (tgt := 101) hx hb dX4_allows_97 (by decide) ?_
          exact mb_ri (S := mb_m) (mc := 0) (ms := 0) (wf := fun u => gw4 Y o a u) C rfl (u := M) hF hP hD hS dX4_allows_101 (Nat.le_of_ble_eq_true rfl) (Nat.le_of_ble_eq_true rfl)
    · have hF := hF.2.2.2.2 c_13
      refine lv_tableIn (off := 89) (tgt := 102) hx hb dX4_allows_13 (by omega) (by omega) (by rw [c_13]; rfl) (by decide) ?_
      refine lv_aload_n hx hb dX4_allows_102 rfl (lv_at hl 0 rfl) ?_
      refine va_get (D := D) (ci := 4) (v := .int (M 8 0)) (C := RX4) (T := TX4) (N := 10) hx hb hts (fun _ h9 => List.mem_cons_of_mem _ (List.mem_append_right _ (h9))) hown hK hP 0 rfl rfl 8 (by decide) (hts (.fieldLink RX4 34 "MarbleBench$Sewing" "isInside" "Z") (List.mem_of_getElem? (i := 4) rfl)) (fun _ h9 => h9) rfl dX4_allows_103 ?_
      refine lv_if_ne (tgt := 120) hx hb dX4_allows_106 (by decide) (fun c_106 => ?_) (fun c_106 => ?_)
      · have hF := hF.1 c_106
        refine lv_iconst (v := 0) hx hb dX4_allows_120 (by decide) ?_
        exact mb_ri (S := mb_m) (mc := 0) (ms := 0) (wf := fun u => gw4 Y o a u) C rfl (u := M) hF hP hD hS dX4_allows_121 (Nat.le_of_ble_eq_true rfl) (Nat.le_of_ble_eq_true rfl)
      · have hF := hF.2 c_106
        refine lv_aload_n hx hb dX4_allows_109 rfl (lv_at hl 0 rfl) ?_
        refine va_get (D := D) (ci := 4) (v := .int (M 6 0)) (C := RX4) (T := TX4) (N := 10) hx hb hts (fun _ h9 => List.mem_cons_of_mem _ (List.mem_append_right _ (h9))) hown hK hP 0 rfl rfl 6 (by decide) (hts (.fieldLink RX4 38 "MarbleBench$Sewing" "gathering" "I") (List.mem_of_getElem? (i := 5) rfl)) (fun _ h9 => h9) rfl dX4_allows_110 ?_
        refine lv_if_le (tgt := 120) hx hb dX4_allows_113 (by decide) (fun c_113 => ?_) (fun c_113 => ?_)
        · have hF := hF.1 c_113
          refine lv_iconst (v := 0) hx hb dX4_allows_120 (by decide) ?_
          exact mb_ri (S := mb_m) (mc := 0) (ms := 0) (wf := fun u => gw4 Y o a u) C rfl (u := M) hF hP hD hS dX4_allows_121 (Nat.le_of_ble_eq_true rfl) (Nat.le_of_ble_eq_true rfl)
        · have hF := hF.2 c_113
          refine lv_iconst (v := 1) hx hb dX4_allows_116 (by decide) ?_
          refine lv_goto (tgt := 121) hx hb dX4_allows_117 (by decide) ?_
          exact mb_ri (S := mb_m) (mc := 0) (ms := 0) (wf := fun u => gw4 Y o a u) C rfl (u := M) hF hP hD hS dX4_allows_121 (Nat.le_of_ble_eq_true rfl) (Nat.le_of_ble_eq_true rfl)
  · have hF := hF.2 c_7
    refine lv_iconst (v := 0) hx hb dX4_allows_10 (by decide) ?_
    exact mb_ri (S := mb_m) (mc := 0) (ms := 0) (wf := fun u => gw4 Y o a u) C rfl (u := M) hF hP hD hS dX4_allows_11 (Nat.le_of_ble_eq_true rfl) (Nat.le_of_ble_eq_true rfl)
end
section
noncomputable def PX4_pass (N : Nat) (M : mb_m) (x1 x2 : Int32) (K : mb_m → Prop) : Prop := ∀ v10 : Int32, v10 = ((M 9 0) + (x2 * (10 : Int32))) → (∀ M10 : mb_m, M10 = mb_u M 9 (mb_c v10) → (∀ v21 : Int32, v21 = (((M10 6 0) * (5 : Int32)) + x1) → (((M10 8 0) = 0 → K M10) ∧ (¬ (M10 8 0) = 0 → (v21 < 0 → K M10) ∧ (¬ v21 < 0 → ((40 : Int32) ≤ v21 → K M10) ∧ (¬ (40 : Int32) ≤ v21 → vp_in v21 40 ∧ (∀ v51 : Int32, v51 = ((M10 2 v21.toNatClampNeg) + x2) → (vp_in v21 40 ∧ (∀ M51 : mb_m, M51 = mb_u M10 2 (upd (M10 2) v21.toNatClampNeg v51) → (K M51))))))))))
set_option maxHeartbeats 4000000 in
set_option maxRecDepth 100000 in
theorem cnX4_pass (l : Launch) (D : va_G) (Y : Nat → ClassId) (N : Nat) (o : Nat) (a : Nat → Nat) (M : mb_m) (sz : Nat) (x1 x2 : Int32) (K : mb_m → Prop) (hF : PX4_pass N M x1 x2 K) : Met l yX4_pass wsX4_pass ({ frames := 0, cells := 0, slots := 0, locals := 0 } : Room) (va_Pc [.ref o, .int x1, .int x2] (mb_B D Y (gw4 Y o a M) sz)) (va_Qv K (fun u t => mb_T D (va_A (gw4 Y o a M) sz) (gw4 Y o a u) t) (va_A (gw4 Y o a M) sz)) 0 0 (va_A (gw4 Y o a M) sz) := by
  refine mb_begin (cc := cX4_pass) (maxL := 4) (ret := none) (by decide +kernel) rfl (Nat.le_of_ble_eq_true rfl) ?_
  intro p e s m below meth c ls C hsz hnm hP hD hl
  generalize hAe : va_A (gw4 Y o a M) sz = A at C hD ⊢
  have C : mb_Cx p s m meth c ([.ref o, .int x1, .int x2] : List Value).toArray cX4_pass 4 none wsX4_pass RX4 D Y A := C
  obtain ⟨hx, hb, hr, hml, hts, hown, hlocks, hA, hG⟩ := id C
  have hK := hG.1
  have hS : va_S A s.heap s.heap [] := va_S.rf
  have hl : lv_has ls 4 [(0, .ref o), (1, .int x1), (2, .int x2)] := hl
  refine lv_aload_n hx hb dX4_pass_0 rfl (lv_at hl 0 rfl) ?_
  refine lv_dup hx hb dX4_pass_1 rfl ?_
  refine va_get (D := D) (ci := 4) (v := .int (M 9 0)) (C := RX4) (T := TX4) (N := 10) hx hb hts (fun _ h9 => List.mem_cons_of_mem _ (List.mem_append_right _ (h9))) hown hK hP 0 rfl rfl 9 (by decide) (hts (.fieldLink RX4 55 "MarbleBench$Sewing" "length" "I") (List.mem_of_getElem? (i := 1) rfl)) (fun _ h9 => h9) rfl dX4_pass_2 ?_
  refine lv_iload_n hx hb dX4_pass_5 rfl (lv_at hl 2 rfl) ?_
  refine lv_bipush (v := 10) hx hb dX4_pass_6 (by decide) ?_
  refine lv_imul hx hb dX4_pass_8 ?_
  refine lv_iadd hx hb dX4_pass_9 ?_
  refine lv_topi (fun v10 ev10 => ?_)
  have hF := hF v10 ev10
  refine va_put (D := D) (ci := 4) (v := .int v10) (ty := .int) (C := RX4) (T := TX4) (N := 10) hx hb hts (fun _ h9 => List.mem_cons_of_mem _ (List.mem_append_right _ (h9))) tyX4 tyX4_ok nmX4 hown hK hP hD hS 0 rfl rfl 9 (by decide) (hts (.fieldLink RX4 55 "MarbleBench$Sewing" "length" "I") (List.mem_of_getElem? (i := 1) rfl)) (fun _ h9 => h9) rfl (by decide +kernel) rfl rfl (Nat.le_of_ble_eq_true rfl) dX4_pass_10 (fun H locs hP hD hS => ?_)
  obtain ⟨M10, eM10⟩ : ∃ y : mb_m, y = mb_u M 9 (mb_c v10) := ⟨_, rfl⟩
  have hF := hF M10 eM10
  have hP : va_P D vwCl (gw4 Y o a (mb_u M 9 (mb_c v10))) H := hP
  have hD : va_D A (gw4 Y o a (mb_u M 9 (mb_c v10))) := hD
  rw [← eM10] at hP hD
  refine lv_aload_n hx hb dX4_pass_13 rfl (lv_at hl 0 rfl) ?_
  refine va_get (D := D) (ci := 4) (v := .int (M10 6 0)) (C := RX4) (T := TX4) (N := 10) hx hb hts (fun _ h9 => List.mem_cons_of_mem _ (List.mem_append_right _ (h9))) hown hK hP 0 rfl rfl 6 (by decide) (hts (.fieldLink RX4 38 "MarbleBench$Sewing" "gathering" "I") (List.mem_of_getElem? (i := 2) rfl)) (fun _ h9 => h9) rfl dX4_pass_14 ?_
  refine lv_iconst (v := 5) hx hb dX4_pass_17 (by decide) ?_
  refine lv_imul hx hb dX4_pass_18 ?_
  refine lv_iload_n hx hb dX4_pass_19 rfl (lv_at hl 1 rfl) ?_
  refine lv_iadd hx hb dX4_pass_20 ?_
  refine lv_topi (fun v21 ev21 => ?_)
  have hF := hF v21 ev21
  refine lv_istore_n (lv' := [(3, .int v21), (0, .ref o), (1, .int x1), (2, .int x2)]) hx hb dX4_pass_21 rfl hl (by decide) rfl (fun ls hl => ?_)
  refine lv_aload_n hx hb dX4_pass_22 rfl (lv_at hl 1 rfl) ?_
  refine va_get (D := D) (ci := 4) (v := .int (M10 8 0)) (C := RX4) (T := TX4) (N := 10) hx hb hts (fun _ h9 => List.mem_cons_of_mem _ (List.mem_append_right _ (h9))) hown hK hP 0 rfl rfl 8 (by decide) (hts (.fieldLink RX4 34 "MarbleBench$Sewing" "isInside" "Z") (List.mem_of_getElem? (i := 3) rfl)) (fun _ h9 => h9) rfl dX4_pass_23 ?_
  refine lv_if_eq (tgt := 52) hx hb dX4_pass_26 (by decide) (fun c_26 => ?_) (fun c_26 => ?_)
  · have hF := hF.1 c_26
    exact mb_rv (S := mb_m) (mc := 0) (ms := 0) (wf := fun u => gw4 Y o a u) C (u := M10) hF hP hD hS dX4_pass_52 (Nat.le_of_ble_eq_true rfl) (Nat.le_of_ble_eq_true rfl)
  · have hF := hF.2 c_26
    refine lv_iload_n hx hb dX4_pass_29 rfl (lv_at hl 0 rfl) ?_
    refine lv_if_lt (tgt := 52) hx hb dX4_pass_30 (by decide) (fun c_30 => ?_) (fun c_30 => ?_)
    · have hF := hF.1 c_30
      exact mb_rv (S := mb_m) (mc := 0) (ms := 0) (wf := fun u => gw4 Y o a u) C (u := M10) hF hP hD hS dX4_pass_52 (Nat.le_of_ble_eq_true rfl) (Nat.le_of_ble_eq_true rfl)
    · have hF := hF.2 c_30
      refine lv_iload_n hx hb dX4_pass_33 rfl (lv_at hl 0 rfl) ?_
      refine lv_aload_n hx hb dX4_pass_34 rfl (lv_at hl 1 rfl) ?_
      refine va_get (D := D) (ci := 4) (v := .ref (a 2)) (C := RX4) (T := TX4) (N := 10) hx hb hts (fun _ h9 => List.mem_cons_of_mem _ (List.mem_append_right _ (h9))) hown hK hP 0 rfl rfl 2 (by decide) (hts (.fieldLink RX4 9 "MarbleBench$Sewing" "laid" "[I") (List.mem_of_getElem? (i := 4) rfl)) (fun _ h9 => h9) rfl dX4_pass_35 ?_
      refine va_alen (v := 40) hx hb hK hP 1 0 rfl rfl rfl dX4_pass_38 ?_
      refine lv_icmp_ge (tgt := 52) hx hb dX4_pass_39 (by decide) (fun c_39 => ?_) (fun c_39 => ?_)
      · have hF := hF.1 c_39
        exact mb_rv (S := mb_m) (mc := 0) (ms := 0) (wf := fun u => gw4 Y o a u) C (u := M10) hF hP hD hS dX4_pass_52 (Nat.le_of_ble_eq_true rfl) (Nat.le_of_ble_eq_true rfl)
      · have hF := hF.2 c_39
        refine lv_aload_n hx hb dX4_pass_42 rfl (lv_at hl 1 rfl) ?_
        refine va_get (D := D) (ci := 4) (v := .ref (a 2)) (C := RX4) (T := TX4) (N := 10) hx hb hts (fun _ h9 => List.mem_cons_of_mem _ (List.mem_append_right _ (h9))) hown hK hP 0 rfl rfl 2 (by decide) (hts (.fieldLink RX4 9 "MarbleBench$Sewing" "laid" "[I") (List.mem_of_getElem? (i := 4) rfl)) (fun _ h9 => h9) rfl dX4_pass_43 ?_
        refine lv_iload_n hx hb dX4_pass_46 rfl (lv_at hl 0 rfl) ?_
        refine lv_dup2_11 hx hb dX4_pass_47 rfl rfl ?_
        obtain ⟨hi48, hF⟩ := hF
        refine va_iald hx hb hK hP 1 0 rfl rfl hi48 dX4_pass_48 ?_
        refine lv_iload_n hx hb dX4_pass_49 rfl (lv_at hl 3 rfl) ?_
        refine lv_iadd hx hb dX4_pass_50 ?_
        refine lv_topi (fun v51 ev51 => ?_)
        have hF := hF v51 ev51
        obtain ⟨hi51, hF⟩ := hF
        refine va_iast hx hb hK hP hD hS 1 0 rfl rfl hi51 dX4_pass_51 (fun H locs hP hD hS => ?_)
        obtain ⟨M51, eM51⟩ : ∃ y : mb_m, y = mb_u M10 2 (upd (M10 2) v21.toNatClampNeg v51) := ⟨_, rfl⟩
        have hF := hF M51 eM51
        have hP : va_P D vwCl (gw4 Y o a (mb_u M10 2 (upd (M10 2) v21.toNatClampNeg v51))) H := hP
        have hD : va_D A (gw4 Y o a (mb_u M10 2 (upd (M10 2) v21.toNatClampNeg v51))) := hD
        rw [← eM51] at hP hD
        exact mb_rv (S := mb_m) (mc := 0) (ms := 0) (wf := fun u => gw4 Y o a u) C (u := M51) hF hP hD hS dX4_pass_52 (Nat.le_of_ble_eq_true rfl) (Nat.le_of_ble_eq_true rfl)
end
section
noncomputable def PX4_link (N : Nat) (M : mb_m) (x1 x2 : Int32) (K : mb_m → Prop) : Prop := ∀ v9 : Int32, v9 = ((M 9 0) + (x2 * (4 : Int32))) → (∀ M9 : mb_m, M9 = mb_u M 9 (mb_c v9) → ((x1 < 0 → K M9) ∧ (¬ x1 < 0 → ((8 : Int32) ≤ x1 → K M9) ∧ (¬ (8 : Int32) ≤ x1 → vp_in x1 8 ∧ (∀ v34 : Int32, v34 = ((M9 3 x1.toNatClampNeg) + x2) → (vp_in x1 8 ∧ (∀ M34 : mb_m, M34 = mb_u M9 3 (upd (M9 3) x1.toNatClampNeg v34) → (K M34))))))))
set_option maxHeartbeats 4000000 in
set_option maxRecDepth 100000 in
theorem cnX4_link (l : Launch) (D : va_G) (Y : Nat → ClassId) (N : Nat) (o : Nat) (a : Nat → Nat) (M : mb_m) (sz : Nat) (x1 x2 : Int32) (K : mb_m → Prop) (hF : PX4_link N M x1 x2 K) : Met l yX4_link wsX4_link ({ frames := 0, cells := 0, slots := 0, locals := 0 } : Room) (va_Pc [.ref o, .int x1, .int x2] (mb_B D Y (gw4 Y o a M) sz)) (va_Qv K (fun u t => mb_T D (va_A (gw4 Y o a M) sz) (gw4 Y o a u) t) (va_A (gw4 Y o a M) sz)) 0 0 (va_A (gw4 Y o a M) sz) := by
  refine mb_begin (cc := cX4_link) (maxL := 3) (ret := none) (by decide +kernel) rfl (Nat.le_of_ble_eq_true rfl) ?_
  intro p e s m below meth c ls C hsz hnm hP hD hl
  generalize hAe : va_A (gw4 Y o a M) sz = A at C hD ⊢
  have C : mb_Cx p s m meth c ([.ref o, .int x1, .int x2] : List Value).toArray cX4_link 3 none wsX4_link RX4 D Y A := C
  obtain ⟨hx, hb, hr, hml, hts, hown, hlocks, hA, hG⟩ := id C
  have hK := hG.1
  have hS : va_S A s.heap s.heap [] := va_S.rf
  have hl : lv_has ls 3 [(0, .ref o), (1, .int x1), (2, .int x2)] := hl
  refine lv_aload_n hx hb dX4_link_0 rfl (lv_at hl 0 rfl) ?_
  refine lv_dup hx hb dX4_link_1 rfl ?_
  refine va_get (D := D) (ci := 4) (v := .int (M 9 0)) (C := RX4) (T := TX4) (N := 10) hx hb hts (fun _ h9 => List.mem_cons_of_mem _ (List.mem_append_right _ (h9))) hown hK hP 0 rfl rfl 9 (by decide) (hts (.fieldLink RX4 55 "MarbleBench$Sewing" "length" "I") (List.mem_of_getElem? (i := 1) rfl)) (fun _ h9 => h9) rfl dX4_link_2 ?_
  refine lv_iload_n hx hb dX4_link_5 rfl (lv_at hl 2 rfl) ?_
  refine lv_iconst (v := 4) hx hb dX4_link_6 (by decide) ?_
  refine lv_imul hx hb dX4_link_7 ?_
  refine lv_iadd hx hb dX4_link_8 ?_
  refine lv_topi (fun v9 ev9 => ?_)
  have hF := hF v9 ev9
  refine va_put (D := D) (ci := 4) (v := .int v9) (ty := .int) (C := RX4) (T := TX4) (N := 10) hx hb hts (fun _ h9 => List.mem_cons_of_mem _ (List.mem_append_right _ (h9))) tyX4 tyX4_ok nmX4 hown hK hP hD hS 0 rfl rfl 9 (by decide) (hts (.fieldLink RX4 55 "MarbleBench$Sewing" "length" "I") (List.mem_of_getElem? (i := 1) rfl)) (fun _ h9 => h9) rfl (by decide +kernel) rfl rfl (Nat.le_of_ble_eq_true rfl) dX4_link_9 (fun H locs hP hD hS => ?_)
  obtain ⟨M9, eM9⟩ : ∃ y : mb_m, y = mb_u M 9 (mb_c v9) := ⟨_, rfl⟩
  have hF := hF M9 eM9
  have hP : va_P D vwCl (gw4 Y o a (mb_u M 9 (mb_c v9))) H := hP
  have hD : va_D A (gw4 Y o a (mb_u M 9 (mb_c v9))) := hD
  rw [← eM9] at hP hD
  refine lv_iload_n hx hb dX4_link_12 rfl (lv_at hl 1 rfl) ?_
  refine lv_if_lt (tgt := 35) hx hb dX4_link_13 (by decide) (fun c_13 => ?_) (fun c_13 => ?_)
  · have hF := hF.1 c_13
    exact mb_rv (S := mb_m) (mc := 0) (ms := 0) (wf := fun u => gw4 Y o a u) C (u := M9) hF hP hD hS dX4_link_35 (Nat.le_of_ble_eq_true rfl) (Nat.le_of_ble_eq_true rfl)
  · have hF := hF.2 c_13
    refine lv_iload_n hx hb dX4_link_16 rfl (lv_at hl 1 rfl) ?_
    refine lv_aload_n hx hb dX4_link_17 rfl (lv_at hl 0 rfl) ?_
    refine va_get (D := D) (ci := 4) (v := .ref (a 3)) (C := RX4) (T := TX4) (N := 10) hx hb hts (fun _ h9 => List.mem_cons_of_mem _ (List.mem_append_right _ (h9))) hown hK hP 0 rfl rfl 3 (by decide) (hts (.fieldLink RX4 15 "MarbleBench$Sewing" "links" "[I") (List.mem_of_getElem? (i := 2) rfl)) (fun _ h9 => h9) rfl dX4_link_18 ?_
    refine va_alen (v := 8) hx hb hK hP 2 0 rfl rfl rfl dX4_link_21 ?_
    refine lv_icmp_ge (tgt := 35) hx hb dX4_link_22 (by decide) (fun c_22 => ?_) (fun c_22 => ?_)
    · have hF := hF.1 c_22
      exact mb_rv (S := mb_m) (mc := 0) (ms := 0) (wf := fun u => gw4 Y o a u) C (u := M9) hF hP hD hS dX4_link_35 (Nat.le_of_ble_eq_true rfl) (Nat.le_of_ble_eq_true rfl)
    · have hF := hF.2 c_22
      refine lv_aload_n hx hb dX4_link_25 rfl (lv_at hl 0 rfl) ?_
      refine va_get (D := D) (ci := 4) (v := .ref (a 3)) (C := RX4) (T := TX4) (N := 10) hx hb hts (fun _ h9 => List.mem_cons_of_mem _ (List.mem_append_right _ (h9))) hown hK hP 0 rfl rfl 3 (by decide) (hts (.fieldLink RX4 15 "MarbleBench$Sewing" "links" "[I") (List.mem_of_getElem? (i := 2) rfl)) (fun _ h9 => h9) rfl dX4_link_26 ?_
      refine lv_iload_n hx hb dX4_link_29 rfl (lv_at hl 1 rfl) ?_
      refine lv_dup2_11 hx hb dX4_link_30 rfl rfl ?_
      obtain ⟨hi31, hF⟩ := hF
      refine va_iald hx hb hK hP 2 0 rfl rfl hi31 dX4_link_31 ?_
      refine lv_iload_n hx hb dX4_link_32 rfl (lv_at hl 2 rfl) ?_
      refine lv_iadd hx hb dX4_link_33 ?_
      refine lv_topi (fun v34 ev34 => ?_)
      have hF := hF v34 ev34
      obtain ⟨hi34, hF⟩ := hF
      refine va_iast hx hb hK hP hD hS 2 0 rfl rfl hi34 dX4_link_34 (fun H locs hP hD hS => ?_)
      obtain ⟨M34, eM34⟩ : ∃ y : mb_m, y = mb_u M9 3 (upd (M9 3) x1.toNatClampNeg v34) := ⟨_, rfl⟩
      have hF := hF M34 eM34
      have hP : va_P D vwCl (gw4 Y o a (mb_u M9 3 (upd (M9 3) x1.toNatClampNeg v34))) H := hP
      have hD : va_D A (gw4 Y o a (mb_u M9 3 (upd (M9 3) x1.toNatClampNeg v34))) := hD
      rw [← eM34] at hP hD
      exact mb_rv (S := mb_m) (mc := 0) (ms := 0) (wf := fun u => gw4 Y o a u) C (u := M34) hF hP hD hS dX4_link_35 (Nat.le_of_ble_eq_true rfl) (Nat.le_of_ble_eq_true rfl)
end
section
noncomputable def PX4_go_133 (N : Nat) (K : mb_m → Prop) (M : mb_m) (y0 : Int32) : Prop := mb_isB y0 ∧ (∀ M133 : mb_m, M133 = mb_u M 8 (mb_c y0) → (K M133))
set_option maxHeartbeats 4000000 in
set_option maxRecDepth 100000 in
theorem wX4_go_133 {p : Program} {l : Launch} {e : Env} {s : State} {m : MethodId} {below : List Frame} {meth : Method} {c : Code} {args : Array Value} {D : va_G} {Y : Nat → ClassId} {A : Nat → Prop} {o : Nat} {a : Nat → Nat} {N : Nat} {K : mb_m → Prop} (C : mb_Cx p s m meth c args cX4_go 3 none wsX4_go RX4 D Y A) : ∀ (M : mb_m) (y0 : Int32) (H : Heap) (locs : List Loc) (ls : Array Slot), PX4_go_133 N K  M y0 → va_P D vwCl (gw4 Y o a M) H → va_D A (gw4 Y o a M) → va_S A s.heap H locs → lv_has ls 3 [] → W p l e ({ frames := 1, cells := 0, slots := 0, locals := 23 } : Room) s m args below meth c H locs 0 0 (MQ below (va_Qv K (fun u t => mb_T D A (gw4 Y o a u) t) A) args s 0 0 A) (F0 m 133 ls [.int y0, .ref o]) := by
  obtain ⟨hx, hb, hr, hml, hts, hown, hlocks, hA, hG⟩ := id C
  have hK := hG.1
  intro M y0 H locs ls hF hP hD hS hl
  obtain ⟨hz133, hF⟩ := hF
  refine va_put (D := D) (ci := 4) (v := .int y0) (ty := .boolean) (C := RX4) (T := TX4) (N := 10) hx hb hts (fun _ h9 => List.mem_cons_of_mem _ (List.mem_append_right _ (h9))) tyX4 tyX4_ok nmX4 hown hK hP hD hS 0 rfl rfl 8 (by decide) (hts (.fieldLink RX4 34 "MarbleBench$Sewing" "isInside" "Z") (List.mem_of_getElem? (i := 3) rfl)) (fun _ h9 => h9) rfl (by decide +kernel) (mb_isB_n hz133) (mb_isB_f hz133) (Nat.le_of_ble_eq_true rfl) dX4_go_133 (fun H locs hP hD hS => ?_)
  obtain ⟨M133, eM133⟩ : ∃ y : mb_m, y = mb_u M 8 (mb_c y0) := ⟨_, rfl⟩
  have hF := hF M133 eM133
  have hP : va_P D vwCl (gw4 Y o a (mb_u M 8 (mb_c y0))) H := hP
  have hD : va_D A (gw4 Y o a (mb_u M 8 (mb_c y0))) := hD
  rw [← eM133] at hP hD
  exact mb_rv (S := mb_m) (mc := 0) (ms := 0) (wf := fun u => gw4 Y o a u) C (u := M133) hF hP hD hS dX4_go_136 (Nat.le_of_ble_eq_true rfl) (Nat.le_of_ble_eq_true rfl)
noncomputable def PX4_go (N : Nat) (M : mb_m) (x1 x2 : Int32) (K : mb_m → Prop) : Prop := ((x1.toInt < 1 ∨ 4 < x1.toInt) → (¬ (M 8 0) = 0 → PX4_go_133 N K M (0 : Int32)) ∧ ((M 8 0) = 0 → PX4_go_133 N K M (1 : Int32))) ∧ (x1.toInt = 1 → PX4_pass N M (M 7 0) x2 (fun M38 => ∀ v48 : Int32, v48 = ((M38 7 0) + (1 : Int32)) → (∀ M48 : mb_m, M48 = mb_u M38 7 (mb_c v48) → (K M48)))) ∧ (x1.toInt = 2 → ∀ v61 : Int32, v61 = ((M 7 0) - (1 : Int32)) → (∀ M61 : mb_m, M61 = mb_u M 7 (mb_c v61) → (PX4_pass N M61 (M61 7 0) x2 (fun M70 => K M70)))) ∧ (x1.toInt = 3 → PX4_link N M (M 6 0) x2 (fun M82 => ∀ v92 : Int32, v92 = ((M82 6 0) + (1 : Int32)) → (∀ M92 : mb_m, M92 = mb_u M82 6 (mb_c v92) → (K M92)))) ∧ (x1.toInt = 4 → ∀ v105 : Int32, v105 = ((M 6 0) - (1 : Int32)) → (∀ M105 : mb_m, M105 = mb_u M 6 (mb_c v105) → (PX4_link N M105 (M105 6 0) x2 (fun M114 => K M114))))
set_option maxHeartbeats 4000000 in
set_option maxRecDepth 100000 in
theorem cnX4_go (l : Launch) (D : va_G) (Y : Nat → ClassId) (N : Nat) (o : Nat) (a : Nat → Nat) (M : mb_m) (sz : Nat) (x1 x2 : Int32) (K : mb_m → Prop) (hF : PX4_go N M x1 x2 K) : Met l yX4_go wsX4_go ({ frames := 1, cells := 0, slots := 0, locals := 23 } : Room) (va_Pc [.ref o, .int x1, .int x2] (mb_B D Y (gw4 Y o a M) sz)) (va_Qv K (fun u t => mb_T D (va_A (gw4 Y o a M) sz) (gw4 Y o a u) t) (va_A (gw4 Y o a M) sz)) 0 0 (va_A (gw4 Y o a M) sz) := by
  refine mb_begin (cc := cX4_go) (maxL := 3) (ret := none) (by decide +kernel) rfl (Nat.le_of_ble_eq_true rfl) ?_
  intro p e s m below meth c ls C hsz hnm hP hD hl
  generalize hAe : va_A (gw4 Y o a M) sz = A at C hD ⊢
  have C : mb_Cx p s m meth c ([.ref o, .int x1, .int x2] : List Value).toArray cX4_go 3 none wsX4_go RX4 D Y A := C
  obtain ⟨hx, hb, hr, hml, hts, hown, hlocks, hA, hG⟩ := id C
  have hK := hG.1
  have hS : va_S A s.heap s.heap [] := va_S.rf
  have hl : lv_has ls 3 [(0, .ref o), (1, .int x1), (2, .int x2)] := hl
  refine lv_iload_n hx hb dX4_go_0 rfl (lv_at hl 1 rfl) ?_
  rcases (show (x1.toInt < 1 ∨ 4 < x1.toInt) ∨ x1.toInt = 1 ∨ x1.toInt = 2 ∨ x1.toInt = 3 ∨ x1.toInt = 4 by omega) with c_1 | c_1 | c_1 | c_1 | c_1
  · have hF := hF.1 c_1
    refine lv_tableOut (tgt := 120) hx hb dX4_go_1 c_1 (by decide) ?_
    refine lv_aload_n hx hb dX4_go_120 rfl (lv_at hl 0 rfl) ?_
    refine lv_aload_n hx hb dX4_go_121 rfl (lv_at hl 0 rfl) ?_
    refine va_get (D := D) (ci := 4) (v := .int (M 8 0)) (C := RX4) (T := TX4) (N := 10) hx hb hts (fun _ h9 => List.mem_cons_of_mem _ (List.mem_append_right _ (h9))) hown hK hP 0 rfl rfl 8 (by decide) (hts (.fieldLink RX4 34 "MarbleBench$Sewing" "isInside" "Z") (List.mem_of_getElem? (i := 3) rfl)) (fun _ h9 => h9) rfl dX4_go_122 ?_
    refine lv_if_ne (tgt := 132) hx hb dX4_go_125 (by decide) (fun c_125 => ?_) (fun c_125 => ?_)
    · have hF := hF.1 c_125
      refine lv_iconst (v := 0) hx hb dX4_go_132 (by decide) ?_
      exact wX4_go_133 C M (0 : Int32) _ _ _ hF hP hD hS (lv_sub hl [] rfl)
    · have hF := hF.2 c_125
      refine lv_iconst (v := 1) hx hb dX4_go_128 (by decide) ?_
      refine lv_goto (tgt := 133) hx hb dX4_go_129 (by decide) ?_
      exact wX4_go_133 C M (1 : Int32) _ _ _ hF hP hD hS (lv_sub hl [] rfl)
  · have hF := hF.2.1 c_1
    refine lv_tableIn (off := 31) (tgt := 32) hx hb dX4_go_1 (by omega) (by omega) (by rw [c_1]; rfl) (by decide) ?_
    refine lv_aload_n hx hb dX4_go_32 rfl (lv_at hl 0 rfl) ?_
    refine lv_aload_n hx hb dX4_go_33 rfl (lv_at hl 0 rfl) ?_
    refine va_get (D := D) (ci := 4) (v := .int (M 7 0)) (C := RX4) (T := TX4) (N := 10) hx hb hts (fun _ h9 => List.mem_cons_of_mem _ (List.mem_append_right _ (h9))) hown hK hP 0 rfl rfl 7 (by decide) (hts (.fieldLink RX4 31 "MarbleBench$Sewing" "station" "I") (List.mem_of_getElem? (i := 1) rfl)) (fun _ h9 => h9) rfl dX4_go_34 ?_
    refine lv_iload_n hx hb dX4_go_37 rfl (lv_at hl 2 rfl) ?_
    refine mb_cWv hD hS hA (va_runV (As := [.int (M 7 0), .int x2]) (rest := []) ⟨hx, hb, hml, hown, hts⟩ (cnX4_pass l D Y N o a M _ (M 7 0) x2 _ hF) (cwV 2 hts gX4_go_X4_pass rfl rfl rfl (by decide +kernel) ⟨Nat.le_of_ble_eq_true rfl, Nat.le_of_ble_eq_true rfl⟩) (mb_preV hG hP hD 0 rfl rfl) rfl rfl hl.1 rfl (lv_room (Nat.le_of_ble_eq_true rfl)) dX4_go_38 ⟨Nat.le_of_ble_eq_true rfl, Nat.le_of_ble_eq_true rfl⟩) (fun M38 H locs hF hP hD hS => ?_)
    refine lv_aload_n hx hb dX4_go_41 rfl (lv_at hl 0 rfl) ?_
    refine lv_dup hx hb dX4_go_42 rfl ?_
    refine va_get (D := D) (ci := 4) (v := .int (M38 7 0)) (C := RX4) (T := TX4) (N := 10) hx hb hts (fun _ h9 => List.mem_cons_of_mem _ (List.mem_append_right _ (h9))) hown hK hP 0 rfl rfl 7 (by decide) (hts (.fieldLink RX4 31 "MarbleBench$Sewing" "station" "I") (List.mem_of_getElem? (i := 1) rfl)) (fun _ h9 => h9) rfl dX4_go_43 ?_
    refine lv_iconst (v := 1) hx hb dX4_go_46 (by decide) ?_
    refine lv_iadd hx hb dX4_go_47 ?_
    refine lv_topi (fun v48 ev48 => ?_)
    have hF := hF v48 ev48
    refine va_put (D := D) (ci := 4) (v := .int v48) (ty := .int) (C := RX4) (T := TX4) (N := 10) hx hb hts (fun _ h9 => List.mem_cons_of_mem _ (List.mem_append_right _ (h9))) tyX4 tyX4_ok nmX4 hown hK hP hD hS 0 rfl rfl 7 (by decide) (hts (.fieldLink RX4 31 "MarbleBench$Sewing" "station" "I") (List.mem_of_getElem? (i := 1) rfl)) (fun _ h9 => h9) rfl (by decide +kernel) rfl rfl (Nat.le_of_ble_eq_true rfl) dX4_go_48 (fun H locs hP hD hS => ?_)
    obtain ⟨M48, eM48⟩ : ∃ y : mb_m, y = mb_u M38 7 (mb_c v48) := ⟨_, rfl⟩
    have hF := hF M48 eM48
    have hP : va_P D vwCl (gw4 Y o a (mb_u M38 7 (mb_c v48))) H := hP
    have hD : va_D A (gw4 Y o a (mb_u M38 7 (mb_c v48))) := hD
    rw [← eM48] at hP hD
    refine lv_goto (tgt := 136) hx hb dX4_go_51 (by decide) ?_
    exact mb_rv (S := mb_m) (mc := 0) (ms := 0) (wf := fun u => gw4 Y o a u) C (u := M48) hF hP hD hS dX4_go_136 (Nat.le_of_ble_eq_true rfl) (Nat.le_of_ble_eq_true rfl)
  · have hF := hF.2.2.1 c_1
    refine lv_tableIn (off := 53) (tgt := 54) hx hb dX4_go_1 (by omega) (by omega) (by rw [c_1]; rfl) (by decide) ?_
    refine lv_aload_n hx hb dX4_go_54 rfl (lv_at hl 0 rfl) ?_
    refine lv_dup hx hb dX4_go_55 rfl ?_
    refine va_get (D := D) (ci := 4) (v := .int (M 7 0)) (C := RX4) (T := TX4) (N := 10) hx hb hts (fun _ h9 => List.mem_cons_of_mem _ (List.mem_append_right _ (h9))) hown hK hP 0 rfl rfl 7 (by decide) (hts (.fieldLink RX4 31 "MarbleBench$Sewing" "station" "I") (List.mem_of_getElem? (i := 1) rfl)) (fun _ h9 => h9) rfl dX4_go_56 ?_
    refine lv_iconst (v := 1) hx hb dX4_go_59 (by decide) ?_
    refine lv_isub hx hb dX4_go_60 ?_
    refine lv_topi (fun v61 ev61 => ?_)
    have hF := hF v61 ev61
    refine va_put (D := D) (ci := 4) (v := .int v61) (ty := .int) (C := RX4) (T := TX4) (N := 10) hx hb hts (fun _ h9 => List.mem_cons_of_mem _ (List.mem_append_right _ (h9))) tyX4 tyX4_ok nmX4 hown hK hP hD hS 0 rfl rfl 7 (by decide) (hts (.fieldLink RX4 31 "MarbleBench$Sewing" "station" "I") (List.mem_of_getElem? (i := 1) rfl)) (fun _ h9 => h9) rfl (by decide +kernel) rfl rfl (Nat.le_of_ble_eq_true rfl) dX4_go_61 (fun H locs hP hD hS => ?_)
    obtain ⟨M61, eM61⟩ : ∃ y : mb_m, y = mb_u M 7 (mb_c v61) := ⟨_, rfl⟩
    have hF := hF M61 eM61
    have hP : va_P D vwCl (gw4 Y o a (mb_u M 7 (mb_c v61))) H := hP
    have hD : va_D A (gw4 Y o a (mb_u M 7 (mb_c v61))) := hD
    rw [← eM61] at hP hD
    refine lv_aload_n hx hb dX4_go_64 rfl (lv_at hl 0 rfl) ?_
    refine lv_aload_n hx hb dX4_go_65 rfl (lv_at hl 0 rfl) ?_
    refine va_get (D := D) (ci := 4) (v := .int (M61 7 0)) (C := RX4) (T := TX4) (N := 10) hx hb hts (fun _ h9 => List.mem_cons_of_mem _ (List.mem_append_right _ (h9))) hown hK hP 0 rfl rfl 7 (by decide) (hts (.fieldLink RX4 31 "MarbleBench$Sewing" "station" "I") (List.mem_of_getElem? (i := 1) rfl)) (fun _ h9 => h9) rfl dX4_go_66 ?_
    refine lv_iload_n hx hb dX4_go_69 rfl (lv_at hl 2 rfl) ?_
    refine mb_cWv hD hS hA (va_runV (As := [.int (M61 7 0), .int x2]) (rest := []) ⟨hx, hb, hml, hown, hts⟩ (cnX4_pass l D Y N o a M61 _ (M61 7 0) x2 _ hF) (cwV 2 hts gX4_go_X4_pass rfl rfl rfl (by decide +kernel) ⟨Nat.le_of_ble_eq_true rfl, Nat.le_of_ble_eq_true rfl⟩) (mb_preV hG hP hD 0 rfl rfl) rfl rfl hl.1 rfl (lv_room (Nat.le_of_ble_eq_true rfl)) dX4_go_70 ⟨Nat.le_of_ble_eq_true rfl, Nat.le_of_ble_eq_true rfl⟩) (fun M70 H locs hF hP hD hS => ?_)
    refine lv_goto (tgt := 136) hx hb dX4_go_73 (by decide) ?_
    exact mb_rv (S := mb_m) (mc := 0) (ms := 0) (wf := fun u => gw4 Y o a u) C (u := M70) hF hP hD hS dX4_go_136 (Nat.le_of_ble_eq_true rfl) (Nat.le_of_ble_eq_true rfl)
  · have hF := hF.2.2.2.1 c_1
    refine lv_tableIn (off := 75) (tgt := 76) hx hb dX4_go_1 (by omega) (by omega) (by rw [c_1]; rfl) (by decide) ?_
    refine lv_aload_n hx hb dX4_go_76 rfl (lv_at hl 0 rfl) ?_
    refine lv_aload_n hx hb dX4_go_77 rfl (lv_at hl 0 rfl) ?_
    refine va_get (D := D) (ci := 4) (v := .int (M 6 0)) (C := RX4) (T := TX4) (N := 10) hx hb hts (fun _ h9 => List.mem_cons_of_mem _ (List.mem_append_right _ (h9))) hown hK hP 0 rfl rfl 6 (by decide) (hts (.fieldLink RX4 38 "MarbleBench$Sewing" "gathering" "I") (List.mem_of_getElem? (i := 2) rfl)) (fun _ h9 => h9) rfl dX4_go_78 ?_
    refine lv_iload_n hx hb dX4_go_81 rfl (lv_at hl 2 rfl) ?_
    refine mb_cWv hD hS hA (va_runV (As := [.int (M 6 0), .int x2]) (rest := []) ⟨hx, hb, hml, hown, hts⟩ (cnX4_link l D Y N o a M _ (M 6 0) x2 _ hF) (cwV 2 hts gX4_go_X4_link rfl rfl rfl (by decide +kernel) ⟨Nat.le_of_ble_eq_true rfl, Nat.le_of_ble_eq_true rfl⟩) (mb_preV hG hP hD 0 rfl rfl) rfl rfl hl.1 rfl (lv_room (Nat.le_of_ble_eq_true rfl)) dX4_go_82 ⟨Nat.le_of_ble_eq_true rfl, Nat.le_of_ble_eq_true rfl⟩) (fun M82 H locs hF hP hD hS => ?_)
    refine lv_aload_n hx hb dX4_go_85 rfl (lv_at hl 0 rfl) ?_
    refine lv_dup hx hb dX4_go_86 rfl ?_
    refine va_get (D := D) (ci := 4) (v := .int (M82 6 0)) (C := RX4) (T := TX4) (N := 10) hx hb hts (fun _ h9 => List.mem_cons_of_mem _ (List.mem_append_right _ (h9))) hown hK hP 0 rfl rfl 6 (by decide) (hts (.fieldLink RX4 38 "MarbleBench$Sewing" "gathering" "I") (List.mem_of_getElem? (i := 2) rfl)) (fun _ h9 => h9) rfl dX4_go_87 ?_
    refine lv_iconst (v := 1) hx hb dX4_go_90 (by decide) ?_
    refine lv_iadd hx hb dX4_go_91 ?_
    refine lv_topi (fun v92 ev92 => ?_)
    have hF := hF v92 ev92
    refine va_put (D := D) (ci := 4) (v := .int v92) (ty := .int) (C := RX4) (T := TX4) (N := 10) hx hb hts (fun _ h9 => List.mem_cons_of_mem _ (List.mem_append_right _ (h9))) tyX4 tyX4_ok nmX4 hown hK hP hD hS 0 rfl rfl 6 (by decide) (hts (.fieldLink RX4 38 "MarbleBench$Sewing" "gathering" "I") (List.mem_of_getElem? (i := 2) rfl)) (fun _ h9 => h9) rfl (by decide +kernel) rfl rfl (Nat.le_of_ble_eq_true rfl) dX4_go_92 (fun H locs hP hD hS => ?_)
    obtain ⟨M92, eM92⟩ : ∃ y : mb_m, y = mb_u M82 6 (mb_c v92) := ⟨_, rfl⟩
    have hF := hF M92 eM92
    have hP : va_P D vwCl (gw4 Y o a (mb_u M82 6 (mb_c v92))) H := hP
    have hD : va_D A (gw4 Y o a (mb_u M82 6 (mb_c v92))) := hD
    rw [← eM92] at hP hD
    refine lv_goto (tgt := 136) hx hb dX4_go_95 (by decide) ?_
    exact mb_rv (S := mb_m) (mc := 0) (ms := 0) (wf := fun u => gw4 Y o a u) C (u := M92) hF hP hD hS dX4_go_136 (Nat.le_of_ble_eq_true rfl) (Nat.le_of_ble_eq_true rfl)
  · have hF := hF.2.2.2.2 c_1
    refine lv_tableIn (off := 97) (tgt := 98) hx hb dX4_go_1 (by omega) (by omega) (by rw [c_1]; rfl) (by decide) ?_
    refine lv_aload_n hx hb dX4_go_98 rfl (lv_at hl 0 rfl) ?_
    refine lv_dup hx hb dX4_go_99 rfl ?_
    refine va_get (D := D) (ci := 4) (v := .int (M 6 0)) (C := RX4) (T := TX4) (N := 10) hx hb hts (fun _ h9 => List.mem_cons_of_mem _ (List.mem_append_right _ (h9))) hown hK hP 0 rfl rfl 6 (by decide) (hts (.fieldLink RX4 38 "MarbleBench$Sewing" "gathering" "I") (List.mem_of_getElem? (i := 2) rfl)) (fun _ h9 => h9) rfl dX4_go_100 ?_
    refine lv_iconst (v := 1) hx hb dX4_go_103 (by decide) ?_
    refine lv_isub hx hb dX4_go_104 ?_
    refine lv_topi (fun v105 ev105 => ?_)
    have hF := hF v105 ev105
    refine va_put (D := D) (ci := 4) (v := .int v105) (ty := .int) (C := RX4) (T := TX4) (N := 10) hx hb hts (fun _ h9 => List.mem_cons_of_mem _ (List.mem_append_right _ (h9))) tyX4 tyX4_ok nmX4 hown hK hP hD hS 0 rfl rfl 6 (by decide) (hts (.fieldLink RX4 38 "MarbleBench$Sewing" "gathering" "I") (List.mem_of_getElem? (i := 2) rfl)) (fun _ h9 => h9) rfl (by decide +kernel) rfl rfl (Nat.le_of_ble_eq_true rfl) dX4_go_105 (fun H locs hP hD hS => ?_)
    obtain ⟨M105, eM105⟩ : ∃ y : mb_m, y = mb_u M 6 (mb_c v105) := ⟨_, rfl⟩
    have hF := hF M105 eM105
    have hP : va_P D vwCl (gw4 Y o a (mb_u M 6 (mb_c v105))) H := hP
    have hD : va_D A (gw4 Y o a (mb_u M 6 (mb_c v105))) := hD
    rw [← eM105] at hP hD
    refine lv_aload_n hx hb dX4_go_108 rfl (lv_at hl 0 rfl) ?_
    refine lv_aload_n hx hb dX4_go_109 rfl (lv_at hl 0 rfl) ?_
    refine va_get (D := D) (ci := 4) (v := .int (M105 6 0)) (C := RX4) (T := TX4) (N := 10) hx hb hts (fun _ h9 => List.mem_cons_of_mem _ (List.mem_append_right _ (h9))) hown hK hP 0 rfl rfl 6 (by decide) (hts (.fieldLink RX4 38 "MarbleBench$Sewing" "gathering" "I") (List.mem_of_getElem? (i := 2) rfl)) (fun _ h9 => h9) rfl dX4_go_110 ?_
    refine lv_iload_n hx hb dX4_go_113 rfl (lv_at hl 2 rfl) ?_
    refine mb_cWv hD hS hA (va_runV (As := [.int (M105 6 0), .int x2]) (rest := []) ⟨hx, hb, hml, hown, hts⟩ (cnX4_link l D Y N o a M105 _ (M105 6 0) x2 _ hF) (cwV 2 hts gX4_go_X4_link rfl rfl rfl (by decide +kernel) ⟨Nat.le_of_ble_eq_true rfl, Nat.le_of_ble_eq_true rfl⟩) (mb_preV hG hP hD 0 rfl rfl) rfl rfl hl.1 rfl (lv_room (Nat.le_of_ble_eq_true rfl)) dX4_go_114 ⟨Nat.le_of_ble_eq_true rfl, Nat.le_of_ble_eq_true rfl⟩) (fun M114 H locs hF hP hD hS => ?_)
    refine lv_goto (tgt := 136) hx hb dX4_go_117 (by decide) ?_
    exact mb_rv (S := mb_m) (mc := 0) (ms := 0) (wf := fun u => gw4 Y o a u) C (u := M114) hF hP hD hS dX4_go_136 (Nat.le_of_ble_eq_true rfl) (Nat.le_of_ble_eq_true rfl)
end
section
noncomputable def PX4_make (N : Nat) (M : mb_m) (x1 : Int32) (K : mb_m → Prop) : Prop := ((200 : Int32) ≤ (M 5 0) → K M) ∧ (¬ (200 : Int32) ≤ (M 5 0) → vp_in (M 5 0) 200 ∧ (∀ M19 : mb_m, M19 = mb_u M 4 (upd (M 4) (M 5 0).toNatClampNeg x1) → (∀ v27 : Int32, v27 = ((M19 5 0) + (1 : Int32)) → (∀ M27 : mb_m, M27 = mb_u M19 5 (mb_c v27) → (PX4_go N M27 x1 (1 : Int32) (fun M33 => K M33))))))
set_option maxHeartbeats 4000000 in
set_option maxRecDepth 100000 in
theorem cnX4_make (l : Launch) (D : va_G) (Y : Nat → ClassId) (N : Nat) (o : Nat) (a : Nat → Nat) (M : mb_m) (sz : Nat) (x1 : Int32) (K : mb_m → Prop) (hF : PX4_make N M x1 K) : Met l yX4_make wsX4_make ({ frames := 2, cells := 0, slots := 0, locals := 45 } : Room) (va_Pc [.ref o, .int x1] (mb_B D Y (gw4 Y o a M) sz)) (va_Qv K (fun u t => mb_T D (va_A (gw4 Y o a M) sz) (gw4 Y o a u) t) (va_A (gw4 Y o a M) sz)) 0 0 (va_A (gw4 Y o a M) sz) := by
  refine mb_begin (cc := cX4_make) (maxL := 2) (ret := none) (by decide +kernel) rfl (Nat.le_of_ble_eq_true rfl) ?_
  intro p e s m below meth c ls C hsz hnm hP hD hl
  generalize hAe : va_A (gw4 Y o a M) sz = A at C hD ⊢
  have C : mb_Cx p s m meth c ([.ref o, .int x1] : List Value).toArray cX4_make 2 none wsX4_make RX4 D Y A := C
  obtain ⟨hx, hb, hr, hml, hts, hown, hlocks, hA, hG⟩ := id C
  have hK := hG.1
  have hS : va_S A s.heap s.heap [] := va_S.rf
  have hl : lv_has ls 2 [(0, .ref o), (1, .int x1)] := hl
  refine lv_aload_n hx hb dX4_make_0 rfl (lv_at hl 0 rfl) ?_
  refine va_get (D := D) (ci := 4) (v := .int (M 5 0)) (C := RX4) (T := TX4) (N := 10) hx hb hts (fun _ h9 => List.mem_cons_of_mem _ (List.mem_append_right _ (h9))) hown hK hP 0 rfl rfl 5 (by decide) (hts (.fieldLink RX4 28 "MarbleBench$Sewing" "moveCount" "I") (List.mem_of_getElem? (i := 1) rfl)) (fun _ h9 => h9) rfl dX4_make_1 ?_
  refine lv_sipush (v := 200) hx hb dX4_make_4 (by decide) ?_
  refine lv_icmp_ge (tgt := 36) hx hb dX4_make_7 (by decide) (fun c_7 => ?_) (fun c_7 => ?_)
  · have hF := hF.1 c_7
    exact mb_rv (S := mb_m) (mc := 0) (ms := 0) (wf := fun u => gw4 Y o a u) C (u := M) hF hP hD hS dX4_make_36 (Nat.le_of_ble_eq_true rfl) (Nat.le_of_ble_eq_true rfl)
  · have hF := hF.2 c_7
    refine lv_aload_n hx hb dX4_make_10 rfl (lv_at hl 0 rfl) ?_
    refine va_get (D := D) (ci := 4) (v := .ref (a 4)) (C := RX4) (T := TX4) (N := 10) hx hb hts (fun _ h9 => List.mem_cons_of_mem _ (List.mem_append_right _ (h9))) hown hK hP 0 rfl rfl 4 (by decide) (hts (.fieldLink RX4 18 "MarbleBench$Sewing" "moves" "[I") (List.mem_of_getElem? (i := 2) rfl)) (fun _ h9 => h9) rfl dX4_make_11 ?_
    refine lv_aload_n hx hb dX4_make_14 rfl (lv_at hl 0 rfl) ?_
    refine va_get (D := D) (ci := 4) (v := .int (M 5 0)) (C := RX4) (T := TX4) (N := 10) hx hb hts (fun _ h9 => List.mem_cons_of_mem _ (List.mem_append_right _ (h9))) hown hK hP 0 rfl rfl 5 (by decide) (hts (.fieldLink RX4 28 "MarbleBench$Sewing" "moveCount" "I") (List.mem_of_getElem? (i := 1) rfl)) (fun _ h9 => h9) rfl dX4_make_15 ?_
    refine lv_iload_n hx hb dX4_make_18 rfl (lv_at hl 1 rfl) ?_
    obtain ⟨hi19, hF⟩ := hF
    refine va_iast hx hb hK hP hD hS 3 0 rfl rfl hi19 dX4_make_19 (fun H locs hP hD hS => ?_)
    obtain ⟨M19, eM19⟩ : ∃ y : mb_m, y = mb_u M 4 (upd (M 4) (M 5 0).toNatClampNeg x1) := ⟨_, rfl⟩
    have hF := hF M19 eM19
    have hP : va_P D vwCl (gw4 Y o a (mb_u M 4 (upd (M 4) (M 5 0).toNatClampNeg x1))) H := hP
    have hD : va_D A (gw4 Y o a (mb_u M 4 (upd (M 4) (M 5 0).toNatClampNeg x1))) := hD
    rw [← eM19] at hP hD
    refine lv_aload_n hx hb dX4_make_20 rfl (lv_at hl 0 rfl) ?_
    refine lv_dup hx hb dX4_make_21 rfl ?_
    refine va_get (D := D) (ci := 4) (v := .int (M19 5 0)) (C := RX4) (T := TX4) (N := 10) hx hb hts (fun _ h9 => List.mem_cons_of_mem _ (List.mem_append_right _ (h9))) hown hK hP 0 rfl rfl 5 (by decide) (hts (.fieldLink RX4 28 "MarbleBench$Sewing" "moveCount" "I") (List.mem_of_getElem? (i := 1) rfl)) (fun _ h9 => h9) rfl dX4_make_22 ?_
    refine lv_iconst (v := 1) hx hb dX4_make_25 (by decide) ?_
    refine lv_iadd hx hb dX4_make_26 ?_
    refine lv_topi (fun v27 ev27 => ?_)
    have hF := hF v27 ev27
    refine va_put (D := D) (ci := 4) (v := .int v27) (ty := .int) (C := RX4) (T := TX4) (N := 10) hx hb hts (fun _ h9 => List.mem_cons_of_mem _ (List.mem_append_right _ (h9))) tyX4 tyX4_ok nmX4 hown hK hP hD hS 0 rfl rfl 5 (by decide) (hts (.fieldLink RX4 28 "MarbleBench$Sewing" "moveCount" "I") (List.mem_of_getElem? (i := 1) rfl)) (fun _ h9 => h9) rfl (by decide +kernel) rfl rfl (Nat.le_of_ble_eq_true rfl) dX4_make_27 (fun H locs hP hD hS => ?_)
    obtain ⟨M27, eM27⟩ : ∃ y : mb_m, y = mb_u M19 5 (mb_c v27) := ⟨_, rfl⟩
    have hF := hF M27 eM27
    have hP : va_P D vwCl (gw4 Y o a (mb_u M19 5 (mb_c v27))) H := hP
    have hD : va_D A (gw4 Y o a (mb_u M19 5 (mb_c v27))) := hD
    rw [← eM27] at hP hD
    refine lv_aload_n hx hb dX4_make_30 rfl (lv_at hl 0 rfl) ?_
    refine lv_iload_n hx hb dX4_make_31 rfl (lv_at hl 1 rfl) ?_
    refine lv_iconst (v := 1) hx hb dX4_make_32 (by decide) ?_
    refine mb_cWv hD hS hA (va_runV (As := [.int x1, .int (1 : Int32)]) (rest := []) ⟨hx, hb, hml, hown, hts⟩ (cnX4_go l D Y N o a M27 _ x1 (1 : Int32) _ hF) (cwV 2 hts gX4_make_X4_go rfl rfl rfl (by decide +kernel) ⟨Nat.le_of_ble_eq_true rfl, Nat.le_of_ble_eq_true rfl⟩) (mb_preV hG hP hD 0 rfl rfl) rfl rfl hl.1 rfl (lv_room (Nat.le_of_ble_eq_true rfl)) dX4_make_33 ⟨Nat.le_of_ble_eq_true rfl, Nat.le_of_ble_eq_true rfl⟩) (fun M33 H locs hF hP hD hS => ?_)
    exact mb_rv (S := mb_m) (mc := 0) (ms := 0) (wf := fun u => gw4 Y o a u) C (u := M33) hF hP hD hS dX4_make_36 (Nat.le_of_ble_eq_true rfl) (Nat.le_of_ble_eq_true rfl)
end
section
noncomputable def PX4_takeBack (N : Nat) (M : mb_m) (K : mb_m → Prop) : Prop := ((M 5 0) ≤ 0 → K M) ∧ (¬ (M 5 0) ≤ 0 → ∀ v14 : Int32, v14 = ((M 5 0) - (1 : Int32)) → (∀ M14 : mb_m, M14 = mb_u M 5 (mb_c v14) → (vp_in (M14 5 0) 200 ∧ (PX4_opposite N (M14 4 (M14 5 0).toNatClampNeg) (fun r27 _ => PX4_go N M14 r27 (-1 : Int32) (fun M31 => K M31))))))
set_option maxHeartbeats 4000000 in
set_option maxRecDepth 100000 in
theorem cnX4_takeBack (l : Launch) (D : va_G) (Y : Nat → ClassId) (N : Nat) (o : Nat) (a : Nat → Nat) (M : mb_m) (sz : Nat) (K : mb_m → Prop) (hF : PX4_takeBack N M K) : Met l yX4_takeBack wsX4_takeBack ({ frames := 2, cells := 0, slots := 0, locals := 45 } : Room) (va_Pc [.ref o] (mb_B D Y (gw4 Y o a M) sz)) (va_Qv K (fun u t => mb_T D (va_A (gw4 Y o a M) sz) (gw4 Y o a u) t) (va_A (gw4 Y o a M) sz)) 0 0 (va_A (gw4 Y o a M) sz) := by
  refine mb_begin (cc := cX4_takeBack) (maxL := 1) (ret := none) (by decide +kernel) rfl (Nat.le_of_ble_eq_true rfl) ?_
  intro p e s m below meth c ls C hsz hnm hP hD hl
  generalize hAe : va_A (gw4 Y o a M) sz = A at C hD ⊢
  have C : mb_Cx p s m meth c ([.ref o] : List Value).toArray cX4_takeBack 1 none wsX4_takeBack RX4 D Y A := C
  obtain ⟨hx, hb, hr, hml, hts, hown, hlocks, hA, hG⟩ := id C
  have hK := hG.1
  have hS : va_S A s.heap s.heap [] := va_S.rf
  have hl : lv_has ls 1 [(0, .ref o)] := hl
  refine lv_aload_n hx hb dX4_takeBack_0 rfl (lv_at hl 0 rfl) ?_
  refine va_get (D := D) (ci := 4) (v := .int (M 5 0)) (C := RX4) (T := TX4) (N := 10) hx hb hts (fun _ h9 => List.mem_cons_of_mem _ (List.mem_append_right _ (h9))) hown hK hP 0 rfl rfl 5 (by decide) (hts (.fieldLink RX4 28 "MarbleBench$Sewing" "moveCount" "I") (List.mem_of_getElem? (i := 1) rfl)) (fun _ h9 => h9) rfl dX4_takeBack_1 ?_
  refine lv_if_le (tgt := 34) hx hb dX4_takeBack_4 (by decide) (fun c_4 => ?_) (fun c_4 => ?_)
  · have hF := hF.1 c_4
    exact mb_rv (S := mb_m) (mc := 0) (ms := 0) (wf := fun u => gw4 Y o a u) C (u := M) hF hP hD hS dX4_takeBack_34 (Nat.le_of_ble_eq_true rfl) (Nat.le_of_ble_eq_true rfl)
  · have hF := hF.2 c_4
    refine lv_aload_n hx hb dX4_takeBack_7 rfl (lv_at hl 0 rfl) ?_
    refine lv_dup hx hb dX4_takeBack_8 rfl ?_
    refine va_get (D := D) (ci := 4) (v := .int (M 5 0)) (C := RX4) (T := TX4) (N := 10) hx hb hts (fun _ h9 => List.mem_cons_of_mem _ (List.mem_append_right _ (h9))) hown hK hP 0 rfl rfl 5 (by decide) (hts (.fieldLink RX4 28 "MarbleBench$Sewing" "moveCount" "I") (List.mem_of_getElem? (i := 1) rfl)) (fun _ h9 => h9) rfl dX4_takeBack_9 ?_
    refine lv_iconst (v := 1) hx hb dX4_takeBack_12 (by decide) ?_
    refine lv_isub hx hb dX4_takeBack_13 ?_
    refine lv_topi (fun v14 ev14 => ?_)
    have hF := hF v14 ev14
    refine va_put (D := D) (ci := 4) (v := .int v14) (ty := .int) (C := RX4) (T := TX4) (N := 10) hx hb hts (fun _ h9 => List.mem_cons_of_mem _ (List.mem_append_right _ (h9))) tyX4 tyX4_ok nmX4 hown hK hP hD hS 0 rfl rfl 5 (by decide) (hts (.fieldLink RX4 28 "MarbleBench$Sewing" "moveCount" "I") (List.mem_of_getElem? (i := 1) rfl)) (fun _ h9 => h9) rfl (by decide +kernel) rfl rfl (Nat.le_of_ble_eq_true rfl) dX4_takeBack_14 (fun H locs hP hD hS => ?_)
    obtain ⟨M14, eM14⟩ : ∃ y : mb_m, y = mb_u M 5 (mb_c v14) := ⟨_, rfl⟩
    have hF := hF M14 eM14
    have hP : va_P D vwCl (gw4 Y o a (mb_u M 5 (mb_c v14))) H := hP
    have hD : va_D A (gw4 Y o a (mb_u M 5 (mb_c v14))) := hD
    rw [← eM14] at hP hD
    refine lv_aload_n hx hb dX4_takeBack_17 rfl (lv_at hl 0 rfl) ?_
    refine lv_aload_n hx hb dX4_takeBack_18 rfl (lv_at hl 0 rfl) ?_
    refine va_get (D := D) (ci := 4) (v := .ref (a 4)) (C := RX4) (T := TX4) (N := 10) hx hb hts (fun _ h9 => List.mem_cons_of_mem _ (List.mem_append_right _ (h9))) hown hK hP 0 rfl rfl 4 (by decide) (hts (.fieldLink RX4 18 "MarbleBench$Sewing" "moves" "[I") (List.mem_of_getElem? (i := 2) rfl)) (fun _ h9 => h9) rfl dX4_takeBack_19 ?_
    refine lv_aload_n hx hb dX4_takeBack_22 rfl (lv_at hl 0 rfl) ?_
    refine va_get (D := D) (ci := 4) (v := .int (M14 5 0)) (C := RX4) (T := TX4) (N := 10) hx hb hts (fun _ h9 => List.mem_cons_of_mem _ (List.mem_append_right _ (h9))) hown hK hP 0 rfl rfl 5 (by decide) (hts (.fieldLink RX4 28 "MarbleBench$Sewing" "moveCount" "I") (List.mem_of_getElem? (i := 1) rfl)) (fun _ h9 => h9) rfl dX4_takeBack_23 ?_
    obtain ⟨hi26, hF⟩ := hF
    refine va_iald hx hb hK hP 3 0 rfl rfl hi26 dX4_takeBack_26 ?_
    refine mb_cE hP hS hA (va_runS (As := [.int (M14 4 (M14 5 0).toNatClampNeg)]) (rest := [.ref o]) ⟨hx, hb, hml, hown, hts⟩ (cnX4_opposite l D Y N _ (M14 4 (M14 5 0).toNatClampNeg) _ hF) (va_cwS 1 hts gX4_takeBack_X4_opposite rfl rfl rfl (by decide +kernel) ⟨Nat.le_of_ble_eq_true rfl, Nat.le_of_ble_eq_true rfl⟩) (mb_preS (A := A) hG mb_P0 mb_D0) rfl rfl hl.1 rfl (lv_room (Nat.le_of_ble_eq_true rfl)) dX4_takeBack_27 ⟨Nat.le_of_ble_eq_true rfl, Nat.le_of_ble_eq_true rfl⟩) (fun r27 H locs hF hP hS => ?_)
    refine lv_iconst (v := -1) hx hb dX4_takeBack_30 (by decide) ?_
    refine mb_cWv hD hS hA (va_runV (As := [.int r27, .int (-1 : Int32)]) (rest := []) ⟨hx, hb, hml, hown, hts⟩ (cnX4_go l D Y N o a M14 _ r27 (-1 : Int32) _ hF) (cwV 2 hts gX4_takeBack_X4_go rfl rfl rfl (by decide +kernel) ⟨Nat.le_of_ble_eq_true rfl, Nat.le_of_ble_eq_true rfl⟩) (mb_preV hG hP hD 0 rfl rfl) rfl rfl hl.1 rfl (lv_room (Nat.le_of_ble_eq_true rfl)) dX4_takeBack_31 ⟨Nat.le_of_ble_eq_true rfl, Nat.le_of_ble_eq_true rfl⟩) (fun M31 H locs hF hP hD hS => ?_)
    exact mb_rv (S := mb_m) (mc := 0) (ms := 0) (wf := fun u => gw4 Y o a u) C (u := M31) hF hP hD hS dX4_takeBack_34 (Nat.le_of_ble_eq_true rfl) (Nat.le_of_ble_eq_true rfl)
end
section
noncomputable def PX4_holds_29 (N : Nat) (K : Int32 → mb_m → Prop) (b4 : mb_m → Int32 → Int32 → Int32 → Prop) (M : mb_m) (x1 x3 y0 y1 : Int32) : Prop := ∀ v30 : Int32, v30 = (y1 + y0) → (∀ v31 : Int32, v31 = x3 + (1 : Int32) → (b4 M x1 v30 v31))
set_option maxHeartbeats 4000000 in
set_option maxRecDepth 100000 in
theorem wX4_holds_29 {p : Program} {l : Launch} {e : Env} {s : State} {m : MethodId} {below : List Frame} {meth : Method} {c : Code} {args : Array Value} {D : va_G} {Y : Nat → ClassId} {A : Nat → Prop} {o : Nat} {a : Nat → Nat} {N : Nat} {K : Int32 → mb_m → Prop} {b4 : mb_m → Int32 → Int32 → Int32 → Prop} (C : mb_Cx p s m meth c args cX4_holds 4 (some .boolean) wsX4_holds RX4 D Y A) (hb4 : ∀ (M : mb_m) (x1 x2 x3 : Int32) (H : Heap) (locs : List Loc) (ls : Array Slot), b4 M x1 x2 x3 → va_P D vwCl (gw4 Y o a M) H → va_D A (gw4 Y o a M) → va_S A s.heap H locs → lv_has ls 4 [(0, .ref o), (1, .int x1), (2, .int x2), (3, .int x3)] → W p l e ({ frames := 1, cells := 0, slots := 0, locals := 23 } : Room) s m args below meth c H locs 0 0 (MQ below (va_Qi K (fun u t => mb_T D A (gw4 Y o a u) t) A) args s 0 0 A) (F0 m 4 ls [])) : ∀ (M : mb_m) (x1 x3 y0 y1 : Int32) (H : Heap) (locs : List Loc) (ls : Array Slot), PX4_holds_29 N K b4 M x1 x3 y0 y1 → va_P D vwCl (gw4 Y o a M) H → va_D A (gw4 Y o a M) → va_S A s.heap H locs → lv_has ls 4 [(0, .ref o), (1, .int x1), (3, .int x3)] → W p l e ({ frames := 1, cells := 0, slots := 0, locals := 23 } : Room) s m args below meth c H locs 0 0 (MQ below (va_Qi K (fun u t => mb_T D A (gw4 Y o a u) t) A) args s 0 0 A) (F0 m 29 ls [.int y0, .int y1]) := by
  obtain ⟨hx, hb, hr, hml, hts, hown, hlocks, hA, hG⟩ := id C
  have hK := hG.1
  intro M x1 x3 y0 y1 H locs ls hF hP hD hS hl
  refine lv_iadd hx hb dX4_holds_29 ?_
  refine lv_topi (fun v30 ev30 => ?_)
  have hF := hF v30 ev30
  refine lv_istore_n (lv' := [(2, .int v30), (0, .ref o), (1, .int x1), (3, .int x3)]) hx hb dX4_holds_30 rfl hl (by decide) rfl (fun ls hl => ?_)
  obtain ⟨v31, ev31⟩ : ∃ y : Int32, y = x3 + (1 : Int32) := ⟨_, rfl⟩
  have hF := hF v31 ev31
  refine lv_iinc (v := v31) (lv' := [(3, .int v31), (2, .int v30), (0, .ref o), (1, .int x1)]) hx hb dX4_holds_31 hl (k := 3) rfl (by rw [ev31]; rfl) (by decide) rfl (fun ls hl => ?_)
  refine lv_goto (tgt := 4) hx hb dX4_holds_34 (by decide) ?_
  exact hb4 M x1 v30 v31 _ _ _ hF hP hD hS (lv_sub hl [2, 3, 1, 0] rfl)
noncomputable def PX4_holds_4_b (N : Nat) (K : Int32 → mb_m → Prop) (b4 : mb_m → Int32 → Int32 → Int32 → Prop) (M : mb_m) (x1 x2 x3 : Int32) : Prop := (((M 1 0) - (1 : Int32)) ≤ x3 → (x2 < ((M 1 0) / (2 : Int32)) → K (0 : Int32) M) ∧ (¬ x2 < ((M 1 0) / (2 : Int32)) → K (1 : Int32) M)) ∧ (¬ ((M 1 0) - (1 : Int32)) ≤ x3 → PX4_stitchesAt N M x1 x3 (fun r18 M18 => (r18 ≤ 0 → PX4_holds_29 N K b4 M18 x1 x3 (0 : Int32) x2) ∧ (¬ r18 ≤ 0 → PX4_holds_29 N K b4 M18 x1 x3 (1 : Int32) x2)))
noncomputable def PX4_holds_4 (N : Nat) (K : Int32 → mb_m → Prop) (n : Nat) : mb_m → Int32 → Int32 → Int32 → Prop := Nat.rec (motive := fun _ => mb_m → Int32 → Int32 → Int32 → Prop) (fun _ _ _ _ => False) (fun _ b4 => PX4_holds_4_b N K  b4) n
set_option maxHeartbeats 4000000 in
set_option maxRecDepth 100000 in
theorem wX4_holds_4 {p : Program} {l : Launch} {e : Env} {s : State} {m : MethodId} {below : List Frame} {meth : Method} {c : Code} {args : Array Value} {D : va_G} {Y : Nat → ClassId} {A : Nat → Prop} {o : Nat} {a : Nat → Nat} {N : Nat} {K : Int32 → mb_m → Prop} (C : mb_Cx p s m meth c args cX4_holds 4 (some .boolean) wsX4_holds RX4 D Y A) : ∀ (n : Nat), (∀ (M : mb_m) (x1 x2 x3 : Int32) (H : Heap) (locs : List Loc) (ls : Array Slot), PX4_holds_4 N K  n M x1 x2 x3 → va_P D vwCl (gw4 Y o a M) H → va_D A (gw4 Y o a M) → va_S A s.heap H locs → lv_has ls 4 [(0, .ref o), (1, .int x1), (2, .int x2), (3, .int x3)] → W p l e ({ frames := 1, cells := 0, slots := 0, locals := 23 } : Room) s m args below meth c H locs 0 0 (MQ below (va_Qi K (fun u t => mb_T D A (gw4 Y o a u) t) A) args s 0 0 A) (F0 m 4 ls [])) := by
  obtain ⟨hx, hb, hr, hml, hts, hown, hlocks, hA, hG⟩ := id C
  have hK := hG.1
  intro n
  induction n with
  | zero => intro M x1 x2 x3 H locs ls hF; exact (show False from hF).elim
  | succ n ih =>
    intro M x1 x2 x3 H locs ls hF hP hD hS hl
    have hF : PX4_holds_4_b N K  (PX4_holds_4 N K  n) M x1 x2 x3 := hF
    refine lv_iload_n hx hb dX4_holds_4 rfl (lv_at hl 3 rfl) ?_
    refine lv_aload_n hx hb dX4_holds_5 rfl (lv_at hl 0 rfl) ?_
    refine va_get (D := D) (ci := 4) (v := .int (M 1 0)) (C := RX4) (T := TX4) (N := 10) hx hb hts (fun _ h9 => List.mem_cons_of_mem _ (List.mem_append_right _ (h9))) hown hK hP 0 rfl rfl 1 (by decide) (hts (.fieldLink RX4 25 "MarbleBench$Sewing" "stations" "I") (List.mem_of_getElem? (i := 1) rfl)) (fun _ h9 => h9) rfl dX4_holds_6 ?_
    refine lv_iconst (v := 1) hx hb dX4_holds_9 (by decide) ?_
    refine lv_isub hx hb dX4_holds_10 ?_
    refine lv_icmp_ge (tgt := 37) hx hb dX4_holds_11 (by decide) (fun c_11 => ?_) (fun c_11 => ?_)
    · have hF := hF.1 c_11
      refine lv_iload_n hx hb dX4_holds_37 rfl (lv_at hl 2 rfl) ?_
      refine lv_aload_n hx hb dX4_holds_38 rfl (lv_at hl 0 rfl) ?_
      refine va_get (D := D) (ci := 4) (v := .int (M 1 0)) (C := RX4) (T := TX4) (N := 10) hx hb hts (fun _ h9 => List.mem_cons_of_mem _ (List.mem_append_right _ (h9))) hown hK hP 0 rfl rfl 1 (by decide) (hts (.fieldLink RX4 25 "MarbleBench$Sewing" "stations" "I") (List.mem_of_getElem? (i := 1) rfl)) (fun _ h9 => h9) rfl dX4_holds_39 ?_
      refine lv_iconst (v := 2) hx hb dX4_holds_42 (by decide) ?_
      refine lv_idiv hx hb dX4_holds_43 (by decide) ?_
      refine lv_icmp_lt (tgt := 51) hx hb dX4_holds_44 (by decide) (fun c_44 => ?_) (fun c_44 => ?_)
      · have hF := hF.1 c_44
        refine lv_iconst (v := 0) hx hb dX4_holds_51 (by decide) ?_
        exact mb_ri (S := mb_m) (mc := 0) (ms := 0) (wf := fun u => gw4 Y o a u) C rfl (u := M) hF hP hD hS dX4_holds_52 (Nat.le_of_ble_eq_true rfl) (Nat.le_of_ble_eq_true rfl)
      · have hF := hF.2 c_44
        refine lv_iconst (v := 1) hx hb dX4_holds_47 (by decide) ?_
        refine lv_goto (tgt := 52) hx hb dX4_holds_48 (by decide) ?_
        exact mb_ri (S := mb_m) (mc := 0) (ms := 0) (wf := fun u => gw4 Y o a u) C rfl (u := M) hF hP hD hS dX4_holds_52 (Nat.le_of_ble_eq_true rfl) (Nat.le_of_ble_eq_true rfl)
    · have hF := hF.2 c_11
      refine lv_iload_n hx hb dX4_holds_14 rfl (lv_at hl 2 rfl) ?_
      refine lv_aload_n hx hb dX4_holds_15 rfl (lv_at hl 0 rfl) ?_
      refine lv_iload_n hx hb dX4_holds_16 rfl (lv_at hl 1 rfl) ?_
      refine lv_iload_n hx hb dX4_holds_17 rfl (lv_at hl 3 rfl) ?_
      refine mb_cW hD hS hA (va_runV (As := [.int x1, .int x3]) (rest := [.int x2]) ⟨hx, hb, hml, hown, hts⟩ (cnX4_stitchesAt l D Y N o a M _ x1 x3 _ hF) (cwV 2 hts gX4_holds_X4_stitchesAt rfl rfl rfl (by decide +kernel) ⟨Nat.le_of_ble_eq_true rfl, Nat.le_of_ble_eq_true rfl⟩) (mb_preV hG hP hD 0 rfl rfl) rfl rfl hl.1 rfl (lv_room (Nat.le_of_ble_eq_true rfl)) dX4_holds_18 ⟨Nat.le_of_ble_eq_true rfl, Nat.le_of_ble_eq_true rfl⟩) (fun r18 M18 H locs hF hP hD hS => ?_)
      refine lv_if_le (tgt := 28) hx hb dX4_holds_21 (by decide) (fun c_21 => ?_) (fun c_21 => ?_)
      · have hF := hF.1 c_21
        refine lv_iconst (v := 0) hx hb dX4_holds_28 (by decide) ?_
        exact wX4_holds_29 C ih M18 x1 x3 (0 : Int32) x2 _ _ _ hF hP hD hS (lv_sub hl [0, 1, 3] rfl)
      · have hF := hF.2 c_21
        refine lv_iconst (v := 1) hx hb dX4_holds_24 (by decide) ?_
        refine lv_goto (tgt := 29) hx hb dX4_holds_25 (by decide) ?_
        exact wX4_holds_29 C ih M18 x1 x3 (1 : Int32) x2 _ _ _ hF hP hD hS (lv_sub hl [0, 1, 3] rfl)
noncomputable def PX4_holds (N : Nat) (M : mb_m) (x1 : Int32) (K : Int32 → mb_m → Prop) : Prop := PX4_holds_4 N K N M x1 (0 : Int32) (0 : Int32)
set_option maxHeartbeats 4000000 in
set_option maxRecDepth 100000 in
theorem cnX4_holds (l : Launch) (D : va_G) (Y : Nat → ClassId) (N : Nat) (o : Nat) (a : Nat → Nat) (M : mb_m) (sz : Nat) (x1 : Int32) (K : Int32 → mb_m → Prop) (hF : PX4_holds N M x1 K) : Met l yX4_holds wsX4_holds ({ frames := 1, cells := 0, slots := 0, locals := 23 } : Room) (va_Pc [.ref o, .int x1] (mb_B D Y (gw4 Y o a M) sz)) (va_Qi K (fun u t => mb_T D (va_A (gw4 Y o a M) sz) (gw4 Y o a u) t) (va_A (gw4 Y o a M) sz)) 0 0 (va_A (gw4 Y o a M) sz) := by
  refine mb_begin (cc := cX4_holds) (maxL := 4) (ret := (some .boolean)) (by decide +kernel) rfl (Nat.le_of_ble_eq_true rfl) ?_
  intro p e s m below meth c ls C hsz hnm hP hD hl
  generalize hAe : va_A (gw4 Y o a M) sz = A at C hD ⊢
  have C : mb_Cx p s m meth c ([.ref o, .int x1] : List Value).toArray cX4_holds 4 (some .boolean) wsX4_holds RX4 D Y A := C
  obtain ⟨hx, hb, hr, hml, hts, hown, hlocks, hA, hG⟩ := id C
  have hK := hG.1
  have hS : va_S A s.heap s.heap [] := va_S.rf
  have hl : lv_has ls 4 [(0, .ref o), (1, .int x1)] := hl
  refine lv_iconst (v := 0) hx hb dX4_holds_0 (by decide) ?_
  refine lv_istore_n (lv' := [(2, .int (0 : Int32)), (0, .ref o), (1, .int x1)]) hx hb dX4_holds_1 rfl hl (by decide) rfl (fun ls hl => ?_)
  refine lv_iconst (v := 0) hx hb dX4_holds_2 (by decide) ?_
  refine lv_istore_n (lv' := [(3, .int (0 : Int32)), (2, .int (0 : Int32)), (0, .ref o), (1, .int x1)]) hx hb dX4_holds_3 rfl hl (by decide) rfl (fun ls hl => ?_)
  exact wX4_holds_4 C N M x1 (0 : Int32) (0 : Int32) _ _ _ hF hP hD hS (lv_sub hl [2, 3, 1, 0] rfl)
end
section
noncomputable def PX4_isSewn_40 (N : Nat) (K : Int32 → mb_m → Prop) (b15 : mb_m → Int32 → Int32 → Prop) (M : mb_m) (x2 y0 : Int32) : Prop := ∀ v41 : Int32, v41 = x2 + (1 : Int32) → (b15 M y0 v41)
set_option maxHeartbeats 4000000 in
set_option maxRecDepth 100000 in
theorem wX4_isSewn_40 {p : Program} {l : Launch} {e : Env} {s : State} {m : MethodId} {below : List Frame} {meth : Method} {c : Code} {args : Array Value} {D : va_G} {Y : Nat → ClassId} {A : Nat → Prop} {o : Nat} {a : Nat → Nat} {N : Nat} {K : Int32 → mb_m → Prop} {b15 : mb_m → Int32 → Int32 → Prop} (C : mb_Cx p s m meth c args cX4_isSewn 3 (some .boolean) wsX4_isSewn RX4 D Y A) (hb15 : ∀ (M : mb_m) (x1 x2 : Int32) (H : Heap) (locs : List Loc) (ls : Array Slot), b15 M x1 x2 → va_P D vwCl (gw4 Y o a M) H → va_D A (gw4 Y o a M) → va_S A s.heap H locs → lv_has ls 3 [(0, .ref o), (1, .int x1), (2, .int x2)] → W p l e ({ frames := 2, cells := 0, slots := 0, locals := 46 } : Room) s m args below meth c H locs 0 0 (MQ below (va_Qi K (fun u t => mb_T D A (gw4 Y o a u) t) A) args s 0 0 A) (F0 m 15 ls [])) : ∀ (M : mb_m) (x2 y0 : Int32) (H : Heap) (locs : List Loc) (ls : Array Slot), PX4_isSewn_40 N K b15 M x2 y0 → va_P D vwCl (gw4 Y o a M) H → va_D A (gw4 Y o a M) → va_S A s.heap H locs → lv_has ls 3 [(0, .ref o), (2, .int x2)] → W p l e ({ frames := 2, cells := 0, slots := 0, locals := 46 } : Room) s m args below meth c H locs 0 0 (MQ below (va_Qi K (fun u t => mb_T D A (gw4 Y o a u) t) A) args s 0 0 A) (F0 m 40 ls [.int y0]) := by
  obtain ⟨hx, hb, hr, hml, hts, hown, hlocks, hA, hG⟩ := id C
  have hK := hG.1
  intro M x2 y0 H locs ls hF hP hD hS hl
  refine lv_istore_n (lv' := [(1, .int y0), (0, .ref o), (2, .int x2)]) hx hb dX4_isSewn_40 rfl hl (by decide) rfl (fun ls hl => ?_)
  obtain ⟨v41, ev41⟩ : ∃ y : Int32, y = x2 + (1 : Int32) := ⟨_, rfl⟩
  have hF := hF v41 ev41
  refine lv_iinc (v := v41) (lv' := [(2, .int v41), (1, .int y0), (0, .ref o)]) hx hb dX4_isSewn_41 hl (k := 2) rfl (by rw [ev41]; rfl) (by decide) rfl (fun ls hl => ?_)
  refine lv_goto (tgt := 15) hx hb dX4_isSewn_44 (by decide) ?_
  exact hb15 M y0 v41 _ _ _ hF hP hD hS (lv_sub hl [2, 1, 0] rfl)
noncomputable def PX4_isSewn_39 (N : Nat) (K : Int32 → mb_m → Prop) (b15 : mb_m → Int32 → Int32 → Prop) (M : mb_m) (x2 : Int32) : Prop := PX4_isSewn_40 N K b15 M x2 (0 : Int32)
set_option maxHeartbeats 4000000 in
set_option maxRecDepth 100000 in
theorem wX4_isSewn_39 {p : Program} {l : Launch} {e : Env} {s : State} {m : MethodId} {below : List Frame} {meth : Method} {c : Code} {args : Array Value} {D : va_G} {Y : Nat → ClassId} {A : Nat → Prop} {o : Nat} {a : Nat → Nat} {N : Nat} {K : Int32 → mb_m → Prop} {b15 : mb_m → Int32 → Int32 → Prop} (C : mb_Cx p s m meth c args cX4_isSewn 3 (some .boolean) wsX4_isSewn RX4 D Y A) (hb15 : ∀ (M : mb_m) (x1 x2 : Int32) (H : Heap) (locs : List Loc) (ls : Array Slot), b15 M x1 x2 → va_P D vwCl (gw4 Y o a M) H → va_D A (gw4 Y o a M) → va_S A s.heap H locs → lv_has ls 3 [(0, .ref o), (1, .int x1), (2, .int x2)] → W p l e ({ frames := 2, cells := 0, slots := 0, locals := 46 } : Room) s m args below meth c H locs 0 0 (MQ below (va_Qi K (fun u t => mb_T D A (gw4 Y o a u) t) A) args s 0 0 A) (F0 m 15 ls [])) : ∀ (M : mb_m) (x2 : Int32) (H : Heap) (locs : List Loc) (ls : Array Slot), PX4_isSewn_39 N K b15 M x2 → va_P D vwCl (gw4 Y o a M) H → va_D A (gw4 Y o a M) → va_S A s.heap H locs → lv_has ls 3 [(0, .ref o), (2, .int x2)] → W p l e ({ frames := 2, cells := 0, slots := 0, locals := 46 } : Room) s m args below meth c H locs 0 0 (MQ below (va_Qi K (fun u t => mb_T D A (gw4 Y o a u) t) A) args s 0 0 A) (F0 m 39 ls []) := by
  obtain ⟨hx, hb, hr, hml, hts, hown, hlocks, hA, hG⟩ := id C
  have hK := hG.1
  intro M x2 H locs ls hF hP hD hS hl
  refine lv_iconst (v := 0) hx hb dX4_isSewn_39 (by decide) ?_
  exact wX4_isSewn_40 C hb15 M x2 (0 : Int32) _ _ _ hF hP hD hS (lv_sub hl [0, 1] rfl)
noncomputable def PX4_isSewn_86 (N : Nat) (K : Int32 → mb_m → Prop) (b49 : mb_m → Int32 → Int32 → Prop) (M : mb_m) (x2 y0 : Int32) : Prop := ∀ v87 : Int32, v87 = x2 + (1 : Int32) → (b49 M y0 v87)
set_option maxHeartbeats 4000000 in
set_option maxRecDepth 100000 in
theorem wX4_isSewn_86 {p : Program} {l : Launch} {e : Env} {s : State} {m : MethodId} {below : List Frame} {meth : Method} {c : Code} {args : Array Value} {D : va_G} {Y : Nat → ClassId} {A : Nat → Prop} {o : Nat} {a : Nat → Nat} {N : Nat} {K : Int32 → mb_m → Prop} {b49 : mb_m → Int32 → Int32 → Prop} (C : mb_Cx p s m meth c args cX4_isSewn 3 (some .boolean) wsX4_isSewn RX4 D Y A) (hb49 : ∀ (M : mb_m) (x1 x2 : Int32) (H : Heap) (locs : List Loc) (ls : Array Slot), b49 M x1 x2 → va_P D vwCl (gw4 Y o a M) H → va_D A (gw4 Y o a M) → va_S A s.heap H locs → lv_has ls 3 [(0, .ref o), (1, .int x1), (2, .int x2)] → W p l e ({ frames := 2, cells := 0, slots := 0, locals := 46 } : Room) s m args below meth c H locs 0 0 (MQ below (va_Qi K (fun u t => mb_T D A (gw4 Y o a u) t) A) args s 0 0 A) (F0 m 49 ls [])) : ∀ (M : mb_m) (x2 y0 : Int32) (H : Heap) (locs : List Loc) (ls : Array Slot), PX4_isSewn_86 N K b49 M x2 y0 → va_P D vwCl (gw4 Y o a M) H → va_D A (gw4 Y o a M) → va_S A s.heap H locs → lv_has ls 3 [(0, .ref o), (2, .int x2)] → W p l e ({ frames := 2, cells := 0, slots := 0, locals := 46 } : Room) s m args below meth c H locs 0 0 (MQ below (va_Qi K (fun u t => mb_T D A (gw4 Y o a u) t) A) args s 0 0 A) (F0 m 86 ls [.int y0]) := by
  obtain ⟨hx, hb, hr, hml, hts, hown, hlocks, hA, hG⟩ := id C
  have hK := hG.1
  intro M x2 y0 H locs ls hF hP hD hS hl
  refine lv_istore_n (lv' := [(1, .int y0), (0, .ref o), (2, .int x2)]) hx hb dX4_isSewn_86 rfl hl (by decide) rfl (fun ls hl => ?_)
  obtain ⟨v87, ev87⟩ : ∃ y : Int32, y = x2 + (1 : Int32) := ⟨_, rfl⟩
  have hF := hF v87 ev87
  refine lv_iinc (v := v87) (lv' := [(2, .int v87), (1, .int y0), (0, .ref o)]) hx hb dX4_isSewn_87 hl (k := 2) rfl (by rw [ev87]; rfl) (by decide) rfl (fun ls hl => ?_)
  refine lv_goto (tgt := 49) hx hb dX4_isSewn_90 (by decide) ?_
  exact hb49 M y0 v87 _ _ _ hF hP hD hS (lv_sub hl [2, 1, 0] rfl)
noncomputable def PX4_isSewn_85 (N : Nat) (K : Int32 → mb_m → Prop) (b49 : mb_m → Int32 → Int32 → Prop) (M : mb_m) (x2 : Int32) : Prop := PX4_isSewn_86 N K b49 M x2 (0 : Int32)
set_option maxHeartbeats 4000000 in
set_option maxRecDepth 100000 in
theorem wX4_isSewn_85 {p : Program} {l : Launch} {e : Env} {s : State} {m : MethodId} {below : List Frame} {meth : Method} {c : Code} {args : Array Value} {D : va_G} {Y : Nat → ClassId} {A : Nat → Prop} {o : Nat} {a : Nat → Nat} {N : Nat} {K : Int32 → mb_m → Prop} {b49 : mb_m → Int32 → Int32 → Prop} (C : mb_Cx p s m meth c args cX4_isSewn 3 (some .boolean) wsX4_isSewn RX4 D Y A) (hb49 : ∀ (M : mb_m) (x1 x2 : Int32) (H : Heap) (locs : List Loc) (ls : Array Slot), b49 M x1 x2 → va_P D vwCl (gw4 Y o a M) H → va_D A (gw4 Y o a M) → va_S A s.heap H locs → lv_has ls 3 [(0, .ref o), (1, .int x1), (2, .int x2)] → W p l e ({ frames := 2, cells := 0, slots := 0, locals := 46 } : Room) s m args below meth c H locs 0 0 (MQ below (va_Qi K (fun u t => mb_T D A (gw4 Y o a u) t) A) args s 0 0 A) (F0 m 49 ls [])) : ∀ (M : mb_m) (x2 : Int32) (H : Heap) (locs : List Loc) (ls : Array Slot), PX4_isSewn_85 N K b49 M x2 → va_P D vwCl (gw4 Y o a M) H → va_D A (gw4 Y o a M) → va_S A s.heap H locs → lv_has ls 3 [(0, .ref o), (2, .int x2)] → W p l e ({ frames := 2, cells := 0, slots := 0, locals := 46 } : Room) s m args below meth c H locs 0 0 (MQ below (va_Qi K (fun u t => mb_T D A (gw4 Y o a u) t) A) args s 0 0 A) (F0 m 85 ls []) := by
  obtain ⟨hx, hb, hr, hml, hts, hown, hlocks, hA, hG⟩ := id C
  have hK := hG.1
  intro M x2 H locs ls hF hP hD hS hl
  refine lv_iconst (v := 0) hx hb dX4_isSewn_85 (by decide) ?_
  exact wX4_isSewn_86 C hb49 M x2 (0 : Int32) _ _ _ hF hP hD hS (lv_sub hl [0, 1] rfl)
noncomputable def PX4_isSewn_49_b (N : Nat) (K : Int32 → mb_m → Prop) (b49 : mb_m → Int32 → Int32 → Prop) (M : mb_m) (x1 x2 : Int32) : Prop := (((M 0 0) - (1 : Int32)) ≤ x2 → mb_isB x1 ∧ (K x1 M)) ∧ (¬ ((M 0 0) - (1 : Int32)) ≤ x2 → ((8 : Int32) ≤ x2 → mb_isB x1 ∧ (K x1 M)) ∧ (¬ (8 : Int32) ≤ x2 → (x1 = 0 → PX4_isSewn_85 N K b49 M x2) ∧ (¬ x1 = 0 → vp_in x2 8 ∧ (((M 3 x2.toNatClampNeg) ≤ 0 → PX4_isSewn_85 N K b49 M x2) ∧ (¬ (M 3 x2.toNatClampNeg) ≤ 0 → PX4_isSewn_86 N K b49 M x2 (1 : Int32))))))
noncomputable def PX4_isSewn_49 (N : Nat) (K : Int32 → mb_m → Prop) (n : Nat) : mb_m → Int32 → Int32 → Prop := Nat.rec (motive := fun _ => mb_m → Int32 → Int32 → Prop) (fun _ _ _ => False) (fun _ b49 => PX4_isSewn_49_b N K  b49) n
set_option maxHeartbeats 4000000 in
set_option maxRecDepth 100000 in
theorem wX4_isSewn_49 {p : Program} {l : Launch} {e : Env} {s : State} {m : MethodId} {below : List Frame} {meth : Method} {c : Code} {args : Array Value} {D : va_G} {Y : Nat → ClassId} {A : Nat → Prop} {o : Nat} {a : Nat → Nat} {N : Nat} {K : Int32 → mb_m → Prop} (C : mb_Cx p s m meth c args cX4_isSewn 3 (some .boolean) wsX4_isSewn RX4 D Y A) : ∀ (n : Nat), (∀ (M : mb_m) (x1 x2 : Int32) (H : Heap) (locs : List Loc) (ls : Array Slot), PX4_isSewn_49 N K  n M x1 x2 → va_P D vwCl (gw4 Y o a M) H → va_D A (gw4 Y o a M) → va_S A s.heap H locs → lv_has ls 3 [(0, .ref o), (1, .int x1), (2, .int x2)] → W p l e ({ frames := 2, cells := 0, slots := 0, locals := 46 } : Room) s m args below meth c H locs 0 0 (MQ below (va_Qi K (fun u t => mb_T D A (gw4 Y o a u) t) A) args s 0 0 A) (F0 m 49 ls [])) := by
  obtain ⟨hx, hb, hr, hml, hts, hown, hlocks, hA, hG⟩ := id C
  have hK := hG.1
  intro n
  induction n with
  | zero => intro M x1 x2 H locs ls hF; exact (show False from hF).elim
  | succ n ih =>
    intro M x1 x2 H locs ls hF hP hD hS hl
    have hF : PX4_isSewn_49_b N K  (PX4_isSewn_49 N K  n) M x1 x2 := hF
    refine lv_iload_n hx hb dX4_isSewn_49 rfl (lv_at hl 2 rfl) ?_
    refine lv_aload_n hx hb dX4_isSewn_50 rfl (lv_at hl 0 rfl) ?_
    refine va_get (D := D) (ci := 4) (v := .int (M 0 0)) (C := RX4) (T := TX4) (N := 10) hx hb hts (fun _ h9 => List.mem_cons_of_mem _ (List.mem_append_right _ (h9))) hown hK hP 0 rfl rfl 0 (by decide) (hts (.fieldLink RX4 21 "MarbleBench$Sewing" "gatherings" "I") (List.mem_of_getElem? (i := 2) rfl)) (fun _ h9 => h9) rfl dX4_isSewn_51 ?_
    refine lv_iconst (v := 1) hx hb dX4_isSewn_54 (by decide) ?_
    refine lv_isub hx hb dX4_isSewn_55 ?_
    refine lv_icmp_ge (tgt := 93) hx hb dX4_isSewn_56 (by decide) (fun c_56 => ?_) (fun c_56 => ?_)
    · have hF := hF.1 c_56
      refine lv_iload_n hx hb dX4_isSewn_93 rfl (lv_at hl 1 rfl) ?_
      obtain ⟨hz94, hF⟩ := hF
      exact mb_ri (S := mb_m) (mc := 0) (ms := 0) (wf := fun u => gw4 Y o a u) C (mb_isB_n hz94) (u := M) hF hP hD hS dX4_isSewn_94 (Nat.le_of_ble_eq_true rfl) (Nat.le_of_ble_eq_true rfl)
    · have hF := hF.2 c_56
      refine lv_iload_n hx hb dX4_isSewn_59 rfl (lv_at hl 2 rfl) ?_
      refine lv_aload_n hx hb dX4_isSewn_60 rfl (lv_at hl 0 rfl) ?_
      refine va_get (D := D) (ci := 4) (v := .ref (a 3)) (C := RX4) (T := TX4) (N := 10) hx hb hts (fun _ h9 => List.mem_cons_of_mem _ (List.mem_append_right _ (h9))) hown hK hP 0 rfl rfl 3 (by decide) (hts (.fieldLink RX4 15 "MarbleBench$Sewing" "links" "[I") (List.mem_of_getElem? (i := 3) rfl)) (fun _ h9 => h9) rfl dX4_isSewn_61 ?_
      refine va_alen (v := 8) hx hb hK hP 2 0 rfl rfl rfl dX4_isSewn_64 ?_
      refine lv_icmp_ge (tgt := 93) hx hb dX4_isSewn_65 (by decide) (fun c_65 => ?_) (fun c_65 => ?_)
      · have hF := hF.1 c_65
        refine lv_iload_n hx hb dX4_isSewn_93 rfl (lv_at hl 1 rfl) ?_
        obtain ⟨hz94, hF⟩ := hF
        exact mb_ri (S := mb_m) (mc := 0) (ms := 0) (wf := fun u => gw4 Y o a u) C (mb_isB_n hz94) (u := M) hF hP hD hS dX4_isSewn_94 (Nat.le_of_ble_eq_true rfl) (Nat.le_of_ble_eq_true rfl)
      · have hF := hF.2 c_65
        refine lv_iload_n hx hb dX4_isSewn_68 rfl (lv_at hl 1 rfl) ?_
        refine lv_if_eq (tgt := 85) hx hb dX4_isSewn_69 (by decide) (fun c_69 => ?_) (fun c_69 => ?_)
        · have hF := hF.1 c_69
          exact wX4_isSewn_85 C ih M x2 _ _ _ hF hP hD hS (lv_sub hl [0, 2] rfl)
        · have hF := hF.2 c_69
          refine lv_aload_n hx hb dX4_isSewn_72 rfl (lv_at hl 0 rfl) ?_
          refine va_get (D := D) (ci := 4) (v := .ref (a 3)) (C := RX4) (T := TX4) (N := 10) hx hb hts (fun _ h9 => List.mem_cons_of_mem _ (List.mem_append_right _ (h9))) hown hK hP 0 rfl rfl 3 (by decide) (hts (.fieldLink RX4 15 "MarbleBench$Sewing" "links" "[I") (List.mem_of_getElem? (i := 3) rfl)) (fun _ h9 => h9) rfl dX4_isSewn_73 ?_
          refine lv_iload_n hx hb dX4_isSewn_76 rfl (lv_at hl 2 rfl) ?_
          obtain ⟨hi77, hF⟩ := hF
          refine va_iald hx hb hK hP 2 0 rfl rfl hi77 dX4_isSewn_77 ?_
          refine lv_if_le (tgt := 85) hx hb dX4_isSewn_78 (by decide) (fun c_78 => ?_) (fun c_78 => ?_)
          · have hF := hF.1 c_78
            exact wX4_isSewn_85 C ih M x2 _ _ _ hF hP hD hS (lv_sub hl [0, 2] rfl)
          · have hF := hF.2 c_78
            refine lv_iconst (v := 1) hx hb dX4_isSewn_81 (by decide) ?_
            refine lv_goto (tgt := 86) hx hb dX4_isSewn_82 (by decide) ?_
            exact wX4_isSewn_86 C ih M x2 (1 : Int32) _ _ _ hF hP hD hS (lv_sub hl [0, 2] rfl)
noncomputable def PX4_isSewn_15_b (N : Nat) (K : Int32 → mb_m → Prop) (b15 : mb_m → Int32 → Int32 → Prop) (M : mb_m) (x1 x2 : Int32) : Prop := ((M 0 0) ≤ x2 → PX4_isSewn_49 N K N M x1 (0 : Int32)) ∧ (¬ (M 0 0) ≤ x2 → (x1 = 0 → PX4_isSewn_39 N K b15 M x2) ∧ (¬ x1 = 0 → PX4_holds N M x2 (fun r29 M29 => (r29 = 0 → PX4_isSewn_39 N K b15 M29 x2) ∧ (¬ r29 = 0 → PX4_isSewn_40 N K b15 M29 x2 (1 : Int32)))))
noncomputable def PX4_isSewn_15 (N : Nat) (K : Int32 → mb_m → Prop) (n : Nat) : mb_m → Int32 → Int32 → Prop := Nat.rec (motive := fun _ => mb_m → Int32 → Int32 → Prop) (fun _ _ _ => False) (fun _ b15 => PX4_isSewn_15_b N K  b15) n
set_option maxHeartbeats 4000000 in
set_option maxRecDepth 100000 in
theorem wX4_isSewn_15 {p : Program} {l : Launch} {e : Env} {s : State} {m : MethodId} {below : List Frame} {meth : Method} {c : Code} {args : Array Value} {D : va_G} {Y : Nat → ClassId} {A : Nat → Prop} {o : Nat} {a : Nat → Nat} {N : Nat} {K : Int32 → mb_m → Prop} (C : mb_Cx p s m meth c args cX4_isSewn 3 (some .boolean) wsX4_isSewn RX4 D Y A) : ∀ (n : Nat), (∀ (M : mb_m) (x1 x2 : Int32) (H : Heap) (locs : List Loc) (ls : Array Slot), PX4_isSewn_15 N K  n M x1 x2 → va_P D vwCl (gw4 Y o a M) H → va_D A (gw4 Y o a M) → va_S A s.heap H locs → lv_has ls 3 [(0, .ref o), (1, .int x1), (2, .int x2)] → W p l e ({ frames := 2, cells := 0, slots := 0, locals := 46 } : Room) s m args below meth c H locs 0 0 (MQ below (va_Qi K (fun u t => mb_T D A (gw4 Y o a u) t) A) args s 0 0 A) (F0 m 15 ls [])) := by
  obtain ⟨hx, hb, hr, hml, hts, hown, hlocks, hA, hG⟩ := id C
  have hK := hG.1
  intro n
  induction n with
  | zero => intro M x1 x2 H locs ls hF; exact (show False from hF).elim
  | succ n ih =>
    intro M x1 x2 H locs ls hF hP hD hS hl
    have hF : PX4_isSewn_15_b N K  (PX4_isSewn_15 N K  n) M x1 x2 := hF
    refine lv_iload_n hx hb dX4_isSewn_15 rfl (lv_at hl 2 rfl) ?_
    refine lv_aload_n hx hb dX4_isSewn_16 rfl (lv_at hl 0 rfl) ?_
    refine va_get (D := D) (ci := 4) (v := .int (M 0 0)) (C := RX4) (T := TX4) (N := 10) hx hb hts (fun _ h9 => List.mem_cons_of_mem _ (List.mem_append_right _ (h9))) hown hK hP 0 rfl rfl 0 (by decide) (hts (.fieldLink RX4 21 "MarbleBench$Sewing" "gatherings" "I") (List.mem_of_getElem? (i := 2) rfl)) (fun _ h9 => h9) rfl dX4_isSewn_17 ?_
    refine lv_icmp_ge (tgt := 47) hx hb dX4_isSewn_20 (by decide) (fun c_20 => ?_) (fun c_20 => ?_)
    · have hF := hF.1 c_20
      refine lv_iconst (v := 0) hx hb dX4_isSewn_47 (by decide) ?_
      refine lv_istore_n (lv' := [(2, .int (0 : Int32)), (0, .ref o), (1, .int x1)]) hx hb dX4_isSewn_48 rfl hl (by decide) rfl (fun ls hl => ?_)
      exact wX4_isSewn_49 C N M x1 (0 : Int32) _ _ _ hF hP hD hS (lv_sub hl [1, 2, 0] rfl)
    · have hF := hF.2 c_20
      refine lv_iload_n hx hb dX4_isSewn_23 rfl (lv_at hl 1 rfl) ?_
      refine lv_if_eq (tgt := 39) hx hb dX4_isSewn_24 (by decide) (fun c_24 => ?_) (fun c_24 => ?_)
      · have hF := hF.1 c_24
        exact wX4_isSewn_39 C ih M x2 _ _ _ hF hP hD hS (lv_sub hl [0, 2] rfl)
      · have hF := hF.2 c_24
        refine lv_aload_n hx hb dX4_isSewn_27 rfl (lv_at hl 0 rfl) ?_
        refine lv_iload_n hx hb dX4_isSewn_28 rfl (lv_at hl 2 rfl) ?_
        refine mb_cW hD hS hA (va_runV (As := [.int x2]) (rest := []) ⟨hx, hb, hml, hown, hts⟩ (cnX4_holds l D Y N o a M _ x2 _ hF) (cwV 1 hts gX4_isSewn_X4_holds rfl rfl rfl (by decide +kernel) ⟨Nat.le_of_ble_eq_true rfl, Nat.le_of_ble_eq_true rfl⟩) (mb_preV hG hP hD 0 rfl rfl) rfl rfl hl.1 rfl (lv_room (Nat.le_of_ble_eq_true rfl)) dX4_isSewn_29 ⟨Nat.le_of_ble_eq_true rfl, Nat.le_of_ble_eq_true rfl⟩) (fun r29 M29 H locs hF hP hD hS => ?_)
        refine lv_if_eq (tgt := 39) hx hb dX4_isSewn_32 (by decide) (fun c_32 => ?_) (fun c_32 => ?_)
        · have hF := hF.1 c_32
          exact wX4_isSewn_39 C ih M29 x2 _ _ _ hF hP hD hS (lv_sub hl [0, 2] rfl)
        · have hF := hF.2 c_32
          refine lv_iconst (v := 1) hx hb dX4_isSewn_35 (by decide) ?_
          refine lv_goto (tgt := 40) hx hb dX4_isSewn_36 (by decide) ?_
          exact wX4_isSewn_40 C ih M29 x2 (1 : Int32) _ _ _ hF hP hD hS (lv_sub hl [0, 2] rfl)
noncomputable def PX4_isSewn_12 (N : Nat) (K : Int32 → mb_m → Prop) (M : mb_m) (y0 : Int32) : Prop := PX4_isSewn_15 N K N M y0 (0 : Int32)
set_option maxHeartbeats 4000000 in
set_option maxRecDepth 100000 in
theorem wX4_isSewn_12 {p : Program} {l : Launch} {e : Env} {s : State} {m : MethodId} {below : List Frame} {meth : Method} {c : Code} {args : Array Value} {D : va_G} {Y : Nat → ClassId} {A : Nat → Prop} {o : Nat} {a : Nat → Nat} {N : Nat} {K : Int32 → mb_m → Prop} (C : mb_Cx p s m meth c args cX4_isSewn 3 (some .boolean) wsX4_isSewn RX4 D Y A) : ∀ (M : mb_m) (y0 : Int32) (H : Heap) (locs : List Loc) (ls : Array Slot), PX4_isSewn_12 N K  M y0 → va_P D vwCl (gw4 Y o a M) H → va_D A (gw4 Y o a M) → va_S A s.heap H locs → lv_has ls 3 [(0, .ref o)] → W p l e ({ frames := 2, cells := 0, slots := 0, locals := 46 } : Room) s m args below meth c H locs 0 0 (MQ below (va_Qi K (fun u t => mb_T D A (gw4 Y o a u) t) A) args s 0 0 A) (F0 m 12 ls [.int y0]) := by
  obtain ⟨hx, hb, hr, hml, hts, hown, hlocks, hA, hG⟩ := id C
  have hK := hG.1
  intro M y0 H locs ls hF hP hD hS hl
  refine lv_istore_n (lv' := [(1, .int y0), (0, .ref o)]) hx hb dX4_isSewn_12 rfl hl (by decide) rfl (fun ls hl => ?_)
  refine lv_iconst (v := 0) hx hb dX4_isSewn_13 (by decide) ?_
  refine lv_istore_n (lv' := [(2, .int (0 : Int32)), (1, .int y0), (0, .ref o)]) hx hb dX4_isSewn_14 rfl hl (by decide) rfl (fun ls hl => ?_)
  exact wX4_isSewn_15 C N M y0 (0 : Int32) _ _ _ hF hP hD hS (lv_sub hl [2, 1, 0] rfl)
noncomputable def PX4_isSewn (N : Nat) (M : mb_m) (K : Int32 → mb_m → Prop) : Prop := (¬ (M 8 0) = 0 → PX4_isSewn_12 N K M (0 : Int32)) ∧ ((M 8 0) = 0 → PX4_isSewn_12 N K M (1 : Int32))
set_option maxHeartbeats 4000000 in
set_option maxRecDepth 100000 in
theorem cnX4_isSewn (l : Launch) (D : va_G) (Y : Nat → ClassId) (N : Nat) (o : Nat) (a : Nat → Nat) (M : mb_m) (sz : Nat) (K : Int32 → mb_m → Prop) (hF : PX4_isSewn N M K) : Met l yX4_isSewn wsX4_isSewn ({ frames := 2, cells := 0, slots := 0, locals := 46 } : Room) (va_Pc [.ref o] (mb_B D Y (gw4 Y o a M) sz)) (va_Qi K (fun u t => mb_T D (va_A (gw4 Y o a M) sz) (gw4 Y o a u) t) (va_A (gw4 Y o a M) sz)) 0 0 (va_A (gw4 Y o a M) sz) := by
  refine mb_begin (cc := cX4_isSewn) (maxL := 3) (ret := (some .boolean)) (by decide +kernel) rfl (Nat.le_of_ble_eq_true rfl) ?_
  intro p e s m below meth c ls C hsz hnm hP hD hl
  generalize hAe : va_A (gw4 Y o a M) sz = A at C hD ⊢
  have C : mb_Cx p s m meth c ([.ref o] : List Value).toArray cX4_isSewn 3 (some .boolean) wsX4_isSewn RX4 D Y A := C
  obtain ⟨hx, hb, hr, hml, hts, hown, hlocks, hA, hG⟩ := id C
  have hK := hG.1
  have hS : va_S A s.heap s.heap [] := va_S.rf
  have hl : lv_has ls 3 [(0, .ref o)] := hl
  refine lv_aload_n hx hb dX4_isSewn_0 rfl (lv_at hl 0 rfl) ?_
  refine va_get (D := D) (ci := 4) (v := .int (M 8 0)) (C := RX4) (T := TX4) (N := 10) hx hb hts (fun _ h9 => List.mem_cons_of_mem _ (List.mem_append_right _ (h9))) hown hK hP 0 rfl rfl 8 (by decide) (hts (.fieldLink RX4 34 "MarbleBench$Sewing" "isInside" "Z") (List.mem_of_getElem? (i := 1) rfl)) (fun _ h9 => h9) rfl dX4_isSewn_1 ?_
  refine lv_if_ne (tgt := 11) hx hb dX4_isSewn_4 (by decide) (fun c_4 => ?_) (fun c_4 => ?_)
  · have hF := hF.1 c_4
    refine lv_iconst (v := 0) hx hb dX4_isSewn_11 (by decide) ?_
    exact wX4_isSewn_12 C M (0 : Int32) _ _ _ hF hP hD hS (lv_sub hl [0] rfl)
  · have hF := hF.2 c_4
    refine lv_iconst (v := 1) hx hb dX4_isSewn_7 (by decide) ?_
    refine lv_goto (tgt := 12) hx hb dX4_isSewn_8 (by decide) ?_
    exact wX4_isSewn_12 C M (1 : Int32) _ _ _ hF hP hD hS (lv_sub hl [0] rfl)
end
section
noncomputable def PX5_thinnest_17_b (N : Nat) (K : Int32 → mb_m → Prop) (b7 : mb_m → Int32 → Int32 → Int32 → Int32 → Int32 → Prop) (b17 : mb_m → Int32 → Int32 → Int32 → Int32 → Int32 → Int32 → Prop) (M : mb_m) (x1 x2 x4 x5 x6 x7 : Int32) : Prop := (x2 < x7 → ∀ v48 : Int32, v48 = x6 + (1 : Int32) → (b7 M x1 x2 x4 x5 v48)) ∧ (¬ x2 < x7 → PX7_cellOf N x7 x6 (fun r33 _ => vp_in r33 64 ∧ (∀ v40 : Int32, v40 = (if (M 0 r33.toNatClampNeg) < x5 then (M 0 r33.toNatClampNeg) else x5) → (∀ v42 : Int32, v42 = x7 + (1 : Int32) → (b17 M x1 x2 x4 v40 x6 v42)))))
noncomputable def PX5_thinnest_17 (N : Nat) (K : Int32 → mb_m → Prop) (b7 : mb_m → Int32 → Int32 → Int32 → Int32 → Int32 → Prop) (n : Nat) : mb_m → Int32 → Int32 → Int32 → Int32 → Int32 → Int32 → Prop := Nat.rec (motive := fun _ => mb_m → Int32 → Int32 → Int32 → Int32 → Int32 → Int32 → Prop) (fun _ _ _ _ _ _ _ => False) (fun _ b17 => PX5_thinnest_17_b N K b7 b17) n
set_option maxHeartbeats 4000000 in
set_option maxRecDepth 100000 in
theorem wX5_thinnest_17 {p : Program} {l : Launch} {e : Env} {s : State} {m : MethodId} {below : List Frame} {meth : Method} {c : Code} {args : Array Value} {D : va_G} {Y : Nat → ClassId} {A : Nat → Prop} {o : Nat} {a : Nat → Nat} {N : Nat} {K : Int32 → mb_m → Prop} {b7 : mb_m → Int32 → Int32 → Int32 → Int32 → Int32 → Prop} (C : mb_Cx p s m meth c args cX5_thinnest 8 (some .int) wsX5_thinnest RX5 D Y A) (hb7 : ∀ (M : mb_m) (x1 x2 x4 x5 x6 : Int32) (H : Heap) (locs : List Loc) (ls : Array Slot), b7 M x1 x2 x4 x5 x6 → va_P D vwCl (gw5 Y o a M) H → va_D A (gw5 Y o a M) → va_S A s.heap H locs → lv_has ls 8 [(0, .ref o), (1, .int x1), (2, .int x2), (4, .int x4), (5, .int x5), (6, .int x6)] → W p l e ({ frames := 1, cells := 0, slots := 0, locals := 25 } : Room) s m args below meth c H locs 0 0 (MQ below (va_Qi K (fun u t => mb_T D A (gw5 Y o a u) t) A) args s 0 0 A) (F0 m 7 ls [])) : ∀ (n : Nat), (∀ (M : mb_m) (x1 x2 x4 x5 x6 x7 : Int32) (H : Heap) (locs : List Loc) (ls : Array Slot), PX5_thinnest_17 N K b7 n M x1 x2 x4 x5 x6 x7 → va_P D vwCl (gw5 Y o a M) H → va_D A (gw5 Y o a M) → va_S A s.heap H locs → lv_has ls 8 [(0, .ref o), (1, .int x1), (2, .int x2), (4, .int x4), (5, .int x5), (6, .int x6), (7, .int x7)] → W p l e ({ frames := 1, cells := 0, slots := 0, locals := 25 } : Room) s m args below meth c H locs 0 0 (MQ below (va_Qi K (fun u t => mb_T D A (gw5 Y o a u) t) A) args s 0 0 A) (F0 m 17 ls [])) := by
  obtain ⟨hx, hb, hr, hml, hts, hown, hlocks, hA, hG⟩ := id C
  have hK := hG.1
  intro n
  induction n with
  | zero => intro M x1 x2 x4 x5 x6 x7 H locs ls hF; exact (show False from hF).elim
  | succ n ih =>
    intro M x1 x2 x4 x5 x6 x7 H locs ls hF hP hD hS hl
    have hF : PX5_thinnest_17_b N K b7 (PX5_thinnest_17 N K b7 n) M x1 x2 x4 x5 x6 x7 := hF
    refine lv_iload hx hb dX5_thinnest_17 (lv_at hl 6 rfl) ?_
    refine lv_iload_n hx hb dX5_thinnest_19 rfl (lv_at hl 2 rfl) ?_
    refine lv_icmp_gt (tgt := 48) hx hb dX5_thinnest_20 (by decide) (fun c_20 => ?_) (fun c_20 => ?_)
    · have hF := hF.1 c_20
      obtain ⟨v48, ev48⟩ : ∃ y : Int32, y = x6 + (1 : Int32) := ⟨_, rfl⟩
      have hF := hF v48 ev48
      refine lv_iinc (v := v48) (lv' := [(6, .int v48), (0, .ref o), (1, .int x1), (2, .int x2), (4, .int x4), (5, .int x5), (7, .int x7)]) hx hb dX5_thinnest_48 hl (k := 5) rfl (by rw [ev48]; rfl) (by decide) rfl (fun ls hl => ?_)
      refine lv_goto (tgt := 7) hx hb dX5_thinnest_51 (by decide) ?_
      exact hb7 M x1 x2 x4 x5 v48 _ _ _ hF hP hD hS (lv_sub hl [1, 2, 3, 4, 5, 0] rfl)
    · have hF := hF.2 c_20
      refine lv_iload hx hb dX5_thinnest_23 (lv_at hl 4 rfl) ?_
      refine lv_aload_n hx hb dX5_thinnest_25 rfl (lv_at hl 0 rfl) ?_
      refine va_get (D := D) (ci := 5) (v := .ref (a 0)) (C := RX5) (T := TX5) (N := 1) hx hb hts (fun _ h9 => List.mem_cons_of_mem _ (List.mem_append_right _ (h9))) hown hK hP 0 rfl rfl 0 (by decide) (hts (.fieldLink RX5 9 "MarbleBench$Skin" "thicknesses" "[I") (List.mem_of_getElem? (i := 1) rfl)) (fun _ h9 => h9) rfl dX5_thinnest_26 ?_
      refine lv_iload hx hb dX5_thinnest_29 (lv_at hl 6 rfl) ?_
      refine lv_iload hx hb dX5_thinnest_31 (lv_at hl 5 rfl) ?_
      refine mb_cE hP hS hA (va_runSN (As := [.int x7, .int x6]) (rest := [.ref (a 0), .int x5]) ⟨hx, hb, hml, hown, hts⟩ (cnX7_cellOf l D Y N _ x7 x6 _ hF) ⟨va_cnB 2 hts gX5_thinnest_X7_cellOf_n15 rfl rfl rfl (hG.2.1 _ (List.mem_of_getElem? (i := 24) rfl)) (hts (.initialized RX7) (List.mem_of_getElem? (i := 7) rfl)) (by decide +kernel) ⟨Nat.le_of_ble_eq_true rfl, Nat.le_of_ble_eq_true rfl⟩, hts (.static yX7_cellOf) (List.mem_of_getElem? (i := 6) rfl), trivial⟩ (mb_preS (A := A) hG mb_P0 mb_D0) rfl rfl hl.1 rfl (lv_room (Nat.le_of_ble_eq_true rfl)) dX5_thinnest_33 ⟨Nat.le_of_ble_eq_true rfl, Nat.le_of_ble_eq_true rfl⟩) (fun r33 H locs hF hP hS => ?_)
      obtain ⟨hi36, hF⟩ := hF
      refine va_iald hx hb hK hP 1 0 rfl rfl hi36 dX5_thinnest_36 ?_
      refine va_mmin hx hb (hml.trans hl.1.symm) hown (hts (.methodLink RX5 19 Lib.Math.min.name) (List.mem_of_getElem? (i := 2) rfl)) (hts (.static Lib.Math.min.name) (List.mem_of_getElem? (i := 3) rfl)) (hts (.initialized "java/lang/Math") (List.mem_of_getElem? (i := 4) rfl)) (hts (.code Lib.Math.min.name Lib.Math.min.code 2 (some .int)) (List.mem_of_getElem? (i := 5) rfl)) (Nat.le_of_ble_eq_true rfl) (Nat.le_of_ble_eq_true rfl) (Nat.le_of_ble_eq_true rfl) (Nat.le_of_ble_eq_true rfl) dX5_thinnest_37 ?_
      refine lv_topi (fun v40 ev40 => ?_)
      have hF := hF v40 ev40
      refine lv_istore (lv' := [(5, .int v40), (0, .ref o), (1, .int x1), (2, .int x2), (4, .int x4), (6, .int x6), (7, .int x7)]) hx hb dX5_thinnest_40 hl (by decide) rfl (fun ls hl => ?_)
      obtain ⟨v42, ev42⟩ : ∃ y : Int32, y = x7 + (1 : Int32) := ⟨_, rfl⟩
      have hF := hF v42 ev42
      refine lv_iinc (v := v42) (lv' := [(7, .int v42), (5, .int v40), (0, .ref o), (1, .int x1), (2, .int x2), (4, .int x4), (6, .int x6)]) hx hb dX5_thinnest_42 hl (k := 6) rfl (by rw [ev42]; rfl) (by decide) rfl (fun ls hl => ?_)
      refine lv_goto (tgt := 17) hx hb dX5_thinnest_45 (by decide) ?_
      exact ih M x1 x2 x4 v40 x6 v42 _ _ _ hF hP hD hS (lv_sub hl [2, 3, 4, 5, 1, 6, 0] rfl)
noncomputable def PX5_thinnest_7_b (N : Nat) (K : Int32 → mb_m → Prop) (b7 : mb_m → Int32 → Int32 → Int32 → Int32 → Int32 → Prop) (M : mb_m) (x1 x2 x4 x5 x6 : Int32) : Prop := (x4 < x6 → K x5 M) ∧ (¬ x4 < x6 → PX5_thinnest_17 N K b7 N M x1 x2 x4 x5 x6 x1)
noncomputable def PX5_thinnest_7 (N : Nat) (K : Int32 → mb_m → Prop) (n : Nat) : mb_m → Int32 → Int32 → Int32 → Int32 → Int32 → Prop := Nat.rec (motive := fun _ => mb_m → Int32 → Int32 → Int32 → Int32 → Int32 → Prop) (fun _ _ _ _ _ _ => False) (fun _ b7 => PX5_thinnest_7_b N K  b7) n
set_option maxHeartbeats 4000000 in
set_option maxRecDepth 100000 in
theorem wX5_thinnest_7 {p : Program} {l : Launch} {e : Env} {s : State} {m : MethodId} {below : List Frame} {meth : Method} {c : Code} {args : Array Value} {D : va_G} {Y : Nat → ClassId} {A : Nat → Prop} {o : Nat} {a : Nat → Nat} {N : Nat} {K : Int32 → mb_m → Prop} (C : mb_Cx p s m meth c args cX5_thinnest 8 (some .int) wsX5_thinnest RX5 D Y A) : ∀ (n : Nat), (∀ (M : mb_m) (x1 x2 x4 x5 x6 : Int32) (H : Heap) (locs : List Loc) (ls : Array Slot), PX5_thinnest_7 N K  n M x1 x2 x4 x5 x6 → va_P D vwCl (gw5 Y o a M) H → va_D A (gw5 Y o a M) → va_S A s.heap H locs → lv_has ls 8 [(0, .ref o), (1, .int x1), (2, .int x2), (4, .int x4), (5, .int x5), (6, .int x6)] → W p l e ({ frames := 1, cells := 0, slots := 0, locals := 25 } : Room) s m args below meth c H locs 0 0 (MQ below (va_Qi K (fun u t => mb_T D A (gw5 Y o a u) t) A) args s 0 0 A) (F0 m 7 ls [])) := by
  obtain ⟨hx, hb, hr, hml, hts, hown, hlocks, hA, hG⟩ := id C
  have hK := hG.1
  intro n
  induction n with
  | zero => intro M x1 x2 x4 x5 x6 H locs ls hF; exact (show False from hF).elim
  | succ n ih =>
    intro M x1 x2 x4 x5 x6 H locs ls hF hP hD hS hl
    have hF : PX5_thinnest_7_b N K  (PX5_thinnest_7 N K  n) M x1 x2 x4 x5 x6 := hF
    refine lv_iload hx hb dX5_thinnest_7 (lv_at hl 5 rfl) ?_
    refine lv_iload hx hb dX5_thinnest_9 (lv_at hl 3 rfl) ?_
    refine lv_icmp_gt (tgt := 54) hx hb dX5_thinnest_11 (by decide) (fun c_11 => ?_) (fun c_11 => ?_)
    · have hF := hF.1 c_11
      refine lv_iload hx hb dX5_thinnest_54 (lv_at hl 4 rfl) ?_
      exact mb_ri (S := mb_m) (mc := 0) (ms := 0) (wf := fun u => gw5 Y o a u) C rfl (u := M) hF hP hD hS dX5_thinnest_56 (Nat.le_of_ble_eq_true rfl) (Nat.le_of_ble_eq_true rfl)
    · have hF := hF.2 c_11
      refine lv_iload_n hx hb dX5_thinnest_14 rfl (lv_at hl 1 rfl) ?_
      refine lv_istore (lv' := [(7, .int x1), (0, .ref o), (1, .int x1), (2, .int x2), (4, .int x4), (5, .int x5), (6, .int x6)]) hx hb dX5_thinnest_15 hl (by decide) rfl (fun ls hl => ?_)
      exact wX5_thinnest_17 C ih N M x1 x2 x4 x5 x6 x1 _ _ _ hF hP hD hS (lv_sub hl [1, 2, 3, 4, 5, 6, 0] rfl)
noncomputable def PX5_thinnest (N : Nat) (M : mb_m) (x1 x2 x3 x4 : Int32) (K : Int32 → mb_m → Prop) : Prop := PX5_thinnest_7 N K N M x1 x2 x4 (30 : Int32) x3
set_option maxHeartbeats 4000000 in
set_option maxRecDepth 100000 in
theorem cnX5_thinnest (l : Launch) (D : va_G) (Y : Nat → ClassId) (N : Nat) (o : Nat) (a : Nat → Nat) (M : mb_m) (sz : Nat) (x1 x2 x3 x4 : Int32) (K : Int32 → mb_m → Prop) (hF : PX5_thinnest N M x1 x2 x3 x4 K) : Met l yX5_thinnest wsX5_thinnest ({ frames := 1, cells := 0, slots := 0, locals := 25 } : Room) (va_Pc [.ref o, .int x1, .int x2, .int x3, .int x4] (mb_B D Y (gw5 Y o a M) sz)) (va_Qi K (fun u t => mb_T D (va_A (gw5 Y o a M) sz) (gw5 Y o a u) t) (va_A (gw5 Y o a M) sz)) 0 0 (va_A (gw5 Y o a M) sz) := by
  refine mb_begin (cc := cX5_thinnest) (maxL := 8) (ret := (some .int)) (by decide +kernel) rfl (Nat.le_of_ble_eq_true rfl) ?_
  intro p e s m below meth c ls C hsz hnm hP hD hl
  generalize hAe : va_A (gw5 Y o a M) sz = A at C hD ⊢
  have C : mb_Cx p s m meth c ([.ref o, .int x1, .int x2, .int x3, .int x4] : List Value).toArray cX5_thinnest 8 (some .int) wsX5_thinnest RX5 D Y A := C
  obtain ⟨hx, hb, hr, hml, hts, hown, hlocks, hA, hG⟩ := id C
  have hK := hG.1
  have hS : va_S A s.heap s.heap [] := va_S.rf
  have hl : lv_has ls 8 [(0, .ref o), (1, .int x1), (2, .int x2), (3, .int x3), (4, .int x4)] := hl
  refine lv_bipush (v := 30) hx hb dX5_thinnest_0 (by decide) ?_
  refine lv_istore (lv' := [(5, .int (30 : Int32)), (0, .ref o), (1, .int x1), (2, .int x2), (3, .int x3), (4, .int x4)]) hx hb dX5_thinnest_2 hl (by decide) rfl (fun ls hl => ?_)
  refine lv_iload_n hx hb dX5_thinnest_4 rfl (lv_at hl 4 rfl) ?_
  refine lv_istore (lv' := [(6, .int x3), (5, .int (30 : Int32)), (0, .ref o), (1, .int x1), (2, .int x2), (3, .int x3), (4, .int x4)]) hx hb dX5_thinnest_5 hl (by decide) rfl (fun ls hl => ?_)
  exact wX5_thinnest_7 C N M x1 x2 x4 (30 : Int32) x3 _ _ _ hF hP hD hS (lv_sub hl [2, 3, 4, 6, 1, 0] rfl)
end
section
noncomputable def PX5_thin_13_b (N : Nat) (K : mb_m → Prop) (b3 : mb_m → Int32 → Int32 → Int32 → Int32 → Int32 → Prop) (b13 : mb_m → Int32 → Int32 → Int32 → Int32 → Int32 → Int32 → Prop) (M : mb_m) (x1 x2 x4 x5 x6 x7 : Int32) : Prop := (x2 < x7 → ∀ v42 : Int32, v42 = x6 + (1 : Int32) → (b3 M x1 x2 x4 x5 v42)) ∧ (¬ x2 < x7 → PX7_cellOf N x7 x6 (fun r27 _ => vp_in r27 64 ∧ (∀ v35 : Int32, v35 = ((M 0 r27.toNatClampNeg) - x5) → (vp_in r27 64 ∧ (∀ M35 : mb_m, M35 = mb_u M 0 (upd (M 0) r27.toNatClampNeg v35) → (∀ v36 : Int32, v36 = x7 + (1 : Int32) → (b13 M35 x1 x2 x4 x5 x6 v36)))))))
noncomputable def PX5_thin_13 (N : Nat) (K : mb_m → Prop) (b3 : mb_m → Int32 → Int32 → Int32 → Int32 → Int32 → Prop) (n : Nat) : mb_m → Int32 → Int32 → Int32 → Int32 → Int32 → Int32 → Prop := Nat.rec (motive := fun _ => mb_m → Int32 → Int32 → Int32 → Int32 → Int32 → Int32 → Prop) (fun _ _ _ _ _ _ _ => False) (fun _ b13 => PX5_thin_13_b N K b3 b13) n
set_option maxHeartbeats 4000000 in
set_option maxRecDepth 100000 in
theorem wX5_thin_13 {p : Program} {l : Launch} {e : Env} {s : State} {m : MethodId} {below : List Frame} {meth : Method} {c : Code} {args : Array Value} {D : va_G} {Y : Nat → ClassId} {A : Nat → Prop} {o : Nat} {a : Nat → Nat} {N : Nat} {K : mb_m → Prop} {b3 : mb_m → Int32 → Int32 → Int32 → Int32 → Int32 → Prop} (C : mb_Cx p s m meth c args cX5_thin 8 none wsX5_thin RX5 D Y A) (hb3 : ∀ (M : mb_m) (x1 x2 x4 x5 x6 : Int32) (H : Heap) (locs : List Loc) (ls : Array Slot), b3 M x1 x2 x4 x5 x6 → va_P D vwCl (gw5 Y o a M) H → va_D A (gw5 Y o a M) → va_S A s.heap H locs → lv_has ls 8 [(0, .ref o), (1, .int x1), (2, .int x2), (4, .int x4), (5, .int x5), (6, .int x6)] → W p l e ({ frames := 1, cells := 0, slots := 0, locals := 21 } : Room) s m args below meth c H locs 0 0 (MQ below (va_Qv K (fun u t => mb_T D A (gw5 Y o a u) t) A) args s 0 0 A) (F0 m 3 ls [])) : ∀ (n : Nat), (∀ (M : mb_m) (x1 x2 x4 x5 x6 x7 : Int32) (H : Heap) (locs : List Loc) (ls : Array Slot), PX5_thin_13 N K b3 n M x1 x2 x4 x5 x6 x7 → va_P D vwCl (gw5 Y o a M) H → va_D A (gw5 Y o a M) → va_S A s.heap H locs → lv_has ls 8 [(0, .ref o), (1, .int x1), (2, .int x2), (4, .int x4), (5, .int x5), (6, .int x6), (7, .int x7)] → W p l e ({ frames := 1, cells := 0, slots := 0, locals := 21 } : Room) s m args below meth c H locs 0 0 (MQ below (va_Qv K (fun u t => mb_T D A (gw5 Y o a u) t) A) args s 0 0 A) (F0 m 13 ls [])) := by
  obtain ⟨hx, hb, hr, hml, hts, hown, hlocks, hA, hG⟩ := id C
  have hK := hG.1
  intro n
  induction n with
  | zero => intro M x1 x2 x4 x5 x6 x7 H locs ls hF; exact (show False from hF).elim
  | succ n ih =>
    intro M x1 x2 x4 x5 x6 x7 H locs ls hF hP hD hS hl
    have hF : PX5_thin_13_b N K b3 (PX5_thin_13 N K b3 n) M x1 x2 x4 x5 x6 x7 := hF
    refine lv_iload hx hb dX5_thin_13 (lv_at hl 6 rfl) ?_
    refine lv_iload_n hx hb dX5_thin_15 rfl (lv_at hl 2 rfl) ?_
    refine lv_icmp_gt (tgt := 42) hx hb dX5_thin_16 (by decide) (fun c_16 => ?_) (fun c_16 => ?_)
    · have hF := hF.1 c_16
      obtain ⟨v42, ev42⟩ : ∃ y : Int32, y = x6 + (1 : Int32) := ⟨_, rfl⟩
      have hF := hF v42 ev42
      refine lv_iinc (v := v42) (lv' := [(6, .int v42), (0, .ref o), (1, .int x1), (2, .int x2), (4, .int x4), (5, .int x5), (7, .int x7)]) hx hb dX5_thin_42 hl (k := 5) rfl (by rw [ev42]; rfl) (by decide) rfl (fun ls hl => ?_)
      refine lv_goto (tgt := 3) hx hb dX5_thin_45 (by decide) ?_
      exact hb3 M x1 x2 x4 x5 v42 _ _ _ hF hP hD hS (lv_sub hl [1, 2, 3, 4, 5, 0] rfl)
    · have hF := hF.2 c_16
      refine lv_aload_n hx hb dX5_thin_19 rfl (lv_at hl 0 rfl) ?_
      refine va_get (D := D) (ci := 5) (v := .ref (a 0)) (C := RX5) (T := TX5) (N := 1) hx hb hts (fun _ h9 => List.mem_cons_of_mem _ (List.mem_append_right _ (h9))) hown hK hP 0 rfl rfl 0 (by decide) (hts (.fieldLink RX5 9 "MarbleBench$Skin" "thicknesses" "[I") (List.mem_of_getElem? (i := 1) rfl)) (fun _ h9 => h9) rfl dX5_thin_20 ?_
      refine lv_iload hx hb dX5_thin_23 (lv_at hl 6 rfl) ?_
      refine lv_iload hx hb dX5_thin_25 (lv_at hl 5 rfl) ?_
      refine mb_cE hP hS hA (va_runSN (As := [.int x7, .int x6]) (rest := [.ref (a 0)]) ⟨hx, hb, hml, hown, hts⟩ (cnX7_cellOf l D Y N _ x7 x6 _ hF) ⟨va_cnB 2 hts gX5_thin_X7_cellOf_n15 rfl rfl rfl (hG.2.1 _ (List.mem_of_getElem? (i := 24) rfl)) (hts (.initialized RX7) (List.mem_of_getElem? (i := 3) rfl)) (by decide +kernel) ⟨Nat.le_of_ble_eq_true rfl, Nat.le_of_ble_eq_true rfl⟩, hts (.static yX7_cellOf) (List.mem_of_getElem? (i := 2) rfl), trivial⟩ (mb_preS (A := A) hG mb_P0 mb_D0) rfl rfl hl.1 rfl (lv_room (Nat.le_of_ble_eq_true rfl)) dX5_thin_27 ⟨Nat.le_of_ble_eq_true rfl, Nat.le_of_ble_eq_true rfl⟩) (fun r27 H locs hF hP hS => ?_)
      refine lv_dup2_11 hx hb dX5_thin_30 rfl rfl ?_
      obtain ⟨hi31, hF⟩ := hF
      refine va_iald hx hb hK hP 1 0 rfl rfl hi31 dX5_thin_31 ?_
      refine lv_iload hx hb dX5_thin_32 (lv_at hl 4 rfl) ?_
      refine lv_isub hx hb dX5_thin_34 ?_
      refine lv_topi (fun v35 ev35 => ?_)
      have hF := hF v35 ev35
      obtain ⟨hi35, hF⟩ := hF
      refine va_iast hx hb hK hP hD hS 1 0 rfl rfl hi35 dX5_thin_35 (fun H locs hP hD hS => ?_)
      obtain ⟨M35, eM35⟩ : ∃ y : mb_m, y = mb_u M 0 (upd (M 0) r27.toNatClampNeg v35) := ⟨_, rfl⟩
      have hF := hF M35 eM35
      have hP : va_P D vwCl (gw5 Y o a (mb_u M 0 (upd (M 0) r27.toNatClampNeg v35))) H := hP
      have hD : va_D A (gw5 Y o a (mb_u M 0 (upd (M 0) r27.toNatClampNeg v35))) := hD
      rw [← eM35] at hP hD
      obtain ⟨v36, ev36⟩ : ∃ y : Int32, y = x7 + (1 : Int32) := ⟨_, rfl⟩
      have hF := hF v36 ev36
      refine lv_iinc (v := v36) (lv' := [(7, .int v36), (0, .ref o), (1, .int x1), (2, .int x2), (4, .int x4), (5, .int x5), (6, .int x6)]) hx hb dX5_thin_36 hl (k := 6) rfl (by rw [ev36]; rfl) (by decide) rfl (fun ls hl => ?_)
      refine lv_goto (tgt := 13) hx hb dX5_thin_39 (by decide) ?_
      exact ih M35 x1 x2 x4 x5 x6 v36 _ _ _ hF hP hD hS (lv_sub hl [1, 2, 3, 4, 5, 6, 0] rfl)
noncomputable def PX5_thin_3_b (N : Nat) (K : mb_m → Prop) (b3 : mb_m → Int32 → Int32 → Int32 → Int32 → Int32 → Prop) (M : mb_m) (x1 x2 x4 x5 x6 : Int32) : Prop := (x4 < x6 → K M) ∧ (¬ x4 < x6 → PX5_thin_13 N K b3 N M x1 x2 x4 x5 x6 x1)
noncomputable def PX5_thin_3 (N : Nat) (K : mb_m → Prop) (n : Nat) : mb_m → Int32 → Int32 → Int32 → Int32 → Int32 → Prop := Nat.rec (motive := fun _ => mb_m → Int32 → Int32 → Int32 → Int32 → Int32 → Prop) (fun _ _ _ _ _ _ => False) (fun _ b3 => PX5_thin_3_b N K  b3) n
set_option maxHeartbeats 4000000 in
set_option maxRecDepth 100000 in
theorem wX5_thin_3 {p : Program} {l : Launch} {e : Env} {s : State} {m : MethodId} {below : List Frame} {meth : Method} {c : Code} {args : Array Value} {D : va_G} {Y : Nat → ClassId} {A : Nat → Prop} {o : Nat} {a : Nat → Nat} {N : Nat} {K : mb_m → Prop} (C : mb_Cx p s m meth c args cX5_thin 8 none wsX5_thin RX5 D Y A) : ∀ (n : Nat), (∀ (M : mb_m) (x1 x2 x4 x5 x6 : Int32) (H : Heap) (locs : List Loc) (ls : Array Slot), PX5_thin_3 N K  n M x1 x2 x4 x5 x6 → va_P D vwCl (gw5 Y o a M) H → va_D A (gw5 Y o a M) → va_S A s.heap H locs → lv_has ls 8 [(0, .ref o), (1, .int x1), (2, .int x2), (4, .int x4), (5, .int x5), (6, .int x6)] → W p l e ({ frames := 1, cells := 0, slots := 0, locals := 21 } : Room) s m args below meth c H locs 0 0 (MQ below (va_Qv K (fun u t => mb_T D A (gw5 Y o a u) t) A) args s 0 0 A) (F0 m 3 ls [])) := by
  obtain ⟨hx, hb, hr, hml, hts, hown, hlocks, hA, hG⟩ := id C
  have hK := hG.1
  intro n
  induction n with
  | zero => intro M x1 x2 x4 x5 x6 H locs ls hF; exact (show False from hF).elim
  | succ n ih =>
    intro M x1 x2 x4 x5 x6 H locs ls hF hP hD hS hl
    have hF : PX5_thin_3_b N K  (PX5_thin_3 N K  n) M x1 x2 x4 x5 x6 := hF
    refine lv_iload hx hb dX5_thin_3 (lv_at hl 5 rfl) ?_
    refine lv_iload hx hb dX5_thin_5 (lv_at hl 3 rfl) ?_
    refine lv_icmp_gt (tgt := 48) hx hb dX5_thin_7 (by decide) (fun c_7 => ?_) (fun c_7 => ?_)
    · have hF := hF.1 c_7
      exact mb_rv (S := mb_m) (mc := 0) (ms := 0) (wf := fun u => gw5 Y o a u) C (u := M) hF hP hD hS dX5_thin_48 (Nat.le_of_ble_eq_true rfl) (Nat.le_of_ble_eq_true rfl)
    · have hF := hF.2 c_7
      refine lv_iload_n hx hb dX5_thin_10 rfl (lv_at hl 1 rfl) ?_
      refine lv_istore (lv' := [(7, .int x1), (0, .ref o), (1, .int x1), (2, .int x2), (4, .int x4), (5, .int x5), (6, .int x6)]) hx hb dX5_thin_11 hl (by decide) rfl (fun ls hl => ?_)
      exact wX5_thin_13 C ih N M x1 x2 x4 x5 x6 x1 _ _ _ hF hP hD hS (lv_sub hl [1, 2, 3, 4, 5, 6, 0] rfl)
noncomputable def PX5_thin (N : Nat) (M : mb_m) (x1 x2 x3 x4 x5 : Int32) (K : mb_m → Prop) : Prop := PX5_thin_3 N K N M x1 x2 x4 x5 x3
set_option maxHeartbeats 4000000 in
set_option maxRecDepth 100000 in
theorem cnX5_thin (l : Launch) (D : va_G) (Y : Nat → ClassId) (N : Nat) (o : Nat) (a : Nat → Nat) (M : mb_m) (sz : Nat) (x1 x2 x3 x4 x5 : Int32) (K : mb_m → Prop) (hF : PX5_thin N M x1 x2 x3 x4 x5 K) : Met l yX5_thin wsX5_thin ({ frames := 1, cells := 0, slots := 0, locals := 21 } : Room) (va_Pc [.ref o, .int x1, .int x2, .int x3, .int x4, .int x5] (mb_B D Y (gw5 Y o a M) sz)) (va_Qv K (fun u t => mb_T D (va_A (gw5 Y o a M) sz) (gw5 Y o a u) t) (va_A (gw5 Y o a M) sz)) 0 0 (va_A (gw5 Y o a M) sz) := by
  refine mb_begin (cc := cX5_thin) (maxL := 8) (ret := none) (by decide +kernel) rfl (Nat.le_of_ble_eq_true rfl) ?_
  intro p e s m below meth c ls C hsz hnm hP hD hl
  generalize hAe : va_A (gw5 Y o a M) sz = A at C hD ⊢
  have C : mb_Cx p s m meth c ([.ref o, .int x1, .int x2, .int x3, .int x4, .int x5] : List Value).toArray cX5_thin 8 none wsX5_thin RX5 D Y A := C
  obtain ⟨hx, hb, hr, hml, hts, hown, hlocks, hA, hG⟩ := id C
  have hK := hG.1
  have hS : va_S A s.heap s.heap [] := va_S.rf
  have hl : lv_has ls 8 [(0, .ref o), (1, .int x1), (2, .int x2), (3, .int x3), (4, .int x4), (5, .int x5)] := hl
  refine lv_iload_n hx hb dX5_thin_0 rfl (lv_at hl 3 rfl) ?_
  refine lv_istore (lv' := [(6, .int x3), (0, .ref o), (1, .int x1), (2, .int x2), (3, .int x3), (4, .int x4), (5, .int x5)]) hx hb dX5_thin_1 hl (by decide) rfl (fun ls hl => ?_)
  exact wX5_thin_3 C N M x1 x2 x4 x5 x3 _ _ _ hF hP hD hS (lv_sub hl [1, 2, 3, 5, 6, 0] rfl)
end
section
noncomputable def PX5_placesTooThick_42 (N : Nat) (K : Int32 → mb_m → Prop) (b4 : mb_m → Int32 → Int32 → Prop) (b12 : mb_m → Int32 → Int32 → Int32 → Prop) (M : mb_m) (x2 x3 y0 y1 : Int32) : Prop := ∀ v43 : Int32, v43 = (y1 + y0) → (∀ v44 : Int32, v44 = x3 + (1 : Int32) → (b12 M v43 x2 v44))
set_option maxHeartbeats 4000000 in
set_option maxRecDepth 100000 in
theorem wX5_placesTooThick_42 {p : Program} {l : Launch} {e : Env} {s : State} {m : MethodId} {below : List Frame} {meth : Method} {c : Code} {args : Array Value} {D : va_G} {Y : Nat → ClassId} {A : Nat → Prop} {o : Nat} {a : Nat → Nat} {N : Nat} {K : Int32 → mb_m → Prop} {b4 : mb_m → Int32 → Int32 → Prop} {b12 : mb_m → Int32 → Int32 → Int32 → Prop} (C : mb_Cx p s m meth c args cX5_placesTooThick 4 (some .int) wsX5_placesTooThick RX5 D Y A) (hb4 : ∀ (M : mb_m) (x1 x2 : Int32) (H : Heap) (locs : List Loc) (ls : Array Slot), b4 M x1 x2 → va_P D vwCl (gw5 Y o a M) H → va_D A (gw5 Y o a M) → va_S A s.heap H locs → lv_has ls 4 [(0, .ref o), (1, .int x1), (2, .int x2)] → W p l e ({ frames := 2, cells := 0, slots := 0, locals := 44 } : Room) s m args below meth c H locs 0 0 (MQ below (va_Qi K (fun u t => mb_T D A (gw5 Y o a u) t) A) args s 0 0 A) (F0 m 4 ls [])) (hb12 : ∀ (M : mb_m) (x1 x2 x3 : Int32) (H : Heap) (locs : List Loc) (ls : Array Slot), b12 M x1 x2 x3 → va_P D vwCl (gw5 Y o a M) H → va_D A (gw5 Y o a M) → va_S A s.heap H locs → lv_has ls 4 [(0, .ref o), (1, .int x1), (2, .int x2), (3, .int x3)] → W p l e ({ frames := 2, cells := 0, slots := 0, locals := 44 } : Room) s m args below meth c H locs 0 0 (MQ below (va_Qi K (fun u t => mb_T D A (gw5 Y o a u) t) A) args s 0 0 A) (F0 m 12 ls [])) : ∀ (M : mb_m) (x2 x3 y0 y1 : Int32) (H : Heap) (locs : List Loc) (ls : Array Slot), PX5_placesTooThick_42 N K b4 b12 M x2 x3 y0 y1 → va_P D vwCl (gw5 Y o a M) H → va_D A (gw5 Y o a M) → va_S A s.heap H locs → lv_has ls 4 [(0, .ref o), (2, .int x2), (3, .int x3)] → W p l e ({ frames := 2, cells := 0, slots := 0, locals := 44 } : Room) s m args below meth c H locs 0 0 (MQ below (va_Qi K (fun u t => mb_T D A (gw5 Y o a u) t) A) args s 0 0 A) (F0 m 42 ls [.int y0, .int y1]) := by
  obtain ⟨hx, hb, hr, hml, hts, hown, hlocks, hA, hG⟩ := id C
  have hK := hG.1
  intro M x2 x3 y0 y1 H locs ls hF hP hD hS hl
  refine lv_iadd hx hb dX5_placesTooThick_42 ?_
  refine lv_topi (fun v43 ev43 => ?_)
  have hF := hF v43 ev43
  refine lv_istore_n (lv' := [(1, .int v43), (0, .ref o), (2, .int x2), (3, .int x3)]) hx hb dX5_placesTooThick_43 rfl hl (by decide) rfl (fun ls hl => ?_)
  obtain ⟨v44, ev44⟩ : ∃ y : Int32, y = x3 + (1 : Int32) := ⟨_, rfl⟩
  have hF := hF v44 ev44
  refine lv_iinc (v := v44) (lv' := [(3, .int v44), (1, .int v43), (0, .ref o), (2, .int x2)]) hx hb dX5_placesTooThick_44 hl (k := 3) rfl (by rw [ev44]; rfl) (by decide) rfl (fun ls hl => ?_)
  refine lv_goto (tgt := 12) hx hb dX5_placesTooThick_47 (by decide) ?_
  exact hb12 M v43 x2 v44 _ _ _ hF hP hD hS (lv_sub hl [2, 1, 3, 0] rfl)
noncomputable def PX5_placesTooThick_12_b (N : Nat) (K : Int32 → mb_m → Prop) (b4 : mb_m → Int32 → Int32 → Prop) (b12 : mb_m → Int32 → Int32 → Int32 → Prop) (M : mb_m) (x1 x2 x3 : Int32) : Prop := ((8 : Int32) ≤ x3 → ∀ v50 : Int32, v50 = x2 + (1 : Int32) → (b4 M x1 v50)) ∧ (¬ (8 : Int32) ≤ x3 → PX7_cellOf N x3 x2 (fun r25 _ => vp_in r25 64 ∧ (PX5_mostAt N x3 x2 (fun r31 _ => ((M 0 r25.toNatClampNeg) ≤ r31 → PX5_placesTooThick_42 N K b4 b12 M x2 x3 (0 : Int32) x1) ∧ (¬ (M 0 r25.toNatClampNeg) ≤ r31 → PX5_placesTooThick_42 N K b4 b12 M x2 x3 (1 : Int32) x1)))))
noncomputable def PX5_placesTooThick_12 (N : Nat) (K : Int32 → mb_m → Prop) (b4 : mb_m → Int32 → Int32 → Prop) (n : Nat) : mb_m → Int32 → Int32 → Int32 → Prop := Nat.rec (motive := fun _ => mb_m → Int32 → Int32 → Int32 → Prop) (fun _ _ _ _ => False) (fun _ b12 => PX5_placesTooThick_12_b N K b4 b12) n
set_option maxHeartbeats 4000000 in
set_option maxRecDepth 100000 in
theorem wX5_placesTooThick_12 {p : Program} {l : Launch} {e : Env} {s : State} {m : MethodId} {below : List Frame} {meth : Method} {c : Code} {args : Array Value} {D : va_G} {Y : Nat → ClassId} {A : Nat → Prop} {o : Nat} {a : Nat → Nat} {N : Nat} {K : Int32 → mb_m → Prop} {b4 : mb_m → Int32 → Int32 → Prop} (C : mb_Cx p s m meth c args cX5_placesTooThick 4 (some .int) wsX5_placesTooThick RX5 D Y A) (hb4 : ∀ (M : mb_m) (x1 x2 : Int32) (H : Heap) (locs : List Loc) (ls : Array Slot), b4 M x1 x2 → va_P D vwCl (gw5 Y o a M) H → va_D A (gw5 Y o a M) → va_S A s.heap H locs → lv_has ls 4 [(0, .ref o), (1, .int x1), (2, .int x2)] → W p l e ({ frames := 2, cells := 0, slots := 0, locals := 44 } : Room) s m args below meth c H locs 0 0 (MQ below (va_Qi K (fun u t => mb_T D A (gw5 Y o a u) t) A) args s 0 0 A) (F0 m 4 ls [])) : ∀ (n : Nat), (∀ (M : mb_m) (x1 x2 x3 : Int32) (H : Heap) (locs : List Loc) (ls : Array Slot), PX5_placesTooThick_12 N K b4 n M x1 x2 x3 → va_P D vwCl (gw5 Y o a M) H → va_D A (gw5 Y o a M) → va_S A s.heap H locs → lv_has ls 4 [(0, .ref o), (1, .int x1), (2, .int x2), (3, .int x3)] → W p l e ({ frames := 2, cells := 0, slots := 0, locals := 44 } : Room) s m args below meth c H locs 0 0 (MQ below (va_Qi K (fun u t => mb_T D A (gw5 Y o a u) t) A) args s 0 0 A) (F0 m 12 ls [])) := by
  obtain ⟨hx, hb, hr, hml, hts, hown, hlocks, hA, hG⟩ := id C
  have hK := hG.1
  intro n
  induction n with
  | zero => intro M x1 x2 x3 H locs ls hF; exact (show False from hF).elim
  | succ n ih =>
    intro M x1 x2 x3 H locs ls hF hP hD hS hl
    have hF : PX5_placesTooThick_12_b N K b4 (PX5_placesTooThick_12 N K b4 n) M x1 x2 x3 := hF
    refine lv_iload_n hx hb dX5_placesTooThick_12 rfl (lv_at hl 3 rfl) ?_
    refine lv_bipush (v := 8) hx hb dX5_placesTooThick_13 (by decide) ?_
    refine lv_icmp_ge (tgt := 50) hx hb dX5_placesTooThick_15 (by decide) (fun c_15 => ?_) (fun c_15 => ?_)
    · have hF := hF.1 c_15
      obtain ⟨v50, ev50⟩ : ∃ y : Int32, y = x2 + (1 : Int32) := ⟨_, rfl⟩
      have hF := hF v50 ev50
      refine lv_iinc (v := v50) (lv' := [(2, .int v50), (0, .ref o), (1, .int x1), (3, .int x3)]) hx hb dX5_placesTooThick_50 hl (k := 2) rfl (by rw [ev50]; rfl) (by decide) rfl (fun ls hl => ?_)
      refine lv_goto (tgt := 4) hx hb dX5_placesTooThick_53 (by decide) ?_
      exact hb4 M x1 v50 _ _ _ hF hP hD hS (lv_sub hl [1, 2, 0] rfl)
    · have hF := hF.2 c_15
      refine lv_iload_n hx hb dX5_placesTooThick_18 rfl (lv_at hl 1 rfl) ?_
      refine lv_aload_n hx hb dX5_placesTooThick_19 rfl (lv_at hl 0 rfl) ?_
      refine va_get (D := D) (ci := 5) (v := .ref (a 0)) (C := RX5) (T := TX5) (N := 1) hx hb hts (fun _ h9 => List.mem_cons_of_mem _ (List.mem_append_right _ (h9))) hown hK hP 0 rfl rfl 0 (by decide) (hts (.fieldLink RX5 9 "MarbleBench$Skin" "thicknesses" "[I") (List.mem_of_getElem? (i := 1) rfl)) (fun _ h9 => h9) rfl dX5_placesTooThick_20 ?_
      refine lv_iload_n hx hb dX5_placesTooThick_23 rfl (lv_at hl 3 rfl) ?_
      refine lv_iload_n hx hb dX5_placesTooThick_24 rfl (lv_at hl 2 rfl) ?_
      refine mb_cE hP hS hA (va_runSN (As := [.int x3, .int x2]) (rest := [.ref (a 0), .int x1]) ⟨hx, hb, hml, hown, hts⟩ (cnX7_cellOf l D Y N _ x3 x2 _ hF) ⟨va_cnB 2 hts gX5_placesTooThick_X7_cellOf_n15 rfl rfl rfl (hG.2.1 _ (List.mem_of_getElem? (i := 24) rfl)) (hts (.initialized RX7) (List.mem_of_getElem? (i := 3) rfl)) (by decide +kernel) ⟨Nat.le_of_ble_eq_true rfl, Nat.le_of_ble_eq_true rfl⟩, hts (.static yX7_cellOf) (List.mem_of_getElem? (i := 2) rfl), trivial⟩ (mb_preS (A := A) hG mb_P0 mb_D0) rfl rfl hl.1 rfl (lv_room (Nat.le_of_ble_eq_true rfl)) dX5_placesTooThick_25 ⟨Nat.le_of_ble_eq_true rfl, Nat.le_of_ble_eq_true rfl⟩) (fun r25 H locs hF hP hS => ?_)
      obtain ⟨hi28, hF⟩ := hF
      refine va_iald hx hb hK hP 1 0 rfl rfl hi28 dX5_placesTooThick_28 ?_
      refine lv_iload_n hx hb dX5_placesTooThick_29 rfl (lv_at hl 3 rfl) ?_
      refine lv_iload_n hx hb dX5_placesTooThick_30 rfl (lv_at hl 2 rfl) ?_
      refine mb_cE hP hS hA (va_runS (As := [.int x3, .int x2]) (rest := [.int (M 0 r25.toNatClampNeg), .int x1]) ⟨hx, hb, hml, hown, hts⟩ (cnX5_mostAt l D Y N _ x3 x2 _ hF) (va_cwS 2 hts gX5_placesTooThick_X5_mostAt rfl rfl rfl (by decide +kernel) ⟨Nat.le_of_ble_eq_true rfl, Nat.le_of_ble_eq_true rfl⟩) (mb_preS (A := A) hG mb_P0 mb_D0) rfl rfl hl.1 rfl (lv_room (Nat.le_of_ble_eq_true rfl)) dX5_placesTooThick_31 ⟨Nat.le_of_ble_eq_true rfl, Nat.le_of_ble_eq_true rfl⟩) (fun r31 H locs hF hP hS => ?_)
      refine lv_icmp_le (tgt := 41) hx hb dX5_placesTooThick_34 (by decide) (fun c_34 => ?_) (fun c_34 => ?_)
      · have hF := hF.1 c_34
        refine lv_iconst (v := 0) hx hb dX5_placesTooThick_41 (by decide) ?_
        exact wX5_placesTooThick_42 C hb4 ih M x2 x3 (0 : Int32) x1 _ _ _ hF hP hD hS (lv_sub hl [0, 2, 3] rfl)
      · have hF := hF.2 c_34
        refine lv_iconst (v := 1) hx hb dX5_placesTooThick_37 (by decide) ?_
        refine lv_goto (tgt := 42) hx hb dX5_placesTooThick_38 (by decide) ?_
        exact wX5_placesTooThick_42 C hb4 ih M x2 x3 (1 : Int32) x1 _ _ _ hF hP hD hS (lv_sub hl [0, 2, 3] rfl)
noncomputable def PX5_placesTooThick_4_b (N : Nat) (K : Int32 → mb_m → Prop) (b4 : mb_m → Int32 → Int32 → Prop) (M : mb_m) (x1 x2 : Int32) : Prop := ((8 : Int32) ≤ x2 → K x1 M) ∧ (¬ (8 : Int32) ≤ x2 → PX5_placesTooThick_12 N K b4 N M x1 x2 (0 : Int32))
noncomputable def PX5_placesTooThick_4 (N : Nat) (K : Int32 → mb_m → Prop) (n : Nat) : mb_m → Int32 → Int32 → Prop := Nat.rec (motive := fun _ => mb_m → Int32 → Int32 → Prop) (fun _ _ _ => False) (fun _ b4 => PX5_placesTooThick_4_b N K  b4) n
set_option maxHeartbeats 4000000 in
set_option maxRecDepth 100000 in
theorem wX5_placesTooThick_4 {p : Program} {l : Launch} {e : Env} {s : State} {m : MethodId} {below : List Frame} {meth : Method} {c : Code} {args : Array Value} {D : va_G} {Y : Nat → ClassId} {A : Nat → Prop} {o : Nat} {a : Nat → Nat} {N : Nat} {K : Int32 → mb_m → Prop} (C : mb_Cx p s m meth c args cX5_placesTooThick 4 (some .int) wsX5_placesTooThick RX5 D Y A) : ∀ (n : Nat), (∀ (M : mb_m) (x1 x2 : Int32) (H : Heap) (locs : List Loc) (ls : Array Slot), PX5_placesTooThick_4 N K  n M x1 x2 → va_P D vwCl (gw5 Y o a M) H → va_D A (gw5 Y o a M) → va_S A s.heap H locs → lv_has ls 4 [(0, .ref o), (1, .int x1), (2, .int x2)] → W p l e ({ frames := 2, cells := 0, slots := 0, locals := 44 } : Room) s m args below meth c H locs 0 0 (MQ below (va_Qi K (fun u t => mb_T D A (gw5 Y o a u) t) A) args s 0 0 A) (F0 m 4 ls [])) := by
  obtain ⟨hx, hb, hr, hml, hts, hown, hlocks, hA, hG⟩ := id C
  have hK := hG.1
  intro n
  induction n with
  | zero => intro M x1 x2 H locs ls hF; exact (show False from hF).elim
  | succ n ih =>
    intro M x1 x2 H locs ls hF hP hD hS hl
    have hF : PX5_placesTooThick_4_b N K  (PX5_placesTooThick_4 N K  n) M x1 x2 := hF
    refine lv_iload_n hx hb dX5_placesTooThick_4 rfl (lv_at hl 2 rfl) ?_
    refine lv_bipush (v := 8) hx hb dX5_placesTooThick_5 (by decide) ?_
    refine lv_icmp_ge (tgt := 56) hx hb dX5_placesTooThick_7 (by decide) (fun c_7 => ?_) (fun c_7 => ?_)
    · have hF := hF.1 c_7
      refine lv_iload_n hx hb dX5_placesTooThick_56 rfl (lv_at hl 1 rfl) ?_
      exact mb_ri (S := mb_m) (mc := 0) (ms := 0) (wf := fun u => gw5 Y o a u) C rfl (u := M) hF hP hD hS dX5_placesTooThick_57 (Nat.le_of_ble_eq_true rfl) (Nat.le_of_ble_eq_true rfl)
    · have hF := hF.2 c_7
      refine lv_iconst (v := 0) hx hb dX5_placesTooThick_10 (by decide) ?_
      refine lv_istore_n (lv' := [(3, .int (0 : Int32)), (0, .ref o), (1, .int x1), (2, .int x2)]) hx hb dX5_placesTooThick_11 rfl hl (by decide) rfl (fun ls hl => ?_)
      exact wX5_placesTooThick_12 C ih N M x1 x2 (0 : Int32) _ _ _ hF hP hD hS (lv_sub hl [1, 2, 3, 0] rfl)
noncomputable def PX5_placesTooThick (N : Nat) (M : mb_m) (K : Int32 → mb_m → Prop) : Prop := PX5_placesTooThick_4 N K N M (0 : Int32) (0 : Int32)
set_option maxHeartbeats 4000000 in
set_option maxRecDepth 100000 in
theorem cnX5_placesTooThick (l : Launch) (D : va_G) (Y : Nat → ClassId) (N : Nat) (o : Nat) (a : Nat → Nat) (M : mb_m) (sz : Nat) (K : Int32 → mb_m → Prop) (hF : PX5_placesTooThick N M K) : Met l yX5_placesTooThick wsX5_placesTooThick ({ frames := 2, cells := 0, slots := 0, locals := 44 } : Room) (va_Pc [.ref o] (mb_B D Y (gw5 Y o a M) sz)) (va_Qi K (fun u t => mb_T D (va_A (gw5 Y o a M) sz) (gw5 Y o a u) t) (va_A (gw5 Y o a M) sz)) 0 0 (va_A (gw5 Y o a M) sz) := by
  refine mb_begin (cc := cX5_placesTooThick) (maxL := 4) (ret := (some .int)) (by decide +kernel) rfl (Nat.le_of_ble_eq_true rfl) ?_
  intro p e s m below meth c ls C hsz hnm hP hD hl
  generalize hAe : va_A (gw5 Y o a M) sz = A at C hD ⊢
  have C : mb_Cx p s m meth c ([.ref o] : List Value).toArray cX5_placesTooThick 4 (some .int) wsX5_placesTooThick RX5 D Y A := C
  obtain ⟨hx, hb, hr, hml, hts, hown, hlocks, hA, hG⟩ := id C
  have hK := hG.1
  have hS : va_S A s.heap s.heap [] := va_S.rf
  have hl : lv_has ls 4 [(0, .ref o)] := hl
  refine lv_iconst (v := 0) hx hb dX5_placesTooThick_0 (by decide) ?_
  refine lv_istore_n (lv' := [(1, .int (0 : Int32)), (0, .ref o)]) hx hb dX5_placesTooThick_1 rfl hl (by decide) rfl (fun ls hl => ?_)
  refine lv_iconst (v := 0) hx hb dX5_placesTooThick_2 (by decide) ?_
  refine lv_istore_n (lv' := [(2, .int (0 : Int32)), (1, .int (0 : Int32)), (0, .ref o)]) hx hb dX5_placesTooThick_3 rfl hl (by decide) rfl (fun ls hl => ?_)
  exact wX5_placesTooThick_4 C N M (0 : Int32) (0 : Int32) _ _ _ hF hP hD hS (lv_sub hl [2, 1, 0] rfl)
end
section
noncomputable def PX6_add (N : Nat) (M : mb_m) (x1 x2 x3 : Int32) (K : mb_m → Prop) : Prop := ((20 : Int32) ≤ (M 3 0) → K M) ∧ (¬ (20 : Int32) ≤ (M 3 0) → vp_in (M 3 0) 20 ∧ (∀ M18 : mb_m, M18 = mb_u M 0 (upd (M 0) (M 3 0).toNatClampNeg x1) → (vp_in (M18 3 0) 20 ∧ (∀ M28 : mb_m, M28 = mb_u M18 1 (upd (M18 1) (M18 3 0).toNatClampNeg x2) → (vp_in (M28 3 0) 20 ∧ (∀ M38 : mb_m, M38 = mb_u M28 2 (upd (M28 2) (M28 3 0).toNatClampNeg x3) → (∀ v46 : Int32, v46 = ((M38 3 0) + (1 : Int32)) → (∀ M46 : mb_m, M46 = mb_u M38 3 (mb_c v46) → (K M46)))))))))
set_option maxHeartbeats 4000000 in
set_option maxRecDepth 100000 in
theorem cnX6_add (l : Launch) (D : va_G) (Y : Nat → ClassId) (N : Nat) (o : Nat) (a : Nat → Nat) (M : mb_m) (sz : Nat) (x1 x2 x3 : Int32) (K : mb_m → Prop) (hF : PX6_add N M x1 x2 x3 K) : Met l yX6_add wsX6_add ({ frames := 0, cells := 0, slots := 0, locals := 0 } : Room) (va_Pc [.ref o, .int x1, .int x2, .int x3] (mb_B D Y (gw6 Y o a M) sz)) (va_Qv K (fun u t => mb_T D (va_A (gw6 Y o a M) sz) (gw6 Y o a u) t) (va_A (gw6 Y o a M) sz)) 0 0 (va_A (gw6 Y o a M) sz) := by
  refine mb_begin (cc := cX6_add) (maxL := 4) (ret := none) (by decide +kernel) rfl (Nat.le_of_ble_eq_true rfl) ?_
  intro p e s m below meth c ls C hsz hnm hP hD hl
  generalize hAe : va_A (gw6 Y o a M) sz = A at C hD ⊢
  have C : mb_Cx p s m meth c ([.ref o, .int x1, .int x2, .int x3] : List Value).toArray cX6_add 4 none wsX6_add RX6 D Y A := C
  obtain ⟨hx, hb, hr, hml, hts, hown, hlocks, hA, hG⟩ := id C
  have hK := hG.1
  have hS : va_S A s.heap s.heap [] := va_S.rf
  have hl : lv_has ls 4 [(0, .ref o), (1, .int x1), (2, .int x2), (3, .int x3)] := hl
  refine lv_aload_n hx hb dX6_add_0 rfl (lv_at hl 0 rfl) ?_
  refine va_get (D := D) (ci := 6) (v := .int (M 3 0)) (C := RX6) (T := TX6) (N := 4) hx hb hts (fun _ h9 => List.mem_cons_of_mem _ (List.mem_append_right _ (h9))) hown hK hP 0 rfl rfl 3 (by decide) (hts (.fieldLink RX6 21 "MarbleBench$Speakers" "number" "I") (List.mem_of_getElem? (i := 1) rfl)) (fun _ h9 => h9) rfl dX6_add_1 ?_
  refine lv_bipush (v := 20) hx hb dX6_add_4 (by decide) ?_
  refine lv_icmp_ge (tgt := 49) hx hb dX6_add_6 (by decide) (fun c_6 => ?_) (fun c_6 => ?_)
  · have hF := hF.1 c_6
    exact mb_rv (S := mb_m) (mc := 0) (ms := 0) (wf := fun u => gw6 Y o a u) C (u := M) hF hP hD hS dX6_add_49 (Nat.le_of_ble_eq_true rfl) (Nat.le_of_ble_eq_true rfl)
  · have hF := hF.2 c_6
    refine lv_aload_n hx hb dX6_add_9 rfl (lv_at hl 0 rfl) ?_
    refine va_get (D := D) (ci := 6) (v := .ref (a 0)) (C := RX6) (T := TX6) (N := 4) hx hb hts (fun _ h9 => List.mem_cons_of_mem _ (List.mem_append_right _ (h9))) hown hK hP 0 rfl rfl 0 (by decide) (hts (.fieldLink RX6 9 "MarbleBench$Speakers" "froms" "[I") (List.mem_of_getElem? (i := 2) rfl)) (fun _ h9 => h9) rfl dX6_add_10 ?_
    refine lv_aload_n hx hb dX6_add_13 rfl (lv_at hl 0 rfl) ?_
    refine va_get (D := D) (ci := 6) (v := .int (M 3 0)) (C := RX6) (T := TX6) (N := 4) hx hb hts (fun _ h9 => List.mem_cons_of_mem _ (List.mem_append_right _ (h9))) hown hK hP 0 rfl rfl 3 (by decide) (hts (.fieldLink RX6 21 "MarbleBench$Speakers" "number" "I") (List.mem_of_getElem? (i := 1) rfl)) (fun _ h9 => h9) rfl dX6_add_14 ?_
    refine lv_iload_n hx hb dX6_add_17 rfl (lv_at hl 1 rfl) ?_
    obtain ⟨hi18, hF⟩ := hF
    refine va_iast hx hb hK hP hD hS 1 0 rfl rfl hi18 dX6_add_18 (fun H locs hP hD hS => ?_)
    obtain ⟨M18, eM18⟩ : ∃ y : mb_m, y = mb_u M 0 (upd (M 0) (M 3 0).toNatClampNeg x1) := ⟨_, rfl⟩
    have hF := hF M18 eM18
    have hP : va_P D vwCl (gw6 Y o a (mb_u M 0 (upd (M 0) (M 3 0).toNatClampNeg x1))) H := hP
    have hD : va_D A (gw6 Y o a (mb_u M 0 (upd (M 0) (M 3 0).toNatClampNeg x1))) := hD
    rw [← eM18] at hP hD
    refine lv_aload_n hx hb dX6_add_19 rfl (lv_at hl 0 rfl) ?_
    refine va_get (D := D) (ci := 6) (v := .ref (a 1)) (C := RX6) (T := TX6) (N := 4) hx hb hts (fun _ h9 => List.mem_cons_of_mem _ (List.mem_append_right _ (h9))) hown hK hP 0 rfl rfl 1 (by decide) (hts (.fieldLink RX6 15 "MarbleBench$Speakers" "tos" "[I") (List.mem_of_getElem? (i := 3) rfl)) (fun _ h9 => h9) rfl dX6_add_20 ?_
    refine lv_aload_n hx hb dX6_add_23 rfl (lv_at hl 0 rfl) ?_
    refine va_get (D := D) (ci := 6) (v := .int (M18 3 0)) (C := RX6) (T := TX6) (N := 4) hx hb hts (fun _ h9 => List.mem_cons_of_mem _ (List.mem_append_right _ (h9))) hown hK hP 0 rfl rfl 3 (by decide) (hts (.fieldLink RX6 21 "MarbleBench$Speakers" "number" "I") (List.mem_of_getElem? (i := 1) rfl)) (fun _ h9 => h9) rfl dX6_add_24 ?_
    refine lv_iload_n hx hb dX6_add_27 rfl (lv_at hl 2 rfl) ?_
    obtain ⟨hi28, hF⟩ := hF
    refine va_iast hx hb hK hP hD hS 2 0 rfl rfl hi28 dX6_add_28 (fun H locs hP hD hS => ?_)
    obtain ⟨M28, eM28⟩ : ∃ y : mb_m, y = mb_u M18 1 (upd (M18 1) (M18 3 0).toNatClampNeg x2) := ⟨_, rfl⟩
    have hF := hF M28 eM28
    have hP : va_P D vwCl (gw6 Y o a (mb_u M18 1 (upd (M18 1) (M18 3 0).toNatClampNeg x2))) H := hP
    have hD : va_D A (gw6 Y o a (mb_u M18 1 (upd (M18 1) (M18 3 0).toNatClampNeg x2))) := hD
    rw [← eM28] at hP hD
    refine lv_aload_n hx hb dX6_add_29 rfl (lv_at hl 0 rfl) ?_
    refine va_get (D := D) (ci := 6) (v := .ref (a 2)) (C := RX6) (T := TX6) (N := 4) hx hb hts (fun _ h9 => List.mem_cons_of_mem _ (List.mem_append_right _ (h9))) hown hK hP 0 rfl rfl 2 (by decide) (hts (.fieldLink RX6 18 "MarbleBench$Speakers" "weights" "[I") (List.mem_of_getElem? (i := 4) rfl)) (fun _ h9 => h9) rfl dX6_add_30 ?_
    refine lv_aload_n hx hb dX6_add_33 rfl (lv_at hl 0 rfl) ?_
    refine va_get (D := D) (ci := 6) (v := .int (M28 3 0)) (C := RX6) (T := TX6) (N := 4) hx hb hts (fun _ h9 => List.mem_cons_of_mem _ (List.mem_append_right _ (h9))) hown hK hP 0 rfl rfl 3 (by decide) (hts (.fieldLink RX6 21 "MarbleBench$Speakers" "number" "I") (List.mem_of_getElem? (i := 1) rfl)) (fun _ h9 => h9) rfl dX6_add_34 ?_
    refine lv_iload_n hx hb dX6_add_37 rfl (lv_at hl 3 rfl) ?_
    obtain ⟨hi38, hF⟩ := hF
    refine va_iast hx hb hK hP hD hS 3 0 rfl rfl hi38 dX6_add_38 (fun H locs hP hD hS => ?_)
    obtain ⟨M38, eM38⟩ : ∃ y : mb_m, y = mb_u M28 2 (upd (M28 2) (M28 3 0).toNatClampNeg x3) := ⟨_, rfl⟩
    have hF := hF M38 eM38
    have hP : va_P D vwCl (gw6 Y o a (mb_u M28 2 (upd (M28 2) (M28 3 0).toNatClampNeg x3))) H := hP
    have hD : va_D A (gw6 Y o a (mb_u M28 2 (upd (M28 2) (M28 3 0).toNatClampNeg x3))) := hD
    rw [← eM38] at hP hD
    refine lv_aload_n hx hb dX6_add_39 rfl (lv_at hl 0 rfl) ?_
    refine lv_dup hx hb dX6_add_40 rfl ?_
    refine va_get (D := D) (ci := 6) (v := .int (M38 3 0)) (C := RX6) (T := TX6) (N := 4) hx hb hts (fun _ h9 => List.mem_cons_of_mem _ (List.mem_append_right _ (h9))) hown hK hP 0 rfl rfl 3 (by decide) (hts (.fieldLink RX6 21 "MarbleBench$Speakers" "number" "I") (List.mem_of_getElem? (i := 1) rfl)) (fun _ h9 => h9) rfl dX6_add_41 ?_
    refine lv_iconst (v := 1) hx hb dX6_add_44 (by decide) ?_
    refine lv_iadd hx hb dX6_add_45 ?_
    refine lv_topi (fun v46 ev46 => ?_)
    have hF := hF v46 ev46
    refine va_put (D := D) (ci := 6) (v := .int v46) (ty := .int) (C := RX6) (T := TX6) (N := 4) hx hb hts (fun _ h9 => List.mem_cons_of_mem _ (List.mem_append_right _ (h9))) tyX6 tyX6_ok nmX6 hown hK hP hD hS 0 rfl rfl 3 (by decide) (hts (.fieldLink RX6 21 "MarbleBench$Speakers" "number" "I") (List.mem_of_getElem? (i := 1) rfl)) (fun _ h9 => h9) rfl (by decide +kernel) rfl rfl (Nat.le_of_ble_eq_true rfl) dX6_add_46 (fun H locs hP hD hS => ?_)
    obtain ⟨M46, eM46⟩ : ∃ y : mb_m, y = mb_u M38 3 (mb_c v46) := ⟨_, rfl⟩
    have hF := hF M46 eM46
    have hP : va_P D vwCl (gw6 Y o a (mb_u M38 3 (mb_c v46))) H := hP
    have hD : va_D A (gw6 Y o a (mb_u M38 3 (mb_c v46))) := hD
    rw [← eM46] at hP hD
    exact mb_rv (S := mb_m) (mc := 0) (ms := 0) (wf := fun u => gw6 Y o a u) C (u := M46) hF hP hD hS dX6_add_49 (Nat.le_of_ble_eq_true rfl) (Nat.le_of_ble_eq_true rfl)
end
section
noncomputable def PX6_weightIn_48 (N : Nat) (K : Int32 → mb_m → Prop) (b4 : mb_m → Int32 → Int32 → Int32 → Prop) (M : mb_m) (x1 x3 y0 y1 : Int32) : Prop := ∀ v49 : Int32, v49 = (y1 + y0) → (∀ v50 : Int32, v50 = x3 + (1 : Int32) → (b4 M x1 v49 v50))
set_option maxHeartbeats 4000000 in
set_option maxRecDepth 100000 in
theorem wX6_weightIn_48 {p : Program} {l : Launch} {e : Env} {s : State} {m : MethodId} {below : List Frame} {meth : Method} {c : Code} {args : Array Value} {D : va_G} {Y : Nat → ClassId} {A : Nat → Prop} {o : Nat} {a : Nat → Nat} {N : Nat} {K : Int32 → mb_m → Prop} {b4 : mb_m → Int32 → Int32 → Int32 → Prop} (C : mb_Cx p s m meth c args cX6_weightIn 4 (some .int) wsX6_weightIn RX6 D Y A) (hb4 : ∀ (M : mb_m) (x1 x2 x3 : Int32) (H : Heap) (locs : List Loc) (ls : Array Slot), b4 M x1 x2 x3 → va_P D vwCl (gw6 Y o a M) H → va_D A (gw6 Y o a M) → va_S A s.heap H locs → lv_has ls 4 [(0, .ref o), (1, .int x1), (2, .int x2), (3, .int x3)] → W p l e ({ frames := 1, cells := 0, slots := 0, locals := 22 } : Room) s m args below meth c H locs 0 0 (MQ below (va_Qi K (fun u t => mb_T D A (gw6 Y o a u) t) A) args s 0 0 A) (F0 m 4 ls [])) : ∀ (M : mb_m) (x1 x3 y0 y1 : Int32) (H : Heap) (locs : List Loc) (ls : Array Slot), PX6_weightIn_48 N K b4 M x1 x3 y0 y1 → va_P D vwCl (gw6 Y o a M) H → va_D A (gw6 Y o a M) → va_S A s.heap H locs → lv_has ls 4 [(0, .ref o), (1, .int x1), (3, .int x3)] → W p l e ({ frames := 1, cells := 0, slots := 0, locals := 22 } : Room) s m args below meth c H locs 0 0 (MQ below (va_Qi K (fun u t => mb_T D A (gw6 Y o a u) t) A) args s 0 0 A) (F0 m 48 ls [.int y0, .int y1]) := by
  obtain ⟨hx, hb, hr, hml, hts, hown, hlocks, hA, hG⟩ := id C
  have hK := hG.1
  intro M x1 x3 y0 y1 H locs ls hF hP hD hS hl
  refine lv_iadd hx hb dX6_weightIn_48 ?_
  refine lv_topi (fun v49 ev49 => ?_)
  have hF := hF v49 ev49
  refine lv_istore_n (lv' := [(2, .int v49), (0, .ref o), (1, .int x1), (3, .int x3)]) hx hb dX6_weightIn_49 rfl hl (by decide) rfl (fun ls hl => ?_)
  obtain ⟨v50, ev50⟩ : ∃ y : Int32, y = x3 + (1 : Int32) := ⟨_, rfl⟩
  have hF := hF v50 ev50
  refine lv_iinc (v := v50) (lv' := [(3, .int v50), (2, .int v49), (0, .ref o), (1, .int x1)]) hx hb dX6_weightIn_50 hl (k := 3) rfl (by rw [ev50]; rfl) (by decide) rfl (fun ls hl => ?_)
  refine lv_goto (tgt := 4) hx hb dX6_weightIn_53 (by decide) ?_
  exact hb4 M x1 v49 v50 _ _ _ hF hP hD hS (lv_sub hl [2, 3, 1, 0] rfl)
noncomputable def PX6_weightIn_4_b (N : Nat) (K : Int32 → mb_m → Prop) (b4 : mb_m → Int32 → Int32 → Int32 → Prop) (M : mb_m) (x1 x2 x3 : Int32) : Prop := ((M 3 0) ≤ x3 → K x2 M) ∧ (¬ (M 3 0) ≤ x3 → ((20 : Int32) ≤ x3 → K x2 M) ∧ (¬ (20 : Int32) ≤ x3 → vp_in x3 20 ∧ (vp_in x3 20 ∧ (PX7_isWithin N x1 (M 0 x3.toNatClampNeg) (M 1 x3.toNatClampNeg) (fun r32 _ => (r32 = 0 → PX6_weightIn_48 N K b4 M x1 x3 (0 : Int32) x2) ∧ (¬ r32 = 0 → vp_in x3 20 ∧ (PX6_weightIn_48 N K b4 M x1 x3 (M 2 x3.toNatClampNeg) x2)))))))
noncomputable def PX6_weightIn_4 (N : Nat) (K : Int32 → mb_m → Prop) (n : Nat) : mb_m → Int32 → Int32 → Int32 → Prop := Nat.rec (motive := fun _ => mb_m → Int32 → Int32 → Int32 → Prop) (fun _ _ _ _ => False) (fun _ b4 => PX6_weightIn_4_b N K  b4) n
set_option maxHeartbeats 4000000 in
set_option maxRecDepth 100000 in
theorem wX6_weightIn_4 {p : Program} {l : Launch} {e : Env} {s : State} {m : MethodId} {below : List Frame} {meth : Method} {c : Code} {args : Array Value} {D : va_G} {Y : Nat → ClassId} {A : Nat → Prop} {o : Nat} {a : Nat → Nat} {N : Nat} {K : Int32 → mb_m → Prop} (C : mb_Cx p s m meth c args cX6_weightIn 4 (some .int) wsX6_weightIn RX6 D Y A) : ∀ (n : Nat), (∀ (M : mb_m) (x1 x2 x3 : Int32) (H : Heap) (locs : List Loc) (ls : Array Slot), PX6_weightIn_4 N K  n M x1 x2 x3 → va_P D vwCl (gw6 Y o a M) H → va_D A (gw6 Y o a M) → va_S A s.heap H locs → lv_has ls 4 [(0, .ref o), (1, .int x1), (2, .int x2), (3, .int x3)] → W p l e ({ frames := 1, cells := 0, slots := 0, locals := 22 } : Room) s m args below meth c H locs 0 0 (MQ below (va_Qi K (fun u t => mb_T D A (gw6 Y o a u) t) A) args s 0 0 A) (F0 m 4 ls [])) := by
  obtain ⟨hx, hb, hr, hml, hts, hown, hlocks, hA, hG⟩ := id C
  have hK := hG.1
  intro n
  induction n with
  | zero => intro M x1 x2 x3 H locs ls hF; exact (show False from hF).elim
  | succ n ih =>
    intro M x1 x2 x3 H locs ls hF hP hD hS hl
    have hF : PX6_weightIn_4_b N K  (PX6_weightIn_4 N K  n) M x1 x2 x3 := hF
    refine lv_iload_n hx hb dX6_weightIn_4 rfl (lv_at hl 3 rfl) ?_
    refine lv_aload_n hx hb dX6_weightIn_5 rfl (lv_at hl 0 rfl) ?_
    refine va_get (D := D) (ci := 6) (v := .int (M 3 0)) (C := RX6) (T := TX6) (N := 4) hx hb hts (fun _ h9 => List.mem_cons_of_mem _ (List.mem_append_right _ (h9))) hown hK hP 0 rfl rfl 3 (by decide) (hts (.fieldLink RX6 21 "MarbleBench$Speakers" "number" "I") (List.mem_of_getElem? (i := 1) rfl)) (fun _ h9 => h9) rfl dX6_weightIn_6 ?_
    refine lv_icmp_ge (tgt := 56) hx hb dX6_weightIn_9 (by decide) (fun c_9 => ?_) (fun c_9 => ?_)
    · have hF := hF.1 c_9
      refine lv_iload_n hx hb dX6_weightIn_56 rfl (lv_at hl 2 rfl) ?_
      exact mb_ri (S := mb_m) (mc := 0) (ms := 0) (wf := fun u => gw6 Y o a u) C rfl (u := M) hF hP hD hS dX6_weightIn_57 (Nat.le_of_ble_eq_true rfl) (Nat.le_of_ble_eq_true rfl)
    · have hF := hF.2 c_9
      refine lv_iload_n hx hb dX6_weightIn_12 rfl (lv_at hl 3 rfl) ?_
      refine lv_bipush (v := 20) hx hb dX6_weightIn_13 (by decide) ?_
      refine lv_icmp_ge (tgt := 56) hx hb dX6_weightIn_15 (by decide) (fun c_15 => ?_) (fun c_15 => ?_)
      · have hF := hF.1 c_15
        refine lv_iload_n hx hb dX6_weightIn_56 rfl (lv_at hl 2 rfl) ?_
        exact mb_ri (S := mb_m) (mc := 0) (ms := 0) (wf := fun u => gw6 Y o a u) C rfl (u := M) hF hP hD hS dX6_weightIn_57 (Nat.le_of_ble_eq_true rfl) (Nat.le_of_ble_eq_true rfl)
      · have hF := hF.2 c_15
        refine lv_iload_n hx hb dX6_weightIn_18 rfl (lv_at hl 2 rfl) ?_
        refine lv_iload_n hx hb dX6_weightIn_19 rfl (lv_at hl 1 rfl) ?_
        refine lv_aload_n hx hb dX6_weightIn_20 rfl (lv_at hl 0 rfl) ?_
        refine va_get (D := D) (ci := 6) (v := .ref (a 0)) (C := RX6) (T := TX6) (N := 4) hx hb hts (fun _ h9 => List.mem_cons_of_mem _ (List.mem_append_right _ (h9))) hown hK hP 0 rfl rfl 0 (by decide) (hts (.fieldLink RX6 9 "MarbleBench$Speakers" "froms" "[I") (List.mem_of_getElem? (i := 2) rfl)) (fun _ h9 => h9) rfl dX6_weightIn_21 ?_
        refine lv_iload_n hx hb dX6_weightIn_24 rfl (lv_at hl 3 rfl) ?_
        obtain ⟨hi25, hF⟩ := hF
        refine va_iald hx hb hK hP 1 0 rfl rfl hi25 dX6_weightIn_25 ?_
        refine lv_aload_n hx hb dX6_weightIn_26 rfl (lv_at hl 0 rfl) ?_
        refine va_get (D := D) (ci := 6) (v := .ref (a 1)) (C := RX6) (T := TX6) (N := 4) hx hb hts (fun _ h9 => List.mem_cons_of_mem _ (List.mem_append_right _ (h9))) hown hK hP 0 rfl rfl 1 (by decide) (hts (.fieldLink RX6 15 "MarbleBench$Speakers" "tos" "[I") (List.mem_of_getElem? (i := 3) rfl)) (fun _ h9 => h9) rfl dX6_weightIn_27 ?_
        refine lv_iload_n hx hb dX6_weightIn_30 rfl (lv_at hl 3 rfl) ?_
        obtain ⟨hi31, hF⟩ := hF
        refine va_iald hx hb hK hP 2 0 rfl rfl hi31 dX6_weightIn_31 ?_
        refine mb_cE hP hS hA (va_runSN (As := [.int x1, .int (M 0 x3.toNatClampNeg), .int (M 1 x3.toNatClampNeg)]) (rest := [.int x2]) ⟨hx, hb, hml, hown, hts⟩ (cnX7_isWithin l D Y N _ x1 (M 0 x3.toNatClampNeg) (M 1 x3.toNatClampNeg) _ hF) ⟨va_cnB 3 hts gX6_weightIn_X7_isWithin_n25 rfl rfl rfl (hG.2.1 _ (List.mem_of_getElem? (i := 26) rfl)) (hts (.initialized RX7) (List.mem_of_getElem? (i := 6) rfl)) (by decide +kernel) ⟨Nat.le_of_ble_eq_true rfl, Nat.le_of_ble_eq_true rfl⟩, hts (.static yX7_isWithin) (List.mem_of_getElem? (i := 5) rfl), trivial⟩ (mb_preS (A := A) hG mb_P0 mb_D0) rfl rfl hl.1 rfl (lv_room (Nat.le_of_ble_eq_true rfl)) dX6_weightIn_32 ⟨Nat.le_of_ble_eq_true rfl, Nat.le_of_ble_eq_true rfl⟩) (fun r32 H locs hF hP hS => ?_)
        refine lv_if_eq (tgt := 47) hx hb dX6_weightIn_35 (by decide) (fun c_35 => ?_) (fun c_35 => ?_)
        · have hF := hF.1 c_35
          refine lv_iconst (v := 0) hx hb dX6_weightIn_47 (by decide) ?_
          exact wX6_weightIn_48 C ih M x1 x3 (0 : Int32) x2 _ _ _ hF hP hD hS (lv_sub hl [0, 1, 3] rfl)
        · have hF := hF.2 c_35
          refine lv_aload_n hx hb dX6_weightIn_38 rfl (lv_at hl 0 rfl) ?_
          refine va_get (D := D) (ci := 6) (v := .ref (a 2)) (C := RX6) (T := TX6) (N := 4) hx hb hts (fun _ h9 => List.mem_cons_of_mem _ (List.mem_append_right _ (h9))) hown hK hP 0 rfl rfl 2 (by decide) (hts (.fieldLink RX6 18 "MarbleBench$Speakers" "weights" "[I") (List.mem_of_getElem? (i := 4) rfl)) (fun _ h9 => h9) rfl dX6_weightIn_39 ?_
          refine lv_iload_n hx hb dX6_weightIn_42 rfl (lv_at hl 3 rfl) ?_
          obtain ⟨hi43, hF⟩ := hF
          refine va_iald hx hb hK hP 3 0 rfl rfl hi43 dX6_weightIn_43 ?_
          refine lv_goto (tgt := 48) hx hb dX6_weightIn_44 (by decide) ?_
          exact wX6_weightIn_48 C ih M x1 x3 (M 2 x3.toNatClampNeg) x2 _ _ _ hF hP hD hS (lv_sub hl [0, 1, 3] rfl)
noncomputable def PX6_weightIn (N : Nat) (M : mb_m) (x1 : Int32) (K : Int32 → mb_m → Prop) : Prop := PX6_weightIn_4 N K N M x1 (0 : Int32) (0 : Int32)
set_option maxHeartbeats 4000000 in
set_option maxRecDepth 100000 in
theorem cnX6_weightIn (l : Launch) (D : va_G) (Y : Nat → ClassId) (N : Nat) (o : Nat) (a : Nat → Nat) (M : mb_m) (sz : Nat) (x1 : Int32) (K : Int32 → mb_m → Prop) (hF : PX6_weightIn N M x1 K) : Met l yX6_weightIn wsX6_weightIn ({ frames := 1, cells := 0, slots := 0, locals := 22 } : Room) (va_Pc [.ref o, .int x1] (mb_B D Y (gw6 Y o a M) sz)) (va_Qi K (fun u t => mb_T D (va_A (gw6 Y o a M) sz) (gw6 Y o a u) t) (va_A (gw6 Y o a M) sz)) 0 0 (va_A (gw6 Y o a M) sz) := by
  refine mb_begin (cc := cX6_weightIn) (maxL := 4) (ret := (some .int)) (by decide +kernel) rfl (Nat.le_of_ble_eq_true rfl) ?_
  intro p e s m below meth c ls C hsz hnm hP hD hl
  generalize hAe : va_A (gw6 Y o a M) sz = A at C hD ⊢
  have C : mb_Cx p s m meth c ([.ref o, .int x1] : List Value).toArray cX6_weightIn 4 (some .int) wsX6_weightIn RX6 D Y A := C
  obtain ⟨hx, hb, hr, hml, hts, hown, hlocks, hA, hG⟩ := id C
  have hK := hG.1
  have hS : va_S A s.heap s.heap [] := va_S.rf
  have hl : lv_has ls 4 [(0, .ref o), (1, .int x1)] := hl
  refine lv_iconst (v := 0) hx hb dX6_weightIn_0 (by decide) ?_
  refine lv_istore_n (lv' := [(2, .int (0 : Int32)), (0, .ref o), (1, .int x1)]) hx hb dX6_weightIn_1 rfl hl (by decide) rfl (fun ls hl => ?_)
  refine lv_iconst (v := 0) hx hb dX6_weightIn_2 (by decide) ?_
  refine lv_istore_n (lv' := [(3, .int (0 : Int32)), (2, .int (0 : Int32)), (0, .ref o), (1, .int x1)]) hx hb dX6_weightIn_3 rfl hl (by decide) rfl (fun ls hl => ?_)
  exact wX6_weightIn_4 C N M x1 (0 : Int32) (0 : Int32) _ _ _ hF hP hD hS (lv_sub hl [2, 3, 1, 0] rfl)
end
section
noncomputable def PX6_firstByEnds_64 (N : Nat) (K : Int32 → mb_m → Prop) (b6 : mb_m → Int32 → Int32 → Int32 → Prop) (M : mb_m) (x1 x2 x3 : Int32) : Prop := ∀ v64 : Int32, v64 = x3 + (1 : Int32) → (b6 M x1 x2 v64)
set_option maxHeartbeats 4000000 in
set_option maxRecDepth 100000 in
theorem wX6_firstByEnds_64 {p : Program} {l : Launch} {e : Env} {s : State} {m : MethodId} {below : List Frame} {meth : Method} {c : Code} {args : Array Value} {D : va_G} {Y : Nat → ClassId} {A : Nat → Prop} {o : Nat} {a : Nat → Nat} {N : Nat} {K : Int32 → mb_m → Prop} {b6 : mb_m → Int32 → Int32 → Int32 → Prop} (C : mb_Cx p s m meth c args cX6_firstByEnds 5 (some .int) wsX6_firstByEnds RX6 D Y A) (hb6 : ∀ (M : mb_m) (x1 x2 x3 : Int32) (H : Heap) (locs : List Loc) (ls : Array Slot), b6 M x1 x2 x3 → va_P D vwCl (gw6 Y o a M) H → va_D A (gw6 Y o a M) → va_S A s.heap H locs → lv_has ls 5 [(0, .ref o), (1, .int x1), (2, .int x2), (3, .int x3)] → W p l e ({ frames := 2, cells := 0, slots := 0, locals := 45 } : Room) s m args below meth c H locs 0 0 (MQ below (va_Qi K (fun u t => mb_T D A (gw6 Y o a u) t) A) args s 0 0 A) (F0 m 6 ls [])) : ∀ (M : mb_m) (x1 x2 x3 : Int32) (H : Heap) (locs : List Loc) (ls : Array Slot), PX6_firstByEnds_64 N K b6 M x1 x2 x3 → va_P D vwCl (gw6 Y o a M) H → va_D A (gw6 Y o a M) → va_S A s.heap H locs → lv_has ls 5 [(0, .ref o), (1, .int x1), (2, .int x2), (3, .int x3)] → W p l e ({ frames := 2, cells := 0, slots := 0, locals := 45 } : Room) s m args below meth c H locs 0 0 (MQ below (va_Qi K (fun u t => mb_T D A (gw6 Y o a u) t) A) args s 0 0 A) (F0 m 64 ls []) := by
  obtain ⟨hx, hb, hr, hml, hts, hown, hlocks, hA, hG⟩ := id C
  have hK := hG.1
  intro M x1 x2 x3 H locs ls hF hP hD hS hl
  obtain ⟨v64, ev64⟩ : ∃ y : Int32, y = x3 + (1 : Int32) := ⟨_, rfl⟩
  have hF := hF v64 ev64
  refine lv_iinc (v := v64) (lv' := [(3, .int v64), (0, .ref o), (1, .int x1), (2, .int x2)]) hx hb dX6_firstByEnds_64 hl (k := 3) rfl (by rw [ev64]; rfl) (by decide) rfl (fun ls hl => ?_)
  refine lv_goto (tgt := 6) hx hb dX6_firstByEnds_67 (by decide) ?_
  exact hb6 M x1 x2 v64 _ _ _ hF hP hD hS (lv_sub hl [1, 2, 3, 0] rfl)
noncomputable def PX6_firstByEnds_54 (N : Nat) (K : Int32 → mb_m → Prop) (b6 : mb_m → Int32 → Int32 → Int32 → Prop) (M : mb_m) (x3 x4 : Int32) : Prop := vp_in x3 20 ∧ (∀ v63 : Int32, v63 = (M 0 x3.toNatClampNeg) → (PX6_firstByEnds_64 N K b6 M x4 v63 x3))
set_option maxHeartbeats 4000000 in
set_option maxRecDepth 100000 in
theorem wX6_firstByEnds_54 {p : Program} {l : Launch} {e : Env} {s : State} {m : MethodId} {below : List Frame} {meth : Method} {c : Code} {args : Array Value} {D : va_G} {Y : Nat → ClassId} {A : Nat → Prop} {o : Nat} {a : Nat → Nat} {N : Nat} {K : Int32 → mb_m → Prop} {b6 : mb_m → Int32 → Int32 → Int32 → Prop} (C : mb_Cx p s m meth c args cX6_firstByEnds 5 (some .int) wsX6_firstByEnds RX6 D Y A) (hb6 : ∀ (M : mb_m) (x1 x2 x3 : Int32) (H : Heap) (locs : List Loc) (ls : Array Slot), b6 M x1 x2 x3 → va_P D vwCl (gw6 Y o a M) H → va_D A (gw6 Y o a M) → va_S A s.heap H locs → lv_has ls 5 [(0, .ref o), (1, .int x1), (2, .int x2), (3, .int x3)] → W p l e ({ frames := 2, cells := 0, slots := 0, locals := 45 } : Room) s m args below meth c H locs 0 0 (MQ below (va_Qi K (fun u t => mb_T D A (gw6 Y o a u) t) A) args s 0 0 A) (F0 m 6 ls [])) : ∀ (M : mb_m) (x3 x4 : Int32) (H : Heap) (locs : List Loc) (ls : Array Slot), PX6_firstByEnds_54 N K b6 M x3 x4 → va_P D vwCl (gw6 Y o a M) H → va_D A (gw6 Y o a M) → va_S A s.heap H locs → lv_has ls 5 [(0, .ref o), (3, .int x3), (4, .int x4)] → W p l e ({ frames := 2, cells := 0, slots := 0, locals := 45 } : Room) s m args below meth c H locs 0 0 (MQ below (va_Qi K (fun u t => mb_T D A (gw6 Y o a u) t) A) args s 0 0 A) (F0 m 54 ls []) := by
  obtain ⟨hx, hb, hr, hml, hts, hown, hlocks, hA, hG⟩ := id C
  have hK := hG.1
  intro M x3 x4 H locs ls hF hP hD hS hl
  refine lv_iload hx hb dX6_firstByEnds_54 (lv_at hl 2 rfl) ?_
  refine lv_istore_n (lv' := [(1, .int x4), (0, .ref o), (3, .int x3), (4, .int x4)]) hx hb dX6_firstByEnds_56 rfl hl (by decide) rfl (fun ls hl => ?_)
  refine lv_aload_n hx hb dX6_firstByEnds_57 rfl (lv_at hl 1 rfl) ?_
  refine va_get (D := D) (ci := 6) (v := .ref (a 0)) (C := RX6) (T := TX6) (N := 4) hx hb hts (fun _ h9 => List.mem_cons_of_mem _ (List.mem_append_right _ (h9))) hown hK hP 0 rfl rfl 0 (by decide) (hts (.fieldLink RX6 9 "MarbleBench$Speakers" "froms" "[I") (List.mem_of_getElem? (i := 2) rfl)) (fun _ h9 => h9) rfl dX6_firstByEnds_58 ?_
  refine lv_iload_n hx hb dX6_firstByEnds_61 rfl (lv_at hl 2 rfl) ?_
  obtain ⟨hi62, hF⟩ := hF
  refine va_iald hx hb hK hP 1 0 rfl rfl hi62 dX6_firstByEnds_62 ?_
  refine lv_topi (fun v63 ev63 => ?_)
  have hF := hF v63 ev63
  refine lv_istore_n (lv' := [(2, .int v63), (1, .int x4), (0, .ref o), (3, .int x3), (4, .int x4)]) hx hb dX6_firstByEnds_63 rfl hl (by decide) rfl (fun ls hl => ?_)
  exact wX6_firstByEnds_64 C hb6 M x4 v63 x3 _ _ _ hF hP hD hS (lv_sub hl [2, 1, 0, 3] rfl)
noncomputable def PX6_firstByEnds_6_b (N : Nat) (K : Int32 → mb_m → Prop) (b6 : mb_m → Int32 → Int32 → Int32 → Prop) (M : mb_m) (x1 x2 x3 : Int32) : Prop := ((M 3 0) ≤ x3 → K x2 M) ∧ (¬ (M 3 0) ≤ x3 → ((20 : Int32) ≤ x3 → K x2 M) ∧ (¬ (20 : Int32) ≤ x3 → vp_in x3 20 ∧ (PX6_weightIn N M (M 0 x3.toNatClampNeg) (fun r27 M27 => (x1 < r27 → PX6_firstByEnds_54 N K b6 M27 x3 r27) ∧ (¬ x1 < r27 → (¬ r27 = x1 → PX6_firstByEnds_64 N K b6 M27 x1 x2 x3) ∧ (r27 = x1 → vp_in x3 20 ∧ ((x2 ≤ (M27 0 x3.toNatClampNeg) → PX6_firstByEnds_64 N K b6 M27 x1 x2 x3) ∧ (¬ x2 ≤ (M27 0 x3.toNatClampNeg) → PX6_firstByEnds_54 N K b6 M27 x3 r27))))))))
noncomputable def PX6_firstByEnds_6 (N : Nat) (K : Int32 → mb_m → Prop) (n : Nat) : mb_m → Int32 → Int32 → Int32 → Prop := Nat.rec (motive := fun _ => mb_m → Int32 → Int32 → Int32 → Prop) (fun _ _ _ _ => False) (fun _ b6 => PX6_firstByEnds_6_b N K  b6) n
set_option maxHeartbeats 4000000 in
set_option maxRecDepth 100000 in
theorem wX6_firstByEnds_6 {p : Program} {l : Launch} {e : Env} {s : State} {m : MethodId} {below : List Frame} {meth : Method} {c : Code} {args : Array Value} {D : va_G} {Y : Nat → ClassId} {A : Nat → Prop} {o : Nat} {a : Nat → Nat} {N : Nat} {K : Int32 → mb_m → Prop} (C : mb_Cx p s m meth c args cX6_firstByEnds 5 (some .int) wsX6_firstByEnds RX6 D Y A) : ∀ (n : Nat), (∀ (M : mb_m) (x1 x2 x3 : Int32) (H : Heap) (locs : List Loc) (ls : Array Slot), PX6_firstByEnds_6 N K  n M x1 x2 x3 → va_P D vwCl (gw6 Y o a M) H → va_D A (gw6 Y o a M) → va_S A s.heap H locs → lv_has ls 5 [(0, .ref o), (1, .int x1), (2, .int x2), (3, .int x3)] → W p l e ({ frames := 2, cells := 0, slots := 0, locals := 45 } : Room) s m args below meth c H locs 0 0 (MQ below (va_Qi K (fun u t => mb_T D A (gw6 Y o a u) t) A) args s 0 0 A) (F0 m 6 ls [])) := by
  obtain ⟨hx, hb, hr, hml, hts, hown, hlocks, hA, hG⟩ := id C
  have hK := hG.1
  intro n
  induction n with
  | zero => intro M x1 x2 x3 H locs ls hF; exact (show False from hF).elim
  | succ n ih =>
    intro M x1 x2 x3 H locs ls hF hP hD hS hl
    have hF : PX6_firstByEnds_6_b N K  (PX6_firstByEnds_6 N K  n) M x1 x2 x3 := hF
    refine lv_iload_n hx hb dX6_firstByEnds_6 rfl (lv_at hl 3 rfl) ?_
    refine lv_aload_n hx hb dX6_firstByEnds_7 rfl (lv_at hl 0 rfl) ?_
    refine va_get (D := D) (ci := 6) (v := .int (M 3 0)) (C := RX6) (T := TX6) (N := 4) hx hb hts (fun _ h9 => List.mem_cons_of_mem _ (List.mem_append_right _ (h9))) hown hK hP 0 rfl rfl 3 (by decide) (hts (.fieldLink RX6 21 "MarbleBench$Speakers" "number" "I") (List.mem_of_getElem? (i := 1) rfl)) (fun _ h9 => h9) rfl dX6_firstByEnds_8 ?_
    refine lv_icmp_ge (tgt := 70) hx hb dX6_firstByEnds_11 (by decide) (fun c_11 => ?_) (fun c_11 => ?_)
    · have hF := hF.1 c_11
      refine lv_iload_n hx hb dX6_firstByEnds_70 rfl (lv_at hl 2 rfl) ?_
      exact mb_ri (S := mb_m) (mc := 0) (ms := 0) (wf := fun u => gw6 Y o a u) C rfl (u := M) hF hP hD hS dX6_firstByEnds_71 (Nat.le_of_ble_eq_true rfl) (Nat.le_of_ble_eq_true rfl)
    · have hF := hF.2 c_11
      refine lv_iload_n hx hb dX6_firstByEnds_14 rfl (lv_at hl 3 rfl) ?_
      refine lv_bipush (v := 20) hx hb dX6_firstByEnds_15 (by decide) ?_
      refine lv_icmp_ge (tgt := 70) hx hb dX6_firstByEnds_17 (by decide) (fun c_17 => ?_) (fun c_17 => ?_)
      · have hF := hF.1 c_17
        refine lv_iload_n hx hb dX6_firstByEnds_70 rfl (lv_at hl 2 rfl) ?_
        exact mb_ri (S := mb_m) (mc := 0) (ms := 0) (wf := fun u => gw6 Y o a u) C rfl (u := M) hF hP hD hS dX6_firstByEnds_71 (Nat.le_of_ble_eq_true rfl) (Nat.le_of_ble_eq_true rfl)
      · have hF := hF.2 c_17
        refine lv_aload_n hx hb dX6_firstByEnds_20 rfl (lv_at hl 0 rfl) ?_
        refine lv_aload_n hx hb dX6_firstByEnds_21 rfl (lv_at hl 0 rfl) ?_
        refine va_get (D := D) (ci := 6) (v := .ref (a 0)) (C := RX6) (T := TX6) (N := 4) hx hb hts (fun _ h9 => List.mem_cons_of_mem _ (List.mem_append_right _ (h9))) hown hK hP 0 rfl rfl 0 (by decide) (hts (.fieldLink RX6 9 "MarbleBench$Speakers" "froms" "[I") (List.mem_of_getElem? (i := 2) rfl)) (fun _ h9 => h9) rfl dX6_firstByEnds_22 ?_
        refine lv_iload_n hx hb dX6_firstByEnds_25 rfl (lv_at hl 3 rfl) ?_
        obtain ⟨hi26, hF⟩ := hF
        refine va_iald hx hb hK hP 1 0 rfl rfl hi26 dX6_firstByEnds_26 ?_
        refine mb_cW hD hS hA (va_runV (As := [.int (M 0 x3.toNatClampNeg)]) (rest := []) ⟨hx, hb, hml, hown, hts⟩ (cnX6_weightIn l D Y N o a M _ (M 0 x3.toNatClampNeg) _ hF) (cwV 1 hts gX6_firstByEnds_X6_weightIn rfl rfl rfl (by decide +kernel) ⟨Nat.le_of_ble_eq_true rfl, Nat.le_of_ble_eq_true rfl⟩) (mb_preV hG hP hD 0 rfl rfl) rfl rfl hl.1 rfl (lv_room (Nat.le_of_ble_eq_true rfl)) dX6_firstByEnds_27 ⟨Nat.le_of_ble_eq_true rfl, Nat.le_of_ble_eq_true rfl⟩) (fun r27 M27 H locs hF hP hD hS => ?_)
        refine lv_istore (lv' := [(4, .int r27), (0, .ref o), (1, .int x1), (2, .int x2), (3, .int x3)]) hx hb dX6_firstByEnds_30 hl (by decide) rfl (fun ls hl => ?_)
        refine lv_iload hx hb dX6_firstByEnds_32 (lv_at hl 0 rfl) ?_
        refine lv_iload_n hx hb dX6_firstByEnds_34 rfl (lv_at hl 2 rfl) ?_
        refine lv_icmp_gt (tgt := 54) hx hb dX6_firstByEnds_35 (by decide) (fun c_35 => ?_) (fun c_35 => ?_)
        · have hF := hF.1 c_35
          exact wX6_firstByEnds_54 C ih M27 x3 r27 _ _ _ hF hP hD hS (lv_sub hl [1, 4, 0] rfl)
        · have hF := hF.2 c_35
          refine lv_iload hx hb dX6_firstByEnds_38 (lv_at hl 0 rfl) ?_
          refine lv_iload_n hx hb dX6_firstByEnds_40 rfl (lv_at hl 2 rfl) ?_
          refine lv_icmp_ne (tgt := 64) hx hb dX6_firstByEnds_41 (by decide) (fun c_41 => ?_) (fun c_41 => ?_)
          · have hF := hF.1 c_41
            exact wX6_firstByEnds_64 C ih M27 x1 x2 x3 _ _ _ hF hP hD hS (lv_sub hl [1, 2, 3, 4] rfl)
          · have hF := hF.2 c_41
            refine lv_aload_n hx hb dX6_firstByEnds_44 rfl (lv_at hl 1 rfl) ?_
            refine va_get (D := D) (ci := 6) (v := .ref (a 0)) (C := RX6) (T := TX6) (N := 4) hx hb hts (fun _ h9 => List.mem_cons_of_mem _ (List.mem_append_right _ (h9))) hown hK hP 0 rfl rfl 0 (by decide) (hts (.fieldLink RX6 9 "MarbleBench$Speakers" "froms" "[I") (List.mem_of_getElem? (i := 2) rfl)) (fun _ h9 => h9) rfl dX6_firstByEnds_45 ?_
            refine lv_iload_n hx hb dX6_firstByEnds_48 rfl (lv_at hl 4 rfl) ?_
            obtain ⟨hi49, hF⟩ := hF
            refine va_iald hx hb hK hP 1 0 rfl rfl hi49 dX6_firstByEnds_49 ?_
            refine lv_iload_n hx hb dX6_firstByEnds_50 rfl (lv_at hl 3 rfl) ?_
            refine lv_icmp_ge (tgt := 64) hx hb dX6_firstByEnds_51 (by decide) (fun c_51 => ?_) (fun c_51 => ?_)
            · have hF := hF.1 c_51
              exact wX6_firstByEnds_64 C ih M27 x1 x2 x3 _ _ _ hF hP hD hS (lv_sub hl [1, 2, 3, 4] rfl)
            · have hF := hF.2 c_51
              exact wX6_firstByEnds_54 C ih M27 x3 r27 _ _ _ hF hP hD hS (lv_sub hl [1, 4, 0] rfl)
noncomputable def PX6_firstByEnds (N : Nat) (M : mb_m) (K : Int32 → mb_m → Prop) : Prop := PX6_firstByEnds_6 N K N M (0 : Int32) (-1 : Int32) (0 : Int32)
set_option maxHeartbeats 4000000 in
set_option maxRecDepth 100000 in
theorem cnX6_firstByEnds (l : Launch) (D : va_G) (Y : Nat → ClassId) (N : Nat) (o : Nat) (a : Nat → Nat) (M : mb_m) (sz : Nat) (K : Int32 → mb_m → Prop) (hF : PX6_firstByEnds N M K) : Met l yX6_firstByEnds wsX6_firstByEnds ({ frames := 2, cells := 0, slots := 0, locals := 45 } : Room) (va_Pc [.ref o] (mb_B D Y (gw6 Y o a M) sz)) (va_Qi K (fun u t => mb_T D (va_A (gw6 Y o a M) sz) (gw6 Y o a u) t) (va_A (gw6 Y o a M) sz)) 0 0 (va_A (gw6 Y o a M) sz) := by
  refine mb_begin (cc := cX6_firstByEnds) (maxL := 5) (ret := (some .int)) (by decide +kernel) rfl (Nat.le_of_ble_eq_true rfl) ?_
  intro p e s m below meth c ls C hsz hnm hP hD hl
  generalize hAe : va_A (gw6 Y o a M) sz = A at C hD ⊢
  have C : mb_Cx p s m meth c ([.ref o] : List Value).toArray cX6_firstByEnds 5 (some .int) wsX6_firstByEnds RX6 D Y A := C
  obtain ⟨hx, hb, hr, hml, hts, hown, hlocks, hA, hG⟩ := id C
  have hK := hG.1
  have hS : va_S A s.heap s.heap [] := va_S.rf
  have hl : lv_has ls 5 [(0, .ref o)] := hl
  refine lv_iconst (v := 0) hx hb dX6_firstByEnds_0 (by decide) ?_
  refine lv_istore_n (lv' := [(1, .int (0 : Int32)), (0, .ref o)]) hx hb dX6_firstByEnds_1 rfl hl (by decide) rfl (fun ls hl => ?_)
  refine lv_iconst (v := -1) hx hb dX6_firstByEnds_2 (by decide) ?_
  refine lv_istore_n (lv' := [(2, .int (-1 : Int32)), (1, .int (0 : Int32)), (0, .ref o)]) hx hb dX6_firstByEnds_3 rfl hl (by decide) rfl (fun ls hl => ?_)
  refine lv_iconst (v := 0) hx hb dX6_firstByEnds_4 (by decide) ?_
  refine lv_istore_n (lv' := [(3, .int (0 : Int32)), (2, .int (-1 : Int32)), (1, .int (0 : Int32)), (0, .ref o)]) hx hb dX6_firstByEnds_5 rfl hl (by decide) rfl (fun ls hl => ?_)
  exact wX6_firstByEnds_6 C N M (0 : Int32) (-1 : Int32) (0 : Int32) _ _ _ hF hP hD hS (lv_sub hl [3, 2, 1, 0] rfl)
end
section
noncomputable def PX6_lastByEnds_69 (N : Nat) (K : Int32 → mb_m → Prop) (b13 : mb_m → Int32 → Int32 → Int32 → Int32 → Prop) (M : mb_m) (x1 x2 x3 x4 : Int32) : Prop := ∀ v69 : Int32, v69 = x4 + (1 : Int32) → (b13 M x1 x2 x3 v69)
set_option maxHeartbeats 4000000 in
set_option maxRecDepth 100000 in
theorem wX6_lastByEnds_69 {p : Program} {l : Launch} {e : Env} {s : State} {m : MethodId} {below : List Frame} {meth : Method} {c : Code} {args : Array Value} {D : va_G} {Y : Nat → ClassId} {A : Nat → Prop} {o : Nat} {a : Nat → Nat} {N : Nat} {K : Int32 → mb_m → Prop} {b13 : mb_m → Int32 → Int32 → Int32 → Int32 → Prop} (C : mb_Cx p s m meth c args cX6_lastByEnds 5 (some .int) wsX6_lastByEnds RX6 D Y A) (hb13 : ∀ (M : mb_m) (x1 x2 x3 x4 : Int32) (H : Heap) (locs : List Loc) (ls : Array Slot), b13 M x1 x2 x3 x4 → va_P D vwCl (gw6 Y o a M) H → va_D A (gw6 Y o a M) → va_S A s.heap H locs → lv_has ls 5 [(0, .ref o), (1, .int x1), (2, .int x2), (3, .int x3), (4, .int x4)] → W p l e ({ frames := 2, cells := 0, slots := 0, locals := 45 } : Room) s m args below meth c H locs 0 0 (MQ below (va_Qi K (fun u t => mb_T D A (gw6 Y o a u) t) A) args s 0 0 A) (F0 m 13 ls [])) : ∀ (M : mb_m) (x1 x2 x3 x4 : Int32) (H : Heap) (locs : List Loc) (ls : Array Slot), PX6_lastByEnds_69 N K b13 M x1 x2 x3 x4 → va_P D vwCl (gw6 Y o a M) H → va_D A (gw6 Y o a M) → va_S A s.heap H locs → lv_has ls 5 [(0, .ref o), (1, .int x1), (2, .int x2), (3, .int x3), (4, .int x4)] → W p l e ({ frames := 2, cells := 0, slots := 0, locals := 45 } : Room) s m args below meth c H locs 0 0 (MQ below (va_Qi K (fun u t => mb_T D A (gw6 Y o a u) t) A) args s 0 0 A) (F0 m 69 ls []) := by
  obtain ⟨hx, hb, hr, hml, hts, hown, hlocks, hA, hG⟩ := id C
  have hK := hG.1
  intro M x1 x2 x3 x4 H locs ls hF hP hD hS hl
  obtain ⟨v69, ev69⟩ : ∃ y : Int32, y = x4 + (1 : Int32) := ⟨_, rfl⟩
  have hF := hF v69 ev69
  refine lv_iinc (v := v69) (lv' := [(4, .int v69), (0, .ref o), (1, .int x1), (2, .int x2), (3, .int x3)]) hx hb dX6_lastByEnds_69 hl (k := 4) rfl (by rw [ev69]; rfl) (by decide) rfl (fun ls hl => ?_)
  refine lv_goto (tgt := 13) hx hb dX6_lastByEnds_72 (by decide) ?_
  exact hb13 M x1 x2 x3 v69 _ _ _ hF hP hD hS (lv_sub hl [1, 2, 3, 4, 0] rfl)
noncomputable def PX6_lastByEnds_13_b (N : Nat) (K : Int32 → mb_m → Prop) (b13 : mb_m → Int32 → Int32 → Int32 → Int32 → Prop) (M : mb_m) (x1 x2 x3 x4 : Int32) : Prop := ((M 3 0) ≤ x4 → K x3 M) ∧ (¬ (M 3 0) ≤ x4 → ((20 : Int32) ≤ x4 → K x3 M) ∧ (¬ (20 : Int32) ≤ x4 → vp_in x4 20 ∧ (PX7_isWithin N (M 1 x4.toNatClampNeg) x1 x3 (fun r38 _ => (r38 = 0 → PX6_lastByEnds_69 N K b13 M x1 x2 x3 x4) ∧ (¬ r38 = 0 → vp_in x4 20 ∧ (PX6_weightIn N M ((M 1 x4.toNatClampNeg) + (1 : Int32)) (fun r54 M54 => (x2 ≤ r54 → PX6_lastByEnds_69 N K b13 M54 x1 x2 x3 x4) ∧ (¬ x2 ≤ r54 → vp_in x4 20 ∧ (∀ v68 : Int32, v68 = (M54 1 x4.toNatClampNeg) → (PX6_lastByEnds_69 N K b13 M54 x1 x2 v68 x4))))))))))
noncomputable def PX6_lastByEnds_13 (N : Nat) (K : Int32 → mb_m → Prop) (n : Nat) : mb_m → Int32 → Int32 → Int32 → Int32 → Prop := Nat.rec (motive := fun _ => mb_m → Int32 → Int32 → Int32 → Int32 → Prop) (fun _ _ _ _ _ => False) (fun _ b13 => PX6_lastByEnds_13_b N K  b13) n
set_option maxHeartbeats 4000000 in
set_option maxRecDepth 100000 in
theorem wX6_lastByEnds_13 {p : Program} {l : Launch} {e : Env} {s : State} {m : MethodId} {below : List Frame} {meth : Method} {c : Code} {args : Array Value} {D : va_G} {Y : Nat → ClassId} {A : Nat → Prop} {o : Nat} {a : Nat → Nat} {N : Nat} {K : Int32 → mb_m → Prop} (C : mb_Cx p s m meth c args cX6_lastByEnds 5 (some .int) wsX6_lastByEnds RX6 D Y A) : ∀ (n : Nat), (∀ (M : mb_m) (x1 x2 x3 x4 : Int32) (H : Heap) (locs : List Loc) (ls : Array Slot), PX6_lastByEnds_13 N K  n M x1 x2 x3 x4 → va_P D vwCl (gw6 Y o a M) H → va_D A (gw6 Y o a M) → va_S A s.heap H locs → lv_has ls 5 [(0, .ref o), (1, .int x1), (2, .int x2), (3, .int x3), (4, .int x4)] → W p l e ({ frames := 2, cells := 0, slots := 0, locals := 45 } : Room) s m args below meth c H locs 0 0 (MQ below (va_Qi K (fun u t => mb_T D A (gw6 Y o a u) t) A) args s 0 0 A) (F0 m 13 ls [])) := by
  obtain ⟨hx, hb, hr, hml, hts, hown, hlocks, hA, hG⟩ := id C
  have hK := hG.1
  intro n
  induction n with
  | zero => intro M x1 x2 x3 x4 H locs ls hF; exact (show False from hF).elim
  | succ n ih =>
    intro M x1 x2 x3 x4 H locs ls hF hP hD hS hl
    have hF : PX6_lastByEnds_13_b N K  (PX6_lastByEnds_13 N K  n) M x1 x2 x3 x4 := hF
    refine lv_iload hx hb dX6_lastByEnds_13 (lv_at hl 4 rfl) ?_
    refine lv_aload_n hx hb dX6_lastByEnds_15 rfl (lv_at hl 0 rfl) ?_
    refine va_get (D := D) (ci := 6) (v := .int (M 3 0)) (C := RX6) (T := TX6) (N := 4) hx hb hts (fun _ h9 => List.mem_cons_of_mem _ (List.mem_append_right _ (h9))) hown hK hP 0 rfl rfl 3 (by decide) (hts (.fieldLink RX6 21 "MarbleBench$Speakers" "number" "I") (List.mem_of_getElem? (i := 1) rfl)) (fun _ h9 => h9) rfl dX6_lastByEnds_16 ?_
    refine lv_icmp_ge (tgt := 75) hx hb dX6_lastByEnds_19 (by decide) (fun c_19 => ?_) (fun c_19 => ?_)
    · have hF := hF.1 c_19
      refine lv_iload_n hx hb dX6_lastByEnds_75 rfl (lv_at hl 3 rfl) ?_
      exact mb_ri (S := mb_m) (mc := 0) (ms := 0) (wf := fun u => gw6 Y o a u) C rfl (u := M) hF hP hD hS dX6_lastByEnds_76 (Nat.le_of_ble_eq_true rfl) (Nat.le_of_ble_eq_true rfl)
    · have hF := hF.2 c_19
      refine lv_iload hx hb dX6_lastByEnds_22 (lv_at hl 4 rfl) ?_
      refine lv_bipush (v := 20) hx hb dX6_lastByEnds_24 (by decide) ?_
      refine lv_icmp_ge (tgt := 75) hx hb dX6_lastByEnds_26 (by decide) (fun c_26 => ?_) (fun c_26 => ?_)
      · have hF := hF.1 c_26
        refine lv_iload_n hx hb dX6_lastByEnds_75 rfl (lv_at hl 3 rfl) ?_
        exact mb_ri (S := mb_m) (mc := 0) (ms := 0) (wf := fun u => gw6 Y o a u) C rfl (u := M) hF hP hD hS dX6_lastByEnds_76 (Nat.le_of_ble_eq_true rfl) (Nat.le_of_ble_eq_true rfl)
      · have hF := hF.2 c_26
        refine lv_aload_n hx hb dX6_lastByEnds_29 rfl (lv_at hl 0 rfl) ?_
        refine va_get (D := D) (ci := 6) (v := .ref (a 1)) (C := RX6) (T := TX6) (N := 4) hx hb hts (fun _ h9 => List.mem_cons_of_mem _ (List.mem_append_right _ (h9))) hown hK hP 0 rfl rfl 1 (by decide) (hts (.fieldLink RX6 15 "MarbleBench$Speakers" "tos" "[I") (List.mem_of_getElem? (i := 2) rfl)) (fun _ h9 => h9) rfl dX6_lastByEnds_30 ?_
        refine lv_iload hx hb dX6_lastByEnds_33 (lv_at hl 4 rfl) ?_
        obtain ⟨hi35, hF⟩ := hF
        refine va_iald hx hb hK hP 2 0 rfl rfl hi35 dX6_lastByEnds_35 ?_
        refine lv_iload_n hx hb dX6_lastByEnds_36 rfl (lv_at hl 1 rfl) ?_
        refine lv_iload_n hx hb dX6_lastByEnds_37 rfl (lv_at hl 3 rfl) ?_
        refine mb_cE hP hS hA (va_runSN (As := [.int (M 1 x4.toNatClampNeg), .int x1, .int x3]) (rest := []) ⟨hx, hb, hml, hown, hts⟩ (cnX7_isWithin l D Y N _ (M 1 x4.toNatClampNeg) x1 x3 _ hF) ⟨va_cnB 3 hts gX6_lastByEnds_X7_isWithin_n25 rfl rfl rfl (hG.2.1 _ (List.mem_of_getElem? (i := 26) rfl)) (hts (.initialized RX7) (List.mem_of_getElem? (i := 11) rfl)) (by decide +kernel) ⟨Nat.le_of_ble_eq_true rfl, Nat.le_of_ble_eq_true rfl⟩, hts (.static yX7_isWithin) (List.mem_of_getElem? (i := 10) rfl), trivial⟩ (mb_preS (A := A) hG mb_P0 mb_D0) rfl rfl hl.1 rfl (lv_room (Nat.le_of_ble_eq_true rfl)) dX6_lastByEnds_38 ⟨Nat.le_of_ble_eq_true rfl, Nat.le_of_ble_eq_true rfl⟩) (fun r38 H locs hF hP hS => ?_)
        refine lv_if_eq (tgt := 69) hx hb dX6_lastByEnds_41 (by decide) (fun c_41 => ?_) (fun c_41 => ?_)
        · have hF := hF.1 c_41
          exact wX6_lastByEnds_69 C ih M x1 x2 x3 x4 _ _ _ hF hP hD hS (lv_sub hl [0, 1, 2, 3, 4] rfl)
        · have hF := hF.2 c_41
          refine lv_aload_n hx hb dX6_lastByEnds_44 rfl (lv_at hl 0 rfl) ?_
          refine lv_aload_n hx hb dX6_lastByEnds_45 rfl (lv_at hl 0 rfl) ?_
          refine va_get (D := D) (ci := 6) (v := .ref (a 1)) (C := RX6) (T := TX6) (N := 4) hx hb hts (fun _ h9 => List.mem_cons_of_mem _ (List.mem_append_right _ (h9))) hown hK hP 0 rfl rfl 1 (by decide) (hts (.fieldLink RX6 15 "MarbleBench$Speakers" "tos" "[I") (List.mem_of_getElem? (i := 2) rfl)) (fun _ h9 => h9) rfl dX6_lastByEnds_46 ?_
          refine lv_iload hx hb dX6_lastByEnds_49 (lv_at hl 4 rfl) ?_
          obtain ⟨hi51, hF⟩ := hF
          refine va_iald hx hb hK hP 2 0 rfl rfl hi51 dX6_lastByEnds_51 ?_
          refine lv_iconst (v := 1) hx hb dX6_lastByEnds_52 (by decide) ?_
          refine lv_iadd hx hb dX6_lastByEnds_53 ?_
          refine mb_cW hD hS hA (va_runV (As := [.int ((M 1 x4.toNatClampNeg) + (1 : Int32))]) (rest := []) ⟨hx, hb, hml, hown, hts⟩ (cnX6_weightIn l D Y N o a M _ ((M 1 x4.toNatClampNeg) + (1 : Int32)) _ hF) (cwV 1 hts gX6_lastByEnds_X6_weightIn rfl rfl rfl (by decide +kernel) ⟨Nat.le_of_ble_eq_true rfl, Nat.le_of_ble_eq_true rfl⟩) (mb_preV hG hP hD 0 rfl rfl) rfl rfl hl.1 rfl (lv_room (Nat.le_of_ble_eq_true rfl)) dX6_lastByEnds_54 ⟨Nat.le_of_ble_eq_true rfl, Nat.le_of_ble_eq_true rfl⟩) (fun r54 M54 H locs hF hP hD hS => ?_)
          refine lv_iload_n hx hb dX6_lastByEnds_57 rfl (lv_at hl 2 rfl) ?_
          refine lv_icmp_ge (tgt := 69) hx hb dX6_lastByEnds_58 (by decide) (fun c_58 => ?_) (fun c_58 => ?_)
          · have hF := hF.1 c_58
            exact wX6_lastByEnds_69 C ih M54 x1 x2 x3 x4 _ _ _ hF hP hD hS (lv_sub hl [0, 1, 2, 3, 4] rfl)
          · have hF := hF.2 c_58
            refine lv_aload_n hx hb dX6_lastByEnds_61 rfl (lv_at hl 0 rfl) ?_
            refine va_get (D := D) (ci := 6) (v := .ref (a 1)) (C := RX6) (T := TX6) (N := 4) hx hb hts (fun _ h9 => List.mem_cons_of_mem _ (List.mem_append_right _ (h9))) hown hK hP 0 rfl rfl 1 (by decide) (hts (.fieldLink RX6 15 "MarbleBench$Speakers" "tos" "[I") (List.mem_of_getElem? (i := 2) rfl)) (fun _ h9 => h9) rfl dX6_lastByEnds_62 ?_
            refine lv_iload hx hb dX6_lastByEnds_65 (lv_at hl 4 rfl) ?_
            obtain ⟨hi67, hF⟩ := hF
            refine va_iald hx hb hK hP 2 0 rfl rfl hi67 dX6_lastByEnds_67 ?_
            refine lv_topi (fun v68 ev68 => ?_)
            have hF := hF v68 ev68
            refine lv_istore_n (lv' := [(3, .int v68), (0, .ref o), (1, .int x1), (2, .int x2), (4, .int x4)]) hx hb dX6_lastByEnds_68 rfl hl (by decide) rfl (fun ls hl => ?_)
            exact wX6_lastByEnds_69 C ih M54 x1 x2 v68 x4 _ _ _ hF hP hD hS (lv_sub hl [1, 2, 3, 0, 4] rfl)
noncomputable def PX6_lastByEnds (N : Nat) (M : mb_m) (x1 : Int32) (K : Int32 → mb_m → Prop) : Prop := PX6_weightIn N M x1 (fun r2 M2 => PX6_lastByEnds_13 N K N M2 x1 r2 (2000 : Int32) (0 : Int32))
set_option maxHeartbeats 4000000 in
set_option maxRecDepth 100000 in
theorem cnX6_lastByEnds (l : Launch) (D : va_G) (Y : Nat → ClassId) (N : Nat) (o : Nat) (a : Nat → Nat) (M : mb_m) (sz : Nat) (x1 : Int32) (K : Int32 → mb_m → Prop) (hF : PX6_lastByEnds N M x1 K) : Met l yX6_lastByEnds wsX6_lastByEnds ({ frames := 2, cells := 0, slots := 0, locals := 45 } : Room) (va_Pc [.ref o, .int x1] (mb_B D Y (gw6 Y o a M) sz)) (va_Qi K (fun u t => mb_T D (va_A (gw6 Y o a M) sz) (gw6 Y o a u) t) (va_A (gw6 Y o a M) sz)) 0 0 (va_A (gw6 Y o a M) sz) := by
  refine mb_begin (cc := cX6_lastByEnds) (maxL := 5) (ret := (some .int)) (by decide +kernel) rfl (Nat.le_of_ble_eq_true rfl) ?_
  intro p e s m below meth c ls C hsz hnm hP hD hl
  generalize hAe : va_A (gw6 Y o a M) sz = A at C hD ⊢
  have C : mb_Cx p s m meth c ([.ref o, .int x1] : List Value).toArray cX6_lastByEnds 5 (some .int) wsX6_lastByEnds RX6 D Y A := C
  obtain ⟨hx, hb, hr, hml, hts, hown, hlocks, hA, hG⟩ := id C
  have hK := hG.1
  have hS : va_S A s.heap s.heap [] := va_S.rf
  have hl : lv_has ls 5 [(0, .ref o), (1, .int x1)] := hl
  refine lv_aload_n hx hb dX6_lastByEnds_0 rfl (lv_at hl 0 rfl) ?_
  refine lv_iload_n hx hb dX6_lastByEnds_1 rfl (lv_at hl 1 rfl) ?_
  refine mb_cW hD hS hA (va_runV (As := [.int x1]) (rest := []) ⟨hx, hb, hml, hown, hts⟩ (cnX6_weightIn l D Y N o a M _ x1 _ hF) (cwV 1 hts gX6_lastByEnds_X6_weightIn rfl rfl rfl (by decide +kernel) ⟨Nat.le_of_ble_eq_true rfl, Nat.le_of_ble_eq_true rfl⟩) (mb_preV hG hP hD 0 rfl rfl) rfl rfl hl.1 rfl (lv_room (Nat.le_of_ble_eq_true rfl)) dX6_lastByEnds_2 ⟨Nat.le_of_ble_eq_true rfl, Nat.le_of_ble_eq_true rfl⟩) (fun r2 M2 H locs hF hP hD hS => ?_)
  refine lv_istore_n (lv' := [(2, .int r2), (0, .ref o), (1, .int x1)]) hx hb dX6_lastByEnds_5 rfl hl (by decide) rfl (fun ls hl => ?_)
  refine lv_sipush (v := 2000) hx hb dX6_lastByEnds_6 (by decide) ?_
  refine lv_istore_n (lv' := [(3, .int (2000 : Int32)), (2, .int r2), (0, .ref o), (1, .int x1)]) hx hb dX6_lastByEnds_9 rfl hl (by decide) rfl (fun ls hl => ?_)
  refine lv_iconst (v := 0) hx hb dX6_lastByEnds_10 (by decide) ?_
  refine lv_istore (lv' := [(4, .int (0 : Int32)), (3, .int (2000 : Int32)), (2, .int r2), (0, .ref o), (1, .int x1)]) hx hb dX6_lastByEnds_11 hl (by decide) rfl (fun ls hl => ?_)
  exact wX6_lastByEnds_13 C N M2 x1 r2 (2000 : Int32) (0 : Int32) _ _ _ hF hP hD hS (lv_sub hl [3, 4, 2, 1, 0] rfl)
end
section
noncomputable def PX6_firstByYears_33 (N : Nat) (K : Int32 → mb_m → Prop) (b8 : mb_m → Int32 → Int32 → Int32 → Prop) (M : mb_m) (x1 x2 x3 : Int32) : Prop := ∀ v33 : Int32, v33 = x3 + (1 : Int32) → (b8 M x1 x2 v33)
set_option maxHeartbeats 4000000 in
set_option maxRecDepth 100000 in
theorem wX6_firstByYears_33 {p : Program} {l : Launch} {e : Env} {s : State} {m : MethodId} {below : List Frame} {meth : Method} {c : Code} {args : Array Value} {D : va_G} {Y : Nat → ClassId} {A : Nat → Prop} {o : Nat} {a : Nat → Nat} {N : Nat} {K : Int32 → mb_m → Prop} {b8 : mb_m → Int32 → Int32 → Int32 → Prop} (C : mb_Cx p s m meth c args cX6_firstByYears 5 (some .int) wsX6_firstByYears RX6 D Y A) (hb8 : ∀ (M : mb_m) (x1 x2 x3 : Int32) (H : Heap) (locs : List Loc) (ls : Array Slot), b8 M x1 x2 x3 → va_P D vwCl (gw6 Y o a M) H → va_D A (gw6 Y o a M) → va_S A s.heap H locs → lv_has ls 5 [(0, .ref o), (1, .int x1), (2, .int x2), (3, .int x3)] → W p l e ({ frames := 2, cells := 0, slots := 0, locals := 45 } : Room) s m args below meth c H locs 0 0 (MQ below (va_Qi K (fun u t => mb_T D A (gw6 Y o a u) t) A) args s 0 0 A) (F0 m 8 ls [])) : ∀ (M : mb_m) (x1 x2 x3 : Int32) (H : Heap) (locs : List Loc) (ls : Array Slot), PX6_firstByYears_33 N K b8 M x1 x2 x3 → va_P D vwCl (gw6 Y o a M) H → va_D A (gw6 Y o a M) → va_S A s.heap H locs → lv_has ls 5 [(0, .ref o), (1, .int x1), (2, .int x2), (3, .int x3)] → W p l e ({ frames := 2, cells := 0, slots := 0, locals := 45 } : Room) s m args below meth c H locs 0 0 (MQ below (va_Qi K (fun u t => mb_T D A (gw6 Y o a u) t) A) args s 0 0 A) (F0 m 33 ls []) := by
  obtain ⟨hx, hb, hr, hml, hts, hown, hlocks, hA, hG⟩ := id C
  have hK := hG.1
  intro M x1 x2 x3 H locs ls hF hP hD hS hl
  obtain ⟨v33, ev33⟩ : ∃ y : Int32, y = x3 + (1 : Int32) := ⟨_, rfl⟩
  have hF := hF v33 ev33
  refine lv_iinc (v := v33) (lv' := [(3, .int v33), (0, .ref o), (1, .int x1), (2, .int x2)]) hx hb dX6_firstByYears_33 hl (k := 3) rfl (by rw [ev33]; rfl) (by decide) rfl (fun ls hl => ?_)
  refine lv_goto (tgt := 8) hx hb dX6_firstByYears_36 (by decide) ?_
  exact hb8 M x1 x2 v33 _ _ _ hF hP hD hS (lv_sub hl [1, 2, 3, 0] rfl)
noncomputable def PX6_firstByYears_8_b (N : Nat) (K : Int32 → mb_m → Prop) (b8 : mb_m → Int32 → Int32 → Int32 → Prop) (M : mb_m) (x1 x2 x3 : Int32) : Prop := ((2000 : Int32) < x3 → K x2 M) ∧ (¬ (2000 : Int32) < x3 → PX6_weightIn N M x3 (fun r17 M17 => (r17 ≤ x1 → PX6_firstByYears_33 N K b8 M17 x1 x2 x3) ∧ (¬ r17 ≤ x1 → PX6_firstByYears_33 N K b8 M17 r17 x3 x3)))
noncomputable def PX6_firstByYears_8 (N : Nat) (K : Int32 → mb_m → Prop) (n : Nat) : mb_m → Int32 → Int32 → Int32 → Prop := Nat.rec (motive := fun _ => mb_m → Int32 → Int32 → Int32 → Prop) (fun _ _ _ _ => False) (fun _ b8 => PX6_firstByYears_8_b N K  b8) n
set_option maxHeartbeats 4000000 in
set_option maxRecDepth 100000 in
theorem wX6_firstByYears_8 {p : Program} {l : Launch} {e : Env} {s : State} {m : MethodId} {below : List Frame} {meth : Method} {c : Code} {args : Array Value} {D : va_G} {Y : Nat → ClassId} {A : Nat → Prop} {o : Nat} {a : Nat → Nat} {N : Nat} {K : Int32 → mb_m → Prop} (C : mb_Cx p s m meth c args cX6_firstByYears 5 (some .int) wsX6_firstByYears RX6 D Y A) : ∀ (n : Nat), (∀ (M : mb_m) (x1 x2 x3 : Int32) (H : Heap) (locs : List Loc) (ls : Array Slot), PX6_firstByYears_8 N K  n M x1 x2 x3 → va_P D vwCl (gw6 Y o a M) H → va_D A (gw6 Y o a M) → va_S A s.heap H locs → lv_has ls 5 [(0, .ref o), (1, .int x1), (2, .int x2), (3, .int x3)] → W p l e ({ frames := 2, cells := 0, slots := 0, locals := 45 } : Room) s m args below meth c H locs 0 0 (MQ below (va_Qi K (fun u t => mb_T D A (gw6 Y o a u) t) A) args s 0 0 A) (F0 m 8 ls [])) := by
  obtain ⟨hx, hb, hr, hml, hts, hown, hlocks, hA, hG⟩ := id C
  have hK := hG.1
  intro n
  induction n with
  | zero => intro M x1 x2 x3 H locs ls hF; exact (show False from hF).elim
  | succ n ih =>
    intro M x1 x2 x3 H locs ls hF hP hD hS hl
    have hF : PX6_firstByYears_8_b N K  (PX6_firstByYears_8 N K  n) M x1 x2 x3 := hF
    refine lv_iload_n hx hb dX6_firstByYears_8 rfl (lv_at hl 3 rfl) ?_
    refine lv_sipush (v := 2000) hx hb dX6_firstByYears_9 (by decide) ?_
    refine lv_icmp_gt (tgt := 39) hx hb dX6_firstByYears_12 (by decide) (fun c_12 => ?_) (fun c_12 => ?_)
    · have hF := hF.1 c_12
      refine lv_iload_n hx hb dX6_firstByYears_39 rfl (lv_at hl 2 rfl) ?_
      exact mb_ri (S := mb_m) (mc := 0) (ms := 0) (wf := fun u => gw6 Y o a u) C rfl (u := M) hF hP hD hS dX6_firstByYears_40 (Nat.le_of_ble_eq_true rfl) (Nat.le_of_ble_eq_true rfl)
    · have hF := hF.2 c_12
      refine lv_aload_n hx hb dX6_firstByYears_15 rfl (lv_at hl 0 rfl) ?_
      refine lv_iload_n hx hb dX6_firstByYears_16 rfl (lv_at hl 3 rfl) ?_
      refine mb_cW hD hS hA (va_runV (As := [.int x3]) (rest := []) ⟨hx, hb, hml, hown, hts⟩ (cnX6_weightIn l D Y N o a M _ x3 _ hF) (cwV 1 hts gX6_firstByYears_X6_weightIn rfl rfl rfl (by decide +kernel) ⟨Nat.le_of_ble_eq_true rfl, Nat.le_of_ble_eq_true rfl⟩) (mb_preV hG hP hD 0 rfl rfl) rfl rfl hl.1 rfl (lv_room (Nat.le_of_ble_eq_true rfl)) dX6_firstByYears_17 ⟨Nat.le_of_ble_eq_true rfl, Nat.le_of_ble_eq_true rfl⟩) (fun r17 M17 H locs hF hP hD hS => ?_)
      refine lv_istore (lv' := [(4, .int r17), (0, .ref o), (1, .int x1), (2, .int x2), (3, .int x3)]) hx hb dX6_firstByYears_20 hl (by decide) rfl (fun ls hl => ?_)
      refine lv_iload hx hb dX6_firstByYears_22 (lv_at hl 0 rfl) ?_
      refine lv_iload_n hx hb dX6_firstByYears_24 rfl (lv_at hl 2 rfl) ?_
      refine lv_icmp_le (tgt := 33) hx hb dX6_firstByYears_25 (by decide) (fun c_25 => ?_) (fun c_25 => ?_)
      · have hF := hF.1 c_25
        exact wX6_firstByYears_33 C ih M17 x1 x2 x3 _ _ _ hF hP hD hS (lv_sub hl [1, 2, 3, 4] rfl)
      · have hF := hF.2 c_25
        refine lv_iload hx hb dX6_firstByYears_28 (lv_at hl 0 rfl) ?_
        refine lv_istore_n (lv' := [(1, .int r17), (4, .int r17), (0, .ref o), (2, .int x2), (3, .int x3)]) hx hb dX6_firstByYears_30 rfl hl (by decide) rfl (fun ls hl => ?_)
        refine lv_iload_n hx hb dX6_firstByYears_31 rfl (lv_at hl 4 rfl) ?_
        refine lv_istore_n (lv' := [(2, .int x3), (1, .int r17), (4, .int r17), (0, .ref o), (3, .int x3)]) hx hb dX6_firstByYears_32 rfl hl (by decide) rfl (fun ls hl => ?_)
        exact wX6_firstByYears_33 C ih M17 r17 x3 x3 _ _ _ hF hP hD hS (lv_sub hl [3, 1, 0, 4] rfl)
noncomputable def PX6_firstByYears (N : Nat) (M : mb_m) (K : Int32 → mb_m → Prop) : Prop := PX6_firstByYears_8 N K N M (0 : Int32) (-1 : Int32) (1400 : Int32)
set_option maxHeartbeats 4000000 in
set_option maxRecDepth 100000 in
theorem cnX6_firstByYears (l : Launch) (D : va_G) (Y : Nat → ClassId) (N : Nat) (o : Nat) (a : Nat → Nat) (M : mb_m) (sz : Nat) (K : Int32 → mb_m → Prop) (hF : PX6_firstByYears N M K) : Met l yX6_firstByYears wsX6_firstByYears ({ frames := 2, cells := 0, slots := 0, locals := 45 } : Room) (va_Pc [.ref o] (mb_B D Y (gw6 Y o a M) sz)) (va_Qi K (fun u t => mb_T D (va_A (gw6 Y o a M) sz) (gw6 Y o a u) t) (va_A (gw6 Y o a M) sz)) 0 0 (va_A (gw6 Y o a M) sz) := by
  refine mb_begin (cc := cX6_firstByYears) (maxL := 5) (ret := (some .int)) (by decide +kernel) rfl (Nat.le_of_ble_eq_true rfl) ?_
  intro p e s m below meth c ls C hsz hnm hP hD hl
  generalize hAe : va_A (gw6 Y o a M) sz = A at C hD ⊢
  have C : mb_Cx p s m meth c ([.ref o] : List Value).toArray cX6_firstByYears 5 (some .int) wsX6_firstByYears RX6 D Y A := C
  obtain ⟨hx, hb, hr, hml, hts, hown, hlocks, hA, hG⟩ := id C
  have hK := hG.1
  have hS : va_S A s.heap s.heap [] := va_S.rf
  have hl : lv_has ls 5 [(0, .ref o)] := hl
  refine lv_iconst (v := 0) hx hb dX6_firstByYears_0 (by decide) ?_
  refine lv_istore_n (lv' := [(1, .int (0 : Int32)), (0, .ref o)]) hx hb dX6_firstByYears_1 rfl hl (by decide) rfl (fun ls hl => ?_)
  refine lv_iconst (v := -1) hx hb dX6_firstByYears_2 (by decide) ?_
  refine lv_istore_n (lv' := [(2, .int (-1 : Int32)), (1, .int (0 : Int32)), (0, .ref o)]) hx hb dX6_firstByYears_3 rfl hl (by decide) rfl (fun ls hl => ?_)
  refine lv_sipush (v := 1400) hx hb dX6_firstByYears_4 (by decide) ?_
  refine lv_istore_n (lv' := [(3, .int (1400 : Int32)), (2, .int (-1 : Int32)), (1, .int (0 : Int32)), (0, .ref o)]) hx hb dX6_firstByYears_7 rfl hl (by decide) rfl (fun ls hl => ?_)
  exact wX6_firstByYears_8 C N M (0 : Int32) (-1 : Int32) (1400 : Int32) _ _ _ hF hP hD hS (lv_sub hl [3, 2, 1, 0] rfl)
end
section
noncomputable def PX6_lastByYears_8_b (N : Nat) (K : Int32 → mb_m → Prop) (b8 : mb_m → Int32 → Int32 → Prop) (M : mb_m) (x2 x3 : Int32) : Prop := ((2000 : Int32) ≤ x3 → K x3 M) ∧ (¬ (2000 : Int32) ≤ x3 → PX6_weightIn N M (x3 + (1 : Int32)) (fun r19 M19 => (¬ r19 = x2 → K x3 M19) ∧ (r19 = x2 → ∀ v26 : Int32, v26 = x3 + (1 : Int32) → (b8 M19 x2 v26))))
noncomputable def PX6_lastByYears_8 (N : Nat) (K : Int32 → mb_m → Prop) (n : Nat) : mb_m → Int32 → Int32 → Prop := Nat.rec (motive := fun _ => mb_m → Int32 → Int32 → Prop) (fun _ _ _ => False) (fun _ b8 => PX6_lastByYears_8_b N K  b8) n
set_option maxHeartbeats 4000000 in
set_option maxRecDepth 100000 in
theorem wX6_lastByYears_8 {p : Program} {l : Launch} {e : Env} {s : State} {m : MethodId} {below : List Frame} {meth : Method} {c : Code} {args : Array Value} {D : va_G} {Y : Nat → ClassId} {A : Nat → Prop} {o : Nat} {a : Nat → Nat} {N : Nat} {K : Int32 → mb_m → Prop} (C : mb_Cx p s m meth c args cX6_lastByYears 4 (some .int) wsX6_lastByYears RX6 D Y A) : ∀ (n : Nat), (∀ (M : mb_m) (x2 x3 : Int32) (H : Heap) (locs : List Loc) (ls : Array Slot), PX6_lastByYears_8 N K  n M x2 x3 → va_P D vwCl (gw6 Y o a M) H → va_D A (gw6 Y o a M) → va_S A s.heap H locs → lv_has ls 4 [(0, .ref o), (2, .int x2), (3, .int x3)] → W p l e ({ frames := 2, cells := 0, slots := 0, locals := 45 } : Room) s m args below meth c H locs 0 0 (MQ below (va_Qi K (fun u t => mb_T D A (gw6 Y o a u) t) A) args s 0 0 A) (F0 m 8 ls [])) := by
  obtain ⟨hx, hb, hr, hml, hts, hown, hlocks, hA, hG⟩ := id C
  have hK := hG.1
  intro n
  induction n with
  | zero => intro M x2 x3 H locs ls hF; exact (show False from hF).elim
  | succ n ih =>
    intro M x2 x3 H locs ls hF hP hD hS hl
    have hF : PX6_lastByYears_8_b N K  (PX6_lastByYears_8 N K  n) M x2 x3 := hF
    refine lv_iload_n hx hb dX6_lastByYears_8 rfl (lv_at hl 2 rfl) ?_
    refine lv_sipush (v := 2000) hx hb dX6_lastByYears_9 (by decide) ?_
    refine lv_icmp_ge (tgt := 32) hx hb dX6_lastByYears_12 (by decide) (fun c_12 => ?_) (fun c_12 => ?_)
    · have hF := hF.1 c_12
      refine lv_iload_n hx hb dX6_lastByYears_32 rfl (lv_at hl 2 rfl) ?_
      exact mb_ri (S := mb_m) (mc := 0) (ms := 0) (wf := fun u => gw6 Y o a u) C rfl (u := M) hF hP hD hS dX6_lastByYears_33 (Nat.le_of_ble_eq_true rfl) (Nat.le_of_ble_eq_true rfl)
    · have hF := hF.2 c_12
      refine lv_aload_n hx hb dX6_lastByYears_15 rfl (lv_at hl 0 rfl) ?_
      refine lv_iload_n hx hb dX6_lastByYears_16 rfl (lv_at hl 2 rfl) ?_
      refine lv_iconst (v := 1) hx hb dX6_lastByYears_17 (by decide) ?_
      refine lv_iadd hx hb dX6_lastByYears_18 ?_
      refine mb_cW hD hS hA (va_runV (As := [.int (x3 + (1 : Int32))]) (rest := []) ⟨hx, hb, hml, hown, hts⟩ (cnX6_weightIn l D Y N o a M _ (x3 + (1 : Int32)) _ hF) (cwV 1 hts gX6_lastByYears_X6_weightIn rfl rfl rfl (by decide +kernel) ⟨Nat.le_of_ble_eq_true rfl, Nat.le_of_ble_eq_true rfl⟩) (mb_preV hG hP hD 0 rfl rfl) rfl rfl hl.1 rfl (lv_room (Nat.le_of_ble_eq_true rfl)) dX6_lastByYears_19 ⟨Nat.le_of_ble_eq_true rfl, Nat.le_of_ble_eq_true rfl⟩) (fun r19 M19 H locs hF hP hD hS => ?_)
      refine lv_iload_n hx hb dX6_lastByYears_22 rfl (lv_at hl 1 rfl) ?_
      refine lv_icmp_ne (tgt := 32) hx hb dX6_lastByYears_23 (by decide) (fun c_23 => ?_) (fun c_23 => ?_)
      · have hF := hF.1 c_23
        refine lv_iload_n hx hb dX6_lastByYears_32 rfl (lv_at hl 2 rfl) ?_
        exact mb_ri (S := mb_m) (mc := 0) (ms := 0) (wf := fun u => gw6 Y o a u) C rfl (u := M19) hF hP hD hS dX6_lastByYears_33 (Nat.le_of_ble_eq_true rfl) (Nat.le_of_ble_eq_true rfl)
      · have hF := hF.2 c_23
        obtain ⟨v26, ev26⟩ : ∃ y : Int32, y = x3 + (1 : Int32) := ⟨_, rfl⟩
        have hF := hF v26 ev26
        refine lv_iinc (v := v26) (lv' := [(3, .int v26), (0, .ref o), (2, .int x2)]) hx hb dX6_lastByYears_26 hl (k := 2) rfl (by rw [ev26]; rfl) (by decide) rfl (fun ls hl => ?_)
        refine lv_goto (tgt := 8) hx hb dX6_lastByYears_29 (by decide) ?_
        exact ih M19 x2 v26 _ _ _ hF hP hD hS (lv_sub hl [1, 2, 0] rfl)
noncomputable def PX6_lastByYears (N : Nat) (M : mb_m) (x1 : Int32) (K : Int32 → mb_m → Prop) : Prop := PX6_weightIn N M x1 (fun r2 M2 => PX6_lastByYears_8 N K N M2 r2 x1)
set_option maxHeartbeats 4000000 in
set_option maxRecDepth 100000 in
theorem cnX6_lastByYears (l : Launch) (D : va_G) (Y : Nat → ClassId) (N : Nat) (o : Nat) (a : Nat → Nat) (M : mb_m) (sz : Nat) (x1 : Int32) (K : Int32 → mb_m → Prop) (hF : PX6_lastByYears N M x1 K) : Met l yX6_lastByYears wsX6_lastByYears ({ frames := 2, cells := 0, slots := 0, locals := 45 } : Room) (va_Pc [.ref o, .int x1] (mb_B D Y (gw6 Y o a M) sz)) (va_Qi K (fun u t => mb_T D (va_A (gw6 Y o a M) sz) (gw6 Y o a u) t) (va_A (gw6 Y o a M) sz)) 0 0 (va_A (gw6 Y o a M) sz) := by
  refine mb_begin (cc := cX6_lastByYears) (maxL := 4) (ret := (some .int)) (by decide +kernel) rfl (Nat.le_of_ble_eq_true rfl) ?_
  intro p e s m below meth c ls C hsz hnm hP hD hl
  generalize hAe : va_A (gw6 Y o a M) sz = A at C hD ⊢
  have C : mb_Cx p s m meth c ([.ref o, .int x1] : List Value).toArray cX6_lastByYears 4 (some .int) wsX6_lastByYears RX6 D Y A := C
  obtain ⟨hx, hb, hr, hml, hts, hown, hlocks, hA, hG⟩ := id C
  have hK := hG.1
  have hS : va_S A s.heap s.heap [] := va_S.rf
  have hl : lv_has ls 4 [(0, .ref o), (1, .int x1)] := hl
  refine lv_aload_n hx hb dX6_lastByYears_0 rfl (lv_at hl 0 rfl) ?_
  refine lv_iload_n hx hb dX6_lastByYears_1 rfl (lv_at hl 1 rfl) ?_
  refine mb_cW hD hS hA (va_runV (As := [.int x1]) (rest := []) ⟨hx, hb, hml, hown, hts⟩ (cnX6_weightIn l D Y N o a M _ x1 _ hF) (cwV 1 hts gX6_lastByYears_X6_weightIn rfl rfl rfl (by decide +kernel) ⟨Nat.le_of_ble_eq_true rfl, Nat.le_of_ble_eq_true rfl⟩) (mb_preV hG hP hD 0 rfl rfl) rfl rfl hl.1 rfl (lv_room (Nat.le_of_ble_eq_true rfl)) dX6_lastByYears_2 ⟨Nat.le_of_ble_eq_true rfl, Nat.le_of_ble_eq_true rfl⟩) (fun r2 M2 H locs hF hP hD hS => ?_)
  refine lv_istore_n (lv' := [(2, .int r2), (0, .ref o), (1, .int x1)]) hx hb dX6_lastByYears_5 rfl hl (by decide) rfl (fun ls hl => ?_)
  refine lv_iload_n hx hb dX6_lastByYears_6 rfl (lv_at hl 2 rfl) ?_
  refine lv_istore_n (lv' := [(3, .int x1), (2, .int r2), (0, .ref o), (1, .int x1)]) hx hb dX6_lastByYears_7 rfl hl (by decide) rfl (fun ls hl => ?_)
  exact wX6_lastByYears_8 C N M2 r2 x1 _ _ _ hF hP hD hS (lv_sub hl [2, 1, 0] rfl)
end
