section
noncomputable def PL_coloured_82 (N : Nat) (K : Int32 → mb_S → Prop) (b4 : mb_m → mb_bs → Int32 → Int32 → Prop) (F : mb_m) (b : mb_bs) (x2 y0 y1 : Int32) : Prop := ∀ v83 : Int32, v83 = (y1 + y0) → (∀ v84 : Int32, v84 = x2 + (1 : Int32) → (b4 F b v83 v84))
set_option maxHeartbeats 4000000 in
set_option maxRecDepth 100000 in
theorem wL_coloured_82 {p : Program} {l : Launch} {e : Env} {s : State} {m : MethodId} {below : List Frame} {meth : Method} {c : Code} {args : Array Value} {D : va_G} {Y : Nat → ClassId} {A : Nat → Prop} {o : Nat} {a aa ad : Nat → Nat} {N : Nat} {K : Int32 → mb_S → Prop} {b4 : mb_m → mb_bs → Int32 → Int32 → Prop} (CM : mb_CM l p s m meth c args cL_coloured 5 (some .int) wsL_coloured RL D Y A) (r4 t4 : Nat) (hr4 : 0 + 0 ≤ r4) (ht4 : 0 + 0 ≤ t4) (hb4 : ∀ (F : mb_m) (b : mb_bs) (x1 x2 : Int32) (H : Heap) (locs : List Loc) (ls : Array Slot) (cells slots : Nat), b4 F b x1 x2 → va_P D vwCl (wW Y o a aa ad b F) H → va_D A (wW Y o a aa ad b F) → va_S A s.heap H locs → lv_has ls 5 [(0, .ref o), (1, .int x1), (2, .int x2)] → cells + (r4) ≤ 260 → slots + (t4) ≤ 1560 → W p l e ({ frames := 9, cells := 260, slots := 1560, locals := 158 } : Room) s m args below meth c H locs cells slots (MQ below (va_Qi K (fun u t => mb_T D A (wW Y o a aa ad u.1 u.2) t) A) args s 260 1560 A) (F0 m 4 ls [])) : ∀ (F : mb_m) (b : mb_bs) (x2 y0 y1 : Int32) (H : Heap) (locs : List Loc) (ls : Array Slot) (cells slots : Nat), PL_coloured_82 N K b4 F b x2 y0 y1 → va_P D vwCl (wW Y o a aa ad b F) H → va_D A (wW Y o a aa ad b F) → va_S A s.heap H locs → lv_has ls 5 [(0, .ref o), (2, .int x2)] → cells + (0 + r4) ≤ 260 → slots + (0 + t4) ≤ 1560 → W p l e ({ frames := 9, cells := 260, slots := 1560, locals := 158 } : Room) s m args below meth c H locs cells slots (MQ below (va_Qi K (fun u t => mb_T D A (wW Y o a aa ad u.1 u.2) t) A) args s 260 1560 A) (F0 m 82 ls [.int y0, .int y1]) := by
  obtain ⟨C, hX, hl0, hN⟩ := id CM
  obtain ⟨hx, hb, hr, hml, hts, hown, hlocks, hA, hG⟩ := id C
  have hK := hG.1
  intro F b x2 y0 y1 H locs ls cells slots hF hP hD hS hl hc hs
  unfold PL_coloured_82 at hF
  refine lv_iadd hx hb dL_coloured_82 ?_
  refine lv_topi (fun v83 ev83 => ?_)
  have hF := hF v83 ev83
  refine lv_istore_n (lv' := [(1, .int v83), (0, .ref o), (2, .int x2)]) hx hb dL_coloured_83 rfl hl (by decide) rfl (fun ls hl => ?_)
  obtain ⟨v84, ev84⟩ : ∃ y : Int32, y = x2 + (1 : Int32) := ⟨_, rfl⟩
  have hF := hF v84 ev84
  refine lv_iinc (v := v84) (lv' := [(2, .int v84), (1, .int v83), (0, .ref o)]) hx hb dL_coloured_84 hl (k := 2) rfl (by rw [ev84]; rfl) (by decide) rfl (fun ls hl => ?_)
  refine lv_goto (tgt := 4) hx hb dL_coloured_87 (by decide) ?_
  exact hb4 F b v83 v84 _ _ _ _ _ hF hP hD hS (lv_sub hl [2, 1, 0] rfl) (by omega) (by omega)
noncomputable def PL_coloured_79 (N : Nat) (K : Int32 → mb_S → Prop) (b4 : mb_m → mb_bs → Int32 → Int32 → Prop) (F : mb_m) (b : mb_bs) (x2 y0 : Int32) : Prop := PL_coloured_82 N K b4 F b x2 (1000 : Int32) y0
set_option maxHeartbeats 4000000 in
set_option maxRecDepth 100000 in
theorem wL_coloured_79 {p : Program} {l : Launch} {e : Env} {s : State} {m : MethodId} {below : List Frame} {meth : Method} {c : Code} {args : Array Value} {D : va_G} {Y : Nat → ClassId} {A : Nat → Prop} {o : Nat} {a aa ad : Nat → Nat} {N : Nat} {K : Int32 → mb_S → Prop} {b4 : mb_m → mb_bs → Int32 → Int32 → Prop} (CM : mb_CM l p s m meth c args cL_coloured 5 (some .int) wsL_coloured RL D Y A) (r4 t4 : Nat) (hr4 : 0 + 0 ≤ r4) (ht4 : 0 + 0 ≤ t4) (hb4 : ∀ (F : mb_m) (b : mb_bs) (x1 x2 : Int32) (H : Heap) (locs : List Loc) (ls : Array Slot) (cells slots : Nat), b4 F b x1 x2 → va_P D vwCl (wW Y o a aa ad b F) H → va_D A (wW Y o a aa ad b F) → va_S A s.heap H locs → lv_has ls 5 [(0, .ref o), (1, .int x1), (2, .int x2)] → cells + (r4) ≤ 260 → slots + (t4) ≤ 1560 → W p l e ({ frames := 9, cells := 260, slots := 1560, locals := 158 } : Room) s m args below meth c H locs cells slots (MQ below (va_Qi K (fun u t => mb_T D A (wW Y o a aa ad u.1 u.2) t) A) args s 260 1560 A) (F0 m 4 ls [])) : ∀ (F : mb_m) (b : mb_bs) (x2 y0 : Int32) (H : Heap) (locs : List Loc) (ls : Array Slot) (cells slots : Nat), PL_coloured_79 N K b4 F b x2 y0 → va_P D vwCl (wW Y o a aa ad b F) H → va_D A (wW Y o a aa ad b F) → va_S A s.heap H locs → lv_has ls 5 [(0, .ref o), (2, .int x2)] → cells + (0 + r4) ≤ 260 → slots + (0 + t4) ≤ 1560 → W p l e ({ frames := 9, cells := 260, slots := 1560, locals := 158 } : Room) s m args below meth c H locs cells slots (MQ below (va_Qi K (fun u t => mb_T D A (wW Y o a aa ad u.1 u.2) t) A) args s 260 1560 A) (F0 m 79 ls [.int y0]) := by
  obtain ⟨C, hX, hl0, hN⟩ := id CM
  obtain ⟨hx, hb, hr, hml, hts, hown, hlocks, hA, hG⟩ := id C
  have hK := hG.1
  intro F b x2 y0 H locs ls cells slots hF hP hD hS hl hc hs
  unfold PL_coloured_79 at hF
  refine lv_sipush (v := 1000) hx hb dL_coloured_79 (by decide) ?_
  exact wL_coloured_82 CM r4 t4 (by omega) (by omega) hb4 F b x2 (1000 : Int32) y0 _ _ _ _ _ hF hP hD hS (lv_sub hl [0, 1] rfl) (by omega) (by omega)
noncomputable def PL_coloured_65 (N : Nat) (K : Int32 → mb_S → Prop) (b4 : mb_m → mb_bs → Int32 → Int32 → Prop) (F : mb_m) (b : mb_bs) (x2 x3 x4 y0 : Int32) : Prop := (¬ x3 = (-1 : Int32) → PL_coloured_79 N K b4 F b x2 y0) ∧ (x3 = (-1 : Int32) → (¬ x4 = 0 → PL_coloured_79 N K b4 F b x2 y0) ∧ (x4 = 0 → PL_coloured_82 N K b4 F b x2 (0 : Int32) y0))
set_option maxHeartbeats 4000000 in
set_option maxRecDepth 100000 in
theorem wL_coloured_65 {p : Program} {l : Launch} {e : Env} {s : State} {m : MethodId} {below : List Frame} {meth : Method} {c : Code} {args : Array Value} {D : va_G} {Y : Nat → ClassId} {A : Nat → Prop} {o : Nat} {a aa ad : Nat → Nat} {N : Nat} {K : Int32 → mb_S → Prop} {b4 : mb_m → mb_bs → Int32 → Int32 → Prop} (CM : mb_CM l p s m meth c args cL_coloured 5 (some .int) wsL_coloured RL D Y A) (r4 t4 : Nat) (hr4 : 0 + 0 ≤ r4) (ht4 : 0 + 0 ≤ t4) (hb4 : ∀ (F : mb_m) (b : mb_bs) (x1 x2 : Int32) (H : Heap) (locs : List Loc) (ls : Array Slot) (cells slots : Nat), b4 F b x1 x2 → va_P D vwCl (wW Y o a aa ad b F) H → va_D A (wW Y o a aa ad b F) → va_S A s.heap H locs → lv_has ls 5 [(0, .ref o), (1, .int x1), (2, .int x2)] → cells + (r4) ≤ 260 → slots + (t4) ≤ 1560 → W p l e ({ frames := 9, cells := 260, slots := 1560, locals := 158 } : Room) s m args below meth c H locs cells slots (MQ below (va_Qi K (fun u t => mb_T D A (wW Y o a aa ad u.1 u.2) t) A) args s 260 1560 A) (F0 m 4 ls [])) : ∀ (F : mb_m) (b : mb_bs) (x2 x3 x4 y0 : Int32) (H : Heap) (locs : List Loc) (ls : Array Slot) (cells slots : Nat), PL_coloured_65 N K b4 F b x2 x3 x4 y0 → va_P D vwCl (wW Y o a aa ad b F) H → va_D A (wW Y o a aa ad b F) → va_S A s.heap H locs → lv_has ls 5 [(0, .ref o), (2, .int x2), (3, .int x3), (4, .int x4)] → cells + (0 + r4) ≤ 260 → slots + (0 + t4) ≤ 1560 → W p l e ({ frames := 9, cells := 260, slots := 1560, locals := 158 } : Room) s m args below meth c H locs cells slots (MQ below (va_Qi K (fun u t => mb_T D A (wW Y o a aa ad u.1 u.2) t) A) args s 260 1560 A) (F0 m 65 ls [.int y0]) := by
  obtain ⟨C, hX, hl0, hN⟩ := id CM
  obtain ⟨hx, hb, hr, hml, hts, hown, hlocks, hA, hG⟩ := id C
  have hK := hG.1
  intro F b x2 x3 x4 y0 H locs ls cells slots hF hP hD hS hl hc hs
  unfold PL_coloured_65 at hF
  refine lv_iload_n hx hb dL_coloured_65 rfl (lv_at hl 2 rfl) ?_
  refine lv_iconst (v := -1) hx hb dL_coloured_66 (by decide) ?_
  refine lv_icmp_ne (tgt := 79) hx hb dL_coloured_67 (by decide) (fun c_67 => ?_) (fun c_67 => ?_)
  · have hF := hF.1 c_67
    exact wL_coloured_79 CM r4 t4 (by omega) (by omega) hb4 F b x2 y0 _ _ _ _ _ hF hP hD hS (lv_sub hl [0, 1] rfl) (by omega) (by omega)
  · have hF := hF.2 c_67
    refine lv_iload hx hb dL_coloured_70 (lv_at hl 3 rfl) ?_
    refine lv_if_ne (tgt := 79) hx hb dL_coloured_72 (by decide) (fun c_72 => ?_) (fun c_72 => ?_)
    · have hF := hF.1 c_72
      exact wL_coloured_79 CM r4 t4 (by omega) (by omega) hb4 F b x2 y0 _ _ _ _ _ hF hP hD hS (lv_sub hl [0, 1] rfl) (by omega) (by omega)
    · have hF := hF.2 c_72
      refine lv_iconst (v := 0) hx hb dL_coloured_75 (by decide) ?_
      refine lv_goto (tgt := 82) hx hb dL_coloured_76 (by decide) ?_
      exact wL_coloured_82 CM r4 t4 (by omega) (by omega) hb4 F b x2 (0 : Int32) y0 _ _ _ _ _ hF hP hD hS (lv_sub hl [0, 1] rfl) (by omega) (by omega)
noncomputable def PL_coloured_4_b (N : Nat) (K : Int32 → mb_S → Prop) (b4 : mb_m → mb_bs → Int32 → Int32 → Prop) (F : mb_m) (b : mb_bs) (x1 x2 : Int32) : Prop := ((64 : Int32) ≤ x2 → K x1 (b, F)) ∧ (¬ (64 : Int32) ≤ x2 → LP_cellAt N b F (x2 - x2 / (8 : Int32) * (8 : Int32)) (x2 / (8 : Int32)) (0 : Int32) (fun r20 u20 => LP_cellAt N u20.1 u20.2 (x2 - x2 / (8 : Int32) * (8 : Int32)) (x2 / (8 : Int32)) (1 : Int32) (fun r34 u34 => (r20 < 0 → PL_coloured_65 N K b4 u34.2 u34.1 x2 r20 r34 x1) ∧ (¬ r20 < 0 → ((6 : Int32) ≤ r20 → PL_coloured_65 N K b4 u34.2 u34.1 x2 r20 r34 x1) ∧ (¬ (6 : Int32) ≤ r20 → (r34 ≤ 0 → PL_coloured_65 N K b4 u34.2 u34.1 x2 r20 r34 x1) ∧ (¬ r34 ≤ 0 → ((3 : Int32) ≤ r34 → PL_coloured_65 N K b4 u34.2 u34.1 x2 r20 r34 x1) ∧ (¬ (3 : Int32) ≤ r34 → PL_coloured_82 N K b4 u34.2 u34.1 x2 (1 : Int32) x1)))))))
noncomputable def PL_coloured_4 (N : Nat) (K : Int32 → mb_S → Prop) (n : Nat) : mb_m → mb_bs → Int32 → Int32 → Prop := Nat.rec (motive := fun _ => mb_m → mb_bs → Int32 → Int32 → Prop) (fun _ _ _ _ => False) (fun _ b4 => PL_coloured_4_b N K  b4) n
set_option maxHeartbeats 4000000 in
set_option maxRecDepth 100000 in
theorem wL_coloured_4 {p : Program} {l : Launch} {e : Env} {s : State} {m : MethodId} {below : List Frame} {meth : Method} {c : Code} {args : Array Value} {D : va_G} {Y : Nat → ClassId} {A : Nat → Prop} {o : Nat} {a aa ad : Nat → Nat} {N : Nat} {K : Int32 → mb_S → Prop} (CM : mb_CM l p s m meth c args cL_coloured 5 (some .int) wsL_coloured RL D Y A) : ∀ (n : Nat), (∀ (F : mb_m) (b : mb_bs) (x1 x2 : Int32) (H : Heap) (locs : List Loc) (ls : Array Slot) (cells slots : Nat), PL_coloured_4 N K  n F b x1 x2 → va_P D vwCl (wW Y o a aa ad b F) H → va_D A (wW Y o a aa ad b F) → va_S A s.heap H locs → lv_has ls 5 [(0, .ref o), (1, .int x1), (2, .int x2)] → cells + (n * 4 + 0 + 0) ≤ 260 → slots + (n * 24 + 0 + 0) ≤ 1560 → W p l e ({ frames := 9, cells := 260, slots := 1560, locals := 158 } : Room) s m args below meth c H locs cells slots (MQ below (va_Qi K (fun u t => mb_T D A (wW Y o a aa ad u.1 u.2) t) A) args s 260 1560 A) (F0 m 4 ls [])) := by
  obtain ⟨C, hX, hl0, hN⟩ := id CM
  obtain ⟨hx, hb, hr, hml, hts, hown, hlocks, hA, hG⟩ := id C
  have hK := hG.1
  intro n
  induction n with
  | zero => intro F b x1 x2 H locs ls cells slots hF; exact (show False from hF).elim
  | succ n ih =>
    intro F b x1 x2 H locs ls cells slots hF hP hD hS hl hc hs
    have hF : PL_coloured_4_b N K  (PL_coloured_4 N K  n) F b x1 x2 := hF
    unfold PL_coloured_4_b at hF
    refine lv_iload_n hx hb dL_coloured_4 rfl (lv_at hl 2 rfl) ?_
    refine lv_bipush (v := 64) hx hb dL_coloured_5 (by decide) ?_
    refine lv_icmp_ge (tgt := 90) hx hb dL_coloured_7 (by decide) (fun c_7 => ?_) (fun c_7 => ?_)
    · have hF := hF.1 c_7
      refine lv_iload_n hx hb dL_coloured_90 rfl (lv_at hl 1 rfl) ?_
      exact mb_ri (S := mb_S) (mc := 260) (ms := 1560) (wf := fun u => wW Y o a aa ad u.1 u.2) C rfl (u := (b, F)) hF hP hD hS dL_coloured_91 (by omega) (by omega)
    · have hF := hF.2 c_7
      refine lv_aload_n hx hb dL_coloured_10 rfl (lv_at hl 0 rfl) ?_
      refine lv_iload_n hx hb dL_coloured_11 rfl (lv_at hl 2 rfl) ?_
      refine lv_bipush (v := 8) hx hb dL_coloured_12 (by decide) ?_
      refine lv_irem hx hb dL_coloured_14 (by decide) ?_
      refine lv_iload_n hx hb dL_coloured_15 rfl (lv_at hl 2 rfl) ?_
      refine lv_bipush (v := 8) hx hb dL_coloured_16 (by decide) ?_
      refine lv_idiv hx hb dL_coloured_18 (by decide) ?_
      refine lv_iconst (v := 0) hx hb dL_coloured_19 (by decide) ?_
      refine mb_cW (S := mb_S) hD hS hA (vx_runSW (As := [.ref o, .int (x2 - x2 / (8 : Int32) * (8 : Int32)), .int (x2 / (8 : Int32)), .int (0 : Int32)]) (rest := []) ⟨hx, hb, hml, hown, hts⟩ (cw_cellAt l hl0 D Y N o a aa ad b F _ (x2 - x2 / (8 : Int32) * (8 : Int32)) (x2 / (8 : Int32)) (0 : Int32) _ hF) (vx_cwSW 4 hts gL_coloured_L_cellAt rfl rfl rfl (by decide +kernel) ⟨Nat.le_of_ble_eq_true rfl, Nat.le_of_ble_eq_true rfl⟩) (mbm_pre CM hP hD hS) rfl rfl hl.1 rfl (lv_room (Nat.le_of_ble_eq_true rfl)) dL_coloured_20 ⟨by show _ ≤ 260; omega, by show _ ≤ 1560; omega⟩) (fun r20 u20 H locs hF hP hD hS => ?_)
      have hP : va_P D vwCl (wW Y o a aa ad u20.1 u20.2) H := hP
      have hD : va_D A (wW Y o a aa ad u20.1 u20.2) := hD
      refine lv_istore_n (lv' := [(3, .int r20), (0, .ref o), (1, .int x1), (2, .int x2)]) hx hb dL_coloured_23 rfl hl (by decide) rfl (fun ls hl => ?_)
      refine lv_aload_n hx hb dL_coloured_24 rfl (lv_at hl 1 rfl) ?_
      refine lv_iload_n hx hb dL_coloured_25 rfl (lv_at hl 3 rfl) ?_
      refine lv_bipush (v := 8) hx hb dL_coloured_26 (by decide) ?_
      refine lv_irem hx hb dL_coloured_28 (by decide) ?_
      refine lv_iload_n hx hb dL_coloured_29 rfl (lv_at hl 3 rfl) ?_
      refine lv_bipush (v := 8) hx hb dL_coloured_30 (by decide) ?_
      refine lv_idiv hx hb dL_coloured_32 (by decide) ?_
      refine lv_iconst (v := 1) hx hb dL_coloured_33 (by decide) ?_
      refine mb_cW (S := mb_S) hD hS hA (vx_runSW (As := [.ref o, .int (x2 - x2 / (8 : Int32) * (8 : Int32)), .int (x2 / (8 : Int32)), .int (1 : Int32)]) (rest := []) ⟨hx, hb, hml, hown, hts⟩ (cw_cellAt l hl0 D Y N o a aa ad u20.1 u20.2 _ (x2 - x2 / (8 : Int32) * (8 : Int32)) (x2 / (8 : Int32)) (1 : Int32) _ hF) (vx_cwSW 4 hts gL_coloured_L_cellAt rfl rfl rfl (by decide +kernel) ⟨Nat.le_of_ble_eq_true rfl, Nat.le_of_ble_eq_true rfl⟩) (mbm_pre CM hP hD hS) rfl rfl hl.1 rfl (lv_room (Nat.le_of_ble_eq_true rfl)) dL_coloured_34 ⟨by show _ ≤ 260; omega, by show _ ≤ 1560; omega⟩) (fun r34 u34 H locs hF hP hD hS => ?_)
      have hP : va_P D vwCl (wW Y o a aa ad u34.1 u34.2) H := hP
      have hD : va_D A (wW Y o a aa ad u34.1 u34.2) := hD
      refine lv_istore (lv' := [(4, .int r34), (3, .int r20), (0, .ref o), (1, .int x1), (2, .int x2)]) hx hb dL_coloured_37 hl (by decide) rfl (fun ls hl => ?_)
      refine lv_iload_n hx hb dL_coloured_39 rfl (lv_at hl 3 rfl) ?_
      refine lv_iload_n hx hb dL_coloured_40 rfl (lv_at hl 1 rfl) ?_
      refine lv_if_lt (tgt := 65) hx hb dL_coloured_41 (by decide) (fun c_41 => ?_) (fun c_41 => ?_)
      · have hF := hF.1 c_41
        exact wL_coloured_65 CM (n * 4 + 0 + 0) (n * 24 + 0 + 0) (by omega) (by omega) ih u34.2 u34.1 x2 r20 r34 x1 _ _ _ _ _ hF hP hD hS (lv_sub hl [2, 4, 1, 0] rfl) (by omega) (by omega)
      · have hF := hF.2 c_41
        refine lv_iload_n hx hb dL_coloured_44 rfl (lv_at hl 1 rfl) ?_
        refine lv_bipush (v := 6) hx hb dL_coloured_45 (by decide) ?_
        refine lv_icmp_ge (tgt := 65) hx hb dL_coloured_47 (by decide) (fun c_47 => ?_) (fun c_47 => ?_)
        · have hF := hF.1 c_47
          exact wL_coloured_65 CM (n * 4 + 0 + 0) (n * 24 + 0 + 0) (by omega) (by omega) ih u34.2 u34.1 x2 r20 r34 x1 _ _ _ _ _ hF hP hD hS (lv_sub hl [2, 4, 1, 0] rfl) (by omega) (by omega)
        · have hF := hF.2 c_47
          refine lv_iload hx hb dL_coloured_50 (lv_at hl 0 rfl) ?_
          refine lv_if_le (tgt := 65) hx hb dL_coloured_52 (by decide) (fun c_52 => ?_) (fun c_52 => ?_)
          · have hF := hF.1 c_52
            exact wL_coloured_65 CM (n * 4 + 0 + 0) (n * 24 + 0 + 0) (by omega) (by omega) ih u34.2 u34.1 x2 r20 r34 x1 _ _ _ _ _ hF hP hD hS (lv_sub hl [2, 4, 1, 0] rfl) (by omega) (by omega)
          · have hF := hF.2 c_52
            refine lv_iload hx hb dL_coloured_55 (lv_at hl 0 rfl) ?_
            refine lv_iconst (v := 3) hx hb dL_coloured_57 (by decide) ?_
            refine lv_icmp_ge (tgt := 65) hx hb dL_coloured_58 (by decide) (fun c_58 => ?_) (fun c_58 => ?_)
            · have hF := hF.1 c_58
              exact wL_coloured_65 CM (n * 4 + 0 + 0) (n * 24 + 0 + 0) (by omega) (by omega) ih u34.2 u34.1 x2 r20 r34 x1 _ _ _ _ _ hF hP hD hS (lv_sub hl [2, 4, 1, 0] rfl) (by omega) (by omega)
            · have hF := hF.2 c_58
              refine lv_iconst (v := 1) hx hb dL_coloured_61 (by decide) ?_
              refine lv_goto (tgt := 82) hx hb dL_coloured_62 (by decide) ?_
              exact wL_coloured_82 CM (n * 4 + 0 + 0) (n * 24 + 0 + 0) (by omega) (by omega) ih u34.2 u34.1 x2 (1 : Int32) x1 _ _ _ _ _ hF hP hD hS (lv_sub hl [2, 4] rfl) (by omega) (by omega)
noncomputable def PL_coloured (N : Nat) (F : mb_m) (b : mb_bs) (K : Int32 → mb_S → Prop) : Prop := PL_coloured_4 N K 65 F b (0 : Int32) (0 : Int32)
set_option maxHeartbeats 4000000 in
set_option maxRecDepth 100000 in
theorem cnL_coloured (l : Launch) (hl0 : l.stackTraces = false) (D : va_G) (Y : Nat → ClassId) (N : Nat) (o : Nat) (a aa ad : Nat → Nat) (F : mb_m) (b : mb_bs) (sz : Nat) (K : Int32 → mb_S → Prop) (hF : PL_coloured N F b  K) : Met l yL_coloured wsL_coloured ({ frames := 9, cells := 260, slots := 1560, locals := 158 } : Room) (va_Pc [.ref o] (mb_BL D Y (wW Y o a aa ad b F) sz)) (va_Qi K (fun u t => mb_T D (va_A (wW Y o a aa ad b F) sz) (wW Y o a aa ad u.1 u.2) t) (va_A (wW Y o a aa ad b F) sz)) 260 1560 (va_A (wW Y o a aa ad b F) sz) := by
  refine mbm_begin (cc := cL_coloured) (maxL := 5) (ret := (some .int)) hl0 (by decide +kernel) rfl (Nat.le_of_ble_eq_true rfl) ?_
  intro p e s m below meth c ls CM hsz hP hD hl
  generalize hAe : va_A (wW Y o a aa ad b F) sz = A at CM hD ⊢
  have CM : mb_CM l p s m meth c ([.ref o] : List Value).toArray cL_coloured 5 (some .int) wsL_coloured RL D Y A := CM
  obtain ⟨C, hX, hl0, hN⟩ := id CM
  obtain ⟨hx, hb, hr, hml, hts, hown, hlocks, hA, hG⟩ := id C
  have hK := hG.1
  have hS : va_S A s.heap s.heap [] := va_S.rf
  have hl : lv_has ls 5 [(0, .ref o)] := hl
  unfold PL_coloured at hF
  refine lv_iconst (v := 0) hx hb dL_coloured_0 (by decide) ?_
  refine lv_istore_n (lv' := [(1, .int (0 : Int32)), (0, .ref o)]) hx hb dL_coloured_1 rfl hl (by decide) rfl (fun ls hl => ?_)
  refine lv_iconst (v := 0) hx hb dL_coloured_2 (by decide) ?_
  refine lv_istore_n (lv' := [(2, .int (0 : Int32)), (1, .int (0 : Int32)), (0, .ref o)]) hx hb dL_coloured_3 rfl hl (by decide) rfl (fun ls hl => ?_)
  exact wL_coloured_4 CM 65 F b (0 : Int32) (0 : Int32) _ _ _ _ _ hF hP hD hS (lv_sub hl [2, 1, 0] rfl) (by omega) (by omega)
end
section
noncomputable def PL_arePages_70 (N : Nat) (K : Int32 → mb_S → Prop) (F : mb_m) (b : mb_bs) (x2 x3 x4 x5 y0 y1 : Int32) : Prop := LP_pageAt N b F y1 y0 (x4 - x4 / (10 : Int32) * (10 : Int32)) ((x4 / (10 : Int32)) - (x4 / (10 : Int32)) / (10 : Int32) * (10 : Int32)) (fun r83 u83 => (¬ r83 = x3 → K (0 : Int32) (u83.1, u83.2)) ∧ (r83 = x3 → (¬ (x5 - x5 / (100 : Int32) * (100 : Int32)) = (x4 - x4 / (100 : Int32) * (100 : Int32)) → K (0 : Int32) (u83.1, u83.2)) ∧ ((x5 - x5 / (100 : Int32) * (100 : Int32)) = (x4 - x4 / (100 : Int32) * (100 : Int32)) → (x5 = x4 → K (0 : Int32) (u83.1, u83.2)) ∧ (¬ x5 = x4 → LP_placeOf N u83.1 u83.2 x2 (((2 : Int32) <<< (x2 &&& 31)) + (1 : Int32)) (fun r117 u117 => (¬ r117 = (-1000002 : Int32) → K (0 : Int32) (u117.1, u117.2)) ∧ (r117 = (-1000002 : Int32) → K (1 : Int32) (u117.1, u117.2)))))))
set_option maxHeartbeats 4000000 in
set_option maxRecDepth 100000 in
theorem wL_arePages_70 {p : Program} {l : Launch} {e : Env} {s : State} {m : MethodId} {below : List Frame} {meth : Method} {c : Code} {args : Array Value} {D : va_G} {Y : Nat → ClassId} {A : Nat → Prop} {o : Nat} {a aa ad : Nat → Nat} {N : Nat} {K : Int32 → mb_S → Prop} (CM : mb_CM l p s m meth c args cL_arePages 6 (some .boolean) wsL_arePages RL D Y A) : ∀ (F : mb_m) (b : mb_bs) (x2 x3 x4 x5 y0 y1 : Int32) (H : Heap) (locs : List Loc) (ls : Array Slot) (cells slots : Nat), PL_arePages_70 N K  F b x2 x3 x4 x5 y0 y1 → va_P D vwCl (wW Y o a aa ad b F) H → va_D A (wW Y o a aa ad b F) → va_S A s.heap H locs → lv_has ls 6 [(0, .ref o), (2, .int x2), (3, .int x3), (4, .int x4), (5, .int x5)] → cells + (4 + 0) ≤ 8 → slots + (24 + 0) ≤ 48 → W p l e ({ frames := 9, cells := 8, slots := 48, locals := 159 } : Room) s m args below meth c H locs cells slots (MQ below (va_Qi K (fun u t => mb_T D A (wW Y o a aa ad u.1 u.2) t) A) args s 8 48 A) (F0 m 70 ls [.int y0, .int y1, .ref o]) := by
  obtain ⟨C, hX, hl0, hN⟩ := id CM
  obtain ⟨hx, hb, hr, hml, hts, hown, hlocks, hA, hG⟩ := id C
  have hK := hG.1
  intro F b x2 x3 x4 x5 y0 y1 H locs ls cells slots hF hP hD hS hl hc hs
  unfold PL_arePages_70 at hF
  refine lv_iload hx hb dL_arePages_70 (lv_at hl 3 rfl) ?_
  refine lv_bipush (v := 10) hx hb dL_arePages_72 (by decide) ?_
  refine lv_irem hx hb dL_arePages_74 (by decide) ?_
  refine lv_iload hx hb dL_arePages_75 (lv_at hl 3 rfl) ?_
  refine lv_bipush (v := 10) hx hb dL_arePages_77 (by decide) ?_
  refine lv_idiv hx hb dL_arePages_79 (by decide) ?_
  refine lv_bipush (v := 10) hx hb dL_arePages_80 (by decide) ?_
  refine lv_irem hx hb dL_arePages_82 (by decide) ?_
  refine mb_cW (S := mb_S) hD hS hA (vx_runSW (As := [.ref o, .int y1, .int y0, .int (x4 - x4 / (10 : Int32) * (10 : Int32)), .int ((x4 / (10 : Int32)) - (x4 / (10 : Int32)) / (10 : Int32) * (10 : Int32))]) (rest := []) ⟨hx, hb, hml, hown, hts⟩ (cw_pageAt l hl0 D Y N o a aa ad b F _ y1 y0 (x4 - x4 / (10 : Int32) * (10 : Int32)) ((x4 / (10 : Int32)) - (x4 / (10 : Int32)) / (10 : Int32) * (10 : Int32)) _ hF) (vx_cwSW 5 hts gL_arePages_L_pageAt rfl rfl rfl (by decide +kernel) ⟨Nat.le_of_ble_eq_true rfl, Nat.le_of_ble_eq_true rfl⟩) (mbm_pre CM hP hD hS) rfl rfl hl.1 rfl (lv_room (Nat.le_of_ble_eq_true rfl)) dL_arePages_83 ⟨by show _ ≤ 8; omega, by show _ ≤ 48; omega⟩) (fun r83 u83 H locs hF hP hD hS => ?_)
  have hP : va_P D vwCl (wW Y o a aa ad u83.1 u83.2) H := hP
  have hD : va_D A (wW Y o a aa ad u83.1 u83.2) := hD
  refine lv_iload_n hx hb dL_arePages_86 rfl (lv_at hl 2 rfl) ?_
  refine lv_icmp_ne (tgt := 129) hx hb dL_arePages_87 (by decide) (fun c_87 => ?_) (fun c_87 => ?_)
  · have hF := hF.1 c_87
    refine lv_iconst (v := 0) hx hb dL_arePages_129 (by decide) ?_
    exact mb_ri (S := mb_S) (mc := 8) (ms := 48) (wf := fun u => wW Y o a aa ad u.1 u.2) C rfl (u := (u83.1, u83.2)) hF hP hD hS dL_arePages_130 (by omega) (by omega)
  · have hF := hF.2 c_87
    refine lv_iload hx hb dL_arePages_90 (lv_at hl 4 rfl) ?_
    refine lv_bipush (v := 100) hx hb dL_arePages_92 (by decide) ?_
    refine lv_irem hx hb dL_arePages_94 (by decide) ?_
    refine lv_iload hx hb dL_arePages_95 (lv_at hl 3 rfl) ?_
    refine lv_bipush (v := 100) hx hb dL_arePages_97 (by decide) ?_
    refine lv_irem hx hb dL_arePages_99 (by decide) ?_
    refine lv_icmp_ne (tgt := 129) hx hb dL_arePages_100 (by decide) (fun c_100 => ?_) (fun c_100 => ?_)
    · have hF := hF.1 c_100
      refine lv_iconst (v := 0) hx hb dL_arePages_129 (by decide) ?_
      exact mb_ri (S := mb_S) (mc := 8) (ms := 48) (wf := fun u => wW Y o a aa ad u.1 u.2) C rfl (u := (u83.1, u83.2)) hF hP hD hS dL_arePages_130 (by omega) (by omega)
    · have hF := hF.2 c_100
      refine lv_iload hx hb dL_arePages_103 (lv_at hl 4 rfl) ?_
      refine lv_iload hx hb dL_arePages_105 (lv_at hl 3 rfl) ?_
      refine lv_icmp_eq (tgt := 129) hx hb dL_arePages_107 (by decide) (fun c_107 => ?_) (fun c_107 => ?_)
      · have hF := hF.1 c_107
        refine lv_iconst (v := 0) hx hb dL_arePages_129 (by decide) ?_
        exact mb_ri (S := mb_S) (mc := 8) (ms := 48) (wf := fun u => wW Y o a aa ad u.1 u.2) C rfl (u := (u83.1, u83.2)) hF hP hD hS dL_arePages_130 (by omega) (by omega)
      · have hF := hF.2 c_107
        refine lv_aload_n hx hb dL_arePages_110 rfl (lv_at hl 0 rfl) ?_
        refine lv_iload_n hx hb dL_arePages_111 rfl (lv_at hl 1 rfl) ?_
        refine lv_iconst (v := 2) hx hb dL_arePages_112 (by decide) ?_
        refine lv_iload_n hx hb dL_arePages_113 rfl (lv_at hl 1 rfl) ?_
        refine lv_ishl hx hb dL_arePages_114 ?_
        refine lv_iconst (v := 1) hx hb dL_arePages_115 (by decide) ?_
        refine lv_iadd hx hb dL_arePages_116 ?_
        refine mb_cW (S := mb_S) hD hS hA (vx_runSW (As := [.ref o, .int x2, .int (((2 : Int32) <<< (x2 &&& 31)) + (1 : Int32))]) (rest := []) ⟨hx, hb, hml, hown, hts⟩ (cw_placeOf l hl0 D Y N o a aa ad u83.1 u83.2 _ x2 (((2 : Int32) <<< (x2 &&& 31)) + (1 : Int32)) _ hF) (vx_cwSW 3 hts gL_arePages_L_placeOf rfl rfl rfl (by decide +kernel) ⟨Nat.le_of_ble_eq_true rfl, Nat.le_of_ble_eq_true rfl⟩) (mbm_pre CM hP hD hS) rfl rfl hl.1 rfl (lv_room (Nat.le_of_ble_eq_true rfl)) dL_arePages_117 ⟨by show _ ≤ 8; omega, by show _ ≤ 48; omega⟩) (fun r117 u117 H locs hF hP hD hS => ?_)
        have hP : va_P D vwCl (wW Y o a aa ad u117.1 u117.2) H := hP
        have hD : va_D A (wW Y o a aa ad u117.1 u117.2) := hD
        refine lv_ldc (v := -1000002) hx hb hown (hts (.constant RL 21 (-1000002)) (List.mem_of_getElem? (i := 1) rfl)) dL_arePages_120 ?_
        refine lv_icmp_ne (tgt := 129) hx hb dL_arePages_122 (by decide) (fun c_122 => ?_) (fun c_122 => ?_)
        · have hF := hF.1 c_122
          refine lv_iconst (v := 0) hx hb dL_arePages_129 (by decide) ?_
          exact mb_ri (S := mb_S) (mc := 8) (ms := 48) (wf := fun u => wW Y o a aa ad u.1 u.2) C rfl (u := (u117.1, u117.2)) hF hP hD hS dL_arePages_130 (by omega) (by omega)
        · have hF := hF.2 c_122
          refine lv_iconst (v := 1) hx hb dL_arePages_125 (by decide) ?_
          refine lv_goto (tgt := 130) hx hb dL_arePages_126 (by decide) ?_
          exact mb_ri (S := mb_S) (mc := 8) (ms := 48) (wf := fun u => wW Y o a aa ad u.1 u.2) C rfl (u := (u117.1, u117.2)) hF hP hD hS dL_arePages_130 (by omega) (by omega)
noncomputable def PL_arePages_46 (N : Nat) (K : Int32 → mb_S → Prop) (F : mb_m) (b : mb_bs) (x2 x3 x4 y0 y1 : Int32) : Prop := LP_placeOf N b F y1 y0 (fun r46 u46 => (x4 < 0 → K (0 : Int32) (u46.1, u46.2)) ∧ (¬ x4 < 0 → (x4 ≤ (99 : Int32) → PL_arePages_70 N K u46.2 u46.1 x2 x3 x4 r46 (0 : Int32) x2) ∧ (¬ x4 ≤ (99 : Int32) → PL_arePages_70 N K u46.2 u46.1 x2 x3 x4 r46 (1 : Int32) x2)))
set_option maxHeartbeats 4000000 in
set_option maxRecDepth 100000 in
theorem wL_arePages_46 {p : Program} {l : Launch} {e : Env} {s : State} {m : MethodId} {below : List Frame} {meth : Method} {c : Code} {args : Array Value} {D : va_G} {Y : Nat → ClassId} {A : Nat → Prop} {o : Nat} {a aa ad : Nat → Nat} {N : Nat} {K : Int32 → mb_S → Prop} (CM : mb_CM l p s m meth c args cL_arePages 6 (some .boolean) wsL_arePages RL D Y A) : ∀ (F : mb_m) (b : mb_bs) (x2 x3 x4 y0 y1 : Int32) (H : Heap) (locs : List Loc) (ls : Array Slot) (cells slots : Nat), PL_arePages_46 N K  F b x2 x3 x4 y0 y1 → va_P D vwCl (wW Y o a aa ad b F) H → va_D A (wW Y o a aa ad b F) → va_S A s.heap H locs → lv_has ls 6 [(0, .ref o), (2, .int x2), (3, .int x3), (4, .int x4)] → cells + (6 + 0) ≤ 8 → slots + (36 + 0) ≤ 48 → W p l e ({ frames := 9, cells := 8, slots := 48, locals := 159 } : Room) s m args below meth c H locs cells slots (MQ below (va_Qi K (fun u t => mb_T D A (wW Y o a aa ad u.1 u.2) t) A) args s 8 48 A) (F0 m 46 ls [.int y0, .int y1, .ref o]) := by
  obtain ⟨C, hX, hl0, hN⟩ := id CM
  obtain ⟨hx, hb, hr, hml, hts, hown, hlocks, hA, hG⟩ := id C
  have hK := hG.1
  intro F b x2 x3 x4 y0 y1 H locs ls cells slots hF hP hD hS hl hc hs
  unfold PL_arePages_46 at hF
  refine mb_cW (S := mb_S) hD hS hA (vx_runSW (As := [.ref o, .int y1, .int y0]) (rest := []) ⟨hx, hb, hml, hown, hts⟩ (cw_placeOf l hl0 D Y N o a aa ad b F _ y1 y0 _ hF) (vx_cwSW 3 hts gL_arePages_L_placeOf rfl rfl rfl (by decide +kernel) ⟨Nat.le_of_ble_eq_true rfl, Nat.le_of_ble_eq_true rfl⟩) (mbm_pre CM hP hD hS) rfl rfl hl.1 rfl (lv_room (Nat.le_of_ble_eq_true rfl)) dL_arePages_46 ⟨by show _ ≤ 8; omega, by show _ ≤ 48; omega⟩) (fun r46 u46 H locs hF hP hD hS => ?_)
  have hP : va_P D vwCl (wW Y o a aa ad u46.1 u46.2) H := hP
  have hD : va_D A (wW Y o a aa ad u46.1 u46.2) := hD
  refine lv_istore (lv' := [(5, .int r46), (0, .ref o), (2, .int x2), (3, .int x3), (4, .int x4)]) hx hb dL_arePages_49 hl (by decide) rfl (fun ls hl => ?_)
  refine lv_iload hx hb dL_arePages_51 (lv_at hl 4 rfl) ?_
  refine lv_if_lt (tgt := 129) hx hb dL_arePages_53 (by decide) (fun c_53 => ?_) (fun c_53 => ?_)
  · have hF := hF.1 c_53
    refine lv_iconst (v := 0) hx hb dL_arePages_129 (by decide) ?_
    exact mb_ri (S := mb_S) (mc := 8) (ms := 48) (wf := fun u => wW Y o a aa ad u.1 u.2) C rfl (u := (u46.1, u46.2)) hF hP hD hS dL_arePages_130 (by omega) (by omega)
  · have hF := hF.2 c_53
    refine lv_aload_n hx hb dL_arePages_56 rfl (lv_at hl 1 rfl) ?_
    refine lv_iload_n hx hb dL_arePages_57 rfl (lv_at hl 2 rfl) ?_
    refine lv_iload hx hb dL_arePages_58 (lv_at hl 4 rfl) ?_
    refine lv_bipush (v := 99) hx hb dL_arePages_60 (by decide) ?_
    refine lv_icmp_le (tgt := 69) hx hb dL_arePages_62 (by decide) (fun c_62 => ?_) (fun c_62 => ?_)
    · have hF := hF.1 c_62
      refine lv_iconst (v := 0) hx hb dL_arePages_69 (by decide) ?_
      exact wL_arePages_70 CM u46.2 u46.1 x2 x3 x4 r46 (0 : Int32) x2 _ _ _ _ _ hF hP hD hS (lv_sub hl [1, 2, 3, 4, 0] rfl) (by omega) (by omega)
    · have hF := hF.2 c_62
      refine lv_iconst (v := 1) hx hb dL_arePages_65 (by decide) ?_
      refine lv_goto (tgt := 70) hx hb dL_arePages_66 (by decide) ?_
      exact wL_arePages_70 CM u46.2 u46.1 x2 x3 x4 r46 (1 : Int32) x2 _ _ _ _ _ hF hP hD hS (lv_sub hl [1, 2, 3, 4, 0] rfl) (by omega) (by omega)
noncomputable def PL_arePages (N : Nat) (F : mb_m) (b : mb_bs) (x1 : Int32) (K : Int32 → mb_S → Prop) : Prop := PL_low N x1 (4 : Int32) (fun r3 _ => ∀ v7 : Int32, v7 = ((1 : Int32) + r3) → (PL_low N (x1 >>> ((2 : Int32) &&& 31)) ((2 : Int32) <<< (v7 &&& 31)) (fun r15 _ => ∀ v19 : Int32, v19 = ((1 : Int32) + r15) → (LP_placeOf N b F v7 v19 (fun r23 u23 => (¬ (v19 - v19 / (2 : Int32) * (2 : Int32)) = (1 : Int32) → PL_arePages_46 N K u23.2 u23.1 v7 v19 r23 (v19 - (1 : Int32)) v7) ∧ ((v19 - v19 / (2 : Int32) * (2 : Int32)) = (1 : Int32) → PL_arePages_46 N K u23.2 u23.1 v7 v19 r23 (v19 + (1 : Int32)) v7))))))
set_option maxHeartbeats 4000000 in
set_option maxRecDepth 100000 in
theorem cnL_arePages (l : Launch) (hl0 : l.stackTraces = false) (D : va_G) (Y : Nat → ClassId) (N : Nat) (o : Nat) (a aa ad : Nat → Nat) (F : mb_m) (b : mb_bs) (sz : Nat) (x1 : Int32) (K : Int32 → mb_S → Prop) (hF : PL_arePages N F b x1 K) : Met l yL_arePages wsL_arePages ({ frames := 9, cells := 8, slots := 48, locals := 159 } : Room) (va_Pc [.ref o, .int x1] (mb_BL D Y (wW Y o a aa ad b F) sz)) (va_Qi K (fun u t => mb_T D (va_A (wW Y o a aa ad b F) sz) (wW Y o a aa ad u.1 u.2) t) (va_A (wW Y o a aa ad b F) sz)) 8 48 (va_A (wW Y o a aa ad b F) sz) := by
  refine mbm_begin (cc := cL_arePages) (maxL := 6) (ret := (some .boolean)) hl0 (by decide +kernel) rfl (Nat.le_of_ble_eq_true rfl) ?_
  intro p e s m below meth c ls CM hsz hP hD hl
  generalize hAe : va_A (wW Y o a aa ad b F) sz = A at CM hD ⊢
  have CM : mb_CM l p s m meth c ([.ref o, .int x1] : List Value).toArray cL_arePages 6 (some .boolean) wsL_arePages RL D Y A := CM
  obtain ⟨C, hX, hl0, hN⟩ := id CM
  obtain ⟨hx, hb, hr, hml, hts, hown, hlocks, hA, hG⟩ := id C
  have hK := hG.1
  have hS : va_S A s.heap s.heap [] := va_S.rf
  have hl : lv_has ls 6 [(0, .ref o), (1, .int x1)] := hl
  unfold PL_arePages at hF
  refine lv_iconst (v := 1) hx hb dL_arePages_0 (by decide) ?_
  refine lv_iload_n hx hb dL_arePages_1 rfl (lv_at hl 1 rfl) ?_
  refine lv_iconst (v := 4) hx hb dL_arePages_2 (by decide) ?_
  refine mb_cE hP hS hA (va_runS (As := [.int x1, .int (4 : Int32)]) (rest := [.int (1 : Int32)]) ⟨hx, hb, hml, hown, hts⟩ (cnL_low l D Y N _ x1 (4 : Int32) _ hF) (va_cwS 2 hts gL_arePages_L_low rfl rfl rfl (by decide +kernel) ⟨Nat.le_of_ble_eq_true rfl, Nat.le_of_ble_eq_true rfl⟩) (mb_preS (A := A) hG mb_P0 mb_D0) rfl rfl hl.1 rfl (lv_room (Nat.le_of_ble_eq_true rfl)) dL_arePages_3 ⟨by show _ ≤ 8; omega, by show _ ≤ 48; omega⟩) (fun r3 H locs hF hP hS => ?_)
  refine lv_iadd hx hb dL_arePages_6 ?_
  refine lv_topi (fun v7 ev7 => ?_)
  have hF := hF v7 ev7
  refine lv_istore_n (lv' := [(2, .int v7), (0, .ref o), (1, .int x1)]) hx hb dL_arePages_7 rfl hl (by decide) rfl (fun ls hl => ?_)
  refine lv_iconst (v := 1) hx hb dL_arePages_8 (by decide) ?_
  refine lv_iload_n hx hb dL_arePages_9 rfl (lv_at hl 2 rfl) ?_
  refine lv_iconst (v := 2) hx hb dL_arePages_10 (by decide) ?_
  refine lv_ishr hx hb dL_arePages_11 ?_
  refine lv_iconst (v := 2) hx hb dL_arePages_12 (by decide) ?_
  refine lv_iload_n hx hb dL_arePages_13 rfl (lv_at hl 0 rfl) ?_
  refine lv_ishl hx hb dL_arePages_14 ?_
  refine mb_cE hP hS hA (va_runS (As := [.int (x1 >>> ((2 : Int32) &&& 31)), .int ((2 : Int32) <<< (v7 &&& 31))]) (rest := [.int (1 : Int32)]) ⟨hx, hb, hml, hown, hts⟩ (cnL_low l D Y N _ (x1 >>> ((2 : Int32) &&& 31)) ((2 : Int32) <<< (v7 &&& 31)) _ hF) (va_cwS 2 hts gL_arePages_L_low rfl rfl rfl (by decide +kernel) ⟨Nat.le_of_ble_eq_true rfl, Nat.le_of_ble_eq_true rfl⟩) (mb_preS (A := A) hG mb_P0 mb_D0) rfl rfl hl.1 rfl (lv_room (Nat.le_of_ble_eq_true rfl)) dL_arePages_15 ⟨by show _ ≤ 8; omega, by show _ ≤ 48; omega⟩) (fun r15 H locs hF hP hS => ?_)
  refine lv_iadd hx hb dL_arePages_18 ?_
  refine lv_topi (fun v19 ev19 => ?_)
  have hF := hF v19 ev19
  refine lv_istore_n (lv' := [(3, .int v19), (2, .int v7), (0, .ref o), (1, .int x1)]) hx hb dL_arePages_19 rfl hl (by decide) rfl (fun ls hl => ?_)
  refine lv_aload_n hx hb dL_arePages_20 rfl (lv_at hl 2 rfl) ?_
  refine lv_iload_n hx hb dL_arePages_21 rfl (lv_at hl 1 rfl) ?_
  refine lv_iload_n hx hb dL_arePages_22 rfl (lv_at hl 0 rfl) ?_
  refine mb_cW (S := mb_S) hD hS hA (vx_runSW (As := [.ref o, .int v7, .int v19]) (rest := []) ⟨hx, hb, hml, hown, hts⟩ (cw_placeOf l hl0 D Y N o a aa ad b F _ v7 v19 _ hF) (vx_cwSW 3 hts gL_arePages_L_placeOf rfl rfl rfl (by decide +kernel) ⟨Nat.le_of_ble_eq_true rfl, Nat.le_of_ble_eq_true rfl⟩) (mbm_pre CM hP hD hS) rfl rfl hl.1 rfl (lv_room (Nat.le_of_ble_eq_true rfl)) dL_arePages_23 ⟨by show _ ≤ 8; omega, by show _ ≤ 48; omega⟩) (fun r23 u23 H locs hF hP hD hS => ?_)
  have hP : va_P D vwCl (wW Y o a aa ad u23.1 u23.2) H := hP
  have hD : va_D A (wW Y o a aa ad u23.1 u23.2) := hD
  refine lv_istore (lv' := [(4, .int r23), (3, .int v19), (2, .int v7), (0, .ref o), (1, .int x1)]) hx hb dL_arePages_26 hl (by decide) rfl (fun ls hl => ?_)
  refine lv_aload_n hx hb dL_arePages_28 rfl (lv_at hl 3 rfl) ?_
  refine lv_iload_n hx hb dL_arePages_29 rfl (lv_at hl 2 rfl) ?_
  refine lv_iload_n hx hb dL_arePages_30 rfl (lv_at hl 1 rfl) ?_
  refine lv_iconst (v := 2) hx hb dL_arePages_31 (by decide) ?_
  refine lv_irem hx hb dL_arePages_32 (by decide) ?_
  refine lv_iconst (v := 1) hx hb dL_arePages_33 (by decide) ?_
  refine lv_icmp_ne (tgt := 43) hx hb dL_arePages_34 (by decide) (fun c_34 => ?_) (fun c_34 => ?_)
  · have hF := hF.1 c_34
    refine lv_iload_n hx hb dL_arePages_43 rfl (lv_at hl 1 rfl) ?_
    refine lv_iconst (v := 1) hx hb dL_arePages_44 (by decide) ?_
    refine lv_isub hx hb dL_arePages_45 ?_
    exact wL_arePages_46 CM u23.2 u23.1 v7 v19 r23 (v19 - (1 : Int32)) v7 _ _ _ _ _ hF hP hD hS (lv_sub hl [3, 2, 1, 0] rfl) (by omega) (by omega)
  · have hF := hF.2 c_34
    refine lv_iload_n hx hb dL_arePages_37 rfl (lv_at hl 1 rfl) ?_
    refine lv_iconst (v := 1) hx hb dL_arePages_38 (by decide) ?_
    refine lv_iadd hx hb dL_arePages_39 ?_
    refine lv_goto (tgt := 46) hx hb dL_arePages_40 (by decide) ?_
    exact wL_arePages_46 CM u23.2 u23.1 v7 v19 r23 (v19 + (1 : Int32)) v7 _ _ _ _ _ hF hP hD hS (lv_sub hl [3, 2, 1, 0] rfl) (by omega) (by omega)
end
section
noncomputable def PL_speaks_77 (N : Nat) (K : Int32 → mb_S → Prop) (F : mb_m) (b : mb_bs) (x1 x3 x4 x5 x6 x7 : Int32) : Prop := (x6 < (1400 : Int32) → K (0 : Int32) (b, F)) ∧ (¬ x6 < (1400 : Int32) → (x7 < x6 → K (0 : Int32) (b, F)) ∧ (¬ x7 < x6 → ((2000 : Int32) < x7 → K (0 : Int32) (b, F)) ∧ (¬ (2000 : Int32) < x7 → LP_yearAnew N b F x1 (0 : Int32) (fun r103 u103 => (¬ r103 = x6 → K (0 : Int32) (u103.1, u103.2)) ∧ (r103 = x6 → LP_yearAnew N u103.1 u103.2 x1 (1 : Int32) (fun r114 u114 => (¬ r114 = x7 → K (0 : Int32) (u114.1, u114.2)) ∧ (r114 = x7 → (¬ x5 = (1 : Int32) → K (1 : Int32) (u114.1, u114.2)) ∧ (x5 = (1 : Int32) → (¬ x6 = x3 → K (0 : Int32) (u114.1, u114.2)) ∧ (x6 = x3 → (¬ x7 = x4 → K (0 : Int32) (u114.1, u114.2)) ∧ (x7 = x4 → K (1 : Int32) (u114.1, u114.2)))))))))))
set_option maxHeartbeats 4000000 in
set_option maxRecDepth 100000 in
theorem wL_speaks_77 {p : Program} {l : Launch} {e : Env} {s : State} {m : MethodId} {below : List Frame} {meth : Method} {c : Code} {args : Array Value} {D : va_G} {Y : Nat → ClassId} {A : Nat → Prop} {o : Nat} {a aa ad : Nat → Nat} {N : Nat} {K : Int32 → mb_S → Prop} (CM : mb_CM l p s m meth c args cL_speaks 8 (some .boolean) wsL_speaks RL D Y A) : ∀ (F : mb_m) (b : mb_bs) (x1 x3 x4 x5 x6 x7 : Int32) (H : Heap) (locs : List Loc) (ls : Array Slot) (cells slots : Nat), PL_speaks_77 N K  F b x1 x3 x4 x5 x6 x7 → va_P D vwCl (wW Y o a aa ad b F) H → va_D A (wW Y o a aa ad b F) → va_S A s.heap H locs → lv_has ls 8 [(0, .ref o), (1, .int x1), (3, .int x3), (4, .int x4), (5, .int x5), (6, .int x6), (7, .int x7)] → cells + (2 + 0) ≤ 8 → slots + (12 + 0) ≤ 48 → W p l e ({ frames := 9, cells := 8, slots := 48, locals := 162 } : Room) s m args below meth c H locs cells slots (MQ below (va_Qi K (fun u t => mb_T D A (wW Y o a aa ad u.1 u.2) t) A) args s 8 48 A) (F0 m 77 ls []) := by
  obtain ⟨C, hX, hl0, hN⟩ := id CM
  obtain ⟨hx, hb, hr, hml, hts, hown, hlocks, hA, hG⟩ := id C
  have hK := hG.1
  intro F b x1 x3 x4 x5 x6 x7 H locs ls cells slots hF hP hD hS hl hc hs
  unfold PL_speaks_77 at hF
  refine lv_iload hx hb dL_speaks_77 (lv_at hl 5 rfl) ?_
  refine lv_sipush (v := 1400) hx hb dL_speaks_79 (by decide) ?_
  refine lv_icmp_lt (tgt := 145) hx hb dL_speaks_82 (by decide) (fun c_82 => ?_) (fun c_82 => ?_)
  · have hF := hF.1 c_82
    refine lv_iconst (v := 0) hx hb dL_speaks_145 (by decide) ?_
    exact mb_ri (S := mb_S) (mc := 8) (ms := 48) (wf := fun u => wW Y o a aa ad u.1 u.2) C rfl (u := (b, F)) hF hP hD hS dL_speaks_146 (by omega) (by omega)
  · have hF := hF.2 c_82
    refine lv_iload hx hb dL_speaks_85 (lv_at hl 5 rfl) ?_
    refine lv_iload hx hb dL_speaks_87 (lv_at hl 6 rfl) ?_
    refine lv_icmp_gt (tgt := 145) hx hb dL_speaks_89 (by decide) (fun c_89 => ?_) (fun c_89 => ?_)
    · have hF := hF.1 c_89
      refine lv_iconst (v := 0) hx hb dL_speaks_145 (by decide) ?_
      exact mb_ri (S := mb_S) (mc := 8) (ms := 48) (wf := fun u => wW Y o a aa ad u.1 u.2) C rfl (u := (b, F)) hF hP hD hS dL_speaks_146 (by omega) (by omega)
    · have hF := hF.2 c_89
      refine lv_iload hx hb dL_speaks_92 (lv_at hl 6 rfl) ?_
      refine lv_sipush (v := 2000) hx hb dL_speaks_94 (by decide) ?_
      refine lv_icmp_gt (tgt := 145) hx hb dL_speaks_97 (by decide) (fun c_97 => ?_) (fun c_97 => ?_)
      · have hF := hF.1 c_97
        refine lv_iconst (v := 0) hx hb dL_speaks_145 (by decide) ?_
        exact mb_ri (S := mb_S) (mc := 8) (ms := 48) (wf := fun u => wW Y o a aa ad u.1 u.2) C rfl (u := (b, F)) hF hP hD hS dL_speaks_146 (by omega) (by omega)
      · have hF := hF.2 c_97
        refine lv_aload_n hx hb dL_speaks_100 rfl (lv_at hl 0 rfl) ?_
        refine lv_iload_n hx hb dL_speaks_101 rfl (lv_at hl 1 rfl) ?_
        refine lv_iconst (v := 0) hx hb dL_speaks_102 (by decide) ?_
        refine mb_cW (S := mb_S) hD hS hA (vx_runSW (As := [.ref o, .int x1, .int (0 : Int32)]) (rest := []) ⟨hx, hb, hml, hown, hts⟩ (cw_yearAnew l hl0 D Y N o a aa ad b F _ x1 (0 : Int32) _ hF) (vx_cwSW 3 hts gL_speaks_L_yearAnew rfl rfl rfl (by decide +kernel) ⟨Nat.le_of_ble_eq_true rfl, Nat.le_of_ble_eq_true rfl⟩) (mbm_pre CM hP hD hS) rfl rfl hl.1 rfl (lv_room (Nat.le_of_ble_eq_true rfl)) dL_speaks_103 ⟨by show _ ≤ 8; omega, by show _ ≤ 48; omega⟩) (fun r103 u103 H locs hF hP hD hS => ?_)
        have hP : va_P D vwCl (wW Y o a aa ad u103.1 u103.2) H := hP
        have hD : va_D A (wW Y o a aa ad u103.1 u103.2) := hD
        refine lv_iload hx hb dL_speaks_106 (lv_at hl 5 rfl) ?_
        refine lv_icmp_ne (tgt := 145) hx hb dL_speaks_108 (by decide) (fun c_108 => ?_) (fun c_108 => ?_)
        · have hF := hF.1 c_108
          refine lv_iconst (v := 0) hx hb dL_speaks_145 (by decide) ?_
          exact mb_ri (S := mb_S) (mc := 8) (ms := 48) (wf := fun u => wW Y o a aa ad u.1 u.2) C rfl (u := (u103.1, u103.2)) hF hP hD hS dL_speaks_146 (by omega) (by omega)
        · have hF := hF.2 c_108
          refine lv_aload_n hx hb dL_speaks_111 rfl (lv_at hl 0 rfl) ?_
          refine lv_iload_n hx hb dL_speaks_112 rfl (lv_at hl 1 rfl) ?_
          refine lv_iconst (v := 1) hx hb dL_speaks_113 (by decide) ?_
          refine mb_cW (S := mb_S) hD hS hA (vx_runSW (As := [.ref o, .int x1, .int (1 : Int32)]) (rest := []) ⟨hx, hb, hml, hown, hts⟩ (cw_yearAnew l hl0 D Y N o a aa ad u103.1 u103.2 _ x1 (1 : Int32) _ hF) (vx_cwSW 3 hts gL_speaks_L_yearAnew rfl rfl rfl (by decide +kernel) ⟨Nat.le_of_ble_eq_true rfl, Nat.le_of_ble_eq_true rfl⟩) (mbm_pre CM hP hD hS) rfl rfl hl.1 rfl (lv_room (Nat.le_of_ble_eq_true rfl)) dL_speaks_114 ⟨by show _ ≤ 8; omega, by show _ ≤ 48; omega⟩) (fun r114 u114 H locs hF hP hD hS => ?_)
          have hP : va_P D vwCl (wW Y o a aa ad u114.1 u114.2) H := hP
          have hD : va_D A (wW Y o a aa ad u114.1 u114.2) := hD
          refine lv_iload hx hb dL_speaks_117 (lv_at hl 6 rfl) ?_
          refine lv_icmp_ne (tgt := 145) hx hb dL_speaks_119 (by decide) (fun c_119 => ?_) (fun c_119 => ?_)
          · have hF := hF.1 c_119
            refine lv_iconst (v := 0) hx hb dL_speaks_145 (by decide) ?_
            exact mb_ri (S := mb_S) (mc := 8) (ms := 48) (wf := fun u => wW Y o a aa ad u.1 u.2) C rfl (u := (u114.1, u114.2)) hF hP hD hS dL_speaks_146 (by omega) (by omega)
          · have hF := hF.2 c_119
            refine lv_iload hx hb dL_speaks_122 (lv_at hl 4 rfl) ?_
            refine lv_iconst (v := 1) hx hb dL_speaks_124 (by decide) ?_
            refine lv_icmp_ne (tgt := 141) hx hb dL_speaks_125 (by decide) (fun c_125 => ?_) (fun c_125 => ?_)
            · have hF := hF.1 c_125
              refine lv_iconst (v := 1) hx hb dL_speaks_141 (by decide) ?_
              refine lv_goto (tgt := 146) hx hb dL_speaks_142 (by decide) ?_
              exact mb_ri (S := mb_S) (mc := 8) (ms := 48) (wf := fun u => wW Y o a aa ad u.1 u.2) C rfl (u := (u114.1, u114.2)) hF hP hD hS dL_speaks_146 (by omega) (by omega)
            · have hF := hF.2 c_125
              refine lv_iload hx hb dL_speaks_128 (lv_at hl 5 rfl) ?_
              refine lv_iload_n hx hb dL_speaks_130 rfl (lv_at hl 2 rfl) ?_
              refine lv_icmp_ne (tgt := 145) hx hb dL_speaks_131 (by decide) (fun c_131 => ?_) (fun c_131 => ?_)
              · have hF := hF.1 c_131
                refine lv_iconst (v := 0) hx hb dL_speaks_145 (by decide) ?_
                exact mb_ri (S := mb_S) (mc := 8) (ms := 48) (wf := fun u => wW Y o a aa ad u.1 u.2) C rfl (u := (u114.1, u114.2)) hF hP hD hS dL_speaks_146 (by omega) (by omega)
              · have hF := hF.2 c_131
                refine lv_iload hx hb dL_speaks_134 (lv_at hl 6 rfl) ?_
                refine lv_iload hx hb dL_speaks_136 (lv_at hl 3 rfl) ?_
                refine lv_icmp_ne (tgt := 145) hx hb dL_speaks_138 (by decide) (fun c_138 => ?_) (fun c_138 => ?_)
                · have hF := hF.1 c_138
                  refine lv_iconst (v := 0) hx hb dL_speaks_145 (by decide) ?_
                  exact mb_ri (S := mb_S) (mc := 8) (ms := 48) (wf := fun u => wW Y o a aa ad u.1 u.2) C rfl (u := (u114.1, u114.2)) hF hP hD hS dL_speaks_146 (by omega) (by omega)
                · have hF := hF.2 c_138
                  refine lv_iconst (v := 1) hx hb dL_speaks_141 (by decide) ?_
                  refine lv_goto (tgt := 146) hx hb dL_speaks_142 (by decide) ?_
                  exact mb_ri (S := mb_S) (mc := 8) (ms := 48) (wf := fun u => wW Y o a aa ad u.1 u.2) C rfl (u := (u114.1, u114.2)) hF hP hD hS dL_speaks_146 (by omega) (by omega)
noncomputable def PL_speaks (N : Nat) (F : mb_m) (b : mb_bs) (x1 x2 : Int32) (K : Int32 → mb_S → Prop) : Prop := PL_low N x2 (601 : Int32) (fun r7 _ => ∀ v11 : Int32, v11 = ((1400 : Int32) + r7) → (PL_low N (x2 >>> ((10 : Int32) &&& 31)) ((2001 : Int32) - v11) (fun r22 _ => ∀ v26 : Int32, v26 = (v11 + r22) → (PL_low N (x2 >>> ((20 : Int32) &&& 31)) (9 : Int32) (fun r40 _ => LP_speak N b F x1 v11 v26 ((1 : Int32) + r40) (fun r44 u44 => LP_year N u44.1 u44.2 x1 (0 : Int32) (fun r52 u52 => LP_year N u52.1 u52.2 x1 (1 : Int32) (fun r60 u60 => (0 < r44 → PL_speaks_77 N K u60.2 u60.1 x1 v11 v26 r44 r52 r60) ∧ (¬ 0 < r44 → (¬ r44 = (-1000003 : Int32) → K (0 : Int32) (u60.1, u60.2)) ∧ (r44 = (-1000003 : Int32) → PL_speaks_77 N K u60.2 u60.1 x1 v11 v26 r44 r52 r60))))))))))
set_option maxHeartbeats 4000000 in
set_option maxRecDepth 100000 in
theorem cnL_speaks (l : Launch) (hl0 : l.stackTraces = false) (D : va_G) (Y : Nat → ClassId) (N : Nat) (o : Nat) (a aa ad : Nat → Nat) (F : mb_m) (b : mb_bs) (sz : Nat) (x1 x2 : Int32) (K : Int32 → mb_S → Prop) (hF : PL_speaks N F b x1 x2 K) : Met l yL_speaks wsL_speaks ({ frames := 9, cells := 8, slots := 48, locals := 162 } : Room) (va_Pc [.ref o, .int x1, .int x2] (mb_BL D Y (wW Y o a aa ad b F) sz)) (va_Qi K (fun u t => mb_T D (va_A (wW Y o a aa ad b F) sz) (wW Y o a aa ad u.1 u.2) t) (va_A (wW Y o a aa ad b F) sz)) 8 48 (va_A (wW Y o a aa ad b F) sz) := by
  refine mbm_begin (cc := cL_speaks) (maxL := 8) (ret := (some .boolean)) hl0 (by decide +kernel) rfl (Nat.le_of_ble_eq_true rfl) ?_
  intro p e s m below meth c ls CM hsz hP hD hl
  generalize hAe : va_A (wW Y o a aa ad b F) sz = A at CM hD ⊢
  have CM : mb_CM l p s m meth c ([.ref o, .int x1, .int x2] : List Value).toArray cL_speaks 8 (some .boolean) wsL_speaks RL D Y A := CM
  obtain ⟨C, hX, hl0, hN⟩ := id CM
  obtain ⟨hx, hb, hr, hml, hts, hown, hlocks, hA, hG⟩ := id C
  have hK := hG.1
  have hS : va_S A s.heap s.heap [] := va_S.rf
  have hl : lv_has ls 8 [(0, .ref o), (1, .int x1), (2, .int x2)] := hl
  unfold PL_speaks at hF
  refine lv_sipush (v := 1400) hx hb dL_speaks_0 (by decide) ?_
  refine lv_iload_n hx hb dL_speaks_3 rfl (lv_at hl 2 rfl) ?_
  refine lv_sipush (v := 601) hx hb dL_speaks_4 (by decide) ?_
  refine mb_cE hP hS hA (va_runS (As := [.int x2, .int (601 : Int32)]) (rest := [.int (1400 : Int32)]) ⟨hx, hb, hml, hown, hts⟩ (cnL_low l D Y N _ x2 (601 : Int32) _ hF) (va_cwS 2 hts gL_speaks_L_low rfl rfl rfl (by decide +kernel) ⟨Nat.le_of_ble_eq_true rfl, Nat.le_of_ble_eq_true rfl⟩) (mb_preS (A := A) hG mb_P0 mb_D0) rfl rfl hl.1 rfl (lv_room (Nat.le_of_ble_eq_true rfl)) dL_speaks_7 ⟨by show _ ≤ 8; omega, by show _ ≤ 48; omega⟩) (fun r7 H locs hF hP hS => ?_)
  refine lv_iadd hx hb dL_speaks_10 ?_
  refine lv_topi (fun v11 ev11 => ?_)
  have hF := hF v11 ev11
  refine lv_istore_n (lv' := [(3, .int v11), (0, .ref o), (1, .int x1), (2, .int x2)]) hx hb dL_speaks_11 rfl hl (by decide) rfl (fun ls hl => ?_)
  refine lv_iload_n hx hb dL_speaks_12 rfl (lv_at hl 0 rfl) ?_
  refine lv_iload_n hx hb dL_speaks_13 rfl (lv_at hl 3 rfl) ?_
  refine lv_bipush (v := 10) hx hb dL_speaks_14 (by decide) ?_
  refine lv_ishr hx hb dL_speaks_16 ?_
  refine lv_sipush (v := 2001) hx hb dL_speaks_17 (by decide) ?_
  refine lv_iload_n hx hb dL_speaks_20 rfl (lv_at hl 0 rfl) ?_
  refine lv_isub hx hb dL_speaks_21 ?_
  refine mb_cE hP hS hA (va_runS (As := [.int (x2 >>> ((10 : Int32) &&& 31)), .int ((2001 : Int32) - v11)]) (rest := [.int v11]) ⟨hx, hb, hml, hown, hts⟩ (cnL_low l D Y N _ (x2 >>> ((10 : Int32) &&& 31)) ((2001 : Int32) - v11) _ hF) (va_cwS 2 hts gL_speaks_L_low rfl rfl rfl (by decide +kernel) ⟨Nat.le_of_ble_eq_true rfl, Nat.le_of_ble_eq_true rfl⟩) (mb_preS (A := A) hG mb_P0 mb_D0) rfl rfl hl.1 rfl (lv_room (Nat.le_of_ble_eq_true rfl)) dL_speaks_22 ⟨by show _ ≤ 8; omega, by show _ ≤ 48; omega⟩) (fun r22 H locs hF hP hS => ?_)
  refine lv_iadd hx hb dL_speaks_25 ?_
  refine lv_topi (fun v26 ev26 => ?_)
  have hF := hF v26 ev26
  refine lv_istore (lv' := [(4, .int v26), (3, .int v11), (0, .ref o), (1, .int x1), (2, .int x2)]) hx hb dL_speaks_26 hl (by decide) rfl (fun ls hl => ?_)
  refine lv_aload_n hx hb dL_speaks_28 rfl (lv_at hl 2 rfl) ?_
  refine lv_iload_n hx hb dL_speaks_29 rfl (lv_at hl 3 rfl) ?_
  refine lv_iload_n hx hb dL_speaks_30 rfl (lv_at hl 1 rfl) ?_
  refine lv_iload hx hb dL_speaks_31 (lv_at hl 0 rfl) ?_
  refine lv_iconst (v := 1) hx hb dL_speaks_33 (by decide) ?_
  refine lv_iload_n hx hb dL_speaks_34 rfl (lv_at hl 4 rfl) ?_
  refine lv_bipush (v := 20) hx hb dL_speaks_35 (by decide) ?_
  refine lv_ishr hx hb dL_speaks_37 ?_
  refine lv_bipush (v := 9) hx hb dL_speaks_38 (by decide) ?_
  refine mb_cE hP hS hA (va_runS (As := [.int (x2 >>> ((20 : Int32) &&& 31)), .int (9 : Int32)]) (rest := [.int (1 : Int32), .int v26, .int v11, .int x1, .ref o]) ⟨hx, hb, hml, hown, hts⟩ (cnL_low l D Y N _ (x2 >>> ((20 : Int32) &&& 31)) (9 : Int32) _ hF) (va_cwS 2 hts gL_speaks_L_low rfl rfl rfl (by decide +kernel) ⟨Nat.le_of_ble_eq_true rfl, Nat.le_of_ble_eq_true rfl⟩) (mb_preS (A := A) hG mb_P0 mb_D0) rfl rfl hl.1 rfl (lv_room (Nat.le_of_ble_eq_true rfl)) dL_speaks_40 ⟨by show _ ≤ 8; omega, by show _ ≤ 48; omega⟩) (fun r40 H locs hF hP hS => ?_)
  refine lv_iadd hx hb dL_speaks_43 ?_
  refine mb_cW (S := mb_S) hD hS hA (vx_runSW (As := [.ref o, .int x1, .int v11, .int v26, .int ((1 : Int32) + r40)]) (rest := []) ⟨hx, hb, hml, hown, hts⟩ (cw_speak l hl0 D Y N o a aa ad b F _ x1 v11 v26 ((1 : Int32) + r40) _ hF) (vx_cwSW 5 hts gL_speaks_L_speak rfl rfl rfl (by decide +kernel) ⟨Nat.le_of_ble_eq_true rfl, Nat.le_of_ble_eq_true rfl⟩) (mbm_pre CM hP hD hS) rfl rfl hl.1 rfl (lv_room (Nat.le_of_ble_eq_true rfl)) dL_speaks_44 ⟨by show _ ≤ 8; omega, by show _ ≤ 48; omega⟩) (fun r44 u44 H locs hF hP hD hS => ?_)
  have hP : va_P D vwCl (wW Y o a aa ad u44.1 u44.2) H := hP
  have hD : va_D A (wW Y o a aa ad u44.1 u44.2) := hD
  refine lv_istore (lv' := [(5, .int r44), (4, .int v26), (3, .int v11), (0, .ref o), (1, .int x1), (2, .int x2)]) hx hb dL_speaks_47 hl (by decide) rfl (fun ls hl => ?_)
  refine lv_aload_n hx hb dL_speaks_49 rfl (lv_at hl 3 rfl) ?_
  refine lv_iload_n hx hb dL_speaks_50 rfl (lv_at hl 4 rfl) ?_
  refine lv_iconst (v := 0) hx hb dL_speaks_51 (by decide) ?_
  refine mb_cW (S := mb_S) hD hS hA (vx_runSW (As := [.ref o, .int x1, .int (0 : Int32)]) (rest := []) ⟨hx, hb, hml, hown, hts⟩ (cw_year l hl0 D Y N o a aa ad u44.1 u44.2 _ x1 (0 : Int32) _ hF) (vx_cwSW 3 hts gL_speaks_L_year rfl rfl rfl (by decide +kernel) ⟨Nat.le_of_ble_eq_true rfl, Nat.le_of_ble_eq_true rfl⟩) (mbm_pre CM hP hD hS) rfl rfl hl.1 rfl (lv_room (Nat.le_of_ble_eq_true rfl)) dL_speaks_52 ⟨by show _ ≤ 8; omega, by show _ ≤ 48; omega⟩) (fun r52 u52 H locs hF hP hD hS => ?_)
  have hP : va_P D vwCl (wW Y o a aa ad u52.1 u52.2) H := hP
  have hD : va_D A (wW Y o a aa ad u52.1 u52.2) := hD
  refine lv_istore (lv' := [(6, .int r52), (5, .int r44), (4, .int v26), (3, .int v11), (0, .ref o), (1, .int x1), (2, .int x2)]) hx hb dL_speaks_55 hl (by decide) rfl (fun ls hl => ?_)
  refine lv_aload_n hx hb dL_speaks_57 rfl (lv_at hl 4 rfl) ?_
  refine lv_iload_n hx hb dL_speaks_58 rfl (lv_at hl 5 rfl) ?_
  refine lv_iconst (v := 1) hx hb dL_speaks_59 (by decide) ?_
  refine mb_cW (S := mb_S) hD hS hA (vx_runSW (As := [.ref o, .int x1, .int (1 : Int32)]) (rest := []) ⟨hx, hb, hml, hown, hts⟩ (cw_year l hl0 D Y N o a aa ad u52.1 u52.2 _ x1 (1 : Int32) _ hF) (vx_cwSW 3 hts gL_speaks_L_year rfl rfl rfl (by decide +kernel) ⟨Nat.le_of_ble_eq_true rfl, Nat.le_of_ble_eq_true rfl⟩) (mbm_pre CM hP hD hS) rfl rfl hl.1 rfl (lv_room (Nat.le_of_ble_eq_true rfl)) dL_speaks_60 ⟨by show _ ≤ 8; omega, by show _ ≤ 48; omega⟩) (fun r60 u60 H locs hF hP hD hS => ?_)
  have hP : va_P D vwCl (wW Y o a aa ad u60.1 u60.2) H := hP
  have hD : va_D A (wW Y o a aa ad u60.1 u60.2) := hD
  refine lv_istore (lv' := [(7, .int r60), (6, .int r52), (5, .int r44), (4, .int v26), (3, .int v11), (0, .ref o), (1, .int x1), (2, .int x2)]) hx hb dL_speaks_63 hl (by decide) rfl (fun ls hl => ?_)
  refine lv_iload hx hb dL_speaks_65 (lv_at hl 2 rfl) ?_
  refine lv_if_gt (tgt := 77) hx hb dL_speaks_67 (by decide) (fun c_67 => ?_) (fun c_67 => ?_)
  · have hF := hF.1 c_67
    exact wL_speaks_77 CM u60.2 u60.1 x1 v11 v26 r44 r52 r60 _ _ _ _ _ hF hP hD hS (lv_sub hl [5, 6, 4, 3, 2, 1, 0] rfl) (by omega) (by omega)
  · have hF := hF.2 c_67
    refine lv_iload hx hb dL_speaks_70 (lv_at hl 2 rfl) ?_
    refine lv_ldc (v := -1000003) hx hb hown (hts (.constant RL 32 (-1000003)) (List.mem_of_getElem? (i := 1) rfl)) dL_speaks_72 ?_
    refine lv_icmp_ne (tgt := 145) hx hb dL_speaks_74 (by decide) (fun c_74 => ?_) (fun c_74 => ?_)
    · have hF := hF.1 c_74
      refine lv_iconst (v := 0) hx hb dL_speaks_145 (by decide) ?_
      exact mb_ri (S := mb_S) (mc := 8) (ms := 48) (wf := fun u => wW Y o a aa ad u.1 u.2) C rfl (u := (u60.1, u60.2)) hF hP hD hS dL_speaks_146 (by omega) (by omega)
    · have hF := hF.2 c_74
      exact wL_speaks_77 CM u60.2 u60.1 x1 v11 v26 r44 r52 r60 _ _ _ _ _ hF hP hD hS (lv_sub hl [5, 6, 4, 3, 2, 1, 0] rfl) (by omega) (by omega)
end
section
noncomputable def PL_repairs_152 (N : Nat) (K : Int32 → mb_S → Prop) (F : mb_m) (b : mb_bs) (y0 y1 : Int32) : Prop := (¬ y1 = y0 → K (0 : Int32) (b, F)) ∧ (y1 = y0 → K (1 : Int32) (b, F))
set_option maxHeartbeats 4000000 in
set_option maxRecDepth 100000 in
theorem wL_repairs_152 {p : Program} {l : Launch} {e : Env} {s : State} {m : MethodId} {below : List Frame} {meth : Method} {c : Code} {args : Array Value} {D : va_G} {Y : Nat → ClassId} {A : Nat → Prop} {o : Nat} {a aa ad : Nat → Nat} {N : Nat} {K : Int32 → mb_S → Prop} (CM : mb_CM l p s m meth c args cL_repairs 8 (some .boolean) wsL_repairs RL D Y A) : ∀ (F : mb_m) (b : mb_bs) (y0 y1 : Int32) (H : Heap) (locs : List Loc) (ls : Array Slot) (cells slots : Nat), PL_repairs_152 N K  F b y0 y1 → va_P D vwCl (wW Y o a aa ad b F) H → va_D A (wW Y o a aa ad b F) → va_S A s.heap H locs → lv_has ls 8 [] → cells + (0 + 0) ≤ 6 → slots + (0 + 0) ≤ 36 → W p l e ({ frames := 9, cells := 6, slots := 36, locals := 158 } : Room) s m args below meth c H locs cells slots (MQ below (va_Qi K (fun u t => mb_T D A (wW Y o a aa ad u.1 u.2) t) A) args s 6 36 A) (F0 m 152 ls [.int y0, .int y1]) := by
  obtain ⟨C, hX, hl0, hN⟩ := id CM
  obtain ⟨hx, hb, hr, hml, hts, hown, hlocks, hA, hG⟩ := id C
  have hK := hG.1
  intro F b y0 y1 H locs ls cells slots hF hP hD hS hl hc hs
  unfold PL_repairs_152 at hF
  refine lv_icmp_ne (tgt := 159) hx hb dL_repairs_152 (by decide) (fun c_152 => ?_) (fun c_152 => ?_)
  · have hF := hF.1 c_152
    refine lv_iconst (v := 0) hx hb dL_repairs_159 (by decide) ?_
    exact mb_ri (S := mb_S) (mc := 6) (ms := 36) (wf := fun u => wW Y o a aa ad u.1 u.2) C rfl (u := (b, F)) hF hP hD hS dL_repairs_160 (by omega) (by omega)
  · have hF := hF.2 c_152
    refine lv_iconst (v := 1) hx hb dL_repairs_155 (by decide) ?_
    refine lv_goto (tgt := 160) hx hb dL_repairs_156 (by decide) ?_
    exact mb_ri (S := mb_S) (mc := 6) (ms := 36) (wf := fun u => wW Y o a aa ad u.1 u.2) C rfl (u := (b, F)) hF hP hD hS dL_repairs_160 (by omega) (by omega)
noncomputable def PL_repairs_128 (N : Nat) (K : Int32 → mb_S → Prop) (F : mb_m) (b : mb_bs) (x5 x7 y0 y1 y2 : Int32) : Prop := ∀ v129 : Int32, v129 = (y1 - y0) → (vp_in y2 4 ∧ (∀ M129 : mb_m, M129 = mb_u F 4 (upd (F 4) y2.toNatClampNeg v129) → ((x7 = (-5 : Int32) → K (1 : Int32) (b, M129)) ∧ (¬ x7 = (-5 : Int32) → ((3 : Int32) ≤ x5 → PL_repairs_152 N K M129 b (-1000003 : Int32) x7) ∧ (¬ (3 : Int32) ≤ x5 → PL_repairs_152 N K M129 b x5 x7)))))
set_option maxHeartbeats 4000000 in
set_option maxRecDepth 100000 in
theorem wL_repairs_128 {p : Program} {l : Launch} {e : Env} {s : State} {m : MethodId} {below : List Frame} {meth : Method} {c : Code} {args : Array Value} {D : va_G} {Y : Nat → ClassId} {A : Nat → Prop} {o : Nat} {a aa ad : Nat → Nat} {N : Nat} {K : Int32 → mb_S → Prop} (CM : mb_CM l p s m meth c args cL_repairs 8 (some .boolean) wsL_repairs RL D Y A) : ∀ (F : mb_m) (b : mb_bs) (x5 x7 y0 y1 y2 : Int32) (H : Heap) (locs : List Loc) (ls : Array Slot) (cells slots : Nat), PL_repairs_128 N K  F b x5 x7 y0 y1 y2 → va_P D vwCl (wW Y o a aa ad b F) H → va_D A (wW Y o a aa ad b F) → va_S A s.heap H locs → lv_has ls 8 [(5, .int x5), (7, .int x7)] → cells + (0 + 0) ≤ 6 → slots + (0 + 0) ≤ 36 → W p l e ({ frames := 9, cells := 6, slots := 36, locals := 158 } : Room) s m args below meth c H locs cells slots (MQ below (va_Qi K (fun u t => mb_T D A (wW Y o a aa ad u.1 u.2) t) A) args s 6 36 A) (F0 m 128 ls [.int y0, .int y1, .int y2, .ref (ad 4)]) := by
  obtain ⟨C, hX, hl0, hN⟩ := id CM
  obtain ⟨hx, hb, hr, hml, hts, hown, hlocks, hA, hG⟩ := id C
  have hK := hG.1
  intro F b x5 x7 y0 y1 y2 H locs ls cells slots hF hP hD hS hl hc hs
  unfold PL_repairs_128 at hF
  refine lv_isub hx hb dL_repairs_128 ?_
  refine lv_topi (fun v129 ev129 => ?_)
  have hF := hF v129 ev129
  obtain ⟨hi129, hF⟩ := hF
  refine va_iast hx hb hK hP hD hS 4 0 rfl rfl hi129 dL_repairs_129 (fun H locs hP hD hS => ?_)
  obtain ⟨M129, eM129⟩ : ∃ y : mb_m, y = mb_u F 4 (upd (F 4) y2.toNatClampNeg v129) := ⟨_, rfl⟩
  have hF := hF M129 eM129
  have hP : va_P D vwCl (wW Y o a aa ad b (mb_u F 4 (upd (F 4) y2.toNatClampNeg v129))) H := hP
  have hD : va_D A (wW Y o a aa ad b (mb_u F 4 (upd (F 4) y2.toNatClampNeg v129))) := hD
  rw [← eM129] at hP hD
  refine lv_iload hx hb dL_repairs_130 (lv_at hl 1 rfl) ?_
  refine lv_bipush (v := -5) hx hb dL_repairs_132 (by decide) ?_
  refine lv_icmp_eq (tgt := 155) hx hb dL_repairs_134 (by decide) (fun c_134 => ?_) (fun c_134 => ?_)
  · have hF := hF.1 c_134
    refine lv_iconst (v := 1) hx hb dL_repairs_155 (by decide) ?_
    refine lv_goto (tgt := 160) hx hb dL_repairs_156 (by decide) ?_
    exact mb_ri (S := mb_S) (mc := 6) (ms := 36) (wf := fun u => wW Y o a aa ad u.1 u.2) C rfl (u := (b, M129)) hF hP hD hS dL_repairs_160 (by omega) (by omega)
  · have hF := hF.2 c_134
    refine lv_iload hx hb dL_repairs_137 (lv_at hl 1 rfl) ?_
    refine lv_iload hx hb dL_repairs_139 (lv_at hl 0 rfl) ?_
    refine lv_iconst (v := 3) hx hb dL_repairs_141 (by decide) ?_
    refine lv_icmp_ge (tgt := 150) hx hb dL_repairs_142 (by decide) (fun c_142 => ?_) (fun c_142 => ?_)
    · have hF := hF.1 c_142
      refine lv_ldc (v := -1000003) hx hb hown (hts (.constant RL 32 (-1000003)) (List.mem_of_getElem? (i := 1) rfl)) dL_repairs_150 ?_
      exact wL_repairs_152 CM M129 b (-1000003 : Int32) x7 _ _ _ _ _ hF hP hD hS (lv_sub hl [] rfl) (by omega) (by omega)
    · have hF := hF.2 c_142
      refine lv_iload hx hb dL_repairs_145 (lv_at hl 0 rfl) ?_
      refine lv_goto (tgt := 152) hx hb dL_repairs_147 (by decide) ?_
      exact wL_repairs_152 CM M129 b x5 x7 _ _ _ _ _ hF hP hD hS (lv_sub hl [] rfl) (by omega) (by omega)
noncomputable def PL_repairs_112 (N : Nat) (K : Int32 → mb_S → Prop) (F : mb_m) (b : mb_bs) (x3 x5 y0 : Int32) : Prop := vp_in x3 4 ∧ ((y0 < 0 → PL_repairs_128 N K F b x5 y0 (0 : Int32) (F 4 x3.toNatClampNeg) x3) ∧ (¬ y0 < 0 → PL_repairs_128 N K F b x5 y0 (1 : Int32) (F 4 x3.toNatClampNeg) x3))
set_option maxHeartbeats 4000000 in
set_option maxRecDepth 100000 in
theorem wL_repairs_112 {p : Program} {l : Launch} {e : Env} {s : State} {m : MethodId} {below : List Frame} {meth : Method} {c : Code} {args : Array Value} {D : va_G} {Y : Nat → ClassId} {A : Nat → Prop} {o : Nat} {a aa ad : Nat → Nat} {N : Nat} {K : Int32 → mb_S → Prop} (CM : mb_CM l p s m meth c args cL_repairs 8 (some .boolean) wsL_repairs RL D Y A) : ∀ (F : mb_m) (b : mb_bs) (x3 x5 y0 : Int32) (H : Heap) (locs : List Loc) (ls : Array Slot) (cells slots : Nat), PL_repairs_112 N K  F b x3 x5 y0 → va_P D vwCl (wW Y o a aa ad b F) H → va_D A (wW Y o a aa ad b F) → va_S A s.heap H locs → lv_has ls 8 [(2, .ref (ad 4)), (3, .int x3), (5, .int x5)] → cells + (0 + 0) ≤ 6 → slots + (0 + 0) ≤ 36 → W p l e ({ frames := 9, cells := 6, slots := 36, locals := 158 } : Room) s m args below meth c H locs cells slots (MQ below (va_Qi K (fun u t => mb_T D A (wW Y o a aa ad u.1 u.2) t) A) args s 6 36 A) (F0 m 112 ls [.int y0]) := by
  obtain ⟨C, hX, hl0, hN⟩ := id CM
  obtain ⟨hx, hb, hr, hml, hts, hown, hlocks, hA, hG⟩ := id C
  have hK := hG.1
  intro F b x3 x5 y0 H locs ls cells slots hF hP hD hS hl hc hs
  unfold PL_repairs_112 at hF
  refine lv_istore (lv' := [(7, .int y0), (2, .ref (ad 4)), (3, .int x3), (5, .int x5)]) hx hb dL_repairs_112 hl (by decide) rfl (fun ls hl => ?_)
  refine lv_aload_n hx hb dL_repairs_114 rfl (lv_at hl 1 rfl) ?_
  refine lv_iload_n hx hb dL_repairs_115 rfl (lv_at hl 2 rfl) ?_
  refine lv_dup2_11 hx hb dL_repairs_116 rfl rfl ?_
  obtain ⟨hi117, hF⟩ := hF
  refine va_iald hx hb hK hP 4 0 rfl rfl hi117 dL_repairs_117 ?_
  refine lv_iload hx hb dL_repairs_118 (lv_at hl 0 rfl) ?_
  refine lv_if_lt (tgt := 127) hx hb dL_repairs_120 (by decide) (fun c_120 => ?_) (fun c_120 => ?_)
  · have hF := hF.1 c_120
    refine lv_iconst (v := 0) hx hb dL_repairs_127 (by decide) ?_
    exact wL_repairs_128 CM F b x5 y0 (0 : Int32) (F 4 x3.toNatClampNeg) x3 _ _ _ _ _ hF hP hD hS (lv_sub hl [3, 0] rfl) (by omega) (by omega)
  · have hF := hF.2 c_120
    refine lv_iconst (v := 1) hx hb dL_repairs_123 (by decide) ?_
    refine lv_goto (tgt := 128) hx hb dL_repairs_124 (by decide) ?_
    exact wL_repairs_128 CM F b x5 y0 (1 : Int32) (F 4 x3.toNatClampNeg) x3 _ _ _ _ _ hF hP hD hS (lv_sub hl [3, 0] rfl) (by omega) (by omega)
noncomputable def PL_repairs_91 (N : Nat) (K : Int32 → mb_S → Prop) (F : mb_m) (b : mb_bs) (x3 x4 x5 : Int32) : Prop := PL_low N (x4 >>> ((3 : Int32) &&& 31)) (2 : Int32) (fun r96 _ => (¬ r96 = 0 → PL_repairs_112 N K F b x3 x5 (-5 : Int32)) ∧ (r96 = 0 → LP_undo N b F x3 (fun r104 u104 => PL_repairs_112 N K u104.2 u104.1 x3 x5 r104)))
set_option maxHeartbeats 4000000 in
set_option maxRecDepth 100000 in
theorem wL_repairs_91 {p : Program} {l : Launch} {e : Env} {s : State} {m : MethodId} {below : List Frame} {meth : Method} {c : Code} {args : Array Value} {D : va_G} {Y : Nat → ClassId} {A : Nat → Prop} {o : Nat} {a aa ad : Nat → Nat} {N : Nat} {K : Int32 → mb_S → Prop} (CM : mb_CM l p s m meth c args cL_repairs 8 (some .boolean) wsL_repairs RL D Y A) : ∀ (F : mb_m) (b : mb_bs) (x3 x4 x5 : Int32) (H : Heap) (locs : List Loc) (ls : Array Slot) (cells slots : Nat), PL_repairs_91 N K  F b x3 x4 x5 → va_P D vwCl (wW Y o a aa ad b F) H → va_D A (wW Y o a aa ad b F) → va_S A s.heap H locs → lv_has ls 8 [(0, .ref o), (2, .ref (ad 4)), (3, .int x3), (4, .int x4), (5, .int x5)] → cells + (2 + 0) ≤ 6 → slots + (12 + 0) ≤ 36 → W p l e ({ frames := 9, cells := 6, slots := 36, locals := 158 } : Room) s m args below meth c H locs cells slots (MQ below (va_Qi K (fun u t => mb_T D A (wW Y o a aa ad u.1 u.2) t) A) args s 6 36 A) (F0 m 91 ls []) := by
  obtain ⟨C, hX, hl0, hN⟩ := id CM
  obtain ⟨hx, hb, hr, hml, hts, hown, hlocks, hA, hG⟩ := id C
  have hK := hG.1
  intro F b x3 x4 x5 H locs ls cells slots hF hP hD hS hl hc hs
  unfold PL_repairs_91 at hF
  refine lv_iload hx hb dL_repairs_91 (lv_at hl 3 rfl) ?_
  refine lv_iconst (v := 3) hx hb dL_repairs_93 (by decide) ?_
  refine lv_ishr hx hb dL_repairs_94 ?_
  refine lv_iconst (v := 2) hx hb dL_repairs_95 (by decide) ?_
  refine mb_cE hP hS hA (va_runS (As := [.int (x4 >>> ((3 : Int32) &&& 31)), .int (2 : Int32)]) (rest := []) ⟨hx, hb, hml, hown, hts⟩ (cnL_low l D Y N _ (x4 >>> ((3 : Int32) &&& 31)) (2 : Int32) _ hF) (va_cwS 2 hts gL_repairs_L_low rfl rfl rfl (by decide +kernel) ⟨Nat.le_of_ble_eq_true rfl, Nat.le_of_ble_eq_true rfl⟩) (mb_preS (A := A) hG mb_P0 mb_D0) rfl rfl hl.1 rfl (lv_room (Nat.le_of_ble_eq_true rfl)) dL_repairs_96 ⟨by show _ ≤ 6; omega, by show _ ≤ 36; omega⟩) (fun r96 H locs hF hP hS => ?_)
  refine lv_if_ne (tgt := 110) hx hb dL_repairs_99 (by decide) (fun c_99 => ?_) (fun c_99 => ?_)
  · have hF := hF.1 c_99
    refine lv_bipush (v := -5) hx hb dL_repairs_110 (by decide) ?_
    exact wL_repairs_112 CM F b x3 x5 (-5 : Int32) _ _ _ _ _ hF hP hD hS (lv_sub hl [1, 2, 4] rfl) (by omega) (by omega)
  · have hF := hF.2 c_99
    refine lv_aload_n hx hb dL_repairs_102 rfl (lv_at hl 0 rfl) ?_
    refine lv_iload_n hx hb dL_repairs_103 rfl (lv_at hl 2 rfl) ?_
    refine mb_cW (S := mb_S) hD hS hA (vx_runSW (As := [.ref o, .int x3]) (rest := []) ⟨hx, hb, hml, hown, hts⟩ (cw_undo l hl0 D Y N o a aa ad b F _ x3 _ hF) (vx_cwSW 2 hts gL_repairs_L_undo rfl rfl rfl (by decide +kernel) ⟨Nat.le_of_ble_eq_true rfl, Nat.le_of_ble_eq_true rfl⟩) (mbm_pre CM hP hD hS) rfl rfl hl.1 rfl (lv_room (Nat.le_of_ble_eq_true rfl)) dL_repairs_104 ⟨by show _ ≤ 6; omega, by show _ ≤ 36; omega⟩) (fun r104 u104 H locs hF hP hD hS => ?_)
    have hP : va_P D vwCl (wW Y o a aa ad u104.1 u104.2) H := hP
    have hD : va_D A (wW Y o a aa ad u104.1 u104.2) := hD
    refine lv_goto (tgt := 112) hx hb dL_repairs_107 (by decide) ?_
    exact wL_repairs_112 CM u104.2 u104.1 x3 x5 r104 _ _ _ _ _ hF hP hD hS (lv_sub hl [1, 2, 4] rfl) (by omega) (by omega)
noncomputable def PL_repairs (N : Nat) (F : mb_m) (b : mb_bs) (x3 x4 : Int32) (K : Int32 → mb_S → Prop) : Prop := PL_low N x4 (5 : Int32) (fun r3 _ => LP_repair N b F x3 r3 (fun r12 u12 => (¬ r12 = (-1000003 : Int32) → vp_in x3 4 ∧ (∀ v62 : Int32, v62 = ((u12.2 4 x3.toNatClampNeg) + (1 : Int32)) → (vp_in x3 4 ∧ (∀ M62 : mb_m, M62 = mb_u u12.2 4 (upd (u12.2 4) x3.toNatClampNeg v62) → (vp_in x3 4 ∧ ((¬ r12 = (M62 4 x3.toNatClampNeg) → K (0 : Int32) (u12.1, M62)) ∧ (r12 = (M62 4 x3.toNatClampNeg) → vp_in (((6 : Int32) * x3) + (4 : Int32)) 24 ∧ ((¬ (M62 1 (((6 : Int32) * x3) + (4 : Int32)).toNatClampNeg) = (1 : Int32) → PL_repairs_91 N K M62 u12.1 x3 x4 r3) ∧ ((M62 1 (((6 : Int32) * x3) + (4 : Int32)).toNatClampNeg) = (1 : Int32) → (r3 ≤ (2 : Int32) → PL_repairs_91 N K M62 u12.1 x3 x4 r3) ∧ (¬ r3 ≤ (2 : Int32) → K (0 : Int32) (u12.1, M62))))))))))) ∧ (r12 = (-1000003 : Int32) → vp_in x3 4 ∧ (((u12.2 4 x3.toNatClampNeg) = (20 : Int32) → K (1 : Int32) (u12.1, u12.2)) ∧ (¬ (u12.2 4 x3.toNatClampNeg) = (20 : Int32) → vp_in (((6 : Int32) * x3) + (4 : Int32)) 24 ∧ ((¬ (u12.2 1 (((6 : Int32) * x3) + (4 : Int32)).toNatClampNeg) = (1 : Int32) → K (0 : Int32) (u12.1, u12.2)) ∧ ((u12.2 1 (((6 : Int32) * x3) + (4 : Int32)).toNatClampNeg) = (1 : Int32) → (r3 ≤ (2 : Int32) → K (0 : Int32) (u12.1, u12.2)) ∧ (¬ r3 ≤ (2 : Int32) → K (1 : Int32) (u12.1, u12.2)))))))))
set_option maxHeartbeats 4000000 in
set_option maxRecDepth 100000 in
theorem cnL_repairs (l : Launch) (hl0 : l.stackTraces = false) (D : va_G) (Y : Nat → ClassId) (N : Nat) (o : Nat) (a aa ad : Nat → Nat) (F : mb_m) (b : mb_bs) (sz : Nat) (x3 x4 : Int32) (K : Int32 → mb_S → Prop) (hF : PL_repairs N F b x3 x4 K) : Met l yL_repairs wsL_repairs ({ frames := 9, cells := 6, slots := 36, locals := 158 } : Room) (va_Pc [.ref o, .ref (ad 1), .ref (ad 4), .int x3, .int x4] (mb_BL D Y (wW Y o a aa ad b F) sz)) (va_Qi K (fun u t => mb_T D (va_A (wW Y o a aa ad b F) sz) (wW Y o a aa ad u.1 u.2) t) (va_A (wW Y o a aa ad b F) sz)) 6 36 (va_A (wW Y o a aa ad b F) sz) := by
  refine mbm_begin (cc := cL_repairs) (maxL := 8) (ret := (some .boolean)) hl0 (by decide +kernel) rfl (Nat.le_of_ble_eq_true rfl) ?_
  intro p e s m below meth c ls CM hsz hP hD hl
  generalize hAe : va_A (wW Y o a aa ad b F) sz = A at CM hD ⊢
  have CM : mb_CM l p s m meth c ([.ref o, .ref (ad 1), .ref (ad 4), .int x3, .int x4] : List Value).toArray cL_repairs 8 (some .boolean) wsL_repairs RL D Y A := CM
  obtain ⟨C, hX, hl0, hN⟩ := id CM
  obtain ⟨hx, hb, hr, hml, hts, hown, hlocks, hA, hG⟩ := id C
  have hK := hG.1
  have hS : va_S A s.heap s.heap [] := va_S.rf
  have hl : lv_has ls 8 [(0, .ref o), (1, .ref (ad 1)), (2, .ref (ad 4)), (3, .int x3), (4, .int x4)] := hl
  unfold PL_repairs at hF
  refine lv_iload hx hb dL_repairs_0 (lv_at hl 4 rfl) ?_
  refine lv_iconst (v := 5) hx hb dL_repairs_2 (by decide) ?_
  refine mb_cE hP hS hA (va_runS (As := [.int x4, .int (5 : Int32)]) (rest := []) ⟨hx, hb, hml, hown, hts⟩ (cnL_low l D Y N _ x4 (5 : Int32) _ hF) (va_cwS 2 hts gL_repairs_L_low rfl rfl rfl (by decide +kernel) ⟨Nat.le_of_ble_eq_true rfl, Nat.le_of_ble_eq_true rfl⟩) (mb_preS (A := A) hG mb_P0 mb_D0) rfl rfl hl.1 rfl (lv_room (Nat.le_of_ble_eq_true rfl)) dL_repairs_3 ⟨by show _ ≤ 6; omega, by show _ ≤ 36; omega⟩) (fun r3 H locs hF hP hS => ?_)
  refine lv_istore (lv' := [(5, .int r3), (0, .ref o), (1, .ref (ad 1)), (2, .ref (ad 4)), (3, .int x3), (4, .int x4)]) hx hb dL_repairs_6 hl (by decide) rfl (fun ls hl => ?_)
  refine lv_aload_n hx hb dL_repairs_8 rfl (lv_at hl 1 rfl) ?_
  refine lv_iload_n hx hb dL_repairs_9 rfl (lv_at hl 4 rfl) ?_
  refine lv_iload hx hb dL_repairs_10 (lv_at hl 0 rfl) ?_
  refine mb_cW (S := mb_S) hD hS hA (vx_runSW (As := [.ref o, .int x3, .int r3]) (rest := []) ⟨hx, hb, hml, hown, hts⟩ (cw_repair l hl0 D Y N o a aa ad b F _ x3 r3 _ hF) (vx_cwSW 3 hts gL_repairs_L_repair rfl rfl rfl (by decide +kernel) ⟨Nat.le_of_ble_eq_true rfl, Nat.le_of_ble_eq_true rfl⟩) (mbm_pre CM hP hD hS) rfl rfl hl.1 rfl (lv_room (Nat.le_of_ble_eq_true rfl)) dL_repairs_12 ⟨by show _ ≤ 6; omega, by show _ ≤ 36; omega⟩) (fun r12 u12 H locs hF hP hD hS => ?_)
  have hP : va_P D vwCl (wW Y o a aa ad u12.1 u12.2) H := hP
  have hD : va_D A (wW Y o a aa ad u12.1 u12.2) := hD
  refine lv_istore (lv' := [(6, .int r12), (5, .int r3), (0, .ref o), (1, .ref (ad 1)), (2, .ref (ad 4)), (3, .int x3), (4, .int x4)]) hx hb dL_repairs_15 hl (by decide) rfl (fun ls hl => ?_)
  refine lv_iload hx hb dL_repairs_17 (lv_at hl 0 rfl) ?_
  refine lv_ldc (v := -1000003) hx hb hown (hts (.constant RL 32 (-1000003)) (List.mem_of_getElem? (i := 1) rfl)) dL_repairs_19 ?_
  refine lv_icmp_ne (tgt := 56) hx hb dL_repairs_21 (by decide) (fun c_21 => ?_) (fun c_21 => ?_)
  · have hF := hF.1 c_21
    refine lv_aload_n hx hb dL_repairs_56 rfl (lv_at hl 4 rfl) ?_
    refine lv_iload_n hx hb dL_repairs_57 rfl (lv_at hl 5 rfl) ?_
    refine lv_dup2_11 hx hb dL_repairs_58 rfl rfl ?_
    obtain ⟨hi59, hF⟩ := hF
    refine va_iald hx hb hK hP 4 0 rfl rfl hi59 dL_repairs_59 ?_
    refine lv_iconst (v := 1) hx hb dL_repairs_60 (by decide) ?_
    refine lv_iadd hx hb dL_repairs_61 ?_
    refine lv_topi (fun v62 ev62 => ?_)
    have hF := hF v62 ev62
    obtain ⟨hi62, hF⟩ := hF
    refine va_iast hx hb hK hP hD hS 4 0 rfl rfl hi62 dL_repairs_62 (fun H locs hP hD hS => ?_)
    obtain ⟨M62, eM62⟩ : ∃ y : mb_m, y = mb_u u12.2 4 (upd (u12.2 4) x3.toNatClampNeg v62) := ⟨_, rfl⟩
    have hF := hF M62 eM62
    have hP : va_P D vwCl (wW Y o a aa ad u12.1 (mb_u u12.2 4 (upd (u12.2 4) x3.toNatClampNeg v62))) H := hP
    have hD : va_D A (wW Y o a aa ad u12.1 (mb_u u12.2 4 (upd (u12.2 4) x3.toNatClampNeg v62))) := hD
    rw [← eM62] at hP hD
    refine lv_iload hx hb dL_repairs_63 (lv_at hl 0 rfl) ?_
    refine lv_aload_n hx hb dL_repairs_65 rfl (lv_at hl 4 rfl) ?_
    refine lv_iload_n hx hb dL_repairs_66 rfl (lv_at hl 5 rfl) ?_
    obtain ⟨hi67, hF⟩ := hF
    refine va_iald hx hb hK hP 4 0 rfl rfl hi67 dL_repairs_67 ?_
    refine lv_icmp_ne (tgt := 89) hx hb dL_repairs_68 (by decide) (fun c_68 => ?_) (fun c_68 => ?_)
    · have hF := hF.1 c_68
      refine lv_iconst (v := 0) hx hb dL_repairs_89 (by decide) ?_
      exact mb_ri (S := mb_S) (mc := 6) (ms := 36) (wf := fun u => wW Y o a aa ad u.1 u.2) C rfl (u := (u12.1, M62)) hF hP hD hS dL_repairs_90 (by omega) (by omega)
    · have hF := hF.2 c_68
      refine lv_aload_n hx hb dL_repairs_71 rfl (lv_at hl 3 rfl) ?_
      refine lv_bipush (v := 6) hx hb dL_repairs_72 (by decide) ?_
      refine lv_iload_n hx hb dL_repairs_74 rfl (lv_at hl 5 rfl) ?_
      refine lv_imul hx hb dL_repairs_75 ?_
      refine lv_iconst (v := 4) hx hb dL_repairs_76 (by decide) ?_
      refine lv_iadd hx hb dL_repairs_77 ?_
      obtain ⟨hi78, hF⟩ := hF
      refine va_iald hx hb hK hP 1 0 rfl rfl hi78 dL_repairs_78 ?_
      refine lv_iconst (v := 1) hx hb dL_repairs_79 (by decide) ?_
      refine lv_icmp_ne (tgt := 91) hx hb dL_repairs_80 (by decide) (fun c_80 => ?_) (fun c_80 => ?_)
      · have hF := hF.1 c_80
        exact wL_repairs_91 CM M62 u12.1 x3 x4 r3 _ _ _ _ _ hF hP hD hS (lv_sub hl [2, 4, 5, 6, 1] rfl) (by omega) (by omega)
      · have hF := hF.2 c_80
        refine lv_iload hx hb dL_repairs_83 (lv_at hl 1 rfl) ?_
        refine lv_iconst (v := 2) hx hb dL_repairs_85 (by decide) ?_
        refine lv_icmp_le (tgt := 91) hx hb dL_repairs_86 (by decide) (fun c_86 => ?_) (fun c_86 => ?_)
        · have hF := hF.1 c_86
          exact wL_repairs_91 CM M62 u12.1 x3 x4 r3 _ _ _ _ _ hF hP hD hS (lv_sub hl [2, 4, 5, 6, 1] rfl) (by omega) (by omega)
        · have hF := hF.2 c_86
          refine lv_iconst (v := 0) hx hb dL_repairs_89 (by decide) ?_
          exact mb_ri (S := mb_S) (mc := 6) (ms := 36) (wf := fun u => wW Y o a aa ad u.1 u.2) C rfl (u := (u12.1, M62)) hF hP hD hS dL_repairs_90 (by omega) (by omega)
  · have hF := hF.2 c_21
    refine lv_aload_n hx hb dL_repairs_24 rfl (lv_at hl 4 rfl) ?_
    refine lv_iload_n hx hb dL_repairs_25 rfl (lv_at hl 5 rfl) ?_
    obtain ⟨hi26, hF⟩ := hF
    refine va_iald hx hb hK hP 4 0 rfl rfl hi26 dL_repairs_26 ?_
    refine lv_bipush (v := 20) hx hb dL_repairs_27 (by decide) ?_
    refine lv_icmp_eq (tgt := 50) hx hb dL_repairs_29 (by decide) (fun c_29 => ?_) (fun c_29 => ?_)
    · have hF := hF.1 c_29
      refine lv_iconst (v := 1) hx hb dL_repairs_50 (by decide) ?_
      refine lv_goto (tgt := 55) hx hb dL_repairs_51 (by decide) ?_
      exact mb_ri (S := mb_S) (mc := 6) (ms := 36) (wf := fun u => wW Y o a aa ad u.1 u.2) C rfl (u := (u12.1, u12.2)) hF hP hD hS dL_repairs_55 (by omega) (by omega)
    · have hF := hF.2 c_29
      refine lv_aload_n hx hb dL_repairs_32 rfl (lv_at hl 3 rfl) ?_
      refine lv_bipush (v := 6) hx hb dL_repairs_33 (by decide) ?_
      refine lv_iload_n hx hb dL_repairs_35 rfl (lv_at hl 5 rfl) ?_
      refine lv_imul hx hb dL_repairs_36 ?_
      refine lv_iconst (v := 4) hx hb dL_repairs_37 (by decide) ?_
      refine lv_iadd hx hb dL_repairs_38 ?_
      obtain ⟨hi39, hF⟩ := hF
      refine va_iald hx hb hK hP 1 0 rfl rfl hi39 dL_repairs_39 ?_
      refine lv_iconst (v := 1) hx hb dL_repairs_40 (by decide) ?_
      refine lv_icmp_ne (tgt := 54) hx hb dL_repairs_41 (by decide) (fun c_41 => ?_) (fun c_41 => ?_)
      · have hF := hF.1 c_41
        refine lv_iconst (v := 0) hx hb dL_repairs_54 (by decide) ?_
        exact mb_ri (S := mb_S) (mc := 6) (ms := 36) (wf := fun u => wW Y o a aa ad u.1 u.2) C rfl (u := (u12.1, u12.2)) hF hP hD hS dL_repairs_55 (by omega) (by omega)
      · have hF := hF.2 c_41
        refine lv_iload hx hb dL_repairs_44 (lv_at hl 1 rfl) ?_
        refine lv_iconst (v := 2) hx hb dL_repairs_46 (by decide) ?_
        refine lv_icmp_le (tgt := 54) hx hb dL_repairs_47 (by decide) (fun c_47 => ?_) (fun c_47 => ?_)
        · have hF := hF.1 c_47
          refine lv_iconst (v := 0) hx hb dL_repairs_54 (by decide) ?_
          exact mb_ri (S := mb_S) (mc := 6) (ms := 36) (wf := fun u => wW Y o a aa ad u.1 u.2) C rfl (u := (u12.1, u12.2)) hF hP hD hS dL_repairs_55 (by omega) (by omega)
        · have hF := hF.2 c_47
          refine lv_iconst (v := 1) hx hb dL_repairs_50 (by decide) ?_
          refine lv_goto (tgt := 55) hx hb dL_repairs_51 (by decide) ?_
          exact mb_ri (S := mb_S) (mc := 6) (ms := 36) (wf := fun u => wW Y o a aa ad u.1 u.2) C rfl (u := (u12.1, u12.2)) hF hP hD hS dL_repairs_55 (by omega) (by omega)
end
