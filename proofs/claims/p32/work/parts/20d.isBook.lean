section
noncomputable def PL_isBook_129 (N : Nat) (K : Int32 → mb_S → Prop) (b72 : mb_m → mb_bs → Int32 → Int32 → Int32 → Int32 → Int32 → Int32 → Int32 → Int32 → Prop) (b89 : mb_m → mb_bs → Int32 → Int32 → Int32 → Int32 → Int32 → Int32 → Int32 → Int32 → Int32 → Prop) (F : mb_m) (b : mb_bs) (x2 x3 x4 x5 x6 x7 x9 x11 y0 : Int32) : Prop := ∀ v131 : Int32, v131 = x11 + (1 : Int32) → (b89 F b x2 x3 x4 x5 x6 x7 x9 y0 v131)
set_option maxHeartbeats 4000000 in
set_option maxRecDepth 100000 in
theorem wL_isBook_129 {p : Program} {l : Launch} {e : Env} {s : State} {m : MethodId} {below : List Frame} {meth : Method} {c : Code} {args : Array Value} {D : va_G} {Y : Nat → ClassId} {A : Nat → Prop} {o : Nat} {a aa ad : Nat → Nat} {N : Nat} {K : Int32 → mb_S → Prop} {b72 : mb_m → mb_bs → Int32 → Int32 → Int32 → Int32 → Int32 → Int32 → Int32 → Int32 → Prop} {b89 : mb_m → mb_bs → Int32 → Int32 → Int32 → Int32 → Int32 → Int32 → Int32 → Int32 → Int32 → Prop} (CM : mb_CM l p s m meth c args cL_isBook 13 (some .boolean) wsL_isBook RL D Y A) (r72 t72 : Nat) (r89 t89 : Nat) (hr72 : 1049 + 0 ≤ r72) (ht72 : 6294 + 0 ≤ t72) (hr89 : 6 + r72 ≤ r89) (ht89 : 36 + t72 ≤ t89) (hb72 : ∀ (F : mb_m) (b : mb_bs) (x2 x3 x4 x5 x6 x7 x8 x9 : Int32) (H : Heap) (locs : List Loc) (ls : Array Slot) (cells slots : Nat), b72 F b x2 x3 x4 x5 x6 x7 x8 x9 → va_P D vwCl (wW Y o a aa ad b F) H → va_D A (wW Y o a aa ad b F) → va_S A s.heap H locs → lv_has ls 13 [(0, .ref o), (1, .ref (ad 1)), (2, .int x2), (3, .int x3), (4, .int x4), (5, .int x5), (6, .int x6), (7, .int x7), (8, .int x8), (9, .int x9)] → cells + (r72) ≤ 1216 → slots + (t72) ≤ 7296 → W p l e ({ frames := 9, cells := 1216, slots := 7296, locals := 160 } : Room) s m args below meth c H locs cells slots (MQ below (va_Qi K (fun u t => mb_T D A (wW Y o a aa ad u.1 u.2) t) A) args s 1216 7296 A) (F0 m 72 ls [])) (hb89 : ∀ (F : mb_m) (b : mb_bs) (x2 x3 x4 x5 x6 x7 x9 x10 x11 : Int32) (H : Heap) (locs : List Loc) (ls : Array Slot) (cells slots : Nat), b89 F b x2 x3 x4 x5 x6 x7 x9 x10 x11 → va_P D vwCl (wW Y o a aa ad b F) H → va_D A (wW Y o a aa ad b F) → va_S A s.heap H locs → lv_has ls 13 [(0, .ref o), (1, .ref (ad 1)), (2, .int x2), (3, .int x3), (4, .int x4), (5, .int x5), (6, .int x6), (7, .int x7), (9, .int x9), (10, .int x10), (11, .int x11)] → cells + (r89) ≤ 1216 → slots + (t89) ≤ 7296 → W p l e ({ frames := 9, cells := 1216, slots := 7296, locals := 160 } : Room) s m args below meth c H locs cells slots (MQ below (va_Qi K (fun u t => mb_T D A (wW Y o a aa ad u.1 u.2) t) A) args s 1216 7296 A) (F0 m 89 ls [])) : ∀ (F : mb_m) (b : mb_bs) (x2 x3 x4 x5 x6 x7 x9 x11 y0 : Int32) (H : Heap) (locs : List Loc) (ls : Array Slot) (cells slots : Nat), PL_isBook_129 N K b72 b89 F b x2 x3 x4 x5 x6 x7 x9 x11 y0 → va_P D vwCl (wW Y o a aa ad b F) H → va_D A (wW Y o a aa ad b F) → va_S A s.heap H locs → lv_has ls 13 [(0, .ref o), (1, .ref (ad 1)), (2, .int x2), (3, .int x3), (4, .int x4), (5, .int x5), (6, .int x6), (7, .int x7), (9, .int x9), (11, .int x11)] → cells + (0 + r89) ≤ 1216 → slots + (0 + t89) ≤ 7296 → W p l e ({ frames := 9, cells := 1216, slots := 7296, locals := 160 } : Room) s m args below meth c H locs cells slots (MQ below (va_Qi K (fun u t => mb_T D A (wW Y o a aa ad u.1 u.2) t) A) args s 1216 7296 A) (F0 m 129 ls [.int y0]) := by
  obtain ⟨C, hX, hl0, hN⟩ := id CM
  obtain ⟨hx, hb, hr, hml, hts, hown, hlocks, hA, hG⟩ := id C
  have hK := hG.1
  intro F b x2 x3 x4 x5 x6 x7 x9 x11 y0 H locs ls cells slots hF hP hD hS hl hc hs
  unfold PL_isBook_129 at hF
  refine lv_istore (lv' := [(10, .int y0), (0, .ref o), (1, .ref (ad 1)), (2, .int x2), (3, .int x3), (4, .int x4), (5, .int x5), (6, .int x6), (7, .int x7), (9, .int x9), (11, .int x11)]) hx hb dL_isBook_129 hl (by decide) rfl (fun ls hl => ?_)
  obtain ⟨v131, ev131⟩ : ∃ y : Int32, y = x11 + (1 : Int32) := ⟨_, rfl⟩
  have hF := hF v131 ev131
  refine lv_iinc (v := v131) (lv' := [(11, .int v131), (10, .int y0), (0, .ref o), (1, .ref (ad 1)), (2, .int x2), (3, .int x3), (4, .int x4), (5, .int x5), (6, .int x6), (7, .int x7), (9, .int x9)]) hx hb dL_isBook_131 hl (k := 10) rfl (by rw [ev131]; rfl) (by decide) rfl (fun ls hl => ?_)
  refine lv_goto (tgt := 89) hx hb dL_isBook_134 (by decide) ?_
  exact hb89 F b x2 x3 x4 x5 x6 x7 x9 y0 v131 _ _ _ _ _ hF hP hD hS (lv_sub hl [2, 3, 4, 5, 6, 7, 8, 9, 10, 1, 0] rfl) (by omega) (by omega)
noncomputable def PL_isBook_211 (N : Nat) (K : Int32 → mb_S → Prop) (b72 : mb_m → mb_bs → Int32 → Int32 → Int32 → Int32 → Int32 → Int32 → Int32 → Int32 → Prop) (F : mb_m) (b : mb_bs) (x2 x3 x4 x5 x6 x7 x9 y0 : Int32) : Prop := ∀ v213 : Int32, v213 = x9 + (1 : Int32) → (b72 F b x2 x3 x4 x5 x6 x7 y0 v213)
set_option maxHeartbeats 4000000 in
set_option maxRecDepth 100000 in
theorem wL_isBook_211 {p : Program} {l : Launch} {e : Env} {s : State} {m : MethodId} {below : List Frame} {meth : Method} {c : Code} {args : Array Value} {D : va_G} {Y : Nat → ClassId} {A : Nat → Prop} {o : Nat} {a aa ad : Nat → Nat} {N : Nat} {K : Int32 → mb_S → Prop} {b72 : mb_m → mb_bs → Int32 → Int32 → Int32 → Int32 → Int32 → Int32 → Int32 → Int32 → Prop} (CM : mb_CM l p s m meth c args cL_isBook 13 (some .boolean) wsL_isBook RL D Y A) (r72 t72 : Nat) (hr72 : 1049 + 0 ≤ r72) (ht72 : 6294 + 0 ≤ t72) (hb72 : ∀ (F : mb_m) (b : mb_bs) (x2 x3 x4 x5 x6 x7 x8 x9 : Int32) (H : Heap) (locs : List Loc) (ls : Array Slot) (cells slots : Nat), b72 F b x2 x3 x4 x5 x6 x7 x8 x9 → va_P D vwCl (wW Y o a aa ad b F) H → va_D A (wW Y o a aa ad b F) → va_S A s.heap H locs → lv_has ls 13 [(0, .ref o), (1, .ref (ad 1)), (2, .int x2), (3, .int x3), (4, .int x4), (5, .int x5), (6, .int x6), (7, .int x7), (8, .int x8), (9, .int x9)] → cells + (r72) ≤ 1216 → slots + (t72) ≤ 7296 → W p l e ({ frames := 9, cells := 1216, slots := 7296, locals := 160 } : Room) s m args below meth c H locs cells slots (MQ below (va_Qi K (fun u t => mb_T D A (wW Y o a aa ad u.1 u.2) t) A) args s 1216 7296 A) (F0 m 72 ls [])) : ∀ (F : mb_m) (b : mb_bs) (x2 x3 x4 x5 x6 x7 x9 y0 : Int32) (H : Heap) (locs : List Loc) (ls : Array Slot) (cells slots : Nat), PL_isBook_211 N K b72 F b x2 x3 x4 x5 x6 x7 x9 y0 → va_P D vwCl (wW Y o a aa ad b F) H → va_D A (wW Y o a aa ad b F) → va_S A s.heap H locs → lv_has ls 13 [(0, .ref o), (1, .ref (ad 1)), (2, .int x2), (3, .int x3), (4, .int x4), (5, .int x5), (6, .int x6), (7, .int x7), (9, .int x9)] → cells + (0 + r72) ≤ 1216 → slots + (0 + t72) ≤ 7296 → W p l e ({ frames := 9, cells := 1216, slots := 7296, locals := 160 } : Room) s m args below meth c H locs cells slots (MQ below (va_Qi K (fun u t => mb_T D A (wW Y o a aa ad u.1 u.2) t) A) args s 1216 7296 A) (F0 m 211 ls [.int y0]) := by
  obtain ⟨C, hX, hl0, hN⟩ := id CM
  obtain ⟨hx, hb, hr, hml, hts, hown, hlocks, hA, hG⟩ := id C
  have hK := hG.1
  intro F b x2 x3 x4 x5 x6 x7 x9 y0 H locs ls cells slots hF hP hD hS hl hc hs
  unfold PL_isBook_211 at hF
  refine lv_istore (lv' := [(8, .int y0), (0, .ref o), (1, .ref (ad 1)), (2, .int x2), (3, .int x3), (4, .int x4), (5, .int x5), (6, .int x6), (7, .int x7), (9, .int x9)]) hx hb dL_isBook_211 hl (by decide) rfl (fun ls hl => ?_)
  obtain ⟨v213, ev213⟩ : ∃ y : Int32, y = x9 + (1 : Int32) := ⟨_, rfl⟩
  have hF := hF v213 ev213
  refine lv_iinc (v := v213) (lv' := [(9, .int v213), (8, .int y0), (0, .ref o), (1, .ref (ad 1)), (2, .int x2), (3, .int x3), (4, .int x4), (5, .int x5), (6, .int x6), (7, .int x7)]) hx hb dL_isBook_213 hl (k := 9) rfl (by rw [ev213]; rfl) (by decide) rfl (fun ls hl => ?_)
  refine lv_goto (tgt := 72) hx hb dL_isBook_216 (by decide) ?_
  exact hb72 F b x2 x3 x4 x5 x6 x7 y0 v213 _ _ _ _ _ hF hP hD hS (lv_sub hl [2, 3, 4, 5, 6, 7, 8, 9, 1, 0] rfl) (by omega) (by omega)
noncomputable def PL_isBook_206 (N : Nat) (K : Int32 → mb_S → Prop) (b72 : mb_m → mb_bs → Int32 → Int32 → Int32 → Int32 → Int32 → Int32 → Int32 → Int32 → Prop) (F : mb_m) (b : mb_bs) (x2 x3 x4 x5 x6 x7 x9 : Int32) : Prop := PL_isBook_211 N K b72 F b x2 x3 x4 x5 x6 x7 x9 (1 : Int32)
set_option maxHeartbeats 4000000 in
set_option maxRecDepth 100000 in
theorem wL_isBook_206 {p : Program} {l : Launch} {e : Env} {s : State} {m : MethodId} {below : List Frame} {meth : Method} {c : Code} {args : Array Value} {D : va_G} {Y : Nat → ClassId} {A : Nat → Prop} {o : Nat} {a aa ad : Nat → Nat} {N : Nat} {K : Int32 → mb_S → Prop} {b72 : mb_m → mb_bs → Int32 → Int32 → Int32 → Int32 → Int32 → Int32 → Int32 → Int32 → Prop} (CM : mb_CM l p s m meth c args cL_isBook 13 (some .boolean) wsL_isBook RL D Y A) (r72 t72 : Nat) (hr72 : 1049 + 0 ≤ r72) (ht72 : 6294 + 0 ≤ t72) (hb72 : ∀ (F : mb_m) (b : mb_bs) (x2 x3 x4 x5 x6 x7 x8 x9 : Int32) (H : Heap) (locs : List Loc) (ls : Array Slot) (cells slots : Nat), b72 F b x2 x3 x4 x5 x6 x7 x8 x9 → va_P D vwCl (wW Y o a aa ad b F) H → va_D A (wW Y o a aa ad b F) → va_S A s.heap H locs → lv_has ls 13 [(0, .ref o), (1, .ref (ad 1)), (2, .int x2), (3, .int x3), (4, .int x4), (5, .int x5), (6, .int x6), (7, .int x7), (8, .int x8), (9, .int x9)] → cells + (r72) ≤ 1216 → slots + (t72) ≤ 7296 → W p l e ({ frames := 9, cells := 1216, slots := 7296, locals := 160 } : Room) s m args below meth c H locs cells slots (MQ below (va_Qi K (fun u t => mb_T D A (wW Y o a aa ad u.1 u.2) t) A) args s 1216 7296 A) (F0 m 72 ls [])) : ∀ (F : mb_m) (b : mb_bs) (x2 x3 x4 x5 x6 x7 x9 : Int32) (H : Heap) (locs : List Loc) (ls : Array Slot) (cells slots : Nat), PL_isBook_206 N K b72 F b x2 x3 x4 x5 x6 x7 x9 → va_P D vwCl (wW Y o a aa ad b F) H → va_D A (wW Y o a aa ad b F) → va_S A s.heap H locs → lv_has ls 13 [(0, .ref o), (1, .ref (ad 1)), (2, .int x2), (3, .int x3), (4, .int x4), (5, .int x5), (6, .int x6), (7, .int x7), (9, .int x9)] → cells + (0 + r72) ≤ 1216 → slots + (0 + t72) ≤ 7296 → W p l e ({ frames := 9, cells := 1216, slots := 7296, locals := 160 } : Room) s m args below meth c H locs cells slots (MQ below (va_Qi K (fun u t => mb_T D A (wW Y o a aa ad u.1 u.2) t) A) args s 1216 7296 A) (F0 m 206 ls []) := by
  obtain ⟨C, hX, hl0, hN⟩ := id CM
  obtain ⟨hx, hb, hr, hml, hts, hown, hlocks, hA, hG⟩ := id C
  have hK := hG.1
  intro F b x2 x3 x4 x5 x6 x7 x9 H locs ls cells slots hF hP hD hS hl hc hs
  unfold PL_isBook_206 at hF
  refine lv_iconst (v := 1) hx hb dL_isBook_206 (by decide) ?_
  refine lv_goto (tgt := 211) hx hb dL_isBook_207 (by decide) ?_
  exact wL_isBook_211 CM r72 t72 (by omega) (by omega) hb72 F b x2 x3 x4 x5 x6 x7 x9 (1 : Int32) _ _ _ _ _ hF hP hD hS (lv_sub hl [0, 1, 2, 3, 4, 5, 6, 7, 8] rfl) (by omega) (by omega)
noncomputable def PL_isBook_210 (N : Nat) (K : Int32 → mb_S → Prop) (b72 : mb_m → mb_bs → Int32 → Int32 → Int32 → Int32 → Int32 → Int32 → Int32 → Int32 → Prop) (F : mb_m) (b : mb_bs) (x2 x3 x4 x5 x6 x7 x9 : Int32) : Prop := PL_isBook_211 N K b72 F b x2 x3 x4 x5 x6 x7 x9 (0 : Int32)
set_option maxHeartbeats 4000000 in
set_option maxRecDepth 100000 in
theorem wL_isBook_210 {p : Program} {l : Launch} {e : Env} {s : State} {m : MethodId} {below : List Frame} {meth : Method} {c : Code} {args : Array Value} {D : va_G} {Y : Nat → ClassId} {A : Nat → Prop} {o : Nat} {a aa ad : Nat → Nat} {N : Nat} {K : Int32 → mb_S → Prop} {b72 : mb_m → mb_bs → Int32 → Int32 → Int32 → Int32 → Int32 → Int32 → Int32 → Int32 → Prop} (CM : mb_CM l p s m meth c args cL_isBook 13 (some .boolean) wsL_isBook RL D Y A) (r72 t72 : Nat) (hr72 : 1049 + 0 ≤ r72) (ht72 : 6294 + 0 ≤ t72) (hb72 : ∀ (F : mb_m) (b : mb_bs) (x2 x3 x4 x5 x6 x7 x8 x9 : Int32) (H : Heap) (locs : List Loc) (ls : Array Slot) (cells slots : Nat), b72 F b x2 x3 x4 x5 x6 x7 x8 x9 → va_P D vwCl (wW Y o a aa ad b F) H → va_D A (wW Y o a aa ad b F) → va_S A s.heap H locs → lv_has ls 13 [(0, .ref o), (1, .ref (ad 1)), (2, .int x2), (3, .int x3), (4, .int x4), (5, .int x5), (6, .int x6), (7, .int x7), (8, .int x8), (9, .int x9)] → cells + (r72) ≤ 1216 → slots + (t72) ≤ 7296 → W p l e ({ frames := 9, cells := 1216, slots := 7296, locals := 160 } : Room) s m args below meth c H locs cells slots (MQ below (va_Qi K (fun u t => mb_T D A (wW Y o a aa ad u.1 u.2) t) A) args s 1216 7296 A) (F0 m 72 ls [])) : ∀ (F : mb_m) (b : mb_bs) (x2 x3 x4 x5 x6 x7 x9 : Int32) (H : Heap) (locs : List Loc) (ls : Array Slot) (cells slots : Nat), PL_isBook_210 N K b72 F b x2 x3 x4 x5 x6 x7 x9 → va_P D vwCl (wW Y o a aa ad b F) H → va_D A (wW Y o a aa ad b F) → va_S A s.heap H locs → lv_has ls 13 [(0, .ref o), (1, .ref (ad 1)), (2, .int x2), (3, .int x3), (4, .int x4), (5, .int x5), (6, .int x6), (7, .int x7), (9, .int x9)] → cells + (0 + r72) ≤ 1216 → slots + (0 + t72) ≤ 7296 → W p l e ({ frames := 9, cells := 1216, slots := 7296, locals := 160 } : Room) s m args below meth c H locs cells slots (MQ below (va_Qi K (fun u t => mb_T D A (wW Y o a aa ad u.1 u.2) t) A) args s 1216 7296 A) (F0 m 210 ls []) := by
  obtain ⟨C, hX, hl0, hN⟩ := id CM
  obtain ⟨hx, hb, hr, hml, hts, hown, hlocks, hA, hG⟩ := id C
  have hK := hG.1
  intro F b x2 x3 x4 x5 x6 x7 x9 H locs ls cells slots hF hP hD hS hl hc hs
  unfold PL_isBook_210 at hF
  refine lv_iconst (v := 0) hx hb dL_isBook_210 (by decide) ?_
  exact wL_isBook_211 CM r72 t72 (by omega) (by omega) hb72 F b x2 x3 x4 x5 x6 x7 x9 (0 : Int32) _ _ _ _ _ hF hP hD hS (lv_sub hl [0, 1, 2, 3, 4, 5, 6, 7, 8] rfl) (by omega) (by omega)
noncomputable def PL_isBook_167 (N : Nat) (K : Int32 → mb_S → Prop) (b72 : mb_m → mb_bs → Int32 → Int32 → Int32 → Int32 → Int32 → Int32 → Int32 → Int32 → Prop) (F : mb_m) (b : mb_bs) (x2 x3 x4 x5 x7 x9 x10 y0 : Int32) : Prop := vp_in (((6 : Int32) * x2) + (2 : Int32)) 24 ∧ (LP_stitches N b F x2 x9 ((F 1 (((6 : Int32) * x2) + (2 : Int32)).toNatClampNeg) - (1 : Int32)) (fun r183 u183 => (¬ r183 = (-1000001 : Int32) → PL_isBook_210 N K b72 u183.2 u183.1 x2 x3 x4 x5 y0 x7 x9) ∧ (r183 = (-1000001 : Int32) → (0 < x10 → PL_isBook_206 N K b72 u183.2 u183.1 x2 x3 x4 x5 y0 x7 x9) ∧ (¬ 0 < x10 → LP_isHeld N u183.1 u183.2 x2 x9 (fun r200 u200 => (¬ r200 = 0 → PL_isBook_210 N K b72 u200.2 u200.1 x2 x3 x4 x5 y0 x7 x9) ∧ (r200 = 0 → PL_isBook_206 N K b72 u200.2 u200.1 x2 x3 x4 x5 y0 x7 x9))))))
set_option maxHeartbeats 4000000 in
set_option maxRecDepth 100000 in
theorem wL_isBook_167 {p : Program} {l : Launch} {e : Env} {s : State} {m : MethodId} {below : List Frame} {meth : Method} {c : Code} {args : Array Value} {D : va_G} {Y : Nat → ClassId} {A : Nat → Prop} {o : Nat} {a aa ad : Nat → Nat} {N : Nat} {K : Int32 → mb_S → Prop} {b72 : mb_m → mb_bs → Int32 → Int32 → Int32 → Int32 → Int32 → Int32 → Int32 → Int32 → Prop} (CM : mb_CM l p s m meth c args cL_isBook 13 (some .boolean) wsL_isBook RL D Y A) (r72 t72 : Nat) (hr72 : 1049 + 0 ≤ r72) (ht72 : 6294 + 0 ≤ t72) (hb72 : ∀ (F : mb_m) (b : mb_bs) (x2 x3 x4 x5 x6 x7 x8 x9 : Int32) (H : Heap) (locs : List Loc) (ls : Array Slot) (cells slots : Nat), b72 F b x2 x3 x4 x5 x6 x7 x8 x9 → va_P D vwCl (wW Y o a aa ad b F) H → va_D A (wW Y o a aa ad b F) → va_S A s.heap H locs → lv_has ls 13 [(0, .ref o), (1, .ref (ad 1)), (2, .int x2), (3, .int x3), (4, .int x4), (5, .int x5), (6, .int x6), (7, .int x7), (8, .int x8), (9, .int x9)] → cells + (r72) ≤ 1216 → slots + (t72) ≤ 7296 → W p l e ({ frames := 9, cells := 1216, slots := 7296, locals := 160 } : Room) s m args below meth c H locs cells slots (MQ below (va_Qi K (fun u t => mb_T D A (wW Y o a aa ad u.1 u.2) t) A) args s 1216 7296 A) (F0 m 72 ls [])) : ∀ (F : mb_m) (b : mb_bs) (x2 x3 x4 x5 x7 x9 x10 y0 : Int32) (H : Heap) (locs : List Loc) (ls : Array Slot) (cells slots : Nat), PL_isBook_167 N K b72 F b x2 x3 x4 x5 x7 x9 x10 y0 → va_P D vwCl (wW Y o a aa ad b F) H → va_D A (wW Y o a aa ad b F) → va_S A s.heap H locs → lv_has ls 13 [(0, .ref o), (1, .ref (ad 1)), (2, .int x2), (3, .int x3), (4, .int x4), (5, .int x5), (7, .int x7), (9, .int x9), (10, .int x10)] → cells + (4 + r72) ≤ 1216 → slots + (24 + t72) ≤ 7296 → W p l e ({ frames := 9, cells := 1216, slots := 7296, locals := 160 } : Room) s m args below meth c H locs cells slots (MQ below (va_Qi K (fun u t => mb_T D A (wW Y o a aa ad u.1 u.2) t) A) args s 1216 7296 A) (F0 m 167 ls [.int y0]) := by
  obtain ⟨C, hX, hl0, hN⟩ := id CM
  obtain ⟨hx, hb, hr, hml, hts, hown, hlocks, hA, hG⟩ := id C
  have hK := hG.1
  intro F b x2 x3 x4 x5 x7 x9 x10 y0 H locs ls cells slots hF hP hD hS hl hc hs
  unfold PL_isBook_167 at hF
  refine lv_istore (lv' := [(6, .int y0), (0, .ref o), (1, .ref (ad 1)), (2, .int x2), (3, .int x3), (4, .int x4), (5, .int x5), (7, .int x7), (9, .int x9), (10, .int x10)]) hx hb dL_isBook_167 hl (by decide) rfl (fun ls hl => ?_)
  refine lv_aload_n hx hb dL_isBook_169 rfl (lv_at hl 1 rfl) ?_
  refine lv_iload_n hx hb dL_isBook_170 rfl (lv_at hl 3 rfl) ?_
  refine lv_iload hx hb dL_isBook_171 (lv_at hl 8 rfl) ?_
  refine lv_aload_n hx hb dL_isBook_173 rfl (lv_at hl 2 rfl) ?_
  refine lv_bipush (v := 6) hx hb dL_isBook_174 (by decide) ?_
  refine lv_iload_n hx hb dL_isBook_176 rfl (lv_at hl 3 rfl) ?_
  refine lv_imul hx hb dL_isBook_177 ?_
  refine lv_iconst (v := 2) hx hb dL_isBook_178 (by decide) ?_
  refine lv_iadd hx hb dL_isBook_179 ?_
  obtain ⟨hi180, hF⟩ := hF
  refine va_iald hx hb hK hP 1 0 rfl rfl hi180 dL_isBook_180 ?_
  refine lv_iconst (v := 1) hx hb dL_isBook_181 (by decide) ?_
  refine lv_isub hx hb dL_isBook_182 ?_
  refine mb_cW (S := mb_S) hD hS hA (vx_runSW (As := [.ref o, .int x2, .int x9, .int ((F 1 (((6 : Int32) * x2) + (2 : Int32)).toNatClampNeg) - (1 : Int32))]) (rest := []) ⟨hx, hb, hml, hown, hts⟩ (cw_stitches l hl0 D Y N o a aa ad b F _ x2 x9 ((F 1 (((6 : Int32) * x2) + (2 : Int32)).toNatClampNeg) - (1 : Int32)) _ hF) (vx_cwSW 4 hts gL_isBook_L_stitches rfl rfl rfl (by decide +kernel) ⟨Nat.le_of_ble_eq_true rfl, Nat.le_of_ble_eq_true rfl⟩) (mbm_pre CM hP hD hS) rfl rfl hl.1 rfl (lv_room (Nat.le_of_ble_eq_true rfl)) dL_isBook_183 ⟨by show _ ≤ 1216; omega, by show _ ≤ 7296; omega⟩) (fun r183 u183 H locs hF hP hD hS => ?_)
  have hP : va_P D vwCl (wW Y o a aa ad u183.1 u183.2) H := hP
  have hD : va_D A (wW Y o a aa ad u183.1 u183.2) := hD
  refine lv_ldc (v := -1000001) hx hb hown (hts (.constant RL 18 (-1000001)) (List.mem_of_getElem? (i := 2) rfl)) dL_isBook_186 ?_
  refine lv_icmp_ne (tgt := 210) hx hb dL_isBook_188 (by decide) (fun c_188 => ?_) (fun c_188 => ?_)
  · have hF := hF.1 c_188
    exact wL_isBook_210 CM r72 t72 (by omega) (by omega) hb72 u183.2 u183.1 x2 x3 x4 x5 y0 x7 x9 _ _ _ _ _ hF hP hD hS (lv_sub hl [1, 2, 3, 4, 5, 6, 0, 7, 8] rfl) (by omega) (by omega)
  · have hF := hF.2 c_188
    refine lv_iload hx hb dL_isBook_191 (lv_at hl 9 rfl) ?_
    refine lv_if_gt (tgt := 206) hx hb dL_isBook_193 (by decide) (fun c_193 => ?_) (fun c_193 => ?_)
    · have hF := hF.1 c_193
      exact wL_isBook_206 CM r72 t72 (by omega) (by omega) hb72 u183.2 u183.1 x2 x3 x4 x5 y0 x7 x9 _ _ _ _ _ hF hP hD hS (lv_sub hl [1, 2, 3, 4, 5, 6, 0, 7, 8] rfl) (by omega) (by omega)
    · have hF := hF.2 c_193
      refine lv_aload_n hx hb dL_isBook_196 rfl (lv_at hl 1 rfl) ?_
      refine lv_iload_n hx hb dL_isBook_197 rfl (lv_at hl 3 rfl) ?_
      refine lv_iload hx hb dL_isBook_198 (lv_at hl 8 rfl) ?_
      refine mb_cW (S := mb_S) hD hS hA (vx_runSW (As := [.ref o, .int x2, .int x9]) (rest := []) ⟨hx, hb, hml, hown, hts⟩ (cw_isHeld l hl0 D Y N o a aa ad u183.1 u183.2 _ x2 x9 _ hF) (vx_cwSW 3 hts gL_isBook_L_isHeld rfl rfl rfl (by decide +kernel) ⟨Nat.le_of_ble_eq_true rfl, Nat.le_of_ble_eq_true rfl⟩) (mbm_pre CM hP hD hS) rfl rfl hl.1 rfl (lv_room (Nat.le_of_ble_eq_true rfl)) dL_isBook_200 ⟨by show _ ≤ 1216; omega, by show _ ≤ 7296; omega⟩) (fun r200 u200 H locs hF hP hD hS => ?_)
      have hP : va_P D vwCl (wW Y o a aa ad u200.1 u200.2) H := hP
      have hD : va_D A (wW Y o a aa ad u200.1 u200.2) := hD
      refine lv_if_ne (tgt := 210) hx hb dL_isBook_203 (by decide) (fun c_203 => ?_) (fun c_203 => ?_)
      · have hF := hF.1 c_203
        exact wL_isBook_210 CM r72 t72 (by omega) (by omega) hb72 u200.2 u200.1 x2 x3 x4 x5 y0 x7 x9 _ _ _ _ _ hF hP hD hS (lv_sub hl [1, 2, 3, 4, 5, 6, 0, 7, 8] rfl) (by omega) (by omega)
      · have hF := hF.2 c_203
        exact wL_isBook_206 CM r72 t72 (by omega) (by omega) hb72 u200.2 u200.1 x2 x3 x4 x5 y0 x7 x9 _ _ _ _ _ hF hP hD hS (lv_sub hl [1, 2, 3, 4, 5, 6, 0, 7, 8] rfl) (by omega) (by omega)
noncomputable def PL_isBook_166 (N : Nat) (K : Int32 → mb_S → Prop) (b72 : mb_m → mb_bs → Int32 → Int32 → Int32 → Int32 → Int32 → Int32 → Int32 → Int32 → Prop) (F : mb_m) (b : mb_bs) (x2 x3 x4 x5 x7 x9 x10 : Int32) : Prop := PL_isBook_167 N K b72 F b x2 x3 x4 x5 x7 x9 x10 (0 : Int32)
set_option maxHeartbeats 4000000 in
set_option maxRecDepth 100000 in
theorem wL_isBook_166 {p : Program} {l : Launch} {e : Env} {s : State} {m : MethodId} {below : List Frame} {meth : Method} {c : Code} {args : Array Value} {D : va_G} {Y : Nat → ClassId} {A : Nat → Prop} {o : Nat} {a aa ad : Nat → Nat} {N : Nat} {K : Int32 → mb_S → Prop} {b72 : mb_m → mb_bs → Int32 → Int32 → Int32 → Int32 → Int32 → Int32 → Int32 → Int32 → Prop} (CM : mb_CM l p s m meth c args cL_isBook 13 (some .boolean) wsL_isBook RL D Y A) (r72 t72 : Nat) (hr72 : 1049 + 0 ≤ r72) (ht72 : 6294 + 0 ≤ t72) (hb72 : ∀ (F : mb_m) (b : mb_bs) (x2 x3 x4 x5 x6 x7 x8 x9 : Int32) (H : Heap) (locs : List Loc) (ls : Array Slot) (cells slots : Nat), b72 F b x2 x3 x4 x5 x6 x7 x8 x9 → va_P D vwCl (wW Y o a aa ad b F) H → va_D A (wW Y o a aa ad b F) → va_S A s.heap H locs → lv_has ls 13 [(0, .ref o), (1, .ref (ad 1)), (2, .int x2), (3, .int x3), (4, .int x4), (5, .int x5), (6, .int x6), (7, .int x7), (8, .int x8), (9, .int x9)] → cells + (r72) ≤ 1216 → slots + (t72) ≤ 7296 → W p l e ({ frames := 9, cells := 1216, slots := 7296, locals := 160 } : Room) s m args below meth c H locs cells slots (MQ below (va_Qi K (fun u t => mb_T D A (wW Y o a aa ad u.1 u.2) t) A) args s 1216 7296 A) (F0 m 72 ls [])) : ∀ (F : mb_m) (b : mb_bs) (x2 x3 x4 x5 x7 x9 x10 : Int32) (H : Heap) (locs : List Loc) (ls : Array Slot) (cells slots : Nat), PL_isBook_166 N K b72 F b x2 x3 x4 x5 x7 x9 x10 → va_P D vwCl (wW Y o a aa ad b F) H → va_D A (wW Y o a aa ad b F) → va_S A s.heap H locs → lv_has ls 13 [(0, .ref o), (1, .ref (ad 1)), (2, .int x2), (3, .int x3), (4, .int x4), (5, .int x5), (7, .int x7), (9, .int x9), (10, .int x10)] → cells + (4 + r72) ≤ 1216 → slots + (24 + t72) ≤ 7296 → W p l e ({ frames := 9, cells := 1216, slots := 7296, locals := 160 } : Room) s m args below meth c H locs cells slots (MQ below (va_Qi K (fun u t => mb_T D A (wW Y o a aa ad u.1 u.2) t) A) args s 1216 7296 A) (F0 m 166 ls []) := by
  obtain ⟨C, hX, hl0, hN⟩ := id CM
  obtain ⟨hx, hb, hr, hml, hts, hown, hlocks, hA, hG⟩ := id C
  have hK := hG.1
  intro F b x2 x3 x4 x5 x7 x9 x10 H locs ls cells slots hF hP hD hS hl hc hs
  unfold PL_isBook_166 at hF
  refine lv_iconst (v := 0) hx hb dL_isBook_166 (by decide) ?_
  exact wL_isBook_167 CM r72 t72 (by omega) (by omega) hb72 F b x2 x3 x4 x5 x7 x9 x10 (0 : Int32) _ _ _ _ _ hF hP hD hS (lv_sub hl [0, 1, 2, 3, 4, 5, 6, 7, 8] rfl) (by omega) (by omega)
noncomputable def PL_isBook_89_b (N : Nat) (K : Int32 → mb_S → Prop) (b72 : mb_m → mb_bs → Int32 → Int32 → Int32 → Int32 → Int32 → Int32 → Int32 → Int32 → Prop) (b89 : mb_m → mb_bs → Int32 → Int32 → Int32 → Int32 → Int32 → Int32 → Int32 → Int32 → Int32 → Prop) (F : mb_m) (b : mb_bs) (x2 x3 x4 x5 x6 x7 x9 x10 x11 : Int32) : Prop := vp_in (((6 : Int32) * x2) + (2 : Int32)) 24 ∧ ((((F 1 (((6 : Int32) * x2) + (2 : Int32)).toNatClampNeg) - (1 : Int32)) ≤ x11 → ∀ v144 : Int32, v144 = (x7 + ((3 : Int32) * x10)) → ((x6 = 0 → PL_isBook_166 N K b72 F b x2 x3 x4 x5 v144 x9 x10) ∧ (¬ x6 = 0 → LP_isHeld N b F x2 x9 (fun r155 u155 => (¬ r155 = (1 : Int32) → PL_isBook_166 N K b72 u155.2 u155.1 x2 x3 x4 x5 v144 x9 x10) ∧ (r155 = (1 : Int32) → PL_isBook_167 N K b72 u155.2 u155.1 x2 x3 x4 x5 v144 x9 x10 (1 : Int32)))))) ∧ (¬ ((F 1 (((6 : Int32) * x2) + (2 : Int32)).toNatClampNeg) - (1 : Int32)) ≤ x11 → LP_stitches N b F x2 x9 x11 (fun r110 u110 => (r110 ≤ x10 → PL_isBook_129 N K b72 b89 u110.2 u110.1 x2 x3 x4 x5 x6 x7 x9 x11 x10) ∧ (¬ r110 ≤ x10 → PL_isBook_129 N K b72 b89 u110.2 u110.1 x2 x3 x4 x5 x6 x7 x9 x11 r110))))
noncomputable def PL_isBook_89 (N : Nat) (K : Int32 → mb_S → Prop) (b72 : mb_m → mb_bs → Int32 → Int32 → Int32 → Int32 → Int32 → Int32 → Int32 → Int32 → Prop) (n : Nat) : mb_m → mb_bs → Int32 → Int32 → Int32 → Int32 → Int32 → Int32 → Int32 → Int32 → Int32 → Prop := Nat.rec (motive := fun _ => mb_m → mb_bs → Int32 → Int32 → Int32 → Int32 → Int32 → Int32 → Int32 → Int32 → Int32 → Prop) (fun _ _ _ _ _ _ _ _ _ _ _ => False) (fun _ b89 => PL_isBook_89_b N K b72 b89) n
set_option maxHeartbeats 4000000 in
set_option maxRecDepth 100000 in
theorem wL_isBook_89 {p : Program} {l : Launch} {e : Env} {s : State} {m : MethodId} {below : List Frame} {meth : Method} {c : Code} {args : Array Value} {D : va_G} {Y : Nat → ClassId} {A : Nat → Prop} {o : Nat} {a aa ad : Nat → Nat} {N : Nat} {K : Int32 → mb_S → Prop} {b72 : mb_m → mb_bs → Int32 → Int32 → Int32 → Int32 → Int32 → Int32 → Int32 → Int32 → Prop} (CM : mb_CM l p s m meth c args cL_isBook 13 (some .boolean) wsL_isBook RL D Y A) (r72 t72 : Nat) (hr72 : 1049 + 0 ≤ r72) (ht72 : 6294 + 0 ≤ t72) (hb72 : ∀ (F : mb_m) (b : mb_bs) (x2 x3 x4 x5 x6 x7 x8 x9 : Int32) (H : Heap) (locs : List Loc) (ls : Array Slot) (cells slots : Nat), b72 F b x2 x3 x4 x5 x6 x7 x8 x9 → va_P D vwCl (wW Y o a aa ad b F) H → va_D A (wW Y o a aa ad b F) → va_S A s.heap H locs → lv_has ls 13 [(0, .ref o), (1, .ref (ad 1)), (2, .int x2), (3, .int x3), (4, .int x4), (5, .int x5), (6, .int x6), (7, .int x7), (8, .int x8), (9, .int x9)] → cells + (r72) ≤ 1216 → slots + (t72) ≤ 7296 → W p l e ({ frames := 9, cells := 1216, slots := 7296, locals := 160 } : Room) s m args below meth c H locs cells slots (MQ below (va_Qi K (fun u t => mb_T D A (wW Y o a aa ad u.1 u.2) t) A) args s 1216 7296 A) (F0 m 72 ls [])) : ∀ (n : Nat), (∀ (F : mb_m) (b : mb_bs) (x2 x3 x4 x5 x6 x7 x9 x10 x11 : Int32) (H : Heap) (locs : List Loc) (ls : Array Slot) (cells slots : Nat), PL_isBook_89 N K b72 n F b x2 x3 x4 x5 x6 x7 x9 x10 x11 → va_P D vwCl (wW Y o a aa ad b F) H → va_D A (wW Y o a aa ad b F) → va_S A s.heap H locs → lv_has ls 13 [(0, .ref o), (1, .ref (ad 1)), (2, .int x2), (3, .int x3), (4, .int x4), (5, .int x5), (6, .int x6), (7, .int x7), (9, .int x9), (10, .int x10), (11, .int x11)] → cells + (n * 2 + 6 + r72) ≤ 1216 → slots + (n * 12 + 36 + t72) ≤ 7296 → W p l e ({ frames := 9, cells := 1216, slots := 7296, locals := 160 } : Room) s m args below meth c H locs cells slots (MQ below (va_Qi K (fun u t => mb_T D A (wW Y o a aa ad u.1 u.2) t) A) args s 1216 7296 A) (F0 m 89 ls [])) := by
  obtain ⟨C, hX, hl0, hN⟩ := id CM
  obtain ⟨hx, hb, hr, hml, hts, hown, hlocks, hA, hG⟩ := id C
  have hK := hG.1
  intro n
  induction n with
  | zero => intro F b x2 x3 x4 x5 x6 x7 x9 x10 x11 H locs ls cells slots hF; exact (show False from hF).elim
  | succ n ih =>
    intro F b x2 x3 x4 x5 x6 x7 x9 x10 x11 H locs ls cells slots hF hP hD hS hl hc hs
    have hF : PL_isBook_89_b N K b72 (PL_isBook_89 N K b72 n) F b x2 x3 x4 x5 x6 x7 x9 x10 x11 := hF
    unfold PL_isBook_89_b at hF
    refine lv_iload hx hb dL_isBook_89 (lv_at hl 10 rfl) ?_
    refine lv_aload_n hx hb dL_isBook_91 rfl (lv_at hl 1 rfl) ?_
    refine lv_bipush (v := 6) hx hb dL_isBook_92 (by decide) ?_
    refine lv_iload_n hx hb dL_isBook_94 rfl (lv_at hl 2 rfl) ?_
    refine lv_imul hx hb dL_isBook_95 ?_
    refine lv_iconst (v := 2) hx hb dL_isBook_96 (by decide) ?_
    refine lv_iadd hx hb dL_isBook_97 ?_
    obtain ⟨hi98, hF⟩ := hF
    refine va_iald hx hb hK hP 1 0 rfl rfl hi98 dL_isBook_98 ?_
    refine lv_iconst (v := 1) hx hb dL_isBook_99 (by decide) ?_
    refine lv_isub hx hb dL_isBook_100 ?_
    refine lv_icmp_ge (tgt := 137) hx hb dL_isBook_101 (by decide) (fun c_101 => ?_) (fun c_101 => ?_)
    · have hF := hF.1 c_101
      refine lv_iload hx hb dL_isBook_137 (lv_at hl 7 rfl) ?_
      refine lv_iconst (v := 3) hx hb dL_isBook_139 (by decide) ?_
      refine lv_iload hx hb dL_isBook_140 (lv_at hl 9 rfl) ?_
      refine lv_imul hx hb dL_isBook_142 ?_
      refine lv_iadd hx hb dL_isBook_143 ?_
      refine lv_topi (fun v144 ev144 => ?_)
      have hF := hF v144 ev144
      refine lv_istore (lv' := [(7, .int v144), (0, .ref o), (1, .ref (ad 1)), (2, .int x2), (3, .int x3), (4, .int x4), (5, .int x5), (6, .int x6), (9, .int x9), (10, .int x10), (11, .int x11)]) hx hb dL_isBook_144 hl (by decide) rfl (fun ls hl => ?_)
      refine lv_iload hx hb dL_isBook_146 (lv_at hl 7 rfl) ?_
      refine lv_if_eq (tgt := 166) hx hb dL_isBook_148 (by decide) (fun c_148 => ?_) (fun c_148 => ?_)
      · have hF := hF.1 c_148
        exact wL_isBook_166 CM r72 t72 (by omega) (by omega) hb72 F b x2 x3 x4 x5 v144 x9 x10 _ _ _ _ _ hF hP hD hS (lv_sub hl [1, 2, 3, 4, 5, 6, 0, 8, 9] rfl) (by omega) (by omega)
      · have hF := hF.2 c_148
        refine lv_aload_n hx hb dL_isBook_151 rfl (lv_at hl 1 rfl) ?_
        refine lv_iload_n hx hb dL_isBook_152 rfl (lv_at hl 3 rfl) ?_
        refine lv_iload hx hb dL_isBook_153 (lv_at hl 8 rfl) ?_
        refine mb_cW (S := mb_S) hD hS hA (vx_runSW (As := [.ref o, .int x2, .int x9]) (rest := []) ⟨hx, hb, hml, hown, hts⟩ (cw_isHeld l hl0 D Y N o a aa ad b F _ x2 x9 _ hF) (vx_cwSW 3 hts gL_isBook_L_isHeld rfl rfl rfl (by decide +kernel) ⟨Nat.le_of_ble_eq_true rfl, Nat.le_of_ble_eq_true rfl⟩) (mbm_pre CM hP hD hS) rfl rfl hl.1 rfl (lv_room (Nat.le_of_ble_eq_true rfl)) dL_isBook_155 ⟨by show _ ≤ 1216; omega, by show _ ≤ 7296; omega⟩) (fun r155 u155 H locs hF hP hD hS => ?_)
        have hP : va_P D vwCl (wW Y o a aa ad u155.1 u155.2) H := hP
        have hD : va_D A (wW Y o a aa ad u155.1 u155.2) := hD
        refine lv_iconst (v := 1) hx hb dL_isBook_158 (by decide) ?_
        refine lv_icmp_ne (tgt := 166) hx hb dL_isBook_159 (by decide) (fun c_159 => ?_) (fun c_159 => ?_)
        · have hF := hF.1 c_159
          exact wL_isBook_166 CM r72 t72 (by omega) (by omega) hb72 u155.2 u155.1 x2 x3 x4 x5 v144 x9 x10 _ _ _ _ _ hF hP hD hS (lv_sub hl [1, 2, 3, 4, 5, 6, 0, 8, 9] rfl) (by omega) (by omega)
        · have hF := hF.2 c_159
          refine lv_iconst (v := 1) hx hb dL_isBook_162 (by decide) ?_
          refine lv_goto (tgt := 167) hx hb dL_isBook_163 (by decide) ?_
          exact wL_isBook_167 CM r72 t72 (by omega) (by omega) hb72 u155.2 u155.1 x2 x3 x4 x5 v144 x9 x10 (1 : Int32) _ _ _ _ _ hF hP hD hS (lv_sub hl [1, 2, 3, 4, 5, 6, 0, 8, 9] rfl) (by omega) (by omega)
    · have hF := hF.2 c_101
      refine lv_aload_n hx hb dL_isBook_104 rfl (lv_at hl 0 rfl) ?_
      refine lv_iload_n hx hb dL_isBook_105 rfl (lv_at hl 2 rfl) ?_
      refine lv_iload hx hb dL_isBook_106 (lv_at hl 8 rfl) ?_
      refine lv_iload hx hb dL_isBook_108 (lv_at hl 10 rfl) ?_
      refine mb_cW (S := mb_S) hD hS hA (vx_runSW (As := [.ref o, .int x2, .int x9, .int x11]) (rest := []) ⟨hx, hb, hml, hown, hts⟩ (cw_stitches l hl0 D Y N o a aa ad b F _ x2 x9 x11 _ hF) (vx_cwSW 4 hts gL_isBook_L_stitches rfl rfl rfl (by decide +kernel) ⟨Nat.le_of_ble_eq_true rfl, Nat.le_of_ble_eq_true rfl⟩) (mbm_pre CM hP hD hS) rfl rfl hl.1 rfl (lv_room (Nat.le_of_ble_eq_true rfl)) dL_isBook_110 ⟨by show _ ≤ 1216; omega, by show _ ≤ 7296; omega⟩) (fun r110 u110 H locs hF hP hD hS => ?_)
      have hP : va_P D vwCl (wW Y o a aa ad u110.1 u110.2) H := hP
      have hD : va_D A (wW Y o a aa ad u110.1 u110.2) := hD
      refine lv_istore (lv' := [(12, .int r110), (0, .ref o), (1, .ref (ad 1)), (2, .int x2), (3, .int x3), (4, .int x4), (5, .int x5), (6, .int x6), (7, .int x7), (9, .int x9), (10, .int x10), (11, .int x11)]) hx hb dL_isBook_113 hl (by decide) rfl (fun ls hl => ?_)
      refine lv_iload hx hb dL_isBook_115 (lv_at hl 0 rfl) ?_
      refine lv_iload hx hb dL_isBook_117 (lv_at hl 10 rfl) ?_
      refine lv_icmp_le (tgt := 127) hx hb dL_isBook_119 (by decide) (fun c_119 => ?_) (fun c_119 => ?_)
      · have hF := hF.1 c_119
        refine lv_iload hx hb dL_isBook_127 (lv_at hl 10 rfl) ?_
        exact wL_isBook_129 CM r72 t72 (n * 2 + 6 + r72) (n * 12 + 36 + t72) (by omega) (by omega) (by omega) (by omega) hb72 ih u110.2 u110.1 x2 x3 x4 x5 x6 x7 x9 x11 x10 _ _ _ _ _ hF hP hD hS (lv_sub hl [1, 2, 3, 4, 5, 6, 7, 8, 9, 11] rfl) (by omega) (by omega)
      · have hF := hF.2 c_119
        refine lv_iload hx hb dL_isBook_122 (lv_at hl 0 rfl) ?_
        refine lv_goto (tgt := 129) hx hb dL_isBook_124 (by decide) ?_
        exact wL_isBook_129 CM r72 t72 (n * 2 + 6 + r72) (n * 12 + 36 + t72) (by omega) (by omega) (by omega) (by omega) hb72 ih u110.2 u110.1 x2 x3 x4 x5 x6 x7 x9 x11 r110 _ _ _ _ _ hF hP hD hS (lv_sub hl [1, 2, 3, 4, 5, 6, 7, 8, 9, 11] rfl) (by omega) (by omega)
noncomputable def PL_isBook_308 (N : Nat) (K : Int32 → mb_S → Prop) (b229 : mb_m → mb_bs → Int32 → Int32 → Int32 → Int32 → Int32 → Int32 → Int32 → Int32 → Prop) (F : mb_m) (b : mb_bs) (x2 x4 x5 x6 x7 x9 x10 y0 : Int32) : Prop := ∀ v310 : Int32, v310 = x10 + (1 : Int32) → (b229 F b x2 x4 x5 x6 x7 y0 x9 v310)
set_option maxHeartbeats 4000000 in
set_option maxRecDepth 100000 in
theorem wL_isBook_308 {p : Program} {l : Launch} {e : Env} {s : State} {m : MethodId} {below : List Frame} {meth : Method} {c : Code} {args : Array Value} {D : va_G} {Y : Nat → ClassId} {A : Nat → Prop} {o : Nat} {a aa ad : Nat → Nat} {N : Nat} {K : Int32 → mb_S → Prop} {b229 : mb_m → mb_bs → Int32 → Int32 → Int32 → Int32 → Int32 → Int32 → Int32 → Int32 → Prop} (CM : mb_CM l p s m meth c args cL_isBook 13 (some .boolean) wsL_isBook RL D Y A) (r229 t229 : Nat) (hr229 : 8 + 0 ≤ r229) (ht229 : 48 + 0 ≤ t229) (hb229 : ∀ (F : mb_m) (b : mb_bs) (x2 x4 x5 x6 x7 x8 x9 x10 : Int32) (H : Heap) (locs : List Loc) (ls : Array Slot) (cells slots : Nat), b229 F b x2 x4 x5 x6 x7 x8 x9 x10 → va_P D vwCl (wW Y o a aa ad b F) H → va_D A (wW Y o a aa ad b F) → va_S A s.heap H locs → lv_has ls 13 [(0, .ref o), (2, .int x2), (4, .int x4), (5, .int x5), (6, .int x6), (7, .int x7), (8, .int x8), (9, .int x9), (10, .int x10)] → cells + (r229) ≤ 1216 → slots + (t229) ≤ 7296 → W p l e ({ frames := 9, cells := 1216, slots := 7296, locals := 160 } : Room) s m args below meth c H locs cells slots (MQ below (va_Qi K (fun u t => mb_T D A (wW Y o a aa ad u.1 u.2) t) A) args s 1216 7296 A) (F0 m 229 ls [])) : ∀ (F : mb_m) (b : mb_bs) (x2 x4 x5 x6 x7 x9 x10 y0 : Int32) (H : Heap) (locs : List Loc) (ls : Array Slot) (cells slots : Nat), PL_isBook_308 N K b229 F b x2 x4 x5 x6 x7 x9 x10 y0 → va_P D vwCl (wW Y o a aa ad b F) H → va_D A (wW Y o a aa ad b F) → va_S A s.heap H locs → lv_has ls 13 [(0, .ref o), (2, .int x2), (4, .int x4), (5, .int x5), (6, .int x6), (7, .int x7), (9, .int x9), (10, .int x10)] → cells + (0 + r229) ≤ 1216 → slots + (0 + t229) ≤ 7296 → W p l e ({ frames := 9, cells := 1216, slots := 7296, locals := 160 } : Room) s m args below meth c H locs cells slots (MQ below (va_Qi K (fun u t => mb_T D A (wW Y o a aa ad u.1 u.2) t) A) args s 1216 7296 A) (F0 m 308 ls [.int y0]) := by
  obtain ⟨C, hX, hl0, hN⟩ := id CM
  obtain ⟨hx, hb, hr, hml, hts, hown, hlocks, hA, hG⟩ := id C
  have hK := hG.1
  intro F b x2 x4 x5 x6 x7 x9 x10 y0 H locs ls cells slots hF hP hD hS hl hc hs
  unfold PL_isBook_308 at hF
  refine lv_istore (lv' := [(8, .int y0), (0, .ref o), (2, .int x2), (4, .int x4), (5, .int x5), (6, .int x6), (7, .int x7), (9, .int x9), (10, .int x10)]) hx hb dL_isBook_308 hl (by decide) rfl (fun ls hl => ?_)
  obtain ⟨v310, ev310⟩ : ∃ y : Int32, y = x10 + (1 : Int32) := ⟨_, rfl⟩
  have hF := hF v310 ev310
  refine lv_iinc (v := v310) (lv' := [(10, .int v310), (8, .int y0), (0, .ref o), (2, .int x2), (4, .int x4), (5, .int x5), (6, .int x6), (7, .int x7), (9, .int x9)]) hx hb dL_isBook_310 hl (k := 8) rfl (by rw [ev310]; rfl) (by decide) rfl (fun ls hl => ?_)
  refine lv_goto (tgt := 229) hx hb dL_isBook_313 (by decide) ?_
  exact hb229 F b x2 x4 x5 x6 x7 y0 x9 v310 _ _ _ _ _ hF hP hD hS (lv_sub hl [2, 3, 4, 5, 6, 7, 1, 8, 0] rfl) (by omega) (by omega)
noncomputable def PL_isBook_303 (N : Nat) (K : Int32 → mb_S → Prop) (b229 : mb_m → mb_bs → Int32 → Int32 → Int32 → Int32 → Int32 → Int32 → Int32 → Int32 → Prop) (F : mb_m) (b : mb_bs) (x2 x4 x5 x6 x7 x9 x10 : Int32) : Prop := PL_isBook_308 N K b229 F b x2 x4 x5 x6 x7 x9 x10 (1 : Int32)
set_option maxHeartbeats 4000000 in
set_option maxRecDepth 100000 in
theorem wL_isBook_303 {p : Program} {l : Launch} {e : Env} {s : State} {m : MethodId} {below : List Frame} {meth : Method} {c : Code} {args : Array Value} {D : va_G} {Y : Nat → ClassId} {A : Nat → Prop} {o : Nat} {a aa ad : Nat → Nat} {N : Nat} {K : Int32 → mb_S → Prop} {b229 : mb_m → mb_bs → Int32 → Int32 → Int32 → Int32 → Int32 → Int32 → Int32 → Int32 → Prop} (CM : mb_CM l p s m meth c args cL_isBook 13 (some .boolean) wsL_isBook RL D Y A) (r229 t229 : Nat) (hr229 : 8 + 0 ≤ r229) (ht229 : 48 + 0 ≤ t229) (hb229 : ∀ (F : mb_m) (b : mb_bs) (x2 x4 x5 x6 x7 x8 x9 x10 : Int32) (H : Heap) (locs : List Loc) (ls : Array Slot) (cells slots : Nat), b229 F b x2 x4 x5 x6 x7 x8 x9 x10 → va_P D vwCl (wW Y o a aa ad b F) H → va_D A (wW Y o a aa ad b F) → va_S A s.heap H locs → lv_has ls 13 [(0, .ref o), (2, .int x2), (4, .int x4), (5, .int x5), (6, .int x6), (7, .int x7), (8, .int x8), (9, .int x9), (10, .int x10)] → cells + (r229) ≤ 1216 → slots + (t229) ≤ 7296 → W p l e ({ frames := 9, cells := 1216, slots := 7296, locals := 160 } : Room) s m args below meth c H locs cells slots (MQ below (va_Qi K (fun u t => mb_T D A (wW Y o a aa ad u.1 u.2) t) A) args s 1216 7296 A) (F0 m 229 ls [])) : ∀ (F : mb_m) (b : mb_bs) (x2 x4 x5 x6 x7 x9 x10 : Int32) (H : Heap) (locs : List Loc) (ls : Array Slot) (cells slots : Nat), PL_isBook_303 N K b229 F b x2 x4 x5 x6 x7 x9 x10 → va_P D vwCl (wW Y o a aa ad b F) H → va_D A (wW Y o a aa ad b F) → va_S A s.heap H locs → lv_has ls 13 [(0, .ref o), (2, .int x2), (4, .int x4), (5, .int x5), (6, .int x6), (7, .int x7), (9, .int x9), (10, .int x10)] → cells + (0 + r229) ≤ 1216 → slots + (0 + t229) ≤ 7296 → W p l e ({ frames := 9, cells := 1216, slots := 7296, locals := 160 } : Room) s m args below meth c H locs cells slots (MQ below (va_Qi K (fun u t => mb_T D A (wW Y o a aa ad u.1 u.2) t) A) args s 1216 7296 A) (F0 m 303 ls []) := by
  obtain ⟨C, hX, hl0, hN⟩ := id CM
  obtain ⟨hx, hb, hr, hml, hts, hown, hlocks, hA, hG⟩ := id C
  have hK := hG.1
  intro F b x2 x4 x5 x6 x7 x9 x10 H locs ls cells slots hF hP hD hS hl hc hs
  unfold PL_isBook_303 at hF
  refine lv_iconst (v := 1) hx hb dL_isBook_303 (by decide) ?_
  refine lv_goto (tgt := 308) hx hb dL_isBook_304 (by decide) ?_
  exact wL_isBook_308 CM r229 t229 (by omega) (by omega) hb229 F b x2 x4 x5 x6 x7 x9 x10 (1 : Int32) _ _ _ _ _ hF hP hD hS (lv_sub hl [0, 1, 2, 3, 4, 5, 6, 7] rfl) (by omega) (by omega)
noncomputable def PL_isBook_307 (N : Nat) (K : Int32 → mb_S → Prop) (b229 : mb_m → mb_bs → Int32 → Int32 → Int32 → Int32 → Int32 → Int32 → Int32 → Int32 → Prop) (F : mb_m) (b : mb_bs) (x2 x4 x5 x6 x7 x9 x10 : Int32) : Prop := PL_isBook_308 N K b229 F b x2 x4 x5 x6 x7 x9 x10 (0 : Int32)
set_option maxHeartbeats 4000000 in
set_option maxRecDepth 100000 in
theorem wL_isBook_307 {p : Program} {l : Launch} {e : Env} {s : State} {m : MethodId} {below : List Frame} {meth : Method} {c : Code} {args : Array Value} {D : va_G} {Y : Nat → ClassId} {A : Nat → Prop} {o : Nat} {a aa ad : Nat → Nat} {N : Nat} {K : Int32 → mb_S → Prop} {b229 : mb_m → mb_bs → Int32 → Int32 → Int32 → Int32 → Int32 → Int32 → Int32 → Int32 → Prop} (CM : mb_CM l p s m meth c args cL_isBook 13 (some .boolean) wsL_isBook RL D Y A) (r229 t229 : Nat) (hr229 : 8 + 0 ≤ r229) (ht229 : 48 + 0 ≤ t229) (hb229 : ∀ (F : mb_m) (b : mb_bs) (x2 x4 x5 x6 x7 x8 x9 x10 : Int32) (H : Heap) (locs : List Loc) (ls : Array Slot) (cells slots : Nat), b229 F b x2 x4 x5 x6 x7 x8 x9 x10 → va_P D vwCl (wW Y o a aa ad b F) H → va_D A (wW Y o a aa ad b F) → va_S A s.heap H locs → lv_has ls 13 [(0, .ref o), (2, .int x2), (4, .int x4), (5, .int x5), (6, .int x6), (7, .int x7), (8, .int x8), (9, .int x9), (10, .int x10)] → cells + (r229) ≤ 1216 → slots + (t229) ≤ 7296 → W p l e ({ frames := 9, cells := 1216, slots := 7296, locals := 160 } : Room) s m args below meth c H locs cells slots (MQ below (va_Qi K (fun u t => mb_T D A (wW Y o a aa ad u.1 u.2) t) A) args s 1216 7296 A) (F0 m 229 ls [])) : ∀ (F : mb_m) (b : mb_bs) (x2 x4 x5 x6 x7 x9 x10 : Int32) (H : Heap) (locs : List Loc) (ls : Array Slot) (cells slots : Nat), PL_isBook_307 N K b229 F b x2 x4 x5 x6 x7 x9 x10 → va_P D vwCl (wW Y o a aa ad b F) H → va_D A (wW Y o a aa ad b F) → va_S A s.heap H locs → lv_has ls 13 [(0, .ref o), (2, .int x2), (4, .int x4), (5, .int x5), (6, .int x6), (7, .int x7), (9, .int x9), (10, .int x10)] → cells + (0 + r229) ≤ 1216 → slots + (0 + t229) ≤ 7296 → W p l e ({ frames := 9, cells := 1216, slots := 7296, locals := 160 } : Room) s m args below meth c H locs cells slots (MQ below (va_Qi K (fun u t => mb_T D A (wW Y o a aa ad u.1 u.2) t) A) args s 1216 7296 A) (F0 m 307 ls []) := by
  obtain ⟨C, hX, hl0, hN⟩ := id CM
  obtain ⟨hx, hb, hr, hml, hts, hown, hlocks, hA, hG⟩ := id C
  have hK := hG.1
  intro F b x2 x4 x5 x6 x7 x9 x10 H locs ls cells slots hF hP hD hS hl hc hs
  unfold PL_isBook_307 at hF
  refine lv_iconst (v := 0) hx hb dL_isBook_307 (by decide) ?_
  exact wL_isBook_308 CM r229 t229 (by omega) (by omega) hb229 F b x2 x4 x5 x6 x7 x9 x10 (0 : Int32) _ _ _ _ _ hF hP hD hS (lv_sub hl [0, 1, 2, 3, 4, 5, 6, 7] rfl) (by omega) (by omega)
noncomputable def PL_isBook_360 (N : Nat) (K : Int32 → mb_S → Prop) (F : mb_m) (b : mb_bs) (x2 x4 x5 : Int32) : Prop := LP_opens N b F x2 (100000 : Int32) (fun r364 u364 => (¬ r364 = (x4 + (1 : Int32)) → K (0 : Int32) (u364.1, u364.2)) ∧ (r364 = (x4 + (1 : Int32)) → (x5 = 0 → K (1 : Int32) (u364.1, u364.2)) ∧ (¬ x5 = 0 → LP_opens N u364.1 u364.2 x2 (x5 - (1 : Int32)) (fun r385 u385 => (¬ r385 = 0 → K (0 : Int32) (u385.1, u385.2)) ∧ (r385 = 0 → K (1 : Int32) (u385.1, u385.2))))))
set_option maxHeartbeats 4000000 in
set_option maxRecDepth 100000 in
theorem wL_isBook_360 {p : Program} {l : Launch} {e : Env} {s : State} {m : MethodId} {below : List Frame} {meth : Method} {c : Code} {args : Array Value} {D : va_G} {Y : Nat → ClassId} {A : Nat → Prop} {o : Nat} {a aa ad : Nat → Nat} {N : Nat} {K : Int32 → mb_S → Prop} (CM : mb_CM l p s m meth c args cL_isBook 13 (some .boolean) wsL_isBook RL D Y A) : ∀ (F : mb_m) (b : mb_bs) (x2 x4 x5 : Int32) (H : Heap) (locs : List Loc) (ls : Array Slot) (cells slots : Nat), PL_isBook_360 N K  F b x2 x4 x5 → va_P D vwCl (wW Y o a aa ad b F) H → va_D A (wW Y o a aa ad b F) → va_S A s.heap H locs → lv_has ls 13 [(0, .ref o), (2, .int x2), (4, .int x4), (5, .int x5)] → cells + (4 + 0) ≤ 1216 → slots + (24 + 0) ≤ 7296 → W p l e ({ frames := 9, cells := 1216, slots := 7296, locals := 160 } : Room) s m args below meth c H locs cells slots (MQ below (va_Qi K (fun u t => mb_T D A (wW Y o a aa ad u.1 u.2) t) A) args s 1216 7296 A) (F0 m 360 ls []) := by
  obtain ⟨C, hX, hl0, hN⟩ := id CM
  obtain ⟨hx, hb, hr, hml, hts, hown, hlocks, hA, hG⟩ := id C
  have hK := hG.1
  intro F b x2 x4 x5 H locs ls cells slots hF hP hD hS hl hc hs
  unfold PL_isBook_360 at hF
  refine lv_aload_n hx hb dL_isBook_360 rfl (lv_at hl 0 rfl) ?_
  refine lv_iload_n hx hb dL_isBook_361 rfl (lv_at hl 1 rfl) ?_
  refine lv_ldc (v := 100000) hx hb hown (hts (.constant RL 166 (100000)) (List.mem_of_getElem? (i := 3) rfl)) dL_isBook_362 ?_
  refine mb_cW (S := mb_S) hD hS hA (vx_runSW (As := [.ref o, .int x2, .int (100000 : Int32)]) (rest := []) ⟨hx, hb, hml, hown, hts⟩ (cw_opens l hl0 D Y N o a aa ad b F _ x2 (100000 : Int32) _ hF) (vx_cwSW 3 hts gL_isBook_L_opens rfl rfl rfl (by decide +kernel) ⟨Nat.le_of_ble_eq_true rfl, Nat.le_of_ble_eq_true rfl⟩) (mbm_pre CM hP hD hS) rfl rfl hl.1 rfl (lv_room (Nat.le_of_ble_eq_true rfl)) dL_isBook_364 ⟨by show _ ≤ 1216; omega, by show _ ≤ 7296; omega⟩) (fun r364 u364 H locs hF hP hD hS => ?_)
  have hP : va_P D vwCl (wW Y o a aa ad u364.1 u364.2) H := hP
  have hD : va_D A (wW Y o a aa ad u364.1 u364.2) := hD
  refine lv_iload hx hb dL_isBook_367 (lv_at hl 2 rfl) ?_
  refine lv_iconst (v := 1) hx hb dL_isBook_369 (by decide) ?_
  refine lv_iadd hx hb dL_isBook_370 ?_
  refine lv_icmp_ne (tgt := 395) hx hb dL_isBook_371 (by decide) (fun c_371 => ?_) (fun c_371 => ?_)
  · have hF := hF.1 c_371
    refine lv_iconst (v := 0) hx hb dL_isBook_395 (by decide) ?_
    exact mb_ri (S := mb_S) (mc := 1216) (ms := 7296) (wf := fun u => wW Y o a aa ad u.1 u.2) C rfl (u := (u364.1, u364.2)) hF hP hD hS dL_isBook_396 (by omega) (by omega)
  · have hF := hF.2 c_371
    refine lv_iload hx hb dL_isBook_374 (lv_at hl 3 rfl) ?_
    refine lv_if_eq (tgt := 391) hx hb dL_isBook_376 (by decide) (fun c_376 => ?_) (fun c_376 => ?_)
    · have hF := hF.1 c_376
      refine lv_iconst (v := 1) hx hb dL_isBook_391 (by decide) ?_
      refine lv_goto (tgt := 396) hx hb dL_isBook_392 (by decide) ?_
      exact mb_ri (S := mb_S) (mc := 1216) (ms := 7296) (wf := fun u => wW Y o a aa ad u.1 u.2) C rfl (u := (u364.1, u364.2)) hF hP hD hS dL_isBook_396 (by omega) (by omega)
    · have hF := hF.2 c_376
      refine lv_aload_n hx hb dL_isBook_379 rfl (lv_at hl 0 rfl) ?_
      refine lv_iload_n hx hb dL_isBook_380 rfl (lv_at hl 1 rfl) ?_
      refine lv_iload hx hb dL_isBook_381 (lv_at hl 3 rfl) ?_
      refine lv_iconst (v := 1) hx hb dL_isBook_383 (by decide) ?_
      refine lv_isub hx hb dL_isBook_384 ?_
      refine mb_cW (S := mb_S) hD hS hA (vx_runSW (As := [.ref o, .int x2, .int (x5 - (1 : Int32))]) (rest := []) ⟨hx, hb, hml, hown, hts⟩ (cw_opens l hl0 D Y N o a aa ad u364.1 u364.2 _ x2 (x5 - (1 : Int32)) _ hF) (vx_cwSW 3 hts gL_isBook_L_opens rfl rfl rfl (by decide +kernel) ⟨Nat.le_of_ble_eq_true rfl, Nat.le_of_ble_eq_true rfl⟩) (mbm_pre CM hP hD hS) rfl rfl hl.1 rfl (lv_room (Nat.le_of_ble_eq_true rfl)) dL_isBook_385 ⟨by show _ ≤ 1216; omega, by show _ ≤ 7296; omega⟩) (fun r385 u385 H locs hF hP hD hS => ?_)
      have hP : va_P D vwCl (wW Y o a aa ad u385.1 u385.2) H := hP
      have hD : va_D A (wW Y o a aa ad u385.1 u385.2) := hD
      refine lv_if_ne (tgt := 395) hx hb dL_isBook_388 (by decide) (fun c_388 => ?_) (fun c_388 => ?_)
      · have hF := hF.1 c_388
        refine lv_iconst (v := 0) hx hb dL_isBook_395 (by decide) ?_
        exact mb_ri (S := mb_S) (mc := 1216) (ms := 7296) (wf := fun u => wW Y o a aa ad u.1 u.2) C rfl (u := (u385.1, u385.2)) hF hP hD hS dL_isBook_396 (by omega) (by omega)
      · have hF := hF.2 c_388
        refine lv_iconst (v := 1) hx hb dL_isBook_391 (by decide) ?_
        refine lv_goto (tgt := 396) hx hb dL_isBook_392 (by decide) ?_
        exact mb_ri (S := mb_S) (mc := 1216) (ms := 7296) (wf := fun u => wW Y o a aa ad u.1 u.2) C rfl (u := (u385.1, u385.2)) hF hP hD hS dL_isBook_396 (by omega) (by omega)
noncomputable def PL_isBook_316 (N : Nat) (K : Int32 → mb_S → Prop) (F : mb_m) (b : mb_bs) (x2 x4 x5 x6 x7 x8 x9 : Int32) : Prop := (x8 = 0 → K (0 : Int32) (b, F)) ∧ (¬ x8 = 0 → (¬ x7 = x5 → K (0 : Int32) (b, F)) ∧ (x7 = x5 → (¬ x9 = (x4 / (2 : Int32)) → K (0 : Int32) (b, F)) ∧ (x9 = (x4 / (2 : Int32)) → LP_ofThread N b F x2 (5 : Int32) (fun r340 u340 => (r340 = 0 → PL_isBook_360 N K u340.2 u340.1 x2 x4 x5) ∧ (¬ r340 = 0 → (x6 = 0 → K (0 : Int32) (u340.1, u340.2)) ∧ (¬ x6 = 0 → LP_ofThread N u340.1 u340.2 x2 (3 : Int32) (fun r354 u354 => (¬ r354 = 0 → K (0 : Int32) (u354.1, u354.2)) ∧ (r354 = 0 → PL_isBook_360 N K u354.2 u354.1 x2 x4 x5))))))))
set_option maxHeartbeats 4000000 in
set_option maxRecDepth 100000 in
theorem wL_isBook_316 {p : Program} {l : Launch} {e : Env} {s : State} {m : MethodId} {below : List Frame} {meth : Method} {c : Code} {args : Array Value} {D : va_G} {Y : Nat → ClassId} {A : Nat → Prop} {o : Nat} {a aa ad : Nat → Nat} {N : Nat} {K : Int32 → mb_S → Prop} (CM : mb_CM l p s m meth c args cL_isBook 13 (some .boolean) wsL_isBook RL D Y A) : ∀ (F : mb_m) (b : mb_bs) (x2 x4 x5 x6 x7 x8 x9 : Int32) (H : Heap) (locs : List Loc) (ls : Array Slot) (cells slots : Nat), PL_isBook_316 N K  F b x2 x4 x5 x6 x7 x8 x9 → va_P D vwCl (wW Y o a aa ad b F) H → va_D A (wW Y o a aa ad b F) → va_S A s.heap H locs → lv_has ls 13 [(0, .ref o), (2, .int x2), (4, .int x4), (5, .int x5), (6, .int x6), (7, .int x7), (8, .int x8), (9, .int x9)] → cells + (8 + 0) ≤ 1216 → slots + (48 + 0) ≤ 7296 → W p l e ({ frames := 9, cells := 1216, slots := 7296, locals := 160 } : Room) s m args below meth c H locs cells slots (MQ below (va_Qi K (fun u t => mb_T D A (wW Y o a aa ad u.1 u.2) t) A) args s 1216 7296 A) (F0 m 316 ls []) := by
  obtain ⟨C, hX, hl0, hN⟩ := id CM
  obtain ⟨hx, hb, hr, hml, hts, hown, hlocks, hA, hG⟩ := id C
  have hK := hG.1
  intro F b x2 x4 x5 x6 x7 x8 x9 H locs ls cells slots hF hP hD hS hl hc hs
  unfold PL_isBook_316 at hF
  refine lv_iload hx hb dL_isBook_316 (lv_at hl 6 rfl) ?_
  refine lv_if_eq (tgt := 395) hx hb dL_isBook_318 (by decide) (fun c_318 => ?_) (fun c_318 => ?_)
  · have hF := hF.1 c_318
    refine lv_iconst (v := 0) hx hb dL_isBook_395 (by decide) ?_
    exact mb_ri (S := mb_S) (mc := 1216) (ms := 7296) (wf := fun u => wW Y o a aa ad u.1 u.2) C rfl (u := (b, F)) hF hP hD hS dL_isBook_396 (by omega) (by omega)
  · have hF := hF.2 c_318
    refine lv_iload hx hb dL_isBook_321 (lv_at hl 5 rfl) ?_
    refine lv_iload hx hb dL_isBook_323 (lv_at hl 3 rfl) ?_
    refine lv_icmp_ne (tgt := 395) hx hb dL_isBook_325 (by decide) (fun c_325 => ?_) (fun c_325 => ?_)
    · have hF := hF.1 c_325
      refine lv_iconst (v := 0) hx hb dL_isBook_395 (by decide) ?_
      exact mb_ri (S := mb_S) (mc := 1216) (ms := 7296) (wf := fun u => wW Y o a aa ad u.1 u.2) C rfl (u := (b, F)) hF hP hD hS dL_isBook_396 (by omega) (by omega)
    · have hF := hF.2 c_325
      refine lv_iload hx hb dL_isBook_328 (lv_at hl 7 rfl) ?_
      refine lv_iload hx hb dL_isBook_330 (lv_at hl 2 rfl) ?_
      refine lv_iconst (v := 2) hx hb dL_isBook_332 (by decide) ?_
      refine lv_idiv hx hb dL_isBook_333 (by decide) ?_
      refine lv_icmp_ne (tgt := 395) hx hb dL_isBook_334 (by decide) (fun c_334 => ?_) (fun c_334 => ?_)
      · have hF := hF.1 c_334
        refine lv_iconst (v := 0) hx hb dL_isBook_395 (by decide) ?_
        exact mb_ri (S := mb_S) (mc := 1216) (ms := 7296) (wf := fun u => wW Y o a aa ad u.1 u.2) C rfl (u := (b, F)) hF hP hD hS dL_isBook_396 (by omega) (by omega)
      · have hF := hF.2 c_334
        refine lv_aload_n hx hb dL_isBook_337 rfl (lv_at hl 0 rfl) ?_
        refine lv_iload_n hx hb dL_isBook_338 rfl (lv_at hl 1 rfl) ?_
        refine lv_iconst (v := 5) hx hb dL_isBook_339 (by decide) ?_
        refine mb_cW (S := mb_S) hD hS hA (vx_runSW (As := [.ref o, .int x2, .int (5 : Int32)]) (rest := []) ⟨hx, hb, hml, hown, hts⟩ (cw_ofThread l hl0 D Y N o a aa ad b F _ x2 (5 : Int32) _ hF) (vx_cwSW 3 hts gL_isBook_L_ofThread rfl rfl rfl (by decide +kernel) ⟨Nat.le_of_ble_eq_true rfl, Nat.le_of_ble_eq_true rfl⟩) (mbm_pre CM hP hD hS) rfl rfl hl.1 rfl (lv_room (Nat.le_of_ble_eq_true rfl)) dL_isBook_340 ⟨by show _ ≤ 1216; omega, by show _ ≤ 7296; omega⟩) (fun r340 u340 H locs hF hP hD hS => ?_)
        have hP : va_P D vwCl (wW Y o a aa ad u340.1 u340.2) H := hP
        have hD : va_D A (wW Y o a aa ad u340.1 u340.2) := hD
        refine lv_if_eq (tgt := 360) hx hb dL_isBook_343 (by decide) (fun c_343 => ?_) (fun c_343 => ?_)
        · have hF := hF.1 c_343
          exact wL_isBook_360 CM u340.2 u340.1 x2 x4 x5 _ _ _ _ _ hF hP hD hS (lv_sub hl [0, 1, 2, 3] rfl) (by omega) (by omega)
        · have hF := hF.2 c_343
          refine lv_iload hx hb dL_isBook_346 (lv_at hl 4 rfl) ?_
          refine lv_if_eq (tgt := 395) hx hb dL_isBook_348 (by decide) (fun c_348 => ?_) (fun c_348 => ?_)
          · have hF := hF.1 c_348
            refine lv_iconst (v := 0) hx hb dL_isBook_395 (by decide) ?_
            exact mb_ri (S := mb_S) (mc := 1216) (ms := 7296) (wf := fun u => wW Y o a aa ad u.1 u.2) C rfl (u := (u340.1, u340.2)) hF hP hD hS dL_isBook_396 (by omega) (by omega)
          · have hF := hF.2 c_348
            refine lv_aload_n hx hb dL_isBook_351 rfl (lv_at hl 0 rfl) ?_
            refine lv_iload_n hx hb dL_isBook_352 rfl (lv_at hl 1 rfl) ?_
            refine lv_iconst (v := 3) hx hb dL_isBook_353 (by decide) ?_
            refine mb_cW (S := mb_S) hD hS hA (vx_runSW (As := [.ref o, .int x2, .int (3 : Int32)]) (rest := []) ⟨hx, hb, hml, hown, hts⟩ (cw_ofThread l hl0 D Y N o a aa ad u340.1 u340.2 _ x2 (3 : Int32) _ hF) (vx_cwSW 3 hts gL_isBook_L_ofThread rfl rfl rfl (by decide +kernel) ⟨Nat.le_of_ble_eq_true rfl, Nat.le_of_ble_eq_true rfl⟩) (mbm_pre CM hP hD hS) rfl rfl hl.1 rfl (lv_room (Nat.le_of_ble_eq_true rfl)) dL_isBook_354 ⟨by show _ ≤ 1216; omega, by show _ ≤ 7296; omega⟩) (fun r354 u354 H locs hF hP hD hS => ?_)
            have hP : va_P D vwCl (wW Y o a aa ad u354.1 u354.2) H := hP
            have hD : va_D A (wW Y o a aa ad u354.1 u354.2) := hD
            refine lv_if_ne (tgt := 395) hx hb dL_isBook_357 (by decide) (fun c_357 => ?_) (fun c_357 => ?_)
            · have hF := hF.1 c_357
              refine lv_iconst (v := 0) hx hb dL_isBook_395 (by decide) ?_
              exact mb_ri (S := mb_S) (mc := 1216) (ms := 7296) (wf := fun u => wW Y o a aa ad u.1 u.2) C rfl (u := (u354.1, u354.2)) hF hP hD hS dL_isBook_396 (by omega) (by omega)
            · have hF := hF.2 c_357
              exact wL_isBook_360 CM u354.2 u354.1 x2 x4 x5 _ _ _ _ _ hF hP hD hS (lv_sub hl [0, 1, 2, 3] rfl) (by omega) (by omega)
noncomputable def PL_isBook_229_b (N : Nat) (K : Int32 → mb_S → Prop) (b229 : mb_m → mb_bs → Int32 → Int32 → Int32 → Int32 → Int32 → Int32 → Int32 → Int32 → Prop) (F : mb_m) (b : mb_bs) (x2 x4 x5 x6 x7 x8 x9 x10 : Int32) : Prop := (x4 < x10 → PL_isBook_316 N K F b x2 x4 x5 x6 x7 x8 x9) ∧ (¬ x4 < x10 → (x8 = 0 → PL_isBook_316 N K F b x2 x4 x5 x6 x7 x8 x9) ∧ (¬ x8 = 0 → LP_strain N b F x2 x10 (fun r245 u245 => LP_strain N u245.1 u245.2 x2 (x4 - x10) (fun r259 u259 => (¬ r245 = r259 → PL_isBook_307 N K b229 u259.2 u259.1 x2 x4 x5 x6 x7 x9 x10) ∧ (r245 = r259 → (r245 < x5 → PL_isBook_307 N K b229 u259.2 u259.1 x2 x4 x5 x6 x7 x9 x10) ∧ (¬ r245 < x5 → LP_strain N u259.1 u259.2 x2 x9 (fun r278 u278 => (r278 < r245 → PL_isBook_307 N K b229 u278.2 u278.1 x2 x4 x5 x6 x7 x9 x10) ∧ (¬ r278 < r245 → (x9 ≤ x10 → PL_isBook_303 N K b229 u278.2 u278.1 x2 x4 x5 x6 x7 x9 x10) ∧ (¬ x9 ≤ x10 → LP_strain N u278.1 u278.2 x2 x9 (fun r297 u297 => (r297 ≤ r245 → PL_isBook_307 N K b229 u297.2 u297.1 x2 x4 x5 x6 x7 x9 x10) ∧ (¬ r297 ≤ r245 → PL_isBook_303 N K b229 u297.2 u297.1 x2 x4 x5 x6 x7 x9 x10)))))))))))
noncomputable def PL_isBook_229 (N : Nat) (K : Int32 → mb_S → Prop) (n : Nat) : mb_m → mb_bs → Int32 → Int32 → Int32 → Int32 → Int32 → Int32 → Int32 → Int32 → Prop := Nat.rec (motive := fun _ => mb_m → mb_bs → Int32 → Int32 → Int32 → Int32 → Int32 → Int32 → Int32 → Int32 → Prop) (fun _ _ _ _ _ _ _ _ _ _ => False) (fun _ b229 => PL_isBook_229_b N K  b229) n
set_option maxHeartbeats 4000000 in
set_option maxRecDepth 100000 in
theorem wL_isBook_229 {p : Program} {l : Launch} {e : Env} {s : State} {m : MethodId} {below : List Frame} {meth : Method} {c : Code} {args : Array Value} {D : va_G} {Y : Nat → ClassId} {A : Nat → Prop} {o : Nat} {a aa ad : Nat → Nat} {N : Nat} {K : Int32 → mb_S → Prop} (CM : mb_CM l p s m meth c args cL_isBook 13 (some .boolean) wsL_isBook RL D Y A) : ∀ (n : Nat), (∀ (F : mb_m) (b : mb_bs) (x2 x4 x5 x6 x7 x8 x9 x10 : Int32) (H : Heap) (locs : List Loc) (ls : Array Slot) (cells slots : Nat), PL_isBook_229 N K  n F b x2 x4 x5 x6 x7 x8 x9 x10 → va_P D vwCl (wW Y o a aa ad b F) H → va_D A (wW Y o a aa ad b F) → va_S A s.heap H locs → lv_has ls 13 [(0, .ref o), (2, .int x2), (4, .int x4), (5, .int x5), (6, .int x6), (7, .int x7), (8, .int x8), (9, .int x9), (10, .int x10)] → cells + (n * 8 + 8 + 0) ≤ 1216 → slots + (n * 48 + 48 + 0) ≤ 7296 → W p l e ({ frames := 9, cells := 1216, slots := 7296, locals := 160 } : Room) s m args below meth c H locs cells slots (MQ below (va_Qi K (fun u t => mb_T D A (wW Y o a aa ad u.1 u.2) t) A) args s 1216 7296 A) (F0 m 229 ls [])) := by
  obtain ⟨C, hX, hl0, hN⟩ := id CM
  obtain ⟨hx, hb, hr, hml, hts, hown, hlocks, hA, hG⟩ := id C
  have hK := hG.1
  intro n
  induction n with
  | zero => intro F b x2 x4 x5 x6 x7 x8 x9 x10 H locs ls cells slots hF; exact (show False from hF).elim
  | succ n ih =>
    intro F b x2 x4 x5 x6 x7 x8 x9 x10 H locs ls cells slots hF hP hD hS hl hc hs
    have hF : PL_isBook_229_b N K  (PL_isBook_229 N K  n) F b x2 x4 x5 x6 x7 x8 x9 x10 := hF
    unfold PL_isBook_229_b at hF
    refine lv_iload hx hb dL_isBook_229 (lv_at hl 8 rfl) ?_
    refine lv_iload hx hb dL_isBook_231 (lv_at hl 2 rfl) ?_
    refine lv_icmp_gt (tgt := 316) hx hb dL_isBook_233 (by decide) (fun c_233 => ?_) (fun c_233 => ?_)
    · have hF := hF.1 c_233
      exact wL_isBook_316 CM F b x2 x4 x5 x6 x7 x8 x9 _ _ _ _ _ hF hP hD hS (lv_sub hl [0, 1, 2, 3, 4, 5, 6, 7] rfl) (by omega) (by omega)
    · have hF := hF.2 c_233
      refine lv_iload hx hb dL_isBook_236 (lv_at hl 6 rfl) ?_
      refine lv_if_eq (tgt := 316) hx hb dL_isBook_238 (by decide) (fun c_238 => ?_) (fun c_238 => ?_)
      · have hF := hF.1 c_238
        exact wL_isBook_316 CM F b x2 x4 x5 x6 x7 x8 x9 _ _ _ _ _ hF hP hD hS (lv_sub hl [0, 1, 2, 3, 4, 5, 6, 7] rfl) (by omega) (by omega)
      · have hF := hF.2 c_238
        refine lv_aload_n hx hb dL_isBook_241 rfl (lv_at hl 0 rfl) ?_
        refine lv_iload_n hx hb dL_isBook_242 rfl (lv_at hl 1 rfl) ?_
        refine lv_iload hx hb dL_isBook_243 (lv_at hl 8 rfl) ?_
        refine mb_cW (S := mb_S) hD hS hA (vx_runSW (As := [.ref o, .int x2, .int x10]) (rest := []) ⟨hx, hb, hml, hown, hts⟩ (cw_strain l hl0 D Y N o a aa ad b F _ x2 x10 _ hF) (vx_cwSW 3 hts gL_isBook_L_strain rfl rfl rfl (by decide +kernel) ⟨Nat.le_of_ble_eq_true rfl, Nat.le_of_ble_eq_true rfl⟩) (mbm_pre CM hP hD hS) rfl rfl hl.1 rfl (lv_room (Nat.le_of_ble_eq_true rfl)) dL_isBook_245 ⟨by show _ ≤ 1216; omega, by show _ ≤ 7296; omega⟩) (fun r245 u245 H locs hF hP hD hS => ?_)
        have hP : va_P D vwCl (wW Y o a aa ad u245.1 u245.2) H := hP
        have hD : va_D A (wW Y o a aa ad u245.1 u245.2) := hD
        refine lv_istore (lv' := [(11, .int r245), (0, .ref o), (2, .int x2), (4, .int x4), (5, .int x5), (6, .int x6), (7, .int x7), (8, .int x8), (9, .int x9), (10, .int x10)]) hx hb dL_isBook_248 hl (by decide) rfl (fun ls hl => ?_)
        refine lv_iload hx hb dL_isBook_250 (lv_at hl 0 rfl) ?_
        refine lv_aload_n hx hb dL_isBook_252 rfl (lv_at hl 1 rfl) ?_
        refine lv_iload_n hx hb dL_isBook_253 rfl (lv_at hl 2 rfl) ?_
        refine lv_iload hx hb dL_isBook_254 (lv_at hl 3 rfl) ?_
        refine lv_iload hx hb dL_isBook_256 (lv_at hl 9 rfl) ?_
        refine lv_isub hx hb dL_isBook_258 ?_
        refine mb_cW (S := mb_S) hD hS hA (vx_runSW (As := [.ref o, .int x2, .int (x4 - x10)]) (rest := [.int r245]) ⟨hx, hb, hml, hown, hts⟩ (cw_strain l hl0 D Y N o a aa ad u245.1 u245.2 _ x2 (x4 - x10) _ hF) (vx_cwSW 3 hts gL_isBook_L_strain rfl rfl rfl (by decide +kernel) ⟨Nat.le_of_ble_eq_true rfl, Nat.le_of_ble_eq_true rfl⟩) (mbm_pre CM hP hD hS) rfl rfl hl.1 rfl (lv_room (Nat.le_of_ble_eq_true rfl)) dL_isBook_259 ⟨by show _ ≤ 1216; omega, by show _ ≤ 7296; omega⟩) (fun r259 u259 H locs hF hP hD hS => ?_)
        have hP : va_P D vwCl (wW Y o a aa ad u259.1 u259.2) H := hP
        have hD : va_D A (wW Y o a aa ad u259.1 u259.2) := hD
        refine lv_icmp_ne (tgt := 307) hx hb dL_isBook_262 (by decide) (fun c_262 => ?_) (fun c_262 => ?_)
        · have hF := hF.1 c_262
          exact wL_isBook_307 CM (n * 8 + 8 + 0) (n * 48 + 48 + 0) (by omega) (by omega) ih u259.2 u259.1 x2 x4 x5 x6 x7 x9 x10 _ _ _ _ _ hF hP hD hS (lv_sub hl [1, 2, 3, 4, 5, 6, 8, 9] rfl) (by omega) (by omega)
        · have hF := hF.2 c_262
          refine lv_iload hx hb dL_isBook_265 (lv_at hl 0 rfl) ?_
          refine lv_iload hx hb dL_isBook_267 (lv_at hl 4 rfl) ?_
          refine lv_icmp_lt (tgt := 307) hx hb dL_isBook_269 (by decide) (fun c_269 => ?_) (fun c_269 => ?_)
          · have hF := hF.1 c_269
            exact wL_isBook_307 CM (n * 8 + 8 + 0) (n * 48 + 48 + 0) (by omega) (by omega) ih u259.2 u259.1 x2 x4 x5 x6 x7 x9 x10 _ _ _ _ _ hF hP hD hS (lv_sub hl [1, 2, 3, 4, 5, 6, 8, 9] rfl) (by omega) (by omega)
          · have hF := hF.2 c_269
            refine lv_iload hx hb dL_isBook_272 (lv_at hl 0 rfl) ?_
            refine lv_aload_n hx hb dL_isBook_274 rfl (lv_at hl 1 rfl) ?_
            refine lv_iload_n hx hb dL_isBook_275 rfl (lv_at hl 2 rfl) ?_
            refine lv_iload hx hb dL_isBook_276 (lv_at hl 8 rfl) ?_
            refine mb_cW (S := mb_S) hD hS hA (vx_runSW (As := [.ref o, .int x2, .int x9]) (rest := [.int r245]) ⟨hx, hb, hml, hown, hts⟩ (cw_strain l hl0 D Y N o a aa ad u259.1 u259.2 _ x2 x9 _ hF) (vx_cwSW 3 hts gL_isBook_L_strain rfl rfl rfl (by decide +kernel) ⟨Nat.le_of_ble_eq_true rfl, Nat.le_of_ble_eq_true rfl⟩) (mbm_pre CM hP hD hS) rfl rfl hl.1 rfl (lv_room (Nat.le_of_ble_eq_true rfl)) dL_isBook_278 ⟨by show _ ≤ 1216; omega, by show _ ≤ 7296; omega⟩) (fun r278 u278 H locs hF hP hD hS => ?_)
            have hP : va_P D vwCl (wW Y o a aa ad u278.1 u278.2) H := hP
            have hD : va_D A (wW Y o a aa ad u278.1 u278.2) := hD
            refine lv_icmp_gt (tgt := 307) hx hb dL_isBook_281 (by decide) (fun c_281 => ?_) (fun c_281 => ?_)
            · have hF := hF.1 c_281
              exact wL_isBook_307 CM (n * 8 + 8 + 0) (n * 48 + 48 + 0) (by omega) (by omega) ih u278.2 u278.1 x2 x4 x5 x6 x7 x9 x10 _ _ _ _ _ hF hP hD hS (lv_sub hl [1, 2, 3, 4, 5, 6, 8, 9] rfl) (by omega) (by omega)
            · have hF := hF.2 c_281
              refine lv_iload hx hb dL_isBook_284 (lv_at hl 9 rfl) ?_
              refine lv_iload hx hb dL_isBook_286 (lv_at hl 8 rfl) ?_
              refine lv_icmp_ge (tgt := 303) hx hb dL_isBook_288 (by decide) (fun c_288 => ?_) (fun c_288 => ?_)
              · have hF := hF.1 c_288
                exact wL_isBook_303 CM (n * 8 + 8 + 0) (n * 48 + 48 + 0) (by omega) (by omega) ih u278.2 u278.1 x2 x4 x5 x6 x7 x9 x10 _ _ _ _ _ hF hP hD hS (lv_sub hl [1, 2, 3, 4, 5, 6, 8, 9] rfl) (by omega) (by omega)
              · have hF := hF.2 c_288
                refine lv_iload hx hb dL_isBook_291 (lv_at hl 0 rfl) ?_
                refine lv_aload_n hx hb dL_isBook_293 rfl (lv_at hl 1 rfl) ?_
                refine lv_iload_n hx hb dL_isBook_294 rfl (lv_at hl 2 rfl) ?_
                refine lv_iload hx hb dL_isBook_295 (lv_at hl 8 rfl) ?_
                refine mb_cW (S := mb_S) hD hS hA (vx_runSW (As := [.ref o, .int x2, .int x9]) (rest := [.int r245]) ⟨hx, hb, hml, hown, hts⟩ (cw_strain l hl0 D Y N o a aa ad u278.1 u278.2 _ x2 x9 _ hF) (vx_cwSW 3 hts gL_isBook_L_strain rfl rfl rfl (by decide +kernel) ⟨Nat.le_of_ble_eq_true rfl, Nat.le_of_ble_eq_true rfl⟩) (mbm_pre CM hP hD hS) rfl rfl hl.1 rfl (lv_room (Nat.le_of_ble_eq_true rfl)) dL_isBook_297 ⟨by show _ ≤ 1216; omega, by show _ ≤ 7296; omega⟩) (fun r297 u297 H locs hF hP hD hS => ?_)
                have hP : va_P D vwCl (wW Y o a aa ad u297.1 u297.2) H := hP
                have hD : va_D A (wW Y o a aa ad u297.1 u297.2) := hD
                refine lv_icmp_ge (tgt := 307) hx hb dL_isBook_300 (by decide) (fun c_300 => ?_) (fun c_300 => ?_)
                · have hF := hF.1 c_300
                  exact wL_isBook_307 CM (n * 8 + 8 + 0) (n * 48 + 48 + 0) (by omega) (by omega) ih u297.2 u297.1 x2 x4 x5 x6 x7 x9 x10 _ _ _ _ _ hF hP hD hS (lv_sub hl [1, 2, 3, 4, 5, 6, 8, 9] rfl) (by omega) (by omega)
                · have hF := hF.2 c_300
                  exact wL_isBook_303 CM (n * 8 + 8 + 0) (n * 48 + 48 + 0) (by omega) (by omega) ih u297.2 u297.1 x2 x4 x5 x6 x7 x9 x10 _ _ _ _ _ hF hP hD hS (lv_sub hl [1, 2, 3, 4, 5, 6, 8, 9] rfl) (by omega) (by omega)
noncomputable def PL_isBook_219 (N : Nat) (K : Int32 → mb_S → Prop) (F : mb_m) (b : mb_bs) (x2 x4 x5 x6 x7 x8 : Int32) : Prop := LP_worst N b F x2 (fun r221 u221 => PL_isBook_229 N K 130 u221.2 u221.1 x2 x4 x5 x6 x7 x8 r221 (0 : Int32))
set_option maxHeartbeats 4000000 in
set_option maxRecDepth 100000 in
theorem wL_isBook_219 {p : Program} {l : Launch} {e : Env} {s : State} {m : MethodId} {below : List Frame} {meth : Method} {c : Code} {args : Array Value} {D : va_G} {Y : Nat → ClassId} {A : Nat → Prop} {o : Nat} {a aa ad : Nat → Nat} {N : Nat} {K : Int32 → mb_S → Prop} (CM : mb_CM l p s m meth c args cL_isBook 13 (some .boolean) wsL_isBook RL D Y A) : ∀ (F : mb_m) (b : mb_bs) (x2 x4 x5 x6 x7 x8 : Int32) (H : Heap) (locs : List Loc) (ls : Array Slot) (cells slots : Nat), PL_isBook_219 N K  F b x2 x4 x5 x6 x7 x8 → va_P D vwCl (wW Y o a aa ad b F) H → va_D A (wW Y o a aa ad b F) → va_S A s.heap H locs → lv_has ls 13 [(0, .ref o), (2, .int x2), (4, .int x4), (5, .int x5), (6, .int x6), (7, .int x7), (8, .int x8)] → cells + (1049 + 0) ≤ 1216 → slots + (6294 + 0) ≤ 7296 → W p l e ({ frames := 9, cells := 1216, slots := 7296, locals := 160 } : Room) s m args below meth c H locs cells slots (MQ below (va_Qi K (fun u t => mb_T D A (wW Y o a aa ad u.1 u.2) t) A) args s 1216 7296 A) (F0 m 219 ls []) := by
  obtain ⟨C, hX, hl0, hN⟩ := id CM
  obtain ⟨hx, hb, hr, hml, hts, hown, hlocks, hA, hG⟩ := id C
  have hK := hG.1
  intro F b x2 x4 x5 x6 x7 x8 H locs ls cells slots hF hP hD hS hl hc hs
  unfold PL_isBook_219 at hF
  refine lv_aload_n hx hb dL_isBook_219 rfl (lv_at hl 0 rfl) ?_
  refine lv_iload_n hx hb dL_isBook_220 rfl (lv_at hl 1 rfl) ?_
  refine mb_cW (S := mb_S) hD hS hA (vx_runSW (As := [.ref o, .int x2]) (rest := []) ⟨hx, hb, hml, hown, hts⟩ (cw_worst l hl0 D Y N o a aa ad b F _ x2 _ hF) (vx_cwSW 2 hts gL_isBook_L_worst rfl rfl rfl (by decide +kernel) ⟨Nat.le_of_ble_eq_true rfl, Nat.le_of_ble_eq_true rfl⟩) (mbm_pre CM hP hD hS) rfl rfl hl.1 rfl (lv_room (Nat.le_of_ble_eq_true rfl)) dL_isBook_221 ⟨by show _ ≤ 1216; omega, by show _ ≤ 7296; omega⟩) (fun r221 u221 H locs hF hP hD hS => ?_)
  have hP : va_P D vwCl (wW Y o a aa ad u221.1 u221.2) H := hP
  have hD : va_D A (wW Y o a aa ad u221.1 u221.2) := hD
  refine lv_istore (lv' := [(9, .int r221), (0, .ref o), (2, .int x2), (4, .int x4), (5, .int x5), (6, .int x6), (7, .int x7), (8, .int x8)]) hx hb dL_isBook_224 hl (by decide) rfl (fun ls hl => ?_)
  refine lv_iconst (v := 0) hx hb dL_isBook_226 (by decide) ?_
  refine lv_istore (lv' := [(10, .int (0 : Int32)), (9, .int r221), (0, .ref o), (2, .int x2), (4, .int x4), (5, .int x5), (6, .int x6), (7, .int x7), (8, .int x8)]) hx hb dL_isBook_227 hl (by decide) rfl (fun ls hl => ?_)
  exact wL_isBook_229 CM 130 u221.2 u221.1 x2 x4 x5 x6 x7 x8 r221 (0 : Int32) _ _ _ _ _ hF hP hD hS (lv_sub hl [2, 3, 4, 5, 6, 7, 8, 1, 0] rfl) (by omega) (by omega)
noncomputable def PL_isBook_72_b (N : Nat) (K : Int32 → mb_S → Prop) (b72 : mb_m → mb_bs → Int32 → Int32 → Int32 → Int32 → Int32 → Int32 → Int32 → Int32 → Prop) (F : mb_m) (b : mb_bs) (x2 x3 x4 x5 x6 x7 x8 x9 : Int32) : Prop := (x3 ≤ x9 → PL_isBook_219 N K F b x2 x4 x5 x6 x7 x8) ∧ (¬ x3 ≤ x9 → (x8 = 0 → PL_isBook_219 N K F b x2 x4 x5 x6 x7 x8) ∧ (¬ x8 = 0 → PL_isBook_89 N K b72 6 F b x2 x3 x4 x5 x6 x7 x9 (0 : Int32) (0 : Int32)))
noncomputable def PL_isBook_72 (N : Nat) (K : Int32 → mb_S → Prop) (n : Nat) : mb_m → mb_bs → Int32 → Int32 → Int32 → Int32 → Int32 → Int32 → Int32 → Int32 → Prop := Nat.rec (motive := fun _ => mb_m → mb_bs → Int32 → Int32 → Int32 → Int32 → Int32 → Int32 → Int32 → Int32 → Prop) (fun _ _ _ _ _ _ _ _ _ _ => False) (fun _ b72 => PL_isBook_72_b N K  b72) n
set_option maxHeartbeats 4000000 in
set_option maxRecDepth 100000 in
theorem wL_isBook_72 {p : Program} {l : Launch} {e : Env} {s : State} {m : MethodId} {below : List Frame} {meth : Method} {c : Code} {args : Array Value} {D : va_G} {Y : Nat → ClassId} {A : Nat → Prop} {o : Nat} {a aa ad : Nat → Nat} {N : Nat} {K : Int32 → mb_S → Prop} (CM : mb_CM l p s m meth c args cL_isBook 13 (some .boolean) wsL_isBook RL D Y A) : ∀ (n : Nat), (∀ (F : mb_m) (b : mb_bs) (x2 x3 x4 x5 x6 x7 x8 x9 : Int32) (H : Heap) (locs : List Loc) (ls : Array Slot) (cells slots : Nat), PL_isBook_72 N K  n F b x2 x3 x4 x5 x6 x7 x8 x9 → va_P D vwCl (wW Y o a aa ad b F) H → va_D A (wW Y o a aa ad b F) → va_S A s.heap H locs → lv_has ls 13 [(0, .ref o), (1, .ref (ad 1)), (2, .int x2), (3, .int x3), (4, .int x4), (5, .int x5), (6, .int x6), (7, .int x7), (8, .int x8), (9, .int x9)] → cells + (n * 18 + 1049 + 0) ≤ 1216 → slots + (n * 108 + 6294 + 0) ≤ 7296 → W p l e ({ frames := 9, cells := 1216, slots := 7296, locals := 160 } : Room) s m args below meth c H locs cells slots (MQ below (va_Qi K (fun u t => mb_T D A (wW Y o a aa ad u.1 u.2) t) A) args s 1216 7296 A) (F0 m 72 ls [])) := by
  obtain ⟨C, hX, hl0, hN⟩ := id CM
  obtain ⟨hx, hb, hr, hml, hts, hown, hlocks, hA, hG⟩ := id C
  have hK := hG.1
  intro n
  induction n with
  | zero => intro F b x2 x3 x4 x5 x6 x7 x8 x9 H locs ls cells slots hF; exact (show False from hF).elim
  | succ n ih =>
    intro F b x2 x3 x4 x5 x6 x7 x8 x9 H locs ls cells slots hF hP hD hS hl hc hs
    have hF : PL_isBook_72_b N K  (PL_isBook_72 N K  n) F b x2 x3 x4 x5 x6 x7 x8 x9 := hF
    unfold PL_isBook_72_b at hF
    refine lv_iload hx hb dL_isBook_72 (lv_at hl 9 rfl) ?_
    refine lv_iload_n hx hb dL_isBook_74 rfl (lv_at hl 3 rfl) ?_
    refine lv_icmp_ge (tgt := 219) hx hb dL_isBook_75 (by decide) (fun c_75 => ?_) (fun c_75 => ?_)
    · have hF := hF.1 c_75
      exact wL_isBook_219 CM F b x2 x4 x5 x6 x7 x8 _ _ _ _ _ hF hP hD hS (lv_sub hl [0, 2, 4, 5, 6, 7, 8] rfl) (by omega) (by omega)
    · have hF := hF.2 c_75
      refine lv_iload hx hb dL_isBook_78 (lv_at hl 8 rfl) ?_
      refine lv_if_eq (tgt := 219) hx hb dL_isBook_80 (by decide) (fun c_80 => ?_) (fun c_80 => ?_)
      · have hF := hF.1 c_80
        exact wL_isBook_219 CM F b x2 x4 x5 x6 x7 x8 _ _ _ _ _ hF hP hD hS (lv_sub hl [0, 2, 4, 5, 6, 7, 8] rfl) (by omega) (by omega)
      · have hF := hF.2 c_80
        refine lv_iconst (v := 0) hx hb dL_isBook_83 (by decide) ?_
        refine lv_istore (lv' := [(10, .int (0 : Int32)), (0, .ref o), (1, .ref (ad 1)), (2, .int x2), (3, .int x3), (4, .int x4), (5, .int x5), (6, .int x6), (7, .int x7), (8, .int x8), (9, .int x9)]) hx hb dL_isBook_84 hl (by decide) rfl (fun ls hl => ?_)
        refine lv_iconst (v := 0) hx hb dL_isBook_86 (by decide) ?_
        refine lv_istore (lv' := [(11, .int (0 : Int32)), (10, .int (0 : Int32)), (0, .ref o), (1, .ref (ad 1)), (2, .int x2), (3, .int x3), (4, .int x4), (5, .int x5), (6, .int x6), (7, .int x7), (8, .int x8), (9, .int x9)]) hx hb dL_isBook_87 hl (by decide) rfl (fun ls hl => ?_)
        exact wL_isBook_89 CM (n * 18 + 1049 + 0) (n * 108 + 6294 + 0) (by omega) (by omega) ih 6 F b x2 x3 x4 x5 x6 x7 x9 (0 : Int32) (0 : Int32) _ _ _ _ _ hF hP hD hS (lv_sub hl [2, 3, 4, 5, 6, 7, 8, 9, 11, 1, 0] rfl) (by omega) (by omega)
noncomputable def PL_isBook_67 (N : Nat) (K : Int32 → mb_S → Prop) (F : mb_m) (b : mb_bs) (x2 x3 x4 x5 x6 x7 y0 : Int32) : Prop := PL_isBook_72 N K 9 F b x2 x3 x4 x5 x6 x7 y0 (0 : Int32)
set_option maxHeartbeats 4000000 in
set_option maxRecDepth 100000 in
theorem wL_isBook_67 {p : Program} {l : Launch} {e : Env} {s : State} {m : MethodId} {below : List Frame} {meth : Method} {c : Code} {args : Array Value} {D : va_G} {Y : Nat → ClassId} {A : Nat → Prop} {o : Nat} {a aa ad : Nat → Nat} {N : Nat} {K : Int32 → mb_S → Prop} (CM : mb_CM l p s m meth c args cL_isBook 13 (some .boolean) wsL_isBook RL D Y A) : ∀ (F : mb_m) (b : mb_bs) (x2 x3 x4 x5 x6 x7 y0 : Int32) (H : Heap) (locs : List Loc) (ls : Array Slot) (cells slots : Nat), PL_isBook_67 N K  F b x2 x3 x4 x5 x6 x7 y0 → va_P D vwCl (wW Y o a aa ad b F) H → va_D A (wW Y o a aa ad b F) → va_S A s.heap H locs → lv_has ls 13 [(0, .ref o), (1, .ref (ad 1)), (2, .int x2), (3, .int x3), (4, .int x4), (5, .int x5), (6, .int x6), (7, .int x7)] → cells + (1211 + 0) ≤ 1216 → slots + (7266 + 0) ≤ 7296 → W p l e ({ frames := 9, cells := 1216, slots := 7296, locals := 160 } : Room) s m args below meth c H locs cells slots (MQ below (va_Qi K (fun u t => mb_T D A (wW Y o a aa ad u.1 u.2) t) A) args s 1216 7296 A) (F0 m 67 ls [.int y0]) := by
  obtain ⟨C, hX, hl0, hN⟩ := id CM
  obtain ⟨hx, hb, hr, hml, hts, hown, hlocks, hA, hG⟩ := id C
  have hK := hG.1
  intro F b x2 x3 x4 x5 x6 x7 y0 H locs ls cells slots hF hP hD hS hl hc hs
  unfold PL_isBook_67 at hF
  refine lv_istore (lv' := [(8, .int y0), (0, .ref o), (1, .ref (ad 1)), (2, .int x2), (3, .int x3), (4, .int x4), (5, .int x5), (6, .int x6), (7, .int x7)]) hx hb dL_isBook_67 hl (by decide) rfl (fun ls hl => ?_)
  refine lv_iconst (v := 0) hx hb dL_isBook_69 (by decide) ?_
  refine lv_istore (lv' := [(9, .int (0 : Int32)), (8, .int y0), (0, .ref o), (1, .ref (ad 1)), (2, .int x2), (3, .int x3), (4, .int x4), (5, .int x5), (6, .int x6), (7, .int x7)]) hx hb dL_isBook_70 hl (by decide) rfl (fun ls hl => ?_)
  exact wL_isBook_72 CM 9 F b x2 x3 x4 x5 x6 x7 y0 (0 : Int32) _ _ _ _ _ hF hP hD hS (lv_sub hl [2, 3, 4, 5, 6, 7, 8, 9, 1, 0] rfl) (by omega) (by omega)
noncomputable def PL_isBook_66 (N : Nat) (K : Int32 → mb_S → Prop) (F : mb_m) (b : mb_bs) (x2 x3 x4 x5 x6 x7 : Int32) : Prop := PL_isBook_67 N K F b x2 x3 x4 x5 x6 x7 (0 : Int32)
set_option maxHeartbeats 4000000 in
set_option maxRecDepth 100000 in
theorem wL_isBook_66 {p : Program} {l : Launch} {e : Env} {s : State} {m : MethodId} {below : List Frame} {meth : Method} {c : Code} {args : Array Value} {D : va_G} {Y : Nat → ClassId} {A : Nat → Prop} {o : Nat} {a aa ad : Nat → Nat} {N : Nat} {K : Int32 → mb_S → Prop} (CM : mb_CM l p s m meth c args cL_isBook 13 (some .boolean) wsL_isBook RL D Y A) : ∀ (F : mb_m) (b : mb_bs) (x2 x3 x4 x5 x6 x7 : Int32) (H : Heap) (locs : List Loc) (ls : Array Slot) (cells slots : Nat), PL_isBook_66 N K  F b x2 x3 x4 x5 x6 x7 → va_P D vwCl (wW Y o a aa ad b F) H → va_D A (wW Y o a aa ad b F) → va_S A s.heap H locs → lv_has ls 13 [(0, .ref o), (1, .ref (ad 1)), (2, .int x2), (3, .int x3), (4, .int x4), (5, .int x5), (6, .int x6), (7, .int x7)] → cells + (1211 + 0) ≤ 1216 → slots + (7266 + 0) ≤ 7296 → W p l e ({ frames := 9, cells := 1216, slots := 7296, locals := 160 } : Room) s m args below meth c H locs cells slots (MQ below (va_Qi K (fun u t => mb_T D A (wW Y o a aa ad u.1 u.2) t) A) args s 1216 7296 A) (F0 m 66 ls []) := by
  obtain ⟨C, hX, hl0, hN⟩ := id CM
  obtain ⟨hx, hb, hr, hml, hts, hown, hlocks, hA, hG⟩ := id C
  have hK := hG.1
  intro F b x2 x3 x4 x5 x6 x7 H locs ls cells slots hF hP hD hS hl hc hs
  unfold PL_isBook_66 at hF
  refine lv_iconst (v := 0) hx hb dL_isBook_66 (by decide) ?_
  exact wL_isBook_67 CM F b x2 x3 x4 x5 x6 x7 (0 : Int32) _ _ _ _ _ hF hP hD hS (lv_sub hl [0, 1, 2, 3, 4, 5, 6, 7] rfl) (by omega) (by omega)
noncomputable def PL_isBook (N : Nat) (F : mb_m) (b : mb_bs) (x2 : Int32) (K : Int32 → mb_S → Prop) : Prop := vp_in ((6 : Int32) * x2) 24 ∧ (∀ v6 : Int32, v6 = (F 1 ((6 : Int32) * x2).toNatClampNeg) → (vp_in (((6 : Int32) * x2) + (1 : Int32)) 24 ∧ (∀ v17 : Int32, v17 = (v6 * (F 1 (((6 : Int32) * x2) + (1 : Int32)).toNatClampNeg)) → (LP_swelling N b F x2 (fun r21 u21 => LP_ofThread N u21.1 u21.2 x2 (6 : Int32) (fun r36 u36 => (¬ r36 = (-1000002 : Int32) → PL_isBook_66 N K u36.2 u36.1 x2 v6 v17 r21 (1 : Int32) (0 : Int32)) ∧ (r36 = (-1000002 : Int32) → LP_isHeld N u36.1 u36.2 x2 v6 (fun r47 u47 => (¬ r47 = (-1000001 : Int32) → PL_isBook_66 N K u47.2 u47.1 x2 v6 v17 r21 (1 : Int32) (0 : Int32)) ∧ (r47 = (-1000001 : Int32) → (¬ (r21 - r21 / (3 : Int32) * (3 : Int32)) = 0 → PL_isBook_66 N K u47.2 u47.1 x2 v6 v17 r21 (1 : Int32) (0 : Int32)) ∧ ((r21 - r21 / (3 : Int32) * (3 : Int32)) = 0 → PL_isBook_67 N K u47.2 u47.1 x2 v6 v17 r21 (1 : Int32) (0 : Int32) (1 : Int32)))))))))))
set_option maxHeartbeats 4000000 in
set_option maxRecDepth 100000 in
theorem cnL_isBook (l : Launch) (hl0 : l.stackTraces = false) (D : va_G) (Y : Nat → ClassId) (N : Nat) (o : Nat) (a aa ad : Nat → Nat) (F : mb_m) (b : mb_bs) (sz : Nat) (x2 : Int32) (K : Int32 → mb_S → Prop) (hF : PL_isBook N F b x2 K) : Met l yL_isBook wsL_isBook ({ frames := 9, cells := 1216, slots := 7296, locals := 160 } : Room) (va_Pc [.ref o, .ref (ad 1), .int x2] (mb_BL D Y (wW Y o a aa ad b F) sz)) (va_Qi K (fun u t => mb_T D (va_A (wW Y o a aa ad b F) sz) (wW Y o a aa ad u.1 u.2) t) (va_A (wW Y o a aa ad b F) sz)) 1216 7296 (va_A (wW Y o a aa ad b F) sz) := by
  refine mbm_begin (cc := cL_isBook) (maxL := 13) (ret := (some .boolean)) hl0 (by decide +kernel) rfl (Nat.le_of_ble_eq_true rfl) ?_
  intro p e s m below meth c ls CM hsz hP hD hl
  generalize hAe : va_A (wW Y o a aa ad b F) sz = A at CM hD ⊢
  have CM : mb_CM l p s m meth c ([.ref o, .ref (ad 1), .int x2] : List Value).toArray cL_isBook 13 (some .boolean) wsL_isBook RL D Y A := CM
  obtain ⟨C, hX, hl0, hN⟩ := id CM
  obtain ⟨hx, hb, hr, hml, hts, hown, hlocks, hA, hG⟩ := id C
  have hK := hG.1
  have hS : va_S A s.heap s.heap [] := va_S.rf
  have hl : lv_has ls 13 [(0, .ref o), (1, .ref (ad 1)), (2, .int x2)] := hl
  unfold PL_isBook at hF
  refine lv_aload_n hx hb dL_isBook_0 rfl (lv_at hl 1 rfl) ?_
  refine lv_bipush (v := 6) hx hb dL_isBook_1 (by decide) ?_
  refine lv_iload_n hx hb dL_isBook_3 rfl (lv_at hl 2 rfl) ?_
  refine lv_imul hx hb dL_isBook_4 ?_
  obtain ⟨hi5, hF⟩ := hF
  refine va_iald hx hb hK hP 1 0 rfl rfl hi5 dL_isBook_5 ?_
  refine lv_topi (fun v6 ev6 => ?_)
  have hF := hF v6 ev6
  refine lv_istore_n (lv' := [(3, .int v6), (0, .ref o), (1, .ref (ad 1)), (2, .int x2)]) hx hb dL_isBook_6 rfl hl (by decide) rfl (fun ls hl => ?_)
  refine lv_iload_n hx hb dL_isBook_7 rfl (lv_at hl 0 rfl) ?_
  refine lv_aload_n hx hb dL_isBook_8 rfl (lv_at hl 2 rfl) ?_
  refine lv_bipush (v := 6) hx hb dL_isBook_9 (by decide) ?_
  refine lv_iload_n hx hb dL_isBook_11 rfl (lv_at hl 3 rfl) ?_
  refine lv_imul hx hb dL_isBook_12 ?_
  refine lv_iconst (v := 1) hx hb dL_isBook_13 (by decide) ?_
  refine lv_iadd hx hb dL_isBook_14 ?_
  obtain ⟨hi15, hF⟩ := hF
  refine va_iald hx hb hK hP 1 0 rfl rfl hi15 dL_isBook_15 ?_
  refine lv_imul hx hb dL_isBook_16 ?_
  refine lv_topi (fun v17 ev17 => ?_)
  have hF := hF v17 ev17
  refine lv_istore (lv' := [(4, .int v17), (3, .int v6), (0, .ref o), (1, .ref (ad 1)), (2, .int x2)]) hx hb dL_isBook_17 hl (by decide) rfl (fun ls hl => ?_)
  refine lv_aload_n hx hb dL_isBook_19 rfl (lv_at hl 2 rfl) ?_
  refine lv_iload_n hx hb dL_isBook_20 rfl (lv_at hl 4 rfl) ?_
  refine mb_cW (S := mb_S) hD hS hA (vx_runSW (As := [.ref o, .int x2]) (rest := []) ⟨hx, hb, hml, hown, hts⟩ (cw_swelling l hl0 D Y N o a aa ad b F _ x2 _ hF) (vx_cwSW 2 hts gL_isBook_L_swelling rfl rfl rfl (by decide +kernel) ⟨Nat.le_of_ble_eq_true rfl, Nat.le_of_ble_eq_true rfl⟩) (mbm_pre CM hP hD hS) rfl rfl hl.1 rfl (lv_room (Nat.le_of_ble_eq_true rfl)) dL_isBook_21 ⟨by show _ ≤ 1216; omega, by show _ ≤ 7296; omega⟩) (fun r21 u21 H locs hF hP hD hS => ?_)
  have hP : va_P D vwCl (wW Y o a aa ad u21.1 u21.2) H := hP
  have hD : va_D A (wW Y o a aa ad u21.1 u21.2) := hD
  refine lv_istore (lv' := [(5, .int r21), (4, .int v17), (3, .int v6), (0, .ref o), (1, .ref (ad 1)), (2, .int x2)]) hx hb dL_isBook_24 hl (by decide) rfl (fun ls hl => ?_)
  refine lv_iconst (v := 1) hx hb dL_isBook_26 (by decide) ?_
  refine lv_istore (lv' := [(6, .int (1 : Int32)), (5, .int r21), (4, .int v17), (3, .int v6), (0, .ref o), (1, .ref (ad 1)), (2, .int x2)]) hx hb dL_isBook_27 hl (by decide) rfl (fun ls hl => ?_)
  refine lv_iconst (v := 0) hx hb dL_isBook_29 (by decide) ?_
  refine lv_istore (lv' := [(7, .int (0 : Int32)), (6, .int (1 : Int32)), (5, .int r21), (4, .int v17), (3, .int v6), (0, .ref o), (1, .ref (ad 1)), (2, .int x2)]) hx hb dL_isBook_30 hl (by decide) rfl (fun ls hl => ?_)
  refine lv_aload_n hx hb dL_isBook_32 rfl (lv_at hl 5 rfl) ?_
  refine lv_iload_n hx hb dL_isBook_33 rfl (lv_at hl 7 rfl) ?_
  refine lv_bipush (v := 6) hx hb dL_isBook_34 (by decide) ?_
  refine mb_cW (S := mb_S) hD hS hA (vx_runSW (As := [.ref o, .int x2, .int (6 : Int32)]) (rest := []) ⟨hx, hb, hml, hown, hts⟩ (cw_ofThread l hl0 D Y N o a aa ad u21.1 u21.2 _ x2 (6 : Int32) _ hF) (vx_cwSW 3 hts gL_isBook_L_ofThread rfl rfl rfl (by decide +kernel) ⟨Nat.le_of_ble_eq_true rfl, Nat.le_of_ble_eq_true rfl⟩) (mbm_pre CM hP hD hS) rfl rfl hl.1 rfl (lv_room (Nat.le_of_ble_eq_true rfl)) dL_isBook_36 ⟨by show _ ≤ 1216; omega, by show _ ≤ 7296; omega⟩) (fun r36 u36 H locs hF hP hD hS => ?_)
  have hP : va_P D vwCl (wW Y o a aa ad u36.1 u36.2) H := hP
  have hD : va_D A (wW Y o a aa ad u36.1 u36.2) := hD
  refine lv_ldc (v := -1000002) hx hb hown (hts (.constant RL 21 (-1000002)) (List.mem_of_getElem? (i := 1) rfl)) dL_isBook_39 ?_
  refine lv_icmp_ne (tgt := 66) hx hb dL_isBook_41 (by decide) (fun c_41 => ?_) (fun c_41 => ?_)
  · have hF := hF.1 c_41
    exact wL_isBook_66 CM u36.2 u36.1 x2 v6 v17 r21 (1 : Int32) (0 : Int32) _ _ _ _ _ hF hP hD hS (lv_sub hl [5, 6, 7, 4, 3, 2, 1, 0] rfl) (by omega) (by omega)
  · have hF := hF.2 c_41
    refine lv_aload_n hx hb dL_isBook_44 rfl (lv_at hl 5 rfl) ?_
    refine lv_iload_n hx hb dL_isBook_45 rfl (lv_at hl 7 rfl) ?_
    refine lv_iload_n hx hb dL_isBook_46 rfl (lv_at hl 4 rfl) ?_
    refine mb_cW (S := mb_S) hD hS hA (vx_runSW (As := [.ref o, .int x2, .int v6]) (rest := []) ⟨hx, hb, hml, hown, hts⟩ (cw_isHeld l hl0 D Y N o a aa ad u36.1 u36.2 _ x2 v6 _ hF) (vx_cwSW 3 hts gL_isBook_L_isHeld rfl rfl rfl (by decide +kernel) ⟨Nat.le_of_ble_eq_true rfl, Nat.le_of_ble_eq_true rfl⟩) (mbm_pre CM hP hD hS) rfl rfl hl.1 rfl (lv_room (Nat.le_of_ble_eq_true rfl)) dL_isBook_47 ⟨by show _ ≤ 1216; omega, by show _ ≤ 7296; omega⟩) (fun r47 u47 H locs hF hP hD hS => ?_)
    have hP : va_P D vwCl (wW Y o a aa ad u47.1 u47.2) H := hP
    have hD : va_D A (wW Y o a aa ad u47.1 u47.2) := hD
    refine lv_ldc (v := -1000001) hx hb hown (hts (.constant RL 18 (-1000001)) (List.mem_of_getElem? (i := 2) rfl)) dL_isBook_50 ?_
    refine lv_icmp_ne (tgt := 66) hx hb dL_isBook_52 (by decide) (fun c_52 => ?_) (fun c_52 => ?_)
    · have hF := hF.1 c_52
      exact wL_isBook_66 CM u47.2 u47.1 x2 v6 v17 r21 (1 : Int32) (0 : Int32) _ _ _ _ _ hF hP hD hS (lv_sub hl [5, 6, 7, 4, 3, 2, 1, 0] rfl) (by omega) (by omega)
    · have hF := hF.2 c_52
      refine lv_iload hx hb dL_isBook_55 (lv_at hl 2 rfl) ?_
      refine lv_iconst (v := 3) hx hb dL_isBook_57 (by decide) ?_
      refine lv_irem hx hb dL_isBook_58 (by decide) ?_
      refine lv_if_ne (tgt := 66) hx hb dL_isBook_59 (by decide) (fun c_59 => ?_) (fun c_59 => ?_)
      · have hF := hF.1 c_59
        exact wL_isBook_66 CM u47.2 u47.1 x2 v6 v17 r21 (1 : Int32) (0 : Int32) _ _ _ _ _ hF hP hD hS (lv_sub hl [5, 6, 7, 4, 3, 2, 1, 0] rfl) (by omega) (by omega)
      · have hF := hF.2 c_59
        refine lv_iconst (v := 1) hx hb dL_isBook_62 (by decide) ?_
        refine lv_goto (tgt := 67) hx hb dL_isBook_63 (by decide) ?_
        exact wL_isBook_67 CM u47.2 u47.1 x2 v6 v17 r21 (1 : Int32) (0 : Int32) (1 : Int32) _ _ _ _ _ hF hP hD hS (lv_sub hl [5, 6, 7, 4, 3, 2, 1, 0] rfl) (by omega) (by omega)
end
