/-! THE CLAIM OUT OF ONE WALK OF THE LAW'S BODY. Your part is whole_start (and what it stands on); all else here is the same for every law, but numbers. -/
def R_law : String := "MarbleBenchLaw"
def lw_P (b : Addr) (xs : List Int32) (args : Array Value) (s : State) : Prop := args = #[.ref b] ∧ s.IntsAt b xs ∧ xs.length ≤ 260 ∧ (Jvm.Cond.and given_1 narrow_1).before args s = true
def lw_Q (_ : Array Value) (s : State) (o : Outcome) (t : State) : Prop := o = .returned (some (.int 1)) ∧ Framed s o t [] 623484 7231317
def lw_Z (below : List Frame) (a : Array Value) (s : State) : State → Prop := fun t => ∃ o, t.status = .running ∧ Ended t below o ∧ lw_Q a s o t
/-- the law's own end, with 1 on the stack, nothing written that was there before, its room as the claim has it -/
theorem lw_ret {p : Program} {l : Launch} {e : Env} {s : State} {m : MethodId} {below : List Frame} {meth : Method} {c : Code} {b : Nat} (hx : p.tables.exec = Jvm.exec) (hb : c.code = code) (hr : meth.sig.returnType = ret) (hlocks : meth.locks = false) {pc : Nat} {H : Heap} {ls : Array Slot} (hdg : decode code pc = .ok (.ireturn, 1)) : W p l e room_1 s m #[Value.ref b] below meth c H [] 623484 7231317 (lw_Z below #[Value.ref b] s) (F0 m pc ls [.int 1]) := by
  intro T hT X
  obtain ⟨fs, hret, hrun, hended, hW, hframe⟩ := X.leave (v := some (.int 1)) (hlocks := hlocks) (fun h => by rw [hr] at h; cases h)
  have hmeth' : T.vm.method? m = some meth := X.method'
  refine ⟨T.setFrames fs, ?_, .returned (some (.int 1)), hrun, hended, rfl, ⟨_, rfl⟩, hW, hframe⟩
  jvm_step X.here [X.here.top, hx, hb, hdg, hmeth', hr, ret, narrow_b1]
  (try refine ⟨rfl, ?_⟩); (try refine ⟨rfl, ?_⟩)
  first | (intro acts; rw [hret _ acts rfl rfl rfl]) | rw [hret _ _ rfl rfl rfl]
  exact Steps.refl _
/-- what holds at the law's entry: the machine, the code, the tables' words (any of lw_tbl by 'hts w (by decide +kernel)'), the script of L ints xs at the cell b, what the Statement gives of the start (any of its parts by flat_of_before) -/
def lw_At (p : Program) (s : State) (m : MethodId) (meth : Method) (c : Code) (b L : Nat) (xs : Nat → Int32) : Prop :=
  p.tables.exec = Jvm.exec ∧ c.code = code ∧ meth.sig.returnType = ret ∧ c.maxLocals = 9 ∧ s.vm.findClass R_law = some m.cls ∧ (∀ w ∈ lw_tbl, w.before #[Value.ref b] s = true) ∧ va_X b L xs s s.heap ∧ b < s.heap.size ∧ meth.locks = false ∧ (Jvm.Cond.and given_1 narrow_1).before #[Value.ref b] s = true
section
noncomputable def PL_law_181 (N : Nat) (K : Int32 → mb_S → Prop) (F : mb_m) (b : mb_bs) (x7 : Int32) : Prop := (x7 = 0 → K (0 : Int32) (b, F)) ∧ (¬ x7 = 0 → PL_coloured N F b (fun r187 u187 => ((65 : Int32) ≤ r187 → K (0 : Int32) (u187.1, u187.2)) ∧ (¬ (65 : Int32) ≤ r187 → K (1 : Int32) (u187.1, u187.2))))
set_option maxHeartbeats 4000000 in
set_option maxRecDepth 100000 in
theorem wL_law_181 {p : Program} {l : Launch} {e : Env} {s : State} {m : MethodId} {below : List Frame} {meth : Method} {c : Code} {bs L : Nat} {xs : Nat → Int32} {D : va_G} {Y : Nat → ClassId} {A : Nat → Prop} {o : Nat} {a aa ad : Nat → Nat} {N : Nat} (CM : mb_CM l p s m meth c #[Value.ref bs] cL_law 9 (some .boolean) wsL_law RL D Y A) (hX2 : va_X bs L xs s s.heap) (hbl : bs < s.heap.size) (hbA : ¬ A bs) (hL : L ≤ 260) (hc0 : A = fun q : Nat => s.heap.size ≤ q) : ∀ (F : mb_m) (b : mb_bs) (x7 : Int32) (H : Heap) (locs : List Loc) (ls : Array Slot) (cells slots : Nat), PL_law_181 N (fun r _ => r = 1)  F b x7 → va_P D vwCl (wW Y o a aa ad b F) H → va_D A (wW Y o a aa ad b F) → va_S A s.heap H locs → lv_has ls 9 [(1, .ref o), (7, .int x7)] → cells + (260 + 0) ≤ 623484 → slots + (1560 + 0) ≤ 7231317 → W p l e room_1 s m #[Value.ref bs] below meth c H locs cells slots (lw_Z below #[Value.ref bs] s) (F0 m 181 ls []) := by
  obtain ⟨C, hX, hl0, hN⟩ := id CM
  obtain ⟨hx, hb, hr, hml, hts, hown, hlocks, hA, hG⟩ := id C
  have hK := hG.1
  intro F b x7 H locs ls cells slots hF hP hD hS hl hc hs
  unfold PL_law_181 at hF
  refine lv_iload hx hb dL_law_181 (lv_at hl 1 rfl) ?_
  refine lv_if_eq (tgt := 199) hx hb dL_law_183 (by decide) (fun c_183 => ?_) (fun c_183 => ?_)
  · have hF := hF.1 c_183
    refine lv_iconst (v := 0) hx hb dL_law_199 (by decide) ?_
    exact absurd (show (0 : Int32) = 1 from hF) (by decide)
  · have hF := hF.2 c_183
    refine lv_aload_n hx hb dL_law_186 rfl (lv_at hl 0 rfl) ?_
    refine mb_cW (S := mb_S) hD hS hA (va_runS (As := [.ref o]) (rest := []) ⟨hx, hb, hml, hown, hts⟩ (cnL_coloured l hl0 D Y N o a aa ad F b _ _ hF) (va_cwS 1 hts gL_law_L_coloured rfl rfl rfl (by decide +kernel) ⟨Nat.le_of_ble_eq_true rfl, Nat.le_of_ble_eq_true rfl⟩) (mbm_pre CM hP hD hS) rfl rfl hl.1 rfl (lv_room (Nat.le_of_ble_eq_true rfl)) dL_law_187 ⟨by show _ ≤ 623484; omega, by show _ ≤ 7231317; omega⟩) (fun r187 u187 H locs hF hP hD hS => ?_)
    have hP : va_P D vwCl (wW Y o a aa ad u187.1 u187.2) H := hP
    have hD : va_D A (wW Y o a aa ad u187.1 u187.2) := hD
    refine lv_bipush (v := 65) hx hb dL_law_190 (by decide) ?_
    refine lv_icmp_ge (tgt := 199) hx hb dL_law_192 (by decide) (fun c_192 => ?_) (fun c_192 => ?_)
    · have hF := hF.1 c_192
      refine lv_iconst (v := 0) hx hb dL_law_199 (by decide) ?_
      exact absurd (show (0 : Int32) = 1 from hF) (by decide)
    · have hF := hF.2 c_192
      refine lv_iconst (v := 1) hx hb dL_law_195 (by decide) ?_
      refine lv_goto (tgt := 200) hx hb dL_law_196 (by decide) ?_
      refine va_forget (fun q hq => by have h := hS.2.2 q hq; rw [hc0] at h; exact h) ?_
      refine W.widen (k := 623484) (n := 7231317) (by omega) (by omega) ?_
      exact lw_ret hx hb hr hlocks dL_law_200
noncomputable def PL_law_153_b (N : Nat) (K : Int32 → mb_S → Prop) (b153 : mb_m → mb_bs → Int32 → Int32 → Prop) (F : mb_m) (b : mb_bs) (x7 x8 : Int32) : Prop := vp_in (1 : Int32) 3 ∧ (((F 0 (1 : Int32).toNatClampNeg) ≤ x8 → PL_law_181 N K F b x7) ∧ (¬ (F 0 (1 : Int32).toNatClampNeg) ≤ x8 → (x7 = 0 → PL_law_181 N K F b x7) ∧ (¬ x7 = 0 → PL_isBook N F b x8 (fun r170 u170 => ∀ v175 : Int32, v175 = x8 + (1 : Int32) → (b153 u170.2 u170.1 r170 v175)))))
noncomputable def PL_law_153 (N : Nat) (K : Int32 → mb_S → Prop) (n : Nat) : mb_m → mb_bs → Int32 → Int32 → Prop := Nat.rec (motive := fun _ => mb_m → mb_bs → Int32 → Int32 → Prop) (fun _ _ _ _ => False) (fun _ b153 => PL_law_153_b N K  b153) n
set_option maxHeartbeats 4000000 in
set_option maxRecDepth 100000 in
theorem wL_law_153 {p : Program} {l : Launch} {e : Env} {s : State} {m : MethodId} {below : List Frame} {meth : Method} {c : Code} {bs L : Nat} {xs : Nat → Int32} {D : va_G} {Y : Nat → ClassId} {A : Nat → Prop} {o : Nat} {a aa ad : Nat → Nat} {N : Nat} (CM : mb_CM l p s m meth c #[Value.ref bs] cL_law 9 (some .boolean) wsL_law RL D Y A) (hX2 : va_X bs L xs s s.heap) (hbl : bs < s.heap.size) (hbA : ¬ A bs) (hL : L ≤ 260) (hc0 : A = fun q : Nat => s.heap.size ≤ q) : ∀ (n : Nat), (∀ (F : mb_m) (b : mb_bs) (x7 x8 : Int32) (H : Heap) (locs : List Loc) (ls : Array Slot) (cells slots : Nat), PL_law_153 N (fun r _ => r = 1)  n F b x7 x8 → va_P D vwCl (wW Y o a aa ad b F) H → va_D A (wW Y o a aa ad b F) → va_S A s.heap H locs → lv_has ls 9 [(1, .ref o), (2, .ref (ad 0)), (3, .ref (ad 1)), (7, .int x7), (8, .int x8)] → cells + (n * 1216 + 260 + 0) ≤ 623484 → slots + (n * 7296 + 1560 + 0) ≤ 7231317 → W p l e room_1 s m #[Value.ref bs] below meth c H locs cells slots (lw_Z below #[Value.ref bs] s) (F0 m 153 ls [])) := by
  obtain ⟨C, hX, hl0, hN⟩ := id CM
  obtain ⟨hx, hb, hr, hml, hts, hown, hlocks, hA, hG⟩ := id C
  have hK := hG.1
  intro n
  induction n with
  | zero => intro F b x7 x8 H locs ls cells slots hF; exact (show False from hF).elim
  | succ n ih =>
    intro F b x7 x8 H locs ls cells slots hF hP hD hS hl hc hs
    have hF : PL_law_153_b N (fun r _ => r = 1)  (PL_law_153 N (fun r _ => r = 1)  n) F b x7 x8 := hF
    unfold PL_law_153_b at hF
    refine lv_iload hx hb dL_law_153 (lv_at hl 4 rfl) ?_
    refine lv_aload_n hx hb dL_law_155 rfl (lv_at hl 1 rfl) ?_
    refine lv_iconst (v := 1) hx hb dL_law_156 (by decide) ?_
    obtain ⟨hi157, hF⟩ := hF
    refine va_iald hx hb hK hP 0 0 rfl rfl hi157 dL_law_157 ?_
    refine lv_icmp_ge (tgt := 181) hx hb dL_law_158 (by decide) (fun c_158 => ?_) (fun c_158 => ?_)
    · have hF := hF.1 c_158
      exact wL_law_181 CM hX2 hbl hbA hL hc0 F b x7 _ _ _ _ _ hF hP hD hS (lv_sub hl [0, 3] rfl) (by omega) (by omega)
    · have hF := hF.2 c_158
      refine lv_iload hx hb dL_law_161 (lv_at hl 3 rfl) ?_
      refine lv_if_eq (tgt := 181) hx hb dL_law_163 (by decide) (fun c_163 => ?_) (fun c_163 => ?_)
      · have hF := hF.1 c_163
        exact wL_law_181 CM hX2 hbl hbA hL hc0 F b x7 _ _ _ _ _ hF hP hD hS (lv_sub hl [0, 3] rfl) (by omega) (by omega)
      · have hF := hF.2 c_163
        refine lv_aload_n hx hb dL_law_166 rfl (lv_at hl 0 rfl) ?_
        refine lv_aload_n hx hb dL_law_167 rfl (lv_at hl 2 rfl) ?_
        refine lv_iload hx hb dL_law_168 (lv_at hl 4 rfl) ?_
        refine mb_cW (S := mb_S) hD hS hA (va_runS (As := [.ref o, .ref (ad 1), .int x8]) (rest := []) ⟨hx, hb, hml, hown, hts⟩ (cnL_isBook l hl0 D Y N o a aa ad F b _ x8 _ hF) (va_cwS 3 hts gL_law_L_isBook rfl rfl rfl (by decide +kernel) ⟨Nat.le_of_ble_eq_true rfl, Nat.le_of_ble_eq_true rfl⟩) (mbm_pre CM hP hD hS) rfl rfl hl.1 rfl (lv_room (Nat.le_of_ble_eq_true rfl)) dL_law_170 ⟨by show _ ≤ 623484; omega, by show _ ≤ 7231317; omega⟩) (fun r170 u170 H locs hF hP hD hS => ?_)
        have hP : va_P D vwCl (wW Y o a aa ad u170.1 u170.2) H := hP
        have hD : va_D A (wW Y o a aa ad u170.1 u170.2) := hD
        refine lv_istore (lv' := [(7, .int r170), (1, .ref o), (2, .ref (ad 0)), (3, .ref (ad 1)), (8, .int x8)]) hx hb dL_law_173 hl (by decide) rfl (fun ls hl => ?_)
        obtain ⟨v175, ev175⟩ : ∃ y : Int32, y = x8 + (1 : Int32) := ⟨_, rfl⟩
        have hF := hF v175 ev175
        refine lv_iinc (v := v175) (lv' := [(8, .int v175), (7, .int r170), (1, .ref o), (2, .ref (ad 0)), (3, .ref (ad 1))]) hx hb dL_law_175 hl (k := 4) rfl (by rw [ev175]; rfl) (by decide) rfl (fun ls hl => ?_)
        refine lv_goto (tgt := 153) hx hb dL_law_178 (by decide) ?_
        exact ih u170.2 u170.1 r170 v175 _ _ _ _ _ hF hP hD hS (lv_sub hl [2, 3, 4, 1, 0] rfl) (by omega) (by omega)
noncomputable def PL_law_150 (N : Nat) (K : Int32 → mb_S → Prop) (F : mb_m) (b : mb_bs) (x7 : Int32) : Prop := PL_law_153 N K 5 F b x7 (0 : Int32)
set_option maxHeartbeats 4000000 in
set_option maxRecDepth 100000 in
theorem wL_law_150 {p : Program} {l : Launch} {e : Env} {s : State} {m : MethodId} {below : List Frame} {meth : Method} {c : Code} {bs L : Nat} {xs : Nat → Int32} {D : va_G} {Y : Nat → ClassId} {A : Nat → Prop} {o : Nat} {a aa ad : Nat → Nat} {N : Nat} (CM : mb_CM l p s m meth c #[Value.ref bs] cL_law 9 (some .boolean) wsL_law RL D Y A) (hX2 : va_X bs L xs s s.heap) (hbl : bs < s.heap.size) (hbA : ¬ A bs) (hL : L ≤ 260) (hc0 : A = fun q : Nat => s.heap.size ≤ q) : ∀ (F : mb_m) (b : mb_bs) (x7 : Int32) (H : Heap) (locs : List Loc) (ls : Array Slot) (cells slots : Nat), PL_law_150 N (fun r _ => r = 1)  F b x7 → va_P D vwCl (wW Y o a aa ad b F) H → va_D A (wW Y o a aa ad b F) → va_S A s.heap H locs → lv_has ls 9 [(1, .ref o), (2, .ref (ad 0)), (3, .ref (ad 1)), (7, .int x7)] → cells + (6340 + 0) ≤ 623484 → slots + (38040 + 0) ≤ 7231317 → W p l e room_1 s m #[Value.ref bs] below meth c H locs cells slots (lw_Z below #[Value.ref bs] s) (F0 m 150 ls []) := by
  obtain ⟨C, hX, hl0, hN⟩ := id CM
  obtain ⟨hx, hb, hr, hml, hts, hown, hlocks, hA, hG⟩ := id C
  have hK := hG.1
  intro F b x7 H locs ls cells slots hF hP hD hS hl hc hs
  unfold PL_law_150 at hF
  refine lv_iconst (v := 0) hx hb dL_law_150 (by decide) ?_
  refine lv_istore (lv' := [(8, .int (0 : Int32)), (1, .ref o), (2, .ref (ad 0)), (3, .ref (ad 1)), (7, .int x7)]) hx hb dL_law_151 hl (by decide) rfl (fun ls hl => ?_)
  exact wL_law_153 CM hX2 hbl hbA hL hc0 5 F b x7 (0 : Int32) _ _ _ _ _ hF hP hD hS (lv_sub hl [1, 2, 3, 4, 0] rfl) (by omega) (by omega)
noncomputable def PL_law_100_b (N : Nat) (K : Int32 → mb_S → Prop) (b100 : mb_m → mb_bs → Int32 → Int32 → Prop) (F : mb_m) (b : mb_bs) (x7 x8 : Int32) : Prop := ((62 : Int32) ≤ x8 → PL_law_150 N K F b x7) ∧ (¬ (62 : Int32) ≤ x8 → (x7 = 0 → PL_law_150 N K F b x7) ∧ (¬ x7 = 0 → ¬ ((2 : Int32) * x8) < 0 ∧ (∀ r126 : Int32, ¬ (((2 : Int32) * x8) + (1 : Int32)) < 0 ∧ (∀ r136 : Int32, PL_acts N F b r126 r136 (fun r139 u139 => ∀ v144 : Int32, v144 = x8 + (1 : Int32) → (b100 u139.2 u139.1 r139 v144))))))
noncomputable def PL_law_100 (N : Nat) (K : Int32 → mb_S → Prop) (n : Nat) : mb_m → mb_bs → Int32 → Int32 → Prop := Nat.rec (motive := fun _ => mb_m → mb_bs → Int32 → Int32 → Prop) (fun _ _ _ _ => False) (fun _ b100 => PL_law_100_b N K  b100) n
set_option maxHeartbeats 4000000 in
set_option maxRecDepth 100000 in
theorem wL_law_100 {p : Program} {l : Launch} {e : Env} {s : State} {m : MethodId} {below : List Frame} {meth : Method} {c : Code} {bs L : Nat} {xs : Nat → Int32} {D : va_G} {Y : Nat → ClassId} {A : Nat → Prop} {o : Nat} {a aa ad : Nat → Nat} {N : Nat} (CM : mb_CM l p s m meth c #[Value.ref bs] cL_law 9 (some .boolean) wsL_law RL D Y A) (hX2 : va_X bs L xs s s.heap) (hbl : bs < s.heap.size) (hbA : ¬ A bs) (hL : L ≤ 260) (hc0 : A = fun q : Nat => s.heap.size ≤ q) : ∀ (n : Nat), (∀ (F : mb_m) (b : mb_bs) (x7 x8 : Int32) (H : Heap) (locs : List Loc) (ls : Array Slot) (cells slots : Nat), PL_law_100 N (fun r _ => r = 1)  n F b x7 x8 → va_P D vwCl (wW Y o a aa ad b F) H → va_D A (wW Y o a aa ad b F) → va_S A s.heap H locs → lv_has ls 9 [(0, .ref bs), (1, .ref o), (2, .ref (ad 0)), (3, .ref (ad 1)), (4, .ref (ad 2)), (5, .ref (ad 3)), (6, .ref (ad 4)), (7, .int x7), (8, .int x8)] → cells + (n * 1231 + 6340 + 0) ≤ 623484 → slots + (n * 7671 + 38040 + 0) ≤ 7231317 → W p l e room_1 s m #[Value.ref bs] below meth c H locs cells slots (lw_Z below #[Value.ref bs] s) (F0 m 100 ls [])) := by
  obtain ⟨C, hX, hl0, hN⟩ := id CM
  obtain ⟨hx, hb, hr, hml, hts, hown, hlocks, hA, hG⟩ := id C
  have hK := hG.1
  intro n
  induction n with
  | zero => intro F b x7 x8 H locs ls cells slots hF; exact (show False from hF).elim
  | succ n ih =>
    intro F b x7 x8 H locs ls cells slots hF hP hD hS hl hc hs
    have hF : PL_law_100_b N (fun r _ => r = 1)  (PL_law_100 N (fun r _ => r = 1)  n) F b x7 x8 := hF
    unfold PL_law_100_b at hF
    refine lv_iload hx hb dL_law_100 (lv_at hl 8 rfl) ?_
    refine lv_bipush (v := 62) hx hb dL_law_102 (by decide) ?_
    refine lv_icmp_ge (tgt := 150) hx hb dL_law_104 (by decide) (fun c_104 => ?_) (fun c_104 => ?_)
    · have hF := hF.1 c_104
      exact wL_law_150 CM hX2 hbl hbA hL hc0 F b x7 _ _ _ _ _ hF hP hD hS (lv_sub hl [1, 2, 3, 7] rfl) (by omega) (by omega)
    · have hF := hF.2 c_104
      refine lv_iload hx hb dL_law_107 (lv_at hl 7 rfl) ?_
      refine lv_if_eq (tgt := 150) hx hb dL_law_109 (by decide) (fun c_109 => ?_) (fun c_109 => ?_)
      · have hF := hF.1 c_109
        exact wL_law_150 CM hX2 hbl hbA hL hc0 F b x7 _ _ _ _ _ hF hP hD hS (lv_sub hl [1, 2, 3, 7] rfl) (by omega) (by omega)
      · have hF := hF.2 c_109
        refine lv_aload_n hx hb dL_law_112 rfl (lv_at hl 1 rfl) ?_
        refine lv_aload_n hx hb dL_law_113 rfl (lv_at hl 2 rfl) ?_
        refine lv_aload_n hx hb dL_law_114 rfl (lv_at hl 3 rfl) ?_
        refine lv_aload hx hb dL_law_115 (lv_at hl 4 rfl) ?_
        refine lv_aload hx hb dL_law_117 (lv_at hl 5 rfl) ?_
        refine lv_aload hx hb dL_law_119 (lv_at hl 6 rfl) ?_
        refine lv_aload_n hx hb dL_law_121 rfl (lv_at hl 0 rfl) ?_
        refine lv_iconst (v := 2) hx hb dL_law_122 (by decide) ?_
        refine lv_iload hx hb dL_law_123 (lv_at hl 8 rfl) ?_
        refine lv_imul hx hb dL_law_125 ?_
        obtain ⟨hk126, hF⟩ := hF
        refine mb_cE hP hS hA (va_runS (As := [.ref bs, .int ((2 : Int32) * x8)]) (rest := [.ref (ad 4), .ref (ad 3), .ref (ad 2), .ref (ad 1), .ref (ad 0), .ref o]) ⟨hx, hb, hml, hown, hts⟩ (cnL_at l D Y bs L xs _ ((2 : Int32) * x8) _ hL hk126 hF) (va_cwS 2 hts gL_law_L_at rfl rfl rfl (by decide +kernel) ⟨Nat.le_of_ble_eq_true rfl, Nat.le_of_ble_eq_true rfl⟩) (mbm_preA CM hX2 hbl hbA hS) rfl rfl hl.1 rfl (lv_room (Nat.le_of_ble_eq_true rfl)) dL_law_126 ⟨by show _ ≤ 623484; omega, by show _ ≤ 7231317; omega⟩) (fun r126 H locs hF hP hS => ?_)
        refine lv_aload_n hx hb dL_law_129 rfl (lv_at hl 0 rfl) ?_
        refine lv_iconst (v := 2) hx hb dL_law_130 (by decide) ?_
        refine lv_iload hx hb dL_law_131 (lv_at hl 8 rfl) ?_
        refine lv_imul hx hb dL_law_133 ?_
        refine lv_iconst (v := 1) hx hb dL_law_134 (by decide) ?_
        refine lv_iadd hx hb dL_law_135 ?_
        obtain ⟨hk136, hF⟩ := hF
        refine mb_cE hP hS hA (va_runS (As := [.ref bs, .int (((2 : Int32) * x8) + (1 : Int32))]) (rest := [.int r126, .ref (ad 4), .ref (ad 3), .ref (ad 2), .ref (ad 1), .ref (ad 0), .ref o]) ⟨hx, hb, hml, hown, hts⟩ (cnL_at l D Y bs L xs _ (((2 : Int32) * x8) + (1 : Int32)) _ hL hk136 hF) (va_cwS 2 hts gL_law_L_at rfl rfl rfl (by decide +kernel) ⟨Nat.le_of_ble_eq_true rfl, Nat.le_of_ble_eq_true rfl⟩) (mbm_preA CM hX2 hbl hbA hS) rfl rfl hl.1 rfl (lv_room (Nat.le_of_ble_eq_true rfl)) dL_law_136 ⟨by show _ ≤ 623484; omega, by show _ ≤ 7231317; omega⟩) (fun r136 H locs hF hP hS => ?_)
        refine mb_cW (S := mb_S) hD hS hA (va_runS (As := [.ref o, .ref (ad 0), .ref (ad 1), .ref (ad 2), .ref (ad 3), .ref (ad 4), .int r126, .int r136]) (rest := []) ⟨hx, hb, hml, hown, hts⟩ (cnL_acts l hl0 D Y N o a aa ad F b _ r126 r136 _ hF) (va_cwS 8 hts gL_law_L_acts rfl rfl rfl (by decide +kernel) ⟨Nat.le_of_ble_eq_true rfl, Nat.le_of_ble_eq_true rfl⟩) (mbm_pre CM hP hD hS) rfl rfl hl.1 rfl (lv_room (Nat.le_of_ble_eq_true rfl)) dL_law_139 ⟨by show _ ≤ 623484; omega, by show _ ≤ 7231317; omega⟩) (fun r139 u139 H locs hF hP hD hS => ?_)
        have hP : va_P D vwCl (wW Y o a aa ad u139.1 u139.2) H := hP
        have hD : va_D A (wW Y o a aa ad u139.1 u139.2) := hD
        refine lv_istore (lv' := [(7, .int r139), (0, .ref bs), (1, .ref o), (2, .ref (ad 0)), (3, .ref (ad 1)), (4, .ref (ad 2)), (5, .ref (ad 3)), (6, .ref (ad 4)), (8, .int x8)]) hx hb dL_law_142 hl (by decide) rfl (fun ls hl => ?_)
        obtain ⟨v144, ev144⟩ : ∃ y : Int32, y = x8 + (1 : Int32) := ⟨_, rfl⟩
        have hF := hF v144 ev144
        refine lv_iinc (v := v144) (lv' := [(8, .int v144), (7, .int r139), (0, .ref bs), (1, .ref o), (2, .ref (ad 0)), (3, .ref (ad 1)), (4, .ref (ad 2)), (5, .ref (ad 3)), (6, .ref (ad 4))]) hx hb dL_law_144 hl (k := 8) rfl (by rw [ev144]; rfl) (by decide) rfl (fun ls hl => ?_)
        refine lv_goto (tgt := 100) hx hb dL_law_147 (by decide) ?_
        exact ih u139.2 u139.1 r139 v144 _ _ _ _ _ hF hP hD hS (lv_sub hl [2, 3, 4, 5, 6, 7, 8, 1, 0] rfl) (by omega) (by omega)
noncomputable def PL_law_95 (N : Nat) (K : Int32 → mb_S → Prop) (F : mb_m) (b : mb_bs) (y0 : Int32) : Prop := PL_law_100 N K 61 F b y0 (2 : Int32)
set_option maxHeartbeats 4000000 in
set_option maxRecDepth 100000 in
theorem wL_law_95 {p : Program} {l : Launch} {e : Env} {s : State} {m : MethodId} {below : List Frame} {meth : Method} {c : Code} {bs L : Nat} {xs : Nat → Int32} {D : va_G} {Y : Nat → ClassId} {A : Nat → Prop} {o : Nat} {a aa ad : Nat → Nat} {N : Nat} (CM : mb_CM l p s m meth c #[Value.ref bs] cL_law 9 (some .boolean) wsL_law RL D Y A) (hX2 : va_X bs L xs s s.heap) (hbl : bs < s.heap.size) (hbA : ¬ A bs) (hL : L ≤ 260) (hc0 : A = fun q : Nat => s.heap.size ≤ q) : ∀ (F : mb_m) (b : mb_bs) (y0 : Int32) (H : Heap) (locs : List Loc) (ls : Array Slot) (cells slots : Nat), PL_law_95 N (fun r _ => r = 1)  F b y0 → va_P D vwCl (wW Y o a aa ad b F) H → va_D A (wW Y o a aa ad b F) → va_S A s.heap H locs → lv_has ls 9 [(0, .ref bs), (1, .ref o), (2, .ref (ad 0)), (3, .ref (ad 1)), (4, .ref (ad 2)), (5, .ref (ad 3)), (6, .ref (ad 4))] → cells + (81431 + 0) ≤ 623484 → slots + (505971 + 0) ≤ 7231317 → W p l e room_1 s m #[Value.ref bs] below meth c H locs cells slots (lw_Z below #[Value.ref bs] s) (F0 m 95 ls [.int y0]) := by
  obtain ⟨C, hX, hl0, hN⟩ := id CM
  obtain ⟨hx, hb, hr, hml, hts, hown, hlocks, hA, hG⟩ := id C
  have hK := hG.1
  intro F b y0 H locs ls cells slots hF hP hD hS hl hc hs
  unfold PL_law_95 at hF
  refine lv_istore (lv' := [(7, .int y0), (0, .ref bs), (1, .ref o), (2, .ref (ad 0)), (3, .ref (ad 1)), (4, .ref (ad 2)), (5, .ref (ad 3)), (6, .ref (ad 4))]) hx hb dL_law_95 hl (by decide) rfl (fun ls hl => ?_)
  refine lv_iconst (v := 2) hx hb dL_law_97 (by decide) ?_
  refine lv_istore (lv' := [(8, .int (2 : Int32)), (7, .int y0), (0, .ref bs), (1, .ref o), (2, .ref (ad 0)), (3, .ref (ad 1)), (4, .ref (ad 2)), (5, .ref (ad 3)), (6, .ref (ad 4))]) hx hb dL_law_98 hl (by decide) rfl (fun ls hl => ?_)
  exact wL_law_100 CM hX2 hbl hbA hL hc0 61 F b y0 (2 : Int32) _ _ _ _ _ hF hP hD hS (lv_sub hl [2, 3, 4, 5, 6, 7, 8, 1, 0] rfl) (by omega) (by omega)
noncomputable def PL_law_94 (N : Nat) (K : Int32 → mb_S → Prop) (F : mb_m) (b : mb_bs) : Prop := PL_law_95 N K F b (0 : Int32)
set_option maxHeartbeats 4000000 in
set_option maxRecDepth 100000 in
theorem wL_law_94 {p : Program} {l : Launch} {e : Env} {s : State} {m : MethodId} {below : List Frame} {meth : Method} {c : Code} {bs L : Nat} {xs : Nat → Int32} {D : va_G} {Y : Nat → ClassId} {A : Nat → Prop} {o : Nat} {a aa ad : Nat → Nat} {N : Nat} (CM : mb_CM l p s m meth c #[Value.ref bs] cL_law 9 (some .boolean) wsL_law RL D Y A) (hX2 : va_X bs L xs s s.heap) (hbl : bs < s.heap.size) (hbA : ¬ A bs) (hL : L ≤ 260) (hc0 : A = fun q : Nat => s.heap.size ≤ q) : ∀ (F : mb_m) (b : mb_bs) (H : Heap) (locs : List Loc) (ls : Array Slot) (cells slots : Nat), PL_law_94 N (fun r _ => r = 1)  F b → va_P D vwCl (wW Y o a aa ad b F) H → va_D A (wW Y o a aa ad b F) → va_S A s.heap H locs → lv_has ls 9 [(0, .ref bs), (1, .ref o), (2, .ref (ad 0)), (3, .ref (ad 1)), (4, .ref (ad 2)), (5, .ref (ad 3)), (6, .ref (ad 4))] → cells + (81431 + 0) ≤ 623484 → slots + (505971 + 0) ≤ 7231317 → W p l e room_1 s m #[Value.ref bs] below meth c H locs cells slots (lw_Z below #[Value.ref bs] s) (F0 m 94 ls []) := by
  obtain ⟨C, hX, hl0, hN⟩ := id CM
  obtain ⟨hx, hb, hr, hml, hts, hown, hlocks, hA, hG⟩ := id C
  have hK := hG.1
  intro F b H locs ls cells slots hF hP hD hS hl hc hs
  unfold PL_law_94 at hF
  refine lv_iconst (v := 0) hx hb dL_law_94 (by decide) ?_
  exact wL_law_95 CM hX2 hbl hbA hL hc0 F b (0 : Int32) _ _ _ _ _ hF hP hD hS (lv_sub hl [0, 1, 2, 3, 4, 5, 6] rfl) (by omega) (by omega)
noncomputable def PL_law (N : Nat) (F : mb_m) (b : mb_bs) (K : Int32 → mb_S → Prop) : Prop := PL_coloured N F b (fun r33 u33 => (¬ r33 = 0 → PL_law_94 N K u33.2 u33.1) ∧ (r33 = 0 → ¬ (0 : Int32) < 0 ∧ (∀ r47 : Int32, PL_begins N u33.2 u33.1 (0 : Int32) r47 (fun r50 u50 => (r50 = 0 → PL_law_94 N K u50.2 u50.1) ∧ (¬ r50 = 0 → ¬ (1 : Int32) < 0 ∧ (∀ r64 : Int32, PL_begins N u50.2 u50.1 (1 : Int32) r64 (fun r67 u67 => (r67 = 0 → PL_law_94 N K u67.2 u67.1) ∧ (¬ r67 = 0 → ¬ (2 : Int32) < 0 ∧ (∀ r81 : Int32, PL_begins N u67.2 u67.1 (1 : Int32) r81 (fun r84 u84 => (r84 = 0 → PL_law_94 N K u84.2 u84.1) ∧ (¬ r84 = 0 → PL_law_95 N K u84.2 u84.1 (1 : Int32))))))))))))
set_option maxHeartbeats 4000000 in
set_option maxRecDepth 100000 in
theorem wL_law_in {p : Program} {l : Launch} {e : Env} {s : State} {m : MethodId} {below : List Frame} {meth : Method} {c : Code} {bs L : Nat} {xs : Nat → Int32} {D : va_G} {Y : Nat → ClassId} {A : Nat → Prop} {o : Nat} {a aa ad : Nat → Nat} {N : Nat} (CM : mb_CM l p s m meth c #[Value.ref bs] cL_law 9 (some .boolean) wsL_law RL D Y A) (hX2 : va_X bs L xs s s.heap) (hbl : bs < s.heap.size) (hbA : ¬ A bs) (hL : L ≤ 260) (hc0 : A = fun q : Nat => s.heap.size ≤ q) : ∀ (F : mb_m) (b : mb_bs) (H : Heap) (locs : List Loc) (ls : Array Slot) (cells slots : Nat), PL_law N F b (fun r _ => r = 1) → va_P D vwCl (wW Y o a aa ad b F) H → va_D A (wW Y o a aa ad b F) → va_S A s.heap H locs → lv_has ls 9 [(0, .ref bs), (1, .ref o), (2, .ref (ad 0)), (3, .ref (ad 1)), (4, .ref (ad 2)), (5, .ref (ad 3)), (6, .ref (ad 4))] → cells + 85384 ≤ 623484 → slots + 530544 ≤ 7231317 → W p l e room_1 s m #[Value.ref bs] below meth c H locs cells slots (lw_Z below #[Value.ref bs] s) (F0 m 32 ls []) := by
  obtain ⟨C, hX, hl0, hN⟩ := id CM
  obtain ⟨hx, hb, hr, hml, hts, hown, hlocks, hA, hG⟩ := id C
  have hK := hG.1
  intro F b H locs ls cells slots hF hP hD hS hl hc hs
  unfold PL_law at hF
  refine lv_aload_n hx hb dL_law_32 rfl (lv_at hl 1 rfl) ?_
  refine mb_cW (S := mb_S) hD hS hA (va_runS (As := [.ref o]) (rest := []) ⟨hx, hb, hml, hown, hts⟩ (cnL_coloured l hl0 D Y N o a aa ad F b _ _ hF) (va_cwS 1 hts gL_law_L_coloured rfl rfl rfl (by decide +kernel) ⟨Nat.le_of_ble_eq_true rfl, Nat.le_of_ble_eq_true rfl⟩) (mbm_pre CM hP hD hS) rfl rfl hl.1 rfl (lv_room (Nat.le_of_ble_eq_true rfl)) dL_law_33 ⟨by show _ ≤ 623484; omega, by show _ ≤ 7231317; omega⟩) (fun r33 u33 H locs hF hP hD hS => ?_)
  have hP : va_P D vwCl (wW Y o a aa ad u33.1 u33.2) H := hP
  have hD : va_D A (wW Y o a aa ad u33.1 u33.2) := hD
  refine lv_if_ne (tgt := 94) hx hb dL_law_36 (by decide) (fun c_36 => ?_) (fun c_36 => ?_)
  · have hF := hF.1 c_36
    exact wL_law_94 CM hX2 hbl hbA hL hc0 u33.2 u33.1 _ _ _ _ _ hF hP hD hS (lv_sub hl [0, 1, 2, 3, 4, 5, 6] rfl) (by omega) (by omega)
  · have hF := hF.2 c_36
    refine lv_aload_n hx hb dL_law_39 rfl (lv_at hl 1 rfl) ?_
    refine lv_aload_n hx hb dL_law_40 rfl (lv_at hl 2 rfl) ?_
    refine lv_aload_n hx hb dL_law_41 rfl (lv_at hl 3 rfl) ?_
    refine lv_aload hx hb dL_law_42 (lv_at hl 5 rfl) ?_
    refine lv_iconst (v := 0) hx hb dL_law_44 (by decide) ?_
    refine lv_aload_n hx hb dL_law_45 rfl (lv_at hl 0 rfl) ?_
    refine lv_iconst (v := 0) hx hb dL_law_46 (by decide) ?_
    obtain ⟨hk47, hF⟩ := hF
    refine mb_cE hP hS hA (va_runS (As := [.ref bs, .int (0 : Int32)]) (rest := [.int (0 : Int32), .ref (ad 3), .ref (ad 1), .ref (ad 0), .ref o]) ⟨hx, hb, hml, hown, hts⟩ (cnL_at l D Y bs L xs _ (0 : Int32) _ hL hk47 hF) (va_cwS 2 hts gL_law_L_at rfl rfl rfl (by decide +kernel) ⟨Nat.le_of_ble_eq_true rfl, Nat.le_of_ble_eq_true rfl⟩) (mbm_preA CM hX2 hbl hbA hS) rfl rfl hl.1 rfl (lv_room (Nat.le_of_ble_eq_true rfl)) dL_law_47 ⟨by show _ ≤ 623484; omega, by show _ ≤ 7231317; omega⟩) (fun r47 H locs hF hP hS => ?_)
    refine mb_cW (S := mb_S) hD hS hA (va_runS (As := [.ref o, .ref (ad 0), .ref (ad 1), .ref (ad 3), .int (0 : Int32), .int r47]) (rest := []) ⟨hx, hb, hml, hown, hts⟩ (cnL_begins l hl0 D Y N o a aa ad u33.2 u33.1 _ (0 : Int32) r47 _ hF) (va_cwS 6 hts gL_law_L_begins rfl rfl rfl (by decide +kernel) ⟨Nat.le_of_ble_eq_true rfl, Nat.le_of_ble_eq_true rfl⟩) (mbm_pre CM hP hD hS) rfl rfl hl.1 rfl (lv_room (Nat.le_of_ble_eq_true rfl)) dL_law_50 ⟨by show _ ≤ 623484; omega, by show _ ≤ 7231317; omega⟩) (fun r50 u50 H locs hF hP hD hS => ?_)
    have hP : va_P D vwCl (wW Y o a aa ad u50.1 u50.2) H := hP
    have hD : va_D A (wW Y o a aa ad u50.1 u50.2) := hD
    refine lv_if_eq (tgt := 94) hx hb dL_law_53 (by decide) (fun c_53 => ?_) (fun c_53 => ?_)
    · have hF := hF.1 c_53
      exact wL_law_94 CM hX2 hbl hbA hL hc0 u50.2 u50.1 _ _ _ _ _ hF hP hD hS (lv_sub hl [0, 1, 2, 3, 4, 5, 6] rfl) (by omega) (by omega)
    · have hF := hF.2 c_53
      refine lv_aload_n hx hb dL_law_56 rfl (lv_at hl 1 rfl) ?_
      refine lv_aload_n hx hb dL_law_57 rfl (lv_at hl 2 rfl) ?_
      refine lv_aload_n hx hb dL_law_58 rfl (lv_at hl 3 rfl) ?_
      refine lv_aload hx hb dL_law_59 (lv_at hl 5 rfl) ?_
      refine lv_iconst (v := 1) hx hb dL_law_61 (by decide) ?_
      refine lv_aload_n hx hb dL_law_62 rfl (lv_at hl 0 rfl) ?_
      refine lv_iconst (v := 1) hx hb dL_law_63 (by decide) ?_
      obtain ⟨hk64, hF⟩ := hF
      refine mb_cE hP hS hA (va_runS (As := [.ref bs, .int (1 : Int32)]) (rest := [.int (1 : Int32), .ref (ad 3), .ref (ad 1), .ref (ad 0), .ref o]) ⟨hx, hb, hml, hown, hts⟩ (cnL_at l D Y bs L xs _ (1 : Int32) _ hL hk64 hF) (va_cwS 2 hts gL_law_L_at rfl rfl rfl (by decide +kernel) ⟨Nat.le_of_ble_eq_true rfl, Nat.le_of_ble_eq_true rfl⟩) (mbm_preA CM hX2 hbl hbA hS) rfl rfl hl.1 rfl (lv_room (Nat.le_of_ble_eq_true rfl)) dL_law_64 ⟨by show _ ≤ 623484; omega, by show _ ≤ 7231317; omega⟩) (fun r64 H locs hF hP hS => ?_)
      refine mb_cW (S := mb_S) hD hS hA (va_runS (As := [.ref o, .ref (ad 0), .ref (ad 1), .ref (ad 3), .int (1 : Int32), .int r64]) (rest := []) ⟨hx, hb, hml, hown, hts⟩ (cnL_begins l hl0 D Y N o a aa ad u50.2 u50.1 _ (1 : Int32) r64 _ hF) (va_cwS 6 hts gL_law_L_begins rfl rfl rfl (by decide +kernel) ⟨Nat.le_of_ble_eq_true rfl, Nat.le_of_ble_eq_true rfl⟩) (mbm_pre CM hP hD hS) rfl rfl hl.1 rfl (lv_room (Nat.le_of_ble_eq_true rfl)) dL_law_67 ⟨by show _ ≤ 623484; omega, by show _ ≤ 7231317; omega⟩) (fun r67 u67 H locs hF hP hD hS => ?_)
      have hP : va_P D vwCl (wW Y o a aa ad u67.1 u67.2) H := hP
      have hD : va_D A (wW Y o a aa ad u67.1 u67.2) := hD
      refine lv_if_eq (tgt := 94) hx hb dL_law_70 (by decide) (fun c_70 => ?_) (fun c_70 => ?_)
      · have hF := hF.1 c_70
        exact wL_law_94 CM hX2 hbl hbA hL hc0 u67.2 u67.1 _ _ _ _ _ hF hP hD hS (lv_sub hl [0, 1, 2, 3, 4, 5, 6] rfl) (by omega) (by omega)
      · have hF := hF.2 c_70
        refine lv_aload_n hx hb dL_law_73 rfl (lv_at hl 1 rfl) ?_
        refine lv_aload_n hx hb dL_law_74 rfl (lv_at hl 2 rfl) ?_
        refine lv_aload_n hx hb dL_law_75 rfl (lv_at hl 3 rfl) ?_
        refine lv_aload hx hb dL_law_76 (lv_at hl 5 rfl) ?_
        refine lv_iconst (v := 1) hx hb dL_law_78 (by decide) ?_
        refine lv_aload_n hx hb dL_law_79 rfl (lv_at hl 0 rfl) ?_
        refine lv_iconst (v := 2) hx hb dL_law_80 (by decide) ?_
        obtain ⟨hk81, hF⟩ := hF
        refine mb_cE hP hS hA (va_runS (As := [.ref bs, .int (2 : Int32)]) (rest := [.int (1 : Int32), .ref (ad 3), .ref (ad 1), .ref (ad 0), .ref o]) ⟨hx, hb, hml, hown, hts⟩ (cnL_at l D Y bs L xs _ (2 : Int32) _ hL hk81 hF) (va_cwS 2 hts gL_law_L_at rfl rfl rfl (by decide +kernel) ⟨Nat.le_of_ble_eq_true rfl, Nat.le_of_ble_eq_true rfl⟩) (mbm_preA CM hX2 hbl hbA hS) rfl rfl hl.1 rfl (lv_room (Nat.le_of_ble_eq_true rfl)) dL_law_81 ⟨by show _ ≤ 623484; omega, by show _ ≤ 7231317; omega⟩) (fun r81 H locs hF hP hS => ?_)
        refine mb_cW (S := mb_S) hD hS hA (va_runS (As := [.ref o, .ref (ad 0), .ref (ad 1), .ref (ad 3), .int (1 : Int32), .int r81]) (rest := []) ⟨hx, hb, hml, hown, hts⟩ (cnL_begins l hl0 D Y N o a aa ad u67.2 u67.1 _ (1 : Int32) r81 _ hF) (va_cwS 6 hts gL_law_L_begins rfl rfl rfl (by decide +kernel) ⟨Nat.le_of_ble_eq_true rfl, Nat.le_of_ble_eq_true rfl⟩) (mbm_pre CM hP hD hS) rfl rfl hl.1 rfl (lv_room (Nat.le_of_ble_eq_true rfl)) dL_law_84 ⟨by show _ ≤ 623484; omega, by show _ ≤ 7231317; omega⟩) (fun r84 u84 H locs hF hP hD hS => ?_)
        have hP : va_P D vwCl (wW Y o a aa ad u84.1 u84.2) H := hP
        have hD : va_D A (wW Y o a aa ad u84.1 u84.2) := hD
        refine lv_if_eq (tgt := 94) hx hb dL_law_87 (by decide) (fun c_87 => ?_) (fun c_87 => ?_)
        · have hF := hF.1 c_87
          exact wL_law_94 CM hX2 hbl hbA hL hc0 u84.2 u84.1 _ _ _ _ _ hF hP hD hS (lv_sub hl [0, 1, 2, 3, 4, 5, 6] rfl) (by omega) (by omega)
        · have hF := hF.2 c_87
          refine lv_iconst (v := 1) hx hb dL_law_90 (by decide) ?_
          refine lv_goto (tgt := 95) hx hb dL_law_91 (by decide) ?_
          exact wL_law_95 CM hX2 hbl hbA hL hc0 u84.2 u84.1 (1 : Int32) _ _ _ _ _ hF hP hD hS (lv_sub hl [0, 1, 2, 3, 4, 5, 6] rfl) (by omega) (by omega)
end
