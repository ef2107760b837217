section
noncomputable def PL_low (N : Nat) (x0 x1 : Int32) (K : Int32 → Unit → Prop) : Prop := ¬ x1 = 0 ∧ (K ((x0 &&& (2147483647 : Int32)) - (x0 &&& (2147483647 : Int32)) / x1 * x1) ())
set_option maxHeartbeats 4000000 in
set_option maxRecDepth 100000 in
theorem cnL_low (l : Launch) (D : va_G) (Y : Nat → ClassId) (N : Nat) (sz : Nat) (x0 x1 : Int32) (K : Int32 → Unit → Prop) (hF : PL_low N x0 x1 K) : Met l yL_low wsL_low ({ frames := 0, cells := 0, slots := 0, locals := 0 } : Room) (va_Pc [.int x0, .int x1] (mb_B D Y (([] : va_W)) sz)) (va_Qi K (fun u t => mb_T D (va_A (([] : va_W)) sz) ([]) t) (va_A (([] : va_W)) sz)) 0 0 (va_A (([] : va_W)) sz) := by
  refine mb_begin (cc := cL_low) (maxL := 2) (ret := (some .int)) (by decide +kernel) rfl (Nat.le_of_ble_eq_true rfl) ?_
  intro p e s m below meth c ls C hsz hnm hP hD hl
  generalize hAe : va_A (([] : va_W)) sz = A at C hD ⊢
  have C : mb_Cx p s m meth c ([.int x0, .int x1] : List Value).toArray cL_low 2 (some .int) wsL_low RL D Y A := C
  obtain ⟨hx, hb, hr, hml, hts, hown, hlocks, hA, hG⟩ := id C
  have hK := hG.1
  have hS : va_S A s.heap s.heap [] := va_S.rf
  have hl : lv_has ls 2 [(0, .int x0), (1, .int x1)] := hl
  refine lv_iload_n hx hb dL_low_0 rfl (lv_at hl 0 rfl) ?_
  refine lv_ldc (v := 2147483647) hx hb hown (hts (.constant RL 9 (2147483647)) (List.mem_of_getElem? (i := 1) rfl)) dL_low_1 ?_
  refine lv_iand hx hb dL_low_3 ?_
  refine lv_iload_n hx hb dL_low_4 rfl (lv_at hl 1 rfl) ?_
  obtain ⟨hz5, hF⟩ := hF
  refine lv_irem hx hb dL_low_5 hz5 ?_
  exact mb_ri (S := Unit) (mc := 0) (ms := 0) (wf := fun u => []) C rfl (u := ()) hF hP hD hS dL_low_6 (Nat.le_of_ble_eq_true rfl) (Nat.le_of_ble_eq_true rfl)
end
noncomputable def LP_clean (N : Nat) (b : mb_bs) (F : mb_m) (K : Int32 → mb_S → Prop) : Prop := BP_clean N b.1 b.2.1 b.2.2.1 b.2.2.2.1 b.2.2.2.2.1 b.2.2.2.2.2.1 b.2.2.2.2.2.2.1 b.2.2.2.2.2.2.2 (fun r b1 => K r (b1, F))
theorem cw_clean (l : Launch) (D : va_G) (Y : Nat → ClassId) (N : Nat) (o : Nat) (a aa ad : Nat → Nat) (b : mb_bs) (F : mb_m) (sz : Nat) (K : Int32 → mb_S → Prop) (hF : LP_clean N b F K) : Met l yX7_clean wsX7_clean ({ frames := 1, cells := 0, slots := 0, locals := 22 } : Room) (va_Pc [.ref o] (mb_B D Y (wW Y o a aa ad b F) sz)) (va_Qi K (fun u t => mb_T D (va_A (wW Y o a aa ad b F) sz) (wW Y o a aa ad u.1 u.2) t) (va_A (wW Y o a aa ad b F) sz)) 0 0 (va_A (wW Y o a aa ad b F) sz) := by
  unfold LP_clean at hF
  exact mb_fr (K := fun r b1 => K r (b1, F)) (W := wW Y o a aa ad b F) (wr := wR Y ad F) (WF := fun u : mb_S => wW Y o a aa ad u.1 u.2) (fun u : mb_bs => (u, F)) wW_p (fun u => wW_p) (fun _ _ h => h) (cf_clean l D Y N o a aa b.1 b.2.1 b.2.2.1 b.2.2.2.1 b.2.2.2.2.1 b.2.2.2.2.2.1 b.2.2.2.2.2.2.1 b.2.2.2.2.2.2.2 sz _ hF)
