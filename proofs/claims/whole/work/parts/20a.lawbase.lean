/-! THE LAW: what its cases are made of -/
theorem mb_frL {l : Launch} {y : MethodName} {w : List Cond} {rm : Room} {av : List Value} {D : va_G} {Y : Nat → ClassId} {sz mc ms : Nat} {W wc wr : va_W} {S S' : Type} {K : Int32 → S → Prop} {wf : S → va_W} {K' : Int32 → S' → Prop} {WF : S' → va_W} (f : S → S') (hW : W.Perm (wc ++ wr)) (hWF : ∀ u, (WF (f u)).Perm (wf u ++ wr)) (hKK : ∀ r u, K r u → K' r (f u)) (h : Met l y w rm (va_Pc av (mb_BL D Y wc sz)) (va_Qi K (fun u t => mb_T D (va_A wc sz) (wf u) t) (va_A wc sz)) mc ms (va_A wc sz)) :
    Met l y w rm (va_Pc av (mb_BL D Y W sz)) (va_Qi K' (fun u t => mb_T D (va_A W sz) (WF u) t) (va_A W sz)) mc ms (va_A W sz) := by
  refine MetFree.mono h ?_ (fun _ _ _ _ _ h => h) ?_
  · rintro a s ⟨h0, ⟨⟨h1, h2, h3, h4⟩, h5⟩, h6⟩
    exact ⟨h0, ⟨⟨h1, mb_Psub hW h2, h3, mb_Dsub hW h4⟩, h5.1.narrow (fun q => mb_Asub hW), h5.2.narrow (fun q => mb_Asub hW)⟩, h6⟩
  · rintro a s o t ⟨h0, ⟨⟨h1, h2, h3, h4⟩, h5⟩, h6⟩ ⟨⟨⟨r, u, e1, e2, e3⟩, hF⟩, L, hL, hf⟩
    exact ⟨⟨⟨r, f u, e1, hKK r u e2, mb_frT hW h1 h2 h4 hF e3.1 e3.2 (hWF u)⟩, mb_frF hW hF⟩, L, hL, fun q hq => mb_Asub hW (hf q hq)⟩
/-- the whole world of the law: its row, the model, the bench -/
def wL (Y : Nat → ClassId) (q : Nat) (f : Nat → Int64) (om : Nat) (am : Nat → Nat) (M : mb_m) (o : Nat) (a aa : Nat → Nat) (b : mb_bs) : va_W := wO Y q f ++ gw8 Y om am M ++ wB Y o a aa b
theorem wL_pL {Y : Nat → ClassId} {q : Nat} {f : Nat → Int64} {om : Nat} {am : Nat → Nat} {M : mb_m} {o : Nat} {a aa : Nat → Nat} {b : mb_bs} : (wL Y q f om am M o a aa b).Perm ((wO Y q f ++ wB Y o a aa b) ++ gw8 Y om am M) := by
  unfold wL
  rw [List.append_assoc, List.append_assoc]
  exact List.Perm.append_left _ List.perm_append_comm
theorem wL_pM {Y : Nat → ClassId} {q : Nat} {f : Nat → Int64} {om : Nat} {am : Nat → Nat} {M : mb_m} {o : Nat} {a aa : Nat → Nat} {b : mb_bs} : (wL Y q f om am M o a aa b).Perm (gw8 Y om am M ++ (wO Y q f ++ wB Y o a aa b)) := by
  refine wL_pL.trans List.perm_append_comm
theorem wL_pB {Y : Nat → ClassId} {q : Nat} {f : Nat → Int64} {om : Nat} {am : Nat → Nat} {M : mb_m} {o : Nat} {a aa : Nat → Nat} {b : mb_bs} : (wL Y q f om am M o a aa b).Perm (wB Y o a aa b ++ (wO Y q f ++ gw8 Y om am M)) := by
  unfold wL
  exact List.perm_append_comm
def mb_bo (x : Int32) : Int32 := if x = 0 then 0 else 1
theorem mb_bo_isB (x : Int32) : mb_isB (mb_bo x) := by
  unfold mb_bo
  split
  · exact Or.inl rfl
  · exact Or.inr rfl
theorem mb_cmp {x y : Int64} (h : x = y) : lg_cmp x y = 0 := by
  subst h
  unfold lg_cmp
  rw [if_neg (fun h => absurd h (by show ¬ x < x; exact Int64.lt_irrefl)), if_pos rfl]
def mb_LC (p : Program) (l : Launch) (s : State) (m : MethodId) (meth : Method) (c : Code) (args : Array Value) (L : Nat) (xs : Nat → Int32) (bs : Nat) (D : va_G) (Y : Nat → ClassId) (A : Nat → Prop) : Prop :=
  mb_Cx p s m meth c args cL_law 7 (some .boolean) wsL_law RL D Y A ∧ mb_X A s s.heap ∧ l.stackTraces = false ∧ mb_NC s ∧ va_X bs L xs s s.heap ∧ bs < s.heap.size ∧ ¬ A bs ∧ L ≤ 3584
section LAWB
variable {p : Program} {l : Launch} {e : Env} {R : Room} {s : State} {m : MethodId} {args : Array Value} {below : List Frame} {meth : Method} {c : Code} {H : Heap} {locs : List Loc} {cells slots : Nat} {Q : State → Prop} {D : va_G} {Y : Nat → ClassId} {A : Nat → Prop} {pc : Nat} {ls : Array Slot} {rest : List Value} {ws : va_W} {L : Nat} {xs : Nat → Int32} {bs : Nat}
theorem lw_preL {As : List Value} (C : mb_LC p l s m meth c args L xs bs D Y A) (hP : va_P D vwCl ws H) (hD : va_D A ws) (hS : va_S A s.heap H locs) : PreS s H (va_Pc As (mb_BL D Y ws H.size)) As := by
  obtain ⟨⟨hx, hb, hr, hml, hts, hown, hlocks, hA, hG⟩, hX, hl0, hN, -⟩ := C
  exact ⟨mb_blindL, fun U hU hW => ⟨rfl, ⟨⟨by rw [hU], by rw [hU]; exact hP, hG.warm hW, hD.weaken (fun _ _ _ _ => trivial)⟩, hX.to hS (mb_freeW hD hS hA) hW.alike hU⟩, hN.moved hW.alike⟩⟩
/-- an int of the script -/
theorem lw_arg {i : Nat} (j : Nat) (C : mb_LC p l s m meth c args L xs bs D Y A) (hS : va_S A s.heap H locs) (h0 : ls[0]? = some (.val (.ref bs))) (h4 : ls[4]? = some (.val (.int (zI i)))) (hij : i + j < L) (hj : j ≤ 6)
    (d0 : decode cL_law pc = .ok (.aload_n 0, 1)) (d1 : decode cL_law (pc + 1) = .ok (.iload 4, 2)) (d3 : decode cL_law (pc + 3) = .ok (.iconst j, 1)) (d4 : decode cL_law (pc + 4) = .ok (.iadd, 1)) (d5 : decode cL_law (pc + 5) = .ok (.iaload, 1))
    (k : W p l e R s m args below meth c H locs cells slots Q (F0 m (pc + 6) ls (.int (xs (i + j)) :: rest))) : W p l e R s m args below meth c H locs cells slots Q (F0 m pc ls rest) := by
  obtain ⟨⟨hx, hb, hr, hml, hts, hown, hlocks, hA, hG⟩, hX, hl0, hN, hX2, hbl, hbA, hL⟩ := C
  refine lv_aload_n hx hb d0 rfl h0 ?_
  refine lv_iload hx hb d1 h4 ?_
  refine lv_iconst (v := zI (j : Int)) hx hb d3 rfl ?_
  refine lv_iadd hx hb d4 ?_
  have e : zI (i : Int) + zI (j : Int) = zI ((i + j : Nat) : Int) := by rw [zI_add]; congr 1
  rw [e]
  refine va_sld hx hb hX2 hbl hbA hS (by rw [zI_vp (by omega) (by omega) (by omega)]; trivial) d5 ?_
  rw [zI_clamp (by omega) (by omega), Int.toNat_natCast]
  exact k
theorem lw_arg6 {i : Nat} (C : mb_LC p l s m meth c args L xs bs D Y A) (hS : va_S A s.heap H locs) (h0 : ls[0]? = some (.val (.ref bs))) (h4 : ls[4]? = some (.val (.int (zI i)))) (hij : i + 6 < L)
    (d0 : decode cL_law pc = .ok (.aload_n 0, 1)) (d1 : decode cL_law (pc + 1) = .ok (.iload 4, 2)) (d3 : decode cL_law (pc + 3) = .ok (.bipush 6, 2)) (d4 : decode cL_law (pc + 5) = .ok (.iadd, 1)) (d5 : decode cL_law (pc + 6) = .ok (.iaload, 1))
    (k : W p l e R s m args below meth c H locs cells slots Q (F0 m (pc + 7) ls (.int (xs (i + 6)) :: rest))) : W p l e R s m args below meth c H locs cells slots Q (F0 m pc ls rest) := by
  obtain ⟨⟨hx, hb, hr, hml, hts, hown, hlocks, hA, hG⟩, hX, hl0, hN, hX2, hbl, hbA, hL⟩ := C
  refine lv_aload_n hx hb d0 rfl h0 ?_
  refine lv_iload hx hb d1 h4 ?_
  refine lv_bipush (v := zI 6) hx hb d3 rfl ?_
  refine lv_iadd hx hb d4 ?_
  have e : zI (i : Int) + zI 6 = zI ((i + 6 : Nat) : Int) := by rw [zI_add]; congr 1
  rw [e]
  refine va_sld hx hb hX2 hbl hbA hS (by rw [zI_vp (by omega) (by omega) (by omega)]; trivial) d5 ?_
  rw [zI_clamp (by omega) (by omega), Int.toNat_natCast]
  exact k
/-- x != 0 -/
theorem lw_bo {cc : ByteArray} {x : Int32} (hx : p.tables.exec = Jvm.exec) (hb : c.code = cc) (d0 : decode cc pc = .ok (.ifCond .eq 7, 3)) (d3 : decode cc (pc + 3) = .ok (.iconst 1, 1)) (d4 : decode cc (pc + 4) = .ok (.goto 4, 3)) (d7 : decode cc (pc + 7) = .ok (.iconst 0, 1))
    (k : W p l e R s m args below meth c H locs cells slots Q (F0 m (pc + 8) ls (.int (mb_bo x) :: rest))) : W p l e R s m args below meth c H locs cells slots Q (F0 m pc ls (.int x :: rest)) := by
  unfold mb_bo at k
  refine lv_if_eq (tgt := pc + 7) hx hb d0 (by omega) (fun cz => ?_) (fun cz => ?_)
  · rw [if_pos cz] at k
    exact lv_iconst (v := 0) hx hb d7 (by decide) k
  · rw [if_neg cz] at k
    refine lv_iconst (v := 1) hx hb d3 (by decide) ?_
    exact lv_goto (tgt := pc + 8) hx hb d4 (by omega) k
end LAWB
/-- how a case of the law goes on: at the end of the switch, bench and model alike again -/
def lw_K (p : Program) (l : Launch) (e : Env) (s : State) (m : MethodId) (args : Array Value) (below : List Frame) (meth : Method) (c : Code) (Q : State → Prop) (D : va_G) (Y : Nat → ClassId) (A : Nat → Prop) (bs q om : Nat) (am : Nat → Nat) (o : Nat) (a aa : Nat → Nat) (i cells slots : Nat) : Prop :=
  ∀ (b : mb_bs) (M : mb_m) (f : Nat → Int64) (H : Heap) (locs : List Loc) (ls : Array Slot), Rm b M → va_P D vwCl (wL Y q f om am M o a aa b) H → va_D A (wL Y q f om am M o a aa b) → va_S A s.heap H locs → lv_has ls 7 [(0, .ref bs), (1, .ref o), (2, .ref om), (3, .ref q), (4, .int (zI i))] → W p l e room_1 s m args below meth c H locs (cells + 14) (slots + 369) Q (F0 m 2310 ls [])
theorem mb_le2 {a k n r : Nat} (h : a + n ≤ r) (hk : k ≤ n) : a + k ≤ r := by omega
