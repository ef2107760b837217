theorem upd_ne {f : Nat → Int32} {k k' : Nat} {x : Int32} (h : k' ≠ k) : upd f k x k' = f k' := if_neg h
theorem FI_sk {F : mb_m} {np nb : Nat} {bk : Nat → vk} {ns : Nat} {sk sk' : Int → Int → Int} (h : FI F np nb bk ns sk) (hs : ∀ (j : Nat) (k : Int), j < ns → 0 ≤ k → k < 64 → sk' j k ≤ sk j k) : FI F np nb bk ns sk' := by
  obtain ⟨h1, h2, h3, h4, h5⟩ := h
  refine ⟨h1, h2, h3, h4, fun j hj => ?_⟩
  obtain ⟨t, t1, t2, t3⟩ := h5 j hj
  exact ⟨t, t1, t2, fun k k1 k2 => Int.le_trans (hs j k hj k1 k2) (t3 k k1 k2)⟩
theorem tkN_mono {f g : Int → Int} (h : ∀ k, 0 ≤ k → k < 64 → f k ≤ g k) : tkN f 64 ≤ tkN g 64 := by
  unfold tkN
  refine sI_mono (fun k k1 k2 => ?_)
  have := h k k1 (by omega)
  by_cases c : lim k < f k
  · rw [qb_t c, qb_t (by omega)]; omega
  · rw [qb_f c]; exact qb_rng.1
theorem tkN_rng (f : Int → Int) : 0 ≤ tkN f 64 ∧ tkN f 64 ≤ 64 := sI_qb (fun k => lim k < f k) 64
theorem tkN_new {t : Int} (h : 8 ≤ t ∧ t ≤ 30) : tkN (fun _ => t) 64 = if t ≤ 12 then 28 else 64 := by
  by_cases c : t ≤ 12
  · rw [if_pos c]
    have e : tkN (fun _ => t) 64 = tkN (fun _ => 8) 64 := sI_cong (fun k _ _ => qb_cong (by unfold lim; (try dsimp only); split <;> omega))
    rw [e]
    decide +kernel
  · rw [if_neg c]
    have e : tkN (fun _ => t) 64 = tkN (fun _ => 13) 64 := sI_cong (fun k _ _ => qb_cong (by have := lim_rng k; (try dsimp only); omega))
    rw [e]
    decide +kernel
section PB
variable {N : Nat} {b : mb_bs} {F : mb_m} {C S : Int → Int} {np : Nat} {pr : Int → Int → Int} {nb : Nat} {bk : Nat → vk} {ns : Nat} {sk : Int → Int → Int} {K : Int32 → mb_S → Prop} {T : Int} {i : Nat} {x y : Int32}
set_option maxHeartbeats 8000000 in
theorem l_pares (hN : 700 ≤ N) (hI : Iw b F C S np pr nb bk ns sk T) (hi : i < ns) (hK : ∀ b' F', Iv b' F' T → K (zI 1) (b', F')) : PL_pares N F b (zI i) y K := by
  obtain ⟨hV, hz, hF, hT⟩ := id hI
  obtain ⟨p1, p2, p5, p6, p7, p8⟩ := id hV.2.2.2
  have hsk : ∀ k : Int, 0 ≤ k → k < 64 → 3 ≤ sk i k ∧ sk i k ≤ 30 := fun k k1 k2 => p8 i k (by omega) (by omega) k1 k2
  have h187 : ∀ (b' : mb_bs) (sk' : Int → Int → Int) (l r t u w : Int), okF l r t u → 1 ≤ w ∧ w ≤ 8 → Vw b' C S np pr nb bk ns sk' → FI F np nb bk ns sk' → PL_pares_187 N K F b' (zI i) (zI l) (zI t) (zI r) (zI u) (zI w) (zI 1) := by
    intro b' sk' l r t u w ho hw hV' hF'
    obtain ⟨q1, q2, q5, q6, q7, q8⟩ := id hV'.2.2.2
    obtain ⟨m, m1, m2, m3⟩ := hF'.2.2.2.2 i hi
    obtain ⟨o1, o2, o3, o4, o5, o6⟩ := id ho
    have ht := m3 (8 * t + l) (by omega) (by omega)
    have ht2 := q8 i (8 * t + l) (by omega) (by omega) (by omega) (by omega)
    unfold PL_pares_187
    simp (maxSteps := 1000000) (disch := omega) only [zI_lit, zI_neg, zI_add, zI_sub, zI_mul, zI_div, q_md, zI_lt, zI_le, zI_eq, zI_clamp, zI_vp, forall_eq, mb_u_eq, mb_u_ne, upd_eq, q_if, q_ifn, if_pos, if_neg, true_and, and_true, if_true, if_false]
    refine t_thickAt hN hV' hi (by omega) (by omega) ?_
    (try dsimp only)
    simp (maxSteps := 1000000) (disch := omega) only [zI_lit, zI_neg, zI_add, zI_sub, zI_mul, zI_div, q_md, zI_lt, zI_le, zI_eq, zI_clamp, zI_vp, forall_eq, mb_u_eq, mb_u_ne, upd_eq, q_if, q_ifn, if_pos, if_neg, true_and, and_true, if_true, if_false, m2]
    refine t_pareX hN hV' hi (fun z => by unfold okF at z; omega) (by omega) (by omega) (by omega) (by omega) (by omega) ?_
    (try dsimp only)
    simp (maxSteps := 1000000) (disch := omega) only [zI_lit, zI_neg, zI_add, zI_sub, zI_mul, zI_div, q_md, zI_lt, zI_le, zI_eq, zI_clamp, zI_vp, forall_eq, mb_u_eq, mb_u_ne, upd_eq, q_if, q_ifn, if_pos, if_neg, true_and, and_true, if_true, if_false]
    exact hK _ _ (Iw_iv ⟨hV', hz, hF', hT⟩)
  have a1 := lw_rng (x := y) (n := 8) (by omega)
  have a2 := lw_rng (x := y >>> (zI 3 &&& zI 31)) (n := 8) (by omega)
  unfold PL_pares
  simp (maxSteps := 1000000) (disch := omega) only [zI_lit, zI_neg, zI_add, zI_sub, zI_mul, zI_div, q_md, zI_lt, zI_le, zI_eq, zI_clamp, zI_vp, forall_eq, mb_u_eq, mb_u_ne, upd_eq, q_if, q_ifn, if_pos, if_neg, true_and, and_true, if_true, if_false, q_low]
  generalize lw y 8 = l at a1 ⊢
  generalize lw (y >>> (zI 3 &&& zI 31)) 8 = t at a2 ⊢
  have a3 := lw_rng (x := y >>> (zI 6 &&& zI 31)) (n := 8 - l) (by omega)
  have a4 := lw_rng (x := y >>> (zI 9 &&& zI 31)) (n := 8 - t) (by omega)
  have a5 := lw_rng (x := y >>> (zI 12 &&& zI 31)) (n := 8) (by omega)
  (try simp (maxSteps := 1000000) (disch := omega) only [zI_lit, zI_neg, zI_add, zI_sub, zI_mul, zI_div, q_md, zI_lt, zI_le, zI_eq, zI_clamp, zI_vp, forall_eq, mb_u_eq, mb_u_ne, upd_eq, q_if, q_ifn, if_pos, if_neg, true_and, and_true, if_true, if_false, q_low])
  generalize lw (y >>> (zI 6 &&& zI 31)) (8 - l) = r0 at a3 ⊢
  generalize lw (y >>> (zI 9 &&& zI 31)) (8 - t) = u0 at a4 ⊢
  generalize lw (y >>> (zI 12 &&& zI 31)) 8 = w0 at a5 ⊢
  obtain ⟨r, rfl⟩ : ∃ r, r0 = r - l := ⟨r0 + l, by omega⟩
  obtain ⟨u, rfl⟩ : ∃ u, u0 = u - t := ⟨u0 + t, by omega⟩
  obtain ⟨w, rfl⟩ : ∃ w, w0 = w - 1 := ⟨w0 + 1, by omega⟩
  rw [show l + (r - l) = r by omega, show t + (u - t) = u by omega, show 1 + (w - 1) = w by omega]
  have ho : okF l r t u := ⟨by omega, by omega, by omega, by omega, by omega, by omega⟩
  have hs1 := hsk (8 * u + r) (by omega) (by omega)
  have tk := tkN_rng (sk i)
  refine t_thickAt hN hV hi (by omega) (by omega) ?_
  (try dsimp only)
  refine t_tooThick hN hV hi ?_
  (try dsimp only)
  refine t_pare hN hV hi ho (by omega) (fun w1 _ z => ?_) (fun w1 g1 g2 g3 g4 b' hV' => ?_)
  · (try dsimp only)
    simp (maxSteps := 1000000) (disch := omega) only [zI_lit, zI_neg, zI_add, zI_sub, zI_mul, zI_div, q_md, zI_lt, zI_le, zI_eq, zI_clamp, zI_vp, forall_eq, mb_u_eq, mb_u_ne, upd_eq, q_if, q_ifn, if_pos, if_neg, true_and, and_true, if_true, if_false]
    refine t_thickAt hN hV hi (by omega) (by omega) ?_
    (try dsimp only)
    simp (maxSteps := 1000000) (disch := omega) only [zI_lit, zI_neg, zI_add, zI_sub, zI_mul, zI_div, q_md, zI_lt, zI_le, zI_eq, zI_clamp, zI_vp, forall_eq, mb_u_eq, mb_u_ne, upd_eq, q_if, q_ifn, if_pos, if_neg, true_and, and_true, if_true, if_false]
    refine t_tooThick hN hV hi ?_
    (try dsimp only)
    simp (maxSteps := 1000000) (disch := omega) only [zI_lit, zI_neg, zI_add, zI_sub, zI_mul, zI_div, q_md, zI_lt, zI_le, zI_eq, zI_clamp, zI_vp, forall_eq, mb_u_eq, mb_u_ne, upd_eq, q_if, q_ifn, if_pos, if_neg, true_and, and_true, if_true, if_false]
    exact h187 b sk l r t u w ho (by omega) hV hF
  · have hw1 := g3.1 (8 * u + r) (by omega) (by omega) ⟨⟨by omega, by omega⟩, by omega, by omega⟩
    have hth : thF l r t u w (sk i) (8 * u + r) = sk i (8 * u + r) - w := by
      unfold thF
      rw [if_pos ⟨⟨by omega, by omega⟩, by omega, by omega⟩]
    have hmono : ∀ k, thF l r t u w (sk i) k ≤ sk i k := fun k => by unfold thF; split <;> omega
    have hF' : FI F np nb bk ns (fun j k => if j = (i : Int) then thF l r t u w (sk i) k else sk j k) := FI_sk hF (fun j k _ _ _ => by
      (try dsimp only)
      split
      · rename_i e
        rw [e]; exact hmono k
      · exact Int.le_refl _)
    have tk2 := tkN_mono (f := thF l r t u w (sk i)) (g := sk i) (fun k _ _ => hmono k)
    have tk3 := tkN_rng (thF l r t u w (sk i))
    (try dsimp only)
    simp (maxSteps := 1000000) (disch := omega) only [zI_lit, zI_neg, zI_add, zI_sub, zI_mul, zI_div, q_md, zI_lt, zI_le, zI_eq, zI_clamp, zI_vp, forall_eq, mb_u_eq, mb_u_ne, upd_eq, q_if, q_ifn, if_pos, if_neg, true_and, and_true, if_true, if_false]
    refine t_thickAt hN hV' hi (by omega) (by omega) ?_
    rw [if_pos rfl, hth]
    (try dsimp only)
    simp (maxSteps := 1000000) (disch := omega) only [zI_lit, zI_neg, zI_add, zI_sub, zI_mul, zI_div, q_md, zI_lt, zI_le, zI_eq, zI_clamp, zI_vp, forall_eq, mb_u_eq, mb_u_ne, upd_eq, q_if, q_ifn, if_pos, if_neg, true_and, and_true, if_true, if_false]
    refine t_tooThick hN hV' hi ?_
    have e9 : (fun k => if (i : Int) = i then thF l r t u w (sk i) k else sk i k) = thF l r t u w (sk i) := by funext k; rw [if_pos rfl]
    rw [e9]
    (try dsimp only)
    simp (maxSteps := 1000000) (disch := omega) only [zI_lit, zI_neg, zI_add, zI_sub, zI_mul, zI_div, q_md, zI_lt, zI_le, zI_eq, zI_clamp, zI_vp, forall_eq, mb_u_eq, mb_u_ne, upd_eq, q_if, q_ifn, if_pos, if_neg, true_and, and_true, if_true, if_false]
    exact h187 b' _ l r t u w ho (by omega) hV' hF'
theorem l_isBook2 (hN : 700 ≤ N) (hV : Vw b C S np pr nb bk ns sk) (hF : FI F np nb bk ns sk) (hi : i < nb) (hK : FI F np nb bk ns sk → K (zI 1) (b, F)) : PL_isBook N F b (zI i) K := l_isBook hN hV hF hi (hK hF)
set_option maxHeartbeats 8000000 in
theorem l_begins132 {y0 : Int} (hN : 700 ≤ N) (hI : Iw b F C S np pr nb bk ns sk T) (hT0 : 0 ≤ T) (hy0 : y0 = 0 ∨ y0 = nb) (hy1 : nb < 4 → y0 = nb) (hK : ∀ b' F', Iv b' F' T → K (zI 1) (b', F')) : PL_begins_132 N K F b y (zI y0) (zI 6) := by
  obtain ⟨hV, hz, hF, hT⟩ := id hI
  obtain ⟨⟨f00, f01, f02⟩, fb, fm, fz, fk⟩ := id hF
  have hp4 : nb ≤ 4 := hV.2.2.1.1
  have a1 := lw_rng (x := y) (n := 8) (by omega)
  have a2 := lw_rng (x := y >>> (zI 3 &&& zI 31)) (n := 15) (by omega)
  have a3 := lw_rng (x := y >>> (zI 7 &&& zI 31)) (n := 4) (by omega)
  have a4 := lw_rng (x := y >>> (zI 9 &&& zI 31)) (n := 9) (by omega)
  have a5 := lw_rng (x := y >>> (zI 13 &&& zI 31)) (n := 2) (by omega)
  have h217 : ∀ od : Int, od = 0 ∨ od = 1 → ∀ g l st th : Int, bkO g l st th → PL_begins_217 N K F b (zI (6 * y0)) (zI g) (zI l) (zI st) (zI th) (zI od) (zI od) (zI th) (zI st) (zI l) (zI g) := by
    intro od ho g l st th hb
    obtain ⟨o1, o2, o3, o4⟩ := id hb
    unfold PL_begins_217
    simp (maxSteps := 1000000) (disch := omega) only [zI_lit, zI_neg, zI_add, zI_sub, zI_mul, zI_div, q_md, zI_lt, zI_le, zI_eq, zI_clamp, zI_vp, forall_eq, mb_u_eq, mb_u_ne, upd_eq, q_if, q_ifn, if_pos, if_neg, true_and, and_true, if_true, if_false]
    by_cases c : nb = 4
    · refine t_bookX hN hV c hb ho ?_
      (try dsimp only)
      simp (maxSteps := 1000000) (disch := omega) only [zI_lit, zI_neg, zI_add, zI_sub, zI_mul, zI_div, q_md, zI_lt, zI_le, zI_eq, zI_clamp, zI_vp, forall_eq, mb_u_eq, mb_u_ne, upd_eq, q_if, q_ifn, if_pos, if_neg, true_and, and_true, if_true, if_false, f01]
      exact hK _ _ (Iw_iv hI)
    · have hlt : nb < 4 := by omega
      have ey := hy1 hlt
      subst ey
      refine t_book hN hV hlt hb ho (fun b' hV' => ?_)
      have hq1 : (bset bk nb (fun j => if j = 0 then g else if j = 1 then l else if j = 2 then st else if j = 3 then th else if j = 4 then od else 0, fun _ => 0, fun _ => 0, fun _ => 0, fun _ => 0, fun _ => 0)) nb = (fun j => if j = 0 then g else if j = 1 then l else if j = 2 then st else if j = 3 then th else if j = 4 then od else 0, fun _ => 0, fun _ => 0, fun _ => 0, fun _ => 0, fun _ => 0) := if_pos rfl
      (try dsimp only)
      simp (maxSteps := 1000000) (disch := omega) only [zI_lit, zI_neg, zI_add, zI_sub, zI_mul, zI_div, q_md, zI_lt, zI_le, zI_eq, zI_clamp, zI_vp, forall_eq, mb_u_eq, mb_u_ne, upd_eq, q_if, q_ifn, if_pos, if_neg, true_and, and_true, if_true, if_false, f01]
      refine t_year1 hN hV' (Nat.lt_succ_self nb) hq1 (fun _ => ?_) (fun y1 l1 hy _ _ => ?_)
      · (try dsimp only)
        simp (maxSteps := 1000000) (disch := omega) only [zI_lit, zI_neg, zI_add, zI_sub, zI_mul, zI_div, q_md, zI_lt, zI_le, zI_eq, zI_clamp, zI_vp, forall_eq, mb_u_eq, mb_u_ne, upd_eq, q_if, q_ifn, if_pos, if_neg, true_and, and_true, if_true, if_false]
        refine l_isBook2 hN hV' ?_ (Nat.lt_succ_self nb) (fun hFI => ?_)
        · refine ⟨⟨?_, ?_, ?_⟩, fun j hj => ?_, fun j hj => ?_, fun j j1 j2 => ?_, fun j hj => ?_⟩
          · simp (maxSteps := 1000000) (disch := omega) only [mb_u_eq, mb_u_ne, upd_eq, upd_ne]; exact f00
          · rw [Int.natCast_add]
            simp (maxSteps := 1000000) (disch := omega) only [mb_u_eq, mb_u_ne, upd_eq, upd_ne]; rfl
          · simp (maxSteps := 1000000) (disch := omega) only [mb_u_eq, mb_u_ne, upd_eq, upd_ne]; exact f02
          · unfold bset
            by_cases z : j = nb
            · subst z
              rw [if_pos rfl]
              simp (maxSteps := 1000000) (disch := omega) only [mb_u_eq, mb_u_ne, upd_eq, upd_ne]
              exact ⟨rfl, rfl, rfl, rfl, rfl⟩
            · rw [if_neg z]
              simp (maxSteps := 1000000) (disch := omega) only [mb_u_eq, mb_u_ne, upd_eq, upd_ne]
              exact fb j (by omega)
          · unfold bset
            by_cases z : j = nb
            · subst z
              rw [if_pos rfl]
              simp (maxSteps := 1000000) (disch := omega) only [mb_u_eq, mb_u_ne, upd_eq, upd_ne]
              exact fz j (by omega) hlt
            · rw [if_neg z]
              simp (maxSteps := 1000000) (disch := omega) only [mb_u_eq, mb_u_ne, upd_eq, upd_ne]
              exact fm j (by omega)
          · simp (maxSteps := 1000000) (disch := omega) only [mb_u_eq, mb_u_ne, upd_eq, upd_ne]
            exact fz j (by omega) j2
          · simp (maxSteps := 1000000) (disch := omega) only [mb_u_eq, mb_u_ne, upd_eq, upd_ne]
            exact fk j hj
        · (try dsimp only)
          simp (maxSteps := 1000000) (disch := omega) only [zI_lit, zI_neg, zI_add, zI_sub, zI_mul, zI_div, q_md, zI_lt, zI_le, zI_eq, zI_clamp, zI_vp, forall_eq, mb_u_eq, mb_u_ne, upd_eq, q_if, q_ifn, if_pos, if_neg, true_and, and_true, if_true, if_false]
          refine hK _ _ (Iw_iv ⟨hV', hz, hFI, fun j hj => ?_⟩)
          unfold bset
          by_cases z : j = nb
          · rw [if_pos z]; exact hT0
          · rw [if_neg z]; exact hT j (by omega)
      · exfalso
        rcases hy with ⟨e, -⟩ | ⟨-, e, -⟩
        · omega
        · have e : (0 : Int) < 0 := e
          omega
  unfold PL_begins_132
  simp (maxSteps := 1000000) (disch := omega) only [zI_lit, zI_neg, zI_add, zI_sub, zI_mul, zI_div, q_md, zI_lt, zI_le, zI_eq, zI_clamp, zI_vp, forall_eq, mb_u_eq, mb_u_ne, upd_eq, q_if, q_ifn, if_pos, if_neg, true_and, and_true, if_true, if_false, q_low]
  generalize lw y 8 = g0 at a1 ⊢
  generalize lw (y >>> (zI 3 &&& zI 31)) 15 = l0 at a2 ⊢
  generalize lw (y >>> (zI 7 &&& zI 31)) 4 = s0 at a3 ⊢
  generalize lw (y >>> (zI 9 &&& zI 31)) 9 = t0 at a4 ⊢
  generalize lw (y >>> (zI 13 &&& zI 31)) 2 = od at a5 ⊢
  have hb : bkO (1 + g0) (2 + l0) (3 + s0) (1 + t0) := ⟨by omega, by omega, by omega, by omega, by omega⟩
  by_cases c : od = 1
  · subst c
    simp (maxSteps := 1000000) (disch := omega) only [zI_lit, zI_neg, zI_add, zI_sub, zI_mul, zI_div, q_md, zI_lt, zI_le, zI_eq, zI_clamp, zI_vp, forall_eq, mb_u_eq, mb_u_ne, upd_eq, q_if, q_ifn, if_pos, if_neg, true_and, and_true, if_true, if_false]
    exact h217 1 (Or.inr rfl) _ _ _ _ hb
  · have e : od = 0 := by omega
    subst e
    simp (maxSteps := 1000000) (disch := omega) only [zI_lit, zI_neg, zI_add, zI_sub, zI_mul, zI_div, q_md, zI_lt, zI_le, zI_eq, zI_clamp, zI_vp, forall_eq, mb_u_eq, mb_u_ne, upd_eq, q_if, q_ifn, if_pos, if_neg, true_and, and_true, if_true, if_false]
    exact h217 0 (Or.inl rfl) _ _ _ _ hb
set_option maxHeartbeats 8000000 in
theorem l_begins (hN : 700 ≤ N) (hI : Iw b F C S np pr nb bk ns sk T) (hT0 : 0 ≤ T) (hK : ∀ b' F', Iv b' F' T → K (zI 1) (b', F')) : PL_begins N F b x y K := by
  obtain ⟨hV, hz, hF, hT⟩ := id hI
  obtain ⟨⟨f00, f01, f02⟩, fb, fm, fz, fk⟩ := id hF
  have hp4 : nb ≤ 4 := hV.2.2.1.1
  have hp3 : ns ≤ 3 := hV.2.2.2.1
  have a1 := lw_rng (x := x) (n := 3) (by omega)
  have a2 := lw_rng (x := y) (n := 23) (by omega)
  unfold PL_begins
  simp (maxSteps := 1000000) (disch := omega) only [zI_lit, zI_neg, zI_add, zI_sub, zI_mul, zI_div, q_md, zI_lt, zI_le, zI_eq, zI_clamp, zI_vp, forall_eq, mb_u_eq, mb_u_ne, upd_eq, q_if, q_ifn, if_pos, if_neg, true_and, and_true, if_true, if_false, q_low, f01]
  generalize lw x 3 = kd at a1 ⊢
  by_cases c : kd = 0
  · rw [if_pos c]
    generalize lw y 23 = t0 at a2 ⊢
    obtain ⟨t, rfl⟩ : ∃ t, t0 = t - 8 := ⟨t0 + 8, by omega⟩
    rw [show 8 + (t - 8) = t by omega]
    by_cases c3 : ns = 3
    · refine t_skinX hN hV c3 (by omega) ?_
      (try dsimp only)
      simp (maxSteps := 1000000) (disch := omega) only [zI_lit, zI_neg, zI_add, zI_sub, zI_mul, zI_div, q_md, zI_lt, zI_le, zI_eq, zI_clamp, zI_vp, forall_eq, mb_u_eq, mb_u_ne, upd_eq, q_if, q_ifn, if_pos, if_neg, true_and, and_true, if_true, if_false, f02]
      exact hK _ _ (Iw_iv hI)
    · refine t_skin hN hV (by omega) (by omega) (fun b' hV' => ?_)
      (try dsimp only)
      simp (maxSteps := 1000000) (disch := omega) only [zI_lit, zI_neg, zI_add, zI_sub, zI_mul, zI_div, q_md, zI_lt, zI_le, zI_eq, zI_clamp, zI_vp, forall_eq, mb_u_eq, mb_u_ne, upd_eq, q_if, q_ifn, if_pos, if_neg, true_and, and_true, if_true, if_false, f02]
      refine t_thickAt hN hV' (Nat.lt_succ_self ns) (by omega) (by omega) ?_
      rw [if_pos rfl]
      (try dsimp only)
      simp (maxSteps := 1000000) (disch := omega) only [zI_lit, zI_neg, zI_add, zI_sub, zI_mul, zI_div, q_md, zI_lt, zI_le, zI_eq, zI_clamp, zI_vp, forall_eq, mb_u_eq, mb_u_ne, upd_eq, q_if, q_ifn, if_pos, if_neg, true_and, and_true, if_true, if_false]
      refine t_tooThick hN hV' (Nat.lt_succ_self ns) ?_
      have e9 : (fun k => if (ns : Int) = ns then t else sk ns k) = fun _ => t := by funext k; rw [if_pos rfl]
      rw [e9, tkN_new (by omega)]
      (try dsimp only)
      unfold PL_begins_107
      have hFI : FI (mb_u (mb_u F 3 (upd (F 3) (ns : Int).toNat (zI t))) 0 (upd (F 0) (2 : Int).toNat (zI ((ns : Int) + 1)))) np nb bk (ns + 1) (fun i k => if i = (ns : Int) then t else sk i k) := by
        refine ⟨⟨?_, ?_, ?_⟩, fun j hj => ?_, fun j hj => ?_, fun j j1 j2 => ?_, fun j hj => ?_⟩
        · simp (maxSteps := 1000000) (disch := omega) only [mb_u_eq, mb_u_ne, upd_eq, upd_ne]; exact f00
        · simp (maxSteps := 1000000) (disch := omega) only [mb_u_eq, mb_u_ne, upd_eq, upd_ne]; exact f01
        · rw [Int.natCast_add]
          simp (maxSteps := 1000000) (disch := omega) only [mb_u_eq, mb_u_ne, upd_eq, upd_ne]; rfl
        · simp (maxSteps := 1000000) (disch := omega) only [mb_u_eq, mb_u_ne, upd_eq, upd_ne]; exact fb j hj
        · simp (maxSteps := 1000000) (disch := omega) only [mb_u_eq, mb_u_ne, upd_eq, upd_ne]; exact fm j hj
        · simp (maxSteps := 1000000) (disch := omega) only [mb_u_eq, mb_u_ne, upd_eq, upd_ne]; exact fz j j1 j2
        · by_cases z : j = ns
          · subst z
            refine ⟨t, by omega, ?_, fun k _ _ => ?_⟩
            · simp (maxSteps := 1000000) (disch := omega) only [mb_u_eq, mb_u_ne, upd_eq, upd_ne]
            · (try dsimp only)
              rw [if_pos rfl]; exact Int.le_refl _
          · obtain ⟨m, m1, m2, m3⟩ := fk j (by omega)
            refine ⟨m, m1, ?_, fun k k1 k2 => ?_⟩
            · simp (maxSteps := 1000000) (disch := omega) only [mb_u_eq, mb_u_ne, upd_eq, upd_ne]; exact m2
            · (try dsimp only)
              rw [if_neg (by omega)]; exact m3 k k1 k2
      have hIv := Iw_iv (T := T) (b := b') ⟨hV', hz, hFI, hT⟩
      by_cases c12 : t ≤ 12
      · simp (maxSteps := 1000000) (disch := omega) only [zI_lit, zI_neg, zI_add, zI_sub, zI_mul, zI_div, q_md, zI_lt, zI_le, zI_eq, zI_clamp, zI_vp, forall_eq, mb_u_eq, mb_u_ne, upd_eq, q_if, q_ifn, if_pos, if_neg, true_and, and_true, if_true, if_false]
        exact hK _ _ hIv
      · simp (maxSteps := 1000000) (disch := omega) only [zI_lit, zI_neg, zI_add, zI_sub, zI_mul, zI_div, q_md, zI_lt, zI_le, zI_eq, zI_clamp, zI_vp, forall_eq, mb_u_eq, mb_u_ne, upd_eq, q_if, q_ifn, if_pos, if_neg, true_and, and_true, if_true, if_false]
        exact hK _ _ hIv
  · rw [if_neg c]
    by_cases c4 : nb = 4
    · simp (maxSteps := 1000000) (disch := omega) only [zI_lit, zI_neg, zI_add, zI_sub, zI_mul, zI_div, q_md, zI_lt, zI_le, zI_eq, zI_clamp, zI_vp, forall_eq, mb_u_eq, mb_u_ne, upd_eq, q_if, q_ifn, if_pos, if_neg, true_and, and_true, if_true, if_false]
      exact l_begins132 hN hI hT0 (Or.inl rfl) (fun h => absurd h (by omega)) hK
    · simp (maxSteps := 1000000) (disch := omega) only [zI_lit, zI_neg, zI_add, zI_sub, zI_mul, zI_div, q_md, zI_lt, zI_le, zI_eq, zI_clamp, zI_vp, forall_eq, mb_u_eq, mb_u_ne, upd_eq, q_if, q_ifn, if_pos, if_neg, true_and, and_true, if_true, if_false]
      exact l_begins132 hN hI hT0 (Or.inr rfl) (fun _ => rfl) hK
end PB
