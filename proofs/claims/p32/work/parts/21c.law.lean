theorem FI_np {F : mb_m} {np nb : Nat} {bk : Nat → vk} {ns : Nat} {sk : Int → Int → Int} (h : FI F np nb bk ns sk) : FI (mb_u F 0 (upd (F 0) (0 : Int).toNat (zI ((np : Int) + 1)))) (np + 1) nb bk ns sk := by
  obtain ⟨⟨f00, f01, f02⟩, fb, fm, fz, fk⟩ := h
  refine ⟨⟨?_, ?_, ?_⟩, fb, fm, fz, fk⟩
  · rw [Int.natCast_add]; rfl
  · exact f01
  · exact f02
section PT
variable {N : Nat} {b : mb_bs} {F : mb_m} {C S : Int → Int} {np : Nat} {pr : Int → Int → Int} {nb : Nat} {bk : Nat → vk} {ns : Nat} {sk : Int → Int → Int} {K : Int32 → mb_S → Prop} {T : Int}
theorem l_paints_drop {x y c m : Int} (hN : 700 ≤ N) (hI : Iw b F C S np pr nb bk ns sk T) (hx : 0 ≤ x ∧ x ≤ 7) (hy : 0 ≤ y ∧ y ≤ 7) (hc : 0 ≤ c ∧ c ≤ 5) (hm : 1 ≤ m ∧ m ≤ 64) {g : Int} (hg : g = uN x y c m C 64) (hK : ∀ b' F', Iv b' F' T → K (zI 1) (b', F')) {b' : mb_bs} (hV' : Vw b' (uC x y c m C) (uS x y c m C S) np pr nb bk ns sk) : PL_paints_128 N K F b' (zI m) (zI x) (zI y) (zI c) (zI g) := by
  obtain ⟨hV, hz, hF, hT⟩ := id hI
  have hR0 : bR C S := hV.1.1
  have hR1 := hR0 (8 * y + x) (by omega) (by omega)
  have u1 := uN_rng (x := x) (y := y) (c := c) (C := C) hm.1
  have e : c + 1 ≤ uC x y c m C (8 * y + x) ∧ uC x y c m C (8 * y + x) ≤ 6 := by
    unfold uC
    rw [dA_self hx hy]
    split <;> omega
  unfold PL_paints_128
  refine t_cellAt0 hN hV' hx hy ?_
  (try dsimp only)
  simp (maxSteps := 1000000) (disch := omega) only [zI_lit, zI_neg, zI_add, zI_sub, zI_mul, zI_div, q_md, zI_lt, zI_le, zI_eq, zI_clamp, zI_vp, forall_eq, mb_u_eq, mb_u_ne, upd_eq, q_if, q_ifn, if_pos, if_neg, true_and, and_true, if_true, if_false]
  refine t_drop hN hV' hx hy hc hm (fun b2 hV2 => ?_)
  (try dsimp only)
  rw [uN_again, hg]
  simp (maxSteps := 1000000) (disch := omega) only [zI_lit, zI_neg, zI_add, zI_sub, zI_mul, zI_div, q_md, zI_lt, zI_le, zI_eq, zI_clamp, zI_vp, forall_eq, mb_u_eq, mb_u_ne, upd_eq, q_if, q_ifn, if_pos, if_neg, true_and, and_true, if_true, if_false]
  exact hK _ _ (Iw_iv ⟨hV2, zS_u hc (zS_u hc hz), hF, hT⟩)
theorem l_paints_comb {y f : Int32} (hN : 700 ≤ N) (hI : Iw b F C S np pr nb bk ns sk T) (hK : ∀ b' F', Iv b' F' T → K (zI 1) (b', F')) : PL_paints_185 N K F b y (zI (cnt C)) f := by
  obtain ⟨hV, hz, hF, hT⟩ := id hI
  have hc := cnt_rng C
  unfold PL_paints_185
  have a1 := lw_rng (x := y >>> (zI 1 &&& zI 31)) (n := 8) (by omega)
  have a2 := lw_rng (x := y >>> (zI 4 &&& zI 31)) (n := 15) (by omega)
  simp (maxSteps := 1000000) (disch := omega) only [zI_lit, zI_neg, zI_add, zI_sub, zI_mul, zI_div, q_md, zI_lt, zI_le, zI_eq, zI_clamp, zI_vp, forall_eq, mb_u_eq, mb_u_ne, upd_eq, q_if, q_ifn, if_pos, if_neg, true_and, and_true, if_true, if_false, q_low]
  generalize lw (y >>> (zI 1 &&& zI 31)) 8 = l at a1 ⊢
  generalize lw (y >>> (zI 4 &&& zI 31)) 15 = s0 at a2 ⊢
  obtain ⟨s, rfl⟩ : ∃ s, s0 = s + 7 := ⟨s0 - 7, by omega⟩
  rw [show s + 7 - 7 = s by omega]
  have hl : 0 ≤ l ∧ l ≤ 7 := by omega
  have hs : -7 ≤ s ∧ s ≤ 7 := by omega
  have hs2 : -7 ≤ -s ∧ -s ≤ 7 := by omega
  have hn := lnN_rng f l C
  refine t_comb hN hV hl hs (fun b1 hV1 => ?_)
  (try dsimp only)
  rw [cN_ln hs]
  simp (maxSteps := 1000000) (disch := omega) only [zI_lit, zI_neg, zI_add, zI_sub, zI_mul, zI_div, q_md, zI_lt, zI_le, zI_eq, zI_clamp, zI_vp, forall_eq, mb_u_eq, mb_u_ne, upd_eq, q_if, q_ifn, if_pos, if_neg, true_and, and_true, if_true, if_false]
  refine l_coloured hN hV1 (zS_c hl hz) ?_
  (try dsimp only)
  rw [cnt_c hl hs]
  simp (maxSteps := 1000000) (disch := omega) only [zI_lit, zI_neg, zI_add, zI_sub, zI_mul, zI_div, q_md, zI_lt, zI_le, zI_eq, zI_clamp, zI_vp, forall_eq, mb_u_eq, mb_u_ne, upd_eq, q_if, q_ifn, if_pos, if_neg, true_and, and_true, if_true, if_false]
  refine t_comb hN hV1 hl hs2 (fun b2 hV2 => ?_)
  (try dsimp only)
  rw [cN_ln hs2, lnN_c hl hs]
  simp (maxSteps := 1000000) (disch := omega) only [zI_lit, zI_neg, zI_add, zI_sub, zI_mul, zI_div, q_md, zI_lt, zI_le, zI_eq, zI_clamp, zI_vp, forall_eq, mb_u_eq, mb_u_ne, upd_eq, q_if, q_ifn, if_pos, if_neg, true_and, and_true, if_true, if_false]
  refine t_comb hN hV2 hl hs (fun b3 hV3 => ?_)
  (try dsimp only)
  rw [cN_ln hs, lnN_c hl hs2, lnN_c hl hs]
  simp (maxSteps := 1000000) (disch := omega) only [zI_lit, zI_neg, zI_add, zI_sub, zI_mul, zI_div, q_md, zI_lt, zI_le, zI_eq, zI_clamp, zI_vp, forall_eq, mb_u_eq, mb_u_ne, upd_eq, q_if, q_ifn, if_pos, if_neg, true_and, and_true, if_true, if_false]
  exact hK _ _ (Iw_iv ⟨hV3, zS_c hl (zS_c hl (zS_c hl hz)), hF, hT⟩)
theorem l_paints_lift {b' : mb_bs} {F' : mb_m} (hN : 700 ≤ N) (hI : Iw b F C S np pr nb bk ns sk T) (hn : np < 10) (hV' : Vw b' (fC C S) (fS C S) (np + 1) (fun i k => if i = np then C k else pr i k) nb bk ns sk) (hK : K (zI 1) (b', F')) : PL_paints_380 N K F' b' (zI (cnt C)) (zI np) (zI 0) (zI 1) := by
  obtain ⟨hV, hz, hF, hT⟩ := id hI
  have hc := cnt_rng C
  have hR0 : bR C S := hV.1.1
  unfold PL_paints_380
  refine (q_for (σ := mb_m × mb_bs × Int32 × Int32 × Int32 × Int32 × Int32) (fun n s => PL_paints_385 N K n s.1 s.2.1 s.2.2.1 s.2.2.2.1 s.2.2.2.2.1 s.2.2.2.2.2.1 s.2.2.2.2.2.2) (fun r0 s => PL_paints_385_b N K (fun a0 a1 a2 a3 a4 a5 a6 => r0 (a0, a1, a2, a3, a4, a5, a6)) s.1 s.2.1 s.2.2.1 s.2.2.2.1 s.2.2.2.2.1 s.2.2.2.2.2.1 s.2.2.2.2.2.2) (fun _ _ => rfl)) (fun i s => s.1 = F' ∧ s.2.1 = b' ∧ s.2.2.1 = zI (cnt C) ∧ s.2.2.2.1 = zI np ∧ s.2.2.2.2.1 = zI (sI (fun k => qb (0 < C k ∧ C k ≤ i)) 64) ∧ s.2.2.2.2.2.1 = zI 1 ∧ s.2.2.2.2.2.2 = zI i ∧ 0 ≤ i) 6 ?_ ?_ 7 0 (F', b', _, _, _, _, _) (by omega) (by omega) ?_
  · rintro i ⟨F1, b1, y4, y6, y7, y8, y9⟩ r hi hI2 hr
    dsimp only at hI2 hr ⊢
    obtain ⟨e1, e2, rfl, rfl, rfl, rfl, rfl, h0⟩ := hI2
    rw [e1, e2]
    unfold PL_paints_385_b
    simp (maxSteps := 1000000) (disch := omega) only [zI_lit, zI_neg, zI_add, zI_sub, zI_mul, zI_div, q_md, zI_lt, zI_le, zI_eq, zI_clamp, zI_vp, forall_eq, mb_u_eq, mb_u_ne, upd_eq, q_if, q_ifn, if_pos, if_neg, true_and, and_true, if_true, if_false]
    refine t_count hN hV' (by omega) (by omega) ?_
    (try dsimp only)
    have es : sI (fun k => qb (0 < C k ∧ C k ≤ i)) 64 + sI (fun k => qb (C k - 1 = i)) 64 = sI (fun k => qb (0 < C k ∧ C k ≤ i + 1)) 64 := by
      rw [← sI_add]
      refine sI_cong (fun k k1 k2 => ?_)
      have := hR0 k k1 (by omega)
      by_cases z : 0 < C k ∧ C k ≤ i
      · rw [qb_t z, qb_f (by omega), qb_t (by omega)]; rfl
      · rw [qb_f z]
        by_cases z2 : C k - 1 = i
        · rw [qb_t z2, qb_t (by omega)]; rfl
        · rw [qb_f z2, qb_f (by omega)]; rfl
    simp (maxSteps := 1000000) (disch := omega) only [zI_lit, zI_neg, zI_add, zI_sub, zI_mul, zI_div, q_md, zI_lt, zI_le, zI_eq, zI_clamp, zI_vp, forall_eq, mb_u_eq, mb_u_ne, upd_eq, q_if, q_ifn, if_pos, if_neg, true_and, and_true, if_true, if_false]
    exact hr _ ⟨rfl, rfl, rfl, rfl, by (try dsimp only); rw [es], rfl, rfl, by omega⟩
  · rintro ⟨F1, b1, y4, y6, y7, y8, y9⟩ r hI2
    dsimp only at hI2 ⊢
    obtain ⟨e1, e2, rfl, rfl, rfl, rfl, rfl, h0⟩ := hI2
    rw [e1, e2]
    have es : sI (fun k => qb (0 < C k ∧ C k ≤ 6)) 64 = cnt C := sI_cong (fun k k1 k2 => qb_cong (by have := hR0 k k1 (by omega); omega))
    rw [es]
    unfold PL_paints_385_b
    simp (maxSteps := 1000000) (disch := omega) only [zI_lit, zI_neg, zI_add, zI_sub, zI_mul, zI_div, q_md, zI_lt, zI_le, zI_eq, zI_clamp, zI_vp, forall_eq, mb_u_eq, mb_u_ne, upd_eq, q_if, q_ifn, if_pos, if_neg, true_and, and_true, if_true, if_false]
    refine (q_for (σ := mb_m × mb_bs × Int32 × Int32 × Int32 × Int32 × Int32) (fun n s => PL_paints_414 N K n s.1 s.2.1 s.2.2.1 s.2.2.2.1 s.2.2.2.2.1 s.2.2.2.2.2.1 s.2.2.2.2.2.2) (fun r0 s => PL_paints_414_b N K (fun a0 a1 a2 a3 a4 a5 a6 => r0 (a0, a1, a2, a3, a4, a5, a6)) s.1 s.2.1 s.2.2.1 s.2.2.2.1 s.2.2.2.2.1 s.2.2.2.2.2.1 s.2.2.2.2.2.2) (fun _ _ => rfl)) (fun i s => s.1 = F' ∧ s.2.1 = b' ∧ s.2.2.1 = zI (cnt C) ∧ s.2.2.2.1 = zI np ∧ s.2.2.2.2.1 = zI (cnt C) ∧ s.2.2.2.2.2.1 = zI 1 ∧ s.2.2.2.2.2.2 = zI i ∧ 0 ≤ i) 64 ?_ ?_ 65 0 (F', b', _, _, _, _, _) (by omega) (by omega) ?_
    · rintro i ⟨F1, b1, y4, y6, y7, y8, y9⟩ r2 hi hI3 hr
      dsimp only at hI3 hr ⊢
      obtain ⟨k1, k2, rfl, rfl, rfl, rfl, rfl, h0⟩ := hI3
      rw [k1, k2]
      have hb := hR0 i h0 hi
      have e8 : 8 * (i / 8) + i % 8 = i := by omega
      have hfc : fC C S i = 0 ∨ (fC C S i = C i ∧ 0 < C i ∧ fS C S i = 1) := by
        unfold fC fS
        (repeat' split) <;> omega
      unfold PL_paints_414_b PL_paints_488 PL_paints_492 PL_paints_493
      simp (maxSteps := 1000000) (disch := omega) only [zI_lit, zI_neg, zI_add, zI_sub, zI_mul, zI_div, q_md, zI_lt, zI_le, zI_eq, zI_clamp, zI_vp, forall_eq, mb_u_eq, mb_u_ne, upd_eq, q_if, q_ifn, if_pos, if_neg, true_and, and_true, if_true, if_false]
      refine t_cellAt0 hN hV' (by omega) (by omega) ?_
      rw [e8]
      (try dsimp only)
      rcases hfc with e | ⟨e, e3, e4⟩
      · rw [e]
        simp (maxSteps := 1000000) (disch := omega) only [zI_lit, zI_neg, zI_add, zI_sub, zI_mul, zI_div, q_md, zI_lt, zI_le, zI_eq, zI_clamp, zI_vp, forall_eq, mb_u_eq, mb_u_ne, upd_eq, q_if, q_ifn, if_pos, if_neg, true_and, and_true, if_true, if_false]
        exact hr _ ⟨rfl, rfl, rfl, rfl, rfl, rfl, rfl, by omega⟩
      · rw [e]
        simp (maxSteps := 1000000) (disch := omega) only [zI_lit, zI_neg, zI_add, zI_sub, zI_mul, zI_div, q_md, zI_lt, zI_le, zI_eq, zI_clamp, zI_vp, forall_eq, mb_u_eq, mb_u_ne, upd_eq, q_if, q_ifn, if_pos, if_neg, true_and, and_true, if_true, if_false]
        refine t_printAt hN hV' (p := np) (by omega) (by omega) (by omega) ?_
        rw [e8, if_pos rfl]
        (try dsimp only)
        simp (maxSteps := 1000000) (disch := omega) only [zI_lit, zI_neg, zI_add, zI_sub, zI_mul, zI_div, q_md, zI_lt, zI_le, zI_eq, zI_clamp, zI_vp, forall_eq, mb_u_eq, mb_u_ne, upd_eq, q_if, q_ifn, if_pos, if_neg, true_and, and_true, if_true, if_false]
        refine t_cellAt1 hN hV' (by omega) (by omega) ?_
        rw [e8, e4]
        (try dsimp only)
        simp (maxSteps := 1000000) (disch := omega) only [zI_lit, zI_neg, zI_add, zI_sub, zI_mul, zI_div, q_md, zI_lt, zI_le, zI_eq, zI_clamp, zI_vp, forall_eq, mb_u_eq, mb_u_ne, upd_eq, q_if, q_ifn, if_pos, if_neg, true_and, and_true, if_true, if_false]
        exact hr _ ⟨rfl, rfl, rfl, rfl, rfl, rfl, rfl, by omega⟩
    · rintro ⟨F1, b1, y4, y6, y7, y8, y9⟩ r2 hI3
      dsimp only at hI3 ⊢
      obtain ⟨k1, k2, rfl, rfl, rfl, rfl, rfl, h0⟩ := hI3
      rw [k1, k2]
      unfold PL_paints_414_b PL_paints_501
      simp (maxSteps := 1000000) (disch := omega) only [zI_lit, zI_neg, zI_add, zI_sub, zI_mul, zI_div, q_md, zI_lt, zI_le, zI_eq, zI_clamp, zI_vp, forall_eq, mb_u_eq, mb_u_ne, upd_eq, q_if, q_ifn, if_pos, if_neg, true_and, and_true, if_true, if_false]
      exact hK
    · exact ⟨rfl, rfl, rfl, rfl, rfl, rfl, rfl, by omega⟩
  · refine ⟨rfl, rfl, rfl, rfl, ?_, rfl, rfl, by omega⟩
    show zI 0 = zI (sI (fun k => qb (0 < C k ∧ C k ≤ 0)) 64)
    rw [sI_zero (fun k _ _ => qb_f (by omega))]
theorem l_paints {x y : Int32} (hN : 700 ≤ N) (hI : Iw b F C S np pr nb bk ns sk T) (hK : ∀ b' F', Iv b' F' T → K (zI 1) (b', F')) : PL_paints N F b x y K := by
  obtain ⟨hV, hz, hF, hT⟩ := id hI
  obtain ⟨⟨f00, f01, f02⟩, -⟩ := id hF
  have hR0 : bR C S := hV.1.1
  have hnp : np ≤ 10 := hV.2.1.1
  have hc := cnt_rng C
  unfold PL_paints
  refine l_coloured hN hV hz ?_
  (try dsimp only)
  have a1 := lw_rng (x := x) (n := 8) (by omega)
  simp (maxSteps := 1000000) (disch := omega) only [zI_lit, zI_neg, zI_add, zI_sub, zI_mul, zI_div, q_md, zI_lt, zI_le, zI_eq, zI_clamp, zI_vp, forall_eq, mb_u_eq, mb_u_ne, upd_eq, q_if, q_ifn, if_pos, if_neg, true_and, and_true, if_true, if_false, q_low]
  generalize lw x 8 = kd at a1 ⊢
  by_cases c4 : kd < 4
  · rw [if_neg (show ¬ 4 ≤ kd by omega)]
    have a2 := lw_rng (x := y >>> (zI 9 &&& zI 31)) (n := 64) (by omega)
    have a3 := lw_rng (x := y) (n := 8) (by omega)
    have a4 := lw_rng (x := y >>> (zI 3 &&& zI 31)) (n := 8) (by omega)
    have a5 := lw_rng (x := y >>> (zI 6 &&& zI 31)) (n := 6) (by omega)
    generalize lw (y >>> (zI 9 &&& zI 31)) 64 = m0 at a2 ⊢
    generalize lw y 8 = px at a3 ⊢
    generalize lw (y >>> (zI 3 &&& zI 31)) 8 = py at a4 ⊢
    generalize lw (y >>> (zI 6 &&& zI 31)) 6 = co at a5 ⊢
    obtain ⟨m, rfl⟩ : ∃ m, m0 = m - 1 := ⟨m0 + 1, by omega⟩
    rw [show 1 + (m - 1) = m by omega]
    refine t_drop hN hV (by omega) (by omega) (by omega) (by omega) (fun b' hV' => ?_)
    (try dsimp only)
    refine l_coloured hN hV' (zS_u (by omega) hz) ?_
    (try dsimp only)
    have u1 := uN_rng (x := px) (y := py) (c := co) (m := m) (C := C) (by omega)
    have u2 := cnt_u (x := px) (y := py) (c := co) (m := m) (C := C) (by omega)
    have u3 := cnt_rng (uC px py co m C)
    have h128 := l_paints_drop (x := px) (y := py) (c := co) (m := m) hN hI (by omega) (by omega) (by omega) (by omega) rfl hK hV'
    generalize uN px py co m C 64 = g at u1 u2 h128 ⊢
    generalize cnt (uC px py co m C) = h at u2 u3 ⊢
    by_cases c0 : g = 0
    · simp (maxSteps := 1000000) (disch := omega) only [zI_lit, zI_neg, zI_add, zI_sub, zI_mul, zI_div, q_md, zI_lt, zI_le, zI_eq, zI_clamp, zI_vp, forall_eq, mb_u_eq, mb_u_ne, upd_eq, q_if, q_ifn, if_pos, if_neg, true_and, and_true, if_true, if_false]
      exact h128
    · simp (maxSteps := 1000000) (disch := omega) only [zI_lit, zI_neg, zI_add, zI_sub, zI_mul, zI_div, q_md, zI_lt, zI_le, zI_eq, zI_clamp, zI_vp, forall_eq, mb_u_eq, mb_u_ne, upd_eq, q_if, q_ifn, if_pos, if_neg, true_and, and_true, if_true, if_false]
      exact h128
  · rw [if_pos (show 4 ≤ kd by omega)]
    by_cases c7 : kd < 7
    · rw [if_neg (show ¬ 7 ≤ kd by omega)]
      have a6 := lw_rng (x := y) (n := 2) (by omega)
      by_cases c2 : lw y 2 = 0
      · simp (maxSteps := 1000000) (disch := omega) only [zI_lit, zI_neg, zI_add, zI_sub, zI_mul, zI_div, q_md, zI_lt, zI_le, zI_eq, zI_clamp, zI_vp, forall_eq, mb_u_eq, mb_u_ne, upd_eq, q_if, q_ifn, if_pos, if_neg, true_and, and_true, if_true, if_false]
        exact l_paints_comb hN hI hK
      · simp (maxSteps := 1000000) (disch := omega) only [zI_lit, zI_neg, zI_add, zI_sub, zI_mul, zI_div, q_md, zI_lt, zI_le, zI_eq, zI_clamp, zI_vp, forall_eq, mb_u_eq, mb_u_ne, upd_eq, q_if, q_ifn, if_pos, if_neg, true_and, and_true, if_true, if_false]
        exact l_paints_comb hN hI hK
    · rw [if_pos (show 7 ≤ kd by omega)]
      by_cases c10 : np = 10
      · refine t_liftX hN hV c10 ?_
        (try dsimp only)
        simp (maxSteps := 1000000) (disch := omega) only [zI_lit, zI_neg, zI_add, zI_sub, zI_mul, zI_div, q_md, zI_lt, zI_le, zI_eq, zI_clamp, zI_vp, forall_eq, mb_u_eq, mb_u_ne, upd_eq, q_if, q_ifn, if_pos, if_neg, true_and, and_true, if_true, if_false, f00]
        refine l_coloured hN hV hz ?_
        (try dsimp only)
        simp (maxSteps := 1000000) (disch := omega) only [zI_lit, zI_neg, zI_add, zI_sub, zI_mul, zI_div, q_md, zI_lt, zI_le, zI_eq, zI_clamp, zI_vp, forall_eq, mb_u_eq, mb_u_ne, upd_eq, q_if, q_ifn, if_pos, if_neg, true_and, and_true, if_true, if_false]
        have a3 := lw_rng (x := y) (n := 3) (by omega)
        by_cases c3 : 0 < lw y 3
        · simp (maxSteps := 1000000) (disch := omega) only [zI_lit, zI_neg, zI_add, zI_sub, zI_mul, zI_div, q_md, zI_lt, zI_le, zI_eq, zI_clamp, zI_vp, forall_eq, mb_u_eq, mb_u_ne, upd_eq, q_if, q_ifn, if_pos, if_neg, true_and, and_true, if_true, if_false]
          exact hK _ _ (Iw_iv hI)
        · simp (maxSteps := 1000000) (disch := omega) only [zI_lit, zI_neg, zI_add, zI_sub, zI_mul, zI_div, q_md, zI_lt, zI_le, zI_eq, zI_clamp, zI_vp, forall_eq, mb_u_eq, mb_u_ne, upd_eq, q_if, q_ifn, if_pos, if_neg, true_and, and_true, if_true, if_false]
          refine t_clean hN hV (fun b' hV' => ?_)
          (try dsimp only)
          simp (maxSteps := 1000000) (disch := omega) only [zI_lit, zI_neg, zI_add, zI_sub, zI_mul, zI_div, q_md, zI_lt, zI_le, zI_eq, zI_clamp, zI_vp, forall_eq, mb_u_eq, mb_u_ne, upd_eq, q_if, q_ifn, if_pos, if_neg, true_and, and_true, if_true, if_false]
          refine l_coloured hN hV' zS_0 ?_
          (try dsimp only)
          have e0 : cnt (fun _ => 0) = 0 := sI_zero (fun k _ _ => qb_f (show ¬ (0 : Int) < 0 by omega))
          rw [e0]
          simp (maxSteps := 1000000) (disch := omega) only [zI_lit, zI_neg, zI_add, zI_sub, zI_mul, zI_div, q_md, zI_lt, zI_le, zI_eq, zI_clamp, zI_vp, forall_eq, mb_u_eq, mb_u_ne, upd_eq, q_if, q_ifn, if_pos, if_neg, true_and, and_true, if_true, if_false]
          exact hK _ _ (Iw_iv ⟨hV', zS_0, hF, hT⟩)
      · refine t_lift hN hV (by omega) (fun b' hV' => ?_)
        have hF' := FI_np hF
        (try dsimp only)
        simp (maxSteps := 1000000) (disch := omega) only [zI_lit, zI_neg, zI_add, zI_sub, zI_mul, zI_div, q_md, zI_lt, zI_le, zI_eq, zI_clamp, zI_vp, forall_eq, mb_u_eq, mb_u_ne, upd_eq, q_if, q_ifn, if_pos, if_neg, true_and, and_true, if_true, if_false, f00]
        refine t_count hN hV' (p := np) (by omega) (by omega) ?_
        (try dsimp only)
        have e1 : sI (fun k => qb ((if (np : Int) = np then C k else pr np k) - 1 = -1)) 64 = 64 - cnt C := by
          have := sI_not (fun k => 0 < C k) 64
          unfold cnt
          rw [show ((64 : Nat) : Int) = 64 from rfl] at this
          rw [← this]
          refine sI_cong (fun k k1 k2 => qb_cong ?_)
          have := hR0 k k1 (by omega)
          rw [if_pos rfl]
          omega
        rw [e1]
        simp (maxSteps := 1000000) (disch := omega) only [zI_lit, zI_neg, zI_add, zI_sub, zI_mul, zI_div, q_md, zI_lt, zI_le, zI_eq, zI_clamp, zI_vp, forall_eq, mb_u_eq, mb_u_ne, upd_eq, q_if, q_ifn, if_pos, if_neg, true_and, and_true, if_true, if_false]
        exact l_paints_lift hN hI (by omega) hV' (hK _ _ (Iw_iv ⟨hV', zS_f hR0 hz, hF', hT⟩))
end PT
