theorem bset_bset (bk : Nat → vk) (i : Nat) (q q' : vk) : bset (bset bk i q) i q' = bset bk i q' := by
  funext j
  unfold bset
  by_cases h : j = i
  · rw [if_pos h, if_pos h]
  · rw [if_neg h, if_neg h, if_neg h]
/-- the row of how many moves there were -/
theorem FI_m {F : mb_m} {np nb i : Nat} {bk : Nat → vk} {ns : Nat} {sk : Int → Int → Int} {q : vk} {n : Int} (h : FI F np nb bk ns sk) (hi : i < nb) (h4 : nb ≤ 4) (hq : ∀ j : Nat, j < 5 ∨ j = 7 → q.1 j = (bk i).1 j) (h6 : q.1 6 = n) : FI (mb_u F 2 (upd (F 2) (i : Int).toNat (zI n))) np nb (bset bk i q) ns sk := by
  obtain ⟨h1, h2, h3, h5, h7⟩ := h
  refine ⟨h1, fun j hj => ?_, fun j hj => ?_, fun j j1 j2 => ?_, h7⟩
  · unfold bset
    by_cases z : j = i
    · subst z
      rw [if_pos rfl, hq 0 (by omega), hq 1 (by omega), hq 2 (by omega), hq 3 (by omega), hq 4 (by omega)]; exact h2 j hj
    · rw [if_neg z]; exact h2 j hj
  · unfold bset
    by_cases z : j = i
    · subst z
      rw [if_pos rfl, h6, hq 7 (by omega)]
      exact ⟨by rw [mb_u_eq]; exact upd_eq _ _ _, (h3 j hj).2⟩
    · rw [if_neg z]
      refine ⟨?_, (h3 j hj).2⟩
      rw [mb_u_eq]
      show (if (j : Int).toNat = (i : Int).toNat then _ else F 2 _) = _
      rw [if_neg (by omega)]
      exact (h3 j hj).1
  · refine ⟨?_, (h5 j j1 j2).2⟩
    rw [mb_u_eq]
    show (if (j : Int).toNat = (i : Int).toNat then _ else F 2 _) = _
    rw [if_neg (by omega)]
    exact (h5 j j1 j2).1
theorem FI_same {F : mb_m} {s k : Nat} {x : Int32} (h : F s k = x) : mb_u F s (upd (F s) k x) = F := by
  funext s2 k2
  unfold mb_u upd
  by_cases e : s2 = s
  · rw [if_pos e]
    subst e
    (try dsimp only)
    by_cases e2 : k2 = k
    · rw [if_pos e2, e2]; exact h.symm
    · rw [if_neg e2]
  · rw [if_neg e]
theorem ts_mono {g st : Int} {t : ts} {n m : Int} (h : trg g st t n) : t.2.2.1 ≤ (tstep t m).2.2.1 ∧ ∀ k, t.1 k ≤ (tstep t m).1 k := by
  obtain ⟨a1, a2, a3, a4, a5, a6, a7, a8, a9, a10⟩ := h
  unfold tstep
  (repeat' split) <;> (refine ⟨by (try dsimp only); omega, fun k => ?_⟩; (try dsimp only); (repeat' split) <;> omega)
theorem tr_mono {g st : Int} {mv : Int → Int} (hg : 1 ≤ g) (hs : 3 ≤ st) {n : Nat} : ∀ {m : Nat}, n ≤ m → tv g st mv m → (tr mv n).2.2.1 ≤ (tr mv m).2.2.1 ∧ ∀ k, (tr mv n).1 k ≤ (tr mv m).1 k
  | 0, h, _ => by rw [show n = 0 by omega]; exact ⟨Int.le_refl _, fun k => Int.le_refl _⟩
  | m + 1, h, hv => by
    by_cases e : n = m + 1
    · rw [e]; exact ⟨Int.le_refl _, fun k => Int.le_refl _⟩
    · have h1 := tr_mono hg hs (n := n) (m := m) (by omega) (fun j hj => hv j (by omega))
      have h2 := ts_mono (m := mv m) (tr_rng hg hs (fun j hj => hv j (by omega) : tv g st mv m))
      exact ⟨Int.le_trans h1.1 h2.1, fun k => Int.le_trans (h1.2 k) (h2.2 k)⟩
theorem mxI_mono {f g : Int → Int} : ∀ {n : Nat}, (∀ k : Int, f k ≤ g k) → mxI f n ≤ mxI g n
  | 0, _ => Int.le_refl _
  | n + 1, h => by
    have h1 := mxI_mono (n := n) h
    have h2 := h n
    show (if mxI f n < f n then f n else mxI f n) ≤ (if mxI g n < g n then g n else mxI g n)
    (repeat' split) <;> omega
theorem swI_mono {f g : Int → Int} (h : ∀ k, f k ≤ g k) (n : Nat) : swI f n ≤ swI g n :=
  sI_mono (fun k _ _ => mxI_mono (fun p => h _))
section SW
variable {N : Nat} {b : mb_bs} {F : mb_m} {C S : Int → Int} {np : Nat} {pr : Int → Int → Int} {nb : Nat} {bk : Nat → vk} {ns : Nat} {sk : Int → Int → Int} {K : Int32 → mb_S → Prop} {T : Int} {i : Nat} {v : kN} {mv rp vf vt vw : Int → Int} {x y : Int32}
theorem l_sews435 {w : Int} {F' : mb_m} {b' : mb_bs} (hN : 700 ≤ N) (hI : Iw b F C S np pr nb bk ns sk T) (hi : i < nb) (hq : bk i = (v, mv, rp, vf, vt, vw)) (hT0 : 0 ≤ T ∧ T < 190) (hw : 0 ≤ w ∧ w ≤ 4) (z2 : tok (v 0) (v 2) (tr mv (v 6).toNat) w) (hF' : F' = mb_u F 2 (upd (F 2) (i : Int).toNat (zI (v 6 + 1)))) (hV' : Vw b' C S np pr nb (bset bk i (kset v 6 (v 6 + 1), fun k => if k = v 6 then w else mv k, rp, vf, vt, vw)) ns sk) (hK : ∀ b' F', Iv b' F' (T + 1) → K (zI 1) (b', F')) :
    PL_sews_435 N K F' b' (zI i) y (zI (tr mv (v 6).toNat).2.2.1) (zI (3 * swI (tr mv (v 6).toNat).1 (v 0).toNat)) (zI (sw1 v mv)) (zI w) (zI (tstep (tr mv (v 6).toNat) w).2.2.1) (zI 1) := by
  obtain ⟨hV, hz, hF, hT⟩ := id hI
  have hp4 : nb ≤ 4 := hV.2.2.1.1
  obtain ⟨kr, -⟩ := (hV.2.2.1.2.2.2.1 i hi).choose_spec.2.2
  rw [hq] at kr
  (try dsimp only at kr)
  obtain ⟨r1, r2, r3, r4, r5, r6, r7, r8, r9, r10, r11, r12⟩ := id kr
  have h6 : v 6 ≤ T := by have := hT i hi; rw [hq] at this; exact this
  have hFI : ∀ q : vk, (∀ j : Nat, j < 5 ∨ j = 7 → q.1 j = v j) → q.1 6 = v 6 + 1 → FI F' np nb (bset bk i q) ns sk := fun q q1 q2 => by
    rw [hF']
    exact FI_m hF hi hp4 (fun j hj => by rw [hq]; exact q1 j hj) q2
  have hTT : ∀ q : vk, q.1 6 = v 6 + 1 → ∀ j : Nat, j < nb → ((bset bk i q) j).1 6 ≤ T + 1 := fun q q2 j hj => by
    unfold bset
    by_cases z : j = i
    · rw [if_pos z, q2]; omega
    · rw [if_neg z]; have := hT j hj; omega
  have e6 : (kset v 6 (v 6 + 1)) 6 = v 6 + 1 := if_pos rfl
  have et0 : tr (fun k => if k = v 6 then w else mv k) (v 6).toNat = tr mv (v 6).toNat := tr_cong (fun k k1 k2 => by (try dsimp only); rw [if_neg (by omega)])
  have a2 := lw_rng (x := y >>> (zI 3 &&& zI 31)) (n := 4) (by omega)
  unfold PL_sews_435
  simp (maxSteps := 1000000) (disch := omega) only [zI_lit, zI_neg, zI_add, zI_sub, zI_mul, zI_div, q_md, zI_lt, zI_le, zI_eq, zI_clamp, zI_vp, forall_eq, mb_u_eq, mb_u_ne, upd_eq, q_if, q_ifn, if_pos, if_neg, true_and, and_true, if_true, if_false, q_low]
  by_cases c : 0 < lw (y >>> (zI 3 &&& zI 31)) 4
  · simp (maxSteps := 1000000) (disch := omega) only [zI_lit, zI_neg, zI_add, zI_sub, zI_mul, zI_div, q_md, zI_lt, zI_le, zI_eq, zI_clamp, zI_vp, forall_eq, mb_u_eq, mb_u_ne, upd_eq, q_if, q_ifn, if_pos, if_neg, true_and, and_true, if_true, if_false]
    exact hK _ _ (Iw_iv ⟨hV', hz, hFI _ (fun j hj => if_neg (by omega)) e6, hTT _ e6⟩)
  · simp (maxSteps := 1000000) (disch := omega) only [zI_lit, zI_neg, zI_add, zI_sub, zI_mul, zI_div, q_md, zI_lt, zI_le, zI_eq, zI_clamp, zI_vp, forall_eq, mb_u_eq, mb_u_ne, upd_eq, q_if, q_ifn, if_pos, if_neg, true_and, and_true, if_true, if_false]
    have hq1 : (bset bk i (kset v 6 (v 6 + 1), fun k => if k = v 6 then w else mv k, rp, vf, vt, vw)) i = (kset v 6 (v 6 + 1), fun k => if k = v 6 then w else mv k, rp, vf, vt, vw) := if_pos rfl
    refine t_unsew hN hV' hi hq1 (w := 1) (by omega) (fun z => absurd z (by rw [e6]; omega)) (fun z b2 hV2 => ?_)
    rw [e6, show v 6 + 1 - 1 = v 6 by omega] at hV2 ⊢
    rw [et0]
    rw [bset_bset] at hV2
    have hq2 : (bset bk i (kset (kset v 6 (v 6 + 1)) 6 (v 6), fun k => if k = v 6 then w else mv k, rp, vf, vt, vw)) i = (kset (kset v 6 (v 6 + 1)) 6 (v 6), fun k => if k = v 6 then w else mv k, rp, vf, vt, vw) := if_pos rfl
    have d6 : (kset (kset v 6 (v 6 + 1)) 6 (v 6)) 6 = v 6 := if_pos rfl
    have d0 : (kset (kset v 6 (v 6 + 1)) 6 (v 6)) 0 = v 0 := rfl
    have d2 : (kset (kset v 6 (v 6 + 1)) 6 (v 6)) 2 = v 2 := rfl
    (try dsimp only)
    simp (maxSteps := 1000000) (disch := omega) only [zI_lit, zI_neg, zI_add, zI_sub, zI_mul, zI_div, q_md, zI_lt, zI_le, zI_eq, zI_clamp, zI_vp, forall_eq, mb_u_eq, mb_u_ne, upd_eq, q_if, q_ifn, if_pos, if_neg, true_and, and_true, if_true, if_false]
    refine t_swelling hN hV2 hi hq2 ?_
    rw [d6, d0, et0]
    (try dsimp only)
    simp (maxSteps := 1000000) (disch := omega) only [zI_lit, zI_neg, zI_add, zI_sub, zI_mul, zI_div, q_md, zI_lt, zI_le, zI_eq, zI_clamp, zI_vp, forall_eq, mb_u_eq, mb_u_ne, upd_eq, q_if, q_ifn, if_pos, if_neg, true_and, and_true, if_true, if_false]
    refine t_oT5 hN hV2 hi hq2 ?_
    have es : sw1 (kset (kset v 6 (v 6 + 1)) 6 (v 6)) (fun k => if k = v 6 then w else mv k) = sw1 v mv := by
      unfold sw1
      rw [d6, d0, d2, et0]
    rw [es]
    (try dsimp only)
    simp (maxSteps := 1000000) (disch := omega) only [zI_lit, zI_neg, zI_add, zI_sub, zI_mul, zI_div, q_md, zI_lt, zI_le, zI_eq, zI_clamp, zI_vp, forall_eq, mb_u_eq, mb_u_ne, upd_eq, q_if, q_ifn, if_pos, if_neg, true_and, and_true, if_true, if_false]
    refine t_sew hN hV2 hi hq2 hw (fun z => absurd ?_ z) (fun z3 z4 b3 hV3 => ?_)
    · rw [d6, d0, d2, et0]
      exact ⟨by omega, z2⟩
    · rw [d6, et0]
      rw [d6, bset_bset] at hV3
      (try dsimp only)
      simp (maxSteps := 1000000) (disch := omega) only [zI_lit, zI_neg, zI_add, zI_sub, zI_mul, zI_div, q_md, zI_lt, zI_le, zI_eq, zI_clamp, zI_vp, forall_eq, mb_u_eq, mb_u_ne, upd_eq, q_if, q_ifn, if_pos, if_neg, true_and, and_true, if_true, if_false]
      exact hK _ _ (Iw_iv ⟨hV3, hz, hFI _ (fun j hj => by show (if j = 6 then _ else (if j = 6 then _ else (if j = 6 then _ else v j))) = v j; rw [if_neg (by omega), if_neg (by omega), if_neg (by omega)]) rfl, hTT _ rfl⟩)
set_option maxHeartbeats 8000000 in
theorem l_sews317 {w y0 : Int} {F' : mb_m} {b' : mb_bs} (hN : 700 ≤ N) (hI : Iw b F C S np pr nb bk ns sk T) (hi : i < nb) (hq : bk i = (v, mv, rp, vf, vt, vw)) (hT0 : 0 ≤ T ∧ T < 190) (hw : 0 ≤ w ∧ w ≤ 4) (z2 : tok (v 0) (v 2) (tr mv (v 6).toNat) w) (hF' : F' = mb_u F 2 (upd (F 2) (i : Int).toNat (zI (v 6 + 1)))) (hV' : Vw b' C S np pr nb (bset bk i (kset v 6 (v 6 + 1), fun k => if k = v 6 then w else mv k, rp, vf, vt, vw)) ns sk) (hy0 : y0 = if w = 0 then 0 else if w < 3 then 10 else 4) (hK : ∀ b' F', Iv b' F' (T + 1) → K (zI 1) (b', F')) :
    PL_sews_317 N K F' b' (zI i) y (zI (tr mv (v 6).toNat).2.2.1) (zI (tr mv (v 6).toNat).2.2.2.1) (zI (tr mv (v 6).toNat).2.2.2.2.1) (zI (tr mv (v 6).toNat).2.2.2.2.2) (zI (3 * swI (tr mv (v 6).toNat).1 (v 0).toNat)) (zI (sw1 v mv)) (zI w) (zI (tstep (tr mv (v 6).toNat) w).2.2.1) (zI y0) := by
  have h435 := l_sews435 (y := y) hN hI hi hq hT0 hw z2 hF' hV' hK
  obtain ⟨hV, hz, hF, hT⟩ := id hI
  have hp4 : nb ≤ 4 := hV.2.2.1.1
  obtain ⟨kr, -⟩ := (hV.2.2.1.2.2.2.1 i hi).choose_spec.2.2
  rw [hq] at kr
  (try dsimp only at kr)
  obtain ⟨r1, r2, r3, r4, r5, r6, r7, r8, r9, r10, r11, r12⟩ := id kr
  have en : (((v 6).toNat : Nat) : Int) = v 6 := by omega
  have hrg := tr_rng r1.1 r3.1 r10
  rw [en] at hrg
  have g2 : F' 2 (i : Int).toNat = zI (v 6 + 1) := by rw [hF', mb_u_eq]; exact upd_eq _ _ _
  have e6 : (kset v 6 (v 6 + 1)) 6 = v 6 + 1 := if_pos rfl
  have et : tr (fun k => if k = v 6 then w else mv k) (v 6 + 1).toNat = tstep (tr mv (v 6).toNat) w := by
    rw [show (v 6 + 1).toNat = (v 6).toNat + 1 by omega]
    have := tr_app (mv := w) (mw := mv) (n := (v 6).toNat)
    rwa [en] at this
  have hq1 : (bset bk i (kset v 6 (v 6 + 1), fun k => if k = v 6 then w else mv k, rp, vf, vt, vw)) i = (kset v 6 (v 6 + 1), fun k => if k = v 6 then w else mv k, rp, vf, vt, vw) := if_pos rfl
  generalize tr mv (v 6).toNat = t at hrg et h435 ⊢
  obtain ⟨a1, a2, a3, a4, a5, a6, a7, a8, a9, a10⟩ := hrg
  have hL : (tstep t w).2.2.1 = t.2.2.1 + y0 := by
    rw [hy0]
    unfold tstep
    (repeat' split) <;> (try dsimp only) <;> omega
  have hG : (tstep t w).2.2.2.1 = t.2.2.2.1 + (if w = 3 then 1 else if w = 4 then -1 else 0) := by
    unfold tstep
    (repeat' split) <;> (try dsimp only) <;> omega
  have hS : (tstep t w).2.2.2.2.1 = t.2.2.2.2.1 + (if w = 1 then 1 else if w = 2 then -1 else 0) := by
    unfold tstep
    (repeat' split) <;> (try dsimp only) <;> omega
  have hIn : (tstep t w).2.2.2.2.2 = if w = 0 then 1 - t.2.2.2.2.2 else t.2.2.2.2.2 := by
    unfold tstep
    (repeat' split) <;> (try dsimp only) <;> omega
  have hy : 0 ≤ y0 ∧ y0 ≤ 10 := by rw [hy0]; (repeat' split) <;> omega
  rw [hL] at h435 ⊢
  have hw5 : w = 0 ∨ w = 1 ∨ w = 2 ∨ w = 3 ∨ w = 4 := by omega
  unfold PL_sews_317 PL_sews_358 PL_sews_391 PL_sews_415 PL_sews_434
  rcases hw5 with e | e | e | e | e
  all_goals
    simp (maxSteps := 1000000) (disch := omega) only [zI_lit, zI_neg, zI_add, zI_sub, zI_mul, zI_div, q_md, zI_lt, zI_le, zI_eq, zI_clamp, zI_vp, forall_eq, mb_u_eq, mb_u_ne, upd_eq, q_if, q_ifn, if_pos, if_neg, true_and, and_true, if_true, if_false]
    refine t_oT1 hN hV' hi hq1 ?_
    rw [e6, et, hG]
    (try dsimp only)
    simp (maxSteps := 1000000) (disch := omega) only [zI_lit, zI_neg, zI_add, zI_sub, zI_mul, zI_div, q_md, zI_lt, zI_le, zI_eq, zI_clamp, zI_vp, forall_eq, mb_u_eq, mb_u_ne, upd_eq, q_if, q_ifn, if_pos, if_neg, true_and, and_true, if_true, if_false]
    refine t_oT2 hN hV' hi hq1 ?_
    rw [e6, et, hS]
    (try dsimp only)
    simp (maxSteps := 1000000) (disch := omega) only [zI_lit, zI_neg, zI_add, zI_sub, zI_mul, zI_div, q_md, zI_lt, zI_le, zI_eq, zI_clamp, zI_vp, forall_eq, mb_u_eq, mb_u_ne, upd_eq, q_if, q_ifn, if_pos, if_neg, true_and, and_true, if_true, if_false]
    refine t_oT3 hN hV' hi hq1 ?_
    rw [e6, et, hIn]
    (try dsimp only)
    simp (maxSteps := 1000000) (disch := omega) only [zI_lit, zI_neg, zI_add, zI_sub, zI_mul, zI_div, q_md, zI_lt, zI_le, zI_eq, zI_clamp, zI_vp, forall_eq, mb_u_eq, mb_u_ne, upd_eq, q_if, q_ifn, if_pos, if_neg, true_and, and_true, if_true, if_false]
    refine t_oT4 hN hV' hi hq1 ?_
    rw [e6]
    (try dsimp only)
    simp (maxSteps := 1000000) (disch := omega) only [zI_lit, zI_neg, zI_add, zI_sub, zI_mul, zI_div, q_md, zI_lt, zI_le, zI_eq, zI_clamp, zI_vp, forall_eq, mb_u_eq, mb_u_ne, upd_eq, q_if, q_ifn, if_pos, if_neg, true_and, and_true, if_true, if_false, g2]
    exact h435
set_option maxHeartbeats 8000000 in
theorem l_sews (hN : 700 ≤ N) (hI : Iw b F C S np pr nb bk ns sk T) (hi : i < nb) (hT0 : 0 ≤ T ∧ T < 190) (hK : ∀ b' F', Iv b' F' (T + 1) → K (zI 1) (b', F')) : PL_sews N F b (zI i) x y K := by
  obtain ⟨hV, hz, hF, hT⟩ := id hI
  obtain ⟨⟨f00, f01, f02⟩, fb, fm, fz, fk⟩ := id hF
  obtain ⟨q, hq⟩ : ∃ q, bk i = q := ⟨_, rfl⟩
  obtain ⟨v, mv, rp, vf, vt, vw⟩ := q
  have hp4 : nb ≤ 4 := hV.2.2.1.1
  obtain ⟨kr, -⟩ := (hV.2.2.1.2.2.2.1 i hi).choose_spec.2.2
  rw [hq] at kr
  (try dsimp only at kr)
  obtain ⟨r1, r2, r3, r4, r5, r6, r7, r8, r9, r10, r11, r12⟩ := id kr
  have fbi := fb i hi
  have fmi := fm i hi
  rw [hq] at fbi fmi
  (try dsimp only at fbi fmi)
  obtain ⟨b0, b1, b2, b3, b4⟩ := fbi
  obtain ⟨m0, m1'⟩ := fmi
  have h6 : v 6 ≤ T := by have := hT i hi; rw [hq] at this; exact this
  have hIT : Iv b F (T + 1) := ⟨C, S, np, pr, nb, bk, ns, sk, hV, hz, hF, fun j hj => by have := hT j hj; omega⟩
  have en : (((v 6).toNat : Nat) : Int) = v 6 := by omega
  have hrg := tr_rng r1.1 r3.1 r10
  rw [en] at hrg
  have hf9 : ∀ k, 0 ≤ (tr mv (v 6).toNat).1 k ∧ (tr mv (v 6).toNat).1 k ≤ 200 := fun k => by have := hrg.2.2.2.2.2.2.2.2.1 k; omega
  have hsw := swI_rng hf9 (v 0).toNat (by omega)
  have h317 := fun (w y0 : Int) (b' : mb_bs) hw z2 hV' hy0 => l_sews317 (w := w) (y0 := y0) (y := y) (b' := b') hN hI hi hq hT0 hw z2 rfl hV' hy0 hK
  have a1 := lw_rng (x := x) (n := 10) (by omega)
  have a2 := lw_rng (x := y) (n := 12) (by omega)
  have a3 := lw_rng (x := y) (n := 5) (by omega)
  unfold PL_sews
  simp (maxSteps := 1000000) (disch := omega) only [zI_lit, zI_neg, zI_add, zI_sub, zI_mul, zI_div, q_md, zI_lt, zI_le, zI_eq, zI_clamp, zI_vp, forall_eq, mb_u_eq, mb_u_ne, upd_eq, q_if, q_ifn, if_pos, if_neg, true_and, and_true, if_true, if_false, q_low]
  generalize lw x 10 = c at a1 ⊢
  refine t_oT0 hN hV hi hq ?_
  (try dsimp only)
  refine t_oT1 hN hV hi hq ?_
  (try dsimp only)
  refine t_oT2 hN hV hi hq ?_
  (try dsimp only)
  refine t_oT3 hN hV hi hq ?_
  (try dsimp only)
  refine t_swelling hN hV hi hq ?_
  (try dsimp only)
  refine t_oT5 hN hV hi hq ?_
  (try dsimp only)
  by_cases c0 : c = 0
  · rw [if_pos c0]
    generalize lw y 12 = w0 at a2 ⊢
    obtain ⟨w, rfl⟩ : ∃ w, w0 = w - 1 := ⟨w0 + 1, by omega⟩
    rw [show 1 + (w - 1) = w by omega]
    refine t_unsew hN hV hi hq (w := w) (by omega) (fun z => ?_) (fun z b' hV' => ?_)
    · (try dsimp only)
      unfold PL_sews_90 PL_sews_107
      simp (maxSteps := 1000000) (disch := omega) only [zI_lit, zI_neg, zI_add, zI_sub, zI_mul, zI_div, q_md, zI_lt, zI_le, zI_eq, zI_clamp, zI_vp, forall_eq, mb_u_eq, mb_u_ne, upd_eq, q_if, q_ifn, if_pos, if_neg, true_and, and_true, if_true, if_false, m0]
      rw [show v 6 - 0 = v 6 by omega, FI_same m0]
      exact hK _ _ hIT
    · have e6 : (kset v 6 (v 6 - w)) 6 = v 6 - w := if_pos rfl
      have hm := tr_mono r1.1 r3.1 (n := (v 6 - w).toNat) (m := (v 6).toNat) (by omega) r10
      have hrg2 := tr_rng r1.1 r3.1 (fun j hj => r10 j (by omega) : tv (v 0) (v 2) mv (v 6 - w).toNat)
      have hl2 := hrg2.2.2.2.2.2.2.1
      have hl3 := hrg.2.2.2.2.2.2.2.1
      have hsm := swI_mono hm.2 (v 0).toNat
      have hf2 : ∀ k, 0 ≤ (tr mv (v 6 - w).toNat).1 k ∧ (tr mv (v 6 - w).toNat).1 k ≤ 200 := fun k => by have := hrg2.2.2.2.2.2.2.2.2.1 k; omega
      have hsw2 := swI_rng hf2 (v 0).toNat (by omega)
      have hq1 : (bset bk i (kset v 6 (v 6 - w), mv, rp, vf, vt, vw)) i = (kset v 6 (v 6 - w), mv, rp, vf, vt, vw) := if_pos rfl
      (try dsimp only)
      unfold PL_sews_90 PL_sews_107
      have hm1 := hm.1
      simp (maxSteps := 1000000) (disch := omega) only [zI_lit, zI_neg, zI_add, zI_sub, zI_mul, zI_div, q_md, zI_lt, zI_le, zI_eq, zI_clamp, zI_vp, forall_eq, mb_u_eq, mb_u_ne, upd_eq, q_if, q_ifn, if_pos, if_neg, true_and, and_true, if_true, if_false, m0]
      refine t_swelling hN hV' hi hq1 ?_
      rw [e6, show (kset v 6 (v 6 - w)) 0 = v 0 from rfl]
      (try dsimp only)
      simp (maxSteps := 1000000) (disch := omega) only [zI_lit, zI_neg, zI_add, zI_sub, zI_mul, zI_div, q_md, zI_lt, zI_le, zI_eq, zI_clamp, zI_vp, forall_eq, mb_u_eq, mb_u_ne, upd_eq, q_if, q_ifn, if_pos, if_neg, true_and, and_true, if_true, if_false]
      refine t_oT0 hN hV' hi hq1 ?_
      rw [e6]
      (try dsimp only)
      simp (maxSteps := 1000000) (disch := omega) only [zI_lit, zI_neg, zI_add, zI_sub, zI_mul, zI_div, q_md, zI_lt, zI_le, zI_eq, zI_clamp, zI_vp, forall_eq, mb_u_eq, mb_u_ne, upd_eq, q_if, q_ifn, if_pos, if_neg, true_and, and_true, if_true, if_false]
      refine hK _ _ (Iw_iv ⟨hV', hz, FI_m hF hi hp4 (fun j hj => ?_) e6, fun j hj => ?_⟩)
      · rw [hq]
        show (if j = 6 then _ else v j) = v j
        rw [if_neg (by omega)]
      · unfold bset
        by_cases e : j = i
        · rw [if_pos e]
          show (kset v 6 (v 6 - w)) 6 ≤ T + 1
          rw [e6]; omega
        · rw [if_neg e]; have := hT j hj; omega
  · rw [if_neg c0]
    generalize lw y 5 = w at a3 ⊢
    obtain ⟨g1, g2, g3, g4, g5, g6, g7, g8, g9, g10⟩ := id hrg
    refine t_sew hN hV hi hq (w := w) (by omega) (fun z => ?_) (fun z1 z2 b' hV' => ?_)
    · have hno : (1 ≤ w) ∧ (w = 1 → (tr mv (v 6).toNat).2.2.2.2.1 = v 2 - 1) ∧ (w = 2 → (tr mv (v 6).toNat).2.2.2.2.1 = 0) ∧ (w = 3 → (tr mv (v 6).toNat).2.2.2.2.2 = 1 ∨ (tr mv (v 6).toNat).2.2.2.1 = v 0 - 1) ∧ (w = 4 → (tr mv (v 6).toNat).2.2.2.2.2 = 1 ∨ (tr mv (v 6).toNat).2.2.2.1 = 0) := by
        unfold tok at z
        refine ⟨?_, fun e => ?_, fun e => ?_, fun e => ?_, fun e => ?_⟩ <;> (apply Classical.byContradiction; intro h9; apply z; refine ⟨by omega, by omega, by omega, fun h => by omega, fun h => by omega, fun h => by omega, fun h => by omega⟩)
      obtain ⟨n1, n2, n3, n4, n5⟩ := hno
      (try dsimp only)
      simp (maxSteps := 1000000) (disch := omega) only [zI_lit, zI_neg, zI_add, zI_sub, zI_mul, zI_div, q_md, zI_lt, zI_le, zI_eq, zI_clamp, zI_vp, forall_eq, mb_u_eq, mb_u_ne, upd_eq, q_if, q_ifn, if_pos, if_neg, true_and, and_true, if_true, if_false]
      refine t_oT0 hN hV hi hq ?_
      (try dsimp only)
      simp (maxSteps := 1000000) (disch := omega) only [zI_lit, zI_neg, zI_add, zI_sub, zI_mul, zI_div, q_md, zI_lt, zI_le, zI_eq, zI_clamp, zI_vp, forall_eq, mb_u_eq, mb_u_ne, upd_eq, q_if, q_ifn, if_pos, if_neg, true_and, and_true, if_true, if_false]
      refine t_oT1 hN hV hi hq ?_
      (try dsimp only)
      simp (maxSteps := 1000000) (disch := omega) only [zI_lit, zI_neg, zI_add, zI_sub, zI_mul, zI_div, q_md, zI_lt, zI_le, zI_eq, zI_clamp, zI_vp, forall_eq, mb_u_eq, mb_u_ne, upd_eq, q_if, q_ifn, if_pos, if_neg, true_and, and_true, if_true, if_false]
      refine t_oT2 hN hV hi hq ?_
      (try dsimp only)
      simp (maxSteps := 1000000) (disch := omega) only [zI_lit, zI_neg, zI_add, zI_sub, zI_mul, zI_div, q_md, zI_lt, zI_le, zI_eq, zI_clamp, zI_vp, forall_eq, mb_u_eq, mb_u_ne, upd_eq, q_if, q_ifn, if_pos, if_neg, true_and, and_true, if_true, if_false, b0, b2]
      (repeat' split) <;> first | exact hK _ _ hIT | (exfalso; omega)
    · have z2' := z2
      unfold tok at z2'
      have hge : 0 ≤ (tstep (tr mv (v 6).toNat) w).2.2.1 ∧ (tstep (tr mv (v 6).toNat) w).2.2.1 ≤ 10000 := by
        have := trg_step hrg z2
        have k1 := this.2.2.2.2.2.2.1
        have k2 := this.2.2.2.2.2.2.2.1
        omega
      (try dsimp only)
      simp (maxSteps := 1000000) (disch := omega) only [zI_lit, zI_neg, zI_add, zI_sub, zI_mul, zI_div, q_md, zI_lt, zI_le, zI_eq, zI_clamp, zI_vp, forall_eq, mb_u_eq, mb_u_ne, upd_eq, q_if, q_ifn, if_pos, if_neg, true_and, and_true, if_true, if_false, m0]
      by_cases e0 : w = 0
      · simp (maxSteps := 1000000) (disch := omega) only [zI_lit, zI_neg, zI_add, zI_sub, zI_mul, zI_div, q_md, zI_lt, zI_le, zI_eq, zI_clamp, zI_vp, forall_eq, mb_u_eq, mb_u_ne, upd_eq, q_if, q_ifn, if_pos, if_neg, true_and, and_true, if_true, if_false]
        exact h317 w 0 b' (by omega) z2 hV' (by rw [if_pos e0])
      · by_cases e3 : w < 3
        · simp (maxSteps := 1000000) (disch := omega) only [zI_lit, zI_neg, zI_add, zI_sub, zI_mul, zI_div, q_md, zI_lt, zI_le, zI_eq, zI_clamp, zI_vp, forall_eq, mb_u_eq, mb_u_ne, upd_eq, q_if, q_ifn, if_pos, if_neg, true_and, and_true, if_true, if_false]
          exact h317 w 10 b' (by omega) z2 hV' (by rw [if_neg e0, if_pos e3])
        · simp (maxSteps := 1000000) (disch := omega) only [zI_lit, zI_neg, zI_add, zI_sub, zI_mul, zI_div, q_md, zI_lt, zI_le, zI_eq, zI_clamp, zI_vp, forall_eq, mb_u_eq, mb_u_ne, upd_eq, q_if, q_ifn, if_pos, if_neg, true_and, and_true, if_true, if_false]
          exact h317 w 4 b' (by omega) z2 hV' (by rw [if_neg e0, if_neg e3])
end SW
