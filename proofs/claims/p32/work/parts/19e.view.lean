/-! books, threads -/
theorem t_book {N : Nat} {b : mb_bs} {F : mb_m} {C S : Int → Int} {np : Nat} {pr : Int → Int → Int} {nb : Nat} {bk : Nat → vk} {ns : Nat} {sk : Int → Int → Int} {K : Int32 → mb_S → Prop} (hN : 700 ≤ N) (hV : Vw b C S np pr nb bk ns sk) {g l st th od : Int} (hn : nb < 4) (hb : bkO g l st th) (ho : od = 0 ∨ od = 1)
    (hK : ∀ b', Vw b' C S np pr (nb + 1) (bset bk nb (fun j => if j = 0 then g else if j = 1 then l else if j = 2 then st else if j = 3 then th else if j = 4 then od else 0, fun _ => 0, fun _ => 0, fun _ => 0, fun _ => 0, fun _ => 0)) ns sk → K (zI nb) (b', F)) : LP_book N b F (zI g) (zI l) (zI st) (zI th) (zI od) K := by
  obtain ⟨M7, MA, fP, fB, fK, LP, LB, LS⟩ := b
  obtain ⟨hA, hP, ⟨p1, p2, p5, p6, p7⟩, hSk⟩ := id hV
  (try dsimp only at hA hP hSk p2 p5 p6 p7)
  obtain ⟨h1, h2, h3, h4⟩ := id hb
  unfold LP_book
  (try dsimp only)
  refine b_book ⟨by omega, by omega⟩ ⟨by omega, by omega⟩ ⟨by omega, by omega⟩ ⟨by omega, by omega⟩ ho p1 p2 (fun z z4 o a b c d => ?_) (fun z => absurd hb z) (fun _ z => absurd hn z)
  have f7 : mf M7 (mb_u M7 5 (mb_c (zI (nb + 1)))) [5] := mf_u (mf_refl _ _) _ (by decide)
  refine hK _ ⟨hA, VP_7 hP f7 (by decide), ⟨by omega, by rw [Int.natCast_add]; exact m1_set _ _ _, by (try dsimp only); rw [List.length_append, p5]; rfl, fun i hi => ?_, fun i hi hi2 => ?_⟩, VS_7 hSk f7 (by decide)⟩
  · (try dsimp only)
    unfold bset
    by_cases hh : i = nb
    · subst hh
      refine ⟨_, by rw [← p5]; exact List.getElem?_concat_length, va_up_eq _ _ _, ?_⟩
      rw [if_pos rfl]
      refine ⟨?_, ?_⟩
      · refine ⟨h1, h2, h3, h4, by (show 0 ≤ od ∧ od ≤ 1); omega, by (show (0 : Int) ≤ 0 ∧ (0 : Int) ≤ 2); omega, by (show (0 : Int) ≤ 0 ∧ (0 : Int) ≤ 200); omega, by (show (0 : Int) ≤ 0 ∧ (0 : Int) ≤ 20); omega, by (show (0 : Int) ≤ 0 ∧ (0 : Int) ≤ 20); omega, fun j hj => absurd hj (Nat.not_lt_zero j), fun k e1 e2 => ?_, fun k e1 e2 => ?_⟩
        · have e2 : k < 0 := e2
          omega
        · have e2 : k < 0 := e2
          omega
      · exact ⟨⟨rfl, rfl, rfl, rfl⟩, ⟨⟨rfl, rfl, rfl⟩, mr_0 _ _ _, fun k _ _ => rfl, fun k _ _ => rfl, rfl, rfl, rfl, rfl⟩, ⟨mr_0 _ _ _, rfl⟩, mr_0 _ _ _, mr_0 _ _ _, mr_0 _ _ _, rfl⟩
    · obtain ⟨x, x1, x2, x3⟩ := p6 i (by omega)
      exact ⟨x, by rw [List.getElem?_append_left (by rw [p5]; omega)]; exact x1, by rw [va_up_neq _ _ hh]; exact x2, by rw [if_neg hh]; exact x3⟩
  · (try dsimp only)
    rw [va_up_neq _ _ (by omega)]; exact p7 i (by omega) hi2
theorem t_bookX {N : Nat} {b : mb_bs} {F : mb_m} {C S : Int → Int} {np : Nat} {pr : Int → Int → Int} {nb : Nat} {bk : Nat → vk} {ns : Nat} {sk : Int → Int → Int} {K : Int32 → mb_S → Prop} (hN : 700 ≤ N) (hV : Vw b C S np pr nb bk ns sk) {g l st th od : Int} (hn : nb = 4) (hb : bkO g l st th) (ho : od = 0 ∨ od = 1) (hK : K (zI (-1000003)) (b, F)) : LP_book N b F (zI g) (zI l) (zI st) (zI th) (zI od) K := by
  obtain ⟨hA, hP, ⟨p1, p2, p5, p6, p7⟩, hSk⟩ := id hV
  obtain ⟨h1, h2, h3, h4⟩ := id hb
  unfold LP_book
  (try dsimp only)
  exact b_book ⟨by omega, by omega⟩ ⟨by omega, by omega⟩ ⟨by omega, by omega⟩ ⟨by omega, by omega⟩ ho p1 p2 (fun z z4 => absurd z4 (by omega)) (fun z => absurd hb z) (fun _ z => Or.inr ⟨rfl, hK⟩)
theorem t_sew {N : Nat} {b : mb_bs} {F : mb_m} {C S : Int → Int} {np : Nat} {pr : Int → Int → Int} {nb : Nat} {bk : Nat → vk} {ns : Nat} {sk : Int → Int → Int} {K : Int32 → mb_S → Prop} (hN : 700 ≤ N) (hV : Vw b C S np pr nb bk ns sk) {i : Nat} {v : kN} {mv rp vf vt vw : Int → Int} (hi : i < nb) (hbk : bk i = (v, mv, rp, vf, vt, vw)) {w : Int} (c2 : 0 ≤ w ∧ w ≤ 4)
    (h0 : ¬ (v 6 < 200 ∧ tok (v 0) (v 2) (tr mv (v 6).toNat) w) → K (zI (-1000003)) (b, F))
    (hK : v 6 < 200 → tok (v 0) (v 2) (tr mv (v 6).toNat) w → ∀ b', Vw b' C S np pr nb (bset bk i (kset v 6 (v 6 + 1), fun k => if k = v 6 then w else mv k, rp, vf, vt, vw)) ns sk → K (zI (tstep (tr mv (v 6).toNat) w).2.2.1) (b', F)) : LP_sew N b F (zI i) (zI w) K := by
  obtain ⟨M7, MA, fP, fB, fK, LP, LB, LS⟩ := b
  obtain ⟨hA, hP, hB, hSk⟩ := id hV
  obtain ⟨p1, p2, p5, p6, p7⟩ := id hB
  (try dsimp only at hA hP hB hSk p2 p5 p6 p7)
  obtain ⟨x, x1, x2, x3⟩ := p6 i hi
  rw [hbk] at x3
  obtain ⟨kr, kb⟩ := x3
  (try dsimp only at kr kb)
  have x2' : fB ((i : Int)).toNat = some x.1 := by rw [Int.toNat_natCast]; exact x2
  have hx : LB.take i ++ (x.1, x.2.1, x.2.2.1, x.2.2.2.1, x.2.2.2.2.1, x.2.2.2.2.2.1, x.2.2.2.2.2.2.1, x.2.2.2.2.2.2.2.1, x.2.2.2.2.2.2.2.2) :: LB.drop (i + 1) = LB := (q_split x1).symm
  obtain ⟨r1, r2, r3, r4, r5, r6, r7, r8, r9, r10, r11, r12⟩ := id kr
  obtain ⟨⟨c3, c4, c5, c6⟩, ⟨⟨s0, s1, s5⟩, s4, sb⟩, ⟨q30, q31⟩, q0, q1, q2, q3⟩ := id kb
  have en : (((v 6).toNat : Nat) : Int) = v 6 := by omega
  have hrg := tr_rng r1.1 r3.1 r10
  rw [en] at hrg
  have hf9 : ∀ k, 0 ≤ (tr mv (v 6).toNat).1 k ∧ (tr mv (v 6).toNat).1 k ≤ 200 := fun k => by have := hrg.2.2.2.2.2.2.2.2.1 k; omega
  unfold LP_sew
  (try dsimp only)
  (try simp only [zI_m1, zI_m2, zI_m3])
  refine Or.inl ⟨_, x, _, q_split x1, ?_⟩
  unfold PX7_sew
  refine b_on (by omega) (by omega) (by omega) x2' ?_
  (try dsimp only)
  simp (disch := omega) only [zI_lit, zI_neg, zI_add, zI_sub, zI_mul, zI_div, q_md, zI_lt, zI_le, zI_eq, zI_clamp, zI_vp, forall_eq, mb_u_eq, mb_u_ne, upd_eq, q_isWithin]
  rw [if_pos c2]
  simp (disch := omega) only [zI_lit, zI_neg, zI_add, zI_sub, zI_mul, zI_div, q_md, zI_lt, zI_le, zI_eq, zI_clamp, zI_vp, forall_eq, mb_u_eq, mb_u_ne, upd_eq, q_if, q_ifn, if_pos, if_neg, true_and, and_true, if_true, if_false, q_demandArgument1]
  refine e_allows (g := v 0) (st := v 2) (n := v 6) sb hrg r1.2 r3.2 r7 s0 s1 s5 c2 (fun z1 z2 => ?_) (fun z => ?_)
  · simp (disch := omega) only [zI_lit, zI_neg, zI_add, zI_sub, zI_mul, zI_div, q_md, zI_lt, zI_le, zI_eq, zI_clamp, zI_vp, forall_eq, mb_u_eq, mb_u_ne, upd_eq, q_if, q_ifn, if_pos, if_neg, true_and, and_true, if_true, if_false, q_demandState1]
    refine e_make sb hrg ⟨r7.1, z1⟩ r1.2 r3.2 s4 s5 z2 (fun M' hf g4 g5 gb => ?_)
    have u9 : M' 9 0 = zI (tstep (tr mv (v 6).toNat) w).2.2.1 := gb.2.2.1
    (try dsimp only)
    rw [u9]
    refine hK z1 z2 _ ⟨hA, hP, ?_, hSk⟩
    have et : tr (fun k => if k = v 6 then w else mv k) (v 6 + 1).toNat = tstep (tr mv (v 6).toNat) w := by
      rw [show (v 6 + 1).toNat = (v 6).toNat + 1 by omega]
      have := tr_app (mv := w) (mw := mv) (n := (v 6).toNat)
      rwa [en] at this
    have ev : tv (v 0) (v 2) (fun k => if k = v 6 then w else mv k) (v 6 + 1).toNat := by
      rw [show (v 6 + 1).toNat = (v 6).toNat + 1 by omega]
      have := tv_app r10 z2
      rwa [en] at this
    refine VB_upd hB x1 rfl ⟨⟨r1, r2, r3, r4, r5, r6, ?_, r8, r9, ev, r11, r12⟩, ⟨⟨c3, c4, c5, c6⟩, ⟨⟨mf_m1 hf (by decide) s0, mf_m1 hf (by decide) s1, g5⟩, g4, ?_⟩, ⟨q30, q31⟩, q0, q1, q2, q3⟩⟩
    · show 0 ≤ v 6 + 1 ∧ v 6 + 1 ≤ 200
      omega
    · show Bs M' (tr (fun k => if k = v 6 then w else mv k) (v 6 + 1).toNat)
      rw [et]; exact gb
  · simp (disch := omega) only [zI_lit, zI_neg, zI_add, zI_sub, zI_mul, zI_div, q_md, zI_lt, zI_le, zI_eq, zI_clamp, zI_vp, forall_eq, mb_u_eq, mb_u_ne, upd_eq, q_if, q_ifn, if_pos, if_neg, true_and, and_true, if_true, if_false, q_demandState0]
    rw [hx]
    exact Or.inr (Or.inr ⟨rfl, h0 z⟩)
theorem t_unsew {N : Nat} {b : mb_bs} {F : mb_m} {C S : Int → Int} {np : Nat} {pr : Int → Int → Int} {nb : Nat} {bk : Nat → vk} {ns : Nat} {sk : Int → Int → Int} {K : Int32 → mb_S → Prop} (hN : 700 ≤ N) (hV : Vw b C S np pr nb bk ns sk) {i : Nat} {v : kN} {mv rp vf vt vw : Int → Int} (hi : i < nb) (hbk : bk i = (v, mv, rp, vf, vt, vw)) {w : Int} (c2 : 1 ≤ w ∧ w ≤ 200)
    (h0 : v 6 < w → K (zI (-1000003)) (b, F))
    (hK : w ≤ v 6 → ∀ b', Vw b' C S np pr nb (bset bk i (kset v 6 (v 6 - w), mv, rp, vf, vt, vw)) ns sk → K (zI (tr mv (v 6 - w).toNat).2.2.1) (b', F)) : LP_unsew N b F (zI i) (zI w) K := by
  obtain ⟨M7, MA, fP, fB, fK, LP, LB, LS⟩ := b
  obtain ⟨hA, hP, hB, hSk⟩ := id hV
  obtain ⟨p1, p2, p5, p6, p7⟩ := id hB
  (try dsimp only at hA hP hB hSk p2 p5 p6 p7)
  obtain ⟨x, x1, x2, x3⟩ := p6 i hi
  rw [hbk] at x3
  obtain ⟨kr, kb⟩ := x3
  (try dsimp only at kr kb)
  have x2' : fB ((i : Int)).toNat = some x.1 := by rw [Int.toNat_natCast]; exact x2
  have hx : LB.take i ++ (x.1, x.2.1, x.2.2.1, x.2.2.2.1, x.2.2.2.2.1, x.2.2.2.2.2.1, x.2.2.2.2.2.2.1, x.2.2.2.2.2.2.2.1, x.2.2.2.2.2.2.2.2) :: LB.drop (i + 1) = LB := (q_split x1).symm
  obtain ⟨r1, r2, r3, r4, r5, r6, r7, r8, r9, r10, r11, r12⟩ := id kr
  obtain ⟨⟨c3, c4, c5, c6⟩, ⟨⟨s0, s1, s5⟩, s4, sb⟩, ⟨q30, q31⟩, q0, q1, q2, q3⟩ := id kb
  have en : (((v 6).toNat : Nat) : Int) = v 6 := by omega
  have hrg := tr_rng r1.1 r3.1 r10
  rw [en] at hrg
  have hf9 : ∀ k, 0 ≤ (tr mv (v 6).toNat).1 k ∧ (tr mv (v 6).toNat).1 k ≤ 200 := fun k => by have := hrg.2.2.2.2.2.2.2.2.1 k; omega
  unfold LP_unsew
  (try dsimp only)
  (try simp only [zI_m1, zI_m2, zI_m3])
  refine Or.inl ⟨_, x, _, q_split x1, ?_⟩
  unfold PX7_unsew
  refine b_on (by omega) (by omega) (by omega) x2' ?_
  (try dsimp only)
  have w5 : x.2.2.2.2.2.2.1 5 0 = zI (v 6) := s5
  simp (disch := omega) only [zI_lit, zI_neg, zI_add, zI_sub, zI_mul, zI_div, q_md, zI_lt, zI_le, zI_eq, zI_clamp, zI_vp, forall_eq, mb_u_eq, mb_u_ne, upd_eq, q_isWithin]
  rw [if_pos c2]
  unfold PX7_unsew_33
  simp (disch := omega) only [zI_lit, zI_neg, zI_add, zI_sub, zI_mul, zI_div, q_md, zI_lt, zI_le, zI_eq, zI_clamp, zI_vp, forall_eq, mb_u_eq, mb_u_ne, upd_eq, q_if, q_ifn, if_pos, if_neg, true_and, and_true, if_true, if_false, q_demandArgument1, q_demandState0, q_demandState1, w5]
  split
  · rw [hx]
    exact Or.inr (Or.inr ⟨rfl, h0 (by omega)⟩)
  · refine b_unsew (n := v 6) hN (by omega) (by omega) r1 r3 r10 s4 s5 sb (fun M' hf g5 gb => ?_)
    refine hK (by omega) _ ⟨hA, hP, ?_, hSk⟩
    refine VB_upd hB x1 rfl ⟨⟨r1, r2, r3, r4, r5, r6, ?_, r8, r9, fun j hj => ?_, r11, r12⟩, ⟨⟨c3, c4, c5, c6⟩, ⟨⟨mf_m1 hf (by decide) s0, mf_m1 hf (by decide) s1, g5⟩, fun e e1 e2 => ?_, gb⟩, ⟨q30, q31⟩, q0, q1, q2, q3⟩⟩
    · show 0 ≤ v 6 - w ∧ v 6 - w ≤ 200
      omega
    · have hj : j < (v 6 - w).toNat := hj
      exact r10 j (by omega)
    · have e2 : e < v 6 - w := e2
      show M' 4 _ = _
      rw [hf 4 (by decide)]; exact s4 e e1 (by omega)
theorem t_ofThread {N : Nat} {b : mb_bs} {F : mb_m} {C S : Int → Int} {np : Nat} {pr : Int → Int → Int} {nb : Nat} {bk : Nat → vk} {ns : Nat} {sk : Int → Int → Int} {K : Int32 → mb_S → Prop} (hN : 700 ≤ N) (hV : Vw b C S np pr nb bk ns sk) {i : Nat} {v : kN} {mv rp vf vt vw : Int → Int} (hi : i < nb) (hbk : bk i = (v, mv, rp, vf, vt, vw)) {w : Int} (c2 : 0 ≤ w ∧ w ≤ 5) (e0 : w = 0 → K (zI (tr mv (v 6).toNat).2.2.1) (b, F)) (e1 : w = 1 → K (zI (tr mv (v 6).toNat).2.2.2.1) (b, F)) (e2 : w = 2 → K (zI (tr mv (v 6).toNat).2.2.2.2.1) (b, F))
    (e3 : w = 3 → ((tr mv (v 6).toNat).2.2.2.2.2 = 0 → K (zI 0) (b, F)) ∧ ((tr mv (v 6).toNat).2.2.2.2.2 = 1 → K (zI 1) (b, F))) (e4 : w = 4 → K (zI (v 6)) (b, F))
    (e5 : w = 5 → (swn (v 0) (v 2) (tr mv (v 6).toNat) → K (zI 1) (b, F)) ∧ (¬ swn (v 0) (v 2) (tr mv (v 6).toNat) → K (zI 0) (b, F))) : LP_ofThread N b F (zI i) (zI w) K := by
  obtain ⟨M7, MA, fP, fB, fK, LP, LB, LS⟩ := b
  obtain ⟨hA, hP, hB, hSk⟩ := id hV
  obtain ⟨p1, p2, p5, p6, p7⟩ := id hB
  (try dsimp only at hA hP hB hSk p2 p5 p6 p7)
  obtain ⟨x, x1, x2, x3⟩ := p6 i hi
  rw [hbk] at x3
  obtain ⟨kr, kb⟩ := x3
  (try dsimp only at kr kb)
  have x2' : fB ((i : Int)).toNat = some x.1 := by rw [Int.toNat_natCast]; exact x2
  have hx : LB.take i ++ (x.1, x.2.1, x.2.2.1, x.2.2.2.1, x.2.2.2.2.1, x.2.2.2.2.2.1, x.2.2.2.2.2.2.1, x.2.2.2.2.2.2.2.1, x.2.2.2.2.2.2.2.2) :: LB.drop (i + 1) = LB := (q_split x1).symm
  obtain ⟨r1, r2, r3, r4, r5, r6, r7, r8, r9, r10, r11, r12⟩ := id kr
  obtain ⟨⟨c3, c4, c5, c6⟩, ⟨⟨s0, s1, s5⟩, s4, sb⟩, ⟨q30, q31⟩, q0, q1, q2, q3⟩ := id kb
  have en : (((v 6).toNat : Nat) : Int) = v 6 := by omega
  have hrg := tr_rng r1.1 r3.1 r10
  rw [en] at hrg
  have hf9 : ∀ k, 0 ≤ (tr mv (v 6).toNat).1 k ∧ (tr mv (v 6).toNat).1 k ≤ 200 := fun k => by have := hrg.2.2.2.2.2.2.2.2.1 k; omega
  unfold LP_ofThread
  (try dsimp only)
  (try simp only [zI_m1, zI_m2, zI_m3])
  refine Or.inl ⟨_, x, _, q_split x1, ?_⟩
  unfold PX7_ofThread
  refine b_on (by omega) (by omega) (by omega) x2' ?_
  (try dsimp only)
  have w5 : x.2.2.2.2.2.2.1 5 0 = zI (v 6) := s5
  have w9 : x.2.2.2.2.2.2.1 9 0 = zI (tr mv (v 6).toNat).2.2.1 := sb.2.2.1
  have w6 : x.2.2.2.2.2.2.1 6 0 = zI (tr mv (v 6).toNat).2.2.2.1 := sb.2.2.2.1
  have w7 : x.2.2.2.2.2.2.1 7 0 = zI (tr mv (v 6).toNat).2.2.2.2.1 := sb.2.2.2.2.1
  have w8 : x.2.2.2.2.2.2.1 8 0 = zI (tr mv (v 6).toNat).2.2.2.2.2 := sb.2.2.2.2.2
  simp (disch := omega) only [zI_lit, zI_neg, zI_add, zI_sub, zI_mul, zI_div, q_md, zI_lt, zI_le, zI_eq, zI_clamp, zI_vp, forall_eq, mb_u_eq, mb_u_ne, upd_eq, q_isWithin]
  rw [if_pos c2]
  have hti : (zI w).toInt = w := zI_ti (by omega) (by omega)
  obtain ⟨a1', a2', a3', a4', a5', a6', a7', a8', a9', a10'⟩ := id hrg
  simp (disch := omega) only [zI_lit, zI_neg, zI_add, zI_sub, zI_mul, zI_div, q_md, zI_lt, zI_le, zI_eq, zI_clamp, zI_vp, forall_eq, mb_u_eq, mb_u_ne, upd_eq, q_if, q_ifn, if_pos, if_neg, true_and, and_true, if_true, if_false, q_demandArgument1, hti, w9, w6, w7, w8, w5]
  refine ⟨fun z => ?_, fun z => ?_, fun z => ?_, fun z => ?_, fun z => ?_, fun z => ?_⟩
  · refine e_isSewn hN sb hrg r7 r1 r3 s0 s1 (fun y => ?_) (fun y => ?_)
    · simp (disch := omega) only [zI_lit, zI_neg, zI_add, zI_sub, zI_mul, zI_div, q_md, zI_lt, zI_le, zI_eq, zI_clamp, zI_vp, forall_eq, mb_u_eq, mb_u_ne, upd_eq, q_if, q_ifn, if_pos, if_neg, true_and, and_true, if_true, if_false]
      rw [hx]
      exact (e5 (by omega)).1 y
    · simp (disch := omega) only [zI_lit, zI_neg, zI_add, zI_sub, zI_mul, zI_div, q_md, zI_lt, zI_le, zI_eq, zI_clamp, zI_vp, forall_eq, mb_u_eq, mb_u_ne, upd_eq, q_if, q_ifn, if_pos, if_neg, true_and, and_true, if_true, if_false]
      rw [hx]
      exact (e5 (by omega)).2 y
  · rw [hx]; exact e0 (by omega)
  · rw [hx]; exact e1 (by omega)
  · rw [hx]; exact e2 (by omega)
  · (repeat' split) <;> (rw [hx]; first | exact (e3 (by omega)).1 (by omega) | exact (e3 (by omega)).2 (by omega))
  · rw [hx]; exact e4 (by omega)
theorem t_ofThreadX {N : Nat} {b : mb_bs} {F : mb_m} {C S : Int → Int} {np : Nat} {pr : Int → Int → Int} {nb : Nat} {bk : Nat → vk} {ns : Nat} {sk : Int → Int → Int} {K : Int32 → mb_S → Prop} (hN : 700 ≤ N) (hV : Vw b C S np pr nb bk ns sk) {i : Nat} {v : kN} {mv rp vf vt vw : Int → Int} (hi : i < nb) (hbk : bk i = (v, mv, rp, vf, vt, vw)) {w : Int} (c2 : ¬ (0 ≤ w ∧ w ≤ 5)) (l : -2147483648 ≤ w) (g : w < 2147483648) (hK : K (zI (-1000002)) (b, F)) : LP_ofThread N b F (zI i) (zI w) K := by
  obtain ⟨M7, MA, fP, fB, fK, LP, LB, LS⟩ := b
  obtain ⟨hA, hP, hB, hSk⟩ := id hV
  obtain ⟨p1, p2, p5, p6, p7⟩ := id hB
  (try dsimp only at hA hP hB hSk p2 p5 p6 p7)
  obtain ⟨x, x1, x2, x3⟩ := p6 i hi
  rw [hbk] at x3
  obtain ⟨kr, kb⟩ := x3
  (try dsimp only at kr kb)
  have x2' : fB ((i : Int)).toNat = some x.1 := by rw [Int.toNat_natCast]; exact x2
  have hx : LB.take i ++ (x.1, x.2.1, x.2.2.1, x.2.2.2.1, x.2.2.2.2.1, x.2.2.2.2.2.1, x.2.2.2.2.2.2.1, x.2.2.2.2.2.2.2.1, x.2.2.2.2.2.2.2.2) :: LB.drop (i + 1) = LB := (q_split x1).symm
  obtain ⟨r1, r2, r3, r4, r5, r6, r7, r8, r9, r10, r11, r12⟩ := id kr
  obtain ⟨⟨c3, c4, c5, c6⟩, ⟨⟨s0, s1, s5⟩, s4, sb⟩, ⟨q30, q31⟩, q0, q1, q2, q3⟩ := id kb
  have en : (((v 6).toNat : Nat) : Int) = v 6 := by omega
  have hrg := tr_rng r1.1 r3.1 r10
  rw [en] at hrg
  have hf9 : ∀ k, 0 ≤ (tr mv (v 6).toNat).1 k ∧ (tr mv (v 6).toNat).1 k ≤ 200 := fun k => by have := hrg.2.2.2.2.2.2.2.2.1 k; omega
  unfold LP_ofThread
  (try dsimp only)
  (try simp only [zI_m1, zI_m2, zI_m3])
  refine Or.inl ⟨_, x, _, q_split x1, ?_⟩
  unfold PX7_ofThread
  refine b_on (by omega) (by omega) (by omega) x2' ?_
  (try dsimp only)
  simp (disch := omega) only [zI_lit, zI_neg, zI_add, zI_sub, zI_mul, zI_div, q_md, zI_lt, zI_le, zI_eq, zI_clamp, zI_vp, forall_eq, mb_u_eq, mb_u_ne, upd_eq, q_isWithin]
  rw [if_neg c2]
  simp (disch := omega) only [zI_lit, zI_neg, zI_add, zI_sub, zI_mul, zI_div, q_md, zI_lt, zI_le, zI_eq, zI_clamp, zI_vp, forall_eq, mb_u_eq, mb_u_ne, upd_eq, q_if, q_ifn, if_pos, if_neg, true_and, and_true, if_true, if_false, q_demandArgument0]
  rw [hx]
  exact Or.inr ⟨rfl, hK⟩
theorem t_oT0 {N : Nat} {b : mb_bs} {F : mb_m} {C S : Int → Int} {np : Nat} {pr : Int → Int → Int} {nb : Nat} {bk : Nat → vk} {ns : Nat} {sk : Int → Int → Int} {K : Int32 → mb_S → Prop} (hN : 700 ≤ N) (hV : Vw b C S np pr nb bk ns sk) {i : Nat} {v : kN} {mv rp vf vt vw : Int → Int} (hi : i < nb) (hbk : bk i = (v, mv, rp, vf, vt, vw)) (hK : K (zI (tr mv (v 6).toNat).2.2.1) (b, F)) : LP_ofThread N b F (zI i) (zI 0) K :=
  t_ofThread hN hV hi hbk (by omega) (fun _ => hK) (fun z => absurd z (by omega)) (fun z => absurd z (by omega)) (fun z => absurd z (by omega)) (fun z => absurd z (by omega)) (fun z => absurd z (by omega))
theorem t_oT1 {N : Nat} {b : mb_bs} {F : mb_m} {C S : Int → Int} {np : Nat} {pr : Int → Int → Int} {nb : Nat} {bk : Nat → vk} {ns : Nat} {sk : Int → Int → Int} {K : Int32 → mb_S → Prop} (hN : 700 ≤ N) (hV : Vw b C S np pr nb bk ns sk) {i : Nat} {v : kN} {mv rp vf vt vw : Int → Int} (hi : i < nb) (hbk : bk i = (v, mv, rp, vf, vt, vw)) (hK : K (zI (tr mv (v 6).toNat).2.2.2.1) (b, F)) : LP_ofThread N b F (zI i) (zI 1) K :=
  t_ofThread hN hV hi hbk (by omega) (fun z => absurd z (by omega)) (fun _ => hK) (fun z => absurd z (by omega)) (fun z => absurd z (by omega)) (fun z => absurd z (by omega)) (fun z => absurd z (by omega))
theorem t_oT2 {N : Nat} {b : mb_bs} {F : mb_m} {C S : Int → Int} {np : Nat} {pr : Int → Int → Int} {nb : Nat} {bk : Nat → vk} {ns : Nat} {sk : Int → Int → Int} {K : Int32 → mb_S → Prop} (hN : 700 ≤ N) (hV : Vw b C S np pr nb bk ns sk) {i : Nat} {v : kN} {mv rp vf vt vw : Int → Int} (hi : i < nb) (hbk : bk i = (v, mv, rp, vf, vt, vw)) (hK : K (zI (tr mv (v 6).toNat).2.2.2.2.1) (b, F)) : LP_ofThread N b F (zI i) (zI 2) K :=
  t_ofThread hN hV hi hbk (by omega) (fun z => absurd z (by omega)) (fun z => absurd z (by omega)) (fun _ => hK) (fun z => absurd z (by omega)) (fun z => absurd z (by omega)) (fun z => absurd z (by omega))
theorem t_oT3 {N : Nat} {b : mb_bs} {F : mb_m} {C S : Int → Int} {np : Nat} {pr : Int → Int → Int} {nb : Nat} {bk : Nat → vk} {ns : Nat} {sk : Int → Int → Int} {K : Int32 → mb_S → Prop} (hN : 700 ≤ N) (hV : Vw b C S np pr nb bk ns sk) {i : Nat} {v : kN} {mv rp vf vt vw : Int → Int} (hi : i < nb) (hbk : bk i = (v, mv, rp, vf, vt, vw)) (hK : K (zI (tr mv (v 6).toNat).2.2.2.2.2) (b, F)) : LP_ofThread N b F (zI i) (zI 3) K :=
  t_ofThread hN hV hi hbk (by omega) (fun z => absurd z (by omega)) (fun z => absurd z (by omega)) (fun z => absurd z (by omega)) (fun _ => ⟨fun e => by rw [e] at hK; exact hK, fun e => by rw [e] at hK; exact hK⟩) (fun z => absurd z (by omega)) (fun z => absurd z (by omega))
theorem t_oT4 {N : Nat} {b : mb_bs} {F : mb_m} {C S : Int → Int} {np : Nat} {pr : Int → Int → Int} {nb : Nat} {bk : Nat → vk} {ns : Nat} {sk : Int → Int → Int} {K : Int32 → mb_S → Prop} (hN : 700 ≤ N) (hV : Vw b C S np pr nb bk ns sk) {i : Nat} {v : kN} {mv rp vf vt vw : Int → Int} (hi : i < nb) (hbk : bk i = (v, mv, rp, vf, vt, vw)) (hK : K (zI (v 6)) (b, F)) : LP_ofThread N b F (zI i) (zI 4) K :=
  t_ofThread hN hV hi hbk (by omega) (fun z => absurd z (by omega)) (fun z => absurd z (by omega)) (fun z => absurd z (by omega)) (fun z => absurd z (by omega)) (fun _ => hK) (fun z => absurd z (by omega))
/-- 1 for a sewn book -/
noncomputable def sw1 (v : kN) (mv : Int → Int) : Int := by
  classical
  exact if swn (v 0) (v 2) (tr mv (v 6).toNat) then 1 else 0
theorem sw1_t {v : kN} {mv : Int → Int} (h : swn (v 0) (v 2) (tr mv (v 6).toNat)) : sw1 v mv = 1 := by unfold sw1; rw [if_pos h]
theorem sw1_f {v : kN} {mv : Int → Int} (h : ¬ swn (v 0) (v 2) (tr mv (v 6).toNat)) : sw1 v mv = 0 := by unfold sw1; rw [if_neg h]
theorem sw1_r (v : kN) (mv : Int → Int) : (sw1 v mv = 1 ∧ swn (v 0) (v 2) (tr mv (v 6).toNat)) ∨ (sw1 v mv = 0 ∧ ¬ swn (v 0) (v 2) (tr mv (v 6).toNat)) := by
  by_cases h : swn (v 0) (v 2) (tr mv (v 6).toNat)
  · exact Or.inl ⟨sw1_t h, h⟩
  · exact Or.inr ⟨sw1_f h, h⟩
theorem t_oT5 {N : Nat} {b : mb_bs} {F : mb_m} {C S : Int → Int} {np : Nat} {pr : Int → Int → Int} {nb : Nat} {bk : Nat → vk} {ns : Nat} {sk : Int → Int → Int} {K : Int32 → mb_S → Prop} (hN : 700 ≤ N) (hV : Vw b C S np pr nb bk ns sk) {i : Nat} {v : kN} {mv rp vf vt vw : Int → Int} (hi : i < nb) (hbk : bk i = (v, mv, rp, vf, vt, vw)) (hK : K (zI (sw1 v mv)) (b, F)) : LP_ofThread N b F (zI i) (zI 5) K :=
  t_ofThread hN hV hi hbk (by omega) (fun z => absurd z (by omega)) (fun z => absurd z (by omega)) (fun z => absurd z (by omega)) (fun z => absurd z (by omega)) (fun z => absurd z (by omega)) (fun _ => ⟨fun e => by rw [sw1_t e] at hK; exact hK, fun e => by rw [sw1_f e] at hK; exact hK⟩)
theorem t_stitches {N : Nat} {b : mb_bs} {F : mb_m} {C S : Int → Int} {np : Nat} {pr : Int → Int → Int} {nb : Nat} {bk : Nat → vk} {ns : Nat} {sk : Int → Int → Int} {K : Int32 → mb_S → Prop} (hN : 700 ≤ N) (hV : Vw b C S np pr nb bk ns sk) {i : Nat} {v : kN} {mv rp vf vt vw : Int → Int} (hi : i < nb) (hbk : bk i = (v, mv, rp, vf, vt, vw)) {g p : Int} (hg : 0 ≤ g ∧ g < v 0) (hp : 0 ≤ p ∧ p ≤ v 2 - 2) (hK : K (zI ((tr mv (v 6).toNat).1 (5 * g + p))) (b, F)) : LP_stitches N b F (zI i) (zI g) (zI p) K := by
  obtain ⟨M7, MA, fP, fB, fK, LP, LB, LS⟩ := b
  obtain ⟨hA, hP, hB, hSk⟩ := id hV
  obtain ⟨p1, p2, p5, p6, p7⟩ := id hB
  (try dsimp only at hA hP hB hSk p2 p5 p6 p7)
  obtain ⟨x, x1, x2, x3⟩ := p6 i hi
  rw [hbk] at x3
  obtain ⟨kr, kb⟩ := x3
  (try dsimp only at kr kb)
  have x2' : fB ((i : Int)).toNat = some x.1 := by rw [Int.toNat_natCast]; exact x2
  have hx : LB.take i ++ (x.1, x.2.1, x.2.2.1, x.2.2.2.1, x.2.2.2.2.1, x.2.2.2.2.2.1, x.2.2.2.2.2.2.1, x.2.2.2.2.2.2.2.1, x.2.2.2.2.2.2.2.2) :: LB.drop (i + 1) = LB := (q_split x1).symm
  obtain ⟨r1, r2, r3, r4, r5, r6, r7, r8, r9, r10, r11, r12⟩ := id kr
  obtain ⟨⟨c3, c4, c5, c6⟩, ⟨⟨s0, s1, s5⟩, s4, sb⟩, ⟨q30, q31⟩, q0, q1, q2, q3⟩ := id kb
  have en : (((v 6).toNat : Nat) : Int) = v 6 := by omega
  have hrg := tr_rng r1.1 r3.1 r10
  rw [en] at hrg
  have hf9 : ∀ k, 0 ≤ (tr mv (v 6).toNat).1 k ∧ (tr mv (v 6).toNat).1 k ≤ 200 := fun k => by have := hrg.2.2.2.2.2.2.2.2.1 k; omega
  unfold LP_stitches
  (try dsimp only)
  (try simp only [zI_m1, zI_m2, zI_m3])
  refine Or.inl ⟨_, x, _, q_split x1, ?_⟩
  unfold PX7_stitches
  refine b_on (by omega) (by omega) (by omega) x2' ?_
  (try dsimp only)
  have w0 : x.2.2.2.2.2.2.1 0 0 = zI (v 0) := s0
  have w1 : x.2.2.2.2.2.2.1 1 0 = zI (v 2) := s1
  unfold PX7_stitches_45
  simp (disch := omega) only [zI_lit, zI_neg, zI_add, zI_sub, zI_mul, zI_div, q_md, zI_lt, zI_le, zI_eq, zI_clamp, zI_vp, forall_eq, mb_u_eq, mb_u_ne, upd_eq, q_isWithin, w0, w1]
  rw [if_pos (by omega), if_pos hp]
  simp (disch := omega) only [zI_lit, zI_neg, zI_add, zI_sub, zI_mul, zI_div, q_md, zI_lt, zI_le, zI_eq, zI_clamp, zI_vp, forall_eq, mb_u_eq, mb_u_ne, upd_eq, q_if, q_ifn, if_pos, if_neg, true_and, and_true, if_true, if_false, q_demandPlace1, q_stitchesAt sb.1]
  rw [hx]
  exact hK
theorem t_stitchesX {N : Nat} {b : mb_bs} {F : mb_m} {C S : Int → Int} {np : Nat} {pr : Int → Int → Int} {nb : Nat} {bk : Nat → vk} {ns : Nat} {sk : Int → Int → Int} {K : Int32 → mb_S → Prop} (hN : 700 ≤ N) (hV : Vw b C S np pr nb bk ns sk) {i : Nat} {v : kN} {mv rp vf vt vw : Int → Int} (hi : i < nb) (hbk : bk i = (v, mv, rp, vf, vt, vw)) {g p : Int} (hg : 0 ≤ g ∧ g < v 0) (hp : ¬ (0 ≤ p ∧ p ≤ v 2 - 2)) (l : -2147483648 ≤ p) (h : p < 2147483648) (hK : K (zI (-1000001)) (b, F)) : LP_stitches N b F (zI i) (zI g) (zI p) K := by
  obtain ⟨M7, MA, fP, fB, fK, LP, LB, LS⟩ := b
  obtain ⟨hA, hP, hB, hSk⟩ := id hV
  obtain ⟨p1, p2, p5, p6, p7⟩ := id hB
  (try dsimp only at hA hP hB hSk p2 p5 p6 p7)
  obtain ⟨x, x1, x2, x3⟩ := p6 i hi
  rw [hbk] at x3
  obtain ⟨kr, kb⟩ := x3
  (try dsimp only at kr kb)
  have x2' : fB ((i : Int)).toNat = some x.1 := by rw [Int.toNat_natCast]; exact x2
  have hx : LB.take i ++ (x.1, x.2.1, x.2.2.1, x.2.2.2.1, x.2.2.2.2.1, x.2.2.2.2.2.1, x.2.2.2.2.2.2.1, x.2.2.2.2.2.2.2.1, x.2.2.2.2.2.2.2.2) :: LB.drop (i + 1) = LB := (q_split x1).symm
  obtain ⟨r1, r2, r3, r4, r5, r6, r7, r8, r9, r10, r11, r12⟩ := id kr
  obtain ⟨⟨c3, c4, c5, c6⟩, ⟨⟨s0, s1, s5⟩, s4, sb⟩, ⟨q30, q31⟩, q0, q1, q2, q3⟩ := id kb
  have en : (((v 6).toNat : Nat) : Int) = v 6 := by omega
  have hrg := tr_rng r1.1 r3.1 r10
  rw [en] at hrg
  have hf9 : ∀ k, 0 ≤ (tr mv (v 6).toNat).1 k ∧ (tr mv (v 6).toNat).1 k ≤ 200 := fun k => by have := hrg.2.2.2.2.2.2.2.2.1 k; omega
  unfold LP_stitches
  (try dsimp only)
  (try simp only [zI_m1, zI_m2, zI_m3])
  refine Or.inl ⟨_, x, _, q_split x1, ?_⟩
  unfold PX7_stitches
  refine b_on (by omega) (by omega) (by omega) x2' ?_
  (try dsimp only)
  have w0 : x.2.2.2.2.2.2.1 0 0 = zI (v 0) := s0
  have w1 : x.2.2.2.2.2.2.1 1 0 = zI (v 2) := s1
  unfold PX7_stitches_44 PX7_stitches_45
  simp (disch := omega) only [zI_lit, zI_neg, zI_add, zI_sub, zI_mul, zI_div, q_md, zI_lt, zI_le, zI_eq, zI_clamp, zI_vp, forall_eq, mb_u_eq, mb_u_ne, upd_eq, q_isWithin, w0, w1]
  rw [if_pos (by omega), if_neg hp]
  simp (disch := omega) only [zI_lit, zI_neg, zI_add, zI_sub, zI_mul, zI_div, q_md, zI_lt, zI_le, zI_eq, zI_clamp, zI_vp, forall_eq, mb_u_eq, mb_u_ne, upd_eq, q_if, q_ifn, if_pos, if_neg, true_and, and_true, if_true, if_false, q_demandPlace0]
  rw [hx]
  exact ⟨rfl, hK⟩
theorem t_isHeld {N : Nat} {b : mb_bs} {F : mb_m} {C S : Int → Int} {np : Nat} {pr : Int → Int → Int} {nb : Nat} {bk : Nat → vk} {ns : Nat} {sk : Int → Int → Int} {K : Int32 → mb_S → Prop} (hN : 700 ≤ N) (hV : Vw b C S np pr nb bk ns sk) {i : Nat} {v : kN} {mv rp vf vt vw : Int → Int} (hi : i < nb) (hbk : bk i = (v, mv, rp, vf, vt, vw)) {g : Int} (hg : 0 ≤ g ∧ g < v 0) (h1 : v 2 / 2 ≤ hq (v 2) (tr mv (v 6).toNat).1 g → K (zI 1) (b, F)) (h0 : ¬ v 2 / 2 ≤ hq (v 2) (tr mv (v 6).toNat).1 g → K (zI 0) (b, F)) : LP_isHeld N b F (zI i) (zI g) K := by
  obtain ⟨M7, MA, fP, fB, fK, LP, LB, LS⟩ := b
  obtain ⟨hA, hP, hB, hSk⟩ := id hV
  obtain ⟨p1, p2, p5, p6, p7⟩ := id hB
  (try dsimp only at hA hP hB hSk p2 p5 p6 p7)
  obtain ⟨x, x1, x2, x3⟩ := p6 i hi
  rw [hbk] at x3
  obtain ⟨kr, kb⟩ := x3
  (try dsimp only at kr kb)
  have x2' : fB ((i : Int)).toNat = some x.1 := by rw [Int.toNat_natCast]; exact x2
  have hx : LB.take i ++ (x.1, x.2.1, x.2.2.1, x.2.2.2.1, x.2.2.2.2.1, x.2.2.2.2.2.1, x.2.2.2.2.2.2.1, x.2.2.2.2.2.2.2.1, x.2.2.2.2.2.2.2.2) :: LB.drop (i + 1) = LB := (q_split x1).symm
  obtain ⟨r1, r2, r3, r4, r5, r6, r7, r8, r9, r10, r11, r12⟩ := id kr
  obtain ⟨⟨c3, c4, c5, c6⟩, ⟨⟨s0, s1, s5⟩, s4, sb⟩, ⟨q30, q31⟩, q0, q1, q2, q3⟩ := id kb
  have en : (((v 6).toNat : Nat) : Int) = v 6 := by omega
  have hrg := tr_rng r1.1 r3.1 r10
  rw [en] at hrg
  have hf9 : ∀ k, 0 ≤ (tr mv (v 6).toNat).1 k ∧ (tr mv (v 6).toNat).1 k ≤ 200 := fun k => by have := hrg.2.2.2.2.2.2.2.2.1 k; omega
  unfold LP_isHeld
  (try dsimp only)
  (try simp only [zI_m1, zI_m2, zI_m3])
  refine Or.inl ⟨_, x, _, q_split x1, ?_⟩
  unfold PX7_isHeld
  refine b_on (by omega) (by omega) (by omega) x2' ?_
  (try dsimp only)
  have w0 : x.2.2.2.2.2.2.1 0 0 = zI (v 0) := s0
  simp (disch := omega) only [zI_lit, zI_neg, zI_add, zI_sub, zI_mul, zI_div, q_md, zI_lt, zI_le, zI_eq, zI_clamp, zI_vp, forall_eq, mb_u_eq, mb_u_ne, upd_eq, q_isWithin, w0]
  rw [if_pos (by omega)]
  simp (disch := omega) only [zI_lit, zI_neg, zI_add, zI_sub, zI_mul, zI_div, q_md, zI_lt, zI_le, zI_eq, zI_clamp, zI_vp, forall_eq, mb_u_eq, mb_u_ne, upd_eq, q_if, q_ifn, if_pos, if_neg, true_and, and_true, if_true, if_false, q_demandPlace1]
  refine e_holds hN sb.1 s1 hf9 (by omega) r3 (fun z => ⟨Or.inr rfl, ?_⟩) (fun z => ⟨Or.inl rfl, ?_⟩)
  · rw [hx]
    exact ⟨Or.inr rfl, h1 z⟩
  · rw [hx]
    exact ⟨Or.inl rfl, h0 z⟩
theorem t_isHeldX {N : Nat} {b : mb_bs} {F : mb_m} {C S : Int → Int} {np : Nat} {pr : Int → Int → Int} {nb : Nat} {bk : Nat → vk} {ns : Nat} {sk : Int → Int → Int} {K : Int32 → mb_S → Prop} (hN : 700 ≤ N) (hV : Vw b C S np pr nb bk ns sk) {i : Nat} {v : kN} {mv rp vf vt vw : Int → Int} (hi : i < nb) (hbk : bk i = (v, mv, rp, vf, vt, vw)) {g : Int} (hg : ¬ (0 ≤ g ∧ g ≤ v 0 - 1)) (l : -2147483648 ≤ g) (h : g < 2147483648) (hK : K (zI (-1000001)) (b, F)) : LP_isHeld N b F (zI i) (zI g) K := by
  obtain ⟨M7, MA, fP, fB, fK, LP, LB, LS⟩ := b
  obtain ⟨hA, hP, hB, hSk⟩ := id hV
  obtain ⟨p1, p2, p5, p6, p7⟩ := id hB
  (try dsimp only at hA hP hB hSk p2 p5 p6 p7)
  obtain ⟨x, x1, x2, x3⟩ := p6 i hi
  rw [hbk] at x3
  obtain ⟨kr, kb⟩ := x3
  (try dsimp only at kr kb)
  have x2' : fB ((i : Int)).toNat = some x.1 := by rw [Int.toNat_natCast]; exact x2
  have hx : LB.take i ++ (x.1, x.2.1, x.2.2.1, x.2.2.2.1, x.2.2.2.2.1, x.2.2.2.2.2.1, x.2.2.2.2.2.2.1, x.2.2.2.2.2.2.2.1, x.2.2.2.2.2.2.2.2) :: LB.drop (i + 1) = LB := (q_split x1).symm
  obtain ⟨r1, r2, r3, r4, r5, r6, r7, r8, r9, r10, r11, r12⟩ := id kr
  obtain ⟨⟨c3, c4, c5, c6⟩, ⟨⟨s0, s1, s5⟩, s4, sb⟩, ⟨q30, q31⟩, q0, q1, q2, q3⟩ := id kb
  have en : (((v 6).toNat : Nat) : Int) = v 6 := by omega
  have hrg := tr_rng r1.1 r3.1 r10
  rw [en] at hrg
  have hf9 : ∀ k, 0 ≤ (tr mv (v 6).toNat).1 k ∧ (tr mv (v 6).toNat).1 k ≤ 200 := fun k => by have := hrg.2.2.2.2.2.2.2.2.1 k; omega
  unfold LP_isHeld
  (try dsimp only)
  (try simp only [zI_m1, zI_m2, zI_m3])
  refine Or.inl ⟨_, x, _, q_split x1, ?_⟩
  unfold PX7_isHeld
  refine b_on (by omega) (by omega) (by omega) x2' ?_
  (try dsimp only)
  have w0 : x.2.2.2.2.2.2.1 0 0 = zI (v 0) := s0
  simp (disch := omega) only [zI_lit, zI_neg, zI_add, zI_sub, zI_mul, zI_div, q_md, zI_lt, zI_le, zI_eq, zI_clamp, zI_vp, forall_eq, mb_u_eq, mb_u_ne, upd_eq, q_isWithin, w0]
  rw [if_neg hg]
  simp (disch := omega) only [zI_lit, zI_neg, zI_add, zI_sub, zI_mul, zI_div, q_md, zI_lt, zI_le, zI_eq, zI_clamp, zI_vp, forall_eq, mb_u_eq, mb_u_ne, upd_eq, q_if, q_ifn, if_pos, if_neg, true_and, and_true, if_true, if_false, q_demandPlace0]
  rw [hx]
  exact ⟨rfl, hK⟩
/-! spines, openings -/
theorem t_back {N : Nat} {b : mb_bs} {F : mb_m} {C S : Int → Int} {np : Nat} {pr : Int → Int → Int} {nb : Nat} {bk : Nat → vk} {ns : Nat} {sk : Int → Int → Int} {K : Int32 → mb_S → Prop} (hN : 700 ≤ N) (hV : Vw b C S np pr nb bk ns sk) {i : Nat} {v : kN} {mv rp vf vt vw : Int → Int} (hi : i < nb) (hbk : bk i = (v, mv, rp, vf, vt, vw)) {w : Int} (c2 : 0 ≤ w ∧ w ≤ 2) (hK : ∀ b', Vw b' C S np pr nb (bset bk i (kset v 5 w, mv, rp, vf, vt, vw)) ns sk → K (zI (v 5)) (b', F)) : LP_back N b F (zI i) (zI w) K := by
  obtain ⟨M7, MA, fP, fB, fK, LP, LB, LS⟩ := b
  obtain ⟨hA, hP, hB, hSk⟩ := id hV
  obtain ⟨p1, p2, p5, p6, p7⟩ := id hB
  (try dsimp only at hA hP hB hSk p2 p5 p6 p7)
  obtain ⟨x, x1, x2, x3⟩ := p6 i hi
  rw [hbk] at x3
  obtain ⟨kr, kb⟩ := x3
  (try dsimp only at kr kb)
  have x2' : fB ((i : Int)).toNat = some x.1 := by rw [Int.toNat_natCast]; exact x2
  have hx : LB.take i ++ (x.1, x.2.1, x.2.2.1, x.2.2.2.1, x.2.2.2.2.1, x.2.2.2.2.2.1, x.2.2.2.2.2.2.1, x.2.2.2.2.2.2.2.1, x.2.2.2.2.2.2.2.2) :: LB.drop (i + 1) = LB := (q_split x1).symm
  obtain ⟨r1, r2, r3, r4, r5, r6, r7, r8, r9, r10, r11, r12⟩ := id kr
  obtain ⟨⟨c3, c4, c5, c6⟩, ⟨⟨s0, s1, s5⟩, s4, sb⟩, ⟨q30, q31⟩, q0, q1, q2, q3⟩ := id kb
  have en : (((v 6).toNat : Nat) : Int) = v 6 := by omega
  have hrg := tr_rng r1.1 r3.1 r10
  rw [en] at hrg
  have hf9 : ∀ k, 0 ≤ (tr mv (v 6).toNat).1 k ∧ (tr mv (v 6).toNat).1 k ≤ 200 := fun k => by have := hrg.2.2.2.2.2.2.2.2.1 k; omega
  unfold LP_back
  (try dsimp only)
  (try simp only [zI_m1, zI_m2, zI_m3])
  refine Or.inl ⟨_, x, _, q_split x1, ?_⟩
  unfold PX7_back
  refine b_on (by omega) (by omega) (by omega) x2' ?_
  (try dsimp only)
  have w2 : x.2.2.2.2.2.1 6 0 = zI (v 5) := c6
  simp (disch := omega) only [zI_lit, zI_neg, zI_add, zI_sub, zI_mul, zI_div, q_md, zI_lt, zI_le, zI_eq, zI_clamp, zI_vp, forall_eq, mb_u_eq, mb_u_ne, upd_eq, q_isWithin]
  rw [if_pos c2]
  simp (disch := omega) only [zI_lit, zI_neg, zI_add, zI_sub, zI_mul, zI_div, q_md, zI_lt, zI_le, zI_eq, zI_clamp, zI_vp, forall_eq, mb_u_eq, mb_u_ne, upd_eq, q_if, q_ifn, if_pos, if_neg, true_and, and_true, if_true, if_false, q_demandArgument1, w2]
  refine hK _ ⟨hA, hP, ?_, hSk⟩
  exact VB_upd hB x1 rfl ⟨⟨r1, r2, r3, r4, r5, c2, r7, r8, r9, r10, r11, r12⟩, ⟨⟨m1_ne _ c3 (by decide), m1_ne _ c4 (by decide), m1_ne _ c5 (by decide), m1_set _ _ _⟩, ⟨⟨s0, s1, s5⟩, s4, sb⟩, ⟨q30, q31⟩, q0, q1, q2, q3⟩⟩
theorem t_swelling {N : Nat} {b : mb_bs} {F : mb_m} {C S : Int → Int} {np : Nat} {pr : Int → Int → Int} {nb : Nat} {bk : Nat → vk} {ns : Nat} {sk : Int → Int → Int} {K : Int32 → mb_S → Prop} (hN : 700 ≤ N) (hV : Vw b C S np pr nb bk ns sk) {i : Nat} {v : kN} {mv rp vf vt vw : Int → Int} (hi : i < nb) (hbk : bk i = (v, mv, rp, vf, vt, vw)) (hK : K (zI (3 * swI (tr mv (v 6).toNat).1 (v 0).toNat)) (b, F)) : LP_swelling N b F (zI i) K := by
  obtain ⟨M7, MA, fP, fB, fK, LP, LB, LS⟩ := b
  obtain ⟨hA, hP, hB, hSk⟩ := id hV
  obtain ⟨p1, p2, p5, p6, p7⟩ := id hB
  (try dsimp only at hA hP hB hSk p2 p5 p6 p7)
  obtain ⟨x, x1, x2, x3⟩ := p6 i hi
  rw [hbk] at x3
  obtain ⟨kr, kb⟩ := x3
  (try dsimp only at kr kb)
  have x2' : fB ((i : Int)).toNat = some x.1 := by rw [Int.toNat_natCast]; exact x2
  have hx : LB.take i ++ (x.1, x.2.1, x.2.2.1, x.2.2.2.1, x.2.2.2.2.1, x.2.2.2.2.2.1, x.2.2.2.2.2.2.1, x.2.2.2.2.2.2.2.1, x.2.2.2.2.2.2.2.2) :: LB.drop (i + 1) = LB := (q_split x1).symm
  obtain ⟨r1, r2, r3, r4, r5, r6, r7, r8, r9, r10, r11, r12⟩ := id kr
  obtain ⟨⟨c3, c4, c5, c6⟩, ⟨⟨s0, s1, s5⟩, s4, sb⟩, ⟨q30, q31⟩, q0, q1, q2, q3⟩ := id kb
  have en : (((v 6).toNat : Nat) : Int) = v 6 := by omega
  have hrg := tr_rng r1.1 r3.1 r10
  rw [en] at hrg
  have hf9 : ∀ k, 0 ≤ (tr mv (v 6).toNat).1 k ∧ (tr mv (v 6).toNat).1 k ≤ 200 := fun k => by have := hrg.2.2.2.2.2.2.2.2.1 k; omega
  unfold LP_swelling
  (try dsimp only)
  (try simp only [zI_m1, zI_m2, zI_m3])
  refine Or.inl ⟨_, x, _, q_split x1, ?_⟩
  unfold PX7_swelling
  refine b_on (by omega) (by omega) (by omega) x2' ?_
  (try dsimp only)
  have hz9 := tr_zero r1.1 r3 r10
  refine ⟨rfl, ?_⟩
  refine e_swell hN sb.1 s0 s1 hf9 hz9 r1 r3 ?_
  (try dsimp only)
  rw [hx]
  exact hK
theorem t_strain {N : Nat} {b : mb_bs} {F : mb_m} {C S : Int → Int} {np : Nat} {pr : Int → Int → Int} {nb : Nat} {bk : Nat → vk} {ns : Nat} {sk : Int → Int → Int} {K : Int32 → mb_S → Prop} (hN : 700 ≤ N) (hV : Vw b C S np pr nb bk ns sk) {i : Nat} {v : kN} {mv rp vf vt vw : Int → Int} (hi : i < nb) (hbk : bk i = (v, mv, rp, vf, vt, vw)) {o : Int} (ho : 0 ≤ o ∧ o ≤ v 0 * v 1) (hK : K (zI (bdI v o + 3 * swI (tr mv (v 6).toNat).1 (v 0).toNat)) (b, F)) : LP_strain N b F (zI i) (zI o) K := by
  obtain ⟨M7, MA, fP, fB, fK, LP, LB, LS⟩ := b
  obtain ⟨hA, hP, hB, hSk⟩ := id hV
  obtain ⟨p1, p2, p5, p6, p7⟩ := id hB
  (try dsimp only at hA hP hB hSk p2 p5 p6 p7)
  obtain ⟨x, x1, x2, x3⟩ := p6 i hi
  rw [hbk] at x3
  obtain ⟨kr, kb⟩ := x3
  (try dsimp only at kr kb)
  have x2' : fB ((i : Int)).toNat = some x.1 := by rw [Int.toNat_natCast]; exact x2
  have hx : LB.take i ++ (x.1, x.2.1, x.2.2.1, x.2.2.2.1, x.2.2.2.2.1, x.2.2.2.2.2.1, x.2.2.2.2.2.2.1, x.2.2.2.2.2.2.2.1, x.2.2.2.2.2.2.2.2) :: LB.drop (i + 1) = LB := (q_split x1).symm
  obtain ⟨r1, r2, r3, r4, r5, r6, r7, r8, r9, r10, r11, r12⟩ := id kr
  obtain ⟨⟨c3, c4, c5, c6⟩, ⟨⟨s0, s1, s5⟩, s4, sb⟩, ⟨q30, q31⟩, q0, q1, q2, q3⟩ := id kb
  have en : (((v 6).toNat : Nat) : Int) = v 6 := by omega
  have hrg := tr_rng r1.1 r3.1 r10
  rw [en] at hrg
  have hf9 : ∀ k, 0 ≤ (tr mv (v 6).toNat).1 k ∧ (tr mv (v 6).toNat).1 k ≤ 200 := fun k => by have := hrg.2.2.2.2.2.2.2.2.1 k; omega
  unfold LP_strain
  (try dsimp only)
  (try simp only [zI_m1, zI_m2, zI_m3])
  refine Or.inl ⟨_, x, _, q_split x1, ?_⟩
  unfold PX7_strain
  refine b_on (by omega) (by omega) (by omega) x2' ?_
  (try dsimp only)
  have al := all_rng kr
  have hz9 := tr_zero r1.1 r3 r10
  have w3 : x.2.2.2.2.2.1 3 0 = zI (v 0 * v 1) := c3
  refine ⟨rfl, ?_⟩
  simp (disch := omega) only [zI_lit, zI_neg, zI_add, zI_sub, zI_mul, zI_div, q_md, zI_lt, zI_le, zI_eq, zI_clamp, zI_vp, forall_eq, mb_u_eq, mb_u_ne, upd_eq, q_isWithin, w3]
  rw [if_pos ho, q_demandArgument1, q_bendAt kr c3 c4 c6 ho.1 ho.2]
  refine e_swell hN sb.1 s0 s1 hf9 hz9 r1 r3 ?_
  (try dsimp only)
  rw [hx, zI_add]
  exact hK
theorem t_worst {N : Nat} {b : mb_bs} {F : mb_m} {C S : Int → Int} {np : Nat} {pr : Int → Int → Int} {nb : Nat} {bk : Nat → vk} {ns : Nat} {sk : Int → Int → Int} {K : Int32 → mb_S → Prop} (hN : 700 ≤ N) (hV : Vw b C S np pr nb bk ns sk) {i : Nat} {v : kN} {mv rp vf vt vw : Int → Int} (hi : i < nb) (hbk : bk i = (v, mv, rp, vf, vt, vw)) (hK : K (zI (wsI (bdI v) (v 0 * v 1).toNat)) (b, F)) : LP_worst N b F (zI i) K := by
  obtain ⟨M7, MA, fP, fB, fK, LP, LB, LS⟩ := b
  obtain ⟨hA, hP, hB, hSk⟩ := id hV
  obtain ⟨p1, p2, p5, p6, p7⟩ := id hB
  (try dsimp only at hA hP hB hSk p2 p5 p6 p7)
  obtain ⟨x, x1, x2, x3⟩ := p6 i hi
  rw [hbk] at x3
  obtain ⟨kr, kb⟩ := x3
  (try dsimp only at kr kb)
  have x2' : fB ((i : Int)).toNat = some x.1 := by rw [Int.toNat_natCast]; exact x2
  have hx : LB.take i ++ (x.1, x.2.1, x.2.2.1, x.2.2.2.1, x.2.2.2.2.1, x.2.2.2.2.2.1, x.2.2.2.2.2.2.1, x.2.2.2.2.2.2.2.1, x.2.2.2.2.2.2.2.2) :: LB.drop (i + 1) = LB := (q_split x1).symm
  obtain ⟨r1, r2, r3, r4, r5, r6, r7, r8, r9, r10, r11, r12⟩ := id kr
  obtain ⟨⟨c3, c4, c5, c6⟩, ⟨⟨s0, s1, s5⟩, s4, sb⟩, ⟨q30, q31⟩, q0, q1, q2, q3⟩ := id kb
  have en : (((v 6).toNat : Nat) : Int) = v 6 := by omega
  have hrg := tr_rng r1.1 r3.1 r10
  rw [en] at hrg
  have hf9 : ∀ k, 0 ≤ (tr mv (v 6).toNat).1 k ∧ (tr mv (v 6).toNat).1 k ≤ 200 := fun k => by have := hrg.2.2.2.2.2.2.2.2.1 k; omega
  unfold LP_worst
  (try dsimp only)
  (try simp only [zI_m1, zI_m2, zI_m3])
  refine Or.inl ⟨_, x, _, q_split x1, ?_⟩
  unfold PX7_worst
  refine b_on (by omega) (by omega) (by omega) x2' ?_
  (try dsimp only)
  refine ⟨rfl, ?_⟩
  refine e_stiffest hN kr c3 c4 c6 ?_
  (try dsimp only)
  rw [hx]
  exact hK
theorem t_opens {N : Nat} {b : mb_bs} {F : mb_m} {C S : Int → Int} {np : Nat} {pr : Int → Int → Int} {nb : Nat} {bk : Nat → vk} {ns : Nat} {sk : Int → Int → Int} {K : Int32 → mb_S → Prop} (hN : 700 ≤ N) (hV : Vw b C S np pr nb bk ns sk) {i : Nat} {v : kN} {mv rp vf vt vw : Int → Int} (hi : i < nb) (hbk : bk i = (v, mv, rp, vf, vt, vw)) {w : Int} (c2 : 0 ≤ w ∧ w ≤ 100000) (hK : K (zI (opI (fun k => bdI v k + 3 * swI (tr mv (v 6).toNat).1 (v 0).toNat) w (v 0 * v 1 + 1).toNat)) (b, F)) : LP_opens N b F (zI i) (zI w) K := by
  obtain ⟨M7, MA, fP, fB, fK, LP, LB, LS⟩ := b
  obtain ⟨hA, hP, hB, hSk⟩ := id hV
  obtain ⟨p1, p2, p5, p6, p7⟩ := id hB
  (try dsimp only at hA hP hB hSk p2 p5 p6 p7)
  obtain ⟨x, x1, x2, x3⟩ := p6 i hi
  rw [hbk] at x3
  obtain ⟨kr, kb⟩ := x3
  (try dsimp only at kr kb)
  have x2' : fB ((i : Int)).toNat = some x.1 := by rw [Int.toNat_natCast]; exact x2
  have hx : LB.take i ++ (x.1, x.2.1, x.2.2.1, x.2.2.2.1, x.2.2.2.2.1, x.2.2.2.2.2.1, x.2.2.2.2.2.2.1, x.2.2.2.2.2.2.2.1, x.2.2.2.2.2.2.2.2) :: LB.drop (i + 1) = LB := (q_split x1).symm
  obtain ⟨r1, r2, r3, r4, r5, r6, r7, r8, r9, r10, r11, r12⟩ := id kr
  obtain ⟨⟨c3, c4, c5, c6⟩, ⟨⟨s0, s1, s5⟩, s4, sb⟩, ⟨q30, q31⟩, q0, q1, q2, q3⟩ := id kb
  have en : (((v 6).toNat : Nat) : Int) = v 6 := by omega
  have hrg := tr_rng r1.1 r3.1 r10
  rw [en] at hrg
  have hf9 : ∀ k, 0 ≤ (tr mv (v 6).toNat).1 k ∧ (tr mv (v 6).toNat).1 k ≤ 200 := fun k => by have := hrg.2.2.2.2.2.2.2.2.1 k; omega
  unfold LP_opens
  (try dsimp only)
  (try simp only [zI_m1, zI_m2, zI_m3])
  refine Or.inl ⟨_, x, _, q_split x1, ?_⟩
  unfold PX7_opens
  refine b_on (by omega) (by omega) (by omega) x2' ?_
  (try dsimp only)
  have hz9 := tr_zero r1.1 r3 r10
  have hsw := swI_rng hf9 (v 0).toNat (by omega)
  simp (disch := omega) only [zI_lit, zI_neg, zI_add, zI_sub, zI_mul, zI_div, q_md, zI_lt, zI_le, zI_eq, zI_clamp, zI_vp, forall_eq, mb_u_eq, mb_u_ne, upd_eq, q_isWithin]
  rw [if_pos c2, q_demandArgument1]
  refine ⟨trivial, ?_⟩
  unfold PX1_openingsWithin
  refine e_swell hN sb.1 s0 s1 hf9 hz9 r1 r3 ?_
  refine e_opens hN kr c3 c4 c6 c2 (by omega) ?_
  (try dsimp only)
  rw [hx]
  exact hK
/-! repairs, years -/
theorem t_repair {N : Nat} {b : mb_bs} {F : mb_m} {C S : Int → Int} {np : Nat} {pr : Int → Int → Int} {nb : Nat} {bk : Nat → vk} {ns : Nat} {sk : Int → Int → Int} {K : Int32 → mb_S → Prop} (hN : 700 ≤ N) (hV : Vw b C S np pr nb bk ns sk) {i : Nat} {v : kN} {mv rp vf vt vw : Int → Int} (hi : i < nb) (hbk : bk i = (v, mv, rp, vf, vt, vw)) {w : Int} (c2 : 0 ≤ w ∧ w ≤ 4) (h0 : ¬ ((v 4 = 0 ∨ w < 3) ∧ v 7 < 20) → K (zI (-1000003)) (b, F))
    (hK : (v 4 = 0 ∨ w < 3) → v 7 < 20 → ∀ b', Vw b' C S np pr nb (bset bk i (kset v 7 (v 7 + 1), mv, fun k => if k = v 7 then w else rp k, vf, vt, vw)) ns sk → K (zI (v 7 + 1)) (b', F)) : LP_repair N b F (zI i) (zI w) K := by
  obtain ⟨M7, MA, fP, fB, fK, LP, LB, LS⟩ := b
  obtain ⟨hA, hP, hB, hSk⟩ := id hV
  obtain ⟨p1, p2, p5, p6, p7⟩ := id hB
  (try dsimp only at hA hP hB hSk p2 p5 p6 p7)
  obtain ⟨x, x1, x2, x3⟩ := p6 i hi
  rw [hbk] at x3
  obtain ⟨kr, kb⟩ := x3
  (try dsimp only at kr kb)
  have x2' : fB ((i : Int)).toNat = some x.1 := by rw [Int.toNat_natCast]; exact x2
  have hx : LB.take i ++ (x.1, x.2.1, x.2.2.1, x.2.2.2.1, x.2.2.2.2.1, x.2.2.2.2.2.1, x.2.2.2.2.2.2.1, x.2.2.2.2.2.2.2.1, x.2.2.2.2.2.2.2.2) :: LB.drop (i + 1) = LB := (q_split x1).symm
  obtain ⟨r1, r2, r3, r4, r5, r6, r7, r8, r9, r10, r11, r12⟩ := id kr
  obtain ⟨⟨c3, c4, c5, c6⟩, ⟨⟨s0, s1, s5⟩, s4, sb⟩, ⟨q30, q31⟩, q0, q1, q2, q3⟩ := id kb
  have en : (((v 6).toNat : Nat) : Int) = v 6 := by omega
  have hrg := tr_rng r1.1 r3.1 r10
  rw [en] at hrg
  have hf9 : ∀ k, 0 ≤ (tr mv (v 6).toNat).1 k ∧ (tr mv (v 6).toNat).1 k ≤ 200 := fun k => by have := hrg.2.2.2.2.2.2.2.2.1 k; omega
  unfold LP_repair
  (try dsimp only)
  (try simp only [zI_m1, zI_m2, zI_m3])
  refine Or.inl ⟨_, x, _, q_split x1, ?_⟩
  unfold PX7_repair
  refine b_on (by omega) (by omega) (by omega) x2' ?_
  (try dsimp only)
  have u5 : x.2.2.2.2.2.1 5 0 = zI (v 4) := c5
  have u1 : x.2.2.2.2.2.2.2.1 1 0 = zI (v 7) := q31
  simp (disch := omega) only [zI_lit, zI_neg, zI_add, zI_sub, zI_mul, zI_div, q_md, zI_lt, zI_le, zI_eq, zI_clamp, zI_vp, forall_eq, mb_u_eq, mb_u_ne, upd_eq, q_isWithin]
  rw [if_pos c2]
  have hS : ¬ ((v 4 = 0 ∨ w < 3) ∧ v 7 < 20) → K (zI (-1000003)) ((M7, MA, fP, fB, fK, LP, LB, LS), F) := h0
  have hOK : (v 4 = 0 ∨ w < 3) → v 7 < 20 → ∀ M', mr M' 0 (fun k => if k = v 7 then w else rp k) (v 7 + 1) → m1 M' 1 (v 7 + 1) → K (M' 1 0) ((M7, MA, fP, fB, fK, LP, LB.take i ++ (x.1, x.2.1, x.2.2.1, x.2.2.2.1, x.2.2.2.2.1, x.2.2.2.2.2.1, x.2.2.2.2.2.2.1, M', x.2.2.2.2.2.2.2.2) :: LB.drop (i + 1), LS), F) := by
    intro z1 z2 M' hM0 hM1
    rw [show M' 1 0 = zI (v 7 + 1) from hM1]
    refine hK z1 z2 _ ⟨hA, hP, ?_, hSk⟩
    refine VB_upd hB x1 rfl ⟨⟨r1, r2, r3, r4, r5, r6, r7, ?_, r9, r10, fun k e1 e2 => ?_, r12⟩, ⟨⟨c3, c4, c5, c6⟩, ⟨⟨s0, s1, s5⟩, s4, sb⟩, ⟨hM0, hM1⟩, q0, q1, q2, q3⟩⟩
    · show 0 ≤ v 7 + 1 ∧ v 7 + 1 ≤ 20
      omega
    · have e2 : k < v 7 + 1 := e2
      (try dsimp only)
      split
      · exact c2
      · exact r11 k e1 (by omega)
  unfold PX7_repair_29 PX7_repair_34 PX7_repair_54 PX7_canBeUndone
  have hadd : ∀ (K : mb_m → Prop), v 7 < 20 → (∀ M', mr M' 0 (fun k => if k = v 7 then w else rp k) (v 7 + 1) → m1 M' 1 (v 7 + 1) → K M') → PX3_add N x.2.2.2.2.2.2.2.1 (zI w) K := fun K z k => e_add3 (by omega) q30 q31 k
  simp (disch := omega) only [zI_lit, zI_neg, zI_add, zI_sub, zI_mul, zI_div, q_md, zI_lt, zI_le, zI_eq, zI_clamp, zI_vp, forall_eq, mb_u_eq, mb_u_ne, upd_eq, q_if, q_ifn, if_pos, if_neg, true_and, and_true, if_true, if_false, q_demandArgument1, q_demandState1, q_demandState0, u5, u1]
  (repeat' split) <;> first
    | exact Or.inr (Or.inr ⟨rfl, by rw [hx]; exact hS (by omega)⟩)
    | exact hadd _ (by omega) (fun M' e1 e2 => hOK (by omega) (by omega) M' e1 e2)
theorem t_undo {N : Nat} {b : mb_bs} {F : mb_m} {C S : Int → Int} {np : Nat} {pr : Int → Int → Int} {nb : Nat} {bk : Nat → vk} {ns : Nat} {sk : Int → Int → Int} {K : Int32 → mb_S → Prop} (hN : 700 ≤ N) (hV : Vw b C S np pr nb bk ns sk) {i : Nat} {v : kN} {mv rp vf vt vw : Int → Int} (hi : i < nb) (hbk : bk i = (v, mv, rp, vf, vt, vw)) (h0 : ¬ (0 < v 7 ∧ rp (v 7 - 1) < 3) → K (zI (-1000003)) (b, F))
    (hK : 0 < v 7 → rp (v 7 - 1) < 3 → ∀ b', Vw b' C S np pr nb (bset bk i (kset v 7 (v 7 - 1), mv, rp, vf, vt, vw)) ns sk → K (zI (rp (v 7 - 1))) (b', F)) : LP_undo N b F (zI i) K := by
  obtain ⟨M7, MA, fP, fB, fK, LP, LB, LS⟩ := b
  obtain ⟨hA, hP, hB, hSk⟩ := id hV
  obtain ⟨p1, p2, p5, p6, p7⟩ := id hB
  (try dsimp only at hA hP hB hSk p2 p5 p6 p7)
  obtain ⟨x, x1, x2, x3⟩ := p6 i hi
  rw [hbk] at x3
  obtain ⟨kr, kb⟩ := x3
  (try dsimp only at kr kb)
  have x2' : fB ((i : Int)).toNat = some x.1 := by rw [Int.toNat_natCast]; exact x2
  have hx : LB.take i ++ (x.1, x.2.1, x.2.2.1, x.2.2.2.1, x.2.2.2.2.1, x.2.2.2.2.2.1, x.2.2.2.2.2.2.1, x.2.2.2.2.2.2.2.1, x.2.2.2.2.2.2.2.2) :: LB.drop (i + 1) = LB := (q_split x1).symm
  obtain ⟨r1, r2, r3, r4, r5, r6, r7, r8, r9, r10, r11, r12⟩ := id kr
  obtain ⟨⟨c3, c4, c5, c6⟩, ⟨⟨s0, s1, s5⟩, s4, sb⟩, ⟨q30, q31⟩, q0, q1, q2, q3⟩ := id kb
  have en : (((v 6).toNat : Nat) : Int) = v 6 := by omega
  have hrg := tr_rng r1.1 r3.1 r10
  rw [en] at hrg
  have hf9 : ∀ k, 0 ≤ (tr mv (v 6).toNat).1 k ∧ (tr mv (v 6).toNat).1 k ≤ 200 := fun k => by have := hrg.2.2.2.2.2.2.2.2.1 k; omega
  unfold LP_undo
  (try dsimp only)
  (try simp only [zI_m1, zI_m2, zI_m3])
  refine Or.inl ⟨_, x, _, q_split x1, ?_⟩
  unfold PX7_undo
  refine b_on (by omega) (by omega) (by omega) x2' ?_
  (try dsimp only)
  have u1 : x.2.2.2.2.2.2.2.1 1 0 = zI (v 7) := q31
  refine ⟨rfl, ?_⟩
  unfold PX3_latest PX7_undo_30 PX7_undo_31 PX7_canBeUndone PX3_dropLatest
  by_cases z : 0 < v 7
  · have w2 : x.2.2.2.2.2.2.2.1 0 (v 7 - 1).toNat = zI (rp (v 7 - 1)) := q30 (v 7 - 1) (by omega) (by omega)
    have w3 := r11 (v 7 - 1) (by omega) (by omega)
    simp (disch := omega) only [zI_lit, zI_neg, zI_add, zI_sub, zI_mul, zI_div, q_md, zI_lt, zI_le, zI_eq, zI_clamp, zI_vp, forall_eq, mb_u_eq, mb_u_ne, upd_eq, q_if, q_ifn, if_pos, if_neg, true_and, and_true, if_true, if_false, u1, w2, q_demandState0, q_demandState1]
    rw [hx]
    by_cases z2 : rp (v 7 - 1) < 3
    · simp (disch := omega) only [zI_lit, zI_neg, zI_add, zI_sub, zI_mul, zI_div, q_md, zI_lt, zI_le, zI_eq, zI_clamp, zI_vp, forall_eq, mb_u_eq, mb_u_ne, upd_eq, q_if, q_ifn, if_pos, if_neg, true_and, and_true, if_true, if_false]
      refine hK z z2 _ ⟨hA, hP, ?_, hSk⟩
      refine VB_upd hB x1 rfl ⟨⟨r1, r2, r3, r4, r5, r6, r7, ?_, r9, r10, fun k e1 e2 => ?_, r12⟩, ⟨⟨c3, c4, c5, c6⟩, ⟨⟨s0, s1, s5⟩, s4, sb⟩, ⟨fun k e1 e2 => ?_, m1_set _ _ _⟩, q0, q1, q2, q3⟩⟩
      · show 0 ≤ v 7 - 1 ∧ v 7 - 1 ≤ 20
        omega
      · have e2 : k < v 7 - 1 := e2
        exact r11 k e1 (by omega)
      · have e2 : k < v 7 - 1 := e2
        (try dsimp only)
        rw [mb_u_ne _ _ (by decide)]
        exact q30 k e1 (by omega)
    · simp (disch := omega) only [zI_lit, zI_neg, zI_add, zI_sub, zI_mul, zI_div, q_md, zI_lt, zI_le, zI_eq, zI_clamp, zI_vp, forall_eq, mb_u_eq, mb_u_ne, upd_eq, q_if, q_ifn, if_pos, if_neg, true_and, and_true, if_true, if_false]
      exact Or.inr ⟨rfl, h0 (by omega)⟩
  · simp (disch := omega) only [zI_lit, zI_neg, zI_add, zI_sub, zI_mul, zI_div, q_md, zI_lt, zI_le, zI_eq, zI_clamp, zI_vp, forall_eq, mb_u_eq, mb_u_ne, upd_eq, q_if, q_ifn, if_pos, if_neg, true_and, and_true, if_true, if_false, u1, q_demandState0]
    rw [hx]
    exact Or.inr ⟨rfl, h0 (by omega)⟩
theorem t_speak {N : Nat} {b : mb_bs} {F : mb_m} {C S : Int → Int} {np : Nat} {pr : Int → Int → Int} {nb : Nat} {bk : Nat → vk} {ns : Nat} {sk : Int → Int → Int} {K : Int32 → mb_S → Prop} (hN : 700 ≤ N) (hV : Vw b C S np pr nb bk ns sk) {i : Nat} {v : kN} {mv rp vf vt vw : Int → Int} (hi : i < nb) (hbk : bk i = (v, mv, rp, vf, vt, vw)) {f t w : Int} (ho : spO f t w) (h0 : ¬ v 8 < 20 → K (zI (-1000003)) (b, F))
    (hK : v 8 < 20 → ∀ b', Vw b' C S np pr nb (bset bk i (kset v 8 (v 8 + 1), mv, rp, fun k => if k = v 8 then f else vf k, fun k => if k = v 8 then t else vt k, fun k => if k = v 8 then w else vw k)) ns sk → K (zI (v 8 + 1)) (b', F)) : LP_speak N b F (zI i) (zI f) (zI t) (zI w) K := by
  obtain ⟨M7, MA, fP, fB, fK, LP, LB, LS⟩ := b
  obtain ⟨hA, hP, hB, hSk⟩ := id hV
  obtain ⟨p1, p2, p5, p6, p7⟩ := id hB
  (try dsimp only at hA hP hB hSk p2 p5 p6 p7)
  obtain ⟨x, x1, x2, x3⟩ := p6 i hi
  rw [hbk] at x3
  obtain ⟨kr, kb⟩ := x3
  (try dsimp only at kr kb)
  have x2' : fB ((i : Int)).toNat = some x.1 := by rw [Int.toNat_natCast]; exact x2
  have hx : LB.take i ++ (x.1, x.2.1, x.2.2.1, x.2.2.2.1, x.2.2.2.2.1, x.2.2.2.2.2.1, x.2.2.2.2.2.2.1, x.2.2.2.2.2.2.2.1, x.2.2.2.2.2.2.2.2) :: LB.drop (i + 1) = LB := (q_split x1).symm
  obtain ⟨r1, r2, r3, r4, r5, r6, r7, r8, r9, r10, r11, r12⟩ := id kr
  obtain ⟨⟨c3, c4, c5, c6⟩, ⟨⟨s0, s1, s5⟩, s4, sb⟩, ⟨q30, q31⟩, q0, q1, q2, q3⟩ := id kb
  have en : (((v 6).toNat : Nat) : Int) = v 6 := by omega
  have hrg := tr_rng r1.1 r3.1 r10
  rw [en] at hrg
  have hf9 : ∀ k, 0 ≤ (tr mv (v 6).toNat).1 k ∧ (tr mv (v 6).toNat).1 k ≤ 200 := fun k => by have := hrg.2.2.2.2.2.2.2.2.1 k; omega
  unfold LP_speak
  (try dsimp only)
  (try simp only [zI_m1, zI_m2, zI_m3])
  refine Or.inl ⟨_, x, _, q_split x1, ?_⟩
  refine b_speak (by omega) (by omega) (by omega) (by omega) (by omega) (by omega) (by omega) (by omega) (by omega) x2' r9 q0 q1 q2 q3 (fun z1 z2 M' g0 g1 g2 g3 => ?_) (fun z => absurd ho z) (fun z1 z2 => ?_) <;> (try dsimp only)
  · rw [show M' 3 0 = zI (v 8 + 1) from g3]
    refine hK z2 _ ⟨hA, hP, ?_, hSk⟩
    refine VB_upd hB x1 rfl ⟨⟨r1, r2, r3, r4, r5, r6, r7, r8, ?_, r10, r11, fun k e1 e2 => ?_⟩, ⟨⟨c3, c4, c5, c6⟩, ⟨⟨s0, s1, s5⟩, s4, sb⟩, ⟨q30, q31⟩, g0, g1, g2, g3⟩⟩
    · show 0 ≤ v 8 + 1 ∧ v 8 + 1 ≤ 20
      omega
    · have e2 : k < v 8 + 1 := e2
      (try dsimp only)
      by_cases z : k = v 8
      · rw [if_pos z, if_pos z, if_pos z]; omega
      · rw [if_neg z, if_neg z, if_neg z]; exact r12 k e1 (by omega)
  · rw [hx]
    exact Or.inr (Or.inr ⟨rfl, h0 z2⟩)
theorem yr_cases {S : Int → Int} {y : Int} (hy : isB S y) : y = -1 ∨ 1400 ≤ y ∧ y ≤ 2000 := by
  rcases hy with ⟨e, -⟩ | ⟨e, -⟩
  · exact Or.inl e
  · exact Or.inr e
theorem t_year0 {N : Nat} {b : mb_bs} {F : mb_m} {C S : Int → Int} {np : Nat} {pr : Int → Int → Int} {nb : Nat} {bk : Nat → vk} {ns : Nat} {sk : Int → Int → Int} {K : Int32 → mb_S → Prop} (hN : 700 ≤ N) (hV : Vw b C S np pr nb bk ns sk) {i : Nat} {v : kN} {mv rp vf vt vw : Int → Int} (hi : i < nb) (hbk : bk i = (v, mv, rp, vf, vt, vw)) (hK : ∀ y, isB (smI vf vt vw (v 8).toNat) y → K (zI y) (b, F)) : LP_year N b F (zI i) (zI 0) K := by
  obtain ⟨M7, MA, fP, fB, fK, LP, LB, LS⟩ := b
  obtain ⟨hA, hP, hB, hSk⟩ := id hV
  obtain ⟨p1, p2, p5, p6, p7⟩ := id hB
  (try dsimp only at hA hP hB hSk p2 p5 p6 p7)
  obtain ⟨x, x1, x2, x3⟩ := p6 i hi
  rw [hbk] at x3
  obtain ⟨kr, kb⟩ := x3
  (try dsimp only at kr kb)
  have x2' : fB ((i : Int)).toNat = some x.1 := by rw [Int.toNat_natCast]; exact x2
  have hx : LB.take i ++ (x.1, x.2.1, x.2.2.1, x.2.2.2.1, x.2.2.2.2.1, x.2.2.2.2.2.1, x.2.2.2.2.2.2.1, x.2.2.2.2.2.2.2.1, x.2.2.2.2.2.2.2.2) :: LB.drop (i + 1) = LB := (q_split x1).symm
  obtain ⟨r1, r2, r3, r4, r5, r6, r7, r8, r9, r10, r11, r12⟩ := id kr
  obtain ⟨⟨c3, c4, c5, c6⟩, ⟨⟨s0, s1, s5⟩, s4, sb⟩, ⟨q30, q31⟩, q0, q1, q2, q3⟩ := id kb
  have en : (((v 6).toNat : Nat) : Int) = v 6 := by omega
  have hrg := tr_rng r1.1 r3.1 r10
  rw [en] at hrg
  have hf9 : ∀ k, 0 ≤ (tr mv (v 6).toNat).1 k ∧ (tr mv (v 6).toNat).1 k ≤ 200 := fun k => by have := hrg.2.2.2.2.2.2.2.2.1 k; omega
  unfold LP_year
  (try dsimp only)
  (try simp only [zI_m1, zI_m2, zI_m3])
  refine Or.inl ⟨_, x, _, q_split x1, ?_⟩
  unfold PX7_year
  refine b_on (by omega) (by omega) (by omega) x2' ?_
  (try dsimp only)
  have hv : vok vf vt vw (v 8) := ⟨r9, r12⟩
  refine ⟨rfl, ?_⟩
  refine e_firstE hN hv q0 q1 q2 q3 (fun y hy => ?_)
  have hyr := yr_cases hy
  simp (disch := omega) only [zI_lit, zI_neg, zI_add, zI_sub, zI_mul, zI_div, q_md, zI_lt, zI_le, zI_eq, zI_clamp, zI_vp, forall_eq, mb_u_eq, mb_u_ne, upd_eq, q_if, q_ifn, if_pos, if_neg, true_and, and_true, if_true, if_false]
  rw [hx]
  exact hK y hy
theorem t_year1 {N : Nat} {b : mb_bs} {F : mb_m} {C S : Int → Int} {np : Nat} {pr : Int → Int → Int} {nb : Nat} {bk : Nat → vk} {ns : Nat} {sk : Int → Int → Int} {K : Int32 → mb_S → Prop} (hN : 700 ≤ N) (hV : Vw b C S np pr nb bk ns sk) {i : Nat} {v : kN} {mv rp vf vt vw : Int → Int} (hi : i < nb) (hbk : bk i = (v, mv, rp, vf, vt, vw)) (h0 : isB (smI vf vt vw (v 8).toNat) (-1) → K (zI (-1)) (b, F)) (hK : ∀ y l, isB (smI vf vt vw (v 8).toNat) y → 1400 ≤ y → isL (smI vf vt vw (v 8).toNat) y l → K (zI l) (b, F)) : LP_year N b F (zI i) (zI 1) K := by
  obtain ⟨M7, MA, fP, fB, fK, LP, LB, LS⟩ := b
  obtain ⟨hA, hP, hB, hSk⟩ := id hV
  obtain ⟨p1, p2, p5, p6, p7⟩ := id hB
  (try dsimp only at hA hP hB hSk p2 p5 p6 p7)
  obtain ⟨x, x1, x2, x3⟩ := p6 i hi
  rw [hbk] at x3
  obtain ⟨kr, kb⟩ := x3
  (try dsimp only at kr kb)
  have x2' : fB ((i : Int)).toNat = some x.1 := by rw [Int.toNat_natCast]; exact x2
  have hx : LB.take i ++ (x.1, x.2.1, x.2.2.1, x.2.2.2.1, x.2.2.2.2.1, x.2.2.2.2.2.1, x.2.2.2.2.2.2.1, x.2.2.2.2.2.2.2.1, x.2.2.2.2.2.2.2.2) :: LB.drop (i + 1) = LB := (q_split x1).symm
  obtain ⟨r1, r2, r3, r4, r5, r6, r7, r8, r9, r10, r11, r12⟩ := id kr
  obtain ⟨⟨c3, c4, c5, c6⟩, ⟨⟨s0, s1, s5⟩, s4, sb⟩, ⟨q30, q31⟩, q0, q1, q2, q3⟩ := id kb
  have en : (((v 6).toNat : Nat) : Int) = v 6 := by omega
  have hrg := tr_rng r1.1 r3.1 r10
  rw [en] at hrg
  have hf9 : ∀ k, 0 ≤ (tr mv (v 6).toNat).1 k ∧ (tr mv (v 6).toNat).1 k ≤ 200 := fun k => by have := hrg.2.2.2.2.2.2.2.2.1 k; omega
  unfold LP_year
  (try dsimp only)
  (try simp only [zI_m1, zI_m2, zI_m3])
  refine Or.inl ⟨_, x, _, q_split x1, ?_⟩
  unfold PX7_year
  refine b_on (by omega) (by omega) (by omega) x2' ?_
  (try dsimp only)
  have hv : vok vf vt vw (v 8) := ⟨r9, r12⟩
  refine ⟨rfl, ?_⟩
  refine e_firstE hN hv q0 q1 q2 q3 (fun y hy => ?_)
  rcases yr_cases hy with e | e
  · simp (disch := omega) only [zI_lit, zI_neg, zI_add, zI_sub, zI_mul, zI_div, q_md, zI_lt, zI_le, zI_eq, zI_clamp, zI_vp, forall_eq, mb_u_eq, mb_u_ne, upd_eq, q_if, q_ifn, if_pos, if_neg, true_and, and_true, if_true, if_false]
    rw [hx]
    subst e
    exact h0 hy
  · simp (disch := omega) only [zI_lit, zI_neg, zI_add, zI_sub, zI_mul, zI_div, q_md, zI_lt, zI_le, zI_eq, zI_clamp, zI_vp, forall_eq, mb_u_eq, mb_u_ne, upd_eq, q_if, q_ifn, if_pos, if_neg, true_and, and_true, if_true, if_false]
    refine e_lastE hN hv q0 q1 q2 q3 e hy (fun l hl => ?_)
    (try dsimp only)
    rw [hx]
    exact hK y l hy e.1 hl
theorem t_yearA0 {N : Nat} {b : mb_bs} {F : mb_m} {C S : Int → Int} {np : Nat} {pr : Int → Int → Int} {nb : Nat} {bk : Nat → vk} {ns : Nat} {sk : Int → Int → Int} {K : Int32 → mb_S → Prop} (hN : 700 ≤ N) (hV : Vw b C S np pr nb bk ns sk) {i : Nat} {v : kN} {mv rp vf vt vw : Int → Int} (hi : i < nb) (hbk : bk i = (v, mv, rp, vf, vt, vw)) (hK : ∀ y, isB (smI vf vt vw (v 8).toNat) y → K (zI y) (b, F)) : LP_yearAnew N b F (zI i) (zI 0) K := by
  obtain ⟨M7, MA, fP, fB, fK, LP, LB, LS⟩ := b
  obtain ⟨hA, hP, hB, hSk⟩ := id hV
  obtain ⟨p1, p2, p5, p6, p7⟩ := id hB
  (try dsimp only at hA hP hB hSk p2 p5 p6 p7)
  obtain ⟨x, x1, x2, x3⟩ := p6 i hi
  rw [hbk] at x3
  obtain ⟨kr, kb⟩ := x3
  (try dsimp only at kr kb)
  have x2' : fB ((i : Int)).toNat = some x.1 := by rw [Int.toNat_natCast]; exact x2
  have hx : LB.take i ++ (x.1, x.2.1, x.2.2.1, x.2.2.2.1, x.2.2.2.2.1, x.2.2.2.2.2.1, x.2.2.2.2.2.2.1, x.2.2.2.2.2.2.2.1, x.2.2.2.2.2.2.2.2) :: LB.drop (i + 1) = LB := (q_split x1).symm
  obtain ⟨r1, r2, r3, r4, r5, r6, r7, r8, r9, r10, r11, r12⟩ := id kr
  obtain ⟨⟨c3, c4, c5, c6⟩, ⟨⟨s0, s1, s5⟩, s4, sb⟩, ⟨q30, q31⟩, q0, q1, q2, q3⟩ := id kb
  have en : (((v 6).toNat : Nat) : Int) = v 6 := by omega
  have hrg := tr_rng r1.1 r3.1 r10
  rw [en] at hrg
  have hf9 : ∀ k, 0 ≤ (tr mv (v 6).toNat).1 k ∧ (tr mv (v 6).toNat).1 k ≤ 200 := fun k => by have := hrg.2.2.2.2.2.2.2.2.1 k; omega
  unfold LP_yearAnew
  (try dsimp only)
  (try simp only [zI_m1, zI_m2, zI_m3])
  refine Or.inl ⟨_, x, _, q_split x1, ?_⟩
  unfold PX7_yearAnew
  refine b_on (by omega) (by omega) (by omega) x2' ?_
  (try dsimp only)
  have hv : vok vf vt vw (v 8) := ⟨r9, r12⟩
  refine ⟨rfl, ?_⟩
  refine e_firstY hN hv q0 q1 q2 q3 (fun y hy => ?_)
  have hyr := yr_cases hy
  simp (disch := omega) only [zI_lit, zI_neg, zI_add, zI_sub, zI_mul, zI_div, q_md, zI_lt, zI_le, zI_eq, zI_clamp, zI_vp, forall_eq, mb_u_eq, mb_u_ne, upd_eq, q_if, q_ifn, if_pos, if_neg, true_and, and_true, if_true, if_false]
  rw [hx]
  exact hK y hy
theorem t_yearA1 {N : Nat} {b : mb_bs} {F : mb_m} {C S : Int → Int} {np : Nat} {pr : Int → Int → Int} {nb : Nat} {bk : Nat → vk} {ns : Nat} {sk : Int → Int → Int} {K : Int32 → mb_S → Prop} (hN : 700 ≤ N) (hV : Vw b C S np pr nb bk ns sk) {i : Nat} {v : kN} {mv rp vf vt vw : Int → Int} (hi : i < nb) (hbk : bk i = (v, mv, rp, vf, vt, vw)) (h0 : isB (smI vf vt vw (v 8).toNat) (-1) → K (zI (-1)) (b, F)) (hK : ∀ y l, isB (smI vf vt vw (v 8).toNat) y → 1400 ≤ y → isL (smI vf vt vw (v 8).toNat) y l → K (zI l) (b, F)) : LP_yearAnew N b F (zI i) (zI 1) K := by
  obtain ⟨M7, MA, fP, fB, fK, LP, LB, LS⟩ := b
  obtain ⟨hA, hP, hB, hSk⟩ := id hV
  obtain ⟨p1, p2, p5, p6, p7⟩ := id hB
  (try dsimp only at hA hP hB hSk p2 p5 p6 p7)
  obtain ⟨x, x1, x2, x3⟩ := p6 i hi
  rw [hbk] at x3
  obtain ⟨kr, kb⟩ := x3
  (try dsimp only at kr kb)
  have x2' : fB ((i : Int)).toNat = some x.1 := by rw [Int.toNat_natCast]; exact x2
  have hx : LB.take i ++ (x.1, x.2.1, x.2.2.1, x.2.2.2.1, x.2.2.2.2.1, x.2.2.2.2.2.1, x.2.2.2.2.2.2.1, x.2.2.2.2.2.2.2.1, x.2.2.2.2.2.2.2.2) :: LB.drop (i + 1) = LB := (q_split x1).symm
  obtain ⟨r1, r2, r3, r4, r5, r6, r7, r8, r9, r10, r11, r12⟩ := id kr
  obtain ⟨⟨c3, c4, c5, c6⟩, ⟨⟨s0, s1, s5⟩, s4, sb⟩, ⟨q30, q31⟩, q0, q1, q2, q3⟩ := id kb
  have en : (((v 6).toNat : Nat) : Int) = v 6 := by omega
  have hrg := tr_rng r1.1 r3.1 r10
  rw [en] at hrg
  have hf9 : ∀ k, 0 ≤ (tr mv (v 6).toNat).1 k ∧ (tr mv (v 6).toNat).1 k ≤ 200 := fun k => by have := hrg.2.2.2.2.2.2.2.2.1 k; omega
  unfold LP_yearAnew
  (try dsimp only)
  (try simp only [zI_m1, zI_m2, zI_m3])
  refine Or.inl ⟨_, x, _, q_split x1, ?_⟩
  unfold PX7_yearAnew
  refine b_on (by omega) (by omega) (by omega) x2' ?_
  (try dsimp only)
  have hv : vok vf vt vw (v 8) := ⟨r9, r12⟩
  refine ⟨rfl, ?_⟩
  refine e_firstY hN hv q0 q1 q2 q3 (fun y hy => ?_)
  rcases yr_cases hy with e | e
  · simp (disch := omega) only [zI_lit, zI_neg, zI_add, zI_sub, zI_mul, zI_div, q_md, zI_lt, zI_le, zI_eq, zI_clamp, zI_vp, forall_eq, mb_u_eq, mb_u_ne, upd_eq, q_if, q_ifn, if_pos, if_neg, true_and, and_true, if_true, if_false]
    rw [hx]
    subst e
    exact h0 hy
  · simp (disch := omega) only [zI_lit, zI_neg, zI_add, zI_sub, zI_mul, zI_div, q_md, zI_lt, zI_le, zI_eq, zI_clamp, zI_vp, forall_eq, mb_u_eq, mb_u_ne, upd_eq, q_if, q_ifn, if_pos, if_neg, true_and, and_true, if_true, if_false]
    refine e_lastY hN hv q0 q1 q2 q3 e (fun l hl => ?_)
    (try dsimp only)
    rw [hx]
    exact hK y l hy e.1 hl
/-- a new bench -/
theorem t_init {N : Nat} (hN : 700 ≤ N) : PX7_init N (fun M => Vw (mb_z, M, fun _ => none, fun _ => none, fun _ => none, [], [], []) (fun _ => 0) (fun _ => 0) 0 (fun _ _ => 0) 0 (fun _ => (fun _ => 0, fun _ => 0, fun _ => 0, fun _ => 0, fun _ => 0, fun _ => 0)) 0 (fun _ _ => 0)) := by
  unfold PX7_init
  intro q5
  refine e_init0 hN (fun M g0 g1 _ => ?_)
  exact ⟨⟨bR_0, ⟨mr_cong g0 (fun _ _ _ => rfl), g1⟩⟩, ⟨by omega, rfl, rfl, fun i hi => by omega, fun i _ _ => rfl, fun i k h1 h2 => by omega⟩, ⟨by omega, rfl, rfl, fun i hi => by omega, fun i _ _ => rfl⟩, ⟨by omega, rfl, rfl, fun i hi => by omega, fun i _ _ => rfl, fun i k h1 h2 => by omega⟩⟩
