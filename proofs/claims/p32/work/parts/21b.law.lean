theorem l_repairs {N : Nat} {b : mb_bs} {F : mb_m} {C S : Int → Int} {np : Nat} {pr : Int → Int → Int} {nb : Nat} {bk : Nat → vk} {ns : Nat} {sk : Int → Int → Int} {K : Int32 → mb_S → Prop} {T : Int} {i : Nat} {y : Int32} (hN : 700 ≤ N) (hI : Iw b F C S np pr nb bk ns sk T) (hi : i < nb) (hK : ∀ b' F', Iv b' F' T → K (zI 1) (b', F')) : PL_repairs N F b (zI i) y K := by
  obtain ⟨hV, hz, hF, hT⟩ := id hI
  obtain ⟨⟨f00, f01, f02⟩, fb, fm, fz, fk⟩ := id hF
  obtain ⟨q, hq⟩ : ∃ q, bk i = q := ⟨_, rfl⟩
  obtain ⟨v, mv, rp, vf, vt, vw⟩ := q
  have hp4 : nb ≤ 4 := hV.2.2.1.1
  obtain ⟨kr, -⟩ := (hV.2.2.1.2.2.2.1 i hi).choose_spec.2.2
  rw [hq] at kr
  (try dsimp only at kr)
  obtain ⟨r1, r2, r3, r4, r5, r6, r7, r8, r9, r10, r11, r12⟩ := id kr
  have fbi := fb i hi
  have fmi := fm i hi
  rw [hq] at fbi fmi
  (try dsimp only at fbi fmi)
  obtain ⟨b0, b1, b2, b3, b4⟩ := fbi
  obtain ⟨m0, m1'⟩ := fmi
  unfold PL_repairs
  have a1 := lw_rng (x := y) (n := 5) (by omega)
  simp (disch := omega) only [zI_lit, zI_neg, zI_add, zI_sub, zI_mul, zI_div, q_md, zI_lt, zI_le, zI_eq, zI_clamp, zI_vp, forall_eq, mb_u_eq, mb_u_ne, upd_eq, q_if, q_ifn, if_pos, if_neg, true_and, and_true, if_true, if_false, q_low]
  generalize lw y 5 = w at a1 ⊢
  refine t_repair hN hV hi hq (by omega) (fun z => ?_) (fun z1 z2 b' hV' => ?_)
  · (try dsimp only)
    simp (disch := omega) only [zI_lit, zI_neg, zI_add, zI_sub, zI_mul, zI_div, q_md, zI_lt, zI_le, zI_eq, zI_clamp, zI_vp, forall_eq, mb_u_eq, mb_u_ne, upd_eq, q_if, q_ifn, if_pos, if_neg, true_and, and_true, if_true, if_false, m1', b4]
    by_cases z7 : v 7 = 20
    · simp (disch := omega) only [zI_lit, zI_neg, zI_add, zI_sub, zI_mul, zI_div, q_md, zI_lt, zI_le, zI_eq, zI_clamp, zI_vp, forall_eq, mb_u_eq, mb_u_ne, upd_eq, q_if, q_ifn, if_pos, if_neg, true_and, and_true, if_true, if_false]
      exact hK _ _ (Iw_iv hI)
    · simp (disch := omega) only [zI_lit, zI_neg, zI_add, zI_sub, zI_mul, zI_div, q_md, zI_lt, zI_le, zI_eq, zI_clamp, zI_vp, forall_eq, mb_u_eq, mb_u_ne, upd_eq, q_if, q_ifn, if_pos, if_neg, true_and, and_true, if_true, if_false]
      exact hK _ _ (Iw_iv hI)
  · -- the row r after one more
    have hF' : FI (mb_u F 4 (upd (F 4) (i : Int).toNat (zI (v 7 + 1)))) np nb (bset bk i (kset v 7 (v 7 + 1), mv, fun k => if k = v 7 then w else rp k, vf, vt, vw)) ns sk := by
      refine ⟨⟨f00, f01, f02⟩, fun j hj => ?_, fun j hj => ?_, fun j j1 j2 => ?_, fk⟩
      · unfold bset
        by_cases z : j = i
        · subst z
          rw [if_pos rfl]
          exact ⟨b0, b1, b2, b3, b4⟩
        · rw [if_neg z]; exact fb j hj
      · unfold bset
        by_cases z : j = i
        · subst z
          rw [if_pos rfl]
          exact ⟨m0, by rw [mb_u_eq]; exact upd_eq _ _ _⟩
        · rw [if_neg z]
          refine ⟨(fm j hj).1, ?_⟩
          rw [mb_u_eq]
          show (if (j : Int).toNat = (i : Int).toNat then _ else F 4 _) = _
          rw [if_neg (by omega)]
          exact (fm j hj).2
      · refine ⟨(fz j j1 j2).1, ?_⟩
        rw [mb_u_eq]
        show (if (j : Int).toNat = (i : Int).toNat then _ else F 4 _) = _
        rw [if_neg (by omega)]
        exact (fz j j1 j2).2
    have hT' : ∀ j : Nat, j < nb → ((bset bk i (kset v 7 (v 7 + 1), mv, fun k => if k = v 7 then w else rp k, vf, vt, vw)) j).1 6 ≤ T := by
      intro j hj
      unfold bset
      by_cases z : j = i
      · subst z
        rw [if_pos rfl]
        have := hT j hj
        rw [hq] at this
        exact this
      · rw [if_neg z]; exact hT j hj
    have g4 : (mb_u F 4 (upd (F 4) (i : Int).toNat (zI (v 7 + 1)))) 4 (i : Int).toNat = zI (v 7 + 1) := by rw [mb_u_eq]; exact upd_eq _ _ _
    have g1 : (mb_u F 4 (upd (F 4) (i : Int).toNat (zI (v 7 + 1)))) 1 (6 * (i : Int) + 4).toNat = zI (v 4) := b4
    have h91 : PL_repairs_91 N K (mb_u F 4 (upd (F 4) (i : Int).toNat (zI (v 7 + 1)))) b' (zI i) y (zI w) := by
      have hI' : Iw b' (mb_u F 4 (upd (F 4) (i : Int).toNat (zI (v 7 + 1)))) C S np pr nb _ ns sk T := ⟨hV', hz, hF', hT'⟩
      generalize mb_u F 4 (upd (F 4) (i : Int).toNat (zI (v 7 + 1))) = F' at hF' g4 g1 hI' ⊢
      have hq' : (bset bk i (kset v 7 (v 7 + 1), mv, fun k => if k = v 7 then w else rp k, vf, vt, vw)) i = (kset v 7 (v 7 + 1), mv, fun k => if k = v 7 then w else rp k, vf, vt, vw) := if_pos rfl
      unfold PL_repairs_91
      have a2 := lw_rng (x := y >>> (zI 3 &&& zI 31)) (n := 2) (by omega)
      simp (disch := omega) only [zI_lit, zI_neg, zI_add, zI_sub, zI_mul, zI_div, q_md, zI_lt, zI_le, zI_eq, zI_clamp, zI_vp, forall_eq, mb_u_eq, mb_u_ne, upd_eq, q_if, q_ifn, if_pos, if_neg, true_and, and_true, if_true, if_false, q_low]
      -- the row r with nothing taken off
      have hsame : mb_u F' 4 (upd (F' 4) (i : Int).toNat (zI (v 7 + 1))) = F' := by
        funext s k
        unfold mb_u upd
        by_cases e : s = 4
        · rw [if_pos e]
          subst e
          (try dsimp only)
          by_cases e2 : k = (i : Int).toNat
          · rw [if_pos e2, e2]; exact g4.symm
          · rw [if_neg e2]
        · rw [if_neg e]
      by_cases c : lw (y >>> (zI 3 &&& zI 31)) 2 = 0
      · simp (disch := omega) only [zI_lit, zI_neg, zI_add, zI_sub, zI_mul, zI_div, q_md, zI_lt, zI_le, zI_eq, zI_clamp, zI_vp, forall_eq, mb_u_eq, mb_u_ne, upd_eq, q_if, q_ifn, if_pos, if_neg, true_and, and_true, if_true, if_false]
        refine t_undo hN hV' hi hq' (fun z => ?_) (fun z3 z4 b2' hV2 => ?_)
        · have zw : ¬ w < 3 := by
            intro z5
            refine z ⟨?_, ?_⟩
            · show 0 < v 7 + 1
              omega
            · show (if v 7 + 1 - 1 = v 7 then w else rp (v 7 + 1 - 1)) < 3
              rw [if_pos (by omega)]; exact z5
          (try dsimp only)
          unfold PL_repairs_112 PL_repairs_128 PL_repairs_152
          simp (disch := omega) only [zI_lit, zI_neg, zI_add, zI_sub, zI_mul, zI_div, q_md, zI_lt, zI_le, zI_eq, zI_clamp, zI_vp, forall_eq, mb_u_eq, mb_u_ne, upd_eq, q_if, q_ifn, if_pos, if_neg, true_and, and_true, if_true, if_false, g4]
          rw [show v 7 + 1 - 0 = v 7 + 1 by omega, hsame]
          exact hK _ _ (Iw_iv hI')
        · have ew : (if v 7 + 1 - 1 = v 7 then w else rp (v 7 + 1 - 1)) = w := if_pos (by omega)
          have e7 : (kset v 7 (v 7 + 1)) 7 = v 7 + 1 := if_pos rfl
          rw [e7] at z4 hV2 ⊢
          (try dsimp only at z4 ⊢)
          rw [ew] at z4 ⊢
          unfold PL_repairs_112 PL_repairs_128 PL_repairs_152
          simp (disch := omega) only [zI_lit, zI_neg, zI_add, zI_sub, zI_mul, zI_div, q_md, zI_lt, zI_le, zI_eq, zI_clamp, zI_vp, forall_eq, mb_u_eq, mb_u_ne, upd_eq, q_if, q_ifn, if_pos, if_neg, true_and, and_true, if_true, if_false, g4]
          rw [show v 7 + 1 - 1 = v 7 by omega] at hV2 ⊢
          refine hK _ _ (Iw_iv (T := T) ⟨hV2, hz, ?_, fun j hj => ?_⟩)
          · obtain ⟨⟨g00, g01, g02⟩, gb, gm, gz, gk⟩ := id hF'
            refine ⟨⟨g00, g01, g02⟩, fun j hj => ?_, fun j hj => ?_, fun j j1 j2 => ?_, gk⟩
            · have := gb j hj
              unfold bset at this ⊢
              by_cases z : j = i
              · rw [if_pos z] at this ⊢; exact this
              · rw [if_neg z] at this ⊢; rw [if_neg z]; exact this
            · have := gm j hj
              unfold bset at this ⊢
              by_cases z : j = i
              · subst z
                rw [if_pos rfl] at this ⊢
                exact ⟨this.1, by rw [mb_u_eq]; exact upd_eq _ _ _⟩
              · rw [if_neg z] at this ⊢
                rw [if_neg z]
                refine ⟨this.1, ?_⟩
                rw [mb_u_eq]
                show (if (j : Int).toNat = (i : Int).toNat then _ else F' 4 _) = _
                rw [if_neg (by omega)]
                exact this.2
            · refine ⟨(gz j j1 j2).1, ?_⟩
              rw [mb_u_eq]
              show (if (j : Int).toNat = (i : Int).toNat then _ else F' 4 _) = _
              rw [if_neg (by omega)]
              exact (gz j j1 j2).2
          · have := hT' j hj
            unfold bset at this ⊢
            by_cases z : j = i
            · rw [if_pos z] at this ⊢; exact this
            · rw [if_neg z] at this ⊢; rw [if_neg z]; exact this
      · simp (disch := omega) only [zI_lit, zI_neg, zI_add, zI_sub, zI_mul, zI_div, q_md, zI_lt, zI_le, zI_eq, zI_clamp, zI_vp, forall_eq, mb_u_eq, mb_u_ne, upd_eq, q_if, q_ifn, if_pos, if_neg, true_and, and_true, if_true, if_false]
        unfold PL_repairs_112 PL_repairs_128 PL_repairs_152
        simp (disch := omega) only [zI_lit, zI_neg, zI_add, zI_sub, zI_mul, zI_div, q_md, zI_lt, zI_le, zI_eq, zI_clamp, zI_vp, forall_eq, mb_u_eq, mb_u_ne, upd_eq, q_if, q_ifn, if_pos, if_neg, true_and, and_true, if_true, if_false, g4]
        rw [show v 7 + 1 - 0 = v 7 + 1 by omega, hsame]
        exact hK _ _ (Iw_iv hI')
    (try dsimp only)
    simp (disch := omega) only [zI_lit, zI_neg, zI_add, zI_sub, zI_mul, zI_div, q_md, zI_lt, zI_le, zI_eq, zI_clamp, zI_vp, forall_eq, mb_u_eq, mb_u_ne, upd_eq, q_if, q_ifn, if_pos, if_neg, true_and, and_true, if_true, if_false, m1', g4, b4]
    by_cases c4 : v 4 = 1
    · simp (disch := omega) only [zI_lit, zI_neg, zI_add, zI_sub, zI_mul, zI_div, q_md, zI_lt, zI_le, zI_eq, zI_clamp, zI_vp, forall_eq, mb_u_eq, mb_u_ne, upd_eq, q_if, q_ifn, if_pos, if_neg, true_and, and_true, if_true, if_false]
      exact h91
    · simp (disch := omega) only [zI_lit, zI_neg, zI_add, zI_sub, zI_mul, zI_div, q_md, zI_lt, zI_le, zI_eq, zI_clamp, zI_vp, forall_eq, mb_u_eq, mb_u_ne, upd_eq, q_if, q_ifn, if_pos, if_neg, true_and, and_true, if_true, if_false]
      exact h91
