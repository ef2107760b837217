/-! THE LAW -/
section LA
variable {N : Nat} {b : mb_bs} {F : mb_m} {K : Int32 → mb_S → Prop}
theorem l_law153 {T : Int} (hN : 700 ≤ N) (hI : Iv b F T) (hK : ∀ b' F', K (zI 1) (b', F')) : PL_law_150 N K F b (zI 1) := by
  obtain ⟨C, S, np, pr, nb, bk, ns, sk, hV, hz, hF, hT⟩ := hI
  obtain ⟨⟨f00, f01, f02⟩, -⟩ := id hF
  have hp4 : nb ≤ 4 := hV.2.2.1.1
  have hc := cnt_rng C
  unfold PL_law_150
  refine (q_for (σ := mb_m × mb_bs × Int32 × Int32) (fun n s => PL_law_153 N K n s.1 s.2.1 s.2.2.1 s.2.2.2) (fun r0 s => PL_law_153_b N K (fun a0 a1 a2 a3 => r0 (a0, a1, a2, a3)) s.1 s.2.1 s.2.2.1 s.2.2.2) (fun _ _ => rfl)) (fun n s => s.1 = F ∧ s.2.1 = b ∧ s.2.2.1 = zI 1 ∧ s.2.2.2 = zI n ∧ 0 ≤ n) nb ?_ ?_ 5 0 (F, b, _, _) (by omega) (by omega) ?_
  · rintro n ⟨F1, b1, y7, y8⟩ r hn hI2 hr
    dsimp only at hI2 hr ⊢
    obtain ⟨e1, e2, rfl, rfl, h0⟩ := hI2
    rw [e1, e2]
    obtain ⟨i, rfl⟩ := Int.eq_ofNat_of_zero_le h0
    unfold PL_law_153_b
    (try simp (maxSteps := 1000000) (disch := omega) only [zI_lit, zI_neg, zI_add, zI_sub, zI_mul, zI_div, q_md, zI_lt, zI_le, zI_eq, zI_clamp, zI_vp, forall_eq, mb_u_eq, mb_u_ne, upd_eq, q_if, q_ifn, if_pos, if_neg, true_and, and_true, if_true, if_false, f01])
    refine l_isBook hN hV hF (by omega) ?_
    (try dsimp only)
    exact hr _ ⟨rfl, rfl, rfl, rfl, by omega⟩
  · rintro ⟨F1, b1, y7, y8⟩ r hI2
    dsimp only at hI2 ⊢
    obtain ⟨e1, e2, rfl, rfl, h0⟩ := hI2
    rw [e1, e2]
    unfold PL_law_153_b PL_law_181
    (try simp (maxSteps := 1000000) (disch := omega) only [zI_lit, zI_neg, zI_add, zI_sub, zI_mul, zI_div, q_md, zI_lt, zI_le, zI_eq, zI_clamp, zI_vp, forall_eq, mb_u_eq, mb_u_ne, upd_eq, q_if, q_ifn, if_pos, if_neg, true_and, and_true, if_true, if_false, f01])
    refine l_coloured hN hV hz ?_
    (try dsimp only)
    (try simp (maxSteps := 1000000) (disch := omega) only [zI_lit, zI_neg, zI_add, zI_sub, zI_mul, zI_div, q_md, zI_lt, zI_le, zI_eq, zI_clamp, zI_vp, forall_eq, mb_u_eq, mb_u_ne, upd_eq, q_if, q_ifn, if_pos, if_neg, true_and, and_true, if_true, if_false])
    exact hK _ _
  · exact ⟨rfl, rfl, rfl, rfl, by omega⟩
theorem l_law100 (hN : 700 ≤ N) (hI : Iv b F 0) (hK : ∀ b' F', K (zI 1) (b', F')) : PL_law_95 N K F b (zI 1) := by
  unfold PL_law_95
  refine (q_for (σ := mb_m × mb_bs × Int32 × Int32) (fun n s => PL_law_100 N K n s.1 s.2.1 s.2.2.1 s.2.2.2) (fun r0 s => PL_law_100_b N K (fun a0 a1 a2 a3 => r0 (a0, a1, a2, a3)) s.1 s.2.1 s.2.2.1 s.2.2.2) (fun _ _ => rfl)) (fun n s => Iv s.2.1 s.1 (n - 2) ∧ s.2.2.1 = zI 1 ∧ s.2.2.2 = zI n ∧ 2 ≤ n) 62 ?_ ?_ 61 2 (F, b, _, _) (by omega) (by omega) ?_
  · rintro n ⟨F1, b1, y7, y8⟩ r hn hI2 hr
    dsimp only at hI2 hr ⊢
    obtain ⟨h, rfl, rfl, h0⟩ := hI2
    obtain ⟨C, S, np, pr, nb, bk, ns, sk, hIw⟩ := h
    unfold PL_law_100_b
    (try simp (maxSteps := 1000000) (disch := omega) only [zI_lit, zI_neg, zI_add, zI_sub, zI_mul, zI_div, q_md, zI_lt, zI_le, zI_eq, zI_clamp, zI_vp, forall_eq, mb_u_eq, mb_u_ne, upd_eq, q_if, q_ifn, if_pos, if_neg, true_and, and_true, if_true, if_false])
    refine ⟨by omega, fun x => ⟨by omega, fun y => ?_⟩⟩
    refine l_acts hN hIw (by omega) (fun b' F' h' => ?_)
    (try dsimp only)
    (try simp (maxSteps := 1000000) (disch := omega) only [zI_lit, zI_neg, zI_add, zI_sub, zI_mul, zI_div, q_md, zI_lt, zI_le, zI_eq, zI_clamp, zI_vp, forall_eq, mb_u_eq, mb_u_ne, upd_eq, q_if, q_ifn, if_pos, if_neg, true_and, and_true, if_true, if_false])
    exact hr _ ⟨by (try dsimp only); rw [show n + 1 - 2 = n - 2 + 1 by omega]; exact h', rfl, rfl, by omega⟩
  · rintro ⟨F1, b1, y7, y8⟩ r hI2
    dsimp only at hI2 ⊢
    obtain ⟨h, rfl, rfl, h0⟩ := hI2
    unfold PL_law_100_b
    (try simp (maxSteps := 1000000) (disch := omega) only [zI_lit, zI_neg, zI_add, zI_sub, zI_mul, zI_div, q_md, zI_lt, zI_le, zI_eq, zI_clamp, zI_vp, forall_eq, mb_u_eq, mb_u_ne, upd_eq, q_if, q_ifn, if_pos, if_neg, true_and, and_true, if_true, if_false])
    exact l_law153 hN h hK
  · exact ⟨hI, rfl, rfl, by omega⟩
theorem l_law {S : Int → Int} {np : Nat} {pr : Int → Int → Int} {nb : Nat} {bk : Nat → vk} {ns : Nat} {sk : Int → Int → Int} (hN : 700 ≤ N) (hI : Iw b F (fun _ => 0) S np pr nb bk ns sk 0) (hK : ∀ b' F', K (zI 1) (b', F')) : PL_law N F b K := by
  have e0 : cnt (fun _ => 0) = 0 := sI_zero (fun k _ _ => qb_f (show ¬ (0 : Int) < 0 by omega))
  unfold PL_law
  refine l_coloured hN hI.1 hI.2.1 ?_
  rw [e0]
  (try dsimp only)
  (try simp (maxSteps := 1000000) (disch := omega) only [zI_lit, zI_neg, zI_add, zI_sub, zI_mul, zI_div, q_md, zI_lt, zI_le, zI_eq, zI_clamp, zI_vp, forall_eq, mb_u_eq, mb_u_ne, upd_eq, q_if, q_ifn, if_pos, if_neg, true_and, and_true, if_true, if_false])
  refine ⟨by omega, fun x1 => ?_⟩
  refine l_begins hN hI (by omega) (fun b1 F1 h1 => ?_)
  obtain ⟨C1, S1, np1, pr1, nb1, bk1, ns1, sk1, hI1⟩ := h1
  (try dsimp only)
  (try simp (maxSteps := 1000000) (disch := omega) only [zI_lit, zI_neg, zI_add, zI_sub, zI_mul, zI_div, q_md, zI_lt, zI_le, zI_eq, zI_clamp, zI_vp, forall_eq, mb_u_eq, mb_u_ne, upd_eq, q_if, q_ifn, if_pos, if_neg, true_and, and_true, if_true, if_false])
  refine ⟨by omega, fun x2 => ?_⟩
  refine l_begins hN hI1 (by omega) (fun b2 F2 h2 => ?_)
  obtain ⟨C2, S2, np2, pr2, nb2, bk2, ns2, sk2, hI2⟩ := h2
  (try dsimp only)
  (try simp (maxSteps := 1000000) (disch := omega) only [zI_lit, zI_neg, zI_add, zI_sub, zI_mul, zI_div, q_md, zI_lt, zI_le, zI_eq, zI_clamp, zI_vp, forall_eq, mb_u_eq, mb_u_ne, upd_eq, q_if, q_ifn, if_pos, if_neg, true_and, and_true, if_true, if_false])
  refine ⟨by omega, fun x3 => ?_⟩
  refine l_begins hN hI2 (by omega) (fun b3 F3 h3 => ?_)
  (try dsimp only)
  (try simp (maxSteps := 1000000) (disch := omega) only [zI_lit, zI_neg, zI_add, zI_sub, zI_mul, zI_div, q_md, zI_lt, zI_le, zI_eq, zI_clamp, zI_vp, forall_eq, mb_u_eq, mb_u_ne, upd_eq, q_if, q_ifn, if_pos, if_neg, true_and, and_true, if_true, if_false])
  exact l_law100 hN h3 hK
end LA
