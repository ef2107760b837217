def gr (a b : Int) : Prop := (0 ≤ a ∧ a ≤ 7) ∧ 0 ≤ b ∧ b ≤ 7
theorem b_drop {N : Nat} {M7 MA : mb_m} {fP fB fS : Nat → Option Nat} {LP : List mb_p} {LB : List mb_k} {LS : List mb_p} {K : Int32 → mb_bs → Prop} {KX : String → mb_bs → Prop} {a1 a2 a3 a4 : Int}
    (l1 : -2147483648 ≤ a1) (g1 : a1 < 2147483648) (l2 : -2147483648 ≤ a2) (g2 : a2 < 2147483648) (l3 : -2147483648 ≤ a3) (g3 : a3 < 2147483648) (l4 : -2147483648 ≤ a4) (g4 : a4 < 2147483648)
    (h0 : gr a1 a2 → 0 ≤ a3 ∧ a3 ≤ 5 → 1 ≤ a4 ∧ a4 ≤ 64 → PX0_spread N MA (zI a1) (zI a2) (zI a3) (zI a4) (fun r u => K r (M7, u, fP, fB, fS, LP, LB, LS)))
    (h1 : ¬ gr a1 a2 → KX eO (M7, MA, fP, fB, fS, LP, LB, LS)) (h2 : gr a1 a2 → ¬ ((0 ≤ a3 ∧ a3 ≤ 5) ∧ 1 ≤ a4 ∧ a4 ≤ 64) → KX eA (M7, MA, fP, fB, fS, LP, LB, LS)) :
    BP_drop N M7 MA fP fB fS LP LB LS (zI a1) (zI a2) (zI a3) (zI a4) K KX := by
  unfold gr at h0 h1 h2
  unfold BP_drop PX7_drop PX7_drop_32 PX7_drop_33
  simp (disch := omega) only [zI_lit, zI_neg, zI_add, zI_sub, zI_mul, zI_div, q_md, zI_lt, zI_le, zI_eq, zI_clamp, zI_vp, forall_eq, mb_u_eq, mb_u_ne, upd_eq, q_if, q_ifn, if_pos, if_neg, true_and, and_true, if_true, if_false, q_isOnGrid, q_isWithin, q_demandPlace0, q_demandPlace1, q_demandArgument0, q_demandArgument1]
  (repeat' split) <;> first | exact h0 (by omega) (by omega) (by omega) | exact h1 (by omega) | exact h2 (by omega) (by omega)
theorem mm_drop {N : Nat} {m : mb_m} {K : Int32 → mb_m → Prop} {a1 a2 a3 a4 : Int}
    (l1 : -2147483648 ≤ a1) (g1 : a1 < 2147483648) (l2 : -2147483648 ≤ a2) (g2 : a2 < 2147483648) (l3 : -2147483648 ≤ a3) (g3 : a3 < 2147483648) (l4 : -2147483648 ≤ a4) (g4 : a4 < 2147483648)
    (h0 : gr a1 a2 → 0 ≤ a3 ∧ a3 ≤ 5 → 1 ≤ a4 ∧ a4 ≤ 64 → PX8_drop_60 N K N (mb_u m 27 (mb_c (zI 0))) (zI a1) (zI a2) (zI a3) (zI a4) (zI 0) (zI 0))
    (h1 : ¬ gr a1 a2 → K (zI 0) (mb_u m 27 (mb_c (zI 1)))) (h2 : gr a1 a2 → ¬ ((0 ≤ a3 ∧ a3 ≤ 5) ∧ 1 ≤ a4 ∧ a4 ≤ 64) → K (zI 0) (mb_u m 27 (mb_c (zI 2)))) :
    PX8_drop N m (zI a1) (zI a2) (zI a3) (zI a4) K := by
  unfold gr at h0 h1 h2
  unfold PX8_drop PX8_drop_19 PX8_drop_20 PX8_drop_44 PX8_drop_45
  simp (disch := omega) only [zI_lit, zI_neg, zI_add, zI_sub, zI_mul, zI_div, q_md, zI_lt, zI_le, zI_eq, zI_clamp, zI_vp, forall_eq, mb_u_eq, mb_u_ne, upd_eq, q_if, q_ifn, if_pos, if_neg, true_and, and_true, if_true, if_false, q_isEdge, q_in8, q_goes0, q_goes10, q_goes110, q_goes111]
  (repeat' split) <;> first | exact h0 (by omega) (by omega) (by omega) | exact h1 (by omega) | exact h2 (by omega) (by omega)
theorem s_drop {N : Nat} {M7 MA : mb_m} {fP fB fS : Nat → Option Nat} {LP : List mb_p} {LB : List mb_k} {LS : List mb_p} {m : mb_m} (hN : 700 ≤ N) (h : Rm (M7, MA, fP, fB, fS, LP, LB, LS) m) (x1 x2 x3 x4 : Int32) :
    BP_drop N M7 MA fP fB fS LP LB LS x1 x2 x3 x4 (fun r b => PX8_drop N m x1 x2 x3 x4 (Qe 0 r b)) (fun E b => (E = eO ∧ PX8_drop N m x1 x2 x3 x4 (Qe 1 0 b)) ∨ (E = eA ∧ PX8_drop N m x1 x2 x3 x4 (Qe 2 0 b))) := by
  obtain ⟨a1, l1, g1, rfl⟩ := zI_ex x1
  obtain ⟨a2, l2, g2, rfl⟩ := zI_ex x2
  obtain ⟨a3, l3, g3, rfl⟩ := zI_ex x3
  obtain ⟨a4, l4, g4, rfl⟩ := zI_ex x4
  obtain ⟨⟨C, S, hR, hb, hC, hS⟩, hrest⟩ := id h
  refine b_drop l1 g1 l2 g2 l3 g3 l4 g4 (fun c1 c2 c3 => ?_) (fun c1 => Or.inl ⟨rfl, ?_⟩) (fun c1 c2 => Or.inr ⟨rfl, ?_⟩)
  · refine e_spread hN c1.1 c1.2 c2 c3 hR hb (fun MA' hb' => ?_)
    refine mm_drop l1 g1 l2 g2 l3 g3 l4 g4 (fun _ _ _ => ?_) (fun c => absurd c1 c) (fun _ c => absurd ⟨c2, c3⟩ c)
    refine m_drop hN c1.1 c1.2 c2 c3 hR (mr_ne _ hC (by decide)) (mr_ne _ hS (by decide)) (fun m' hf g0 g1 => ?_)
    have hf' : mf m m' [27, 0, 1] := mf_tr (mf_mono (mf_u (mf_refl m [27]) _ (by decide)) (by decide)) (mf_mono hf (by decide))
    exact ⟨mf_m1 hf (by decide) (m1_set _ _ _), fun _ => rfl, ⟨_, _, bR_u c2 hR, hb', g0, g1⟩, RP_mf h.2.1 hf' (by decide) (by decide), RB_mf h.2.2.1 hf' (by decide), RS_mf h.2.2.2 hf' (by decide) (by decide)⟩
  · exact mm_drop l1 g1 l2 g2 l3 g3 l4 g4 (fun c _ _ => absurd c c1) (fun _ => Qe_x h (by decide)) (fun c => absurd c c1)
  · exact mm_drop l1 g1 l2 g2 l3 g3 l4 g4 (fun _ x y => absurd ⟨x, y⟩ c2) (fun c => absurd c1 c) (fun _ _ => Qe_x h (by decide))
theorem s_comb {N : Nat} {M7 MA : mb_m} {fP fB fS : Nat → Option Nat} {LP : List mb_p} {LB : List mb_k} {LS : List mb_p} {m : mb_m} (hN : 700 ≤ N) (h : Rm (M7, MA, fP, fB, fS, LP, LB, LS) m) (x1 x2 x3 : Int32) :
    BP_comb N M7 MA fP fB fS LP LB LS x1 x2 x3 (fun r b => PX8_comb N m x1 x2 x3 (Qe 0 r b)) (fun E b => (E = eO ∧ PX8_comb N m x1 x2 x3 (Qe 1 0 b)) ∨ (E = eA ∧ PX8_comb N m x1 x2 x3 (Qe 2 0 b))) := by
  obtain ⟨a2, l2, g2, rfl⟩ := zI_ex x2
  obtain ⟨a3, l3, g3, rfl⟩ := zI_ex x3
  unfold BP_comb PX7_comb PX8_comb
  simp (disch := omega) only [zI_lit, zI_neg, zI_add, zI_sub, zI_mul, zI_div, q_md, zI_lt, zI_le, zI_eq, zI_clamp, zI_vp, forall_eq, mb_u_eq, mb_u_ne, upd_eq, q_if, q_ifn, if_pos, if_neg, true_and, and_true, if_true, if_false, q_isOnSide, q_isWithin, q_demandPlace0, q_demandPlace1, q_demandArgument0, q_demandArgument1, q_isEdge, q_in8, q_goes0, q_goes10, q_goes110, q_goes111]
  obtain ⟨⟨C, S, hR, hb, hC, hS⟩, hrest⟩ := id h
  by_cases c1 : 0 ≤ a2 ∧ a2 ≤ 7
  · by_cases c2 : -7 ≤ a3 ∧ a3 ≤ 7
    · simp only [c1, c2, and_self, if_true]
      refine e_shift hN c1 c2 hR hb (fun MA' hb' => ?_)
      refine m_comb hN c1 c2 hR (mr_ne _ hC (by decide)) (mr_ne _ hS (by decide)) (fun m' hf g0 g1 => ?_)
      have hf' : mf m m' [27, 0, 1] := mf_tr (mf_mono (mf_u (mf_refl m [27]) _ (by decide)) (by decide)) (mf_mono hf (by decide))
      exact ⟨mf_m1 hf (by decide) (m1_set _ _ _), fun _ => rfl, ⟨_, _, bR_c c1 hR, hb', g0, g1⟩, RP_mf h.2.1 hf' (by decide) (by decide), RB_mf h.2.2.1 hf' (by decide), RS_mf h.2.2.2 hf' (by decide) (by decide)⟩
    · simp only [c1, c2, and_self, if_true, if_false]
      exact Or.inr ⟨rfl, Qe_x h (by decide)⟩
  · simp only [c1, if_false]
    refine Or.inl ⟨rfl, ?_⟩
    (repeat' split) <;> first | exact Qe_x h (by decide) | (exfalso; omega)
theorem s_clean {N : Nat} {M7 MA : mb_m} {fP fB fS : Nat → Option Nat} {LP : List mb_p} {LB : List mb_k} {LS : List mb_p} {m : mb_m} (hN : 700 ≤ N) (h : Rm (M7, MA, fP, fB, fS, LP, LB, LS) m) :
    BP_clean N M7 MA fP fB fS LP LB LS (fun r b => PX8_clean N m (Qe 0 r b)) := by
  unfold BP_clean PX7_clean
  obtain ⟨⟨C, S, hR, hb, hC, hS⟩, hrest⟩ := id h
  refine e_empty hN hR hb (fun MA' hb' => ?_)
  refine m_clean hN hR hC hS (fun m' hf ht g0 g1 => ?_)
  exact ⟨ht, fun _ => rfl, ⟨_, _, bR_0, hb', g0, g1⟩, RP_mf h.2.1 hf (by decide) (by decide), RB_mf h.2.2.1 hf (by decide), RS_mf h.2.2.2 hf (by decide) (by decide)⟩
theorem b_cellAt {N : Nat} {M7 MA : mb_m} {fP fB fS : Nat → Option Nat} {LP : List mb_p} {LB : List mb_k} {LS : List mb_p} {K : Int32 → mb_bs → Prop} {KX : String → mb_bs → Prop} {a1 a2 a3 : Int}
    (l1 : -2147483648 ≤ a1) (g1 : a1 < 2147483648) (l2 : -2147483648 ≤ a2) (g2 : a2 < 2147483648) (l3 : -2147483648 ≤ a3) (g3 : a3 < 2147483648)
    (h0 : gr a1 a2 → a3 = 0 → K (MA 0 (a2 * 8 + a1).toNat) (M7, MA, fP, fB, fS, LP, LB, LS)) (h00 : gr a1 a2 → a3 = 1 → K (MA 1 (a2 * 8 + a1).toNat) (M7, MA, fP, fB, fS, LP, LB, LS))
    (h1 : ¬ gr a1 a2 → KX eO (M7, MA, fP, fB, fS, LP, LB, LS)) (h2 : gr a1 a2 → ¬ (0 ≤ a3 ∧ a3 ≤ 1) → KX eA (M7, MA, fP, fB, fS, LP, LB, LS)) :
    BP_cellAt N M7 MA fP fB fS LP LB LS (zI a1) (zI a2) (zI a3) K KX := by
  unfold gr at h0 h00 h1 h2
  unfold BP_cellAt PX7_cellAt
  simp (disch := omega) only [zI_lit, zI_neg, zI_add, zI_sub, zI_mul, zI_div, q_md, zI_lt, zI_le, zI_eq, zI_clamp, zI_vp, forall_eq, mb_u_eq, mb_u_ne, upd_eq, q_if, q_ifn, if_pos, if_neg, true_and, and_true, if_true, if_false, q_isOnGrid, q_isWithin, q_demandPlace0, q_demandPlace1, q_demandArgument0, q_demandArgument1, q_cellOf]
  by_cases c1 : (0 ≤ a1 ∧ a1 ≤ 7) ∧ 0 ≤ a2 ∧ a2 ≤ 7
  · rw [if_pos c1]
    (try simp (disch := omega) only [zI_lit, zI_neg, zI_add, zI_sub, zI_mul, zI_div, q_md, zI_lt, zI_le, zI_eq, zI_clamp, zI_vp, forall_eq, mb_u_eq, mb_u_ne, upd_eq, q_if, q_ifn, if_pos, if_neg, true_and, and_true, if_true, if_false])
    (repeat' split) <;> first | exact h0 c1 (by omega) | exact h00 c1 (by omega) | exact h2 c1 (by omega)
  · rw [if_neg c1]; exact h1 c1
theorem mm_cellAt {N : Nat} {m : mb_m} {K : Int32 → mb_m → Prop} {a1 a2 a3 : Int}
    (l1 : -2147483648 ≤ a1) (g1 : a1 < 2147483648) (l2 : -2147483648 ≤ a2) (g2 : a2 < 2147483648) (l3 : -2147483648 ≤ a3) (g3 : a3 < 2147483648)
    (h0 : gr a1 a2 → a3 = 0 → K (m 0 (8 * a2 + a1).toNat - zI 1) (mb_u m 27 (mb_c (zI 0)))) (h00 : gr a1 a2 → a3 = 1 → K (m 1 (8 * a2 + a1).toNat) (mb_u m 27 (mb_c (zI 0))))
    (h1 : ¬ gr a1 a2 → K (zI 0) (mb_u m 27 (mb_c (zI 1)))) (h2 : gr a1 a2 → ¬ (0 ≤ a3 ∧ a3 ≤ 1) → K (zI 0) (mb_u m 27 (mb_c (zI 2)))) :
    PX8_cellAt N m (zI a1) (zI a2) (zI a3) K := by
  unfold gr at h0 h00 h1 h2
  unfold PX8_cellAt PX8_cellAt_19 PX8_cellAt_20
  by_cases c1 : (0 ≤ a1 ∧ a1 ≤ 7) ∧ 0 ≤ a2 ∧ a2 ≤ 7
  · simp (disch := omega) only [zI_lit, zI_neg, zI_add, zI_sub, zI_mul, zI_div, q_md, zI_lt, zI_le, zI_eq, zI_clamp, zI_vp, forall_eq, mb_u_eq, mb_u_ne, upd_eq, q_if, q_ifn, if_pos, if_neg, true_and, and_true, if_true, if_false, q_isEdge, q_in8, q_goes0, q_goes10, q_goes110, q_goes111, c1, and_self]
    (repeat' split) <;> first | exact h0 c1 (by omega) | exact h00 c1 (by omega) | exact h2 c1 (by omega)
  · simp (disch := omega) only [zI_lit, zI_neg, zI_add, zI_sub, zI_mul, zI_div, q_md, zI_lt, zI_le, zI_eq, zI_clamp, zI_vp, forall_eq, mb_u_eq, mb_u_ne, upd_eq, q_if, q_ifn, if_pos, if_neg, true_and, and_true, if_true, if_false, q_isEdge, q_in8, q_goes0, q_goes10, q_goes110, q_goes111, ite_self]
    (repeat' split) <;> first | exact h1 c1 | (exfalso; omega)
theorem s_cellAt {N : Nat} {M7 MA : mb_m} {fP fB fS : Nat → Option Nat} {LP : List mb_p} {LB : List mb_k} {LS : List mb_p} {m : mb_m} (hN : 700 ≤ N) (h : Rm (M7, MA, fP, fB, fS, LP, LB, LS) m) (x1 x2 x3 : Int32) :
    BP_cellAt N M7 MA fP fB fS LP LB LS x1 x2 x3 (fun r b => PX8_cellAt N m x1 x2 x3 (Qe 0 r b)) (fun E b => (E = eO ∧ PX8_cellAt N m x1 x2 x3 (Qe 1 0 b)) ∨ (E = eA ∧ PX8_cellAt N m x1 x2 x3 (Qe 2 0 b))) := by
  obtain ⟨a1, l1, g1, rfl⟩ := zI_ex x1
  obtain ⟨a2, l2, g2, rfl⟩ := zI_ex x2
  obtain ⟨a3, l3, g3, rfl⟩ := zI_ex x3
  obtain ⟨⟨C, S, hR, hb, hC, hS⟩, hrest⟩ := id h
  have hb : bI MA C S := hb
  have hv : gr a1 a2 → MA 0 (a2 * 8 + a1).toNat = m 0 (8 * a2 + a1).toNat - zI 1 ∧ MA 1 (a2 * 8 + a1).toNat = m 1 (8 * a2 + a1).toNat := by
    intro c1
    unfold gr at c1
    rw [hb.1 (a2 * 8 + a1) (by omega) (by omega), hb.2 (a2 * 8 + a1) (by omega) (by omega), hC (8 * a2 + a1) (by omega) (by omega), hS (8 * a2 + a1) (by omega) (by omega), show a2 * 8 + a1 = 8 * a2 + a1 by omega, zI_sub]
    exact ⟨rfl, rfl⟩
  have hQ : ∀ v r : Int32, v = r → Qe 0 r (M7, MA, fP, fB, fS, LP, LB, LS) v (mb_u m 27 (mb_c (zI 0))) := fun v r e => ⟨m1_set _ _ _, fun _ => e, Rm_scr h (mf_u (mf_refl _ _) _ (by decide))⟩
  refine b_cellAt l1 g1 l2 g2 l3 g3 (fun c1 c2 => ?_) (fun c1 c2 => ?_) (fun c1 => Or.inl ⟨rfl, ?_⟩) (fun c1 c2 => Or.inr ⟨rfl, ?_⟩)
  · exact mm_cellAt l1 g1 l2 g2 l3 g3 (fun _ _ => hQ _ _ (hv c1).1.symm) (fun _ _ => by omega) (fun c => absurd c1 c) (fun _ _ => by omega)
  · exact mm_cellAt l1 g1 l2 g2 l3 g3 (fun _ _ => by omega) (fun _ _ => hQ _ _ (hv c1).2.symm) (fun c => absurd c1 c) (fun _ _ => by omega)
  · exact mm_cellAt l1 g1 l2 g2 l3 g3 (fun c _ => absurd c c1) (fun c _ => absurd c c1) (fun _ => Qe_x h (by decide)) (fun c => absurd c c1)
  · exact mm_cellAt l1 g1 l2 g2 l3 g3 (fun _ _ => by omega) (fun _ _ => by omega) (fun c => absurd c1 c) (fun _ _ => Qe_x h (by decide))
theorem va_up_eq {α : Type} (f : Nat → α) (k : Nat) (v : α) : va_up f k v k = v := if_pos rfl
theorem va_up_neq {α : Type} (f : Nat → α) {k j : Nat} (v : α) (h : j ≠ k) : va_up f k v j = f j := if_neg h
theorem b_lift {N : Nat} {M7 MA : mb_m} {fP fB fK : Nat → Option Nat} {LP : List mb_p} {LB : List mb_k} {LS : List mb_p} {K : Int32 → mb_bs → Prop} {KX : String → mb_bs → Prop} {np : Nat} {C S : Int → Int}
    (hN : 700 ≤ N) (hv : m1 M7 4 np) (hp : np ≤ 10) (hR : bR C S) (hb : bI MA C S)
    (h0 : np < 10 → ∀ o a Mp MA', mr Mp 0 (fun k => C k - 1) 64 → bI MA' (fC C S) (fS C S) → K (zI np) (mb_u M7 4 (mb_c (zI (np + 1))), MA', va_up fP np (some o), fB, fK, LP ++ [(o, a, Mp)], LB, LS))
    (h1 : np = 10 → KX eS (M7, MA, fP, fB, fK, LP, LB, LS)) : BP_lift N M7 MA fP fB fK LP LB LS K KX := by
  have v : M7 4 0 = zI np := hv
  have e : ((np : Int)).toNat = np := by omega
  unfold BP_lift PX7_lift PX7_lift_14
  simp (disch := omega) only [zI_lit, zI_neg, zI_add, zI_sub, zI_mul, zI_div, q_md, zI_lt, zI_le, zI_eq, zI_clamp, zI_vp, forall_eq, mb_u_eq, mb_u_ne, upd_eq, q_if, q_ifn, if_pos, if_neg, true_and, and_true, if_true, if_false, v, q_demandState0, q_demandState1]
  split
  · exact h1 (by omega)
  · refine e_press hN hb.1 (fun o a Mp hmp => ?_)
    simp (disch := omega) only [zI_lit, zI_neg, zI_add, zI_sub, zI_mul, zI_div, q_md, zI_lt, zI_le, zI_eq, zI_clamp, zI_vp, forall_eq, mb_u_eq, mb_u_ne, upd_eq, q_if, q_ifn, if_pos, if_neg, true_and, and_true, if_true, if_false, v, e]
    exact e_fade hN hR hb (fun MA' hb' => h0 (by omega) o a Mp MA' hmp hb')
theorem s_lift {N : Nat} {M7 MA : mb_m} {fP fB fK : Nat → Option Nat} {LP : List mb_p} {LB : List mb_k} {LS : List mb_p} {m : mb_m} (hN : 700 ≤ N) (h : Rm (M7, MA, fP, fB, fK, LP, LB, LS) m) :
    BP_lift N M7 MA fP fB fK LP LB LS (fun r b => PX8_lift N m (Qe 0 r b)) (fun E b => E = eS ∧ PX8_lift N m (Qe 1 0 b)) := by
  obtain ⟨⟨C, S, hR, hb, hC, hS⟩, ⟨np, pr, p1, p2, p3, p4, p5, p6, p7, p8⟩, hB, hSk⟩ := id h
  have v : m 2 0 = zI np := p3
  refine b_lift hN p2 p1 hR hb (fun c o a Mp MA' g1 g2 => ?_) (fun c => ⟨rfl, ?_⟩)
  · unfold PX8_lift PX8_lift_15
    simp (disch := omega) only [zI_lit, zI_neg, zI_add, zI_sub, zI_mul, zI_div, q_md, zI_lt, zI_le, zI_eq, zI_clamp, zI_vp, forall_eq, mb_u_eq, mb_u_ne, upd_eq, q_if, q_ifn, if_pos, if_neg, true_and, and_true, if_true, if_false, v, q_goes111]
    refine m_lift hN (by omega) hR (mr_ne _ hC (by decide)) (mr_ne _ hS (by decide)) (m1_ne _ p3 (by decide)) (mr_ne _ p4 (by decide)) (fun m' hf e0 e1 e2 e3 => ?_)
    have hf' : mf m m' [27, 0, 1, 2, 3] := mf_tr (mf_mono (mf_u (mf_refl m [27]) _ (by decide)) (by decide)) (mf_mono hf (by decide))
    refine ⟨mf_m1 hf (by decide) (m1_set _ _ _), fun _ => rfl, ⟨_, _, bR_f hR, g2, e0, e1⟩, ?_, RB_mf (RB_7 hB (mf_u (mf_refl _ [4]) _ (by decide)) (by decide)) hf' (by decide), RS_mf (RS_7 hSk (mf_u (mf_refl _ [4]) _ (by decide)) (by decide)) hf' (by decide) (by decide)⟩
    refine ⟨np + 1, fun i k => if i = np then C k else pr i k, by omega, ?_, ?_, ?_, ?_, fun i hi => ?_, fun i hi hi2 => ?_, fun i k i1 i2 k1 k2 => ?_⟩
    · rw [Int.natCast_add]; exact m1_set _ _ _
    · rw [Int.natCast_add]; exact e2
    · rw [Int.natCast_add]; exact e3
    · (try dsimp only at p5 ⊢); rw [List.length_append, p5]; rfl
    · (try dsimp only at p5 p6 ⊢)
      by_cases hh : i = np
      · subst hh
        refine ⟨_, by rw [← p5]; exact List.getElem?_concat_length, va_up_eq _ _ _, mr_cong g1 (fun k _ _ => by (try dsimp only); rw [if_pos rfl])⟩
      · obtain ⟨x, x1, x2, x3⟩ := p6 i (by omega)
        refine ⟨x, by rw [List.getElem?_append_left (by rw [p5]; omega)]; exact x1, by rw [va_up_neq _ _ hh]; exact x2, mr_cong x3 (fun k _ _ => by (try dsimp only); rw [if_neg (by omega)])⟩
    · (try dsimp only at p7 ⊢); rw [va_up_neq _ _ (by omega)]; exact p7 i (by omega) hi2
    · (try dsimp only); split
      · have := hR k k1 k2; omega
      · exact p8 i k i1 (by omega) k1 k2
  · unfold PX8_lift PX8_lift_15
    simp (disch := omega) only [zI_lit, zI_neg, zI_add, zI_sub, zI_mul, zI_div, q_md, zI_lt, zI_le, zI_eq, zI_clamp, zI_vp, forall_eq, mb_u_eq, mb_u_ne, upd_eq, q_if, q_ifn, if_pos, if_neg, true_and, and_true, if_true, if_false, v, q_goes0]
    exact Qe_x h (by decide)
theorem q_printOf {N : Nat} {M : mb_m} {f : Nat → Option Nat} {a : Int} {K : Nat → (mb_m × (Nat → Option Nat)) → Prop} {KX : String → (mb_m × (Nat → Option Nat)) → Prop} (l : -2147483648 ≤ a) (g : a < 2147483648)
    (h0 : ∀ o, 0 ≤ a → a ≤ 9 → f a.toNat = some o → K o (M, f)) (h1 : (0 ≤ a → a ≤ 9 → f a.toNat = none) → KX eO (M, f)) : PX7_printOf N M f (zI a) K KX := by
  unfold PX7_printOf
  simp (disch := omega) only [zI_lit, zI_neg, zI_add, zI_sub, zI_mul, zI_div, q_md, zI_lt, zI_le, zI_eq, zI_clamp, zI_vp, forall_eq, mb_u_eq, mb_u_ne, upd_eq, q_if, q_ifn, if_pos, if_neg, true_and, and_true, if_true, if_false, q_isWithin]
  split
  · rename_i c
    (try simp (disch := omega) only [zI_lit, zI_neg, zI_add, zI_sub, zI_mul, zI_div, q_md, zI_lt, zI_le, zI_eq, zI_clamp, zI_vp, forall_eq, mb_u_eq, mb_u_ne, upd_eq, q_if, q_ifn, if_pos, if_neg, true_and, and_true, if_true, if_false])
    exact ⟨fun e => h1 (fun _ _ => e), fun o e => h0 o c.1 c.2 e⟩
  · rename_i c
    exact h1 (fun x y => absurd ⟨x, y⟩ c)
theorem q_isPrint {N : Nat} {M : mb_m} {np a : Int} {K : Int32 → mb_m → Prop} (l : -2147483648 ≤ a) (g : a < 2147483648) (h : m1 M 2 np) (h0 : 0 ≤ np) (h1 : np ≤ 10) : PX8_isPrint N M (zI a) K = if 0 ≤ a ∧ a ≤ np - 1 then K (zI 1) M else K (zI 0) M := by
  have v : M 2 0 = zI np := h
  unfold PX8_isPrint
  simp (disch := omega) only [zI_lit, zI_neg, zI_add, zI_sub, zI_mul, zI_div, q_md, zI_lt, zI_le, zI_eq, zI_clamp, zI_vp, forall_eq, mb_u_eq, mb_u_ne, upd_eq, q_if, q_ifn, if_pos, if_neg, true_and, and_true, if_true, if_false, v, q_in8, q_isB1, q_isB0]
/-- a list with one of its members named -/
theorem q_split {α : Type} {L : List α} {i : Nat} {x : α} (h : L[i]? = some x) : L = L.take i ++ x :: L.drop (i + 1) := by
  obtain ⟨hi, hx⟩ := List.getElem?_eq_some_iff.mp h
  rw [← hx, List.getElem_cons_drop hi, List.take_append_drop]
theorem b_printAt {N : Nat} {M7 MA : mb_m} {fP fB fK : Nat → Option Nat} {LP : List mb_p} {LB : List mb_k} {LS : List mb_p} {K : Int32 → mb_bs → Prop} {KX : String → mb_bs → Prop} {a1 a2 a3 : Int} {m : mb_m} {np : Nat}
    (l1 : -2147483648 ≤ a1) (g1 : a1 < 2147483648) (l2 : -2147483648 ≤ a2) (g2 : a2 < 2147483648) (l3 : -2147483648 ≤ a3) (g3 : a3 < 2147483648)
    (p1 : np ≤ 10) (p6 : ∀ i : Nat, i < np → ∃ x, LP[i]? = some x ∧ fP i = some x.1) (p7 : ∀ i : Nat, np ≤ i → i < 10 → fP i = none)
    (h0 : 0 ≤ a1 → a1 < np → gr a2 a3 → ∀ x, LP[a1.toNat]? = some x → K (x.2.2 0 (a3 * 8 + a2).toNat) (M7, MA, fP, fB, fK, LP, LB, LS))
    (h1 : ¬ ((0 ≤ a1 ∧ a1 < np) ∧ gr a2 a3) → KX eO (M7, MA, fP, fB, fK, LP, LB, LS)) :
    BP_printAt N M7 MA fP fB fK LP LB LS (zI a1) (zI a2) (zI a3) K KX := by
  unfold gr at h0 h1
  by_cases c : 0 ≤ a1 ∧ a1 < np
  · obtain ⟨x, x1, x2⟩ := p6 a1.toNat (by omega)
    refine Or.inl ⟨_, x, _, q_split x1, ?_⟩
    unfold PX7_printAt
    refine q_printOf l1 g1 (fun o _ _ e => ?_) (fun e => ?_)
    · have e2 : o = x.1 := by rw [x2] at e; exact (Option.some.inj e).symm
      simp (disch := omega) only [zI_lit, zI_neg, zI_add, zI_sub, zI_mul, zI_div, q_md, zI_lt, zI_le, zI_eq, zI_clamp, zI_vp, forall_eq, mb_u_eq, mb_u_ne, upd_eq, q_if, q_ifn, if_pos, if_neg, true_and, and_true, if_true, if_false, q_isOnGrid, q_demandPlace0, q_demandPlace1, q_cellOf]
      split
      · rename_i cg
        (try simp (disch := omega) only [zI_lit, zI_neg, zI_add, zI_sub, zI_mul, zI_div, q_md, zI_lt, zI_le, zI_eq, zI_clamp, zI_vp, forall_eq, mb_u_eq, mb_u_ne, upd_eq, q_if, q_ifn, if_pos, if_neg, true_and, and_true, if_true, if_false])
        refine ⟨e2, ?_⟩
        have := h0 c.1 c.2 cg x x1
        rwa [show (LP.take a1.toNat ++ (x.1, x.2.1, x.2.2) :: LP.drop (a1.toNat + 1)) = LP from (q_split x1).symm]
      · rename_i cg
        have := h1 (fun z => cg z.2)
        rwa [show (LP.take a1.toNat ++ (x.1, x.2.1, x.2.2) :: LP.drop (a1.toNat + 1)) = LP from (q_split x1).symm]
    · exact absurd (e c.1 (by omega)) (by rw [x2]; exact fun z => by cases z)
  · refine Or.inr ?_
    unfold PX7_printAt_n
    refine q_printOf l1 g1 (fun o e1 e2 e3 => ?_) (fun e => h1 (fun z => c z.1))
    rw [p7 a1.toNat (by omega) (by omega)] at e3
    cases e3
theorem s_printAt {N : Nat} {M7 MA : mb_m} {fP fB fK : Nat → Option Nat} {LP : List mb_p} {LB : List mb_k} {LS : List mb_p} {m : mb_m} (hN : 700 ≤ N) (h : Rm (M7, MA, fP, fB, fK, LP, LB, LS) m) (x1 x2 x3 : Int32) :
    BP_printAt N M7 MA fP fB fK LP LB LS x1 x2 x3 (fun r b => PX8_printAt N m x1 x2 x3 (Qe 0 r b)) (fun E b => E = eO ∧ PX8_printAt N m x1 x2 x3 (Qe 1 0 b)) := by
  obtain ⟨a1, l1, g1, rfl⟩ := zI_ex x1
  obtain ⟨a2, l2, g2, rfl⟩ := zI_ex x2
  obtain ⟨a3, l3, g3, rfl⟩ := zI_ex x3
  obtain ⟨hA, ⟨np, pr, p1, p2, p3, p4, p5, p6, p7, p8⟩, hB, hSk⟩ := id h
  refine b_printAt (m := m) (np := np) l1 g1 l2 g2 l3 g3 p1 (fun i hi => by obtain ⟨x, x1, x2, _⟩ := p6 i hi; exact ⟨x, x1, x2⟩) p7 (fun c1 c2 c3 x hx => ?_) (fun c => ⟨rfl, ?_⟩)
  · unfold gr at c3
    have w := p4 (64 * a1 + 8 * a3 + a2) (by omega) (by omega)
    obtain ⟨x', y1, y2, y3⟩ := p6 a1.toNat (by omega)
    have hx' : x' = x := by
      have : LP[a1.toNat]? = some x' := y1
      rw [hx] at this; exact (Option.some.inj this).symm
    subst hx'
    have w2 := y3 (a3 * 8 + a2) (by omega) (by omega)
    (try dsimp only at w w2)
    rw [show (64 * a1 + 8 * a3 + a2) / 64 = a1 by omega, show (64 * a1 + 8 * a3 + a2) % 64 = a3 * 8 + a2 by omega] at w
    rw [show ((a1.toNat : Nat) : Int) = a1 by omega] at w2
    unfold PX8_printAt PX8_printAt_27 PX8_printAt_28
    simp (disch := omega) only [zI_lit, zI_neg, zI_add, zI_sub, zI_mul, zI_div, q_md, zI_lt, zI_le, zI_eq, zI_clamp, zI_vp, forall_eq, mb_u_eq, mb_u_ne, upd_eq, q_if, q_ifn, if_pos, if_neg, true_and, and_true, if_true, if_false, q_isPrint l1 g1 p3, q_isEdge, q_goes0, q_goes111, w]
    exact ⟨m1_set _ _ _, fun _ => w2.symm, Rm_scr h (mf_u (mf_refl _ _) _ (by decide))⟩
  · unfold gr at c
    unfold PX8_printAt PX8_printAt_27 PX8_printAt_28
    simp (disch := omega) only [zI_lit, zI_neg, zI_add, zI_sub, zI_mul, zI_div, q_md, zI_lt, zI_le, zI_eq, zI_clamp, zI_vp, forall_eq, mb_u_eq, mb_u_ne, upd_eq, q_if, q_ifn, if_pos, if_neg, true_and, and_true, if_true, if_false, q_isPrint l1 g1 p3, q_isEdge, q_goes0]
    (repeat' split) <;> first | exact Qe_x h (by decide) | (exfalso; omega)
theorem e_cells {N : Nat} {M : mb_m} {f : Int → Int} {c : Int} {K : Int32 → mb_m → Prop} (hN : 700 ≤ N) (h : mr M 0 f 64) (hf : ∀ k : Int, 0 ≤ k → k < 64 → -1 ≤ f k ∧ f k ≤ 5) (hc : -1 ≤ c ∧ c ≤ 5)
    (hK : K (zI (sI (fun k => qb (f k = c)) 64)) M) : PX2_cellsWith N M (zI c) K := by
  refine (q_for (σ := mb_m × Int32 × Int32 × Int32) (fun n s => PX2_cellsWith_4 N K n s.1 s.2.1 s.2.2.1 s.2.2.2) (fun r0 s => PX2_cellsWith_4_b N K (fun a0 a1 a2 a3 => r0 (a0, a1, a2, a3)) s.1 s.2.1 s.2.2.1 s.2.2.2) (fun _ _ => rfl))
    (fun i s => s.1 = M ∧ s.2.1 = zI c ∧ s.2.2.1 = zI (sI (fun k => qb (f k = c)) i.toNat) ∧ s.2.2.2 = zI i ∧ 0 ≤ i) 64 ?_ ?_ N 0 (M, _, _, _) (by omega) (by omega) ?_
  · rintro i ⟨M1, y, z, w⟩ r hi hI hr
    dsimp only at hI hr ⊢
    obtain ⟨rfl, rfl, rfl, rfl, h0⟩ := hI
    have v := h i h0 hi
    have hb := hf i h0 hi
    have hs := sI_qb (fun k => f k = c) i.toNat
    have hq := sI_step (fun k => qb (f k = c)) h0
    unfold PX2_cellsWith_4_b PX2_cellsWith_26
    simp (disch := omega) only [zI_lit, zI_neg, zI_add, zI_sub, zI_mul, zI_div, q_md, zI_lt, zI_le, zI_eq, zI_clamp, zI_vp, forall_eq, mb_u_eq, mb_u_ne, upd_eq, q_if, q_ifn, if_pos, if_neg, true_and, and_true, if_true, if_false, v]
    split
    · exact hr _ ⟨rfl, rfl, by (try dsimp only); rw [hq, qb_t (by omega)], rfl, by omega⟩
    · exact hr _ ⟨rfl, rfl, by (try dsimp only); rw [hq, qb_f (by omega)], rfl, by omega⟩
  · rintro ⟨M1, y, z, w⟩ r hI
    dsimp only at hI ⊢
    obtain ⟨rfl, rfl, rfl, rfl, h0⟩ := hI
    unfold PX2_cellsWith_4_b
    simp (disch := omega) only [zI_lit, zI_neg, zI_add, zI_sub, zI_mul, zI_div, q_md, zI_lt, zI_le, zI_eq, zI_clamp, zI_vp, forall_eq, mb_u_eq, mb_u_ne, upd_eq, q_if, q_ifn, if_pos, if_neg, true_and, and_true, if_true, if_false]
    exact hK
  · exact ⟨rfl, rfl, rfl, rfl, by omega⟩
theorem m_count {N : Nat} {M : mb_m} {f : Int → Int} {a c : Int} {K : Int32 → mb_m → Prop} (hN : 700 ≤ N) (ha : 0 ≤ a ∧ a < 10) (h : ∀ k : Int, 0 ≤ k → k < 64 → M 3 (64 * a + k).toNat = zI (f k)) (hf : ∀ k : Int, 0 ≤ k → k < 64 → 0 ≤ f k ∧ f k ≤ 6) (hc : -1 ≤ c ∧ c ≤ 5)
    (hK : K (zI (sI (fun k => qb (f k = c + 1)) 64)) M) : PX8_count_29 N K N M (zI a) (zI c) (zI 0) (zI (64 * a)) := by
  refine (q_for (σ := mb_m × Int32 × Int32 × Int32 × Int32) (fun n s => PX8_count_29 N K n s.1 s.2.1 s.2.2.1 s.2.2.2.1 s.2.2.2.2) (fun r0 s => PX8_count_29_b N K (fun a0 a1 a2 a3 a4 => r0 (a0, a1, a2, a3, a4)) s.1 s.2.1 s.2.2.1 s.2.2.2.1 s.2.2.2.2) (fun _ _ => rfl))
    (fun i s => s.1 = M ∧ s.2.1 = zI a ∧ s.2.2.1 = zI c ∧ s.2.2.2.1 = zI (sI (fun k => qb (f k = c + 1)) i.toNat) ∧ s.2.2.2.2 = zI (64 * a + i) ∧ 0 ≤ i) 64 ?_ ?_ N 0 (M, _, _, _, _) (by omega) (by omega) ?_
  · rintro i ⟨M1, x, y, z, w⟩ r hi hI hr
    dsimp only at hI hr ⊢
    obtain ⟨rfl, rfl, rfl, rfl, rfl, h0⟩ := hI
    have v := h i h0 hi
    have hb := hf i h0 hi
    have hs := sI_qb (fun k => f k = c + 1) i.toNat
    have hq := sI_step (fun k => qb (f k = c + 1)) h0
    have e : 64 * a + i + 1 = 64 * a + (i + 1) := by omega
    unfold PX8_count_29_b PX8_count_60
    simp (disch := omega) only [zI_lit, zI_neg, zI_add, zI_sub, zI_mul, zI_div, q_md, zI_lt, zI_le, zI_eq, zI_clamp, zI_vp, forall_eq, mb_u_eq, mb_u_ne, upd_eq, q_if, q_ifn, if_pos, if_neg, true_and, and_true, if_true, if_false, v]
    split
    · exact hr _ ⟨rfl, rfl, rfl, by (try dsimp only); rw [hq, qb_t (by omega)], by rw [e], by omega⟩
    · exact hr _ ⟨rfl, rfl, rfl, by (try dsimp only); rw [hq, qb_f (by omega)], by rw [e], by omega⟩
  · rintro ⟨M1, x, y, z, w⟩ r hI
    dsimp only at hI ⊢
    obtain ⟨rfl, rfl, rfl, rfl, rfl, h0⟩ := hI
    unfold PX8_count_29_b
    simp (disch := omega) only [zI_lit, zI_neg, zI_add, zI_sub, zI_mul, zI_div, q_md, zI_lt, zI_le, zI_eq, zI_clamp, zI_vp, forall_eq, mb_u_eq, mb_u_ne, upd_eq, q_if, q_ifn, if_pos, if_neg, true_and, and_true, if_true, if_false]
    exact hK
  · refine ⟨rfl, rfl, rfl, rfl, ?_, by omega⟩
    show zI (64 * a) = zI (64 * a + 0)
    congr 1; omega
theorem s_count {N : Nat} {M7 MA : mb_m} {fP fB fK : Nat → Option Nat} {LP : List mb_p} {LB : List mb_k} {LS : List mb_p} {m : mb_m} (hN : 700 ≤ N) (h : Rm (M7, MA, fP, fB, fK, LP, LB, LS) m) (x1 x2 : Int32) :
    BP_count N M7 MA fP fB fK LP LB LS x1 x2 (fun r b => PX8_count N m x1 x2 (Qe 0 r b)) (fun E b => (E = eO ∧ PX8_count N m x1 x2 (Qe 1 0 b)) ∨ (E = eA ∧ PX8_count N m x1 x2 (Qe 2 0 b))) := by
  obtain ⟨a1, l1, g1, rfl⟩ := zI_ex x1
  obtain ⟨a2, l2, g2, rfl⟩ := zI_ex x2
  obtain ⟨hA, ⟨np, pr, p1, p2, p3, p4, p5, p6, p7, p8⟩, hB, hSk⟩ := id h
  (try dsimp only at p2 p5 p6 p7)
  have hm : ∀ K : Int32 → mb_m → Prop, (0 ≤ a1 ∧ a1 < np → -1 ≤ a2 ∧ a2 ≤ 5 → PX8_count_29 N K N (mb_u m 27 (mb_c (zI 0))) (zI a1) (zI a2) (zI 0) (zI (64 * a1))) → (¬ (0 ≤ a1 ∧ a1 < np) → K (zI 0) (mb_u m 27 (mb_c (zI 1)))) → (0 ≤ a1 ∧ a1 < np → ¬ (-1 ≤ a2 ∧ a2 ≤ 5) → K (zI 0) (mb_u m 27 (mb_c (zI 2)))) → PX8_count N m (zI a1) (zI a2) K := by
    intro K k0 k1 k2
    unfold PX8_count
    simp (disch := omega) only [zI_lit, zI_neg, zI_add, zI_sub, zI_mul, zI_div, q_md, zI_lt, zI_le, zI_eq, zI_clamp, zI_vp, forall_eq, mb_u_eq, mb_u_ne, upd_eq, q_if, q_ifn, if_pos, if_neg, true_and, and_true, if_true, if_false, q_isPrint l1 g1 p3, q_in8, q_goes0, q_goes10, q_goes111]
    (repeat' split) <;> first | exact k0 (by omega) (by omega) | exact k1 (by omega) | exact k2 (by omega) (by omega)
  by_cases c : 0 ≤ a1 ∧ a1 < np
  · obtain ⟨x, x1, x2, x3⟩ := p6 a1.toNat (by omega)
    have hx : LP.take a1.toNat ++ (x.1, x.2.1, x.2.2) :: LP.drop (a1.toNat + 1) = LP := (q_split x1).symm
    rw [show ((a1.toNat : Nat) : Int) = a1 by omega] at x3
    refine Or.inl ⟨_, x, _, q_split x1, ?_⟩
    unfold PX7_count
    refine q_printOf l1 g1 (fun o _ _ e => ?_) (fun e => ?_)
    · have e2 : o = x.1 := by rw [x2] at e; exact (Option.some.inj e).symm
      have hp : ∀ k : Int, 0 ≤ k → k < 64 → 0 ≤ pr a1 k ∧ pr a1 k ≤ 6 := fun k k1 k2 => p8 a1 k c.1 c.2 k1 k2
      by_cases c2 : -1 ≤ a2 ∧ a2 ≤ 5
      · simp (disch := omega) only [zI_lit, zI_neg, zI_add, zI_sub, zI_mul, zI_div, q_md, zI_lt, zI_le, zI_eq, zI_clamp, zI_vp, forall_eq, mb_u_eq, mb_u_ne, upd_eq, q_isWithin]
        rw [if_pos c2]
        simp (disch := omega) only [zI_lit, zI_neg, zI_add, zI_sub, zI_mul, zI_div, q_md, zI_lt, zI_le, zI_eq, zI_clamp, zI_vp, forall_eq, mb_u_eq, mb_u_ne, upd_eq, q_if, q_ifn, if_pos, if_neg, true_and, and_true, if_true, if_false, q_demandArgument1]
        refine ⟨e2, ?_⟩
        refine e_cells hN x3 (fun k k1 k2 => by have := hp k k1 k2; omega) c2 ?_
        rw [hx]
        refine hm _ (fun _ _ => ?_) (fun z => absurd c z) (fun _ z => absurd c2 z)
        refine m_count hN (by omega) (fun k k1 k2 => ?_) hp c2 ⟨m1_set _ _ _, fun _ => ?_, Rm_scr h (mf_u (mf_refl _ _) _ (by decide))⟩
        · have := p4 (64 * a1 + k) (by omega) (by omega)
          (try dsimp only at this)
          rw [mb_u_ne _ _ (by decide), this, show (64 * a1 + k) / 64 = a1 by omega, show (64 * a1 + k) % 64 = k by omega]
        · congr 1
          exact sI_cong (fun k k1 k2 => qb_cong (by omega))
      · simp (disch := omega) only [zI_lit, zI_neg, zI_add, zI_sub, zI_mul, zI_div, q_md, zI_lt, zI_le, zI_eq, zI_clamp, zI_vp, forall_eq, mb_u_eq, mb_u_ne, upd_eq, q_isWithin]
        rw [if_neg c2]
        simp (disch := omega) only [zI_lit, zI_neg, zI_add, zI_sub, zI_mul, zI_div, q_md, zI_lt, zI_le, zI_eq, zI_clamp, zI_vp, forall_eq, mb_u_eq, mb_u_ne, upd_eq, q_if, q_ifn, if_pos, if_neg, true_and, and_true, if_true, if_false, q_demandArgument0]
        rw [hx]
        exact Or.inr ⟨rfl, hm _ (fun _ z => absurd z c2) (fun z => absurd c z) (fun _ _ => Qe_x h (by decide))⟩
    · exact absurd (e c.1 (by omega)) (by rw [x2]; exact fun z => by cases z)
  · refine Or.inr ?_
    unfold PX7_count_n
    refine q_printOf l1 g1 (fun o e1 e2 e3 => ?_) (fun e => Or.inl ⟨rfl, hm _ (fun z => absurd z c) (fun _ => Qe_x h (by decide)) (fun z => absurd z c)⟩)
    rw [p7 a1.toNat (by omega) (by omega)] at e3
    cases e3
def lim (k : Int) : Int := if (1 ≤ k % 8 ∧ k % 8 ≤ 6) ∧ 1 ≤ k / 8 ∧ k / 8 ≤ 6 then 12 else 6
def tkN (f : Int → Int) (n : Nat) : Int := sI (fun k => qb (lim k < f k)) n
theorem q_mostAt {N : Nat} {c r : Int} {K : Int32 → Unit → Prop} (hc : 0 ≤ c ∧ c < 8) (hr : 0 ≤ r ∧ r < 8) : PX5_mostAt N (zI c) (zI r) K = K (zI (lim (r * 8 + c))) () := by
  unfold PX5_mostAt PX5_mostAt_24 PX5_mostAt_25 lim
  simp (disch := omega) only [zI_lit, zI_neg, zI_add, zI_sub, zI_mul, zI_div, q_md, zI_lt, zI_le, zI_eq, zI_clamp, zI_vp, forall_eq, mb_u_eq, mb_u_ne, upd_eq, q_if, q_ifn, if_pos, if_neg, true_and, and_true, if_true, if_false, q_isWithin]
  rw [show (r * 8 + c) % 8 = c by omega, show (r * 8 + c) / 8 = r by omega]
  by_cases h : 1 ≤ c ∧ c ≤ 6
  · by_cases h' : 1 ≤ r ∧ r ≤ 6
    · simp only [h, h', and_self, if_true]
    · simp only [h, h', and_false, and_self, ite_self, if_true, if_false]
  · simp only [h, false_and, ite_self, if_false]
theorem lim_rng (k : Int) : 6 ≤ lim k ∧ lim k ≤ 12 := by unfold lim; split <;> omega
theorem e_tooThick {N : Nat} {M : mb_m} {f : Int → Int} {K : Int32 → mb_m → Prop} (hN : 700 ≤ N) (h : mr M 0 f 64) (hf : ∀ k : Int, 0 ≤ k → k < 64 → 3 ≤ f k ∧ f k ≤ 30)
    (hK : K (zI (tkN f 64)) M) : PX5_placesTooThick N M K := by
  refine (q_for (σ := mb_m × Int32 × Int32) (fun n s => PX5_placesTooThick_4 N K n s.1 s.2.1 s.2.2) (fun r0 s => PX5_placesTooThick_4_b N K (fun a0 a1 a2 => r0 (a0, a1, a2)) s.1 s.2.1 s.2.2) (fun _ _ => rfl))
    (fun i s => s.1 = M ∧ s.2.1 = zI (tkN f (8 * i).toNat) ∧ s.2.2 = zI i ∧ 0 ≤ i) 8 ?_ ?_ N 0 (M, _, _) (by omega) (by omega) ?_
  · rintro i ⟨M1, y, z⟩ r hi hI hr
    dsimp only at hI hr ⊢
    obtain ⟨rfl, rfl, rfl, h0⟩ := hI
    unfold PX5_placesTooThick_4_b
    simp (disch := omega) only [zI_lit, zI_neg, zI_add, zI_sub, zI_mul, zI_div, q_md, zI_lt, zI_le, zI_eq, zI_clamp, zI_vp, forall_eq, mb_u_eq, mb_u_ne, upd_eq, q_if, q_ifn, if_pos, if_neg, true_and, and_true, if_true, if_false]
    refine (q_for (σ := mb_m × Int32 × Int32 × Int32) (fun n s => PX5_placesTooThick_12 N K (fun b0 b1 b2 => r (b0, b1, b2)) n s.1 s.2.1 s.2.2.1 s.2.2.2) (fun r0 s => PX5_placesTooThick_12_b N K (fun b0 b1 b2 => r (b0, b1, b2)) (fun a0 a1 a2 a3 => r0 (a0, a1, a2, a3)) s.1 s.2.1 s.2.2.1 s.2.2.2) (fun _ _ => rfl))
      (fun j s => s.1 = M1 ∧ s.2.1 = zI (tkN f (8 * i + j).toNat) ∧ s.2.2.1 = zI i ∧ s.2.2.2 = zI j ∧ 0 ≤ j) 8 ?_ ?_ N 0 (M1, _, _, _) (by omega) (by omega) ?_
    · rintro j ⟨M2, b1, b2, b3⟩ r2 hj hI hr2
      dsimp only at hI hr2 ⊢
      obtain ⟨rfl, rfl, rfl, rfl, j0⟩ := hI
      have v := h (i * 8 + j) (by omega) (by omega)
      have hb := hf (i * 8 + j) (by omega) (by omega)
      have hl := lim_rng (i * 8 + j)
      have hs : 0 ≤ tkN f (8 * i + j).toNat ∧ tkN f (8 * i + j).toNat ≤ (8 * i + j).toNat := sI_qb (fun k => lim k < f k) (8 * i + j).toNat
      have hq : tkN f (8 * i + j + 1).toNat = tkN f (8 * i + j).toNat + qb (lim (8 * i + j) < f (8 * i + j)) := sI_step (fun k => qb (lim k < f k)) (by omega)
      rw [show 8 * i + j + 1 = 8 * i + (j + 1) by omega, show 8 * i + j = i * 8 + j by omega] at hq
      rw [show 8 * i + j = i * 8 + j by omega] at hs ⊢
      unfold PX5_placesTooThick_12_b PX5_placesTooThick_42
      simp (disch := omega) only [zI_lit, zI_neg, zI_add, zI_sub, zI_mul, zI_div, q_md, zI_lt, zI_le, zI_eq, zI_clamp, zI_vp, forall_eq, mb_u_eq, mb_u_ne, upd_eq, q_if, q_ifn, if_pos, if_neg, true_and, and_true, if_true, if_false, q_cellOf, v, q_mostAt]
      split
      · exact hr2 _ ⟨rfl, by (try dsimp only); rw [hq, qb_f (by omega)], rfl, rfl, by omega⟩
      · exact hr2 _ ⟨rfl, by (try dsimp only); rw [hq, qb_t (by omega)], rfl, rfl, by omega⟩
    · rintro ⟨M2, b1, b2, b3⟩ r2 hI
      dsimp only at hI ⊢
      obtain ⟨rfl, rfl, rfl, rfl, j0⟩ := hI
      unfold PX5_placesTooThick_12_b
      simp (disch := omega) only [zI_lit, zI_neg, zI_add, zI_sub, zI_mul, zI_div, q_md, zI_lt, zI_le, zI_eq, zI_clamp, zI_vp, forall_eq, mb_u_eq, mb_u_ne, upd_eq, q_if, q_ifn, if_pos, if_neg, true_and, and_true, if_true, if_false]
      exact hr _ ⟨rfl, by (try dsimp only); rw [show 8 * i + 8 = 8 * (i + 1) by omega], rfl, by omega⟩
    · refine ⟨rfl, ?_, rfl, rfl, by omega⟩
      show zI _ = zI _
      rw [show 8 * i + 0 = 8 * i by omega]
  · rintro ⟨M1, y, z⟩ r hI
    dsimp only at hI ⊢
    obtain ⟨rfl, rfl, rfl, h0⟩ := hI
    unfold PX5_placesTooThick_4_b
    simp (disch := omega) only [zI_lit, zI_neg, zI_add, zI_sub, zI_mul, zI_div, q_md, zI_lt, zI_le, zI_eq, zI_clamp, zI_vp, forall_eq, mb_u_eq, mb_u_ne, upd_eq, q_if, q_ifn, if_pos, if_neg, true_and, and_true, if_true, if_false]
    exact hK
  · exact ⟨rfl, rfl, rfl, by omega⟩
theorem m_tooThick {N : Nat} {M : mb_m} {f : Int → Int} {a : Int} {K : Int32 → mb_m → Prop} (hN : 700 ≤ N) (ha : 0 ≤ a ∧ a < 3) (h : ∀ k : Int, 0 ≤ k → k < 64 → M 20 (64 * a + k).toNat = zI (f k)) (hf : ∀ k : Int, 0 ≤ k → k < 64 → 3 ≤ f k ∧ f k ≤ 30)
    (hK : K (zI (tkN f 64)) M) : PX8_tooThick_20 N K N M (zI a) (zI 0) (zI 0) := by
  refine (q_for (σ := mb_m × Int32 × Int32 × Int32) (fun n s => PX8_tooThick_20 N K n s.1 s.2.1 s.2.2.1 s.2.2.2) (fun r0 s => PX8_tooThick_20_b N K (fun a0 a1 a2 a3 => r0 (a0, a1, a2, a3)) s.1 s.2.1 s.2.2.1 s.2.2.2) (fun _ _ => rfl))
    (fun i s => s.1 = M ∧ s.2.1 = zI a ∧ s.2.2.1 = zI (tkN f i.toNat) ∧ s.2.2.2 = zI i ∧ 0 ≤ i) 64 ?_ ?_ N 0 (M, _, _, _) (by omega) (by omega) ?_
  · rintro i ⟨M1, x, y, z⟩ r hi hI hr
    dsimp only at hI hr ⊢
    obtain ⟨rfl, rfl, rfl, rfl, h0⟩ := hI
    have v := h i h0 hi
    have hb := hf i h0 hi
    have hs : 0 ≤ tkN f i.toNat ∧ tkN f i.toNat ≤ i.toNat := sI_qb (fun k => lim k < f k) i.toNat
    have hq : tkN f (i + 1).toNat = tkN f i.toNat + qb (lim i < f i) := sI_step (fun k => qb (lim k < f k)) h0
    have l1 : ((1 ≤ i % 8 ∧ i % 8 ≤ 6) ∧ 1 ≤ i / 8 ∧ i / 8 ≤ 6) → lim i = 12 := fun e => by unfold lim; rw [if_pos e]
    have l2 : ¬ ((1 ≤ i % 8 ∧ i % 8 ≤ 6) ∧ 1 ≤ i / 8 ∧ i / 8 ≤ 6) → lim i = 6 := fun e => by unfold lim; rw [if_neg e]
    have k1 : lim i < f i → r (M1, zI a, zI (tkN f i.toNat + 1), zI (i + 1)) := fun e => hr _ ⟨rfl, rfl, by (try dsimp only); rw [hq, qb_t e], rfl, by omega⟩
    have k2 : ¬ lim i < f i → r (M1, zI a, zI (tkN f i.toNat + 0), zI (i + 1)) := fun e => hr _ ⟨rfl, rfl, by (try dsimp only); rw [hq, qb_f e], rfl, by omega⟩
    unfold PX8_tooThick_20_b PX8_tooThick_56 PX8_tooThick_57 PX8_tooThick_83 PX8_tooThick_91
    simp (disch := omega) only [zI_lit, zI_neg, zI_add, zI_sub, zI_mul, zI_div, q_md, zI_lt, zI_le, zI_eq, zI_clamp, zI_vp, forall_eq, mb_u_eq, mb_u_ne, upd_eq, q_if, q_ifn, if_pos, if_neg, true_and, and_true, if_true, if_false, q_in8, v]
    (repeat' split) <;> first
      | exact k1 (by rw [l1 (by omega)]; omega)
      | exact k1 (by rw [l2 (by omega)]; omega)
      | exact k2 (by rw [l1 (by omega)]; omega)
      | exact k2 (by rw [l2 (by omega)]; omega)
  · rintro ⟨M1, x, y, z⟩ r hI
    dsimp only at hI ⊢
    obtain ⟨rfl, rfl, rfl, rfl, h0⟩ := hI
    unfold PX8_tooThick_20_b
    simp (disch := omega) only [zI_lit, zI_neg, zI_add, zI_sub, zI_mul, zI_div, q_md, zI_lt, zI_le, zI_eq, zI_clamp, zI_vp, forall_eq, mb_u_eq, mb_u_ne, upd_eq, q_if, q_ifn, if_pos, if_neg, true_and, and_true, if_true, if_false]
    exact hK
  · exact ⟨rfl, rfl, rfl, rfl, by omega⟩
theorem q_skinOf {N : Nat} {M : mb_m} {f : Nat → Option Nat} {a : Int} {K : Nat → (mb_m × (Nat → Option Nat)) → Prop} {KX : String → (mb_m × (Nat → Option Nat)) → Prop} (l : -2147483648 ≤ a) (g : a < 2147483648)
    (h0 : ∀ o, 0 ≤ a → a ≤ 2 → f a.toNat = some o → K o (M, f)) (h1 : (0 ≤ a → a ≤ 2 → f a.toNat = none) → KX eO (M, f)) : PX7_skinOf N M f (zI a) K KX := by
  unfold PX7_skinOf
  simp (disch := omega) only [zI_lit, zI_neg, zI_add, zI_sub, zI_mul, zI_div, q_md, zI_lt, zI_le, zI_eq, zI_clamp, zI_vp, forall_eq, mb_u_eq, mb_u_ne, upd_eq, q_if, q_ifn, if_pos, if_neg, true_and, and_true, if_true, if_false, q_isWithin]
  split
  · rename_i c
    (try simp (disch := omega) only [zI_lit, zI_neg, zI_add, zI_sub, zI_mul, zI_div, q_md, zI_lt, zI_le, zI_eq, zI_clamp, zI_vp, forall_eq, mb_u_eq, mb_u_ne, upd_eq, q_if, q_ifn, if_pos, if_neg, true_and, and_true, if_true, if_false])
    exact ⟨fun e => h1 (fun _ _ => e), fun o e => h0 o c.1 c.2 e⟩
  · rename_i c
    exact h1 (fun x y => absurd ⟨x, y⟩ c)
theorem q_isSkin {N : Nat} {M : mb_m} {np a : Int} {K : Int32 → mb_m → Prop} (l : -2147483648 ≤ a) (g : a < 2147483648) (h : m1 M 19 np) (h0 : 0 ≤ np) (h1 : np ≤ 3) : PX8_isSkin N M (zI a) K = if 0 ≤ a ∧ a ≤ np - 1 then K (zI 1) M else K (zI 0) M := by
  have v : M 19 0 = zI np := h
  unfold PX8_isSkin
  simp (disch := omega) only [zI_lit, zI_neg, zI_add, zI_sub, zI_mul, zI_div, q_md, zI_lt, zI_le, zI_eq, zI_clamp, zI_vp, forall_eq, mb_u_eq, mb_u_ne, upd_eq, q_if, q_ifn, if_pos, if_neg, true_and, and_true, if_true, if_false, v, q_in8, q_isB1, q_isB0]
theorem s_tooThick {N : Nat} {M7 MA : mb_m} {fP fB fK : Nat → Option Nat} {LP : List mb_p} {LB : List mb_k} {LS : List mb_p} {m : mb_m} (hN : 700 ≤ N) (h : Rm (M7, MA, fP, fB, fK, LP, LB, LS) m) (x1 : Int32) :
    BP_tooThick N M7 MA fP fB fK LP LB LS x1 (fun r b => PX8_tooThick N m x1 (Qe 0 r b)) (fun E b => E = eO ∧ PX8_tooThick N m x1 (Qe 1 0 b)) := by
  obtain ⟨a1, l1, g1, rfl⟩ := zI_ex x1
  obtain ⟨hA, hP, hB, ⟨ns, sk, p1, p2, p3, p4, p5, p6, p7, p8⟩⟩ := id h
  (try dsimp only at p2 p5 p6 p7)
  by_cases c : 0 ≤ a1 ∧ a1 < ns
  · obtain ⟨x, x1, x2, x3⟩ := p6 a1.toNat (by omega)
    have hx : LS.take a1.toNat ++ (x.1, x.2.1, x.2.2) :: LS.drop (a1.toNat + 1) = LS := (q_split x1).symm
    rw [show ((a1.toNat : Nat) : Int) = a1 by omega] at x3
    refine Or.inl ⟨_, x, _, q_split x1, ?_⟩
    unfold PX7_tooThick
    refine q_skinOf l1 g1 (fun o _ _ e => ?_) (fun e => absurd (e c.1 (by omega)) (by rw [x2]; exact fun z => by cases z))
    refine ⟨by rw [x2] at e; exact (Option.some.inj e).symm, ?_⟩
    have hp : ∀ k : Int, 0 ≤ k → k < 64 → 3 ≤ sk a1 k ∧ sk a1 k ≤ 30 := fun k k1 k2 => p8 a1 k c.1 c.2 k1 k2
    refine e_tooThick hN x3 hp ?_
    (try dsimp only)
    rw [hx]
    unfold PX8_tooThick
    simp (disch := omega) only [zI_lit, zI_neg, zI_add, zI_sub, zI_mul, zI_div, q_md, zI_lt, zI_le, zI_eq, zI_clamp, zI_vp, forall_eq, mb_u_eq, mb_u_ne, upd_eq, q_if, q_ifn, if_pos, if_neg, true_and, and_true, if_true, if_false, q_isSkin l1 g1 p3, q_goes111]
    refine m_tooThick hN (by omega) (fun k k1 k2 => ?_) hp ⟨m1_set _ _ _, fun _ => rfl, Rm_scr h (mf_u (mf_refl _ _) _ (by decide))⟩
    have := p4 (64 * a1 + k) (by omega) (by omega)
    (try dsimp only at this)
    rw [mb_u_ne _ _ (by decide), this, show (64 * a1 + k) / 64 = a1 by omega, show (64 * a1 + k) % 64 = k by omega]
  · refine Or.inr ?_
    unfold PX7_tooThick_n
    refine q_skinOf l1 g1 (fun o e1 e2 e3 => ?_) (fun e => ⟨rfl, ?_⟩)
    · rw [p7 a1.toNat (by omega) (by omega)] at e3
      cases e3
    · unfold PX8_tooThick
      simp (disch := omega) only [zI_lit, zI_neg, zI_add, zI_sub, zI_mul, zI_div, q_md, zI_lt, zI_le, zI_eq, zI_clamp, zI_vp, forall_eq, mb_u_eq, mb_u_ne, upd_eq, q_if, q_ifn, if_pos, if_neg, true_and, and_true, if_true, if_false, q_isSkin l1 g1 p3, q_goes0]
      exact Qe_x h (by decide)
theorem s_thickAt {N : Nat} {M7 MA : mb_m} {fP fB fK : Nat → Option Nat} {LP : List mb_p} {LB : List mb_k} {LS : List mb_p} {m : mb_m} (hN : 700 ≤ N) (h : Rm (M7, MA, fP, fB, fK, LP, LB, LS) m) (x1 x2 x3 : Int32) :
    BP_thickAt N M7 MA fP fB fK LP LB LS x1 x2 x3 (fun r b => PX8_thickAt N m x1 x2 x3 (Qe 0 r b)) (fun E b => E = eO ∧ PX8_thickAt N m x1 x2 x3 (Qe 1 0 b)) := by
  obtain ⟨a1, l1, g1, rfl⟩ := zI_ex x1
  obtain ⟨a2, l2, g2, rfl⟩ := zI_ex x2
  obtain ⟨a3, l3, g3, rfl⟩ := zI_ex x3
  obtain ⟨hA, hP, hB, ⟨ns, sk, p1, p2, p3, p4, p5, p6, p7, p8⟩⟩ := id h
  (try dsimp only at p2 p5 p6 p7)
  have hm : ∀ K : Int32 → mb_m → Prop, ((0 ≤ a1 ∧ a1 < ns) → gr a2 a3 → K (m 20 (64 * a1 + 8 * a3 + a2).toNat) (mb_u m 27 (mb_c (zI 0)))) → (¬ ((0 ≤ a1 ∧ a1 < ns) ∧ gr a2 a3) → K (zI 0) (mb_u m 27 (mb_c (zI 1)))) → PX8_thickAt N m (zI a1) (zI a2) (zI a3) K := by
    intro K k0 k1
    unfold gr at k0 k1
    by_cases cc : (0 ≤ a1 ∧ a1 < ns) ∧ (0 ≤ a2 ∧ a2 ≤ 7) ∧ 0 ≤ a3 ∧ a3 ≤ 7
    · unfold PX8_thickAt PX8_thickAt_27 PX8_thickAt_28
      simp (disch := omega) only [zI_lit, zI_neg, zI_add, zI_sub, zI_mul, zI_div, q_md, zI_lt, zI_le, zI_eq, zI_clamp, zI_vp, forall_eq, mb_u_eq, mb_u_ne, upd_eq, q_if, q_ifn, if_pos, if_neg, true_and, and_true, if_true, if_false, q_isSkin l1 g1 p3, q_isEdge, q_goes0, q_goes111]
      exact k0 cc.1 cc.2
    · unfold PX8_thickAt PX8_thickAt_27 PX8_thickAt_28
      simp (disch := omega) only [zI_lit, zI_neg, zI_add, zI_sub, zI_mul, zI_div, q_md, zI_lt, zI_le, zI_eq, zI_clamp, zI_vp, forall_eq, mb_u_eq, mb_u_ne, upd_eq, q_if, q_ifn, if_pos, if_neg, true_and, and_true, if_true, if_false, q_isSkin l1 g1 p3, q_isEdge, q_goes0]
      (repeat' split) <;> first | exact k1 cc | (exfalso; omega)
  by_cases c : 0 ≤ a1 ∧ a1 < ns
  · obtain ⟨x, x1, x2, x3⟩ := p6 a1.toNat (by omega)
    have hx : LS.take a1.toNat ++ (x.1, x.2.1, x.2.2) :: LS.drop (a1.toNat + 1) = LS := (q_split x1).symm
    rw [show ((a1.toNat : Nat) : Int) = a1 by omega] at x3
    refine Or.inl ⟨_, x, _, q_split x1, ?_⟩
    unfold PX7_thickAt
    refine q_skinOf l1 g1 (fun o _ _ e => ?_) (fun e => absurd (e c.1 (by omega)) (by rw [x2]; exact fun z => by cases z))
    have e2 : o = x.1 := by rw [x2] at e; exact (Option.some.inj e).symm
    simp (disch := omega) only [zI_lit, zI_neg, zI_add, zI_sub, zI_mul, zI_div, q_md, zI_lt, zI_le, zI_eq, zI_clamp, zI_vp, forall_eq, mb_u_eq, mb_u_ne, upd_eq, q_isOnGrid]
    by_cases cg : gr a2 a3
    · rw [if_pos (show (0 ≤ a2 ∧ a2 ≤ 7) ∧ 0 ≤ a3 ∧ a3 ≤ 7 from cg)]
      unfold gr at cg
      have w := p4 (64 * a1 + 8 * a3 + a2) (by omega) (by omega)
      have w2 := x3 (a3 * 8 + a2) (by omega) (by omega)
      (try dsimp only at w w2)
      rw [show (64 * a1 + 8 * a3 + a2) / 64 = a1 by omega, show (64 * a1 + 8 * a3 + a2) % 64 = a3 * 8 + a2 by omega] at w
      simp (disch := omega) only [zI_lit, zI_neg, zI_add, zI_sub, zI_mul, zI_div, q_md, zI_lt, zI_le, zI_eq, zI_clamp, zI_vp, forall_eq, mb_u_eq, mb_u_ne, upd_eq, q_if, q_ifn, if_pos, if_neg, true_and, and_true, if_true, if_false, q_demandPlace1, q_cellOf]
      refine ⟨e2, ?_⟩
      rw [hx]
      exact hm _ (fun _ _ => ⟨m1_set _ _ _, fun _ => by rw [w, w2], Rm_scr h (mf_u (mf_refl _ _) _ (by decide))⟩) (fun z => absurd ⟨c, cg⟩ z)
    · rw [if_neg (show ¬ ((0 ≤ a2 ∧ a2 ≤ 7) ∧ 0 ≤ a3 ∧ a3 ≤ 7) from cg)]
      simp (disch := omega) only [zI_lit, zI_neg, zI_add, zI_sub, zI_mul, zI_div, q_md, zI_lt, zI_le, zI_eq, zI_clamp, zI_vp, forall_eq, mb_u_eq, mb_u_ne, upd_eq, q_if, q_ifn, if_pos, if_neg, true_and, and_true, if_true, if_false, q_demandPlace0]
      rw [hx]
      exact ⟨rfl, hm _ (fun _ z => absurd z cg) (fun _ => Qe_x h (by decide))⟩
  · refine Or.inr ?_
    unfold PX7_thickAt_n
    refine q_skinOf l1 g1 (fun o e1 e2 e3 => ?_) (fun e => ⟨rfl, hm _ (fun z => absurd z c) (fun _ => Qe_x h (by decide))⟩)
    rw [p7 a1.toNat (by omega) (by omega)] at e3
    cases e3
