def gr (a b : Int) : Prop := (0 ≤ a ∧ a ≤ 7) ∧ 0 ≤ b ∧ b ≤ 7
theorem b_drop {N : Nat} {M7 MA : mb_m} {fP fB fS : Nat → Option Nat} {LP : List mb_p} {LB : List mb_k} {LS : List mb_p} {K : Int32 → mb_bs → Prop} {KX : String → mb_bs → Prop} {a1 a2 a3 a4 : Int}
    (l1 : -2147483648 ≤ a1) (g1 : a1 < 2147483648) (l2 : -2147483648 ≤ a2) (g2 : a2 < 2147483648) (l3 : -2147483648 ≤ a3) (g3 : a3 < 2147483648) (l4 : -2147483648 ≤ a4) (g4 : a4 < 2147483648)
    (h0 : gr a1 a2 → 0 ≤ a3 ∧ a3 ≤ 5 → 1 ≤ a4 ∧ a4 ≤ 64 → PX0_spread N MA (zI a1) (zI a2) (zI a3) (zI a4) (fun r u => K r (M7, u, fP, fB, fS, LP, LB, LS)))
    (h1 : ¬ gr a1 a2 → KX eO (M7, MA, fP, fB, fS, LP, LB, LS)) (h2 : gr a1 a2 → ¬ ((0 ≤ a3 ∧ a3 ≤ 5) ∧ 1 ≤ a4 ∧ a4 ≤ 64) → KX eA (M7, MA, fP, fB, fS, LP, LB, LS)) :
    BP_drop N M7 MA fP fB fS LP LB LS (zI a1) (zI a2) (zI a3) (zI a4) K KX := by
  unfold gr at h0 h1 h2
  unfold BP_drop PX7_drop PX7_drop_32 PX7_drop_33
  simp (disch := omega) only [zI_lit, zI_neg, zI_add, zI_sub, zI_mul, zI_div, q_md, zI_lt, zI_le, zI_eq, zI_clamp, zI_vp, forall_eq, mb_u_eq, mb_u_ne, upd_eq, q_if, q_ifn, if_pos, if_neg, true_and, and_true, if_true, if_false, q_isOnGrid, q_isWithin, q_demandPlace0, q_demandPlace1, q_demandArgument0, q_demandArgument1]
  (repeat' split) <;> first | exact h0 (by omega) (by omega) (by omega) | exact h1 (by omega) | exact h2 (by omega) (by omega)
theorem b_cellAt {N : Nat} {M7 MA : mb_m} {fP fB fS : Nat → Option Nat} {LP : List mb_p} {LB : List mb_k} {LS : List mb_p} {K : Int32 → mb_bs → Prop} {KX : String → mb_bs → Prop} {a1 a2 a3 : Int}
    (l1 : -2147483648 ≤ a1) (g1 : a1 < 2147483648) (l2 : -2147483648 ≤ a2) (g2 : a2 < 2147483648) (l3 : -2147483648 ≤ a3) (g3 : a3 < 2147483648)
    (h0 : gr a1 a2 → a3 = 0 → K (MA 0 (a2 * 8 + a1).toNat) (M7, MA, fP, fB, fS, LP, LB, LS)) (h00 : gr a1 a2 → a3 = 1 → K (MA 1 (a2 * 8 + a1).toNat) (M7, MA, fP, fB, fS, LP, LB, LS))
    (h1 : ¬ gr a1 a2 → KX eO (M7, MA, fP, fB, fS, LP, LB, LS)) (h2 : gr a1 a2 → ¬ (0 ≤ a3 ∧ a3 ≤ 1) → KX eA (M7, MA, fP, fB, fS, LP, LB, LS)) :
    BP_cellAt N M7 MA fP fB fS LP LB LS (zI a1) (zI a2) (zI a3) K KX := by
  unfold gr at h0 h00 h1 h2
  unfold BP_cellAt PX7_cellAt
  simp (disch := omega) only [zI_lit, zI_neg, zI_add, zI_sub, zI_mul, zI_div, q_md, zI_lt, zI_le, zI_eq, zI_clamp, zI_vp, forall_eq, mb_u_eq, mb_u_ne, upd_eq, q_if, q_ifn, if_pos, if_neg, true_and, and_true, if_true, if_false, q_isOnGrid, q_isWithin, q_demandPlace0, q_demandPlace1, q_demandArgument0, q_demandArgument1, q_cellOf]
  by_cases c1 : (0 ≤ a1 ∧ a1 ≤ 7) ∧ 0 ≤ a2 ∧ a2 ≤ 7
  · rw [if_pos c1]
    (try simp (disch := omega) only [zI_lit, zI_neg, zI_add, zI_sub, zI_mul, zI_div, q_md, zI_lt, zI_le, zI_eq, zI_clamp, zI_vp, forall_eq, mb_u_eq, mb_u_ne, upd_eq, q_if, q_ifn, if_pos, if_neg, true_and, and_true, if_true, if_false])
    (repeat' split) <;> first | exact h0 c1 (by omega) | exact h00 c1 (by omega) | exact h2 c1 (by omega)
  · rw [if_neg c1]; exact h1 c1
theorem va_up_eq {α : Type} (f : Nat → α) (k : Nat) (v : α) : va_up f k v k = v := if_pos rfl
theorem va_up_neq {α : Type} (f : Nat → α) {k j : Nat} (v : α) (h : j ≠ k) : va_up f k v j = f j := if_neg h
theorem b_lift {N : Nat} {M7 MA : mb_m} {fP fB fK : Nat → Option Nat} {LP : List mb_p} {LB : List mb_k} {LS : List mb_p} {K : Int32 → mb_bs → Prop} {KX : String → mb_bs → Prop} {np : Nat} {C S : Int → Int}
    (hN : 700 ≤ N) (hv : m1 M7 4 np) (hp : np ≤ 10) (hR : bR C S) (hb : bI MA C S)
    (h0 : np < 10 → ∀ o a Mp MA', mr Mp 0 (fun k => C k - 1) 64 → bI MA' (fC C S) (fS C S) → K (zI np) (mb_u M7 4 (mb_c (zI (np + 1))), MA', va_up fP np (some o), fB, fK, LP ++ [(o, a, Mp)], LB, LS))
    (h1 : np = 10 → KX eS (M7, MA, fP, fB, fK, LP, LB, LS)) : BP_lift N M7 MA fP fB fK LP LB LS K KX := by
  have v : M7 4 0 = zI np := hv
  have e : ((np : Int)).toNat = np := by omega
  unfold BP_lift PX7_lift PX7_lift_14
  simp (disch := omega) only [zI_lit, zI_neg, zI_add, zI_sub, zI_mul, zI_div, q_md, zI_lt, zI_le, zI_eq, zI_clamp, zI_vp, forall_eq, mb_u_eq, mb_u_ne, upd_eq, q_if, q_ifn, if_pos, if_neg, true_and, and_true, if_true, if_false, v, q_demandState0, q_demandState1]
  split
  · exact h1 (by omega)
  · refine e_press hN hb.1 (fun o a Mp hmp => ?_)
    simp (disch := omega) only [zI_lit, zI_neg, zI_add, zI_sub, zI_mul, zI_div, q_md, zI_lt, zI_le, zI_eq, zI_clamp, zI_vp, forall_eq, mb_u_eq, mb_u_ne, upd_eq, q_if, q_ifn, if_pos, if_neg, true_and, and_true, if_true, if_false, v, e]
    exact e_fade hN hR hb (fun MA' hb' => h0 (by omega) o a Mp MA' hmp hb')
theorem q_printOf {N : Nat} {M : mb_m} {f : Nat → Option Nat} {a : Int} {K : Nat → (mb_m × (Nat → Option Nat)) → Prop} {KX : String → (mb_m × (Nat → Option Nat)) → Prop} (l : -2147483648 ≤ a) (g : a < 2147483648)
    (h0 : ∀ o, 0 ≤ a → a ≤ 9 → f a.toNat = some o → K o (M, f)) (h1 : (0 ≤ a → a ≤ 9 → f a.toNat = none) → KX eO (M, f)) : PX7_printOf N M f (zI a) K KX := by
  unfold PX7_printOf
  simp (disch := omega) only [zI_lit, zI_neg, zI_add, zI_sub, zI_mul, zI_div, q_md, zI_lt, zI_le, zI_eq, zI_clamp, zI_vp, forall_eq, mb_u_eq, mb_u_ne, upd_eq, q_if, q_ifn, if_pos, if_neg, true_and, and_true, if_true, if_false, q_isWithin]
  split
  · rename_i c
    (try simp (disch := omega) only [zI_lit, zI_neg, zI_add, zI_sub, zI_mul, zI_div, q_md, zI_lt, zI_le, zI_eq, zI_clamp, zI_vp, forall_eq, mb_u_eq, mb_u_ne, upd_eq, q_if, q_ifn, if_pos, if_neg, true_and, and_true, if_true, if_false])
    exact ⟨fun e => h1 (fun _ _ => e), fun o e => h0 o c.1 c.2 e⟩
  · rename_i c
    exact h1 (fun x y => absurd ⟨x, y⟩ c)
/-- a list with one of its members named -/
theorem q_split {α : Type} {L : List α} {i : Nat} {x : α} (h : L[i]? = some x) : L = L.take i ++ x :: L.drop (i + 1) := by
  obtain ⟨hi, hx⟩ := List.getElem?_eq_some_iff.mp h
  rw [← hx, List.getElem_cons_drop hi, List.take_append_drop]
theorem b_printAt {N : Nat} {M7 MA : mb_m} {fP fB fK : Nat → Option Nat} {LP : List mb_p} {LB : List mb_k} {LS : List mb_p} {K : Int32 → mb_bs → Prop} {KX : String → mb_bs → Prop} {a1 a2 a3 : Int} {m : mb_m} {np : Nat}
    (l1 : -2147483648 ≤ a1) (g1 : a1 < 2147483648) (l2 : -2147483648 ≤ a2) (g2 : a2 < 2147483648) (l3 : -2147483648 ≤ a3) (g3 : a3 < 2147483648)
    (p1 : np ≤ 10) (p6 : ∀ i : Nat, i < np → ∃ x, LP[i]? = some x ∧ fP i = some x.1) (p7 : ∀ i : Nat, np ≤ i → i < 10 → fP i = none)
    (h0 : 0 ≤ a1 → a1 < np → gr a2 a3 → ∀ x, LP[a1.toNat]? = some x → K (x.2.2 0 (a3 * 8 + a2).toNat) (M7, MA, fP, fB, fK, LP, LB, LS))
    (h1 : ¬ ((0 ≤ a1 ∧ a1 < np) ∧ gr a2 a3) → KX eO (M7, MA, fP, fB, fK, LP, LB, LS)) :
    BP_printAt N M7 MA fP fB fK LP LB LS (zI a1) (zI a2) (zI a3) K KX := by
  unfold gr at h0 h1
  by_cases c : 0 ≤ a1 ∧ a1 < np
  · obtain ⟨x, x1, x2⟩ := p6 a1.toNat (by omega)
    refine Or.inl ⟨_, x, _, q_split x1, ?_⟩
    unfold PX7_printAt
    refine q_printOf l1 g1 (fun o _ _ e => ?_) (fun e => ?_)
    · have e2 : o = x.1 := by rw [x2] at e; exact (Option.some.inj e).symm
      simp (disch := omega) only [zI_lit, zI_neg, zI_add, zI_sub, zI_mul, zI_div, q_md, zI_lt, zI_le, zI_eq, zI_clamp, zI_vp, forall_eq, mb_u_eq, mb_u_ne, upd_eq, q_if, q_ifn, if_pos, if_neg, true_and, and_true, if_true, if_false, q_isOnGrid, q_demandPlace0, q_demandPlace1, q_cellOf]
      split
      · rename_i cg
        (try simp (disch := omega) only [zI_lit, zI_neg, zI_add, zI_sub, zI_mul, zI_div, q_md, zI_lt, zI_le, zI_eq, zI_clamp, zI_vp, forall_eq, mb_u_eq, mb_u_ne, upd_eq, q_if, q_ifn, if_pos, if_neg, true_and, and_true, if_true, if_false])
        refine ⟨e2, ?_⟩
        have := h0 c.1 c.2 cg x x1
        rwa [show (LP.take a1.toNat ++ (x.1, x.2.1, x.2.2) :: LP.drop (a1.toNat + 1)) = LP from (q_split x1).symm]
      · rename_i cg
        have := h1 (fun z => cg z.2)
        rwa [show (LP.take a1.toNat ++ (x.1, x.2.1, x.2.2) :: LP.drop (a1.toNat + 1)) = LP from (q_split x1).symm]
    · exact absurd (e c.1 (by omega)) (by rw [x2]; exact fun z => by cases z)
  · refine Or.inr ?_
    unfold PX7_printAt_n
    refine q_printOf l1 g1 (fun o e1 e2 e3 => ?_) (fun e => h1 (fun z => c z.1))
    rw [p7 a1.toNat (by omega) (by omega)] at e3
    cases e3
theorem e_cells {N : Nat} {M : mb_m} {f : Int → Int} {c : Int} {K : Int32 → mb_m → Prop} (hN : 700 ≤ N) (h : mr M 0 f 64) (hf : ∀ k : Int, 0 ≤ k → k < 64 → -1 ≤ f k ∧ f k ≤ 5) (hc : -1 ≤ c ∧ c ≤ 5)
    (hK : K (zI (sI (fun k => qb (f k = c)) 64)) M) : PX2_cellsWith N M (zI c) K := by
  refine (q_for (σ := mb_m × Int32 × Int32 × Int32) (fun n s => PX2_cellsWith_4 N K n s.1 s.2.1 s.2.2.1 s.2.2.2) (fun r0 s => PX2_cellsWith_4_b N K (fun a0 a1 a2 a3 => r0 (a0, a1, a2, a3)) s.1 s.2.1 s.2.2.1 s.2.2.2) (fun _ _ => rfl))
    (fun i s => s.1 = M ∧ s.2.1 = zI c ∧ s.2.2.1 = zI (sI (fun k => qb (f k = c)) i.toNat) ∧ s.2.2.2 = zI i ∧ 0 ≤ i) 64 ?_ ?_ N 0 (M, _, _, _) (by omega) (by omega) ?_
  · rintro i ⟨M1, y, z, w⟩ r hi hI hr
    dsimp only at hI hr ⊢
    obtain ⟨rfl, rfl, rfl, rfl, h0⟩ := hI
    have v := h i h0 hi
    have hb := hf i h0 hi
    have hs := sI_qb (fun k => f k = c) i.toNat
    have hq := sI_step (fun k => qb (f k = c)) h0
    unfold PX2_cellsWith_4_b PX2_cellsWith_26
    simp (disch := omega) only [zI_lit, zI_neg, zI_add, zI_sub, zI_mul, zI_div, q_md, zI_lt, zI_le, zI_eq, zI_clamp, zI_vp, forall_eq, mb_u_eq, mb_u_ne, upd_eq, q_if, q_ifn, if_pos, if_neg, true_and, and_true, if_true, if_false, v]
    split
    · exact hr _ ⟨rfl, rfl, by (try dsimp only); rw [hq, qb_t (by omega)], rfl, by omega⟩
    · exact hr _ ⟨rfl, rfl, by (try dsimp only); rw [hq, qb_f (by omega)], rfl, by omega⟩
  · rintro ⟨M1, y, z, w⟩ r hI
    dsimp only at hI ⊢
    obtain ⟨rfl, rfl, rfl, rfl, h0⟩ := hI
    unfold PX2_cellsWith_4_b
    simp (disch := omega) only [zI_lit, zI_neg, zI_add, zI_sub, zI_mul, zI_div, q_md, zI_lt, zI_le, zI_eq, zI_clamp, zI_vp, forall_eq, mb_u_eq, mb_u_ne, upd_eq, q_if, q_ifn, if_pos, if_neg, true_and, and_true, if_true, if_false]
    exact hK
  · exact ⟨rfl, rfl, rfl, rfl, by omega⟩
def lim (k : Int) : Int := if (1 ≤ k % 8 ∧ k % 8 ≤ 6) ∧ 1 ≤ k / 8 ∧ k / 8 ≤ 6 then 12 else 6
def tkN (f : Int → Int) (n : Nat) : Int := sI (fun k => qb (lim k < f k)) n
theorem q_mostAt {N : Nat} {c r : Int} {K : Int32 → Unit → Prop} (hc : 0 ≤ c ∧ c < 8) (hr : 0 ≤ r ∧ r < 8) : PX5_mostAt N (zI c) (zI r) K = K (zI (lim (r * 8 + c))) () := by
  unfold PX5_mostAt PX5_mostAt_24 PX5_mostAt_25 lim
  simp (disch := omega) only [zI_lit, zI_neg, zI_add, zI_sub, zI_mul, zI_div, q_md, zI_lt, zI_le, zI_eq, zI_clamp, zI_vp, forall_eq, mb_u_eq, mb_u_ne, upd_eq, q_if, q_ifn, if_pos, if_neg, true_and, and_true, if_true, if_false, q_isWithin]
  rw [show (r * 8 + c) % 8 = c by omega, show (r * 8 + c) / 8 = r by omega]
  by_cases h : 1 ≤ c ∧ c ≤ 6
  · by_cases h' : 1 ≤ r ∧ r ≤ 6
    · simp only [h, h', and_self, if_true]
    · simp only [h, h', and_false, and_self, ite_self, if_true, if_false]
  · simp only [h, false_and, ite_self, if_false]
theorem lim_rng (k : Int) : 6 ≤ lim k ∧ lim k ≤ 12 := by unfold lim; split <;> omega
theorem e_tooThick {N : Nat} {M : mb_m} {f : Int → Int} {K : Int32 → mb_m → Prop} (hN : 700 ≤ N) (h : mr M 0 f 64) (hf : ∀ k : Int, 0 ≤ k → k < 64 → 3 ≤ f k ∧ f k ≤ 30)
    (hK : K (zI (tkN f 64)) M) : PX5_placesTooThick N M K := by
  refine (q_for (σ := mb_m × Int32 × Int32) (fun n s => PX5_placesTooThick_4 N K n s.1 s.2.1 s.2.2) (fun r0 s => PX5_placesTooThick_4_b N K (fun a0 a1 a2 => r0 (a0, a1, a2)) s.1 s.2.1 s.2.2) (fun _ _ => rfl))
    (fun i s => s.1 = M ∧ s.2.1 = zI (tkN f (8 * i).toNat) ∧ s.2.2 = zI i ∧ 0 ≤ i) 8 ?_ ?_ N 0 (M, _, _) (by omega) (by omega) ?_
  · rintro i ⟨M1, y, z⟩ r hi hI hr
    dsimp only at hI hr ⊢
    obtain ⟨rfl, rfl, rfl, h0⟩ := hI
    unfold PX5_placesTooThick_4_b
    simp (disch := omega) only [zI_lit, zI_neg, zI_add, zI_sub, zI_mul, zI_div, q_md, zI_lt, zI_le, zI_eq, zI_clamp, zI_vp, forall_eq, mb_u_eq, mb_u_ne, upd_eq, q_if, q_ifn, if_pos, if_neg, true_and, and_true, if_true, if_false]
    refine (q_for (σ := mb_m × Int32 × Int32 × Int32) (fun n s => PX5_placesTooThick_12 N K (fun b0 b1 b2 => r (b0, b1, b2)) n s.1 s.2.1 s.2.2.1 s.2.2.2) (fun r0 s => PX5_placesTooThick_12_b N K (fun b0 b1 b2 => r (b0, b1, b2)) (fun a0 a1 a2 a3 => r0 (a0, a1, a2, a3)) s.1 s.2.1 s.2.2.1 s.2.2.2) (fun _ _ => rfl))
      (fun j s => s.1 = M1 ∧ s.2.1 = zI (tkN f (8 * i + j).toNat) ∧ s.2.2.1 = zI i ∧ s.2.2.2 = zI j ∧ 0 ≤ j) 8 ?_ ?_ N 0 (M1, _, _, _) (by omega) (by omega) ?_
    · rintro j ⟨M2, b1, b2, b3⟩ r2 hj hI hr2
      dsimp only at hI hr2 ⊢
      obtain ⟨rfl, rfl, rfl, rfl, j0⟩ := hI
      have v := h (i * 8 + j) (by omega) (by omega)
      have hb := hf (i * 8 + j) (by omega) (by omega)
      have hl := lim_rng (i * 8 + j)
      have hs : 0 ≤ tkN f (8 * i + j).toNat ∧ tkN f (8 * i + j).toNat ≤ (8 * i + j).toNat := sI_qb (fun k => lim k < f k) (8 * i + j).toNat
      have hq : tkN f (8 * i + j + 1).toNat = tkN f (8 * i + j).toNat + qb (lim (8 * i + j) < f (8 * i + j)) := sI_step (fun k => qb (lim k < f k)) (by omega)
      rw [show 8 * i + j + 1 = 8 * i + (j + 1) by omega, show 8 * i + j = i * 8 + j by omega] at hq
      rw [show 8 * i + j = i * 8 + j by omega] at hs ⊢
      unfold PX5_placesTooThick_12_b PX5_placesTooThick_42
      simp (disch := omega) only [zI_lit, zI_neg, zI_add, zI_sub, zI_mul, zI_div, q_md, zI_lt, zI_le, zI_eq, zI_clamp, zI_vp, forall_eq, mb_u_eq, mb_u_ne, upd_eq, q_if, q_ifn, if_pos, if_neg, true_and, and_true, if_true, if_false, q_cellOf, v, q_mostAt]
      split
      · exact hr2 _ ⟨rfl, by (try dsimp only); rw [hq, qb_f (by omega)], rfl, rfl, by omega⟩
      · exact hr2 _ ⟨rfl, by (try dsimp only); rw [hq, qb_t (by omega)], rfl, rfl, by omega⟩
    · rintro ⟨M2, b1, b2, b3⟩ r2 hI
      dsimp only at hI ⊢
      obtain ⟨rfl, rfl, rfl, rfl, j0⟩ := hI
      unfold PX5_placesTooThick_12_b
      simp (disch := omega) only [zI_lit, zI_neg, zI_add, zI_sub, zI_mul, zI_div, q_md, zI_lt, zI_le, zI_eq, zI_clamp, zI_vp, forall_eq, mb_u_eq, mb_u_ne, upd_eq, q_if, q_ifn, if_pos, if_neg, true_and, and_true, if_true, if_false]
      exact hr _ ⟨rfl, by (try dsimp only); rw [show 8 * i + 8 = 8 * (i + 1) by omega], rfl, by omega⟩
    · refine ⟨rfl, ?_, rfl, rfl, by omega⟩
      show zI _ = zI _
      rw [show 8 * i + 0 = 8 * i by omega]
  · rintro ⟨M1, y, z⟩ r hI
    dsimp only at hI ⊢
    obtain ⟨rfl, rfl, rfl, h0⟩ := hI
    unfold PX5_placesTooThick_4_b
    simp (disch := omega) only [zI_lit, zI_neg, zI_add, zI_sub, zI_mul, zI_div, q_md, zI_lt, zI_le, zI_eq, zI_clamp, zI_vp, forall_eq, mb_u_eq, mb_u_ne, upd_eq, q_if, q_ifn, if_pos, if_neg, true_and, and_true, if_true, if_false]
    exact hK
  · exact ⟨rfl, rfl, rfl, by omega⟩
theorem q_skinOf {N : Nat} {M : mb_m} {f : Nat → Option Nat} {a : Int} {K : Nat → (mb_m × (Nat → Option Nat)) → Prop} {KX : String → (mb_m × (Nat → Option Nat)) → Prop} (l : -2147483648 ≤ a) (g : a < 2147483648)
    (h0 : ∀ o, 0 ≤ a → a ≤ 2 → f a.toNat = some o → K o (M, f)) (h1 : (0 ≤ a → a ≤ 2 → f a.toNat = none) → KX eO (M, f)) : PX7_skinOf N M f (zI a) K KX := by
  unfold PX7_skinOf
  simp (disch := omega) only [zI_lit, zI_neg, zI_add, zI_sub, zI_mul, zI_div, q_md, zI_lt, zI_le, zI_eq, zI_clamp, zI_vp, forall_eq, mb_u_eq, mb_u_ne, upd_eq, q_if, q_ifn, if_pos, if_neg, true_and, and_true, if_true, if_false, q_isWithin]
  split
  · rename_i c
    (try simp (disch := omega) only [zI_lit, zI_neg, zI_add, zI_sub, zI_mul, zI_div, q_md, zI_lt, zI_le, zI_eq, zI_clamp, zI_vp, forall_eq, mb_u_eq, mb_u_ne, upd_eq, q_if, q_ifn, if_pos, if_neg, true_and, and_true, if_true, if_false])
    exact ⟨fun e => h1 (fun _ _ => e), fun o e => h0 o c.1 c.2 e⟩
  · rename_i c
    exact h1 (fun x y => absurd ⟨x, y⟩ c)
