/-! WHAT A BENCH SHOWS: its numbers, and what each call does to them -/
theorem zI_m1 : (-1000001 : Int32) = zI (-1000001) := rfl
theorem zI_m2 : (-1000002 : Int32) = zI (-1000002) := rfl
theorem zI_m3 : (-1000003 : Int32) = zI (-1000003) := rfl
abbrev vk : Type := kN × (Int → Int) × (Int → Int) × (Int → Int) × (Int → Int) × (Int → Int)
def VK (x : mb_k) (q : vk) : Prop := Kr q.1 q.2.1 q.2.2.1 q.2.2.2.1 q.2.2.2.2.1 q.2.2.2.2.2 ∧ Kb x q.1 q.2.1 q.2.2.1 q.2.2.2.1 q.2.2.2.2.1 q.2.2.2.2.2
def VA (MA : mb_m) (C S : Int → Int) : Prop := bR C S ∧ bI MA C S
def VP (M7 : mb_m) (fP : Nat → Option Nat) (LP : List mb_p) (np : Nat) (pr : Int → Int → Int) : Prop := np ≤ 10 ∧ m1 M7 4 np ∧ LP.length = np ∧ (∀ i : Nat, i < np → ∃ x, LP[i]? = some x ∧ fP i = some x.1 ∧ mr x.2.2 0 (fun k => pr i k - 1) 64) ∧ (∀ i : Nat, np ≤ i → i < 10 → fP i = none) ∧ (∀ i k : Int, 0 ≤ i → i < np → 0 ≤ k → k < 64 → 0 ≤ pr i k ∧ pr i k ≤ 6)
def VS (M7 : mb_m) (fS : Nat → Option Nat) (LS : List mb_p) (ns : Nat) (sk : Int → Int → Int) : Prop := ns ≤ 3 ∧ m1 M7 6 ns ∧ LS.length = ns ∧ (∀ i : Nat, i < ns → ∃ x, LS[i]? = some x ∧ fS i = some x.1 ∧ mr x.2.2 0 (fun k => sk i k) 64) ∧ (∀ i : Nat, ns ≤ i → i < 3 → fS i = none) ∧ (∀ i k : Int, 0 ≤ i → i < ns → 0 ≤ k → k < 64 → 3 ≤ sk i k ∧ sk i k ≤ 30)
def VB (M7 : mb_m) (fB : Nat → Option Nat) (LB : List mb_k) (nb : Nat) (bk : Nat → vk) : Prop := nb ≤ 4 ∧ m1 M7 5 nb ∧ LB.length = nb ∧ (∀ i : Nat, i < nb → ∃ x, LB[i]? = some x ∧ fB i = some x.1 ∧ VK x (bk i)) ∧ (∀ i : Nat, nb ≤ i → i < 4 → fB i = none)
def Vw (b : mb_bs) (C S : Int → Int) (np : Nat) (pr : Int → Int → Int) (nb : Nat) (bk : Nat → vk) (ns : Nat) (sk : Int → Int → Int) : Prop := VA b.2.1 C S ∧ VP b.1 b.2.2.1 b.2.2.2.2.2.1 np pr ∧ VB b.1 b.2.2.2.1 b.2.2.2.2.2.2.1 nb bk ∧ VS b.1 b.2.2.2.2.1 b.2.2.2.2.2.2.2 ns sk
theorem VP_7 {M7 M7' : mb_m} {fP : Nat → Option Nat} {LP : List mb_p} {np : Nat} {pr : Int → Int → Int} {l : List Nat} (h : VP M7 fP LP np pr) (hf : mf M7 M7' l) (h0 : 4 ∉ l) : VP M7' fP LP np pr := by
  obtain ⟨a, b, c⟩ := h
  exact ⟨a, mf_m1 hf h0 b, c⟩
theorem VS_7 {M7 M7' : mb_m} {fP : Nat → Option Nat} {LP : List mb_p} {np : Nat} {pr : Int → Int → Int} {l : List Nat} (h : VS M7 fP LP np pr) (hf : mf M7 M7' l) (h0 : 6 ∉ l) : VS M7' fP LP np pr := by
  obtain ⟨a, b, c⟩ := h
  exact ⟨a, mf_m1 hf h0 b, c⟩
theorem VB_7 {M7 M7' : mb_m} {fB : Nat → Option Nat} {LB : List mb_k} {nb : Nat} {bk : Nat → vk} {l : List Nat} (h : VB M7 fB LB nb bk) (hf : mf M7 M7' l) (h0 : 5 ∉ l) : VB M7' fB LB nb bk := by
  obtain ⟨a, b, c⟩ := h
  exact ⟨a, mf_m1 hf h0 b, c⟩
def bset (bk : Nat → vk) (i : Nat) (q : vk) : Nat → vk := fun j => if j = i then q else bk j
theorem VB_upd {M7 : mb_m} {fB : Nat → Option Nat} {LB : List mb_k} {nb i : Nat} {bk : Nat → vk} {x y : mb_k} {q : vk} (h : VB M7 fB LB nb bk) (x1 : LB[i]? = some x) (hy : y.1 = x.1) (hk : VK y q) : VB M7 fB (LB.take i ++ y :: LB.drop (i + 1)) nb (bset bk i q) := by
  obtain ⟨p1, p2, p5, p6, p7⟩ := h
  have hmid := getElem_mid (y := y) x1
  refine ⟨p1, p2, by rw [hmid.1, p5], fun j hj => ?_, p7⟩
  unfold bset
  by_cases hh : j = i
  · subst hh
    obtain ⟨z, z1, z2, z3⟩ := p6 j hj
    have : z = x := by rw [x1] at z1; exact (Option.some.inj z1).symm
    subst this
    exact ⟨y, hmid.2.1, by rw [hy]; exact z2, by rw [if_pos rfl]; exact hk⟩
  · obtain ⟨z, z1, z2, z3⟩ := p6 j hj
    exact ⟨z, by rw [hmid.2.2 j hh]; exact z1, z2, by rw [if_neg hh]; exact z3⟩
/-! bath, prints -/
theorem t_cellAt0 {N : Nat} {b : mb_bs} {F : mb_m} {C S : Int → Int} {np : Nat} {pr : Int → Int → Int} {nb : Nat} {bk : Nat → vk} {ns : Nat} {sk : Int → Int → Int} {K : Int32 → mb_S → Prop} (hN : 700 ≤ N) (hV : Vw b C S np pr nb bk ns sk) {x y : Int} (hx : 0 ≤ x ∧ x ≤ 7) (hy : 0 ≤ y ∧ y ≤ 7) (hK : K (zI (C (8 * y + x) - 1)) (b, F)) : LP_cellAt N b F (zI x) (zI y) (zI 0) K := by
  have hb : bI b.2.1 C S := hV.1.2
  have w : b.2.1 0 (y * 8 + x).toNat = zI (C (8 * y + x) - 1) := by
    rw [hb.1 (y * 8 + x) (by omega) (by omega), show y * 8 + x = 8 * y + x by omega]
  unfold LP_cellAt
  (try dsimp only)
  refine b_cellAt (by omega) (by omega) (by omega) (by omega) (by omega) (by omega) (fun _ _ => ?_) (fun _ z => absurd z (by omega)) (fun z => absurd (show gr x y from ⟨hx, hy⟩) z) (fun _ z => absurd (show (0 : Int) ≤ 0 ∧ (0 : Int) ≤ 1 by omega) z)
  rw [w]; exact hK
theorem t_cellAt1 {N : Nat} {b : mb_bs} {F : mb_m} {C S : Int → Int} {np : Nat} {pr : Int → Int → Int} {nb : Nat} {bk : Nat → vk} {ns : Nat} {sk : Int → Int → Int} {K : Int32 → mb_S → Prop} (hN : 700 ≤ N) (hV : Vw b C S np pr nb bk ns sk) {x y : Int} (hx : 0 ≤ x ∧ x ≤ 7) (hy : 0 ≤ y ∧ y ≤ 7) (hK : K (zI (S (8 * y + x))) (b, F)) : LP_cellAt N b F (zI x) (zI y) (zI 1) K := by
  have hb : bI b.2.1 C S := hV.1.2
  have w : b.2.1 1 (y * 8 + x).toNat = zI (S (8 * y + x)) := by
    rw [hb.2 (y * 8 + x) (by omega) (by omega), show y * 8 + x = 8 * y + x by omega]
  unfold LP_cellAt
  (try dsimp only)
  refine b_cellAt (by omega) (by omega) (by omega) (by omega) (by omega) (by omega) (fun _ z => absurd z (by omega)) (fun _ _ => ?_) (fun z => absurd (show gr x y from ⟨hx, hy⟩) z) (fun _ z => absurd (show (0 : Int) ≤ 1 ∧ (1 : Int) ≤ 1 by omega) z)
  rw [w]; exact hK
theorem t_drop {N : Nat} {b : mb_bs} {F : mb_m} {C S : Int → Int} {np : Nat} {pr : Int → Int → Int} {nb : Nat} {bk : Nat → vk} {ns : Nat} {sk : Int → Int → Int} {K : Int32 → mb_S → Prop} (hN : 700 ≤ N) (hV : Vw b C S np pr nb bk ns sk) {x y c m : Int} (hx : 0 ≤ x ∧ x ≤ 7) (hy : 0 ≤ y ∧ y ≤ 7) (hc : 0 ≤ c ∧ c ≤ 5) (hm : 1 ≤ m ∧ m ≤ 64) (hK : ∀ b', Vw b' (uC x y c m C) (uS x y c m C S) np pr nb bk ns sk → K (zI (uN x y c m C 64)) (b', F)) : LP_drop N b F (zI x) (zI y) (zI c) (zI m) K := by
  obtain ⟨hA, hR⟩ := id hV
  unfold LP_drop
  (try dsimp only)
  refine b_drop (by omega) (by omega) (by omega) (by omega) (by omega) (by omega) (by omega) (by omega) (fun _ _ _ => ?_) (fun z => absurd (show gr x y from ⟨hx, hy⟩) z) (fun _ z => absurd ⟨hc, hm⟩ z)
  refine e_spread hN hx hy hc hm hA.1 hA.2 (fun MA' hb' => ?_)
  exact hK _ ⟨⟨bR_u hc hA.1, hb'⟩, hR⟩
theorem t_comb {N : Nat} {b : mb_bs} {F : mb_m} {C S : Int → Int} {np : Nat} {pr : Int → Int → Int} {nb : Nat} {bk : Nat → vk} {ns : Nat} {sk : Int → Int → Int} {K : Int32 → mb_S → Prop} (hN : 700 ≤ N) (hV : Vw b C S np pr nb bk ns sk) {f : Int32} {l s : Int} (hl : 0 ≤ l ∧ l ≤ 7) (hs : -7 ≤ s ∧ s ≤ 7) (hK : ∀ b', Vw b' (cC f l s C) (cC f l s S) np pr nb bk ns sk → K (zI (cN f l s C 8)) (b', F)) : LP_comb N b F f (zI l) (zI s) K := by
  obtain ⟨hA, hR⟩ := id hV
  unfold LP_comb
  (try dsimp only)
  unfold BP_comb PX7_comb
  simp (disch := omega) only [zI_lit, zI_neg, zI_add, zI_sub, zI_mul, zI_div, q_md, zI_lt, zI_le, zI_eq, zI_clamp, zI_vp, forall_eq, mb_u_eq, mb_u_ne, upd_eq, q_if, q_ifn, if_pos, if_neg, true_and, and_true, if_true, if_false, q_isOnSide, q_isWithin, q_demandPlace0, q_demandPlace1, q_demandArgument0, q_demandArgument1]
  refine e_shift hN hl hs hA.1 hA.2 (fun MA' hb' => ?_)
  exact hK _ ⟨⟨bR_c hl hA.1, hb'⟩, hR⟩
theorem t_clean {N : Nat} {b : mb_bs} {F : mb_m} {C S : Int → Int} {np : Nat} {pr : Int → Int → Int} {nb : Nat} {bk : Nat → vk} {ns : Nat} {sk : Int → Int → Int} {K : Int32 → mb_S → Prop} (hN : 700 ≤ N) (hV : Vw b C S np pr nb bk ns sk) (hK : ∀ b', Vw b' (fun _ => 0) (fun _ => 0) np pr nb bk ns sk → K (zI (cnt C)) (b', F)) : LP_clean N b F K := by
  obtain ⟨hA, hR⟩ := id hV
  unfold LP_clean
  (try dsimp only)
  unfold BP_clean PX7_clean
  exact e_empty hN hA.1 hA.2 (fun MA' hb' => hK _ ⟨⟨bR_0, hb'⟩, hR⟩)
theorem t_lift {N : Nat} {b : mb_bs} {F : mb_m} {C S : Int → Int} {np : Nat} {pr : Int → Int → Int} {nb : Nat} {bk : Nat → vk} {ns : Nat} {sk : Int → Int → Int} {K : Int32 → mb_S → Prop} (hN : 700 ≤ N) (hV : Vw b C S np pr nb bk ns sk) (hn : np < 10) (hK : ∀ b', Vw b' (fC C S) (fS C S) (np + 1) (fun i k => if i = np then C k else pr i k) nb bk ns sk → K (zI np) (b', F)) : LP_lift N b F K := by
  obtain ⟨M7, MA, fP, fB, fK, LP, LB, LS⟩ := b
  obtain ⟨hA, ⟨p1, p2, p5, p6, p7, p8⟩, hB, hSk⟩ := id hV
  (try dsimp only at hA hB hSk p2 p5 p6 p7)
  unfold LP_lift
  (try dsimp only)
  refine b_lift hN p2 p1 hA.1 hA.2 (fun c o a Mp MA' g1 g2 => ?_) (fun c => absurd c (by omega))
  refine hK _ ⟨⟨bR_f hA.1, g2⟩, ⟨by omega, ?_, ?_, fun i hi => ?_, fun i hi hi2 => ?_, fun i k i1 i2 k1 k2 => ?_⟩, VB_7 hB (mf_u (mf_refl _ [4]) _ (by decide)) (by decide), VS_7 hSk (mf_u (mf_refl _ [4]) _ (by decide)) (by decide)⟩
  · rw [Int.natCast_add]; exact m1_set _ _ _
  · (try dsimp only at p5 ⊢); rw [List.length_append, p5]; rfl
  · (try dsimp only at p5 p6 ⊢)
    by_cases hh : i = np
    · subst hh
      refine ⟨_, by rw [← p5]; exact List.getElem?_concat_length, va_up_eq _ _ _, mr_cong g1 (fun k _ _ => by (try dsimp only); rw [if_pos rfl])⟩
    · obtain ⟨x, x1, x2, x3⟩ := p6 i (by omega)
      refine ⟨x, by rw [List.getElem?_append_left (by rw [p5]; omega)]; exact x1, by rw [va_up_neq _ _ hh]; exact x2, mr_cong x3 (fun k _ _ => by (try dsimp only); rw [if_neg (by omega)])⟩
  · (try dsimp only at p7 ⊢); rw [va_up_neq _ _ (by omega)]; exact p7 i (by omega) hi2
  · (try dsimp only); split
    · have := hA.1 k k1 k2; omega
    · exact p8 i k i1 (by omega) k1 k2
theorem t_liftX {N : Nat} {b : mb_bs} {F : mb_m} {C S : Int → Int} {np : Nat} {pr : Int → Int → Int} {nb : Nat} {bk : Nat → vk} {ns : Nat} {sk : Int → Int → Int} {K : Int32 → mb_S → Prop} (hN : 700 ≤ N) (hV : Vw b C S np pr nb bk ns sk) (hn : np = 10) (hK : K (zI (-1000003)) (b, F)) : LP_lift N b F K := by
  obtain ⟨hA, ⟨p1, p2, p5, p6, p7, p8⟩, hB, hSk⟩ := id hV
  unfold LP_lift
  (try dsimp only)
  exact b_lift hN p2 p1 hA.1 hA.2 (fun c => absurd hn (by omega)) (fun _ => ⟨rfl, hK⟩)
theorem t_printAt {N : Nat} {b : mb_bs} {F : mb_m} {C S : Int → Int} {np : Nat} {pr : Int → Int → Int} {nb : Nat} {bk : Nat → vk} {ns : Nat} {sk : Int → Int → Int} {K : Int32 → mb_S → Prop} (hN : 700 ≤ N) (hV : Vw b C S np pr nb bk ns sk) {p : Nat} {x y : Int} (hp : p < np) (hx : 0 ≤ x ∧ x ≤ 7) (hy : 0 ≤ y ∧ y ≤ 7) (hK : K (zI (pr p (8 * y + x) - 1)) (b, F)) : LP_printAt N b F (zI p) (zI x) (zI y) K := by
  obtain ⟨hA, ⟨p1, p2, p5, p6, p7, p8⟩, hB, hSk⟩ := id hV
  unfold LP_printAt
  (try dsimp only)
  refine b_printAt (m := mb_z) (np := np) (by omega) (by omega) (by omega) (by omega) (by omega) (by omega) p1 (fun i hi => by obtain ⟨x, x1, x2, _⟩ := p6 i hi; exact ⟨x, x1, x2⟩) p7 (fun c1 c2 c3 w hw => ?_) (fun c => absurd (show (0 ≤ (p : Int) ∧ (p : Int) < np) ∧ gr x y from ⟨by omega, hx, hy⟩) c)
  obtain ⟨x', y1, y2, y3⟩ := p6 p hp
  rw [Int.toNat_natCast] at hw
  have hx' : x' = w := by
    rw [hw] at y1; exact (Option.some.inj y1).symm
  subst hx'
  rw [y3 (y * 8 + x) (by omega) (by omega)]
  (try dsimp only)
  rw [show y * 8 + x = 8 * y + x by omega]
  exact hK
theorem t_count {N : Nat} {b : mb_bs} {F : mb_m} {C S : Int → Int} {np : Nat} {pr : Int → Int → Int} {nb : Nat} {bk : Nat → vk} {ns : Nat} {sk : Int → Int → Int} {K : Int32 → mb_S → Prop} (hN : 700 ≤ N) (hV : Vw b C S np pr nb bk ns sk) {p : Nat} {c : Int} (hp : p < np) (hc : -1 ≤ c ∧ c ≤ 5) (hK : K (zI (sI (fun k => qb (pr p k - 1 = c)) 64)) (b, F)) : LP_count N b F (zI p) (zI c) K := by
  obtain ⟨M7, MA, fP, fB, fK, LP, LB, LS⟩ := b
  obtain ⟨hA, ⟨p1, p2, p5, p6, p7, p8⟩, hB, hSk⟩ := id hV
  (try dsimp only at hA hB hSk p2 p5 p6 p7)
  unfold LP_count
  (try dsimp only)
  obtain ⟨x, x1, x2, x3⟩ := p6 p hp
  have hx : LP.take p ++ (x.1, x.2.1, x.2.2) :: LP.drop (p + 1) = LP := (q_split x1).symm
  refine Or.inl ⟨_, x, _, q_split x1, ?_⟩
  unfold PX7_count
  refine q_printOf (by omega) (by omega) (fun o _ _ e => ?_) (fun e => ?_)
  · have e2 : o = x.1 := by rw [Int.toNat_natCast, x2] at e; exact (Option.some.inj e).symm
    simp (disch := omega) only [zI_lit, zI_neg, zI_add, zI_sub, zI_mul, zI_div, q_md, zI_lt, zI_le, zI_eq, zI_clamp, zI_vp, forall_eq, mb_u_eq, mb_u_ne, upd_eq, q_isWithin]
    rw [if_pos hc]
    simp (disch := omega) only [zI_lit, zI_neg, zI_add, zI_sub, zI_mul, zI_div, q_md, zI_lt, zI_le, zI_eq, zI_clamp, zI_vp, forall_eq, mb_u_eq, mb_u_ne, upd_eq, q_if, q_ifn, if_pos, if_neg, true_and, and_true, if_true, if_false, q_demandArgument1]
    refine ⟨e2, ?_⟩
    refine e_cells hN x3 (fun k k1 k2 => by have := p8 p k (by omega) (by omega) k1 k2; omega) hc ?_
    (try dsimp only)
    rw [hx]
    exact hK
  · exact absurd (e (by omega) (by omega)) (by rw [Int.toNat_natCast, x2]; exact fun z => by cases z)
/-! sheets -/
theorem t_pageAt {N : Nat} {b : mb_bs} {F : mb_m} {C S : Int → Int} {np : Nat} {pr : Int → Int → Int} {nb : Nat} {bk : Nat → vk} {ns : Nat} {sk : Int → Int → Int} {K : Int32 → mb_S → Prop} (hN : 700 ≤ N) (hV : Vw b C S np pr nb bk ns sk) {f d c r : Int} (h : shO f c r) (hd : d = 0 ∨ d = 1) (hK : K (zI (pgT f d c r)) (b, F)) : LP_pageAt N b F (zI f) (zI d) (zI c) (zI r) K := by
  have c1 := cls_rng f
  have c2 := rws_rng f
  unfold LP_pageAt
  (try dsimp only)
  unfold BP_pageAt PX7_pageAt
  obtain ⟨e1, e2, e3, e4, e5, e6⟩ := id h
  unfold PX7_pageAt_43
  simp (disch := omega) only [zI_lit, zI_neg, zI_add, zI_sub, zI_mul, zI_div, q_md, zI_lt, zI_le, zI_eq, zI_clamp, zI_vp, forall_eq, mb_u_eq, mb_u_ne, upd_eq, q_if, q_ifn, if_pos, if_neg, true_and, and_true, if_true, if_false, q_isWithin, q_cls7, q_rws7, q_demandArgument1]
  rw [q_folded hN h hd]
  exact hK
theorem t_placeOf {N : Nat} {b : mb_bs} {F : mb_m} {C S : Int → Int} {np : Nat} {pr : Int → Int → Int} {nb : Nat} {bk : Nat → vk} {ns : Nat} {sk : Int → Int → Int} {K : Int32 → mb_S → Prop} (hN : 700 ≤ N) (hV : Vw b C S np pr nb bk ns sk) {f p : Int} (hf : 1 ≤ f ∧ f ≤ 4) (hp : 1 ≤ p ∧ p ≤ 2 * cls f * rws f) (hK : ∀ c r d : Int, shO f c r → (d = 0 ∨ d = 1) → pgT f d c r = p → K (zI (100 * d + 10 * r + c)) (b, F)) : LP_placeOf N b F (zI f) (zI p) K := by
  have c1 := cls_rng f
  have c2 := rws_rng f
  obtain ⟨t1, t2, t3, -⟩ := cr_tot hf
  unfold LP_placeOf
  (try dsimp only)
  unfold BP_placeOf PX7_placeOf
  simp (disch := omega) only [zI_lit, q_isWithin, q_cls7, q_rws7, zI_mul, if_pos, q_demandArgument1]
  exact e_place hN hf hp (fun c r d h1 h2 h3 => hK c r d h1 h2 h3)
theorem t_placeOfX {N : Nat} {b : mb_bs} {F : mb_m} {C S : Int → Int} {np : Nat} {pr : Int → Int → Int} {nb : Nat} {bk : Nat → vk} {ns : Nat} {sk : Int → Int → Int} {K : Int32 → mb_S → Prop} (hN : 700 ≤ N) (hV : Vw b C S np pr nb bk ns sk) {f p : Int} (hf : 1 ≤ f ∧ f ≤ 4) (hp : ¬ (1 ≤ p ∧ p ≤ 2 * cls f * rws f)) (l : -2147483648 ≤ p) (g : p < 2147483648) (hK : K (zI (-1000002)) (b, F)) : LP_placeOf N b F (zI f) (zI p) K := by
  have c1 := cls_rng f
  have c2 := rws_rng f
  obtain ⟨t1, t2, t3, -⟩ := cr_tot hf
  unfold LP_placeOf
  (try dsimp only)
  unfold BP_placeOf PX7_placeOf
  simp (disch := omega) only [zI_lit, q_isWithin, q_cls7, q_rws7, zI_mul, if_pos, if_neg, q_demandArgument1, q_demandArgument0]
  exact ⟨rfl, hK⟩
/-! skins -/
theorem t_skin {N : Nat} {b : mb_bs} {F : mb_m} {C S : Int → Int} {np : Nat} {pr : Int → Int → Int} {nb : Nat} {bk : Nat → vk} {ns : Nat} {sk : Int → Int → Int} {K : Int32 → mb_S → Prop} (hN : 700 ≤ N) (hV : Vw b C S np pr nb bk ns sk) {t : Int} (hn : ns < 3) (ht : 8 ≤ t ∧ t ≤ 30) (hK : ∀ b', Vw b' C S np pr nb bk (ns + 1) (fun i k => if i = ns then t else sk i k) → K (zI ns) (b', F)) : LP_skin N b F (zI t) K := by
  obtain ⟨M7, MA, fP, fB, fK, LP, LB, LS⟩ := b
  obtain ⟨hA, hP, hB, ⟨p1, p2, p5, p6, p7, p8⟩⟩ := id hV
  (try dsimp only at hA hP hB p2 p5 p6 p7)
  have v7 : M7 6 0 = zI ns := p2
  have e : ((ns : Int)).toNat = ns := by omega
  unfold LP_skin
  (try dsimp only)
  unfold BP_skin PX7_skin PX7_skin_24
  simp (disch := omega) only [zI_lit, zI_neg, zI_add, zI_sub, zI_mul, zI_div, q_md, zI_lt, zI_le, zI_eq, zI_clamp, zI_vp, forall_eq, mb_u_eq, mb_u_ne, upd_eq, q_if, q_ifn, if_pos, if_neg, true_and, and_true, if_true, if_false, q_isWithin, ht, and_self, q_demandArgument1, q_demandState1, v7]
  intro q
  refine e_init5 hN (fun M' hM' => ?_)
  intro a
  simp (disch := omega) only [zI_lit, zI_neg, zI_add, zI_sub, zI_mul, zI_div, q_md, zI_lt, zI_le, zI_eq, zI_clamp, zI_vp, forall_eq, mb_u_eq, mb_u_ne, upd_eq, q_if, q_ifn, if_pos, if_neg, true_and, and_true, if_true, if_false, v7, e]
  refine hK _ ⟨hA, VP_7 hP (mf_u (mf_refl _ [6]) _ (by decide)) (by decide), VB_7 hB (mf_u (mf_refl _ [6]) _ (by decide)) (by decide), ⟨by omega, ?_, ?_, fun i hi => ?_, fun i hi hi2 => ?_, fun i k i1 i2 k1 k2 => ?_⟩⟩
  · rw [Int.natCast_add]; exact m1_set _ _ _
  · (try dsimp only at p5 ⊢); rw [List.length_append, p5]; rfl
  · (try dsimp only at p5 p6 ⊢)
    by_cases hh : i = ns
    · subst hh
      refine ⟨_, by rw [← p5]; exact List.getElem?_concat_length, va_up_eq _ _ _, mr_cong hM' (fun k _ _ => by (try dsimp only); rw [if_pos rfl])⟩
    · obtain ⟨x, x1, x2, x3⟩ := p6 i (by omega)
      refine ⟨x, by rw [List.getElem?_append_left (by rw [p5]; omega)]; exact x1, by rw [va_up_neq _ _ hh]; exact x2, mr_cong x3 (fun k _ _ => by (try dsimp only); rw [if_neg (by omega)])⟩
  · (try dsimp only at p7 ⊢); rw [va_up_neq _ _ (by omega)]; exact p7 i (by omega) hi2
  · (try dsimp only); split
    · omega
    · exact p8 i k i1 (by omega) k1 k2
theorem t_skinX {N : Nat} {b : mb_bs} {F : mb_m} {C S : Int → Int} {np : Nat} {pr : Int → Int → Int} {nb : Nat} {bk : Nat → vk} {ns : Nat} {sk : Int → Int → Int} {K : Int32 → mb_S → Prop} (hN : 700 ≤ N) (hV : Vw b C S np pr nb bk ns sk) {t : Int} (hn : ns = 3) (ht : 8 ≤ t ∧ t ≤ 30) (hK : K (zI (-1000003)) (b, F)) : LP_skin N b F (zI t) K := by
  obtain ⟨hA, hP, hB, ⟨p1, p2, p5, p6, p7, p8⟩⟩ := id hV
  have v7 : b.1 6 0 = zI ns := p2
  unfold LP_skin
  (try dsimp only)
  unfold BP_skin PX7_skin PX7_skin_24
  simp (disch := omega) only [zI_lit, zI_neg, zI_add, zI_sub, zI_mul, zI_div, q_md, zI_lt, zI_le, zI_eq, zI_clamp, zI_vp, forall_eq, mb_u_eq, mb_u_ne, upd_eq, q_if, q_ifn, if_pos, if_neg, true_and, and_true, if_true, if_false, q_isWithin, ht, and_self, q_demandArgument1, q_demandState0, v7]
  exact Or.inr ⟨rfl, hK⟩
theorem t_tooThick {N : Nat} {b : mb_bs} {F : mb_m} {C S : Int → Int} {np : Nat} {pr : Int → Int → Int} {nb : Nat} {bk : Nat → vk} {ns : Nat} {sk : Int → Int → Int} {K : Int32 → mb_S → Prop} (hN : 700 ≤ N) (hV : Vw b C S np pr nb bk ns sk) {i : Nat} (hi : i < ns) (hK : K (zI (tkN (sk i) 64)) (b, F)) : LP_tooThick N b F (zI i) K := by
  obtain ⟨M7, MA, fP, fB, fK, LP, LB, LS⟩ := b
  obtain ⟨hA, hP, hB, ⟨p1, p2, p5, p6, p7, p8⟩⟩ := id hV
  (try dsimp only at hA hP hB p2 p5 p6 p7)
  obtain ⟨x, x1, x2, x3⟩ := p6 i hi
  have hx : LS.take i ++ (x.1, x.2.1, x.2.2) :: LS.drop (i + 1) = LS := (q_split x1).symm
  unfold LP_tooThick
  (try dsimp only)
  refine Or.inl ⟨_, x, _, q_split x1, ?_⟩
  unfold PX7_tooThick
  refine q_skinOf (by omega) (by omega) (fun o _ _ e => ?_) (fun e => absurd (e (by omega) (by omega)) (by rw [Int.toNat_natCast, x2]; exact fun z => by cases z))
  refine ⟨by rw [Int.toNat_natCast, x2] at e; exact (Option.some.inj e).symm, ?_⟩
  refine e_tooThick hN x3 (fun k k1 k2 => p8 i k (by omega) (by omega) k1 k2) ?_
  (try dsimp only)
  rw [hx]
  exact hK
theorem t_thickAt {N : Nat} {b : mb_bs} {F : mb_m} {C S : Int → Int} {np : Nat} {pr : Int → Int → Int} {nb : Nat} {bk : Nat → vk} {ns : Nat} {sk : Int → Int → Int} {K : Int32 → mb_S → Prop} (hN : 700 ≤ N) (hV : Vw b C S np pr nb bk ns sk) {i : Nat} {x y : Int} (hi : i < ns) (hx0 : 0 ≤ x ∧ x ≤ 7) (hy : 0 ≤ y ∧ y ≤ 7) (hK : K (zI (sk i (8 * y + x))) (b, F)) : LP_thickAt N b F (zI i) (zI x) (zI y) K := by
  obtain ⟨M7, MA, fP, fB, fK, LP, LB, LS⟩ := b
  obtain ⟨hA, hP, hB, ⟨p1, p2, p5, p6, p7, p8⟩⟩ := id hV
  (try dsimp only at hA hP hB p2 p5 p6 p7)
  obtain ⟨w, x1, x2, x3⟩ := p6 i hi
  have hx : LS.take i ++ (w.1, w.2.1, w.2.2) :: LS.drop (i + 1) = LS := (q_split x1).symm
  unfold LP_thickAt
  (try dsimp only)
  refine Or.inl ⟨_, w, _, q_split x1, ?_⟩
  unfold PX7_thickAt
  refine q_skinOf (by omega) (by omega) (fun o _ _ e => ?_) (fun e => absurd (e (by omega) (by omega)) (by rw [Int.toNat_natCast, x2]; exact fun z => by cases z))
  have e2 : o = w.1 := by rw [Int.toNat_natCast, x2] at e; exact (Option.some.inj e).symm
  have w2 := x3 (y * 8 + x) (by omega) (by omega)
  (try dsimp only at w2)
  simp (disch := omega) only [zI_lit, zI_neg, zI_add, zI_sub, zI_mul, zI_div, q_md, zI_lt, zI_le, zI_eq, zI_clamp, zI_vp, forall_eq, mb_u_eq, mb_u_ne, upd_eq, q_if, q_ifn, if_pos, if_neg, true_and, and_true, if_true, if_false, q_isOnGrid, q_demandPlace1, q_cellOf]
  refine ⟨e2, ?_⟩
  rw [hx, w2, show y * 8 + x = 8 * y + x by omega]
  exact hK
theorem t_pare {N : Nat} {b : mb_bs} {F : mb_m} {C S : Int → Int} {np : Nat} {pr : Int → Int → Int} {nb : Nat} {bk : Nat → vk} {ns : Nat} {sk : Int → Int → Int} {K : Int32 → mb_S → Prop} (hN : 700 ≤ N) (hV : Vw b C S np pr nb bk ns sk) {i : Nat} {l r t u y : Int} (hi : i < ns) (ho : okF l r t u) (hy : 1 ≤ y ∧ y ≤ 27)
    (h3 : ∀ w, mnI l r t u (sk i) w → w - y < 3 → K (zI (-1000003)) (b, F))
    (hK : ∀ w, 3 ≤ w → w ≤ 30 → mnI l r t u (sk i) w → ¬ w - y < 3 → ∀ b', Vw b' C S np pr nb bk ns (fun j k => if j = i then thF l r t u y (sk i) k else sk j k) → K (zI (w - y)) (b', F)) : LP_pare N b F (zI i) (zI l) (zI r) (zI t) (zI u) (zI y) K := by
  obtain ⟨M7, MA, fP, fB, fK, LP, LB, LS⟩ := b
  obtain ⟨hA, hP, hB, ⟨p1, p2, p5, p6, p7, p8⟩⟩ := id hV
  (try dsimp only at hA hP hB p2 p5 p6 p7)
  obtain ⟨x, x1, x2, x3⟩ := p6 i hi
  have hx : LS.take i ++ (x.1, x.2.1, x.2.2) :: LS.drop (i + 1) = LS := (q_split x1).symm
  have hsk : ∀ k : Int, 0 ≤ k → k < 64 → 3 ≤ sk i k ∧ sk i k ≤ 30 := fun k k1 k2 => p8 i k (by omega) (by omega) k1 k2
  have ho' := ho
  unfold okF at ho'
  unfold LP_pare
  (try dsimp only)
  refine Or.inl ⟨_, x, _, q_split x1, ?_⟩
  refine b_pare hN ⟨by omega, by omega⟩ ⟨by omega, by omega⟩ ⟨by omega, by omega⟩ ⟨by omega, by omega⟩ ⟨by omega, by omega⟩ ⟨by omega, by omega⟩ (by rw [Int.toNat_natCast]; exact x2) (by omega) x3 hsk (fun z => absurd ho z) (fun z1 z2 => absurd hy z2) (fun z1 z2 v v1 v2 v3 v4 => ?_) (fun z1 z2 v v1 v2 v3 v4 M' hM' => ?_) <;> (try dsimp only)
  · rw [hx]
    exact Or.inr (Or.inr ⟨rfl, h3 v v3 v4⟩)
  · have hmid := getElem_mid (y := ((x.1, x.2.1, M') : mb_p)) x1
    refine hK v v1 v2 v3 v4 _ ⟨hA, hP, hB, ⟨p1, p2, by (try dsimp only); rw [hmid.1, p5], fun j hj => ?_, p7, fun j k i1 i2 k1 k2 => ?_⟩⟩
    · (try dsimp only)
      by_cases hh : j = i
      · subst hh
        exact ⟨_, hmid.2.1, x2, mr_cong hM' (fun k _ _ => by (try dsimp only); rw [if_pos rfl])⟩
      · obtain ⟨x', y1, y2, y3⟩ := p6 j hj
        exact ⟨x', by rw [hmid.2.2 j hh]; exact y1, y2, mr_cong y3 (fun k _ _ => by (try dsimp only); rw [if_neg (by omega)])⟩
    · (try dsimp only)
      split
      · have := hsk k k1 k2
        unfold thF
        split
        · rename_i zf
          have := v3.1 k k1 k2 zf
          (try dsimp only at this)
          omega
        · omega
      · exact p8 j k i1 i2 k1 k2
theorem t_pareX {N : Nat} {b : mb_bs} {F : mb_m} {C S : Int → Int} {np : Nat} {pr : Int → Int → Int} {nb : Nat} {bk : Nat → vk} {ns : Nat} {sk : Int → Int → Int} {K : Int32 → mb_S → Prop} (hN : 700 ≤ N) (hV : Vw b C S np pr nb bk ns sk) {i : Nat} {l r t u y : Int} (hi : i < ns) (ho : ¬ okF l r t u) (h1 : -8 ≤ l ∧ l ≤ 16) (h2 : -8 ≤ r ∧ r ≤ 16) (h3 : -8 ≤ t ∧ t ≤ 16) (h4 : -8 ≤ u ∧ u ≤ 16) (hy : 1 ≤ y ∧ y ≤ 27) (hK : K (zI (-1000001)) (b, F)) : LP_pare N b F (zI i) (zI l) (zI r) (zI t) (zI u) (zI y) K := by
  obtain ⟨M7, MA, fP, fB, fK, LP, LB, LS⟩ := b
  obtain ⟨hA, hP, hB, ⟨p1, p2, p5, p6, p7, p8⟩⟩ := id hV
  (try dsimp only at hA hP hB p2 p5 p6 p7)
  obtain ⟨x, x1, x2, x3⟩ := p6 i hi
  have hx : LS.take i ++ (x.1, x.2.1, x.2.2) :: LS.drop (i + 1) = LS := (q_split x1).symm
  have hsk : ∀ k : Int, 0 ≤ k → k < 64 → 3 ≤ sk i k ∧ sk i k ≤ 30 := fun k k1 k2 => p8 i k (by omega) (by omega) k1 k2
  unfold LP_pare
  (try dsimp only)
  refine Or.inl ⟨_, x, _, q_split x1, ?_⟩
  refine b_pare hN ⟨by omega, by omega⟩ ⟨by omega, by omega⟩ ⟨by omega, by omega⟩ ⟨by omega, by omega⟩ ⟨by omega, by omega⟩ ⟨by omega, by omega⟩ (by rw [Int.toNat_natCast]; exact x2) (by omega) x3 hsk (fun z => ?_) (fun z1 z2 => absurd z1 ho) (fun z1 => absurd z1 ho) (fun z1 => absurd z1 ho)
  (try dsimp only)
  rw [hx]
  exact Or.inl ⟨rfl, hK⟩
