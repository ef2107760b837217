theorem q_bookOf {N : Nat} {M : mb_m} {f : Nat → Option Nat} {a : Int} {K : Nat → (mb_m × (Nat → Option Nat)) → Prop} {KX : String → (mb_m × (Nat → Option Nat)) → Prop} (l : -2147483648 ≤ a) (g : a < 2147483648)
    (h0 : ∀ o, 0 ≤ a → a ≤ 3 → f a.toNat = some o → K o (M, f)) (h1 : (0 ≤ a → a ≤ 3 → f a.toNat = none) → KX eO (M, f)) : PX7_bookOf N M f (zI a) K KX := by
  unfold PX7_bookOf
  simp (disch := omega) only [zI_lit, zI_neg, zI_add, zI_sub, zI_mul, zI_div, q_md, zI_lt, zI_le, zI_eq, zI_clamp, zI_vp, forall_eq, mb_u_eq, mb_u_ne, upd_eq, q_if, q_ifn, if_pos, if_neg, true_and, and_true, if_true, if_false, q_isWithin]
  split
  · rename_i c
    (try simp (disch := omega) only [zI_lit, zI_neg, zI_add, zI_sub, zI_mul, zI_div, q_md, zI_lt, zI_le, zI_eq, zI_clamp, zI_vp, forall_eq, mb_u_eq, mb_u_ne, upd_eq, q_if, q_ifn, if_pos, if_neg, true_and, and_true, if_true, if_false])
    exact ⟨fun e => h1 (fun _ _ => e), fun o e => h0 o c.1 c.2 e⟩
  · rename_i c
    exact h1 (fun x y => absurd ⟨x, y⟩ c)
/-- a book that is there -/
theorem b_on {N : Nat} {M : mb_m} {f : Nat → Option Nat} {a : Int} {o2 : Nat} {K : Nat → (mb_m × (Nat → Option Nat)) → Prop} {KX : String → (mb_m × (Nat → Option Nat)) → Prop} (l : -2147483648 ≤ a) (g : a < 2147483648) (h : 0 ≤ a ∧ a ≤ 3) (hf : f a.toNat = some o2)
    (h0 : K o2 (M, f)) : PX7_bookOf N M f (zI a) K KX :=
  q_bookOf l g (fun o _ _ e => by rw [hf] at e; exact Option.some.inj e ▸ h0) (fun e => absurd (e h.1 h.2) (by rw [hf]; exact fun z => by cases z))
theorem b_off {N : Nat} {M : mb_m} {f : Nat → Option Nat} {a : Int} {nb : Nat} {K : Nat → (mb_m × (Nat → Option Nat)) → Prop} {KX : String → (mb_m × (Nat → Option Nat)) → Prop} (l : -2147483648 ≤ a) (g : a < 2147483648) (h : ¬ (0 ≤ a ∧ a < nb)) (hf : ∀ i : Nat, nb ≤ i → i < 4 → f i = none)
    (h0 : KX eO (M, f)) : PX7_bookOf N M f (zI a) K KX :=
  q_bookOf l g (fun o e1 e2 e => by rw [hf a.toNat (by omega) (by omega)] at e; cases e) (fun _ => h0)
theorem q_isBook {N : Nat} {M : mb_m} {np a : Int} {K : Int32 → mb_m → Prop} (l : -2147483648 ≤ a) (g : a < 2147483648) (h : m1 M 4 np) (h0 : 0 ≤ np) (h1 : np ≤ 4) : PX8_isBook N M (zI a) K = if 0 ≤ a ∧ a ≤ np - 1 then K (zI 1) M else K (zI 0) M := by
  have v : M 4 0 = zI np := h
  unfold PX8_isBook
  simp (disch := omega) only [zI_lit, zI_neg, zI_add, zI_sub, zI_mul, zI_div, q_md, zI_lt, zI_le, zI_eq, zI_clamp, zI_vp, forall_eq, mb_u_eq, mb_u_ne, upd_eq, q_if, q_ifn, if_pos, if_neg, true_and, and_true, if_true, if_false, v, q_in8, q_isB1, q_isB0]
theorem RB_upd {M7 m m' : mb_m} {fB : Nat → Option Nat} {LB : List mb_k} {nb i : Nat} {x y : mb_k} (p1 : nb ≤ 4) (p2 : m1 M7 5 nb) (p3 : m1 m' 4 nb) (p5 : LB.length = nb) (p6 : ∀ i : Nat, i < nb → ∃ x, LB[i]? = some x ∧ fB i = some x.1 ∧ Kk x m i) (p7 : ∀ i : Nat, nb ≤ i → i < 4 → fB i = none) (p8 : ∀ i : Nat, nb ≤ i → i < 4 → m 10 i = zI 0 ∧ m 11 i = zI 0 ∧ m 21 i = zI 0 ∧ m 23 i = zI 0)
    (hx : LB[i]? = some x) (hi : i < nb) (hy : y.1 = x.1) (hf : fB i = some x.1) (hk : Kk y m' i) (ha : ∀ j : Nat, j < 4 → j ≠ i → Kag m m' j) : RB M7 fB (LB.take i ++ y :: LB.drop (i + 1)) m' := by
  have hmid := getElem_mid (y := y) hx
  refine ⟨nb, p1, p2, p3, by rw [hmid.1, p5], fun j hj => ?_, p7, fun j j1 j2 => ?_⟩
  · by_cases hh : j = i
    · subst hh
      exact ⟨y, hmid.2.1, by rw [hy]; exact hf, hk⟩
    · obtain ⟨z, z1, z2, z3⟩ := p6 j hj
      exact ⟨z, by rw [hmid.2.2 j hh]; exact z1, z2, Kk_ag z3 (ha j (by omega) hh)⟩
  · have := (ha j j2 (by omega)).1
    have e10 := this 10 (by decide)
    have e11 := this 11 (by decide)
    have e21 := this 21 (by decide)
    have e23 := this 23 (by decide)
    rw [Int.toNat_natCast] at e10 e11 e21 e23
    rw [e10, e11, e21, e23]
    exact p8 j j1 j2
/-- one number of book i is written in slot s -/
theorem Kag_1 {m : mb_m} {s k : Nat} {v : Int32} {j : Nat} (hs : s ∈ [5, 6, 7, 8, 9, 10, 11, 21, 23]) (hj : j ≠ k) : Kag m (mb_u m s (upd (m s) k v)) j := by
  refine ⟨fun t ht => ?_, fun k' h1 h2 => ?_, fun t k' ht h1 h2 => ?_⟩
  · by_cases e : t = s
    · subst e
      rw [mb_u_eq]
      show (if ((j : Int)).toNat = k then v else m t _) = _
      rw [if_neg (by omega)]
    · rw [mb_u_ne _ _ e]
  · rw [mb_u_ne _ _ (by rintro rfl; revert hs; decide)]
  · rw [mb_u_ne _ _ (by rintro rfl; revert hs ht; simp; omega)]
theorem Kag_tr {m m' m'' : mb_m} {i : Int} (h : Kag m m' i) (g : Kag m' m'' i) : Kag m m'' i :=
  ⟨fun s hs => by rw [g.1 s hs, h.1 s hs], fun k h1 h2 => by rw [g.2.1 k h1 h2, h.2.1 k h1 h2], fun s k hs h1 h2 => by rw [g.2.2 s k hs h1 h2, h.2.2 s k hs h1 h2]⟩
/-- v with one number changed -/
def kset (v : kN) (s : Nat) (x : Int) : kN := fun j => if j = s then x else v j
theorem s_back {N : Nat} {M7 MA : mb_m} {fP fB fK : Nat → Option Nat} {LP : List mb_p} {LB : List mb_k} {LS : List mb_p} {m : mb_m} (hN : 700 ≤ N) (h : Rm (M7, MA, fP, fB, fK, LP, LB, LS) m) (x1 x2 : Int32) :
    BP_back N M7 MA fP fB fK LP LB LS x1 x2 (fun r b => PX8_back N m x1 x2 (Qe 0 r b)) (fun E b => (E = eO ∧ PX8_back N m x1 x2 (Qe 1 0 b)) ∨ (E = eA ∧ PX8_back N m x1 x2 (Qe 2 0 b))) := by
  obtain ⟨a1, l1, g1, rfl⟩ := zI_ex x1
  obtain ⟨a2, l2, g2, rfl⟩ := zI_ex x2
  obtain ⟨hA, hP, ⟨nb, p1, p2, p3, p5, p6, p7, p8⟩, hSk⟩ := id h
  (try dsimp only at hA hP hSk p2 p5 p6 p7)
  have hm : ∀ K : Int32 → mb_m → Prop, (0 ≤ a1 ∧ a1 < nb → 0 ≤ a2 ∧ a2 ≤ 2 → K (m 10 a1.toNat) (mb_u (mb_u m 27 (mb_c (zI 0))) 10 (upd (m 10) a1.toNat (zI a2)))) → (¬ (0 ≤ a1 ∧ a1 < nb) → K (zI 0) (mb_u m 27 (mb_c (zI 1)))) → (0 ≤ a1 ∧ a1 < nb → ¬ (0 ≤ a2 ∧ a2 ≤ 2) → K (zI 0) (mb_u m 27 (mb_c (zI 2)))) → PX8_back N m (zI a1) (zI a2) K := by
    intro K k0 k1 k2
    unfold PX8_back
    by_cases c : 0 ≤ a1 ∧ a1 < nb
    · by_cases c2 : 0 ≤ a2 ∧ a2 ≤ 2
      · simp (disch := omega) only [zI_lit, zI_neg, zI_add, zI_sub, zI_mul, zI_div, q_md, zI_lt, zI_le, zI_eq, zI_clamp, zI_vp, forall_eq, mb_u_eq, mb_u_ne, upd_eq, q_if, q_ifn, if_pos, if_neg, true_and, and_true, if_true, if_false, q_isBook l1 g1 p3, q_in8, q_goes111]
        exact k0 c c2
      · simp (disch := omega) only [zI_lit, zI_neg, zI_add, zI_sub, zI_mul, zI_div, q_md, zI_lt, zI_le, zI_eq, zI_clamp, zI_vp, forall_eq, mb_u_eq, mb_u_ne, upd_eq, q_if, q_ifn, if_pos, if_neg, true_and, and_true, if_true, if_false, q_isBook l1 g1 p3, q_in8, q_goes10]
        exact k2 c c2
    · simp (disch := omega) only [zI_lit, zI_neg, zI_add, zI_sub, zI_mul, zI_div, q_md, zI_lt, zI_le, zI_eq, zI_clamp, zI_vp, forall_eq, mb_u_eq, mb_u_ne, upd_eq, q_if, q_ifn, if_pos, if_neg, true_and, and_true, if_true, if_false, q_isBook l1 g1 p3, q_in8, q_goes0, ite_self]
      exact k1 c
  by_cases c : 0 ≤ a1 ∧ a1 < nb
  · obtain ⟨x, x1, x2, x3⟩ := p6 a1.toNat (by omega)
    have hx : LB.take a1.toNat ++ x :: LB.drop (a1.toNat + 1) = LB := (q_split x1).symm
    obtain ⟨v, mv, rp, vf, vt, vw, kr, kb, km⟩ := id x3
    have w : m 10 a1.toNat = zI (v 5) := km.1.2.2.2.2.2.1
    have w2 : x.2.2.2.2.2.1 6 0 = zI (v 5) := kb.1.2.2.2
    refine Or.inl ⟨_, x, _, q_split x1, ?_⟩
    unfold PX7_back
    refine b_on l1 g1 (by omega) x2 ?_
    (try dsimp only)
    simp (disch := omega) only [zI_lit, zI_neg, zI_add, zI_sub, zI_mul, zI_div, q_md, zI_lt, zI_le, zI_eq, zI_clamp, zI_vp, forall_eq, mb_u_eq, mb_u_ne, upd_eq, q_isWithin]
    by_cases c2 : 0 ≤ a2 ∧ a2 ≤ 2
    · rw [if_pos c2]
      simp (disch := omega) only [zI_lit, zI_neg, zI_add, zI_sub, zI_mul, zI_div, q_md, zI_lt, zI_le, zI_eq, zI_clamp, zI_vp, forall_eq, mb_u_eq, mb_u_ne, upd_eq, q_if, q_ifn, if_pos, if_neg, true_and, and_true, if_true, if_false, q_demandArgument1, w2]
      refine hm _ (fun _ _ => ?_) (fun z => absurd c z) (fun _ z => absurd c2 z)
      have hf' : mf m (mb_u (mb_u m 27 (mb_c (zI 0))) 10 (upd (m 10) a1.toNat (zI a2))) [27, 10] := mf_u (mf_u (mf_refl _ _) _ (by decide)) _ (by decide)
      refine ⟨m1_ne _ (m1_set _ _ _) (by decide), fun _ => w, RA_mf hA hf' (by decide) (by decide), RP_mf hP hf' (by decide) (by decide), ?_, RS_mf hSk hf' (by decide) (by decide)⟩
      refine RB_upd (m := m) p1 p2 (mf_m1 hf' (by decide) p3) p5 p6 p7 p8 x1 (by omega) rfl x2 ?_ (fun j hj hji => ?_)
      · obtain ⟨⟨b1, b2, b3, b4⟩, b5, b6, b7⟩ := kb
        obtain ⟨⟨k1, k2, k3, k4, k5, k6, k7, k8, k9⟩, k10⟩ := km
        obtain ⟨r1, r2, r3, r4, r5, r6, r7⟩ := kr
        refine ⟨kset v 5 a2, mv, rp, vf, vt, vw, ⟨r1, r2, r3, r4, r5, c2, r7⟩, ⟨⟨m1_ne _ b1 (by decide), m1_ne _ b2 (by decide), m1_ne _ b3 (by decide), m1_set _ _ _⟩, b5, b6, b7⟩, ⟨k1, k2, k3, k4, k5, ?_, k7, k8, k9⟩, k10⟩
        rw [mb_u_eq]
        exact if_pos (by omega)
      · refine Kag_tr (mf_ag (l := [27]) (mf_u (t := 27) (mf_refl m [27]) (mb_c (zI 0)) (by decide)) (by decide) j) ?_
        exact Kag_1 (m := mb_u m 27 (mb_c (zI 0))) (s := 10) (by decide) hji
    · rw [if_neg c2]
      simp (disch := omega) only [zI_lit, zI_neg, zI_add, zI_sub, zI_mul, zI_div, q_md, zI_lt, zI_le, zI_eq, zI_clamp, zI_vp, forall_eq, mb_u_eq, mb_u_ne, upd_eq, q_if, q_ifn, if_pos, if_neg, true_and, and_true, if_true, if_false, q_demandArgument0]
      rw [show LB.take a1.toNat ++ (x.1, x.2.1, x.2.2.1, x.2.2.2.1, x.2.2.2.2.1, x.2.2.2.2.2.1, x.2.2.2.2.2.2.1, x.2.2.2.2.2.2.2.1, x.2.2.2.2.2.2.2.2) :: LB.drop (a1.toNat + 1) = LB from hx]
      exact Or.inr ⟨rfl, hm _ (fun _ z => absurd z c2) (fun z => absurd c z) (fun _ _ => Qe_x h (by decide))⟩
  · refine Or.inr ?_
    unfold PX7_back_n
    exact b_off l1 g1 c p7 (Or.inl ⟨rfl, hm _ (fun z => absurd z c) (fun _ => Qe_x h (by decide)) (fun z => absurd z c)⟩)
theorem e_add3 {N : Nat} {M : mb_m} {n s : Int} {rp : Int → Int} {K : mb_m → Prop} (hn : 0 ≤ n ∧ n < 20) (h0 : mr M 0 rp n) (h1 : m1 M 1 n)
    (hK : ∀ M', mr M' 0 (fun k => if k = n then s else rp k) (n + 1) → m1 M' 1 (n + 1) → K M') : PX3_add N M (zI s) K := by
  have v : M 1 0 = zI n := h1
  unfold PX3_add
  simp (disch := omega) only [zI_lit, zI_neg, zI_add, zI_sub, zI_mul, zI_div, q_md, zI_lt, zI_le, zI_eq, zI_clamp, zI_vp, forall_eq, mb_u_eq, mb_u_ne, upd_eq, q_if, q_ifn, if_pos, if_neg, true_and, and_true, if_true, if_false, v]
  refine hK _ (mr_ne _ (mr_app h0 hn.1 (if_pos rfl) (fun k _ k2 => if_neg (by omega))) (by decide)) (m1_set _ _ _)
theorem s_repair {N : Nat} {M7 MA : mb_m} {fP fB fK : Nat → Option Nat} {LP : List mb_p} {LB : List mb_k} {LS : List mb_p} {m : mb_m} (hN : 700 ≤ N) (h : Rm (M7, MA, fP, fB, fK, LP, LB, LS) m) (x1 x2 : Int32) :
    BP_repair N M7 MA fP fB fK LP LB LS x1 x2 (fun r b => PX8_repair N m x1 x2 (Qe 0 r b)) (fun E b => (E = eO ∧ PX8_repair N m x1 x2 (Qe 1 0 b)) ∨ (E = eA ∧ PX8_repair N m x1 x2 (Qe 2 0 b)) ∨ (E = eS ∧ PX8_repair N m x1 x2 (Qe 3 0 b))) := by
  obtain ⟨a1, l1, g1, rfl⟩ := zI_ex x1
  obtain ⟨a2, l2, g2, rfl⟩ := zI_ex x2
  obtain ⟨hA, hP, ⟨nb, p1, p2, p3, p5, p6, p7, p8⟩, hSk⟩ := id h
  (try dsimp only at hA hP hSk p2 p5 p6 p7)
  by_cases c : 0 ≤ a1 ∧ a1 < nb
  · obtain ⟨x, x1, x2, x3⟩ := p6 a1.toNat (by omega)
    have hx : LB.take a1.toNat ++ (x.1, x.2.1, x.2.2.1, x.2.2.2.1, x.2.2.2.2.1, x.2.2.2.2.2.1, x.2.2.2.2.2.2.1, x.2.2.2.2.2.2.2.1, x.2.2.2.2.2.2.2.2) :: LB.drop (a1.toNat + 1) = LB := (q_split x1).symm
    obtain ⟨v, mv, rp, vf, vt, vw, kr, kb, km⟩ := id x3
    have w9 : m 9 a1.toNat = zI (v 4) := km.1.2.2.2.2.1
    have w21 : m 21 a1.toNat = zI (v 7) := km.1.2.2.2.2.2.2.2.1
    have u5 : x.2.2.2.2.2.1 5 0 = zI (v 4) := kb.1.2.2.1
    have u1 : x.2.2.2.2.2.2.2.1 1 0 = zI (v 7) := kb.2.2.1.2
    obtain ⟨r1, r2, r3, r4, r5, r6, r7, r8, r9, r10, r11, r12⟩ := id kr
    have e21 : ∀ (X : Nat → Int32) (z : Int), (upd X a1.toNat (zI z)) a1.toNat = zI z := fun X z => upd_eq _ _ _
    have hm : ∀ K : Int32 → mb_m → Prop, (0 ≤ a2 ∧ a2 ≤ 4 → (v 4 = 0 ∨ a2 < 3) → v 7 < 20 → K (zI (v 7 + 1)) (mb_u (mb_u (mb_u m 27 (mb_c (zI 0))) 22 (upd (m 22) (20 * a1 + v 7).toNat (zI a2))) 21 (upd (m 21) a1.toNat (zI (v 7 + 1))))) → (¬ (0 ≤ a2 ∧ a2 ≤ 4) → K (zI 0) (mb_u m 27 (mb_c (zI 2)))) → (0 ≤ a2 ∧ a2 ≤ 4 → ¬ ((v 4 = 0 ∨ a2 < 3) ∧ v 7 < 20) → K (zI 0) (mb_u m 27 (mb_c (zI 3)))) → PX8_repair N m (zI a1) (zI a2) K := by
      intro K k0 k2 k3
      have k56 : PX8_repair_56 N K m (zI a1) (zI a2) (zI 1) (zI 0) ↔ ((0 ≤ a2 ∧ a2 ≤ 4 → K (zI 0) (mb_u m 27 (mb_c (zI 3)))) ∧ (¬ (0 ≤ a2 ∧ a2 ≤ 4) → K (zI 0) (mb_u m 27 (mb_c (zI 2))))) := by
        unfold PX8_repair_56
        simp (disch := omega) only [zI_lit, zI_neg, zI_add, zI_sub, zI_mul, zI_div, q_md, zI_lt, zI_le, zI_eq, zI_clamp, zI_vp, forall_eq, mb_u_eq, mb_u_ne, upd_eq, q_if, q_ifn, if_pos, if_neg, true_and, and_true, if_true, if_false, q_in8, q_goes110, q_goes10]
      have k56' : 0 ≤ a2 ∧ a2 ≤ 4 → v 7 < 20 → (K (zI (v 7 + 1)) (mb_u (mb_u (mb_u m 27 (mb_c (zI 0))) 22 (upd (m 22) (20 * a1 + v 7).toNat (zI a2))) 21 (upd (m 21) a1.toNat (zI (v 7 + 1))))) → PX8_repair_56 N K m (zI a1) (zI a2) (zI 1) (zI 1) := by
        intro z z7 zk
        unfold PX8_repair_56
        simp (disch := omega) only [zI_lit, zI_neg, zI_add, zI_sub, zI_mul, zI_div, q_md, zI_lt, zI_le, zI_eq, zI_clamp, zI_vp, forall_eq, mb_u_eq, mb_u_ne, upd_eq, q_if, q_ifn, if_pos, if_neg, true_and, and_true, if_true, if_false, q_in8, q_goes111, w21, e21]
        exact zk
      have k56n : ¬ (0 ≤ a2 ∧ a2 ≤ 4) → PX8_repair_56 N K m (zI a1) (zI a2) (zI 1) (zI 1) := by
        intro z
        unfold PX8_repair_56
        simp (disch := omega) only [zI_lit, zI_neg, zI_add, zI_sub, zI_mul, zI_div, q_md, zI_lt, zI_le, zI_eq, zI_clamp, zI_vp, forall_eq, mb_u_eq, mb_u_ne, upd_eq, q_in8]
        rw [if_neg z]
        simp (disch := omega) only [zI_lit, zI_neg, zI_add, zI_sub, zI_mul, zI_div, q_md, zI_lt, zI_le, zI_eq, zI_clamp, zI_vp, forall_eq, mb_u_eq, mb_u_ne, upd_eq, q_if, q_ifn, if_pos, if_neg, true_and, and_true, if_true, if_false, q_goes10]
        exact k2 z
      have k55 : (0 ≤ a2 ∧ a2 ≤ 4 → ¬ ((v 4 = 0 ∨ a2 < 3) ∧ v 7 < 20)) → PX8_repair_56 N K m (zI a1) (zI a2) (zI 1) (zI 0) := fun z => k56.mpr ⟨fun y => k3 y (z y), k2⟩
      have k561 : (v 4 = 0 ∨ a2 < 3) → v 7 < 20 → PX8_repair_56 N K m (zI a1) (zI a2) (zI 1) (zI 1) := by
        intro z1 z2
        by_cases z : 0 ≤ a2 ∧ a2 ≤ 4
        · exact k56' z z2 (k0 z z1 z2)
        · exact k56n z
      unfold PX8_repair PX8_repair_23 PX8_repair_32 PX8_repair_45 PX8_repair_55
      simp (disch := omega) only [zI_lit, zI_neg, zI_add, zI_sub, zI_mul, zI_div, q_md, zI_lt, zI_le, zI_eq, zI_clamp, zI_vp, forall_eq, mb_u_eq, mb_u_ne, upd_eq, q_if, q_ifn, if_pos, if_neg, true_and, and_true, if_true, if_false, q_isBook l1 g1 p3, w9, w21]
      (repeat' split) <;> first | exact k55 (fun _ => by omega) | exact k561 (by omega) (by omega)
    refine Or.inl ⟨_, x, _, q_split x1, ?_⟩
    unfold PX7_repair
    refine b_on l1 g1 (by omega) x2 ?_
    (try dsimp only)
    simp (disch := omega) only [zI_lit, zI_neg, zI_add, zI_sub, zI_mul, zI_div, q_md, zI_lt, zI_le, zI_eq, zI_clamp, zI_vp, forall_eq, mb_u_eq, mb_u_ne, upd_eq, q_isWithin]
    by_cases c2 : 0 ≤ a2 ∧ a2 ≤ 4
    · rw [if_pos c2]
      have hS : ¬ ((v 4 = 0 ∨ a2 < 3) ∧ v 7 < 20) → PX8_repair N m (zI a1) (zI a2) (Qe 3 0 (M7, MA, fP, fB, fK, LP, LB, LS)) := fun z => hm _ (fun _ z1 z2 => absurd ⟨z1, z2⟩ z) (fun z => absurd c2 z) (fun _ _ => Qe_x h (by decide))
      have hOK : (v 4 = 0 ∨ a2 < 3) → v 7 < 20 → ∀ M', mr M' 0 (fun k => if k = v 7 then a2 else rp k) (v 7 + 1) → m1 M' 1 (v 7 + 1) → PX8_repair N m (zI a1) (zI a2) (Qe 0 (M' 1 0) (M7, MA, fP, fB, fK, LP, LB.take a1.toNat ++ (x.1, x.2.1, x.2.2.1, x.2.2.2.1, x.2.2.2.2.1, x.2.2.2.2.2.1, x.2.2.2.2.2.2.1, M', x.2.2.2.2.2.2.2.2) :: LB.drop (a1.toNat + 1), LS)) := by
        intro z1 z2 M' hM0 hM1
        refine hm _ (fun _ _ _ => ?_) (fun z => absurd c2 z) (fun _ z => absurd ⟨z1, z2⟩ z)
        have hf' : mf m (mb_u (mb_u (mb_u m 27 (mb_c (zI 0))) 22 (upd (m 22) (20 * a1 + v 7).toNat (zI a2))) 21 (upd (m 21) a1.toNat (zI (v 7 + 1)))) [27, 22, 21] := mf_u (mf_u (mf_u (mf_refl _ _) _ (by decide)) _ (by decide)) _ (by decide)
        refine ⟨m1_ne _ (m1_ne _ (m1_set _ _ _) (by decide)) (by decide), fun _ => hM1.symm, RA_mf hA hf' (by decide) (by decide), RP_mf hP hf' (by decide) (by decide), ?_, RS_mf hSk hf' (by decide) (by decide)⟩
        refine RB_upd (m := m) p1 p2 (mf_m1 hf' (by decide) p3) p5 p6 p7 p8 x1 (by omega) rfl x2 ?_ (fun j hj hji => ?_)
        · obtain ⟨b4, b5, b6, b7⟩ := kb
          obtain ⟨⟨k1, k2, k3, k4, k5, k6, k7, k8, k9⟩, k10, k11, k12⟩ := km
          rw [show ((a1.toNat : Nat) : Int) = a1 by omega] at *
          refine ⟨kset v 7 (v 7 + 1), mv, fun k => if k = v 7 then a2 else rp k, vf, vt, vw, ⟨r1, r2, r3, r4, r5, r6, r7, ?_, r9, r10, fun k e1 e2 => ?_, r12⟩, ⟨b4, b5, ⟨hM0, hM1⟩, b7⟩, ⟨k1, k2, k3, k4, k5, k6, k7, ?_, k9⟩, k10, fun k e1 e2 => ?_, fun k e1 e2 => ?_⟩
          · show 0 ≤ v 7 + 1 ∧ v 7 + 1 ≤ 20
            omega
          · have e2 : k < v 7 + 1 := e2
            (try dsimp only)
            split
            · exact c2
            · exact r11 k e1 (by omega)
          · rw [mb_u_eq]
            exact upd_eq _ _ _
          · have e2 : k < v 7 + 1 := e2
            rw [mb_u_ne _ _ (by decide), mb_u_eq]
            show (if (20 * a1 + k).toNat = (20 * a1 + v 7).toNat then zI a2 else m 22 (20 * a1 + k).toNat) = zI (if k = v 7 then a2 else rp k)
            by_cases z : k = v 7
            · rw [if_pos (by rw [z]), if_pos z]
            · rw [if_neg (by omega), if_neg z]; exact k11 k e1 (by omega)
          · exact k12 k e1 e2
        · refine ⟨fun t ht => ?_, fun k h1 h2 => ?_, fun t k ht h1 h2 => ?_⟩
          · by_cases e : t = 21
            · subst e
              rw [mb_u_eq]
              show (if ((j : Int)).toNat = a1.toNat then _ else m 21 _) = _
              rw [if_neg (by omega)]
            · rw [mb_u_ne _ _ e, mb_u_ne _ _ (by rintro rfl; revert ht; decide), mb_u_ne _ _ (by rintro rfl; revert ht; decide)]
          · rfl
          · by_cases e : t = 22
            · subst e
              rw [mb_u_ne _ _ (by decide), mb_u_eq]
              show (if (20 * (j : Int) + k).toNat = (20 * a1 + v 7).toNat then _ else m 22 _) = _
              rw [if_neg (by omega)]
            · rw [mb_u_ne _ _ (by rintro rfl; revert ht; decide), mb_u_ne _ _ e, mb_u_ne _ _ (by rintro rfl; revert ht; decide)]
      unfold PX7_repair_29 PX7_repair_34 PX7_repair_54 PX7_canBeUndone
      have hadd : ∀ (K : mb_m → Prop), v 7 < 20 → (∀ M', mr M' 0 (fun k => if k = v 7 then a2 else rp k) (v 7 + 1) → m1 M' 1 (v 7 + 1) → K M') → PX3_add N x.2.2.2.2.2.2.2.1 (zI a2) K := fun K z k => e_add3 (by omega) kb.2.2.1.1 kb.2.2.1.2 k
      simp (disch := omega) only [zI_lit, zI_neg, zI_add, zI_sub, zI_mul, zI_div, q_md, zI_lt, zI_le, zI_eq, zI_clamp, zI_vp, forall_eq, mb_u_eq, mb_u_ne, upd_eq, q_if, q_ifn, if_pos, if_neg, true_and, and_true, if_true, if_false, q_demandArgument1, q_demandState1, q_demandState0, u5, u1]
      (repeat' split) <;> first
        | exact Or.inr (Or.inr ⟨rfl, by rw [hx]; exact hS (by omega)⟩)
        | exact hadd _ (by omega) (fun M' e1 e2 => hOK (by omega) (by omega) M' e1 e2)
    · rw [if_neg c2]
      simp (disch := omega) only [zI_lit, zI_neg, zI_add, zI_sub, zI_mul, zI_div, q_md, zI_lt, zI_le, zI_eq, zI_clamp, zI_vp, forall_eq, mb_u_eq, mb_u_ne, upd_eq, q_if, q_ifn, if_pos, if_neg, true_and, and_true, if_true, if_false, q_demandArgument0]
      rw [hx]
      exact Or.inr (Or.inl ⟨rfl, hm _ (fun z => absurd z c2) (fun _ => Qe_x h (by decide)) (fun z => absurd z c2)⟩)
  · refine Or.inr ?_
    unfold PX7_repair_n
    refine b_off l1 g1 c p7 (Or.inl ⟨rfl, ?_⟩)
    unfold PX8_repair PX8_repair_55 PX8_repair_56
    simp (disch := omega) only [zI_lit, zI_neg, zI_add, zI_sub, zI_mul, zI_div, q_md, zI_lt, zI_le, zI_eq, zI_clamp, zI_vp, forall_eq, mb_u_eq, mb_u_ne, upd_eq, q_if, q_ifn, if_pos, if_neg, true_and, and_true, if_true, if_false, q_isBook l1 g1 p3, q_in8, q_goes0, ite_self]
    exact Qe_x h (by decide)
theorem s_undo {N : Nat} {M7 MA : mb_m} {fP fB fK : Nat → Option Nat} {LP : List mb_p} {LB : List mb_k} {LS : List mb_p} {m : mb_m} (hN : 700 ≤ N) (h : Rm (M7, MA, fP, fB, fK, LP, LB, LS) m) (x1 : Int32) :
    BP_undo N M7 MA fP fB fK LP LB LS x1 (fun r b => PX8_undo N m x1 (Qe 0 r b)) (fun E b => (E = eO ∧ PX8_undo N m x1 (Qe 1 0 b)) ∨ (E = eS ∧ PX8_undo N m x1 (Qe 2 0 b))) := by
  obtain ⟨a1, l1, g1, rfl⟩ := zI_ex x1
  obtain ⟨hA, hP, ⟨nb, p1, p2, p3, p5, p6, p7, p8⟩, hSk⟩ := id h
  (try dsimp only at hA hP hSk p2 p5 p6 p7)
  by_cases c : 0 ≤ a1 ∧ a1 < nb
  · obtain ⟨x, x1, x2, x3⟩ := p6 a1.toNat (by omega)
    have hx : LB.take a1.toNat ++ (x.1, x.2.1, x.2.2.1, x.2.2.2.1, x.2.2.2.2.1, x.2.2.2.2.2.1, x.2.2.2.2.2.2.1, x.2.2.2.2.2.2.2.1, x.2.2.2.2.2.2.2.2) :: LB.drop (a1.toNat + 1) = LB := (q_split x1).symm
    obtain ⟨v, mv, rp, vf, vt, vw, kr, kb, km⟩ := id x3
    have w21 : m 21 a1.toNat = zI (v 7) := km.1.2.2.2.2.2.2.2.1
    have u1 : x.2.2.2.2.2.2.2.1 1 0 = zI (v 7) := kb.2.2.1.2
    obtain ⟨r1, r2, r3, r4, r5, r6, r7, r8, r9, r10, r11, r12⟩ := id kr
    have e21 : ∀ (X : Nat → Int32) (z : Int), (upd X a1.toNat (zI z)) a1.toNat = zI z := fun X z => upd_eq _ _ _
    have hw : 0 < v 7 → m 22 (20 * a1 + v 7 - 1).toNat = zI (rp (v 7 - 1)) ∧ x.2.2.2.2.2.2.2.1 0 (v 7 - 1).toNat = zI (rp (v 7 - 1)) ∧ 0 ≤ rp (v 7 - 1) ∧ rp (v 7 - 1) ≤ 4 := by
      intro z
      have q1 := km.2.2.1 (v 7 - 1) (by omega) (by omega)
      rw [show 20 * (((a1.toNat : Nat) : Int)) + (v 7 - 1) = 20 * a1 + v 7 - 1 by omega] at q1
      exact ⟨q1, kb.2.2.1.1 (v 7 - 1) (by omega) (by omega), r11 (v 7 - 1) (by omega) (by omega)⟩
    have hm : ∀ K : Int32 → mb_m → Prop, (0 < v 7 → rp (v 7 - 1) < 3 → K (zI (rp (v 7 - 1))) (mb_u (mb_u m 27 (mb_c (zI 0))) 21 (upd (m 21) a1.toNat (zI (v 7 - 1))))) → (¬ (0 < v 7 ∧ rp (v 7 - 1) < 3) → K (zI 0) (mb_u m 27 (mb_c (zI 2)))) → PX8_undo N m (zI a1) K := by
      intro K k0 k2
      unfold PX8_undo PX8_undo_20 PX8_undo_48 PX8_undo_49
      by_cases z : 0 < v 7
      · obtain ⟨w1, w2, w3⟩ := hw z
        simp (disch := omega) only [zI_lit, zI_neg, zI_add, zI_sub, zI_mul, zI_div, q_md, zI_lt, zI_le, zI_eq, zI_clamp, zI_vp, forall_eq, mb_u_eq, mb_u_ne, upd_eq, q_if, q_ifn, if_pos, if_neg, true_and, and_true, if_true, if_false, q_isBook l1 g1 p3, w21, w1, q_goes10, q_goes111, e21]
        rw [show 20 * a1 + (v 7 - 1) = 20 * a1 + v 7 - 1 by omega, w1]
        split
        · exact k2 (by omega)
        · exact k0 z (by omega)
      · simp (disch := omega) only [zI_lit, zI_neg, zI_add, zI_sub, zI_mul, zI_div, q_md, zI_lt, zI_le, zI_eq, zI_clamp, zI_vp, forall_eq, mb_u_eq, mb_u_ne, upd_eq, q_if, q_ifn, if_pos, if_neg, true_and, and_true, if_true, if_false, q_isBook l1 g1 p3, w21, q_goes10]
        exact k2 (by omega)
    have hS : ¬ (0 < v 7 ∧ rp (v 7 - 1) < 3) → PX8_undo N m (zI a1) (Qe 2 0 (M7, MA, fP, fB, fK, LP, LB, LS)) := fun z => hm _ (fun z1 z2 => absurd ⟨z1, z2⟩ z) (fun _ => Qe_x h (by decide))
    refine Or.inl ⟨_, x, _, q_split x1, ?_⟩
    unfold PX7_undo
    refine b_on l1 g1 (by omega) x2 ?_
    (try dsimp only)
    refine ⟨rfl, ?_⟩
    unfold PX3_latest PX7_undo_30 PX7_undo_31 PX7_canBeUndone PX3_dropLatest
    by_cases z : 0 < v 7
    · obtain ⟨w1, w2, w3⟩ := hw z
      simp (disch := omega) only [zI_lit, zI_neg, zI_add, zI_sub, zI_mul, zI_div, q_md, zI_lt, zI_le, zI_eq, zI_clamp, zI_vp, forall_eq, mb_u_eq, mb_u_ne, upd_eq, q_if, q_ifn, if_pos, if_neg, true_and, and_true, if_true, if_false, u1, w2, q_demandState0, q_demandState1]
      rw [hx]
      by_cases z2 : rp (v 7 - 1) < 3
      · simp (disch := omega) only [zI_lit, zI_neg, zI_add, zI_sub, zI_mul, zI_div, q_md, zI_lt, zI_le, zI_eq, zI_clamp, zI_vp, forall_eq, mb_u_eq, mb_u_ne, upd_eq, q_if, q_ifn, if_pos, if_neg, true_and, and_true, if_true, if_false]
        refine hm _ (fun _ _ => ?_) (fun y => absurd ⟨z, z2⟩ y)
        have hf' : mf m (mb_u (mb_u m 27 (mb_c (zI 0))) 21 (upd (m 21) a1.toNat (zI (v 7 - 1)))) [27, 21] := mf_u (mf_u (mf_refl _ _) _ (by decide)) _ (by decide)
        refine ⟨m1_ne _ (m1_set _ _ _) (by decide), fun _ => rfl, RA_mf hA hf' (by decide) (by decide), RP_mf hP hf' (by decide) (by decide), ?_, RS_mf hSk hf' (by decide) (by decide)⟩
        refine RB_upd (m := m) p1 p2 (mf_m1 hf' (by decide) p3) p5 p6 p7 p8 x1 (by omega) rfl x2 ?_ (fun j hj hji => ?_)
        · obtain ⟨b4, b5, b6, b7⟩ := kb
          obtain ⟨⟨k1, k2, k3, k4, k5, k6, k7, k8, k9⟩, k10, k11, k12⟩ := km
          refine ⟨kset v 7 (v 7 - 1), mv, rp, vf, vt, vw, ⟨r1, r2, r3, r4, r5, r6, r7, ?_, r9, r10, fun k e1 e2 => ?_, r12⟩, ⟨b4, b5, ⟨fun k e1 e2 => ?_, m1_set _ _ _⟩, b7⟩, ⟨k1, k2, k3, k4, k5, k6, k7, ?_, k9⟩, k10, fun k e1 e2 => ?_, k12⟩
          · show 0 ≤ v 7 - 1 ∧ v 7 - 1 ≤ 20
            omega
          · have e2 : k < v 7 - 1 := e2
            exact r11 k e1 (by omega)
          · have e2 : k < v 7 - 1 := e2
            (try dsimp only)
            rw [mb_u_ne _ _ (by decide)]
            exact b6.1 k e1 (by omega)
          · rw [mb_u_eq]
            exact if_pos (by omega)
          · have e2 : k < v 7 - 1 := e2
            exact k11 k e1 (by omega)
        · refine Kag_tr (mf_ag (l := [27]) (mf_u (t := 27) (mf_refl m [27]) (mb_c (zI 0)) (by decide)) (by decide) j) ?_
          exact Kag_1 (m := mb_u m 27 (mb_c (zI 0))) (s := 21) (by decide) hji
      · simp (disch := omega) only [zI_lit, zI_neg, zI_add, zI_sub, zI_mul, zI_div, q_md, zI_lt, zI_le, zI_eq, zI_clamp, zI_vp, forall_eq, mb_u_eq, mb_u_ne, upd_eq, q_if, q_ifn, if_pos, if_neg, true_and, and_true, if_true, if_false]
        exact Or.inr ⟨rfl, hS (by omega)⟩
    · simp (disch := omega) only [zI_lit, zI_neg, zI_add, zI_sub, zI_mul, zI_div, q_md, zI_lt, zI_le, zI_eq, zI_clamp, zI_vp, forall_eq, mb_u_eq, mb_u_ne, upd_eq, q_if, q_ifn, if_pos, if_neg, true_and, and_true, if_true, if_false, u1, q_demandState0]
      rw [hx]
      exact Or.inr ⟨rfl, hS (by omega)⟩
  · refine Or.inr ?_
    unfold PX7_undo_n
    refine b_off l1 g1 c p7 (Or.inl ⟨rfl, ?_⟩)
    unfold PX8_undo PX8_undo_20 PX8_undo_48 PX8_undo_49
    simp (disch := omega) only [zI_lit, zI_neg, zI_add, zI_sub, zI_mul, zI_div, q_md, zI_lt, zI_le, zI_eq, zI_clamp, zI_vp, forall_eq, mb_u_eq, mb_u_ne, upd_eq, q_if, q_ifn, if_pos, if_neg, true_and, and_true, if_true, if_false, q_isBook l1 g1 p3, q_goes0, ite_self]
    exact Qe_x h (by decide)
