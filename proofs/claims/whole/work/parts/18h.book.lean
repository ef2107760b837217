theorem mb_nar {x : Int32} (h : mb_isB x) : vp_nar .boolean x = x := by rcases h with h | h <;> subst h <;> rfl
abbrev spO (f t w : Int) : Prop := (1400 ≤ f ∧ f ≤ 2000) ∧ (f ≤ t ∧ t ≤ 2000) ∧ 1 ≤ w ∧ w ≤ 9
theorem b_speak {N : Nat} {M7 M2 M6 : mb_m} {fB : Nat → Option Nat} {o2 : Nat} {a1 f t w n : Int} {vf vt vw : Int → Int} {K : Int32 → (mb_m × (Nat → Option Nat) × mb_m × mb_m) → Prop} {KX : String → (mb_m × (Nat → Option Nat) × mb_m × mb_m) → Prop}
    (l1 : -2147483648 ≤ a1) (g1 : a1 < 2147483648) (l2 : -2147483648 ≤ f) (g2 : f < 2147483648) (l3 : -2147483648 ≤ t) (g3 : t < 2147483648) (l4 : -2147483648 ≤ w) (g4 : w < 2147483648)
    (h : 0 ≤ a1 ∧ a1 ≤ 3) (hf : fB a1.toNat = some o2) (hn : 0 ≤ n ∧ n ≤ 20) (q0 : mr M6 0 vf n) (q1 : mr M6 1 vt n) (q2 : mr M6 2 vw n) (q3 : m1 M6 3 n)
    (h0 : spO f t w → n < 20 → ∀ M', mr M' 0 (fun k => if k = n then f else vf k) (n + 1) → mr M' 1 (fun k => if k = n then t else vt k) (n + 1) → mr M' 2 (fun k => if k = n then w else vw k) (n + 1) → m1 M' 3 (n + 1) → K (M' 3 0) (M7, fB, M2, M'))
    (h2 : ¬ spO f t w → KX eA (M7, fB, M2, M6)) (h3 : spO f t w → ¬ n < 20 → KX eS (M7, fB, M2, M6)) : PX7_speak N M7 fB o2 M2 M6 (zI a1) (zI f) (zI t) (zI w) K KX := by
  have v3 : M6 3 0 = zI n := q3
  unfold PX7_speak
  refine b_on l1 g1 h hf ⟨rfl, ?_⟩
  (try dsimp only)
  have k38 : ¬ spO f t w → PX7_speak_38 N K KX M7 fB M2 M6 (zI f) (zI t) (zI w) := by
    intro z
    unfold PX7_speak_38 PX7_speak_39
    simp (disch := omega) only [zI_lit, zI_neg, zI_add, zI_sub, zI_mul, zI_div, q_md, zI_lt, zI_le, zI_eq, zI_clamp, zI_vp, forall_eq, mb_u_eq, mb_u_ne, upd_eq, q_if, q_ifn, if_pos, if_neg, true_and, and_true, if_true, if_false, q_demandArgument0]
    exact h2 z
  have k39 : (1400 ≤ f ∧ f ≤ 2000) → (f ≤ t ∧ t ≤ 2000) → PX7_speak_39 N K KX M7 fB M2 M6 (zI f) (zI t) (zI w) (zI 1) := by
    intro z1 z2
    unfold PX7_speak_39
    simp (disch := omega) only [zI_lit, zI_neg, zI_add, zI_sub, zI_mul, zI_div, q_md, zI_lt, zI_le, zI_eq, zI_clamp, zI_vp, forall_eq, mb_u_eq, mb_u_ne, upd_eq, q_demandArgument1, q_isWithin]
    by_cases z3 : 1 ≤ w ∧ w ≤ 9
    · rw [if_pos z3]
      unfold PX7_speak_68
      by_cases z4 : n < 20
      · unfold PX6_add
        simp (disch := omega) only [zI_lit, zI_neg, zI_add, zI_sub, zI_mul, zI_div, q_md, zI_lt, zI_le, zI_eq, zI_clamp, zI_vp, forall_eq, mb_u_eq, mb_u_ne, upd_eq, q_if, q_ifn, if_pos, if_neg, true_and, and_true, if_true, if_false, q_demandArgument1, q_demandState1, v3]
        refine h0 ⟨z1, z2, z3⟩ z4 _ ?_ ?_ ?_ (m1_set _ _ _)
        · exact mr_ne _ (mr_ne _ (mr_ne _ (mr_app q0 hn.1 (if_pos rfl) (fun k _ k2 => if_neg (by omega))) (by decide)) (by decide)) (by decide)
        · exact mr_ne _ (mr_ne _ (mr_app q1 hn.1 (if_pos rfl) (fun k _ k2 => if_neg (by omega))) (by decide)) (by decide)
        · exact mr_ne _ (mr_app q2 hn.1 (if_pos rfl) (fun k _ k2 => if_neg (by omega))) (by decide)
      · simp (disch := omega) only [zI_lit, zI_neg, zI_add, zI_sub, zI_mul, zI_div, q_md, zI_lt, zI_le, zI_eq, zI_clamp, zI_vp, forall_eq, mb_u_eq, mb_u_ne, upd_eq, q_if, q_ifn, if_pos, if_neg, true_and, and_true, if_true, if_false, q_demandArgument1, q_demandState0, v3]
        exact h3 ⟨z1, z2, z3⟩ z4
    · rw [if_neg z3]
      simp (disch := omega) only [zI_lit, zI_neg, zI_add, zI_sub, zI_mul, zI_div, q_md, zI_lt, zI_le, zI_eq, zI_clamp, zI_vp, forall_eq, mb_u_eq, mb_u_ne, upd_eq, q_demandArgument0]
      exact h2 (fun z => z3 z.2.2)
  simp (disch := omega) only [zI_lit, zI_neg, zI_add, zI_sub, zI_mul, zI_div, q_md, zI_lt, zI_le, zI_eq, zI_clamp, zI_vp, forall_eq, mb_u_eq, mb_u_ne, upd_eq, q_if, q_ifn, if_pos, if_neg, true_and, and_true, if_true, if_false, q_isWithin]
  (repeat' split) <;> first | exact k39 (by omega) (by omega) | exact k38 (fun z => by have := z.1; have := z.2.1; omega)
theorem mm_speak {N : Nat} {m : mb_m} {a1 f t w n nb : Int} {K : Int32 → mb_m → Prop}
    (l1 : -2147483648 ≤ a1) (g1 : a1 < 2147483648) (l2 : -2147483648 ≤ f) (g2 : f < 2147483648) (l3 : -2147483648 ≤ t) (g3 : t < 2147483648) (l4 : -2147483648 ≤ w) (g4 : w < 2147483648)
    (p3 : m1 m 4 nb) (pn : 0 ≤ nb ∧ nb ≤ 4) (hn : 0 ≤ n ∧ n ≤ 20) (w23 : 0 ≤ a1 ∧ a1 < nb → m 23 a1.toNat = zI n)
    (h0 : 0 ≤ a1 ∧ a1 < nb → spO f t w → n < 20 → K (zI (n + 1)) (mb_u (mb_u (mb_u (mb_u (mb_u m 27 (mb_c (zI 0))) 24 (upd (m 24) (20 * a1 + n).toNat (zI f))) 25 (upd (m 25) (20 * a1 + n).toNat (zI t))) 26 (upd (m 26) (20 * a1 + n).toNat (zI w))) 23 (upd (m 23) a1.toNat (zI (n + 1)))))
    (h1 : ¬ (0 ≤ a1 ∧ a1 < nb) → K (zI 0) (mb_u m 27 (mb_c (zI 1)))) (h2 : 0 ≤ a1 ∧ a1 < nb → ¬ spO f t w → K (zI 0) (mb_u m 27 (mb_c (zI 2)))) (h3 : 0 ≤ a1 ∧ a1 < nb → spO f t w → ¬ n < 20 → K (zI 0) (mb_u m 27 (mb_c (zI 3)))) :
    PX8_speak N m (zI a1) (zI f) (zI t) (zI w) K := by
  unfold PX8_speak
  rw [q_isBook l1 g1 p3 pn.1 pn.2]
  by_cases c : 0 ≤ a1 ∧ a1 < nb
  · have w9 := w23 c
    have e21 : ∀ (X : Nat → Int32) (z : Int), (upd X a1.toNat (zI z)) a1.toNat = zI z := fun X z => upd_eq _ _ _
    rw [if_pos (by omega)]
    have k46 : ¬ spO f t w → PX8_speak_46 N K m (zI a1) (zI f) (zI t) (zI w) (zI 1) := by
      intro z
      unfold PX8_speak_46 PX8_speak_47 PX8_speak_73 PX8_speak_83 PX8_speak_84
      simp (disch := omega) only [zI_lit, zI_neg, zI_add, zI_sub, zI_mul, zI_div, q_md, zI_lt, zI_le, zI_eq, zI_clamp, zI_vp, forall_eq, mb_u_eq, mb_u_ne, upd_eq, q_if, q_ifn, if_pos, if_neg, true_and, and_true, if_true, if_false, w9, q_goes10, ite_self]
      exact h2 c z
    have k47 : spO f t w → PX8_speak_47 N K m (zI a1) (zI f) (zI t) (zI w) (zI 1) (zI 1) := by
      intro z
      by_cases z4 : n < 20
      · unfold PX8_speak_47 PX8_speak_73 PX8_speak_83 PX8_speak_84
        simp (disch := omega) only [zI_lit, zI_neg, zI_add, zI_sub, zI_mul, zI_div, q_md, zI_lt, zI_le, zI_eq, zI_clamp, zI_vp, forall_eq, mb_u_eq, mb_u_ne, upd_eq, q_if, q_ifn, if_pos, if_neg, true_and, and_true, if_true, if_false, w9, q_goes111, q_goes110, e21]
        exact h0 c z z4
      · unfold PX8_speak_47 PX8_speak_73 PX8_speak_83 PX8_speak_84
        simp (disch := omega) only [zI_lit, zI_neg, zI_add, zI_sub, zI_mul, zI_div, q_md, zI_lt, zI_le, zI_eq, zI_clamp, zI_vp, forall_eq, mb_u_eq, mb_u_ne, upd_eq, q_if, q_ifn, if_pos, if_neg, true_and, and_true, if_true, if_false, w9, q_goes110]
        exact h3 c z z4
    simp (disch := omega) only [zI_lit, zI_neg, zI_add, zI_sub, zI_mul, zI_div, q_md, zI_lt, zI_le, zI_eq, zI_clamp, zI_vp, forall_eq, mb_u_eq, mb_u_ne, upd_eq, q_if, q_ifn, if_pos, if_neg, true_and, and_true, if_true, if_false, q_in8]
    (repeat' split) <;> first | exact k47 ⟨by omega, by omega, by omega⟩ | exact k46 (fun z => by have := z.1; have := z.2.1; have := z.2.2; omega)
  · rw [if_neg (by omega)]
    unfold PX8_speak_46 PX8_speak_47 PX8_speak_83 PX8_speak_84
    simp (disch := omega) only [zI_lit, zI_neg, zI_add, zI_sub, zI_mul, zI_div, q_md, zI_lt, zI_le, zI_eq, zI_clamp, zI_vp, forall_eq, mb_u_eq, mb_u_ne, upd_eq, q_if, q_ifn, if_pos, if_neg, true_and, and_true, if_true, if_false, q_in8, q_goes0, ite_self]
    exact h1 c
theorem s_speak {N : Nat} {M7 MA : mb_m} {fP fB fK : Nat → Option Nat} {LP : List mb_p} {LB : List mb_k} {LS : List mb_p} {m : mb_m} (hN : 700 ≤ N) (h : Rm (M7, MA, fP, fB, fK, LP, LB, LS) m) (x1 x2 x3 x4 : Int32) :
    BP_speak N M7 MA fP fB fK LP LB LS x1 x2 x3 x4 (fun r b => PX8_speak N m x1 x2 x3 x4 (Qe 0 r b)) (fun E b => (E = eO ∧ PX8_speak N m x1 x2 x3 x4 (Qe 1 0 b)) ∨ (E = eA ∧ PX8_speak N m x1 x2 x3 x4 (Qe 2 0 b)) ∨ (E = eS ∧ PX8_speak N m x1 x2 x3 x4 (Qe 3 0 b))) := by
  obtain ⟨a1, l1, g1, rfl⟩ := zI_ex x1
  obtain ⟨f, l2, g2, rfl⟩ := zI_ex x2
  obtain ⟨t, l3, g3, rfl⟩ := zI_ex x3
  obtain ⟨w, l4, g4, rfl⟩ := zI_ex x4
  obtain ⟨hA, hP, ⟨nb, p1, p2, p3, p5, p6, p7, p8⟩, hSk⟩ := id h
  (try dsimp only at hA hP hSk p2 p5 p6 p7)
  by_cases c : 0 ≤ a1 ∧ a1 < nb
  · obtain ⟨x, x1, x2, x3⟩ := p6 a1.toNat (by omega)
    have hx : LB.take a1.toNat ++ (x.1, x.2.1, x.2.2.1, x.2.2.2.1, x.2.2.2.2.1, x.2.2.2.2.2.1, x.2.2.2.2.2.2.1, x.2.2.2.2.2.2.2.1, x.2.2.2.2.2.2.2.2) :: LB.drop (a1.toNat + 1) = LB := (q_split x1).symm
    obtain ⟨v, mv, rp, vf, vt, vw, kr, kb, km⟩ := id x3
    have w23 : m 23 a1.toNat = zI (v 8) := km.1.2.2.2.2.2.2.2.2
    obtain ⟨r1, r2, r3, r4, r5, r6, r7, r8, r9, r10, r11, r12⟩ := id kr
    refine Or.inl ⟨_, x, _, q_split x1, ?_⟩
    refine b_speak l1 g1 l2 g2 l3 g3 l4 g4 (by omega) x2 r9 kb.2.2.2.1 kb.2.2.2.2.1 kb.2.2.2.2.2.1 kb.2.2.2.2.2.2 (fun z1 z2 M' q0 q1 q2 q3 => ?_) (fun z => ?_) (fun z1 z2 => ?_) <;> (try dsimp only)
    · refine mm_speak l1 g1 l2 g2 l3 g3 l4 g4 p3 (by omega) r9 (fun _ => w23) (fun _ _ _ => ?_) (fun z => absurd c z) (fun _ z => absurd z1 z) (fun _ _ z => absurd z2 z)
      have hf' : mf m (mb_u (mb_u (mb_u (mb_u (mb_u m 27 (mb_c (zI 0))) 24 (upd (m 24) (20 * a1 + v 8).toNat (zI f))) 25 (upd (m 25) (20 * a1 + v 8).toNat (zI t))) 26 (upd (m 26) (20 * a1 + v 8).toNat (zI w))) 23 (upd (m 23) a1.toNat (zI (v 8 + 1)))) [27, 24, 25, 26, 23] := mf_u (mf_u (mf_u (mf_u (mf_u (mf_refl _ _) _ (by decide)) _ (by decide)) _ (by decide)) _ (by decide)) _ (by decide)
      refine ⟨m1_ne _ (m1_ne _ (m1_ne _ (m1_ne _ (m1_set _ _ _) (by decide)) (by decide)) (by decide)) (by decide), fun _ => q3.symm, RA_mf hA hf' (by decide) (by decide), RP_mf hP hf' (by decide) (by decide), ?_, RS_mf hSk hf' (by decide) (by decide)⟩
      refine RB_upd (m := m) p1 p2 (mf_m1 hf' (by decide) p3) p5 p6 p7 p8 x1 (by omega) rfl x2 ?_ (fun j hj hji => ?_)
      · obtain ⟨b4, b5, b6, b7⟩ := kb
        obtain ⟨⟨k1, k2, k3, k4, k5, k6, k7, k8, k9⟩, k10, k11, k12⟩ := km
        refine ⟨kset v 8 (v 8 + 1), mv, rp, fun k => if k = v 8 then f else vf k, fun k => if k = v 8 then t else vt k, fun k => if k = v 8 then w else vw k, ⟨r1, r2, r3, r4, r5, r6, r7, r8, ?_, r10, r11, fun k e1 e2 => ?_⟩, ⟨b4, b5, b6, q0, q1, q2, q3⟩, ⟨k1, k2, k3, k4, k5, k6, k7, k8, ?_⟩, k10, k11, fun k e1 e2 => ?_⟩
        · show 0 ≤ v 8 + 1 ∧ v 8 + 1 ≤ 20
          omega
        · have e2 : k < v 8 + 1 := e2
          (try dsimp only)
          by_cases z : k = v 8
          · rw [if_pos z, if_pos z, if_pos z]; omega
          · rw [if_neg z, if_neg z, if_neg z]; exact r12 k e1 (by omega)
        · rw [mb_u_eq]
          exact if_pos (by omega)
        · have e2 : k < v 8 + 1 := e2
          have hk : ∀ (X : Nat → Int32) (y : Int) (g : Int → Int), (k < v 8 → X (20 * ((a1.toNat : Nat) : Int) + k).toNat = zI (g k)) → upd X (20 * a1 + v 8).toNat (zI y) (20 * ((a1.toNat : Nat) : Int) + k).toNat = zI (if k = v 8 then y else g k) := by
            intro X y g hg
            show (if (20 * ((a1.toNat : Nat) : Int) + k).toNat = (20 * a1 + v 8).toNat then zI y else X _) = _
            by_cases z : k = v 8
            · rw [if_pos (by omega), if_pos z]
            · rw [if_neg (by omega), if_neg z]; exact hg (by omega)
          refine ⟨?_, ?_, ?_⟩
          · rw [mb_u_ne _ _ (by decide), mb_u_ne _ _ (by decide), mb_u_ne _ _ (by decide), mb_u_eq]
            exact hk _ _ _ (fun z => (k12 k e1 z).1)
          · rw [mb_u_ne _ _ (by decide), mb_u_ne _ _ (by decide), mb_u_eq]
            exact hk _ _ _ (fun z => (k12 k e1 z).2.1)
          · rw [mb_u_ne _ _ (by decide), mb_u_eq]
            exact hk _ _ _ (fun z => (k12 k e1 z).2.2)
      · have hj2 : ∀ (X : Nat → Int32) (y : Int32) (k : Int), 0 ≤ k → k < 20 → upd X (20 * a1 + v 8).toNat y (20 * (j : Int) + k).toNat = X (20 * (j : Int) + k).toNat := by
          intro X y k e1 e2
          refine if_neg ?_
          omega
        refine ⟨fun s hs => ?_, fun k e1 e2 => rfl, fun s k hs e1 e2 => ?_⟩
        · by_cases e : s = 23
          · subst e
            rw [mb_u_eq]
            exact if_neg (by omega)
          · rw [mb_u_ne _ _ e, mb_u_ne _ _ (by rintro rfl; revert hs; decide), mb_u_ne _ _ (by rintro rfl; revert hs; decide), mb_u_ne _ _ (by rintro rfl; revert hs; decide), mb_u_ne _ _ (by rintro rfl; revert hs; decide)]
        · have hs' : s = 22 ∨ s = 24 ∨ s = 25 ∨ s = 26 := by revert hs; simp
          rcases hs' with e | e | e | e <;> subst e
          · rfl
          · exact hj2 _ _ k e1 e2
          · exact hj2 _ _ k e1 e2
          · exact hj2 _ _ k e1 e2
    · rw [hx]
      exact Or.inr (Or.inl ⟨rfl, mm_speak l1 g1 l2 g2 l3 g3 l4 g4 p3 (by omega) r9 (fun _ => w23) (fun _ y => absurd y z) (fun y => absurd c y) (fun _ _ => Qe_x h (by decide)) (fun _ y => absurd y z)⟩)
    · rw [hx]
      exact Or.inr (Or.inr ⟨rfl, mm_speak l1 g1 l2 g2 l3 g3 l4 g4 p3 (by omega) r9 (fun _ => w23) (fun _ _ y => absurd y z2) (fun y => absurd c y) (fun _ y => absurd z1 y) (fun _ _ _ => Qe_x h (by decide))⟩)
  · refine Or.inr ?_
    unfold PX7_speak_n
    refine b_off l1 g1 c p7 (Or.inl ⟨rfl, ?_⟩)
    exact mm_speak (n := 0) l1 g1 l2 g2 l3 g3 l4 g4 p3 (by omega) (by omega) (fun z => absurd z c) (fun z => absurd z c) (fun _ => Qe_x h (by decide)) (fun z => absurd z c) (fun z => absurd z c)
abbrev bkO (g l st th : Int) : Prop := (1 ≤ g ∧ g ≤ 8) ∧ (2 ≤ l ∧ l ≤ 16) ∧ (3 ≤ st ∧ st ≤ 6) ∧ 1 ≤ th ∧ th ≤ 9
/-- what a new book of the bench holds -/
def nB (g l th od : Int) : mb_m := mb_u (mb_u (mb_u mb_z 3 (mb_c (zI (g * l)))) 4 (mb_c (zI th))) 5 (mb_c (zI od))
def nS (g st : Int) : mb_m := mb_u (mb_u mb_z 0 (mb_c (zI g))) 1 (mb_c (zI st))
theorem b_book {N : Nat} {M7 : mb_m} {fB : Nat → Option Nat} {nb : Nat} {g l st th od : Int} {K : Int32 → (mb_m × (Nat → Option Nat) × Nat × (Nat → Nat) × (Nat → Nat) × (Nat → Nat) × (Nat → Nat) × mb_m × mb_m × mb_m × mb_m) → Prop} {KX : String → (mb_m × (Nat → Option Nat)) → Prop}
    (l1 : -2147483648 ≤ g ∧ g < 2147483648) (l2 : -2147483648 ≤ l ∧ l < 2147483648) (l3 : -2147483648 ≤ st ∧ st < 2147483648) (l4 : -2147483648 ≤ th ∧ th < 2147483648) (ho : od = 0 ∨ od = 1)
    (p1 : nb ≤ 4) (p2 : m1 M7 5 nb)
    (h0 : bkO g l st th → nb < 4 → ∀ o a b c d, K (zI nb) (mb_u M7 5 (mb_c (zI (nb + 1))), va_up fB nb (some o), o, a, b, c, d, nB g l th od, nS g st, mb_z, mb_z))
    (h1 : ¬ bkO g l st th → KX eA (M7, fB)) (h2 : bkO g l st th → ¬ nb < 4 → KX eS (M7, fB)) : PX7_book N M7 fB (zI g) (zI l) (zI st) (zI th) (zI od) K KX := by
  have v5 : M7 5 0 = zI nb := p2
  have e : ((nb : Int)).toNat = nb := by omega
  have k54 : bkO g l st th → PX7_book_54 N K KX M7 fB (zI g) (zI l) (zI st) (zI th) (zI od) (zI 1) := by
    intro z
    unfold PX7_book_54 PX7_book_70
    by_cases z4 : nb < 4
    · simp (disch := omega) only [zI_lit, zI_neg, zI_add, zI_sub, zI_mul, zI_div, q_md, zI_lt, zI_le, zI_eq, zI_clamp, zI_vp, forall_eq, mb_u_eq, mb_u_ne, upd_eq, q_if, q_ifn, if_pos, if_neg, true_and, and_true, if_true, if_false, q_demandArgument1, q_demandState1, v5]
      intro q
      unfold PX1_init PX3_init PX6_init PX4_init
      intro q5 a9 q16 a20 q32
      refine fun M31 e31 M36 e36 a38 v48 e48 => ⟨by rcases ho with e | e <;> subst e <;> first | exact Or.inl rfl | exact Or.inr rfl, fun M1 e1 => ?_⟩
      subst e31 e36 e48 e1
      intro a b c d
      simp (disch := omega) only [zI_lit, zI_neg, zI_add, zI_sub, zI_mul, zI_div, q_md, zI_lt, zI_le, zI_eq, zI_clamp, zI_vp, forall_eq, mb_u_eq, mb_u_ne, upd_eq, q_if, q_ifn, if_pos, if_neg, true_and, and_true, if_true, if_false, v5, e]
      exact h0 z z4 q a b c d
    · simp (disch := omega) only [zI_lit, zI_neg, zI_add, zI_sub, zI_mul, zI_div, q_md, zI_lt, zI_le, zI_eq, zI_clamp, zI_vp, forall_eq, mb_u_eq, mb_u_ne, upd_eq, q_if, q_ifn, if_pos, if_neg, true_and, and_true, if_true, if_false, q_demandArgument1, q_demandState0, v5]
      exact h2 z z4
  have k53 : ¬ bkO g l st th → PX7_book_53 N K KX M7 fB (zI g) (zI l) (zI st) (zI th) (zI od) := by
    intro z
    unfold PX7_book_53 PX7_book_54
    simp (disch := omega) only [zI_lit, zI_neg, zI_add, zI_sub, zI_mul, zI_div, q_md, zI_lt, zI_le, zI_eq, zI_clamp, zI_vp, forall_eq, mb_u_eq, mb_u_ne, upd_eq, q_if, q_ifn, if_pos, if_neg, true_and, and_true, if_true, if_false, q_demandArgument0]
    exact h1 z
  have k24 : ¬ bkO g l st th → PX7_book_24 N K KX M7 fB (zI g) (zI l) (zI st) (zI th) (zI od) := by
    intro z
    unfold PX7_book_24 PX7_book_25
    simp (disch := omega) only [zI_lit, zI_neg, zI_add, zI_sub, zI_mul, zI_div, q_md, zI_lt, zI_le, zI_eq, zI_clamp, zI_vp, forall_eq, mb_u_eq, mb_u_ne, upd_eq, q_if, q_ifn, if_pos, if_neg, true_and, and_true, if_true, if_false, q_demandArgument0]
    exact h1 z
  unfold PX7_book PX7_book_25
  simp (disch := omega) only [zI_lit, zI_neg, zI_add, zI_sub, zI_mul, zI_div, q_md, zI_lt, zI_le, zI_eq, zI_clamp, zI_vp, forall_eq, mb_u_eq, mb_u_ne, upd_eq, q_if, q_ifn, if_pos, if_neg, true_and, and_true, if_true, if_false, q_isWithin, q_demandArgument1]
  (repeat' split) <;> first | exact k54 ⟨by omega, by omega, by omega, by omega⟩ | exact k53 (fun z => by have := z.1; have := z.2.1; have := z.2.2; omega) | exact k24 (fun z => by have := z.1; have := z.2.1; have := z.2.2; omega)
def mBk (m : mb_m) (nb g l st th od : Int) : mb_m := mb_u (mb_u (mb_u (mb_u (mb_u (mb_u (mb_u m 27 (mb_c (zI 0))) 5 (upd (m 5) nb.toNat (zI g))) 6 (upd (m 6) nb.toNat (zI l))) 7 (upd (m 7) nb.toNat (zI st))) 8 (upd (m 8) nb.toNat (zI th))) 9 (upd (m 9) nb.toNat (zI od))) 4 (mb_c (zI (nb + 1)))
theorem mm_book {N : Nat} {m : mb_m} {nb g l st th od : Int} {K : Int32 → mb_m → Prop}
    (l1 : -2147483648 ≤ g ∧ g < 2147483648) (l2 : -2147483648 ≤ l ∧ l < 2147483648) (l3 : -2147483648 ≤ st ∧ st < 2147483648) (l4 : -2147483648 ≤ th ∧ th < 2147483648) (ho : od = 0 ∨ od = 1)
    (p3 : m1 m 4 nb) (pn : 0 ≤ nb ∧ nb ≤ 4)
    (h0 : bkO g l st th → nb < 4 → K (zI nb) (mBk m nb g l st th od)) (h1 : ¬ bkO g l st th → K (zI 0) (mb_u m 27 (mb_c (zI 1)))) (h2 : bkO g l st th → ¬ nb < 4 → K (zI 0) (mb_u m 27 (mb_c (zI 2)))) :
    PX8_book N m (zI g) (zI l) (zI st) (zI th) (zI od) K := by
  have v4 : m 4 0 = zI nb := p3
  have e : ∀ x : Int, mb_c (zI x) 0 = zI x := fun _ => rfl
  have hb : vp_nar .boolean (zI od) = zI od := mb_nar (by rcases ho with e | e <;> subst e <;> first | exact Or.inl rfl | exact Or.inr rfl)
  have k46 : bkO g l st th → PX8_book_46 N K m (zI g) (zI l) (zI st) (zI th) (zI od) (zI 1) := by
    intro z
    unfold PX8_book_46 PX8_book_64
    by_cases z4 : nb < 4
    · simp (disch := omega) only [zI_lit, zI_neg, zI_add, zI_sub, zI_mul, zI_div, q_md, zI_lt, zI_le, zI_eq, zI_clamp, zI_vp, forall_eq, mb_u_eq, mb_u_ne, upd_eq, q_if, q_ifn, if_pos, if_neg, true_and, and_true, if_true, if_false, v4, q_goes111, hb, e]
      rw [show nb + 1 - 1 = nb by omega]
      exact h0 z z4
    · simp (disch := omega) only [zI_lit, zI_neg, zI_add, zI_sub, zI_mul, zI_div, q_md, zI_lt, zI_le, zI_eq, zI_clamp, zI_vp, forall_eq, mb_u_eq, mb_u_ne, upd_eq, q_if, q_ifn, if_pos, if_neg, true_and, and_true, if_true, if_false, v4, q_goes10]
      exact h2 z z4
  have k45 : ¬ bkO g l st th → PX8_book_45 N K m (zI g) (zI l) (zI st) (zI th) (zI od) := by
    intro z
    unfold PX8_book_45 PX8_book_46 PX8_book_64
    simp (disch := omega) only [zI_lit, zI_neg, zI_add, zI_sub, zI_mul, zI_div, q_md, zI_lt, zI_le, zI_eq, zI_clamp, zI_vp, forall_eq, mb_u_eq, mb_u_ne, upd_eq, q_if, q_ifn, if_pos, if_neg, true_and, and_true, if_true, if_false, v4, q_goes0, ite_self]
    exact h1 z
  unfold PX8_book
  simp (disch := omega) only [zI_lit, zI_neg, zI_add, zI_sub, zI_mul, zI_div, q_md, zI_lt, zI_le, zI_eq, zI_clamp, zI_vp, forall_eq, mb_u_eq, mb_u_ne, upd_eq, q_if, q_ifn, if_pos, if_neg, true_and, and_true, if_true, if_false, q_in8]
  (repeat' split) <;> first | exact k46 ⟨by omega, by omega, by omega, by omega⟩ | exact k45 (fun z => by have := z.1; have := z.2.1; have := z.2.2; omega)
theorem s_book {N : Nat} {M7 MA : mb_m} {fP fB fK : Nat → Option Nat} {LP : List mb_p} {LB : List mb_k} {LS : List mb_p} {m : mb_m} (hN : 700 ≤ N) (h : Rm (M7, MA, fP, fB, fK, LP, LB, LS) m) (x1 x2 x3 x4 x5 : Int32) (hb0 : mb_isB x5) :
    BP_book N M7 MA fP fB fK LP LB LS x1 x2 x3 x4 x5 (fun r b => PX8_book N m x1 x2 x3 x4 x5 (Qe 0 r b)) (fun E b => (E = eA ∧ PX8_book N m x1 x2 x3 x4 x5 (Qe 1 0 b)) ∨ (E = eS ∧ PX8_book N m x1 x2 x3 x4 x5 (Qe 2 0 b))) := by
  obtain ⟨g, l1, g1, rfl⟩ := zI_ex x1
  obtain ⟨l, l2, g2, rfl⟩ := zI_ex x2
  obtain ⟨st, l3, g3, rfl⟩ := zI_ex x3
  obtain ⟨th, l4, g4, rfl⟩ := zI_ex x4
  obtain ⟨od, ho, rfl⟩ : ∃ b : Int, (b = 0 ∨ b = 1) ∧ x5 = zI b := by
    rcases hb0 with e | e
    · exact ⟨0, Or.inl rfl, e⟩
    · exact ⟨1, Or.inr rfl, e⟩
  obtain ⟨hA, hP, ⟨nb, p1, p2, p3, p5, p6, p7, p8⟩, hSk⟩ := id h
  (try dsimp only at hA hP hSk p2 p5 p6 p7)
  unfold BP_book
  refine b_book ⟨l1, g1⟩ ⟨l2, g2⟩ ⟨l3, g3⟩ ⟨l4, g4⟩ ho p1 p2 (fun z z4 o a b c d => ?_) (fun z => Or.inl ⟨rfl, mm_book ⟨l1, g1⟩ ⟨l2, g2⟩ ⟨l3, g3⟩ ⟨l4, g4⟩ ho p3 (by omega) (fun y => absurd y z) (fun _ => Qe_x h (by decide)) (fun y => absurd y z)⟩) (fun z z4 => Or.inr ⟨rfl, mm_book ⟨l1, g1⟩ ⟨l2, g2⟩ ⟨l3, g3⟩ ⟨l4, g4⟩ ho p3 (by omega) (fun _ y => absurd y (by omega)) (fun y => absurd z y) (fun _ _ => Qe_x h (by decide))⟩)
  refine mm_book ⟨l1, g1⟩ ⟨l2, g2⟩ ⟨l3, g3⟩ ⟨l4, g4⟩ ho p3 (by omega) (fun _ _ => ?_) (fun y => absurd z y) (fun _ y => absurd z4 (by omega))
  have hf' : mf m (mBk m nb g l st th od) [27, 5, 6, 7, 8, 9, 4] := mf_u (mf_u (mf_u (mf_u (mf_u (mf_u (mf_u (mf_refl _ _) _ (by decide)) _ (by decide)) _ (by decide)) _ (by decide)) _ (by decide)) _ (by decide)) _ (by decide)
  have f7 : mf M7 (mb_u M7 5 (mb_c (zI (nb + 1)))) [5] := mf_u (mf_refl _ _) _ (by decide)
  refine ⟨by unfold mBk; exact m1_ne _ (m1_ne _ (m1_ne _ (m1_ne _ (m1_ne _ (m1_ne _ (m1_set _ _ _) (by decide)) (by decide)) (by decide)) (by decide)) (by decide)) (by decide), fun _ => rfl, RA_mf hA hf' (by decide) (by decide), RP_mf (RP_7 hP f7 (by decide)) hf' (by decide) (by decide), ?_, RS_mf (RS_7 hSk f7 (by decide)) hf' (by decide) (by decide)⟩
  have hag : ∀ j : Nat, j ≠ nb → Kag m (mBk m nb g l st th od) j := by
    intro j hj
    have hu : ∀ (X : Nat → Int32) (y : Int32), upd X ((nb : Int)).toNat y ((j : Int)).toNat = X ((j : Int)).toNat := fun X y => if_neg (by omega)
    refine ⟨fun s hs => ?_, fun k e1 e2 => rfl, fun s k hs e1 e2 => ?_⟩
    · have hs' : s = 5 ∨ s = 6 ∨ s = 7 ∨ s = 8 ∨ s = 9 ∨ s = 10 ∨ s = 11 ∨ s = 21 ∨ s = 23 := by revert hs; simp
      rcases hs' with e | e | e | e | e | e | e | e | e <;> subst e <;> first | rfl | exact hu _ _
    · have hs' : s = 22 ∨ s = 24 ∨ s = 25 ∨ s = 26 := by revert hs; simp
      rcases hs' with e | e | e | e <;> subst e <;> rfl
  have hz := p8 nb (by omega) z4
  refine ⟨nb + 1, by omega, by rw [Int.natCast_add]; exact m1_set _ _ _, by rw [Int.natCast_add]; exact m1_set _ _ _, by (try dsimp only); rw [List.length_append, p5]; rfl, fun i hi => ?_, fun i hi hi2 => ?_, fun i hi hi2 => ?_⟩
  · (try dsimp only)
    by_cases hh : i = nb
    · subst hh
      refine ⟨_, by rw [← p5]; exact List.getElem?_concat_length, va_up_eq _ _ _, (fun j => if j = 0 then g else if j = 1 then l else if j = 2 then st else if j = 3 then th else if j = 4 then od else 0), fun _ => 0, fun _ => 0, fun _ => 0, fun _ => 0, fun _ => 0, ?_, ?_, ?_⟩
      · refine ⟨z.1, z.2.1, z.2.2.1, z.2.2.2, by (show 0 ≤ od ∧ od ≤ 1); omega, by (show (0 : Int) ≤ 0 ∧ (0 : Int) ≤ 2); omega, by (show (0 : Int) ≤ 0 ∧ (0 : Int) ≤ 200); omega, by (show (0 : Int) ≤ 0 ∧ (0 : Int) ≤ 20); omega, by (show (0 : Int) ≤ 0 ∧ (0 : Int) ≤ 20); omega, fun j hj => absurd hj (Nat.not_lt_zero j), fun k e1 e2 => ?_, fun k e1 e2 => ?_⟩
        · have e2 : k < 0 := e2
          omega
        · have e2 : k < 0 := e2
          omega
      · exact ⟨⟨rfl, rfl, rfl, rfl⟩, ⟨⟨rfl, rfl, rfl⟩, mr_0 _ _ _, fun k _ _ => rfl, fun k _ _ => rfl, rfl, rfl, rfl, rfl⟩, ⟨mr_0 _ _ _, rfl⟩, mr_0 _ _ _, mr_0 _ _ _, mr_0 _ _ _, rfl⟩
      · refine ⟨⟨upd_eq _ _ _, upd_eq _ _ _, upd_eq _ _ _, upd_eq _ _ _, upd_eq _ _ _, ?_, ?_, ?_, ?_⟩, fun k e1 e2 => ?_, fun k e1 e2 => ?_, fun k e1 e2 => ?_⟩
        · exact hz.1
        · exact hz.2.1
        · exact hz.2.2.1
        · exact hz.2.2.2
        · have e2 : k < 0 := e2
          omega
        · have e2 : k < 0 := e2
          omega
        · have e2 : k < 0 := e2
          omega
    · obtain ⟨x, x1, x2, x3⟩ := p6 i (by omega)
      exact ⟨x, by rw [List.getElem?_append_left (by rw [p5]; omega)]; exact x1, by rw [va_up_neq _ _ hh]; exact x2, Kk_ag x3 (hag i hh)⟩
  · (try dsimp only)
    rw [va_up_neq _ _ (by omega)]; exact p7 i (by omega) hi2
  · exact p8 i (by omega) hi2
