theorem mb_nar {x : Int32} (h : mb_isB x) : vp_nar .boolean x = x := by rcases h with h | h <;> subst h <;> rfl
abbrev spO (f t w : Int) : Prop := (1400 ≤ f ∧ f ≤ 2000) ∧ (f ≤ t ∧ t ≤ 2000) ∧ 1 ≤ w ∧ w ≤ 9
theorem b_speak {N : Nat} {M7 M2 M6 : mb_m} {fB : Nat → Option Nat} {o2 : Nat} {a1 f t w n : Int} {vf vt vw : Int → Int} {K : Int32 → (mb_m × (Nat → Option Nat) × mb_m × mb_m) → Prop} {KX : String → (mb_m × (Nat → Option Nat) × mb_m × mb_m) → Prop}
    (l1 : -2147483648 ≤ a1) (g1 : a1 < 2147483648) (l2 : -2147483648 ≤ f) (g2 : f < 2147483648) (l3 : -2147483648 ≤ t) (g3 : t < 2147483648) (l4 : -2147483648 ≤ w) (g4 : w < 2147483648)
    (h : 0 ≤ a1 ∧ a1 ≤ 3) (hf : fB a1.toNat = some o2) (hn : 0 ≤ n ∧ n ≤ 20) (q0 : mr M6 0 vf n) (q1 : mr M6 1 vt n) (q2 : mr M6 2 vw n) (q3 : m1 M6 3 n)
    (h0 : spO f t w → n < 20 → ∀ M', mr M' 0 (fun k => if k = n then f else vf k) (n + 1) → mr M' 1 (fun k => if k = n then t else vt k) (n + 1) → mr M' 2 (fun k => if k = n then w else vw k) (n + 1) → m1 M' 3 (n + 1) → K (M' 3 0) (M7, fB, M2, M'))
    (h2 : ¬ spO f t w → KX eA (M7, fB, M2, M6)) (h3 : spO f t w → ¬ n < 20 → KX eS (M7, fB, M2, M6)) : PX7_speak N M7 fB o2 M2 M6 (zI a1) (zI f) (zI t) (zI w) K KX := by
  have v3 : M6 3 0 = zI n := q3
  unfold PX7_speak
  refine b_on l1 g1 h hf ⟨rfl, ?_⟩
  (try dsimp only)
  have k38 : ¬ spO f t w → PX7_speak_38 N K KX M7 fB M2 M6 (zI f) (zI t) (zI w) := by
    intro z
    unfold PX7_speak_38 PX7_speak_39
    simp (disch := omega) only [zI_lit, zI_neg, zI_add, zI_sub, zI_mul, zI_div, q_md, zI_lt, zI_le, zI_eq, zI_clamp, zI_vp, forall_eq, mb_u_eq, mb_u_ne, upd_eq, q_if, q_ifn, if_pos, if_neg, true_and, and_true, if_true, if_false, q_demandArgument0]
    exact h2 z
  have k39 : (1400 ≤ f ∧ f ≤ 2000) → (f ≤ t ∧ t ≤ 2000) → PX7_speak_39 N K KX M7 fB M2 M6 (zI f) (zI t) (zI w) (zI 1) := by
    intro z1 z2
    unfold PX7_speak_39
    simp (disch := omega) only [zI_lit, zI_neg, zI_add, zI_sub, zI_mul, zI_div, q_md, zI_lt, zI_le, zI_eq, zI_clamp, zI_vp, forall_eq, mb_u_eq, mb_u_ne, upd_eq, q_demandArgument1, q_isWithin]
    by_cases z3 : 1 ≤ w ∧ w ≤ 9
    · rw [if_pos z3]
      unfold PX7_speak_68
      by_cases z4 : n < 20
      · unfold PX6_add
        simp (disch := omega) only [zI_lit, zI_neg, zI_add, zI_sub, zI_mul, zI_div, q_md, zI_lt, zI_le, zI_eq, zI_clamp, zI_vp, forall_eq, mb_u_eq, mb_u_ne, upd_eq, q_if, q_ifn, if_pos, if_neg, true_and, and_true, if_true, if_false, q_demandArgument1, q_demandState1, v3]
        refine h0 ⟨z1, z2, z3⟩ z4 _ ?_ ?_ ?_ (m1_set _ _ _)
        · exact mr_ne _ (mr_ne _ (mr_ne _ (mr_app q0 hn.1 (if_pos rfl) (fun k _ k2 => if_neg (by omega))) (by decide)) (by decide)) (by decide)
        · exact mr_ne _ (mr_ne _ (mr_app q1 hn.1 (if_pos rfl) (fun k _ k2 => if_neg (by omega))) (by decide)) (by decide)
        · exact mr_ne _ (mr_app q2 hn.1 (if_pos rfl) (fun k _ k2 => if_neg (by omega))) (by decide)
      · simp (disch := omega) only [zI_lit, zI_neg, zI_add, zI_sub, zI_mul, zI_div, q_md, zI_lt, zI_le, zI_eq, zI_clamp, zI_vp, forall_eq, mb_u_eq, mb_u_ne, upd_eq, q_if, q_ifn, if_pos, if_neg, true_and, and_true, if_true, if_false, q_demandArgument1, q_demandState0, v3]
        exact h3 ⟨z1, z2, z3⟩ z4
    · rw [if_neg z3]
      simp (disch := omega) only [zI_lit, zI_neg, zI_add, zI_sub, zI_mul, zI_div, q_md, zI_lt, zI_le, zI_eq, zI_clamp, zI_vp, forall_eq, mb_u_eq, mb_u_ne, upd_eq, q_demandArgument0]
      exact h2 (fun z => z3 z.2.2)
  simp (disch := omega) only [zI_lit, zI_neg, zI_add, zI_sub, zI_mul, zI_div, q_md, zI_lt, zI_le, zI_eq, zI_clamp, zI_vp, forall_eq, mb_u_eq, mb_u_ne, upd_eq, q_if, q_ifn, if_pos, if_neg, true_and, and_true, if_true, if_false, q_isWithin]
  (repeat' split) <;> first | exact k39 (by omega) (by omega) | exact k38 (fun z => by have := z.1; have := z.2.1; omega)
abbrev bkO (g l st th : Int) : Prop := (1 ≤ g ∧ g ≤ 8) ∧ (2 ≤ l ∧ l ≤ 16) ∧ (3 ≤ st ∧ st ≤ 6) ∧ 1 ≤ th ∧ th ≤ 9
/-- what a new book of the bench holds -/
def nB (g l th od : Int) : mb_m := mb_u (mb_u (mb_u mb_z 3 (mb_c (zI (g * l)))) 4 (mb_c (zI th))) 5 (mb_c (zI od))
def nS (g st : Int) : mb_m := mb_u (mb_u mb_z 0 (mb_c (zI g))) 1 (mb_c (zI st))
theorem b_book {N : Nat} {M7 : mb_m} {fB : Nat → Option Nat} {nb : Nat} {g l st th od : Int} {K : Int32 → (mb_m × (Nat → Option Nat) × Nat × (Nat → Nat) × (Nat → Nat) × (Nat → Nat) × (Nat → Nat) × mb_m × mb_m × mb_m × mb_m) → Prop} {KX : String → (mb_m × (Nat → Option Nat)) → Prop}
    (l1 : -2147483648 ≤ g ∧ g < 2147483648) (l2 : -2147483648 ≤ l ∧ l < 2147483648) (l3 : -2147483648 ≤ st ∧ st < 2147483648) (l4 : -2147483648 ≤ th ∧ th < 2147483648) (ho : od = 0 ∨ od = 1)
    (p1 : nb ≤ 4) (p2 : m1 M7 5 nb)
    (h0 : bkO g l st th → nb < 4 → ∀ o a b c d, K (zI nb) (mb_u M7 5 (mb_c (zI (nb + 1))), va_up fB nb (some o), o, a, b, c, d, nB g l th od, nS g st, mb_z, mb_z))
    (h1 : ¬ bkO g l st th → KX eA (M7, fB)) (h2 : bkO g l st th → ¬ nb < 4 → KX eS (M7, fB)) : PX7_book N M7 fB (zI g) (zI l) (zI st) (zI th) (zI od) K KX := by
  have v5 : M7 5 0 = zI nb := p2
  have e : ((nb : Int)).toNat = nb := by omega
  have k54 : bkO g l st th → PX7_book_54 N K KX M7 fB (zI g) (zI l) (zI st) (zI th) (zI od) (zI 1) := by
    intro z
    unfold PX7_book_54 PX7_book_70
    by_cases z4 : nb < 4
    · simp (disch := omega) only [zI_lit, zI_neg, zI_add, zI_sub, zI_mul, zI_div, q_md, zI_lt, zI_le, zI_eq, zI_clamp, zI_vp, forall_eq, mb_u_eq, mb_u_ne, upd_eq, q_if, q_ifn, if_pos, if_neg, true_and, and_true, if_true, if_false, q_demandArgument1, q_demandState1, v5]
      intro q
      unfold PX1_init PX3_init PX6_init PX4_init
      intro q5 a9 q16 a20 q32
      refine fun M31 e31 M36 e36 a38 v48 e48 => ⟨by rcases ho with e | e <;> subst e <;> first | exact Or.inl rfl | exact Or.inr rfl, fun M1 e1 => ?_⟩
      subst e31 e36 e48 e1
      intro a b c d
      simp (disch := omega) only [zI_lit, zI_neg, zI_add, zI_sub, zI_mul, zI_div, q_md, zI_lt, zI_le, zI_eq, zI_clamp, zI_vp, forall_eq, mb_u_eq, mb_u_ne, upd_eq, q_if, q_ifn, if_pos, if_neg, true_and, and_true, if_true, if_false, v5, e]
      exact h0 z z4 q a b c d
    · simp (disch := omega) only [zI_lit, zI_neg, zI_add, zI_sub, zI_mul, zI_div, q_md, zI_lt, zI_le, zI_eq, zI_clamp, zI_vp, forall_eq, mb_u_eq, mb_u_ne, upd_eq, q_if, q_ifn, if_pos, if_neg, true_and, and_true, if_true, if_false, q_demandArgument1, q_demandState0, v5]
      exact h2 z z4
  have k53 : ¬ bkO g l st th → PX7_book_53 N K KX M7 fB (zI g) (zI l) (zI st) (zI th) (zI od) := by
    intro z
    unfold PX7_book_53 PX7_book_54
    simp (disch := omega) only [zI_lit, zI_neg, zI_add, zI_sub, zI_mul, zI_div, q_md, zI_lt, zI_le, zI_eq, zI_clamp, zI_vp, forall_eq, mb_u_eq, mb_u_ne, upd_eq, q_if, q_ifn, if_pos, if_neg, true_and, and_true, if_true, if_false, q_demandArgument0]
    exact h1 z
  have k24 : ¬ bkO g l st th → PX7_book_24 N K KX M7 fB (zI g) (zI l) (zI st) (zI th) (zI od) := by
    intro z
    unfold PX7_book_24 PX7_book_25
    simp (disch := omega) only [zI_lit, zI_neg, zI_add, zI_sub, zI_mul, zI_div, q_md, zI_lt, zI_le, zI_eq, zI_clamp, zI_vp, forall_eq, mb_u_eq, mb_u_ne, upd_eq, q_if, q_ifn, if_pos, if_neg, true_and, and_true, if_true, if_false, q_demandArgument0]
    exact h1 z
  unfold PX7_book PX7_book_25
  simp (disch := omega) only [zI_lit, zI_neg, zI_add, zI_sub, zI_mul, zI_div, q_md, zI_lt, zI_le, zI_eq, zI_clamp, zI_vp, forall_eq, mb_u_eq, mb_u_ne, upd_eq, q_if, q_ifn, if_pos, if_neg, true_and, and_true, if_true, if_false, q_isWithin, q_demandArgument1]
  (repeat' split) <;> first | exact k54 ⟨by omega, by omega, by omega, by omega⟩ | exact k53 (fun z => by have := z.1; have := z.2.1; have := z.2.2; omega) | exact k24 (fun z => by have := z.1; have := z.2.1; have := z.2.2; omega)
def mBk (m : mb_m) (nb g l st th od : Int) : mb_m := mb_u (mb_u (mb_u (mb_u (mb_u (mb_u (mb_u m 27 (mb_c (zI 0))) 5 (upd (m 5) nb.toNat (zI g))) 6 (upd (m 6) nb.toNat (zI l))) 7 (upd (m 7) nb.toNat (zI st))) 8 (upd (m 8) nb.toNat (zI th))) 9 (upd (m 9) nb.toNat (zI od))) 4 (mb_c (zI (nb + 1)))

