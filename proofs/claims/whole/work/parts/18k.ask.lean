/-- a question answered after the thread was gone through -/
theorem Qe_q {b : mb_bs} {m M' : mb_m} {r v : Int32} (h : Rm b m) (hf : mf (mb_u m 27 (mb_c (zI 0))) M' scr) (hv : v = r) : Qe 0 r b v M' := by
  refine ⟨mf_m1 hf (by decide) (m1_set _ _ _), fun _ => hv, Rm_scr h ?_⟩
  exact mf_tr (mf_u (mf_refl _ _) _ (by decide)) (mf_mono hf (by decide))
theorem m_fol {N : Nat} {m : mb_m} {a : Int} {v : kN} {mw rp vf vt vw : Int → Int} {K : mb_m → Prop} (hN : 700 ≤ N) (ha : 0 ≤ a ∧ a < 4) (kr : Kr v mw rp vf vt vw) (km : Km m a v mw rp vf vt vw)
    (hK : ∀ m', mf (mb_u m 27 (mb_c (zI 0))) m' scr → Tm m' (tr mw (v 6).toNat) → Km m' a v mw rp vf vt vw → K m') : PX8_follows N (mb_u m 27 (mb_c (zI 0))) (zI a) K := by
  obtain ⟨r1, r2, r3, r4, r5, r6, r7, r8, r9, r10, r11, r12⟩ := id kr
  obtain ⟨⟨q1, q2, q3, q4, q5, q6, q7, q8, q9⟩, q10, q11, q12⟩ := id km
  have en : (((v 6).toNat : Nat) : Int) = v 6 := by omega
  refine m_follows (g := v 0) (st := v 2) (n := (v 6).toNat) (mv := mw) hN ha r1 r3 (by omega) (by rw [en, mb_u_ne _ _ (by decide)]; exact q7) (fun k h1 h2 => by rw [mb_u_ne _ _ (by decide)]; exact q10 k h1 (by omega)) r10 (fun m' hf ht => hK m' hf ht ?_)
  exact Km_ag km kr (mf_ag (l := [13, 14, 15, 16, 17, 18, 27]) (mf_tr (mf_u (mf_refl _ _) _ (by decide)) (mf_mono hf (by decide))) (by decide) a)
theorem s_ofThread {N : Nat} {M7 MA : mb_m} {fP fB fK : Nat → Option Nat} {LP : List mb_p} {LB : List mb_k} {LS : List mb_p} {m : mb_m} (hN : 700 ≤ N) (h : Rm (M7, MA, fP, fB, fK, LP, LB, LS) m) (x1 x2 : Int32) :
    BP_ofThread N M7 MA fP fB fK LP LB LS x1 x2 (fun r b => PX8_ofThread N m x1 x2 (Qe 0 r b)) (fun E b => (E = eO ∧ PX8_ofThread N m x1 x2 (Qe 1 0 b)) ∨ (E = eA ∧ PX8_ofThread N m x1 x2 (Qe 2 0 b))) := by
  obtain ⟨a1, l1, g1, rfl⟩ := zI_ex x1
  obtain ⟨a2, l2, g2, rfl⟩ := zI_ex x2
  obtain ⟨hA, hP, ⟨nb, p1, p2, p3, p5, p6, p7, p8⟩, hSk⟩ := id h
  (try dsimp only at hA hP hSk p2 p5 p6 p7)
  by_cases c : 0 ≤ a1 ∧ a1 < nb
  · obtain ⟨x, x1, x2, x3⟩ := p6 a1.toNat (by omega)
    have hx : LB.take a1.toNat ++ (x.1, x.2.1, x.2.2.1, x.2.2.2.1, x.2.2.2.2.1, x.2.2.2.2.2.1, x.2.2.2.2.2.2.1, x.2.2.2.2.2.2.2.1, x.2.2.2.2.2.2.2.2) :: LB.drop (a1.toNat + 1) = LB := (q_split x1).symm
    obtain ⟨v, mv, rp, vf, vt, vw, kr, kb, km⟩ := id x3
    rw [show ((a1.toNat : Nat) : Int) = a1 by omega] at km
    obtain ⟨r1, r2, r3, r4, r5, r6, r7, r8, r9, r10, r11, r12⟩ := id kr
    obtain ⟨b4, ⟨⟨s0, s1, s5⟩, s4, sb⟩, b6⟩ := id kb
    have en : (((v 6).toNat : Nat) : Int) = v 6 := by omega
    have hrg := tr_rng r1.1 r3.1 r10
    rw [en] at hrg
    have w5 : x.2.2.2.2.2.2.1 5 0 = zI (v 6) := s5
    have w9 : x.2.2.2.2.2.2.1 9 0 = zI (tr mv (v 6).toNat).2.2.1 := sb.2.2.1
    have w6 : x.2.2.2.2.2.2.1 6 0 = zI (tr mv (v 6).toNat).2.2.2.1 := sb.2.2.2.1
    have w7 : x.2.2.2.2.2.2.1 7 0 = zI (tr mv (v 6).toNat).2.2.2.2.1 := sb.2.2.2.2.1
    have w8 : x.2.2.2.2.2.2.1 8 0 = zI (tr mv (v 6).toNat).2.2.2.2.2 := sb.2.2.2.2.2
    refine Or.inl ⟨_, x, _, q_split x1, ?_⟩
    unfold PX7_ofThread
    refine b_on l1 g1 (by omega) x2 ?_
    (try dsimp only)
    simp (disch := omega) only [zI_lit, zI_neg, zI_add, zI_sub, zI_mul, zI_div, q_md, zI_lt, zI_le, zI_eq, zI_clamp, zI_vp, forall_eq, mb_u_eq, mb_u_ne, upd_eq, q_isWithin]
    by_cases c2 : 0 ≤ a2 ∧ a2 ≤ 5
    · rw [if_pos c2]
      -- the model's answer
      have hm : ∀ r : Int, (a2 = 0 → r = (tr mv (v 6).toNat).2.2.1) → (a2 = 1 → r = (tr mv (v 6).toNat).2.2.2.1) → (a2 = 2 → r = (tr mv (v 6).toNat).2.2.2.2.1) → (a2 = 3 → r = (tr mv (v 6).toNat).2.2.2.2.2) → (a2 = 4 → r = v 6) → (a2 = 5 → (swn (v 0) (v 2) (tr mv (v 6).toNat) → r = 1) ∧ (¬ swn (v 0) (v 2) (tr mv (v 6).toNat) → r = 0)) → PX8_ofThread N m (zI a1) (zI a2) (Qe 0 (zI r) (M7, MA, fP, fB, fK, LP, LB, LS)) := by
        intro r e0 e1 e2 e3 e4 e5
        unfold PX8_ofThread
        simp (disch := omega) only [zI_lit, zI_neg, zI_add, zI_sub, zI_mul, zI_div, q_md, zI_lt, zI_le, zI_eq, zI_clamp, zI_vp, forall_eq, mb_u_eq, mb_u_ne, upd_eq, q_isBook l1 g1 p3, q_in8]
        rw [if_pos (by omega), if_pos c2]
        simp (disch := omega) only [zI_lit, zI_neg, zI_add, zI_sub, zI_mul, zI_div, q_md, zI_lt, zI_le, zI_eq, zI_clamp, zI_vp, forall_eq, mb_u_eq, mb_u_ne, upd_eq, q_if, q_ifn, if_pos, if_neg, true_and, and_true, if_true, if_false, q_goes111]
        refine m_fol hN (by omega) kr km (fun M' hf ht km' => ?_)
        obtain ⟨t13, t14, t15, t16, t17, t18⟩ := id ht
        have u15 : M' 15 0 = zI (tr mv (v 6).toNat).2.2.1 := t15
        have u16 : M' 16 0 = zI (tr mv (v 6).toNat).2.2.2.1 := t16
        have u17 : M' 17 0 = zI (tr mv (v 6).toNat).2.2.2.2.1 := t17
        have u18 : M' 18 0 = zI (tr mv (v 6).toNat).2.2.2.2.2 := t18
        have u11 : M' 11 a1.toNat = zI (v 6) := km'.1.2.2.2.2.2.2.1
        have hq : ∀ y : Int, r = y → Qe 0 (zI r) (M7, MA, fP, fB, fK, LP, LB, LS) (zI y) M' := fun y e => Qe_q h hf (by rw [e])
        have hrg' := hrg
        obtain ⟨a1', a2', a3', a4', a5', a6', a7', a8', a9', a10'⟩ := hrg'
        have : a2 = 0 ∨ a2 = 1 ∨ a2 = 2 ∨ a2 = 3 ∨ a2 = 4 ∨ a2 = 5 := by omega
        rcases this with rfl | rfl | rfl | rfl | rfl | rfl
        · simp (disch := omega) only [zI_lit, zI_neg, zI_add, zI_sub, zI_mul, zI_div, q_md, zI_lt, zI_le, zI_eq, zI_clamp, zI_vp, forall_eq, mb_u_eq, mb_u_ne, upd_eq, q_if, q_ifn, if_pos, if_neg, true_and, and_true, if_true, if_false, u15]
          exact hq _ (e0 rfl)
        · simp (disch := omega) only [zI_lit, zI_neg, zI_add, zI_sub, zI_mul, zI_div, q_md, zI_lt, zI_le, zI_eq, zI_clamp, zI_vp, forall_eq, mb_u_eq, mb_u_ne, upd_eq, q_if, q_ifn, if_pos, if_neg, true_and, and_true, if_true, if_false, u16]
          exact hq _ (e1 rfl)
        · simp (disch := omega) only [zI_lit, zI_neg, zI_add, zI_sub, zI_mul, zI_div, q_md, zI_lt, zI_le, zI_eq, zI_clamp, zI_vp, forall_eq, mb_u_eq, mb_u_ne, upd_eq, q_if, q_ifn, if_pos, if_neg, true_and, and_true, if_true, if_false, u17]
          exact hq _ (e2 rfl)
        · simp (disch := omega) only [zI_lit, zI_neg, zI_add, zI_sub, zI_mul, zI_div, q_md, zI_lt, zI_le, zI_eq, zI_clamp, zI_vp, forall_eq, mb_u_eq, mb_u_ne, upd_eq, q_if, q_ifn, if_pos, if_neg, true_and, and_true, if_true, if_false, u18]
          split
          · exact hq _ (by have := e3 rfl; omega)
          · exact hq _ (by have := e3 rfl; omega)
        · simp (disch := omega) only [zI_lit, zI_neg, zI_add, zI_sub, zI_mul, zI_div, q_md, zI_lt, zI_le, zI_eq, zI_clamp, zI_vp, forall_eq, mb_u_eq, mb_u_ne, upd_eq, q_if, q_ifn, if_pos, if_neg, true_and, and_true, if_true, if_false, u11]
          exact hq _ (e4 rfl)
        · simp (disch := omega) only [zI_lit, zI_neg, zI_add, zI_sub, zI_mul, zI_div, q_md, zI_lt, zI_le, zI_eq, zI_clamp, zI_vp, forall_eq, mb_u_eq, mb_u_ne, upd_eq, q_if, q_ifn, if_pos, if_neg, true_and, and_true, if_true, if_false]
          refine m_isSewn hN (by omega) ht hrg r7 r1 r3 km'.1.1 km'.1.2.2.1 (fun z => ?_) (fun z => ?_)
          · simp (disch := omega) only [zI_lit, zI_neg, zI_add, zI_sub, zI_mul, zI_div, q_md, zI_lt, zI_le, zI_eq, zI_clamp, zI_vp, forall_eq, mb_u_eq, mb_u_ne, upd_eq, q_if, q_ifn, if_pos, if_neg, true_and, and_true, if_true, if_false]
            exact hq _ ((e5 rfl).1 z)
          · simp (disch := omega) only [zI_lit, zI_neg, zI_add, zI_sub, zI_mul, zI_div, q_md, zI_lt, zI_le, zI_eq, zI_clamp, zI_vp, forall_eq, mb_u_eq, mb_u_ne, upd_eq, q_if, q_ifn, if_pos, if_neg, true_and, and_true, if_true, if_false]
            exact hq _ ((e5 rfl).2 z)
      have hti : (zI a2).toInt = a2 := zI_ti (by omega) (by omega)
      have hrg' := hrg
      obtain ⟨a1', a2', a3', a4', a5', a6', a7', a8', a9', a10'⟩ := hrg'
      simp (disch := omega) only [zI_lit, zI_neg, zI_add, zI_sub, zI_mul, zI_div, q_md, zI_lt, zI_le, zI_eq, zI_clamp, zI_vp, forall_eq, mb_u_eq, mb_u_ne, upd_eq, q_if, q_ifn, if_pos, if_neg, true_and, and_true, if_true, if_false, q_demandArgument1, hti, w9, w6, w7, w8, w5]
      refine ⟨fun z => ?_, fun z => ?_, fun z => ?_, fun z => ?_, fun z => ?_, fun z => ?_⟩
      · refine e_isSewn hN sb hrg r7 r1 r3 s0 s1 (fun y => ?_) (fun y => ?_)
        · simp (disch := omega) only [zI_lit, zI_neg, zI_add, zI_sub, zI_mul, zI_div, q_md, zI_lt, zI_le, zI_eq, zI_clamp, zI_vp, forall_eq, mb_u_eq, mb_u_ne, upd_eq, q_if, q_ifn, if_pos, if_neg, true_and, and_true, if_true, if_false]
          rw [hx]
          exact hm 1 (by omega) (by omega) (by omega) (by omega) (by omega) (fun _ => ⟨fun _ => rfl, fun z => absurd y z⟩)
        · simp (disch := omega) only [zI_lit, zI_neg, zI_add, zI_sub, zI_mul, zI_div, q_md, zI_lt, zI_le, zI_eq, zI_clamp, zI_vp, forall_eq, mb_u_eq, mb_u_ne, upd_eq, q_if, q_ifn, if_pos, if_neg, true_and, and_true, if_true, if_false]
          rw [hx]
          exact hm 0 (by omega) (by omega) (by omega) (by omega) (by omega) (fun _ => ⟨fun z => absurd z y, fun _ => rfl⟩)
      · rw [hx]; exact hm _ (fun _ => rfl) (by omega) (by omega) (by omega) (by omega) (fun z => absurd z (by omega))
      · rw [hx]; exact hm _ (by omega) (fun _ => rfl) (by omega) (by omega) (by omega) (fun z => absurd z (by omega))
      · rw [hx]; exact hm _ (by omega) (by omega) (fun _ => rfl) (by omega) (by omega) (fun z => absurd z (by omega))
      · split
        · rw [hx]; exact hm _ (by omega) (by omega) (by omega) (by omega) (by omega) (fun z => absurd z (by omega))
        · rw [hx]; exact hm _ (by omega) (by omega) (by omega) (by omega) (by omega) (fun z => absurd z (by omega))
      · rw [hx]; exact hm _ (by omega) (by omega) (by omega) (by omega) (fun _ => rfl) (fun z => absurd z (by omega))
    · rw [if_neg c2]
      simp (disch := omega) only [zI_lit, zI_neg, zI_add, zI_sub, zI_mul, zI_div, q_md, zI_lt, zI_le, zI_eq, zI_clamp, zI_vp, forall_eq, mb_u_eq, mb_u_ne, upd_eq, q_if, q_ifn, if_pos, if_neg, true_and, and_true, if_true, if_false, q_demandArgument0]
      rw [hx]
      refine Or.inr ⟨rfl, ?_⟩
      unfold PX8_ofThread
      simp (disch := omega) only [zI_lit, zI_neg, zI_add, zI_sub, zI_mul, zI_div, q_md, zI_lt, zI_le, zI_eq, zI_clamp, zI_vp, forall_eq, mb_u_eq, mb_u_ne, upd_eq, q_isBook l1 g1 p3, q_in8]
      rw [if_pos (by omega), if_neg c2]
      simp (disch := omega) only [zI_lit, zI_neg, zI_add, zI_sub, zI_mul, zI_div, q_md, zI_lt, zI_le, zI_eq, zI_clamp, zI_vp, forall_eq, mb_u_eq, mb_u_ne, upd_eq, q_if, q_ifn, if_pos, if_neg, true_and, and_true, if_true, if_false, q_goes10]
      exact Qe_x h (by decide)
  · refine Or.inr ?_
    unfold PX7_ofThread_n
    refine b_off l1 g1 c p7 (Or.inl ⟨rfl, ?_⟩)
    unfold PX8_ofThread
    simp (disch := omega) only [zI_lit, zI_neg, zI_add, zI_sub, zI_mul, zI_div, q_md, zI_lt, zI_le, zI_eq, zI_clamp, zI_vp, forall_eq, mb_u_eq, mb_u_ne, upd_eq, q_isBook l1 g1 p3, q_in8]
    rw [if_neg (by omega)]
    split
    · rw [q_goes0]
      simp (disch := omega) only [zI_lit, zI_neg, zI_add, zI_sub, zI_mul, zI_div, q_md, zI_lt, zI_le, zI_eq, zI_clamp, zI_vp, forall_eq, mb_u_eq, mb_u_ne, upd_eq, q_if, q_ifn, if_pos, if_neg, true_and, and_true, if_true, if_false]
      exact Qe_x h (by decide)
    · rw [q_goes0]
      simp (disch := omega) only [zI_lit, zI_neg, zI_add, zI_sub, zI_mul, zI_div, q_md, zI_lt, zI_le, zI_eq, zI_clamp, zI_vp, forall_eq, mb_u_eq, mb_u_ne, upd_eq, q_if, q_ifn, if_pos, if_neg, true_and, and_true, if_true, if_false]
      exact Qe_x h (by decide)
theorem q_isGathering {N : Nat} {m : mb_m} {a b nb : Int} {v : kN} {mw rp vf vt vw : Int → Int} {K : Int32 → mb_m → Prop} (hb : m1 m 4 nb) (hnb : nb ≤ 4) (ha : 0 ≤ a ∧ a < nb) (l : -2147483648 ≤ b) (g : b < 2147483648) (kr : Kr v mw rp vf vt vw) (km : Km m a v mw rp vf vt vw) :
    PX8_isGathering N m (zI a) (zI b) K = if 0 ≤ b ∧ b ≤ v 0 - 1 then K (zI 1) m else K (zI 0) m := by
  have w5 : m 5 a.toNat = zI (v 0) := km.1.1
  have := kr.1
  unfold PX8_isGathering PX8_isGathering_27
  simp (disch := omega) only [zI_lit, zI_neg, zI_add, zI_sub, zI_mul, zI_div, q_md, zI_lt, zI_le, zI_eq, zI_clamp, zI_vp, forall_eq, mb_u_eq, mb_u_ne, upd_eq, q_if, q_ifn, if_pos, if_neg, true_and, and_true, if_true, if_false, q_isBook (by omega : -2147483648 ≤ a) (by omega : a < 2147483648) hb, w5, q_in8]
theorem q_isGathering0 {N : Nat} {m : mb_m} {a b nb : Int} {K : Int32 → mb_m → Prop} (hb : m1 m 4 nb) (h0 : 0 ≤ nb) (hnb : nb ≤ 4) (l1 : -2147483648 ≤ a) (g1 : a < 2147483648) (ha : ¬ (0 ≤ a ∧ a < nb)) :
    PX8_isGathering N m (zI a) (zI b) K = K (zI 0) m := by
  unfold PX8_isGathering
  simp (disch := omega) only [zI_lit, zI_neg, zI_add, zI_sub, zI_mul, zI_div, q_md, zI_lt, zI_le, zI_eq, zI_clamp, zI_vp, forall_eq, mb_u_eq, mb_u_ne, upd_eq, q_if, q_ifn, if_pos, if_neg, true_and, and_true, if_true, if_false, q_isBook l1 g1 hb]
theorem s_isHeld {N : Nat} {M7 MA : mb_m} {fP fB fK : Nat → Option Nat} {LP : List mb_p} {LB : List mb_k} {LS : List mb_p} {m : mb_m} (hN : 700 ≤ N) (h : Rm (M7, MA, fP, fB, fK, LP, LB, LS) m) (x1 x2 : Int32) :
    BP_isHeld N M7 MA fP fB fK LP LB LS x1 x2 (fun r b => mb_isB r ∧ PX8_isHeld N m x1 x2 (Qe 0 r b)) (fun E b => (E = eO ∧ PX8_isHeld N m x1 x2 (Qe 1 0 b))) := by
  obtain ⟨a1, l1, g1, rfl⟩ := zI_ex x1
  obtain ⟨a2, l2, g2, rfl⟩ := zI_ex x2
  obtain ⟨hA, hP, ⟨nb, p1, p2, p3, p5, p6, p7, p8⟩, hSk⟩ := id h
  (try dsimp only at hA hP hSk p2 p5 p6 p7)
  by_cases c : 0 ≤ a1 ∧ a1 < nb
  · obtain ⟨x, x1, x2, x3⟩ := p6 a1.toNat (by omega)
    have hx : LB.take a1.toNat ++ (x.1, x.2.1, x.2.2.1, x.2.2.2.1, x.2.2.2.2.1, x.2.2.2.2.2.1, x.2.2.2.2.2.2.1, x.2.2.2.2.2.2.2.1, x.2.2.2.2.2.2.2.2) :: LB.drop (a1.toNat + 1) = LB := (q_split x1).symm
    obtain ⟨v, mv, rp, vf, vt, vw, kr, kb, km⟩ := id x3
    rw [show ((a1.toNat : Nat) : Int) = a1 by omega] at km
    obtain ⟨r1, r2, r3, r4, r5, r6, r7, r8, r9, r10, r11, r12⟩ := id kr
    obtain ⟨b4, ⟨⟨s0, s1, s5⟩, s4, sb⟩, b6⟩ := id kb
    have en : (((v 6).toNat : Nat) : Int) = v 6 := by omega
    have hrg := tr_rng r1.1 r3.1 r10
    rw [en] at hrg
    have w0 : x.2.2.2.2.2.2.1 0 0 = zI (v 0) := s0
    have hf9 : ∀ k, 0 ≤ (tr mv (v 6).toNat).1 k ∧ (tr mv (v 6).toNat).1 k ≤ 200 := fun k => by have := hrg.2.2.2.2.2.2.2.2.1 k; omega
    refine Or.inl ⟨_, x, _, q_split x1, ?_⟩
    unfold PX7_isHeld
    refine b_on l1 g1 (by omega) x2 ?_
    (try dsimp only)
    simp (disch := omega) only [zI_lit, zI_neg, zI_add, zI_sub, zI_mul, zI_div, q_md, zI_lt, zI_le, zI_eq, zI_clamp, zI_vp, forall_eq, mb_u_eq, mb_u_ne, upd_eq, q_isWithin, w0]
    by_cases c2 : 0 ≤ a2 ∧ a2 ≤ v 0 - 1
    · rw [if_pos c2]
      have hm : ∀ r : Int, (v 2 / 2 ≤ hq (v 2) (tr mv (v 6).toNat).1 a2 → r = 1) → (¬ v 2 / 2 ≤ hq (v 2) (tr mv (v 6).toNat).1 a2 → r = 0) → PX8_isHeld N m (zI a1) (zI a2) (Qe 0 (zI r) (M7, MA, fP, fB, fK, LP, LB, LS)) := by
        intro r e1 e0
        unfold PX8_isHeld
        rw [q_isGathering p3 (by omega) c l2 g2 kr km, if_pos c2]
        simp (disch := omega) only [zI_lit, zI_neg, zI_add, zI_sub, zI_mul, zI_div, q_md, zI_lt, zI_le, zI_eq, zI_clamp, zI_vp, forall_eq, mb_u_eq, mb_u_ne, upd_eq]
        rw [q_goes111]
        simp (disch := omega) only [zI_lit, zI_neg, zI_add, zI_sub, zI_mul, zI_div, q_md, zI_lt, zI_le, zI_eq, zI_clamp, zI_vp, forall_eq, mb_u_eq, mb_u_ne, upd_eq, q_if, q_ifn, if_pos, if_neg, true_and, and_true, if_true, if_false]
        refine m_fol hN (by omega) kr km (fun M' hf ht km' => ?_)
        have e7 : M' 7 a1.toNat = zI (v 2) := km'.1.2.2.1
        refine m_holds hN (by omega) ht.1 e7 hf9 (by omega) r3 (fun z => ⟨Or.inr rfl, ?_⟩) (fun z => ⟨Or.inl rfl, ?_⟩)
        · exact Qe_q h hf (by rw [e1 z])
        · exact Qe_q h hf (by rw [e0 z])
      simp (disch := omega) only [zI_lit, zI_neg, zI_add, zI_sub, zI_mul, zI_div, q_md, zI_lt, zI_le, zI_eq, zI_clamp, zI_vp, forall_eq, mb_u_eq, mb_u_ne, upd_eq, q_if, q_ifn, if_pos, if_neg, true_and, and_true, if_true, if_false, q_demandPlace1]
      refine e_holds hN sb.1 s1 hf9 (by omega) r3 (fun z => ⟨Or.inr rfl, ?_⟩) (fun z => ⟨Or.inl rfl, ?_⟩)
      · rw [hx]
        exact ⟨Or.inr rfl, hm 1 (fun _ => rfl) (fun y => absurd z y)⟩
      · rw [hx]
        exact ⟨Or.inl rfl, hm 0 (fun y => absurd y z) (fun _ => rfl)⟩
    · rw [if_neg c2]
      simp (disch := omega) only [zI_lit, zI_neg, zI_add, zI_sub, zI_mul, zI_div, q_md, zI_lt, zI_le, zI_eq, zI_clamp, zI_vp, forall_eq, mb_u_eq, mb_u_ne, upd_eq, q_if, q_ifn, if_pos, if_neg, true_and, and_true, if_true, if_false, q_demandPlace0]
      rw [hx]
      refine ⟨rfl, ?_⟩
      unfold PX8_isHeld
      rw [q_isGathering p3 (by omega) c l2 g2 kr km, if_neg c2]
      rw [q_goes0]
      simp (disch := omega) only [zI_lit, zI_neg, zI_add, zI_sub, zI_mul, zI_div, q_md, zI_lt, zI_le, zI_eq, zI_clamp, zI_vp, forall_eq, mb_u_eq, mb_u_ne, upd_eq, q_if, q_ifn, if_pos, if_neg, true_and, and_true, if_true, if_false]
      exact Qe_x h (by decide)
  · refine Or.inr ?_
    unfold PX7_isHeld_n
    refine b_off l1 g1 c p7 ⟨rfl, ?_⟩
    unfold PX8_isHeld
    rw [q_isGathering0 p3 (by omega) (by omega) l1 g1 c]
    rw [q_goes0]
    simp (disch := omega) only [zI_lit, zI_neg, zI_add, zI_sub, zI_mul, zI_div, q_md, zI_lt, zI_le, zI_eq, zI_clamp, zI_vp, forall_eq, mb_u_eq, mb_u_ne, upd_eq, q_if, q_ifn, if_pos, if_neg, true_and, and_true, if_true, if_false]
    exact Qe_x h (by decide)
theorem s_stitches {N : Nat} {M7 MA : mb_m} {fP fB fK : Nat → Option Nat} {LP : List mb_p} {LB : List mb_k} {LS : List mb_p} {m : mb_m} (hN : 700 ≤ N) (h : Rm (M7, MA, fP, fB, fK, LP, LB, LS) m) (x1 x2 x3 : Int32) :
    BP_stitches N M7 MA fP fB fK LP LB LS x1 x2 x3 (fun r b => PX8_stitches N m x1 x2 x3 (Qe 0 r b)) (fun E b => (E = eO ∧ PX8_stitches N m x1 x2 x3 (Qe 1 0 b))) := by
  obtain ⟨a1, l1, g1, rfl⟩ := zI_ex x1
  obtain ⟨a2, l2, g2, rfl⟩ := zI_ex x2
  obtain ⟨a3, l3, g3, rfl⟩ := zI_ex x3
  obtain ⟨hA, hP, ⟨nb, p1, p2, p3, p5, p6, p7, p8⟩, hSk⟩ := id h
  (try dsimp only at hA hP hSk p2 p5 p6 p7)
  by_cases c : 0 ≤ a1 ∧ a1 < nb
  · obtain ⟨x, x1, x2, x3⟩ := p6 a1.toNat (by omega)
    have hx : LB.take a1.toNat ++ (x.1, x.2.1, x.2.2.1, x.2.2.2.1, x.2.2.2.2.1, x.2.2.2.2.2.1, x.2.2.2.2.2.2.1, x.2.2.2.2.2.2.2.1, x.2.2.2.2.2.2.2.2) :: LB.drop (a1.toNat + 1) = LB := (q_split x1).symm
    obtain ⟨v, mv, rp, vf, vt, vw, kr, kb, km⟩ := id x3
    rw [show ((a1.toNat : Nat) : Int) = a1 by omega] at km
    obtain ⟨r1, r2, r3, r4, r5, r6, r7, r8, r9, r10, r11, r12⟩ := id kr
    obtain ⟨b4, ⟨⟨s0, s1, s5⟩, s4, sb⟩, b6⟩ := id kb
    have w0 : x.2.2.2.2.2.2.1 0 0 = zI (v 0) := s0
    have w1 : x.2.2.2.2.2.2.1 1 0 = zI (v 2) := s1
    have u7 : m 7 a1.toNat = zI (v 2) := km.1.2.2.1
    -- the model where a number is out of range
    have hm0 : ¬ ((0 ≤ a2 ∧ a2 ≤ v 0 - 1) ∧ 0 ≤ a3 ∧ a3 ≤ v 2 - 2) → PX8_stitches N m (zI a1) (zI a2) (zI a3) (Qe 1 0 (M7, MA, fP, fB, fK, LP, LB, LS)) := by
      intro z
      have z42 : PX8_stitches_42 N (Qe 1 0 (M7, MA, fP, fB, fK, LP, LB, LS)) m (zI a1) (zI a2) (zI a3) := by
        unfold PX8_stitches_42 PX8_stitches_43
        rw [show (0 : Int32) = zI 0 from rfl, q_goes0]
        simp (disch := omega) only [zI_lit, zI_neg, zI_add, zI_sub, zI_mul, zI_div, q_md, zI_lt, zI_le, zI_eq, zI_clamp, zI_vp, forall_eq, mb_u_eq, mb_u_ne, upd_eq, q_if, q_ifn, if_pos, if_neg, true_and, and_true, if_true, if_false]
        exact Qe_x h (by decide)
      unfold PX8_stitches PX8_stitches_29
      rw [q_isGathering p3 (by omega) c l2 g2 kr km]
      by_cases c2 : 0 ≤ a2 ∧ a2 ≤ v 0 - 1
      · rw [if_pos c2]
        simp (disch := omega) only [zI_lit, zI_neg, zI_add, zI_sub, zI_mul, zI_div, q_md, zI_lt, zI_le, zI_eq, zI_clamp, zI_vp, forall_eq, mb_u_eq, mb_u_ne, upd_eq, q_if, q_ifn, if_pos, if_neg, true_and, and_true, if_true, if_false, q_isBook l1 g1 p3, u7, q_in8]
        exact z42
      · rw [if_neg c2]
        simp (disch := omega) only [zI_lit, zI_neg, zI_add, zI_sub, zI_mul, zI_div, q_md, zI_lt, zI_le, zI_eq, zI_clamp, zI_vp, forall_eq, mb_u_eq, mb_u_ne, upd_eq, q_if, q_ifn, if_pos, if_neg, true_and, and_true, if_true, if_false]
        exact z42
    have hm1 : (0 ≤ a2 ∧ a2 ≤ v 0 - 1) → (0 ≤ a3 ∧ a3 ≤ v 2 - 2) → PX8_stitches N m (zI a1) (zI a2) (zI a3) (Qe 0 (zI ((tr mv (v 6).toNat).1 (5 * a2 + a3))) (M7, MA, fP, fB, fK, LP, LB, LS)) := by
      intro z2 z3
      have z43 : PX8_stitches_43 N (Qe 0 (zI ((tr mv (v 6).toNat).1 (5 * a2 + a3))) (M7, MA, fP, fB, fK, LP, LB, LS)) m (zI a1) (zI a2) (zI a3) (zI 1) := by
        unfold PX8_stitches_43
        rw [show (1 : Int32) = zI 1 from rfl, q_goes111]
        simp (disch := omega) only [zI_lit, zI_neg, zI_add, zI_sub, zI_mul, zI_div, q_md, zI_lt, zI_le, zI_eq, zI_clamp, zI_vp, forall_eq, mb_u_eq, mb_u_ne, upd_eq, q_if, q_ifn, if_pos, if_neg, true_and, and_true, if_true, if_false]
        refine m_fol hN (by omega) kr km (fun M' hf ht km' => ?_)
        have w := ht.1 (5 * a2 + a3) (by omega) (by omega)
        simp (disch := omega) only [zI_lit, zI_neg, zI_add, zI_sub, zI_mul, zI_div, q_md, zI_lt, zI_le, zI_eq, zI_clamp, zI_vp, forall_eq, mb_u_eq, mb_u_ne, upd_eq, q_if, q_ifn, if_pos, if_neg, true_and, and_true, if_true, if_false, w]
        exact Qe_q h hf rfl
      unfold PX8_stitches PX8_stitches_29
      rw [q_isGathering p3 (by omega) c l2 g2 kr km, if_pos z2]
      simp (disch := omega) only [zI_lit, zI_neg, zI_add, zI_sub, zI_mul, zI_div, q_md, zI_lt, zI_le, zI_eq, zI_clamp, zI_vp, forall_eq, mb_u_eq, mb_u_ne, upd_eq, q_if, q_ifn, if_pos, if_neg, true_and, and_true, if_true, if_false, q_isBook l1 g1 p3, u7, q_in8]
      exact z43
    refine Or.inl ⟨_, x, _, q_split x1, ?_⟩
    unfold PX7_stitches
    refine b_on l1 g1 (by omega) x2 ?_
    (try dsimp only)
    have h44 : ¬ ((0 ≤ a2 ∧ a2 ≤ v 0 - 1) ∧ 0 ≤ a3 ∧ a3 ≤ v 2 - 2) → eO = eO ∧ PX8_stitches N m (zI a1) (zI a2) (zI a3) (Qe 1 0 (M7, MA, fP, fB, fK, LP, LB, LS)) := fun z => ⟨rfl, hm0 z⟩
    unfold PX7_stitches_44 PX7_stitches_45
    simp (disch := omega) only [zI_lit, zI_neg, zI_add, zI_sub, zI_mul, zI_div, q_md, zI_lt, zI_le, zI_eq, zI_clamp, zI_vp, forall_eq, mb_u_eq, mb_u_ne, upd_eq, q_isWithin, w0, w1]
    by_cases c2 : 0 ≤ a2 ∧ a2 ≤ v 0 - 1
    · rw [if_pos c2]
      by_cases c3 : 0 ≤ a3 ∧ a3 ≤ v 2 - 2
      · rw [if_pos c3]
        simp (disch := omega) only [zI_lit, zI_neg, zI_add, zI_sub, zI_mul, zI_div, q_md, zI_lt, zI_le, zI_eq, zI_clamp, zI_vp, forall_eq, mb_u_eq, mb_u_ne, upd_eq, q_if, q_ifn, if_pos, if_neg, true_and, and_true, if_true, if_false, q_demandPlace1, q_stitchesAt sb.1]
        rw [hx]
        exact hm1 c2 c3
      · rw [if_neg c3]
        simp (disch := omega) only [zI_lit, zI_neg, zI_add, zI_sub, zI_mul, zI_div, q_md, zI_lt, zI_le, zI_eq, zI_clamp, zI_vp, forall_eq, mb_u_eq, mb_u_ne, upd_eq, q_if, q_ifn, if_pos, if_neg, true_and, and_true, if_true, if_false, q_demandPlace0]
        rw [hx]
        exact h44 (fun z => c3 z.2)
    · rw [if_neg c2]
      simp (disch := omega) only [zI_lit, zI_neg, zI_add, zI_sub, zI_mul, zI_div, q_md, zI_lt, zI_le, zI_eq, zI_clamp, zI_vp, forall_eq, mb_u_eq, mb_u_ne, upd_eq, q_if, q_ifn, if_pos, if_neg, true_and, and_true, if_true, if_false, q_demandPlace0]
      rw [hx]
      exact h44 (fun z => c2 z.1)
  · refine Or.inr ?_
    unfold PX7_stitches_n
    refine b_off l1 g1 c p7 ⟨rfl, ?_⟩
    unfold PX8_stitches PX8_stitches_42 PX8_stitches_43
    rw [q_isGathering0 p3 (by omega) (by omega) l1 g1 c]
    simp (disch := omega) only [zI_lit, zI_neg, zI_add, zI_sub, zI_mul, zI_div, q_md, zI_lt, zI_le, zI_eq, zI_clamp, zI_vp, forall_eq, mb_u_eq, mb_u_ne, upd_eq, q_if, q_ifn, if_pos, if_neg, true_and, and_true, if_true, if_false]
    rw [q_goes0]
    simp (disch := omega) only [zI_lit, zI_neg, zI_add, zI_sub, zI_mul, zI_div, q_md, zI_lt, zI_le, zI_eq, zI_clamp, zI_vp, forall_eq, mb_u_eq, mb_u_ne, upd_eq, q_if, q_ifn, if_pos, if_neg, true_and, and_true, if_true, if_false]
    exact Qe_x h (by decide)
theorem tr_zero {g st : Int} {mv : Int → Int} (hg : 1 ≤ g) (hs : 3 ≤ st ∧ st ≤ 6) : ∀ {n : Nat}, tv g st mv n → ∀ k : Int, 0 ≤ k → st - 1 ≤ k % 5 → (tr mv n).1 k = 0
  | 0, _ => fun k _ _ => rfl
  | n + 1, h => by
    intro k k0 k1
    have ih := tr_zero hg hs (fun j hj => h j (by omega) : tv g st mv n) k k0 k1
    have hok := h n (by omega)
    have hrg := tr_rng hg hs.1 (fun j hj => h j (by omega) : tv g st mv n)
    obtain ⟨a1, a2, a3, a4, a5, a6, a7, a8, a9, a10⟩ := hrg
    obtain ⟨b1, b2, b3, b4, b5, b6⟩ := hok
    show (tstep (tr mv n) (mv n)).1 k = 0
    unfold tstep
    split
    · rename_i e
      have := b3 e
      (try dsimp only)
      rw [if_neg (by omega)]; exact ih
    · split
      · rename_i e
        have := b4 e
        (try dsimp only)
        rw [if_neg (by omega)]; exact ih
      · (repeat' split) <;> exact ih
/-- the greatest of the first numbers -/
def mxI (f : Int → Int) : Nat → Int
  | 0 => 0
  | n + 1 => if mxI f n < f n then f n else mxI f n
theorem mxI_step (f : Int → Int) {i : Int} (h : 0 ≤ i) : mxI f (i + 1).toNat = if mxI f i.toNat < f i then f i else mxI f i.toNat := by
  have e : (i + 1).toNat = i.toNat + 1 := by omega
  have e2 : (i.toNat : Int) = i := by omega
  rw [e]
  show (if mxI f i.toNat < f (i.toNat : Int) then f (i.toNat : Int) else mxI f i.toNat) = _
  rw [e2]
theorem mxI_rng {f : Int → Int} {b : Int} (hb : 0 ≤ b) : ∀ {n : Nat}, (∀ k : Int, 0 ≤ k → k < n → 0 ≤ f k ∧ f k ≤ b) → 0 ≤ mxI f n ∧ mxI f n ≤ b
  | 0, _ => ⟨Int.le_refl _, hb⟩
  | n + 1, h => by
    have h1 := mxI_rng hb (n := n) (fun k h1 h2 => h k h1 (by omega))
    have h2 := h n (by omega) (by omega)
    show 0 ≤ (if mxI f n < f n then f n else mxI f n) ∧ (if mxI f n < f n then f n else mxI f n) ≤ b
    split <;> omega
theorem mxI_zero {f : Int → Int} {m : Nat} (hz : ∀ k : Int, m ≤ k → k < 5 → f k = 0) (hp : ∀ k : Int, 0 ≤ k → 0 ≤ f k) : ∀ {n : Nat}, n ≤ 5 → m ≤ n → mxI f n = mxI f m
  | 0, _, h => by rw [show m = 0 by omega]
  | n + 1, h5, h => by
    by_cases e : m = n + 1
    · rw [e]
    · have ih := mxI_zero hz hp (n := n) (by omega) (by omega)
      have z := hz n (by omega) (by omega)
      have h0 := mxI_rng (f := f) (b := mxI f n) (n := n)
      show (if mxI f n < f n then f n else mxI f n) = mxI f m
      rw [z, if_neg, ih]
      have nn : ∀ j : Nat, 0 ≤ mxI f j := by
        intro j
        induction j with
        | zero => exact Int.le_refl _
        | succ j hj =>
          show 0 ≤ (if mxI f j < f j then f j else mxI f j)
          split
          · exact hp j (by omega)
          · exact hj
      have := nn n
      omega
theorem q_ite {c : Prop} [Decidable c] {a b : Int} : (if c then zI a else zI b) = zI (if c then a else b) := by split <;> rfl
/-- a third of the swelling -/
def swI (f : Int → Int) (n : Nat) : Int := sI (fun k => mxI (fun p => f (5 * k + p)) 5) n
theorem swI_rng {f : Int → Int} (hf : ∀ k, 0 ≤ f k ∧ f k ≤ 200) (n : Nat) (hn : n ≤ 8) : 0 ≤ swI f n ∧ swI f n ≤ 1600 := by
  have := sI_rng (f := fun k => mxI (fun p => f (5 * k + p)) 5) (a := 0) (b := 200) (n := n) (fun k _ _ => mxI_rng (by omega) (fun p _ _ => hf _))
  unfold swI
  omega
theorem e_most {N : Nat} {M : mb_m} {f : Int → Int} {st g : Int} {K : Int32 → mb_m → Prop} (hN : 700 ≤ N) (h : mr M 2 f 40) (h1 : m1 M 1 st) (hf : ∀ k, 0 ≤ f k ∧ f k ≤ 200) (hz : ∀ k : Int, 0 ≤ k → st - 1 ≤ k % 5 → f k = 0) (hg : 0 ≤ g ∧ g < 8) (hs : 3 ≤ st ∧ st ≤ 6)
    (hK : K (zI (mxI (fun p => f (5 * g + p)) 5)) M) : PX4_mostStitches N M (zI g) K := by
  refine (q_for (σ := mb_m × Int32 × Int32 × Int32) (fun n s => PX4_mostStitches_4 N K n s.1 s.2.1 s.2.2.1 s.2.2.2) (fun r0 s => PX4_mostStitches_4_b N K (fun a0 a1 a2 a3 => r0 (a0, a1, a2, a3)) s.1 s.2.1 s.2.2.1 s.2.2.2) (fun _ _ => rfl))
    (fun i s => s.1 = M ∧ s.2.1 = zI g ∧ s.2.2.1 = zI (mxI (fun p => f (5 * g + p)) i.toNat) ∧ s.2.2.2 = zI i ∧ 0 ≤ i) (st - 1) ?_ ?_ N 0 (M, _, _, _) (by omega) (by omega) ?_
  · rintro i ⟨M1, y1, y2, y3⟩ r hi hI hr
    dsimp only at hI hr ⊢
    obtain ⟨rfl, rfl, rfl, rfl, h0⟩ := hI
    have w1 : M1 1 0 = zI st := h1
    have hfi := hf (5 * g + i)
    have hc := mxI_rng (f := fun p => f (5 * g + p)) (b := 200) (n := i.toNat) (by omega) (fun k _ _ => hf _)
    unfold PX4_mostStitches_4_b
    simp (disch := omega) only [zI_lit, zI_neg, zI_add, zI_sub, zI_mul, zI_div, q_md, zI_lt, zI_le, zI_eq, zI_clamp, zI_vp, forall_eq, mb_u_eq, mb_u_ne, upd_eq, q_if, q_ifn, if_pos, if_neg, true_and, and_true, if_true, if_false, w1, q_stitchesAt h hg, q_ite]
    exact hr _ ⟨rfl, rfl, by (try dsimp only); rw [mxI_step _ h0], rfl, by omega⟩
  · rintro ⟨M1, y1, y2, y3⟩ r hI
    dsimp only at hI ⊢
    obtain ⟨rfl, rfl, rfl, rfl, h0⟩ := hI
    have w1 : M1 1 0 = zI st := h1
    unfold PX4_mostStitches_4_b
    simp (disch := omega) only [zI_lit, zI_neg, zI_add, zI_sub, zI_mul, zI_div, q_md, zI_lt, zI_le, zI_eq, zI_clamp, zI_vp, forall_eq, mb_u_eq, mb_u_ne, upd_eq, q_if, q_ifn, if_pos, if_neg, true_and, and_true, if_true, if_false, w1]
    rw [mxI_zero (f := fun p => f (5 * g + p)) (m := (st - 1).toNat) (n := 5) (fun k k1 k2 => hz _ (by omega) (by omega)) (fun k _ => (hf _).1) (by omega) (by omega)] at hK
    exact hK
  · exact ⟨rfl, rfl, rfl, rfl, by omega⟩
theorem e_swell {N : Nat} {M : mb_m} {f : Int → Int} {st g : Int} {K : Int32 → mb_m → Prop} (hN : 700 ≤ N) (h : mr M 2 f 40) (h0 : m1 M 0 g) (h1 : m1 M 1 st) (hf : ∀ k, 0 ≤ f k ∧ f k ≤ 200) (hz : ∀ k : Int, 0 ≤ k → st - 1 ≤ k % 5 → f k = 0) (hg : 1 ≤ g ∧ g ≤ 8) (hs : 3 ≤ st ∧ st ≤ 6)
    (hK : K (zI (3 * swI f g.toNat)) M) : PX4_swell N M K := by
  refine (q_for (σ := mb_m × Int32 × Int32) (fun n s => PX4_swell_4 N K n s.1 s.2.1 s.2.2) (fun r0 s => PX4_swell_4_b N K (fun a0 a1 a2 => r0 (a0, a1, a2)) s.1 s.2.1 s.2.2) (fun _ _ => rfl))
    (fun i s => s.1 = M ∧ s.2.1 = zI (swI f i.toNat) ∧ s.2.2 = zI i ∧ 0 ≤ i) g ?_ ?_ N 0 (M, _, _) (by omega) (by omega) ?_
  · rintro i ⟨M1, y1, y2⟩ r hi hI hr
    dsimp only at hI hr ⊢
    obtain ⟨rfl, rfl, rfl, z0⟩ := hI
    have w0 : M1 0 0 = zI g := h0
    unfold PX4_swell_4_b
    simp (disch := omega) only [zI_lit, zI_neg, zI_add, zI_sub, zI_mul, zI_div, q_md, zI_lt, zI_le, zI_eq, zI_clamp, zI_vp, forall_eq, mb_u_eq, mb_u_ne, upd_eq, q_if, q_ifn, if_pos, if_neg, true_and, and_true, if_true, if_false, w0]
    refine e_most hN h h1 hf hz (by omega) hs ?_
    simp (disch := omega) only [zI_lit, zI_neg, zI_add, zI_sub, zI_mul, zI_div, q_md, zI_lt, zI_le, zI_eq, zI_clamp, zI_vp, forall_eq, mb_u_eq, mb_u_ne, upd_eq, q_if, q_ifn, if_pos, if_neg, true_and, and_true, if_true, if_false]
    exact hr _ ⟨rfl, by (try dsimp only); unfold swI; rw [sI_step _ z0], rfl, by omega⟩
  · rintro ⟨M1, y1, y2⟩ r hI
    dsimp only at hI ⊢
    obtain ⟨rfl, rfl, rfl, z0⟩ := hI
    have w0 : M1 0 0 = zI g := h0
    unfold PX4_swell_4_b
    simp (disch := omega) only [zI_lit, zI_neg, zI_add, zI_sub, zI_mul, zI_div, q_md, zI_lt, zI_le, zI_eq, zI_clamp, zI_vp, forall_eq, mb_u_eq, mb_u_ne, upd_eq, q_if, q_ifn, if_pos, if_neg, true_and, and_true, if_true, if_false, w0]
    exact hK
  · exact ⟨rfl, rfl, rfl, by omega⟩
theorem m_swells {N : Nat} {m : mb_m} {a : Int} {v : kN} {mw rp vf vt vw : Int → Int} {K : Int32 → mb_m → Prop} (hN : 700 ≤ N) (ha : 0 ≤ a ∧ a < 4) (kr : Kr v mw rp vf vt vw) (km : Km m a v mw rp vf vt vw)
    (hK : ∀ m', mf (mb_u m 27 (mb_c (zI 0))) m' scr → Km m' a v mw rp vf vt vw → K (zI (3 * swI (tr mw (v 6).toNat).1 (v 0).toNat)) m') : PX8_swells N (mb_u m 27 (mb_c (zI 0))) (zI a) K := by
  obtain ⟨r1, r2, r3, r4, r5, r6, r7, r8, r9, r10, r11, r12⟩ := id kr
  have hrg := tr_rng r1.1 r3.1 r10
  have hf : ∀ k, 0 ≤ (tr mw (v 6).toNat).1 k ∧ (tr mw (v 6).toNat).1 k ≤ 200 := fun k => by have := hrg.2.2.2.2.2.2.2.2.1 k; omega
  unfold PX8_swells
  refine m_fol hN ha kr km (fun M' hf' ht km' => ?_)
  have hK := hK M' hf' km'
  have u5 : M' 5 a.toNat = zI (v 0) := km'.1.1
  have h13 := ht.1
  generalize hfe : (tr mw (v 6).toNat).1 = f at *
  refine (q_for (σ := mb_m × Int32 × Int32 × Int32) (fun n s => PX8_swells_9 N K n s.1 s.2.1 s.2.2.1 s.2.2.2) (fun r0 s => PX8_swells_9_b N K (fun a0 a1 a2 a3 => r0 (a0, a1, a2, a3)) s.1 s.2.1 s.2.2.1 s.2.2.2) (fun _ _ => rfl))
    (fun i s => s.1 = M' ∧ s.2.1 = zI a ∧ s.2.2.1 = zI (swI f i.toNat) ∧ s.2.2.2 = zI i ∧ 0 ≤ i) (v 0) ?_ ?_ N 0 (M', _, _, _) (by omega) (by omega) ?_
  · rintro i ⟨M1, y0, y1, y2⟩ r hi hI hr
    dsimp only at hI hr ⊢
    obtain ⟨rfl, rfl, rfl, rfl, z0⟩ := hI
    unfold PX8_swells_9_b
    simp (disch := omega) only [zI_lit, zI_neg, zI_add, zI_sub, zI_mul, zI_div, q_md, zI_lt, zI_le, zI_eq, zI_clamp, zI_vp, forall_eq, mb_u_eq, mb_u_ne, upd_eq, q_if, q_ifn, if_pos, if_neg, true_and, and_true, if_true, if_false, u5]
    refine (q_for (σ := mb_m × Int32 × Int32 × Int32 × Int32 × Int32) (fun n s => PX8_swells_25 N K (fun b0 b1 b2 b3 => r (b0, b1, b2, b3)) n s.1 s.2.1 s.2.2.1 s.2.2.2.1 s.2.2.2.2.1 s.2.2.2.2.2) (fun r0 s => PX8_swells_25_b N K (fun b0 b1 b2 b3 => r (b0, b1, b2, b3)) (fun a0 a1 a2 a3 a4 a5 => r0 (a0, a1, a2, a3, a4, a5)) s.1 s.2.1 s.2.2.1 s.2.2.2.1 s.2.2.2.2.1 s.2.2.2.2.2) (fun _ _ => rfl))
      (fun j s => s.1 = M1 ∧ s.2.1 = zI a ∧ s.2.2.1 = zI (swI f i.toNat) ∧ s.2.2.2.1 = zI i ∧ s.2.2.2.2.1 = zI (mxI (fun p => f (5 * i + p)) j.toNat) ∧ s.2.2.2.2.2 = zI j ∧ 0 ≤ j) 5 ?_ ?_ N 0 (M1, _, _, _, _, _) (by omega) (by omega) ?_
    · rintro j ⟨M2, x1, x2, x3, x4, x5⟩ r2 hj hI hr2
      dsimp only at hI hr2 ⊢
      obtain ⟨rfl, rfl, rfl, rfl, rfl, rfl, j0⟩ := hI
      have w := h13 (5 * i + j) (by omega) (by omega)
      have hfi := hf (5 * i + j)
      have hc := mxI_rng (f := fun p => f (5 * i + p)) (b := 200) (n := j.toNat) (by omega) (fun k _ _ => hf _)
      have hst := mxI_step (fun p => f (5 * i + p)) j0
      unfold PX8_swells_25_b PX8_swells_63
      simp (disch := omega) only [zI_lit, zI_neg, zI_add, zI_sub, zI_mul, zI_div, q_md, zI_lt, zI_le, zI_eq, zI_clamp, zI_vp, forall_eq, mb_u_eq, mb_u_ne, upd_eq, q_if, q_ifn, if_pos, if_neg, true_and, and_true, if_true, if_false, w]
      split
      · refine hr2 _ ⟨rfl, rfl, rfl, rfl, ?_, rfl, by omega⟩
        (try dsimp only)
        rw [hst, if_neg (by omega)]
      · refine hr2 _ ⟨rfl, rfl, rfl, rfl, ?_, rfl, by omega⟩
        (try dsimp only)
        rw [hst, if_pos (by omega)]
    · rintro ⟨M2, x1, x2, x3, x4, x5⟩ r2 hI
      dsimp only at hI ⊢
      obtain ⟨rfl, rfl, rfl, rfl, rfl, rfl, j0⟩ := hI
      unfold PX8_swells_25_b
      simp (disch := omega) only [zI_lit, zI_neg, zI_add, zI_sub, zI_mul, zI_div, q_md, zI_lt, zI_le, zI_eq, zI_clamp, zI_vp, forall_eq, mb_u_eq, mb_u_ne, upd_eq, q_if, q_ifn, if_pos, if_neg, true_and, and_true, if_true, if_false]
      exact hr _ ⟨rfl, rfl, by (try dsimp only); unfold swI; rw [sI_step _ z0]; rfl, rfl, by omega⟩
    · exact ⟨rfl, rfl, rfl, rfl, rfl, rfl, by omega⟩
  · rintro ⟨M1, y0, y1, y2⟩ r hI
    dsimp only at hI ⊢
    obtain ⟨rfl, rfl, rfl, rfl, z0⟩ := hI
    unfold PX8_swells_9_b
    simp (disch := omega) only [zI_lit, zI_neg, zI_add, zI_sub, zI_mul, zI_div, q_md, zI_lt, zI_le, zI_eq, zI_clamp, zI_vp, forall_eq, mb_u_eq, mb_u_ne, upd_eq, q_if, q_ifn, if_pos, if_neg, true_and, and_true, if_true, if_false, u5]
    exact hK
  · exact ⟨rfl, rfl, rfl, rfl, by omega⟩
