theorem tv_app {g st mv : Int} {mw : Int → Int} {n : Nat} (h : tv g st mw n) (hk : tok g st (tr mw n) mv) : tv g st (fun k => if k = n then mv else mw k) (n + 1) := by
  have e : ∀ k : Int, 0 ≤ k → k < n → mw k = (fun k => if k = (n : Int) then mv else mw k) k := fun k _ k2 => by (try dsimp only); rw [if_neg (by omega)]
  intro j hj
  by_cases z : j = n
  · subst z
    (try dsimp only)
    rw [if_pos rfl, ← tr_cong (n := j) e]
    exact hk
  · (try dsimp only)
    rw [if_neg (by omega), ← tr_cong (n := j) (fun k k1 k2 => e k k1 (by omega))]
    exact h j (by omega)
theorem tr_app {mv : Int} {mw : Int → Int} {n : Nat} : tr (fun k => if k = n then mv else mw k) (n + 1) = tstep (tr mw n) mv := by
  show tstep (tr _ n) _ = _
  (try dsimp only)
  have e := tr_cong (mv := mw) (mv' := fun k => if k = (n : Int) then mv else mw k) (n := n) (fun k _ k2 => by (try dsimp only); rw [if_neg (by omega)])
  rw [if_pos rfl, ← e]
theorem s_sew {N : Nat} {M7 MA : mb_m} {fP fB fK : Nat → Option Nat} {LP : List mb_p} {LB : List mb_k} {LS : List mb_p} {m : mb_m} (hN : 700 ≤ N) (h : Rm (M7, MA, fP, fB, fK, LP, LB, LS) m) (x1 x2 : Int32) :
    BP_sew N M7 MA fP fB fK LP LB LS x1 x2 (fun r b => PX8_sew N m x1 x2 (Qe 0 r b)) (fun E b => (E = eO ∧ PX8_sew N m x1 x2 (Qe 1 0 b)) ∨ (E = eA ∧ PX8_sew N m x1 x2 (Qe 2 0 b)) ∨ (E = eS ∧ PX8_sew N m x1 x2 (Qe 3 0 b))) := by
  obtain ⟨a1, l1, g1, rfl⟩ := zI_ex x1
  obtain ⟨a2, l2, g2, rfl⟩ := zI_ex x2
  obtain ⟨hA, hP, ⟨nb, p1, p2, p3, p5, p6, p7, p8⟩, hSk⟩ := id h
  (try dsimp only at hA hP hSk p2 p5 p6 p7)
  by_cases c : 0 ≤ a1 ∧ a1 < nb
  · obtain ⟨x, x1, x2, x3⟩ := p6 a1.toNat (by omega)
    have hx : LB.take a1.toNat ++ (x.1, x.2.1, x.2.2.1, x.2.2.2.1, x.2.2.2.2.1, x.2.2.2.2.2.1, x.2.2.2.2.2.2.1, x.2.2.2.2.2.2.2.1, x.2.2.2.2.2.2.2.2) :: LB.drop (a1.toNat + 1) = LB := (q_split x1).symm
    obtain ⟨v, mv, rp, vf, vt, vw, kr, kb, km⟩ := id x3
    rw [show ((a1.toNat : Nat) : Int) = a1 by omega] at km
    obtain ⟨r1, r2, r3, r4, r5, r6, r7, r8, r9, r10, r11, r12⟩ := id kr
    have en : (((v 6).toNat : Nat) : Int) = v 6 := by omega
    obtain ⟨b4, ⟨⟨s0, s1, s5⟩, s4, sb⟩, b6⟩ := id kb
    have hrg := tr_rng r1.1 r3.1 r10
    rw [en] at hrg
    refine Or.inl ⟨_, x, _, q_split x1, ?_⟩
    unfold PX7_sew
    refine b_on l1 g1 (by omega) x2 ?_
    (try dsimp only)
    simp (disch := omega) only [zI_lit, zI_neg, zI_add, zI_sub, zI_mul, zI_div, q_md, zI_lt, zI_le, zI_eq, zI_clamp, zI_vp, forall_eq, mb_u_eq, mb_u_ne, upd_eq, q_isWithin]
    by_cases c2 : 0 ≤ a2 ∧ a2 ≤ 4
    · rw [if_pos c2]
      simp (disch := omega) only [zI_lit, zI_neg, zI_add, zI_sub, zI_mul, zI_div, q_md, zI_lt, zI_le, zI_eq, zI_clamp, zI_vp, forall_eq, mb_u_eq, mb_u_ne, upd_eq, q_if, q_ifn, if_pos, if_neg, true_and, and_true, if_true, if_false, q_demandArgument1]
      refine e_allows (g := v 0) (st := v 2) (n := v 6) sb hrg r1.2 r3.2 r7 s0 s1 s5 c2 (fun z1 z2 => ?_) (fun z => ?_)
      · simp (disch := omega) only [zI_lit, zI_neg, zI_add, zI_sub, zI_mul, zI_div, q_md, zI_lt, zI_le, zI_eq, zI_clamp, zI_vp, forall_eq, mb_u_eq, mb_u_ne, upd_eq, q_if, q_ifn, if_pos, if_neg, true_and, and_true, if_true, if_false, q_demandState1]
        refine e_make sb hrg ⟨r7.1, z1⟩ r1.2 r3.2 s4 s5 z2 (fun M' hf g4 g5 gb => ?_)
        refine m_sew hN p3 (by omega) c l2 g2 kr km (fun z => absurd c2 z) (fun _ _ _ z => absurd ⟨z1, z2⟩ z) (fun M2 M3 f2 _ _ _ f3 => ?_)
        have fa : mf M2 (mb_u (mb_u (mb_u M2 27 (mb_c (zI 0))) 12 (upd (M2 12) (200 * a1 + v 6).toNat (zI a2))) 11 (upd (M2 11) a1.toNat (zI (v 6 + 1)))) [27, 12, 11] := mf_u (mf_u (mf_u (mf_refl _ _) _ (by decide)) _ (by decide)) _ (by decide)
        have hf' : mf m M3 [13, 14, 15, 16, 17, 18, 27, 12, 11] := mf_tr (mf_tr (mf_mono f2 (by decide)) (mf_mono fa (by decide))) (mf_mono f3 (by decide))
        have m27 : m1 M3 27 0 := mf_m1 f3 (by decide) (m1_ne _ (m1_ne _ (m1_set _ _ _) (by decide)) (by decide))
        have m11 : M3 11 = upd (M2 11) a1.toNat (zI (v 6 + 1)) := by rw [f3 11 (by decide), mb_u_eq]
        have m12 : M3 12 = upd (M2 12) (200 * a1 + v 6).toNat (zI a2) := by rw [f3 12 (by decide), mb_u_ne _ _ (by decide), mb_u_eq]
        have n11 : M2 11 = m 11 := f2 11 (by decide)
        have n12 : M2 12 = m 12 := f2 12 (by decide)
        have u9 : M' 9 0 = zI (tstep (tr mv (v 6).toNat) a2).2.2.1 := gb.2.2.1
        refine ⟨m27, fun _ => u9.symm, RA_mf hA hf' (by decide) (by decide), RP_mf hP hf' (by decide) (by decide), ?_, RS_mf hSk hf' (by decide) (by decide)⟩
        refine RB_upd (m := m) p1 p2 (mf_m1 hf' (by decide) p3) p5 p6 p7 p8 x1 (by omega) rfl x2 ?_ (fun j hj hji => ?_)
        · rw [show ((a1.toNat : Nat) : Int) = a1 by omega]
          obtain ⟨⟨k1, k2, k3, k4, k5, k6, k7, k8, k9⟩, k10, k11, k12⟩ := km
          have et : tr (fun k => if k = v 6 then a2 else mv k) (v 6 + 1).toNat = tstep (tr mv (v 6).toNat) a2 := by
            rw [show (v 6 + 1).toNat = (v 6).toNat + 1 by omega]
            have := tr_app (mv := a2) (mw := mv) (n := (v 6).toNat)
            rwa [en] at this
          have ev : tv (v 0) (v 2) (fun k => if k = v 6 then a2 else mv k) (v 6 + 1).toNat := by
            rw [show (v 6 + 1).toNat = (v 6).toNat + 1 by omega]
            have := tv_app r10 z2
            rwa [en] at this
          refine ⟨kset v 6 (v 6 + 1), fun k => if k = v 6 then a2 else mv k, rp, vf, vt, vw, ⟨r1, r2, r3, r4, r5, r6, ?_, r8, r9, ev, r11, r12⟩, ⟨b4, ⟨⟨mf_m1 hf (by decide) s0, mf_m1 hf (by decide) s1, g5⟩, g4, ?_⟩, b6⟩, ⟨?_, ?_, ?_, ?_, ?_, ?_, ?_, ?_, ?_⟩, fun k e1 e2 => ?_, fun k e1 e2 => ?_, fun k e1 e2 => ?_⟩
          · show 0 ≤ v 6 + 1 ∧ v 6 + 1 ≤ 200
            omega
          · show Bs M' (tr (fun k => if k = v 6 then a2 else mv k) (v 6 + 1).toNat)
            rw [et]; exact gb
          · rw [hf' 5 (by decide)]; exact k1
          · rw [hf' 6 (by decide)]; exact k2
          · rw [hf' 7 (by decide)]; exact k3
          · rw [hf' 8 (by decide)]; exact k4
          · rw [hf' 9 (by decide)]; exact k5
          · rw [hf' 10 (by decide)]; exact k6
          · rw [m11]; exact upd_eq _ _ _
          · rw [hf' 21 (by decide)]; exact k8
          · rw [hf' 23 (by decide)]; exact k9
          · have e2 : k < v 6 + 1 := e2
            rw [m12, n12]
            show (if (200 * a1 + k).toNat = (200 * a1 + v 6).toNat then zI a2 else m 12 (200 * a1 + k).toNat) = zI (if k = v 6 then a2 else mv k)
            by_cases z : k = v 6
            · rw [if_pos (by rw [z]), if_pos z]
            · rw [if_neg (by omega), if_neg z]; exact k10 k e1 (by omega)
          · rw [hf' 22 (by decide)]; exact k11 k e1 e2
          · rw [hf' 24 (by decide), hf' 25 (by decide), hf' 26 (by decide)]; exact k12 k e1 e2
        · refine ⟨fun t ht => ?_, fun k h1 h2 => ?_, fun t k ht h1 h2 => ?_⟩
          · by_cases e : t = 11
            · subst e
              rw [m11, n11]
              show (if ((j : Int)).toNat = a1.toNat then _ else m 11 _) = _
              rw [if_neg (by omega)]
            · rw [hf' t (by revert ht e; simp; omega)]
          · rw [m12, n12]
            show (if (200 * (j : Int) + k).toNat = (200 * a1 + v 6).toNat then _ else m 12 _) = _
            rw [if_neg (by omega)]
          · rw [hf' t (by revert ht; simp; omega)]
      · simp (disch := omega) only [zI_lit, zI_neg, zI_add, zI_sub, zI_mul, zI_div, q_md, zI_lt, zI_le, zI_eq, zI_clamp, zI_vp, forall_eq, mb_u_eq, mb_u_ne, upd_eq, q_if, q_ifn, if_pos, if_neg, true_and, and_true, if_true, if_false, q_demandState0]
        rw [hx]
        refine Or.inr (Or.inr ⟨rfl, m_sew hN p3 (by omega) c l2 g2 kr km (fun z => absurd c2 z) (fun M2 f2 _ _ => ?_) (fun _ _ _ _ z1 z2 => absurd ⟨z1, z2⟩ z)⟩)
        exact Qe_x (Rm_scr h (mf_mono f2 (by decide))) (by decide)
    · rw [if_neg c2]
      simp (disch := omega) only [zI_lit, zI_neg, zI_add, zI_sub, zI_mul, zI_div, q_md, zI_lt, zI_le, zI_eq, zI_clamp, zI_vp, forall_eq, mb_u_eq, mb_u_ne, upd_eq, q_if, q_ifn, if_pos, if_neg, true_and, and_true, if_true, if_false, q_demandArgument0]
      rw [hx]
      exact Or.inr (Or.inl ⟨rfl, m_sew hN p3 (by omega) c l2 g2 kr km (fun _ => Qe_x h (by decide)) (fun _ _ z => absurd z c2) (fun _ _ _ z => absurd z c2)⟩)
  · refine Or.inr ?_
    unfold PX7_sew_n
    refine b_off l1 g1 c p7 (Or.inl ⟨rfl, ?_⟩)
    unfold PX8_sew PX8_sew_40 PX8_sew_41
    simp (disch := omega) only [zI_lit, zI_neg, zI_add, zI_sub, zI_mul, zI_div, q_md, zI_lt, zI_le, zI_eq, zI_clamp, zI_vp, forall_eq, mb_u_eq, mb_u_ne, upd_eq, q_if, q_ifn, if_pos, if_neg, true_and, and_true, if_true, if_false, q_isBook l1 g1 p3, q_in8, q_goes0, ite_self]
    exact Qe_x h (by decide)
theorem q_opp {N : Nat} {mv : Int} {K : Int32 → Unit → Prop} (h : 0 ≤ mv ∧ mv ≤ 4) (hK : K (zI (opp mv)) ()) : PX4_opposite N (zI mv) K := by
  have hti : (zI mv).toInt = mv := zI_ti (by omega) (by omega)
  unfold PX4_opposite
  rw [hti]
  unfold opp at hK
  refine ⟨fun z => ?_, fun z => ?_, fun z => ?_, fun z => ?_, fun z => ?_⟩
  · rw [if_neg (by omega), if_neg (by omega), if_neg (by omega), if_neg (by omega)] at hK; exact hK
  · rw [if_pos z] at hK; exact hK
  · rw [if_neg (by omega), if_pos z] at hK; exact hK
  · rw [if_neg (by omega), if_neg (by omega), if_pos z] at hK; exact hK
  · rw [if_neg (by omega), if_neg (by omega), if_neg (by omega), if_pos z] at hK; exact hK
theorem e_takeBack {N : Nat} {M : mb_m} {g st n : Int} {mw : Int → Int} {K : mb_m → Prop} (hn : 1 ≤ n ∧ n ≤ 200) (hg : 1 ≤ g ∧ g ≤ 8) (hs : 3 ≤ st ∧ st ≤ 6) (hv : tv g st mw n.toNat) (h4 : mr M 4 mw n) (h5 : m1 M 5 n) (hb : Bs M (tr mw n.toNat))
    (hK : ∀ M', mf M M' (5 :: bsc) → m1 M' 5 (n - 1) → Bs M' (tr mw (n - 1).toNat) → K M') : PX4_takeBack N M K := by
  have w5 : M 5 0 = zI n := h5
  have e : ∀ x : Int, mb_c (zI x) 0 = zI x := fun _ => rfl
  have w4 := h4 (n - 1) (by omega) (by omega)
  have en : n.toNat = (n - 1).toNat + 1 := by omega
  have en2 : (((n - 1).toNat : Nat) : Int) = n - 1 := by omega
  have hok := hv (n - 1).toNat (by omega)
  rw [en2] at hok
  have hrg := tr_rng hg.1 hs.1 (fun j hj => hv j (by omega) : tv g st mw (n - 1).toNat)
  rw [en2] at hrg
  have hb2 : Bs M (tstep (tr mw (n - 1).toNat) (mw (n - 1))) := by
    rw [en] at hb
    have hb : Bs M (tstep (tr mw (n - 1).toNat) (mw (((n - 1).toNat : Nat) : Int))) := hb
    rwa [en2] at hb
  unfold PX4_takeBack
  simp (disch := omega) only [zI_lit, zI_neg, zI_add, zI_sub, zI_mul, zI_div, q_md, zI_lt, zI_le, zI_eq, zI_clamp, zI_vp, forall_eq, mb_u_eq, mb_u_ne, upd_eq, q_if, q_ifn, if_pos, if_neg, true_and, and_true, if_true, if_false, w5, e, w4]
  refine q_opp ⟨hok.1, hok.2.1⟩ ?_
  obtain ⟨g2, g3, g9, g6, g7, g8⟩ := hb2
  refine e_goB (n := n - 1) (t := tr mw (n - 1).toNat) ⟨mr_ne _ g2 (by decide), mr_ne _ g3 (by decide), m1_ne _ g9 (by decide), m1_ne _ g6 (by decide), m1_ne _ g7 (by decide), m1_ne _ g8 (by decide)⟩ hrg (by omega) hg.2 hs.2 hok (fun M' hf ht => ?_)
  exact hK M' (mf_tr (mf_u (mf_refl _ _) _ (by decide)) (mf_mono hf (by decide))) (mf_m1 hf (by decide) (m1_set _ _ _)) ht
theorem m_unsew {N : Nat} {m : mb_m} {a mv nb : Int} {v : kN} {mw rp vf vt vw : Int → Int} {K : Int32 → mb_m → Prop} (hN : 700 ≤ N) (hb : m1 m 4 nb) (hnb : nb ≤ 4) (ha : 0 ≤ a ∧ a < nb) (l : -2147483648 ≤ mv) (g : mv < 2147483648) (kr : Kr v mw rp vf vt vw) (km : Km m a v mw rp vf vt vw)
    (k2 : ¬ (1 ≤ mv ∧ mv ≤ 200) → K (zI 0) (mb_u m 27 (mb_c (zI 2))))
    (k3 : 1 ≤ mv ∧ mv ≤ 200 → v 6 < mv → K (zI 0) (mb_u m 27 (mb_c (zI 3))))
    (k0 : ∀ M'', 1 ≤ mv ∧ mv ≤ 200 → mv ≤ v 6 → mf (mb_u (mb_u m 27 (mb_c (zI 0))) 11 (upd (m 11) a.toNat (zI (v 6 - mv)))) M'' scr → K (zI (tr mw (v 6 - mv).toNat).2.2.1) M'') : PX8_unsew N m (zI a) (zI mv) K := by
  obtain ⟨r1, r2, r3, r4, r5, r6, r7, r8, r9, r10, r11, r12⟩ := id kr
  obtain ⟨⟨q1, q2, q3, q4, q5, q6, q7, q8, q9⟩, q10, q11, q12⟩ := id km
  unfold PX8_unsew PX8_unsew_33
  simp (disch := omega) only [zI_lit, zI_neg, zI_add, zI_sub, zI_mul, zI_div, q_md, zI_lt, zI_le, zI_eq, zI_clamp, zI_vp, forall_eq, mb_u_eq, mb_u_ne, upd_eq, q_isBook (by omega : -2147483648 ≤ a) (by omega : a < 2147483648) hb, q_in8]
  rw [if_pos (by omega)]
  by_cases c : 1 ≤ mv ∧ mv ≤ 200
  · rw [if_pos c]
    simp (disch := omega) only [zI_lit, zI_neg, zI_add, zI_sub, zI_mul, zI_div, q_md, zI_lt, zI_le, zI_eq, zI_clamp, zI_vp, forall_eq, mb_u_eq, mb_u_ne, upd_eq, q_if, q_ifn, if_pos, if_neg, true_and, and_true, if_true, if_false, q7]
    split
    · unfold PX8_unsew_42 PX8_unsew_43
      simp (disch := omega) only [zI_lit, zI_neg, zI_add, zI_sub, zI_mul, zI_div, q_md, zI_lt, zI_le, zI_eq, zI_clamp, zI_vp, forall_eq, mb_u_eq, mb_u_ne, upd_eq, q_if, q_ifn, if_pos, if_neg, true_and, and_true, if_true, if_false, q_goes110]
      exact k3 c (by omega)
    · unfold PX8_unsew_43
      simp (disch := omega) only [zI_lit, zI_neg, zI_add, zI_sub, zI_mul, zI_div, q_md, zI_lt, zI_le, zI_eq, zI_clamp, zI_vp, forall_eq, mb_u_eq, mb_u_ne, upd_eq, q_if, q_ifn, if_pos, if_neg, true_and, and_true, if_true, if_false, q_goes111, q7]
      refine m_follows (g := v 0) (st := v 2) (n := (v 6 - mv).toNat) (mv := mw) hN (by omega) r1 r3 (by omega) ?_ (fun k h1 h2 => ?_) (fun j hj => r10 j (by omega)) (fun M' hf ht => ?_)
      · rw [mb_u_eq, show (((v 6 - mv).toNat : Nat) : Int) = v 6 - mv by omega]
        exact upd_eq _ _ _
      · rw [mb_u_ne _ _ (by decide), mb_u_ne _ _ (by decide)]
        exact q10 k h1 (by omega)
      · have e15 : M' 15 0 = zI (tr mw (v 6 - mv).toNat).2.2.1 := ht.2.2.1
        rw [e15]
        exact k0 M' c (by omega) hf
  · rw [if_neg c]
    simp (disch := omega) only [zI_lit, zI_neg, zI_add, zI_sub, zI_mul, zI_div, q_md, zI_lt, zI_le, zI_eq, zI_clamp, zI_vp, forall_eq, mb_u_eq, mb_u_ne, upd_eq, q_if, q_ifn, if_pos, if_neg, true_and, and_true, if_true, if_false, q7]
    have z2 : PX8_unsew_42 N K m (zI a) (zI mv) (zI 0) (zI 1) := by
      unfold PX8_unsew_42 PX8_unsew_43
      simp (disch := omega) only [zI_lit, zI_neg, zI_add, zI_sub, zI_mul, zI_div, q_md, zI_lt, zI_le, zI_eq, zI_clamp, zI_vp, forall_eq, mb_u_eq, mb_u_ne, upd_eq, q_if, q_ifn, if_pos, if_neg, true_and, and_true, if_true, if_false, q_goes10]
      exact k2 c
    have z3 : PX8_unsew_43 N K m (zI a) (zI mv) (zI 1) (zI 0) (zI 1) := by
      unfold PX8_unsew_43
      simp (disch := omega) only [zI_lit, zI_neg, zI_add, zI_sub, zI_mul, zI_div, q_md, zI_lt, zI_le, zI_eq, zI_clamp, zI_vp, forall_eq, mb_u_eq, mb_u_ne, upd_eq, q_if, q_ifn, if_pos, if_neg, true_and, and_true, if_true, if_false, q_goes10]
      exact k2 c
    split
    · exact z2
    · exact z3
theorem b_unsew {N : Nat} {M7 M2 M4 : mb_m} {f : Nat → Option Nat} {a g st n : Int} {mw : Int → Int} {K : Int32 → (mb_m × (Nat → Option Nat) × mb_m × mb_m) → Prop} {KX : String → (mb_m × (Nat → Option Nat) × mb_m × mb_m) → Prop} (hN : 700 ≤ N) (ha : 1 ≤ a ∧ a ≤ n) (hn : n ≤ 200) (hg : 1 ≤ g ∧ g ≤ 8) (hs : 3 ≤ st ∧ st ≤ 6) (hv : tv g st mw n.toNat) (h4 : mr M4 4 mw n) (h5 : m1 M4 5 n) (hb : Bs M4 (tr mw n.toNat))
    (hK : ∀ M', mf M4 M' (5 :: bsc) → m1 M' 5 (n - a) → Bs M' (tr mw (n - a).toNat) → K (zI (tr mw (n - a).toNat).2.2.1) (M7, f, M2, M')) : PX7_unsew_39 N K KX N M7 f M2 M4 (zI a) (zI 0) := by
  refine (q_for (σ := mb_m × (Nat → Option Nat) × mb_m × mb_m × Int32 × Int32) (fun n s => PX7_unsew_39 N K KX n s.1 s.2.1 s.2.2.1 s.2.2.2.1 s.2.2.2.2.1 s.2.2.2.2.2) (fun r0 s => PX7_unsew_39_b N K KX (fun a0 a1 a2 a3 a4 a5 => r0 (a0, a1, a2, a3, a4, a5)) s.1 s.2.1 s.2.2.1 s.2.2.2.1 s.2.2.2.2.1 s.2.2.2.2.2) (fun _ _ => rfl))
    (fun i s => mf M4 s.2.2.2.1 (5 :: bsc) ∧ m1 s.2.2.2.1 5 (n - i) ∧ Bs s.2.2.2.1 (tr mw (n - i).toNat) ∧ s.1 = M7 ∧ s.2.1 = f ∧ s.2.2.1 = M2 ∧ s.2.2.2.2.1 = zI a ∧ s.2.2.2.2.2 = zI i ∧ 0 ≤ i) a ?_ ?_ N 0 (M7, f, M2, M4, _, _) (by omega) (by omega) ?_
  · rintro i ⟨y1, y2, y3, M1, y4, y⟩ r hi hI hr
    dsimp only at hI hr ⊢
    obtain ⟨hf, g5, gb, rfl, rfl, rfl, rfl, rfl, h0⟩ := hI
    unfold PX7_unsew_39_b
    simp (disch := omega) only [zI_lit, zI_neg, zI_add, zI_sub, zI_mul, zI_div, q_md, zI_lt, zI_le, zI_eq, zI_clamp, zI_vp, forall_eq, mb_u_eq, mb_u_ne, upd_eq, q_if, q_ifn, if_pos, if_neg, true_and, and_true, if_true, if_false]
    refine e_takeBack (n := n - i) (by omega) hg hs (fun j hj => hv j (by omega)) (fun e e1 e2 => by rw [hf 4 (by decide)]; exact h4 e e1 (by omega)) g5 gb (fun M' hf' g5' gb' => ?_)
    (try simp (disch := omega) only [zI_lit, zI_neg, zI_add, zI_sub, zI_mul, zI_div, q_md, zI_lt, zI_le, zI_eq, zI_clamp, zI_vp, forall_eq, mb_u_eq, mb_u_ne, upd_eq, q_if, q_ifn, if_pos, if_neg, true_and, and_true, if_true, if_false])
    refine hr _ ⟨mf_tr hf hf', ?_, ?_, rfl, rfl, rfl, rfl, rfl, by omega⟩
    · rwa [show n - i - 1 = n - (i + 1) by omega] at g5'
    · rwa [show n - i - 1 = n - (i + 1) by omega] at gb'
  · rintro ⟨y1, y2, y3, M1, y4, y⟩ r hI
    dsimp only at hI ⊢
    obtain ⟨hf, g5, gb, rfl, rfl, rfl, rfl, rfl, h0⟩ := hI
    unfold PX7_unsew_39_b
    simp (disch := omega) only [zI_lit, zI_neg, zI_add, zI_sub, zI_mul, zI_div, q_md, zI_lt, zI_le, zI_eq, zI_clamp, zI_vp, forall_eq, mb_u_eq, mb_u_ne, upd_eq, q_if, q_ifn, if_pos, if_neg, true_and, and_true, if_true, if_false]
    have w9 : M1 9 0 = zI (tr mw (n - a).toNat).2.2.1 := gb.2.2.1
    rw [w9]
    exact hK M1 hf g5 gb
  · refine ⟨mf_refl _ _, ?_, ?_, rfl, rfl, rfl, rfl, rfl, by omega⟩
    · rwa [show n - 0 = n by omega]
    · rwa [show n - 0 = n by omega]
theorem s_unsew {N : Nat} {M7 MA : mb_m} {fP fB fK : Nat → Option Nat} {LP : List mb_p} {LB : List mb_k} {LS : List mb_p} {m : mb_m} (hN : 700 ≤ N) (h : Rm (M7, MA, fP, fB, fK, LP, LB, LS) m) (x1 x2 : Int32) :
    BP_unsew N M7 MA fP fB fK LP LB LS x1 x2 (fun r b => PX8_unsew N m x1 x2 (Qe 0 r b)) (fun E b => (E = eO ∧ PX8_unsew N m x1 x2 (Qe 1 0 b)) ∨ (E = eA ∧ PX8_unsew N m x1 x2 (Qe 2 0 b)) ∨ (E = eS ∧ PX8_unsew N m x1 x2 (Qe 3 0 b))) := by
  obtain ⟨a1, l1, g1, rfl⟩ := zI_ex x1
  obtain ⟨a2, l2, g2, rfl⟩ := zI_ex x2
  obtain ⟨hA, hP, ⟨nb, p1, p2, p3, p5, p6, p7, p8⟩, hSk⟩ := id h
  (try dsimp only at hA hP hSk p2 p5 p6 p7)
  by_cases c : 0 ≤ a1 ∧ a1 < nb
  · obtain ⟨x, x1, x2, x3⟩ := p6 a1.toNat (by omega)
    have hx : LB.take a1.toNat ++ (x.1, x.2.1, x.2.2.1, x.2.2.2.1, x.2.2.2.2.1, x.2.2.2.2.2.1, x.2.2.2.2.2.2.1, x.2.2.2.2.2.2.2.1, x.2.2.2.2.2.2.2.2) :: LB.drop (a1.toNat + 1) = LB := (q_split x1).symm
    obtain ⟨v, mv, rp, vf, vt, vw, kr, kb, km⟩ := id x3
    rw [show ((a1.toNat : Nat) : Int) = a1 by omega] at km
    obtain ⟨r1, r2, r3, r4, r5, r6, r7, r8, r9, r10, r11, r12⟩ := id kr
    obtain ⟨b4, ⟨⟨s0, s1, s5⟩, s4, sb⟩, b6⟩ := id kb
    have w5 : x.2.2.2.2.2.2.1 5 0 = zI (v 6) := s5
    refine Or.inl ⟨_, x, _, q_split x1, ?_⟩
    unfold PX7_unsew
    refine b_on l1 g1 (by omega) x2 ?_
    (try dsimp only)
    simp (disch := omega) only [zI_lit, zI_neg, zI_add, zI_sub, zI_mul, zI_div, q_md, zI_lt, zI_le, zI_eq, zI_clamp, zI_vp, forall_eq, mb_u_eq, mb_u_ne, upd_eq, q_isWithin]
    by_cases c2 : 1 ≤ a2 ∧ a2 ≤ 200
    · rw [if_pos c2]
      unfold PX7_unsew_33
      simp (disch := omega) only [zI_lit, zI_neg, zI_add, zI_sub, zI_mul, zI_div, q_md, zI_lt, zI_le, zI_eq, zI_clamp, zI_vp, forall_eq, mb_u_eq, mb_u_ne, upd_eq, q_if, q_ifn, if_pos, if_neg, true_and, and_true, if_true, if_false, q_demandArgument1, q_demandState0, q_demandState1, w5]
      split
      · rw [hx]
        exact Or.inr (Or.inr ⟨rfl, m_unsew hN p3 (by omega) c l2 g2 kr km (fun z => absurd c2 z) (fun _ _ => Qe_x h (by decide)) (fun _ _ z => absurd z (by omega))⟩)
      · refine b_unsew (n := v 6) hN (by omega) (by omega) r1 r3 r10 s4 s5 sb (fun M' hf g5 gb => ?_)
        refine m_unsew hN p3 (by omega) c l2 g2 kr km (fun z => absurd c2 z) (fun _ z => absurd z (by omega)) (fun M3 _ _ f3 => ?_)
        have fa : mf m (mb_u (mb_u m 27 (mb_c (zI 0))) 11 (upd (m 11) a1.toNat (zI (v 6 - a2)))) [27, 11] := mf_u (mf_u (mf_refl _ _) _ (by decide)) _ (by decide)
        have hf' : mf m M3 [13, 14, 15, 16, 17, 18, 27, 11] := mf_tr (mf_mono fa (by decide)) (mf_mono f3 (by decide))
        have m27 : m1 M3 27 0 := mf_m1 f3 (by decide) (m1_ne _ (m1_set _ _ _) (by decide))
        have m11 : M3 11 = upd (m 11) a1.toNat (zI (v 6 - a2)) := by rw [f3 11 (by decide), mb_u_eq]
        refine ⟨m27, fun _ => rfl, RA_mf hA hf' (by decide) (by decide), RP_mf hP hf' (by decide) (by decide), ?_, RS_mf hSk hf' (by decide) (by decide)⟩
        refine RB_upd (m := m) p1 p2 (mf_m1 hf' (by decide) p3) p5 p6 p7 p8 x1 (by omega) rfl x2 ?_ (fun j hj hji => ?_)
        · rw [show ((a1.toNat : Nat) : Int) = a1 by omega]
          obtain ⟨⟨k1, k2, k3, k4, k5, k6, k7, k8, k9⟩, k10, k11, k12⟩ := km
          refine ⟨kset v 6 (v 6 - a2), mv, rp, vf, vt, vw, ⟨r1, r2, r3, r4, r5, r6, ?_, r8, r9, fun j hj => ?_, r11, r12⟩, ⟨b4, ⟨⟨mf_m1 hf (by decide) s0, mf_m1 hf (by decide) s1, g5⟩, fun e e1 e2 => ?_, gb⟩, b6⟩, ⟨?_, ?_, ?_, ?_, ?_, ?_, ?_, ?_, ?_⟩, fun k e1 e2 => ?_, fun k e1 e2 => ?_, fun k e1 e2 => ?_⟩
          · show 0 ≤ v 6 - a2 ∧ v 6 - a2 ≤ 200
            omega
          · have hj : j < (v 6 - a2).toNat := hj
            exact r10 j (by omega)
          · have e2 : e < v 6 - a2 := e2
            show M' 4 _ = _
            rw [hf 4 (by decide)]; exact s4 e e1 (by omega)
          · rw [hf' 5 (by decide)]; exact k1
          · rw [hf' 6 (by decide)]; exact k2
          · rw [hf' 7 (by decide)]; exact k3
          · rw [hf' 8 (by decide)]; exact k4
          · rw [hf' 9 (by decide)]; exact k5
          · rw [hf' 10 (by decide)]; exact k6
          · rw [m11]; exact upd_eq _ _ _
          · rw [hf' 21 (by decide)]; exact k8
          · rw [hf' 23 (by decide)]; exact k9
          · have e2 : k < v 6 - a2 := e2
            rw [hf' 12 (by decide)]; exact k10 k e1 (by omega)
          · rw [hf' 22 (by decide)]; exact k11 k e1 e2
          · rw [hf' 24 (by decide), hf' 25 (by decide), hf' 26 (by decide)]; exact k12 k e1 e2
        · refine ⟨fun t ht => ?_, fun k h1 h2 => ?_, fun t k ht h1 h2 => ?_⟩
          · by_cases e : t = 11
            · subst e
              rw [m11]
              show (if ((j : Int)).toNat = a1.toNat then _ else m 11 _) = _
              rw [if_neg (by omega)]
            · rw [hf' t (by revert ht e; simp; omega)]
          · rw [hf' 12 (by decide)]
          · rw [hf' t (by revert ht; simp; omega)]
    · rw [if_neg c2]
      simp (disch := omega) only [zI_lit, zI_neg, zI_add, zI_sub, zI_mul, zI_div, q_md, zI_lt, zI_le, zI_eq, zI_clamp, zI_vp, forall_eq, mb_u_eq, mb_u_ne, upd_eq, q_if, q_ifn, if_pos, if_neg, true_and, and_true, if_true, if_false, q_demandArgument0]
      rw [hx]
      exact Or.inr (Or.inl ⟨rfl, m_unsew hN p3 (by omega) c l2 g2 kr km (fun _ => Qe_x h (by decide)) (fun z => absurd z c2) (fun _ z => absurd z c2)⟩)
  · refine Or.inr ?_
    unfold PX7_unsew_n
    refine b_off l1 g1 c p7 (Or.inl ⟨rfl, ?_⟩)
    unfold PX8_unsew PX8_unsew_33 PX8_unsew_42 PX8_unsew_43
    simp (disch := omega) only [zI_lit, zI_neg, zI_add, zI_sub, zI_mul, zI_div, q_md, zI_lt, zI_le, zI_eq, zI_clamp, zI_vp, forall_eq, mb_u_eq, mb_u_ne, upd_eq, q_if, q_ifn, if_pos, if_neg, true_and, and_true, if_true, if_false, q_isBook l1 g1 p3, q_in8, q_goes0, ite_self]
    exact Qe_x h (by decide)
/-- how many parts of gathering g have a stitch -/
def hq (st : Int) (f : Int → Int) (g : Int) : Int := sI (fun p => qb (0 < f (5 * g + p))) (st - 1).toNat
theorem q_stitchesAt {N : Nat} {M : mb_m} {f : Int → Int} {g p : Int} {K : Int32 → mb_m → Prop} (h : mr M 2 f 40) (hg : 0 ≤ g ∧ g < 8) (hp : 0 ≤ p ∧ p ≤ 4) : PX4_stitchesAt N M (zI g) (zI p) K = K (zI (f (5 * g + p))) M := by
  have w := h (5 * g + p) (by omega) (by omega)
  rw [show 5 * g + p = g * 5 + p by omega] at w
  unfold PX4_stitchesAt
  simp (disch := omega) only [zI_lit, zI_neg, zI_add, zI_sub, zI_mul, zI_div, q_md, zI_lt, zI_le, zI_eq, zI_clamp, zI_vp, forall_eq, mb_u_eq, mb_u_ne, upd_eq, q_if, q_ifn, if_pos, if_neg, true_and, and_true, if_true, if_false, w]
  rw [show g * 5 + p = 5 * g + p by omega]
theorem e_holds {N : Nat} {M : mb_m} {f : Int → Int} {st g : Int} {K : Int32 → mb_m → Prop} (hN : 700 ≤ N) (h : mr M 2 f 40) (h1 : m1 M 1 st) (hf : ∀ k, 0 ≤ f k ∧ f k ≤ 200) (hg : 0 ≤ g ∧ g < 8) (hs : 3 ≤ st ∧ st ≤ 6)
    (k1 : st / 2 ≤ hq st f g → K (zI 1) M) (k0 : ¬ st / 2 ≤ hq st f g → K (zI 0) M) : PX4_holds N M (zI g) K := by
  refine (q_for (σ := mb_m × Int32 × Int32 × Int32) (fun n s => PX4_holds_4 N K n s.1 s.2.1 s.2.2.1 s.2.2.2) (fun r0 s => PX4_holds_4_b N K (fun a0 a1 a2 a3 => r0 (a0, a1, a2, a3)) s.1 s.2.1 s.2.2.1 s.2.2.2) (fun _ _ => rfl))
    (fun i s => s.1 = M ∧ s.2.1 = zI g ∧ s.2.2.1 = zI (sI (fun p => qb (0 < f (5 * g + p))) i.toNat) ∧ s.2.2.2 = zI i ∧ 0 ≤ i) (st - 1) ?_ ?_ N 0 (M, _, _, _) (by omega) (by omega) ?_
  · rintro i ⟨M1, y1, y2, y3⟩ r hi hI hr
    dsimp only at hI hr ⊢
    obtain ⟨rfl, rfl, rfl, rfl, h0⟩ := hI
    have w1 : M1 1 0 = zI st := h1
    have hc := sI_qb (fun p => 0 < f (5 * g + p)) i.toNat
    have hst := sI_step (fun p => qb (0 < f (5 * g + p))) h0
    have hfi := hf (5 * g + i)
    have key : ∀ y : Int, y = qb (0 < f (5 * g + i)) → r (M1, zI g, zI (sI (fun p => qb (0 < f (5 * g + p))) i.toNat + y), zI (i + 1)) := by
      intro y hy
      exact hr _ ⟨rfl, rfl, by (try dsimp only); rw [hst, hy], rfl, by omega⟩
    unfold PX4_holds_4_b PX4_holds_29
    simp (disch := omega) only [zI_lit, zI_neg, zI_add, zI_sub, zI_mul, zI_div, q_md, zI_lt, zI_le, zI_eq, zI_clamp, zI_vp, forall_eq, mb_u_eq, mb_u_ne, upd_eq, q_if, q_ifn, if_pos, if_neg, true_and, and_true, if_true, if_false, w1, q_stitchesAt h hg]
    split
    · exact key 0 (qb_f (by omega)).symm
    · exact key 1 (qb_t (by omega)).symm
  · rintro ⟨M1, y1, y2, y3⟩ r hI
    dsimp only at hI ⊢
    obtain ⟨rfl, rfl, rfl, rfl, h0⟩ := hI
    have w1 : M1 1 0 = zI st := h1
    have hc := sI_qb (fun p => 0 < f (5 * g + p)) (st - 1).toNat
    unfold PX4_holds_4_b
    simp (disch := omega) only [zI_lit, zI_neg, zI_add, zI_sub, zI_mul, zI_div, q_md, zI_lt, zI_le, zI_eq, zI_clamp, zI_vp, forall_eq, mb_u_eq, mb_u_ne, upd_eq, q_if, q_ifn, if_pos, if_neg, true_and, and_true, if_true, if_false, w1]
    split
    · exact k0 (by unfold hq; omega)
    · exact k1 (by unfold hq; omega)
  · exact ⟨rfl, rfl, rfl, rfl, by omega⟩
theorem m_holds {N : Nat} {M : mb_m} {f : Int → Int} {a st g : Int} {K : Int32 → mb_m → Prop} (hN : 700 ≤ N) (ha : 0 ≤ a ∧ a < 4) (h : mr M 13 f 40) (h7 : M 7 a.toNat = zI st) (hf : ∀ k, 0 ≤ f k ∧ f k ≤ 200) (hg : 0 ≤ g ∧ g < 8) (hs : 3 ≤ st ∧ st ≤ 6)
    (k1 : st / 2 ≤ hq st f g → K (zI 1) M) (k0 : ¬ st / 2 ≤ hq st f g → K (zI 0) M) : PX8_holds N M (zI a) (zI g) K := by
  refine (q_for (σ := mb_m × Int32 × Int32 × Int32 × Int32) (fun n s => PX8_holds_5 N K n s.1 s.2.1 s.2.2.1 s.2.2.2.1 s.2.2.2.2) (fun r0 s => PX8_holds_5_b N K (fun a0 a1 a2 a3 a4 => r0 (a0, a1, a2, a3, a4)) s.1 s.2.1 s.2.2.1 s.2.2.2.1 s.2.2.2.2) (fun _ _ => rfl))
    (fun i s => s.1 = M ∧ s.2.1 = zI a ∧ s.2.2.1 = zI g ∧ s.2.2.2.1 = zI (sI (fun p => qb (0 < f (5 * g + p))) i.toNat) ∧ s.2.2.2.2 = zI i ∧ 0 ≤ i) (st - 1) ?_ ?_ N 0 (M, _, _, _, _) (by omega) (by omega) ?_
  · rintro i ⟨M1, y0, y1, y2, y3⟩ r hi hI hr
    dsimp only at hI hr ⊢
    obtain ⟨rfl, rfl, rfl, rfl, rfl, h0⟩ := hI
    have hc := sI_qb (fun p => 0 < f (5 * g + p)) i.toNat
    have hst := sI_step (fun p => qb (0 < f (5 * g + p))) h0
    have hfi := hf (5 * g + i)
    have w := h (5 * g + i) (by omega) (by omega)
    have key : ∀ y : Int, y = qb (0 < f (5 * g + i)) → r (M1, zI a, zI g, zI (sI (fun p => qb (0 < f (5 * g + p))) i.toNat + y), zI (i + 1)) := by
      intro y hy
      exact hr _ ⟨rfl, rfl, rfl, by (try dsimp only); rw [hst, hy], rfl, by omega⟩
    unfold PX8_holds_5_b PX8_holds_38
    simp (disch := omega) only [zI_lit, zI_neg, zI_add, zI_sub, zI_mul, zI_div, q_md, zI_lt, zI_le, zI_eq, zI_clamp, zI_vp, forall_eq, mb_u_eq, mb_u_ne, upd_eq, q_if, q_ifn, if_pos, if_neg, true_and, and_true, if_true, if_false, h7, w]
    split
    · exact key 0 (qb_f (by omega)).symm
    · exact key 1 (qb_t (by omega)).symm
  · rintro ⟨M1, y0, y1, y2, y3⟩ r hI
    dsimp only at hI ⊢
    obtain ⟨rfl, rfl, rfl, rfl, rfl, h0⟩ := hI
    have hc := sI_qb (fun p => 0 < f (5 * g + p)) (st - 1).toNat
    unfold PX8_holds_5_b
    simp (disch := omega) only [zI_lit, zI_neg, zI_add, zI_sub, zI_mul, zI_div, q_md, zI_lt, zI_le, zI_eq, zI_clamp, zI_vp, forall_eq, mb_u_eq, mb_u_ne, upd_eq, q_if, q_ifn, if_pos, if_neg, true_and, and_true, if_true, if_false, h7]
    split
    · exact k0 (by unfold hq; omega)
    · exact k1 (by unfold hq; omega)
  · exact ⟨rfl, rfl, rfl, rfl, rfl, by omega⟩
/-- a book is sewn -/
def swn (g st : Int) (t : ts) : Prop := t.2.2.2.2.2 = 0 ∧ (∀ k, 0 ≤ k → k < g → st / 2 ≤ hq st t.1 k) ∧ (∀ k, 0 ≤ k → k < g - 1 → 0 < t.2.1 k)
theorem e_isSewn {N : Nat} {M : mb_m} {t : ts} {g st n : Int} {K : Int32 → mb_m → Prop} (hN : 700 ≤ N) (hb : Bs M t) (hr : trg g st t n) (hn : 0 ≤ n ∧ n ≤ 200) (hg : 1 ≤ g ∧ g ≤ 8) (hs : 3 ≤ st ∧ st ≤ 6) (h0 : m1 M 0 g) (h1 : m1 M 1 st)
    (k1 : swn g st t → K (zI 1) M) (k0 : ¬ swn g st t → K (zI 0) M) : PX4_isSewn N M K := by
  obtain ⟨g2, g3, g9, g6, g7, g8⟩ := hb
  obtain ⟨a1, a2, a3, a4, a5, a6, a7, a8, a9, a10⟩ := hr
  have a9' : ∀ k, 0 ≤ t.1 k ∧ t.1 k ≤ 200 := fun k => by have := a9 k; omega
  have w8 : M 8 0 = zI t.2.2.2.2.2 := g8
  have L2 : ∀ b : Int, (b = 0 ∨ b = 1) → (b = 1 ↔ (t.2.2.2.2.2 = 0 ∧ (∀ k, 0 ≤ k → k < g → st / 2 ≤ hq st t.1 k))) → PX4_isSewn_49 N K N M (zI b) (zI 0) := by
    intro b hb1 hb2
    refine (q_for (σ := mb_m × Int32 × Int32) (fun n s => PX4_isSewn_49 N K n s.1 s.2.1 s.2.2) (fun r0 s => PX4_isSewn_49_b N K (fun a0 a1 a2 => r0 (a0, a1, a2)) s.1 s.2.1 s.2.2) (fun _ _ => rfl))
      (fun i s => s.1 = M ∧ (∃ b : Int, (b = 0 ∨ b = 1) ∧ (b = 1 ↔ (t.2.2.2.2.2 = 0 ∧ (∀ k, 0 ≤ k → k < g → st / 2 ≤ hq st t.1 k)) ∧ (∀ k, 0 ≤ k → k < i → 0 < t.2.1 k)) ∧ s.2.1 = zI b) ∧ s.2.2 = zI i ∧ 0 ≤ i) (g - 1) ?_ ?_ N 0 (M, _, _) (by omega) (by omega) ?_
    · rintro i ⟨M1, y1, y2⟩ r hi hI hr
      dsimp only at hI hr ⊢
      obtain ⟨rfl, ⟨b, b1, b2, rfl⟩, rfl, z0⟩ := hI
      have w0 : M1 0 0 = zI g := h0
      have w3 := g3 i z0 (by omega)
      have := a10 i
      unfold PX4_isSewn_49_b PX4_isSewn_85 PX4_isSewn_86
      simp (disch := omega) only [zI_lit, zI_neg, zI_add, zI_sub, zI_mul, zI_div, q_md, zI_lt, zI_le, zI_eq, zI_clamp, zI_vp, forall_eq, mb_u_eq, mb_u_ne, upd_eq, q_if, q_ifn, if_pos, if_neg, true_and, and_true, if_true, if_false, w0, w3]
      have f0 : ¬ (b = 1 ∧ 0 < t.2.1 i) → r (M1, zI 0, zI (i + 1)) := fun z => hr _ ⟨rfl, ⟨0, Or.inl rfl, ⟨fun e => by omega, fun e => absurd ⟨b2.mpr ⟨e.1, fun k k1 k2 => e.2 k k1 (by omega)⟩, e.2 i z0 (by omega)⟩ z⟩, rfl⟩, rfl, by omega⟩
      have f1 : b = 1 → 0 < t.2.1 i → r (M1, zI 1, zI (i + 1)) := fun z1 z2 => hr _ ⟨rfl, ⟨1, Or.inr rfl, ⟨fun _ => ⟨(b2.mp z1).1, fun k k1 k2 => by
        by_cases e : k = i
        · rw [e]; exact z2
        · exact (b2.mp z1).2 k k1 (by omega)⟩, fun _ => rfl⟩, rfl⟩, rfl, by omega⟩
      (repeat' split) <;> first | exact f0 (by omega) | exact f1 (by omega) (by omega)
    · rintro ⟨M1, y1, y2⟩ r hI
      dsimp only at hI ⊢
      obtain ⟨rfl, ⟨b, b1, b2, rfl⟩, rfl, z0⟩ := hI
      have w0 : M1 0 0 = zI g := h0
      unfold PX4_isSewn_49_b
      simp (disch := omega) only [zI_lit, zI_neg, zI_add, zI_sub, zI_mul, zI_div, q_md, zI_lt, zI_le, zI_eq, zI_clamp, zI_vp, forall_eq, mb_u_eq, mb_u_ne, upd_eq, q_if, q_ifn, if_pos, if_neg, true_and, and_true, if_true, if_false, w0]
      rcases b1 with rfl | rfl
      · exact ⟨Or.inl rfl, k0 (fun z => absurd (b2.mpr ⟨⟨z.1, z.2.1⟩, z.2.2⟩) (by omega))⟩
      · exact ⟨Or.inr rfl, k1 ⟨(b2.mp rfl).1.1, (b2.mp rfl).1.2, (b2.mp rfl).2⟩⟩
    · exact ⟨rfl, ⟨b, hb1, ⟨fun z => ⟨hb2.mp z, fun k k1 k2 => by omega⟩, fun z => hb2.mpr z.1⟩, rfl⟩, rfl, by omega⟩
  have L1 : ∀ b : Int, (b = 0 ∨ b = 1) → (b = 1 ↔ t.2.2.2.2.2 = 0) → PX4_isSewn_15 N K N M (zI b) (zI 0) := by
    intro b hb1 hb2
    refine (q_for (σ := mb_m × Int32 × Int32) (fun n s => PX4_isSewn_15 N K n s.1 s.2.1 s.2.2) (fun r0 s => PX4_isSewn_15_b N K (fun a0 a1 a2 => r0 (a0, a1, a2)) s.1 s.2.1 s.2.2) (fun _ _ => rfl))
      (fun i s => s.1 = M ∧ (∃ b : Int, (b = 0 ∨ b = 1) ∧ (b = 1 ↔ (t.2.2.2.2.2 = 0 ∧ (∀ k, 0 ≤ k → k < i → st / 2 ≤ hq st t.1 k))) ∧ s.2.1 = zI b) ∧ s.2.2 = zI i ∧ 0 ≤ i) g ?_ ?_ N 0 (M, _, _) (by omega) (by omega) ?_
    · rintro i ⟨M1, y1, y2⟩ r hi hI hr
      dsimp only at hI hr ⊢
      obtain ⟨rfl, ⟨b, b1, b2, rfl⟩, rfl, z0⟩ := hI
      have w0 : M1 0 0 = zI g := h0
      have f0 : ¬ (b = 1 ∧ st / 2 ≤ hq st t.1 i) → r (M1, zI 0, zI (i + 1)) := fun z => hr _ ⟨rfl, ⟨0, Or.inl rfl, ⟨fun e => by omega, fun e => absurd ⟨b2.mpr ⟨e.1, fun k k1 k2 => e.2 k k1 (by omega)⟩, e.2 i z0 (by omega)⟩ z⟩, rfl⟩, rfl, by omega⟩
      have f1 : b = 1 → st / 2 ≤ hq st t.1 i → r (M1, zI 1, zI (i + 1)) := fun z1 z2 => hr _ ⟨rfl, ⟨1, Or.inr rfl, ⟨fun _ => ⟨(b2.mp z1).1, fun k k1 k2 => by
        by_cases e : k = i
        · rw [e]; exact z2
        · exact (b2.mp z1).2 k k1 (by omega)⟩, fun _ => rfl⟩, rfl⟩, rfl, by omega⟩
      unfold PX4_isSewn_15_b PX4_isSewn_39 PX4_isSewn_40
      rcases b1 with rfl | rfl
      · simp (disch := omega) only [zI_lit, zI_neg, zI_add, zI_sub, zI_mul, zI_div, q_md, zI_lt, zI_le, zI_eq, zI_clamp, zI_vp, forall_eq, mb_u_eq, mb_u_ne, upd_eq, q_if, q_ifn, if_pos, if_neg, true_and, and_true, if_true, if_false, w0]
        exact f0 (by omega)
      · simp (disch := omega) only [zI_lit, zI_neg, zI_add, zI_sub, zI_mul, zI_div, q_md, zI_lt, zI_le, zI_eq, zI_clamp, zI_vp, forall_eq, mb_u_eq, mb_u_ne, upd_eq, q_if, q_ifn, if_pos, if_neg, true_and, and_true, if_true, if_false, w0]
        refine e_holds hN g2 h1 a9' (by omega) hs (fun z => ?_) (fun z => ?_)
        · simp (disch := omega) only [zI_lit, zI_neg, zI_add, zI_sub, zI_mul, zI_div, q_md, zI_lt, zI_le, zI_eq, zI_clamp, zI_vp, forall_eq, mb_u_eq, mb_u_ne, upd_eq, q_if, q_ifn, if_pos, if_neg, true_and, and_true, if_true, if_false]
          exact f1 rfl z
        · simp (disch := omega) only [zI_lit, zI_neg, zI_add, zI_sub, zI_mul, zI_div, q_md, zI_lt, zI_le, zI_eq, zI_clamp, zI_vp, forall_eq, mb_u_eq, mb_u_ne, upd_eq, q_if, q_ifn, if_pos, if_neg, true_and, and_true, if_true, if_false]
          exact f0 (fun e => z e.2)
    · rintro ⟨M1, y1, y2⟩ r hI
      dsimp only at hI ⊢
      obtain ⟨rfl, ⟨b, b1, b2, rfl⟩, rfl, z0⟩ := hI
      have w0 : M1 0 0 = zI g := h0
      unfold PX4_isSewn_15_b
      simp (disch := omega) only [zI_lit, zI_neg, zI_add, zI_sub, zI_mul, zI_div, q_md, zI_lt, zI_le, zI_eq, zI_clamp, zI_vp, forall_eq, mb_u_eq, mb_u_ne, upd_eq, q_if, q_ifn, if_pos, if_neg, true_and, and_true, if_true, if_false, w0]
      exact L2 b b1 b2
    · exact ⟨rfl, ⟨b, hb1, ⟨fun z => ⟨hb2.mp z, fun k k1 k2 => by omega⟩, fun z => hb2.mpr z.1⟩, rfl⟩, rfl, by omega⟩
  unfold PX4_isSewn PX4_isSewn_12
  simp (disch := omega) only [zI_lit, zI_neg, zI_add, zI_sub, zI_mul, zI_div, q_md, zI_lt, zI_le, zI_eq, zI_clamp, zI_vp, forall_eq, mb_u_eq, mb_u_ne, upd_eq, q_if, q_ifn, if_pos, if_neg, true_and, and_true, if_true, if_false, w8]
  split
  · exact L1 1 (by omega) (by omega)
  · exact L1 0 (by omega) (by omega)
theorem m_isSewn {N : Nat} {M : mb_m} {t : ts} {a g st n : Int} {K : Int32 → mb_m → Prop} (hN : 700 ≤ N) (ha : 0 ≤ a ∧ a < 4) (hb : Tm M t) (hr : trg g st t n) (hn : 0 ≤ n ∧ n ≤ 200) (hg : 1 ≤ g ∧ g ≤ 8) (hs : 3 ≤ st ∧ st ≤ 6) (h5 : M 5 a.toNat = zI g) (h7 : M 7 a.toNat = zI st)
    (k1 : swn g st t → K (zI 1) M) (k0 : ¬ swn g st t → K (zI 0) M) : PX8_isSewn N M (zI a) K := by
  obtain ⟨g13, g14, g15, g16, g17, g18⟩ := hb
  obtain ⟨a1, a2, a3, a4, a5, a6, a7, a8, a9, a10⟩ := hr
  have a9' : ∀ k, 0 ≤ t.1 k ∧ t.1 k ≤ 200 := fun k => by have := a9 k; omega
  have w18 : M 18 0 = zI t.2.2.2.2.2 := g18
  have L1 : ∀ b : Int, (b = 0 ∨ b = 1) → (b = 1 ↔ t.2.2.2.2.2 = 0) → PX8_isSewn_15 N K N M (zI a) (zI b) (zI 0) := by
    intro b hb1 hb2
    refine (q_for (σ := mb_m × Int32 × Int32 × Int32) (fun n s => PX8_isSewn_15 N K n s.1 s.2.1 s.2.2.1 s.2.2.2) (fun r0 s => PX8_isSewn_15_b N K (fun a0 a1 a2 a3 => r0 (a0, a1, a2, a3)) s.1 s.2.1 s.2.2.1 s.2.2.2) (fun _ _ => rfl))
      (fun i s => s.1 = M ∧ s.2.1 = zI a ∧ (∃ b : Int, (b = 0 ∨ b = 1) ∧ (b = 1 ↔ (t.2.2.2.2.2 = 0 ∧ (∀ k, 0 ≤ k → k < i → st / 2 ≤ hq st t.1 k) ∧ (∀ k, 0 ≤ k → k < i → k < g - 1 → 0 < t.2.1 k))) ∧ s.2.2.1 = zI b) ∧ s.2.2.2 = zI i ∧ 0 ≤ i) g ?_ ?_ N 0 (M, _, _, _) (by omega) (by omega) ?_
    · rintro i ⟨M1, y0, y1, y2⟩ r hi hI hr
      dsimp only at hI hr ⊢
      obtain ⟨rfl, rfl, ⟨b, b1, b2, rfl⟩, rfl, z0⟩ := hI
      have w14 := g14 i z0 (by omega)
      (try dsimp only at w14)
      have f0 : ¬ (b = 1 ∧ st / 2 ≤ hq st t.1 i ∧ (i < g - 1 → 0 < t.2.1 i)) → r (M1, zI a, zI 0, zI (i + 1)) := fun z => hr _ ⟨rfl, rfl, ⟨0, Or.inl rfl, ⟨fun e => by omega, fun e => absurd ⟨b2.mpr ⟨e.1, fun k k1 k2 => e.2.1 k k1 (by omega), fun k k1 k2 k3 => e.2.2 k k1 (by omega) k3⟩, e.2.1 i z0 (by omega), e.2.2 i z0 (by omega)⟩ z⟩, rfl⟩, rfl, by omega⟩
      have f1 : b = 1 → st / 2 ≤ hq st t.1 i → (i < g - 1 → 0 < t.2.1 i) → r (M1, zI a, zI 1, zI (i + 1)) := fun z1 z2 z3 => hr _ ⟨rfl, rfl, ⟨1, Or.inr rfl, ⟨fun _ => ⟨(b2.mp z1).1, fun k k1 k2 => by
        by_cases e : k = i
        · rw [e]; exact z2
        · exact (b2.mp z1).2.1 k k1 (by omega), fun k k1 k2 k3 => by
        by_cases e : k = i
        · rw [e]; exact z3 (by omega)
        · exact (b2.mp z1).2.2 k k1 (by omega) k3⟩, fun _ => rfl⟩, rfl⟩, rfl, by omega⟩
      unfold PX8_isSewn_15_b PX8_isSewn_63 PX8_isSewn_59 PX8_isSewn_64
      rcases b1 with rfl | rfl
      · simp (disch := omega) only [zI_lit, zI_neg, zI_add, zI_sub, zI_mul, zI_div, q_md, zI_lt, zI_le, zI_eq, zI_clamp, zI_vp, forall_eq, mb_u_eq, mb_u_ne, upd_eq, q_if, q_ifn, if_pos, if_neg, true_and, and_true, if_true, if_false, h5]
        exact f0 (by omega)
      · simp (disch := omega) only [zI_lit, zI_neg, zI_add, zI_sub, zI_mul, zI_div, q_md, zI_lt, zI_le, zI_eq, zI_clamp, zI_vp, forall_eq, mb_u_eq, mb_u_ne, upd_eq, q_if, q_ifn, if_pos, if_neg, true_and, and_true, if_true, if_false, h5]
        refine m_holds hN ha g13 h7 a9' (by omega) hs (fun z => ?_) (fun z => ?_)
        · have hq := qb_rng (p := 0 < t.2.1 i)
          simp (disch := omega) only [zI_lit, zI_neg, zI_add, zI_sub, zI_mul, zI_div, q_md, zI_lt, zI_le, zI_eq, zI_clamp, zI_vp, forall_eq, mb_u_eq, mb_u_ne, upd_eq, q_if, q_ifn, if_pos, if_neg, true_and, and_true, if_true, if_false, h5, w14]
          split
          · exact f1 rfl z (by omega)
          · by_cases y : 0 < t.2.1 i
            · rw [qb_t y]
              simp (disch := omega) only [zI_lit, zI_neg, zI_add, zI_sub, zI_mul, zI_div, q_md, zI_lt, zI_le, zI_eq, zI_clamp, zI_vp, forall_eq, mb_u_eq, mb_u_ne, upd_eq, q_if, q_ifn, if_pos, if_neg, true_and, and_true, if_true, if_false]
              exact f1 rfl z (fun _ => y)
            · rw [qb_f y]
              simp (disch := omega) only [zI_lit, zI_neg, zI_add, zI_sub, zI_mul, zI_div, q_md, zI_lt, zI_le, zI_eq, zI_clamp, zI_vp, forall_eq, mb_u_eq, mb_u_ne, upd_eq, q_if, q_ifn, if_pos, if_neg, true_and, and_true, if_true, if_false]
              exact f0 (fun e => y (e.2.2 (by omega)))
        · simp (disch := omega) only [zI_lit, zI_neg, zI_add, zI_sub, zI_mul, zI_div, q_md, zI_lt, zI_le, zI_eq, zI_clamp, zI_vp, forall_eq, mb_u_eq, mb_u_ne, upd_eq, q_if, q_ifn, if_pos, if_neg, true_and, and_true, if_true, if_false]
          exact f0 (fun e => z e.2.1)
    · rintro ⟨M1, y0, y1, y2⟩ r hI
      dsimp only at hI ⊢
      obtain ⟨rfl, rfl, ⟨b, b1, b2, rfl⟩, rfl, z0⟩ := hI
      unfold PX8_isSewn_15_b
      simp (disch := omega) only [zI_lit, zI_neg, zI_add, zI_sub, zI_mul, zI_div, q_md, zI_lt, zI_le, zI_eq, zI_clamp, zI_vp, forall_eq, mb_u_eq, mb_u_ne, upd_eq, q_if, q_ifn, if_pos, if_neg, true_and, and_true, if_true, if_false, h5]
      rcases b1 with rfl | rfl
      · exact ⟨Or.inl rfl, k0 (fun z => absurd (b2.mpr ⟨z.1, z.2.1, fun k k1 _ k3 => z.2.2 k k1 k3⟩) (by omega))⟩
      · exact ⟨Or.inr rfl, k1 ⟨(b2.mp rfl).1, (b2.mp rfl).2.1, fun k k1 k2 => (b2.mp rfl).2.2 k k1 (by omega) k2⟩⟩
    · exact ⟨rfl, rfl, ⟨b, hb1, ⟨fun z => ⟨hb2.mp z, fun k k1 k2 => by omega, fun k k1 k2 => by omega⟩, fun z => hb2.mpr z.1⟩, rfl⟩, rfl, by omega⟩
  unfold PX8_isSewn PX8_isSewn_12
  simp (disch := omega) only [zI_lit, zI_neg, zI_add, zI_sub, zI_mul, zI_div, q_md, zI_lt, zI_le, zI_eq, zI_clamp, zI_vp, forall_eq, mb_u_eq, mb_u_ne, upd_eq, q_if, q_ifn, if_pos, if_neg, true_and, and_true, if_true, if_false, w18]
  split
  · exact L1 1 (by omega) (by omega)
  · exact L1 0 (by omega) (by omega)
