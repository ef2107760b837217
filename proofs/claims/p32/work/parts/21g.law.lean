theorem Iv_mono {b : mb_bs} {F : mb_m} {T T' : Int} (h : Iv b F T) (ht : T ≤ T') : Iv b F T' := by
  obtain ⟨C, S, np, pr, nb, bk, ns, sk, h1, h2, h3, h4⟩ := h
  exact ⟨C, S, np, pr, nb, bk, ns, sk, h1, h2, h3, fun j hj => Int.le_trans (h4 j hj) ht⟩
theorem FI_5 {F : mb_m} {np nb i : Nat} {bk : Nat → vk} {ns : Nat} {sk : Int → Int → Int} {x : Int32} (h : FI F np nb bk ns sk) : FI (mb_u F 1 (upd (F 1) (6 * (i : Int) + 5).toNat x)) np nb bk ns sk := by
  obtain ⟨h1, h2, h3, h4, h5⟩ := h
  refine ⟨h1, fun j hj => ?_, h3, h4, h5⟩
  simp (maxSteps := 1000000) (disch := omega) only [mb_u_eq, upd_ne]
  exact h2 j hj
section AC
variable {N : Nat} {b : mb_bs} {F : mb_m} {C S : Int → Int} {np : Nat} {pr : Int → Int → Int} {nb : Nat} {bk : Nat → vk} {ns : Nat} {sk : Int → Int → Int} {K : Int32 → mb_S → Prop} {T : Int} {i : Nat} {x y : Int32}
theorem FI_q {F : mb_m} (h : FI F np nb bk ns sk) {q : vk} (hq : ∀ j : Nat, j < 5 ∨ j = 6 ∨ j = 7 → q.1 j = (bk i).1 j) : FI F np nb (bset bk i q) ns sk := FI_bset h hq
/-- the back of a book, in the law's own words -/
theorem l_back {w : Int} {M : mb_m} {b1 : mb_bs} (hN : 700 ≤ N) (hI : Iw b F C S np pr nb bk ns sk T) (hi : i < nb) (hw : 0 ≤ w ∧ w ≤ 2) (hwy : w = lw y 3) (hM : M = mb_u F 1 (upd (F 1) (6 * (i : Int) + 5).toNat (zI w))) {v : kN} {mv rp vf vt vw : Int → Int} (hq : bk i = (v, mv, rp, vf, vt, vw)) (hV1 : Vw b1 C S np pr nb (bset bk i (kset v 5 w, mv, rp, vf, vt, vw)) ns sk) (hK : ∀ b' F', Iv b' F' T → K (zI 1) (b', F')) :
    LP_back N b1 M (zI i) (zI w) (fun r169 u169 => if r169 = u169.2 1 (6 * (i : Int) + 5).toNat then LP_strain N u169.1 u169.2 (zI i) (zI 1) (fun r188 u188 => LP_swelling N u188.1 u188.2 (zI i) (fun r194 u194 => if lw y 3 = 0 then PL_acts_225 N K u194.2 u194.1 (zI 4) (u194.2 1 (6 * (i : Int) + 3).toNat) r194 r188 else PL_acts_225 N K u194.2 u194.1 (zI (lw y 3)) (u194.2 1 (6 * (i : Int) + 3).toNat) r194 r188)) else K (zI 0) (u169.1, u169.2)) := by
  obtain ⟨hV, hz, hF, hT⟩ := id hI
  obtain ⟨⟨f00, f01, f02⟩, fb, fm, fz, fk⟩ := id hF
  have hp4 : nb ≤ 4 := hV.2.2.1.1
  obtain ⟨kr, -⟩ := (hV.2.2.1.2.2.2.1 i hi).choose_spec.2.2
  rw [hq] at kr
  (try dsimp only at kr)
  have al := all_rng kr
  obtain ⟨r1, r2, r3, r4, r5, r6, r7, r8, r9, r10, r11, r12⟩ := id kr
  have fbi := fb i hi
  rw [hq] at fbi
  (try dsimp only at fbi)
  obtain ⟨b0, b1', b2, b3, b4⟩ := fbi
  have g5 : M 1 (6 * (i : Int) + 5).toNat = zI w := by rw [hM, mb_u_eq]; exact upd_eq _ _ _
  have g3 : M 1 (6 * (i : Int) + 3).toNat = zI (v 3) := by rw [hM, mb_u_eq, upd_ne (by omega)]; exact b3
  have hFM : FI M np nb bk ns sk := by rw [hM]; exact FI_5 hF
  clear hM
  have hq1 : (bset bk i (kset v 5 w, mv, rp, vf, vt, vw)) i = (kset v 5 w, mv, rp, vf, vt, vw) := if_pos rfl
  refine t_back hN hV1 hi hq1 hw (fun b2' hV2 => ?_)
  rw [bset_bset] at hV2
  rw [show (kset v 5 w) 5 = w from if_pos rfl]
  have hq2 : (bset bk i (kset (kset v 5 w) 5 w, mv, rp, vf, vt, vw)) i = (kset (kset v 5 w) 5 w, mv, rp, vf, vt, vw) := if_pos rfl
  (try dsimp only)
  rw [if_pos g5.symm]
  have e0 : (kset (kset v 5 w) 5 w) 0 = v 0 := rfl
  have e1 : (kset (kset v 5 w) 5 w) 1 = v 1 := rfl
  refine t_strain hN hV2 hi hq2 (by rw [e0, e1]; omega) ?_
  (try dsimp only)
  refine t_swelling hN hV2 hi hq2 ?_
  (try dsimp only)
  rw [g3]
  have ebd : bdI (kset (kset v 5 w) 5 w) 1 = v 3 * (if w = 0 then 4 else w) := by
    have e3 : (kset (kset v 5 w) 5 w) 3 = v 3 := rfl
    have e5 : (kset (kset v 5 w) 5 w) 5 = w := if_pos rfl
    unfold bdI
    rw [e0, e1, e3, e5]
    have : (if v 0 * v 1 - 1 ≤ 1 then v 0 * v 1 - 1 else 1) = 1 := by split <;> omega
    rw [this, Int.one_mul]
    congr 1
    unfold sfI
    (repeat' split) <;> omega
  rw [ebd]
  generalize 3 * swI (tr mv ((kset (kset v 5 w) 5 w) 6).toNat).1 ((kset (kset v 5 w) 5 w) 0).toNat = sw
  have hIv : Iv b2' M T := Iw_iv (T := T) ⟨hV2, hz, FI_q (i := i) hFM (fun j hj => by
    rw [hq]
    show (if j = 5 then _ else (if j = 5 then _ else v j)) = v j
    rw [if_neg (by omega), if_neg (by omega)]), fun j hj => by
      unfold bset
      by_cases e : j = i
      · rw [if_pos e]
        have := hT j hj
        rw [e, hq] at this
        exact this
      · rw [if_neg e]; exact hT j hj⟩
  unfold PL_acts_225
  rw [← hwy]
  by_cases c : w = 0
  · rw [if_pos c, if_pos c, zI_mul, zI_add, show v 3 * 4 + sw = sw + v 3 * 4 by omega]
    exact ⟨fun z => absurd rfl z, fun _ => hK _ _ hIv⟩
  · rw [if_neg c, if_neg c, zI_mul, zI_add, show v 3 * w + sw = sw + v 3 * w by omega]
    exact ⟨fun z => absurd rfl z, fun _ => hK _ _ hIv⟩
set_option maxHeartbeats 8000000 in
theorem l_acts (hN : 700 ≤ N) (hI : Iw b F C S np pr nb bk ns sk T) (hT0 : 0 ≤ T ∧ T < 190) (hK : ∀ b' F', Iv b' F' (T + 1) → K (zI 1) (b', F')) : PL_acts N F b x y K := by
  obtain ⟨hV, hz, hF, hT⟩ := id hI
  obtain ⟨⟨f00, f01, f02⟩, fb, fm, fz, fk⟩ := id hF
  have hp4 : nb ≤ 4 := hV.2.2.1.1
  have hp3 : ns ≤ 3 := hV.2.2.2.1
  have hB : ∀ (b' : mb_bs) (F' : mb_m), Iv b' F' T → mb_isB (zI 1) ∧ K (zI 1) (b', F') := fun b' F' h => ⟨Or.inr rfl, hK _ _ (Iv_mono h (by omega))⟩
  have hB1 : ∀ (b' : mb_bs) (F' : mb_m), Iv b' F' (T + 1) → mb_isB (zI 1) ∧ K (zI 1) (b', F') := fun b' F' h => ⟨Or.inr rfl, hK _ _ h⟩
  have h27 : PL_acts_27 N K F b x y := by
    unfold PL_acts_27
    exact l_begins hN hI hT0.1 hB
  have a1 := lw_rng (x := x) (n := 20) (by omega)
  have g01 : F 0 (1 : Int32).toNatClampNeg = zI nb := f01
  have g02 : F 0 (2 : Int32).toNatClampNeg = zI ns := f02
  have v1 : vp_in (1 : Int32) 3 := by unfold vp_in; decide
  have v2 : vp_in (2 : Int32) 3 := by unfold vp_in; decide
  have z0 : ∀ n : Nat, n ≤ 4 → ¬ zI (n : Int) = 0 → 1 ≤ n := fun n h4 h => by
    rw [show (0 : Int32) = zI 0 from rfl, zI_eq (by omega) (by omega) (by omega) (by omega)] at h
    omega
  unfold PL_acts
  rw [show (20 : Int32) = zI 20 from rfl, q_low (by omega) (by omega), g01, g02]
  generalize zI (lw x 20) = r4
  refine ⟨fun _ => h27, fun _ => ⟨v1, fun _ => h27, fun c0 => ⟨v2, fun c1 => ⟨fun _ => ⟨fun _ => ⟨v1, ?_⟩, fun _ => l_arePages hN hV (hB _ _ (Iw_iv hI))⟩, fun _ => l_paints hN hI hB⟩, fun _ => h27⟩⟩⟩
  have n0 := z0 nb hp4 c0
  have n1 := z0 ns (by omega) c1
  rw [q_low (by omega) (by omega)]
  have a2 := lw_rng (x := x >>> ((5 : Int32) &&& 31)) (n := nb) (by omega)
  obtain ⟨i, hi⟩ := Int.eq_ofNat_of_zero_le a2.1
  rw [hi] at a2 ⊢
  have hin : i < nb := by omega
  refine ⟨fun _ => ⟨fun _ => ⟨fun _ => ⟨fun _ => ⟨fun _ => l_isBook hN hV hF hin (hB _ _ (Iw_iv hI)), fun _ => l_speaks hN hI hin hB⟩, fun _ => l_repairs hN hI hin hB⟩, fun _ => ⟨v2, ?_⟩⟩, fun _ => ?_⟩, fun _ => l_sews hN hI hin hT0 hB1⟩
  · rw [q_low (by omega) (by omega)]
    have a3 := lw_rng (x := x >>> ((5 : Int32) &&& 31)) (n := ns) (by omega)
    obtain ⟨j, hj⟩ := Int.eq_ofNat_of_zero_le a3.1
    rw [hj] at a3 ⊢
    exact l_pares hN hI (by omega) hB
  · have a4 := lw_rng (x := y) (n := 3) (by omega)
    obtain ⟨q, hq⟩ : ∃ q, bk i = q := ⟨_, rfl⟩
    obtain ⟨v, mv, rp, vf, vt, vw⟩ := q
    obtain ⟨kr, -⟩ := (hV.2.2.1.2.2.2.1 i hin).choose_spec.2.2
    rw [hq] at kr
    (try dsimp only at kr)
    have r6 := kr.2.2.2.2.2.1
    rw [show (3 : Int32) = zI 3 from rfl, q_low (by omega) (by omega)]
    refine t_back hN hV hin hq (by omega) (fun b1 hV1 => ?_)
    (try dsimp only)
    simp (maxSteps := 1000000) (disch := omega) only [zI_lit, zI_neg, zI_add, zI_sub, zI_mul, zI_div, q_md, zI_lt, zI_le, zI_eq, zI_clamp, zI_vp, forall_eq, mb_u_eq, mb_u_ne, upd_eq, q_if, q_ifn, if_pos, if_neg, true_and, and_true, if_true, if_false, q_low]
    exact l_back hN hI hin (by omega) rfl rfl hq hV1 (fun b' F' h => hK _ _ (Iv_mono h (by omega)))
end AC
