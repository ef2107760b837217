/-! THE LAW'S METHODS: each answers 1 -/
theorem FI_bset {F : mb_m} {np nb i : Nat} {bk : Nat → vk} {ns : Nat} {sk : Int → Int → Int} {q : vk} (h : FI F np nb bk ns sk) (hq : ∀ j : Nat, j < 5 ∨ j = 6 ∨ j = 7 → q.1 j = (bk i).1 j) : FI F np nb (bset bk i q) ns sk := by
  obtain ⟨h1, h2, h3, h4⟩ := h
  have e : ∀ (j k : Nat), k < 5 ∨ k = 6 ∨ k = 7 → ((bset bk i q) j).1 k = (bk j).1 k := by
    intro j k hk
    unfold bset
    by_cases z : j = i
    · rw [if_pos z, z]; exact hq k hk
    · rw [if_neg z]
  refine ⟨h1, fun j hj => ?_, fun j hj => ?_, h4⟩
  · rw [e j 0 (by omega), e j 1 (by omega), e j 2 (by omega), e j 3 (by omega), e j 4 (by omega)]; exact h2 j hj
  · rw [e j 6 (by omega), e j 7 (by omega)]; exact h3 j hj
theorem Iw_upd {b b' : mb_bs} {F : mb_m} {C S : Int → Int} {np : Nat} {pr : Int → Int → Int} {nb i : Nat} {bk : Nat → vk} {ns : Nat} {sk : Int → Int → Int} {T : Int} {q : vk} (h : Iw b F C S np pr nb bk ns sk T) (hV : Vw b' C S np pr nb (bset bk i q) ns sk) (hq : ∀ j : Nat, j < 5 ∨ j = 6 ∨ j = 7 → q.1 j = (bk i).1 j) : Iw b' F C S np pr nb (bset bk i q) ns sk T := by
  obtain ⟨h1, h2, h3, h4⟩ := h
  refine ⟨hV, h2, FI_bset h3 hq, fun j hj => ?_⟩
  unfold bset
  by_cases z : j = i
  · rw [if_pos z, hq 6 (by omega), ← z]; exact h4 j hj
  · rw [if_neg z]; exact h4 j hj
theorem Iw_iv {b : mb_bs} {F : mb_m} {C S : Int → Int} {np : Nat} {pr : Int → Int → Int} {nb : Nat} {bk : Nat → vk} {ns : Nat} {sk : Int → Int → Int} {T : Int} (h : Iw b F C S np pr nb bk ns sk T) : Iv b F T := ⟨C, S, np, pr, nb, bk, ns, sk, h⟩
theorem l_coloured {N : Nat} {b : mb_bs} {F : mb_m} {C S : Int → Int} {np : Nat} {pr : Int → Int → Int} {nb : Nat} {bk : Nat → vk} {ns : Nat} {sk : Int → Int → Int} {K : Int32 → mb_S → Prop} (hN : 700 ≤ N) (hV : Vw b C S np pr nb bk ns sk) (hz : zS C S) (hK : K (zI (cnt C)) (b, F)) : PL_coloured N F b K := by
  obtain ⟨hA, hR⟩ := id hV
  have hR0 : bR C S := hA.1
  unfold PL_coloured
  refine (q_for (σ := mb_m × mb_bs × Int32 × Int32) (fun n s => PL_coloured_4 N K n s.1 s.2.1 s.2.2.1 s.2.2.2) (fun r0 s => PL_coloured_4_b N K (fun a0 a1 a2 a3 => r0 (a0, a1, a2, a3)) s.1 s.2.1 s.2.2.1 s.2.2.2) (fun _ _ => rfl)) (fun i s => s.1 = F ∧ s.2.1 = b ∧ s.2.2.1 = zI (sI (fun k => qb (0 < C k)) i.toNat) ∧ s.2.2.2 = zI i ∧ 0 ≤ i) 64 ?_ ?_ 65 0 (F, b, _, _) (by omega) (by omega) ?_
  · rintro i ⟨F1, b1, y1, y2⟩ r hi hI hr
    dsimp only at hI hr ⊢
    obtain ⟨e1, e2, rfl, rfl, h0⟩ := hI
    rw [e1, e2]
    have hb := hR0 i h0 hi
    have hz1 := hz i h0 hi
    have e8 : 8 * (i / 8) + i % 8 = i := by omega
    unfold PL_coloured_4_b PL_coloured_65 PL_coloured_79 PL_coloured_82
    simp (disch := omega) only [zI_lit, zI_neg, zI_add, zI_sub, zI_mul, zI_div, q_md, zI_lt, zI_le, zI_eq, zI_clamp, zI_vp, forall_eq, mb_u_eq, mb_u_ne, upd_eq, q_if, q_ifn, if_pos, if_neg, true_and, and_true, if_true, if_false]
    refine t_cellAt0 hN hV (by omega) (by omega) ?_
    rw [e8]
    (try dsimp only)
    refine t_cellAt1 hN hV (by omega) (by omega) ?_
    rw [e8]
    (try dsimp only)
    have hs := sI_step (fun k => qb (0 < C k)) h0
    (try dsimp only at hs)
    by_cases c : 0 < C i
    · rw [qb_t c] at hs
      simp (disch := omega) only [zI_lit, zI_neg, zI_add, zI_sub, zI_mul, zI_div, q_md, zI_lt, zI_le, zI_eq, zI_clamp, zI_vp, forall_eq, mb_u_eq, mb_u_ne, upd_eq, q_if, q_ifn, if_pos, if_neg, true_and, and_true, if_true, if_false]
      exact hr _ ⟨rfl, rfl, by (try dsimp only); rw [hs], rfl, by omega⟩
    · rw [qb_f c] at hs
      simp (disch := omega) only [zI_lit, zI_neg, zI_add, zI_sub, zI_mul, zI_div, q_md, zI_lt, zI_le, zI_eq, zI_clamp, zI_vp, forall_eq, mb_u_eq, mb_u_ne, upd_eq, q_if, q_ifn, if_pos, if_neg, true_and, and_true, if_true, if_false]
      exact hr _ ⟨rfl, rfl, by (try dsimp only); rw [hs], rfl, by omega⟩
  · rintro ⟨F1, b1, y1, y2⟩ r hI
    dsimp only at hI ⊢
    obtain ⟨e1, e2, rfl, rfl, h0⟩ := hI
    rw [e1, e2]
    unfold PL_coloured_4_b
    simp (disch := omega) only [zI_lit, zI_neg, zI_add, zI_sub, zI_mul, zI_div, q_md, zI_lt, zI_le, zI_eq, zI_clamp, zI_vp, forall_eq, mb_u_eq, mb_u_ne, upd_eq, q_if, q_ifn, if_pos, if_neg, true_and, and_true, if_true, if_false]
    exact hK
  · exact ⟨rfl, rfl, rfl, rfl, by omega⟩
theorem l_arePages {N : Nat} {b : mb_bs} {F : mb_m} {C S : Int → Int} {np : Nat} {pr : Int → Int → Int} {nb : Nat} {bk : Nat → vk} {ns : Nat} {sk : Int → Int → Int} {K : Int32 → mb_S → Prop} (hN : 700 ≤ N) (hV : Vw b C S np pr nb bk ns sk) {y : Int32} (hK : K (zI 1) (b, F)) : PL_arePages N F b y K := by
  unfold PL_arePages
  simp (disch := omega) only [zI_lit, zI_neg, zI_add, zI_sub, zI_mul, zI_div, q_md, zI_lt, zI_le, zI_eq, zI_clamp, zI_vp, forall_eq, mb_u_eq, mb_u_ne, upd_eq, q_if, q_ifn, if_pos, if_neg, true_and, and_true, if_true, if_false, q_low]
  have r1 := lw_rng (x := y) (n := 4) (by omega)
  generalize lw y 4 = f0 at r1 ⊢
  obtain ⟨f, rfl⟩ : ∃ f, f0 = f - 1 := ⟨f0 + 1, by omega⟩
  rw [show 1 + (f - 1) = f by omega]
  have hf : 1 ≤ f ∧ f ≤ 4 := by omega
  have hf4 : f = 1 ∨ f = 2 ∨ f = 3 ∨ f = 4 := by omega
  obtain ⟨t1, t2, t3, -⟩ := cr_tot hf
  have k1 := cls_rng f
  have k2 := rws_rng f
  simp (disch := omega) only [zI_lit, zI_neg, zI_add, zI_sub, zI_mul, zI_div, q_md, zI_lt, zI_le, zI_eq, zI_clamp, zI_vp, forall_eq, mb_u_eq, mb_u_ne, upd_eq, q_if, q_ifn, if_pos, if_neg, true_and, and_true, if_true, if_false, and31 f hf4, q_low]
  have r2 := lw_rng (x := y >>> (zI 2 &&& zI 31)) (n := 2 * cls f * rws f) (by omega)
  generalize lw (y >>> (zI 2 &&& zI 31)) (2 * cls f * rws f) = p0 at r2 ⊢
  obtain ⟨p, rfl⟩ : ∃ p, p0 = p - 1 := ⟨p0 + 1, by omega⟩
  rw [show 1 + (p - 1) = p by omega]
  refine t_placeOf hN hV hf (by omega) (fun c r d h1 h2 h3 => ?_)
  (try dsimp only)
  obtain ⟨g1, g2, g3, g4, g5, g6⟩ := id h1
  have hm := q_mate h1
  have e1 : (100 * d + 10 * r + c) % 10 = c := by omega
  have e2 : (100 * d + 10 * r + c) / 10 % 10 = r := by omega
  have key : ∀ m : Int, (p % 2 = 1 ∧ m = p + 1) ∨ (¬ p % 2 = 1 ∧ m = p - 1) → PL_arePages_46 N K F b (zI f) (zI p) (zI (100 * d + 10 * r + c)) (zI m) (zI f) := by
    intro m hmp
    have hmm : m = pgT f (1 - d) c r := by
      rcases h2 with e | e <;> subst e
      · rw [show (1 : Int) - 0 = 1 by omega]; omega
      · rw [show (1 : Int) - 1 = 0 by omega]; omega
    unfold PL_arePages_46
    refine t_placeOf hN hV hf (by omega) (fun c' r' d' h1' h2' h3' => ?_)
    obtain ⟨i1, i2, i3⟩ := q_inj h1' h1 h2' (show 1 - d = 0 ∨ 1 - d = 1 by omega) (h3'.trans hmm)
    subst i1 i2
    unfold PL_arePages_70
    have hX : LP_placeOf N b F (zI f) (zI (2 * cls f * rws f + 1)) (fun r117 u117 => if r117 = zI (-1000002) then K (zI 1) (u117.1, u117.2) else K (zI 0) (u117.1, u117.2)) := by
      refine t_placeOfX hN hV hf (by omega) (by omega) (by omega) ?_
      (try dsimp only)
      rw [if_pos rfl]
      exact hK
    rcases h2 with e | e <;> subst e
    · simp (disch := omega) only [zI_lit, zI_neg, zI_add, zI_sub, zI_mul, zI_div, q_md, zI_lt, zI_le, zI_eq, zI_clamp, zI_vp, forall_eq, mb_u_eq, mb_u_ne, upd_eq, q_if, q_ifn, if_pos, if_neg, true_and, and_true, if_true, if_false, and31 f hf4]
      rw [e1, e2]
      refine t_pageAt hN hV h1 (Or.inl rfl) ?_
      (try dsimp only)
      rw [h3]
      simp (disch := omega) only [zI_lit, zI_neg, zI_add, zI_sub, zI_mul, zI_div, q_md, zI_lt, zI_le, zI_eq, zI_clamp, zI_vp, forall_eq, mb_u_eq, mb_u_ne, upd_eq, q_if, q_ifn, if_pos, if_neg, true_and, and_true, if_true, if_false]
      exact hX
    · simp (disch := omega) only [zI_lit, zI_neg, zI_add, zI_sub, zI_mul, zI_div, q_md, zI_lt, zI_le, zI_eq, zI_clamp, zI_vp, forall_eq, mb_u_eq, mb_u_ne, upd_eq, q_if, q_ifn, if_pos, if_neg, true_and, and_true, if_true, if_false, and31 f hf4]
      rw [e1, e2]
      refine t_pageAt hN hV h1 (Or.inr rfl) ?_
      (try dsimp only)
      rw [h3]
      simp (disch := omega) only [zI_lit, zI_neg, zI_add, zI_sub, zI_mul, zI_div, q_md, zI_lt, zI_le, zI_eq, zI_clamp, zI_vp, forall_eq, mb_u_eq, mb_u_ne, upd_eq, q_if, q_ifn, if_pos, if_neg, true_and, and_true, if_true, if_false]
      exact hX
  by_cases c2 : p % 2 = 1
  · simp (disch := omega) only [zI_lit, zI_neg, zI_add, zI_sub, zI_mul, zI_div, q_md, zI_lt, zI_le, zI_eq, zI_clamp, zI_vp, forall_eq, mb_u_eq, mb_u_ne, upd_eq, q_if, q_ifn, if_pos, if_neg, true_and, and_true, if_true, if_false]
    exact key _ (Or.inl ⟨c2, rfl⟩)
  · simp (disch := omega) only [zI_lit, zI_neg, zI_add, zI_sub, zI_mul, zI_div, q_md, zI_lt, zI_le, zI_eq, zI_clamp, zI_vp, forall_eq, mb_u_eq, mb_u_ne, upd_eq, q_if, q_ifn, if_pos, if_neg, true_and, and_true, if_true, if_false]
    exact key _ (Or.inr ⟨c2, rfl⟩)
/-- the years of a book for which something speaks -/
theorem yr_some {vf vt vw : Int → Int} {n y : Int} (h : vok vf vt vw n) (h1 : 1 ≤ n) (hy : isB (smI vf vt vw n.toNat) y) : 1400 ≤ y ∧ y ≤ 2000 := by
  rcases hy with ⟨e, hz⟩ | ⟨e, -⟩
  · exfalso
    have h0 := h.2 0 (by omega) (by omega)
    have hp := hz (vf 0) (by omega) (by omega)
    have one := sI_one (f := fun k => if vf k ≤ vf 0 ∧ vf 0 ≤ vt k then vw k else 0) (j := 0) (n := n.toNat) (fun k k1 k2 => by
      have := h.2 k k1 (by omega)
      (try dsimp only)
      split <;> omega) (by omega) (by omega)
    (try dsimp only at one)
    rw [if_pos (by omega)] at one
    unfold smI at hp
    omega
  · exact e
theorem yr_one {vf vt vw : Int → Int} {f t w : Int} (h0 : vf 0 = f) (h1 : vt 0 = t) (h2 : vw 0 = w) (ho : spO f t w) : isB (smI vf vt vw 1) f ∧ isL (smI vf vt vw 1) f t := by
  have e : ∀ y, smI vf vt vw 1 y = if f ≤ y ∧ y ≤ t then w else 0 := by
    intro y
    show (0 : Int) + (if vf 0 ≤ y ∧ y ≤ vt 0 then vw 0 else 0) = _
    rw [h0, h1, h2]; omega
  obtain ⟨o1, o2, o3⟩ := ho
  refine ⟨Or.inr ⟨by omega, ?_, fun z z1 z2 => ?_, fun z z1 z2 => ?_⟩, ⟨by omega, fun z z1 z2 => ?_, ?_⟩⟩
  · rw [e, if_pos (by omega)]; omega
  · rw [e, e, if_pos (show f ≤ f ∧ f ≤ t by omega)]; split <;> omega
  · rw [e, e, if_pos (show f ≤ f ∧ f ≤ t by omega), if_neg (by omega)]; omega
  · rw [e, e, if_pos (show f ≤ f ∧ f ≤ t by omega), if_pos (by omega)]
  · by_cases c : t = 2000
    · exact Or.inl c
    · refine Or.inr ?_
      rw [e, e, if_pos (show f ≤ f ∧ f ≤ t by omega), if_neg (by omega)]; omega
theorem l_speaks77 {N : Nat} {b : mb_bs} {F : mb_m} {C S : Int → Int} {np : Nat} {pr : Int → Int → Int} {nb : Nat} {bk : Nat → vk} {ns : Nat} {sk : Int → Int → Int} {K : Int32 → mb_S → Prop} (hN : 700 ≤ N) (hV : Vw b C S np pr nb bk ns sk) {i : Nat} {v : kN} {mv rp vf vt vw : Int → Int} (hi : i < nb) (hbk : bk i = (v, mv, rp, vf, vt, vw)) {f t r : Int} (hs : 1 ≤ v 8) (hvok : vok vf vt vw (v 8)) {y l : Int} (hy : isB (smI vf vt vw (v 8).toNat) y) (hl : isL (smI vf vt vw (v 8).toNat) y l) (hr : r = -1000003 ∨ 1 ≤ r ∧ r ≤ 100) (hone : r = 1 → y = f ∧ l = t) (hft : 0 ≤ f ∧ f ≤ 10000 ∧ 0 ≤ t ∧ t ≤ 10000) (hK : K (zI 1) (b, F)) : PL_speaks_77 N K F b (zI i) (zI f) (zI t) (zI r) (zI y) (zI l) := by
  have hyr := yr_some hvok hs hy
  obtain ⟨l1, l2, l3⟩ := id hl
  unfold PL_speaks_77
  simp (disch := omega) only [zI_lit, zI_neg, zI_add, zI_sub, zI_mul, zI_div, q_md, zI_lt, zI_le, zI_eq, zI_clamp, zI_vp, forall_eq, mb_u_eq, mb_u_ne, upd_eq, q_if, q_ifn, if_pos, if_neg, true_and, and_true, if_true, if_false]
  refine t_yearA0 hN hV hi hbk (fun y' hy' => ?_)
  have := isB_one hy' hy
  subst this
  simp (disch := omega) only [zI_lit, zI_neg, zI_add, zI_sub, zI_mul, zI_div, q_md, zI_lt, zI_le, zI_eq, zI_clamp, zI_vp, forall_eq, mb_u_eq, mb_u_ne, upd_eq, q_if, q_ifn, if_pos, if_neg, true_and, and_true, if_true, if_false]
  refine t_yearA1 hN hV hi hbk (fun z => ?_) (fun y2 l2 hy2 _ hl2 => ?_)
  · have := isB_one z hy
    omega
  · have := isB_one hy2 hy
    subst this
    have := isL_one hl2 hl
    subst this
    by_cases c : r = 1
    · obtain ⟨e1, e2⟩ := hone c
      subst e1 e2
      simp (disch := omega) only [zI_lit, zI_neg, zI_add, zI_sub, zI_mul, zI_div, q_md, zI_lt, zI_le, zI_eq, zI_clamp, zI_vp, forall_eq, mb_u_eq, mb_u_ne, upd_eq, q_if, q_ifn, if_pos, if_neg, true_and, and_true, if_true, if_false]
      exact hK
    · simp (disch := omega) only [zI_lit, zI_neg, zI_add, zI_sub, zI_mul, zI_div, q_md, zI_lt, zI_le, zI_eq, zI_clamp, zI_vp, forall_eq, mb_u_eq, mb_u_ne, upd_eq, q_if, q_ifn, if_pos, if_neg, true_and, and_true, if_true, if_false]
      exact hK
theorem l_speaks {N : Nat} {b : mb_bs} {F : mb_m} {C S : Int → Int} {np : Nat} {pr : Int → Int → Int} {nb : Nat} {bk : Nat → vk} {ns : Nat} {sk : Int → Int → Int} {K : Int32 → mb_S → Prop} {T : Int} {i : Nat} {y : Int32} (hN : 700 ≤ N) (hI : Iw b F C S np pr nb bk ns sk T) (hi : i < nb) (hK : ∀ b' F', Iv b' F' T → K (zI 1) (b', F')) : PL_speaks N F b (zI i) y K := by
  obtain ⟨hV, hz, hF, hT⟩ := id hI
  obtain ⟨q, hq⟩ : ∃ q, bk i = q := ⟨_, rfl⟩
  obtain ⟨v, mv, rp, vf, vt, vw⟩ := q
  have hp4 : nb ≤ 4 := hV.2.2.1.1
  obtain ⟨kr, -⟩ := (hV.2.2.1.2.2.2.1 i hi).choose_spec.2.2
  rw [hq] at kr
  (try dsimp only at kr)
  obtain ⟨r1, r2, r3, r4, r5, r6, r7, r8, r9, r10, r11, r12⟩ := id kr
  unfold PL_speaks
  have a1 := lw_rng (x := y) (n := 601) (by omega)
  simp (disch := omega) only [zI_lit, zI_neg, zI_add, zI_sub, zI_mul, zI_div, q_md, zI_lt, zI_le, zI_eq, zI_clamp, zI_vp, forall_eq, mb_u_eq, mb_u_ne, upd_eq, q_if, q_ifn, if_pos, if_neg, true_and, and_true, if_true, if_false, q_low]
  generalize lw y 601 = f0 at a1 ⊢
  obtain ⟨f, rfl⟩ : ∃ f, f0 = f - 1400 := ⟨f0 + 1400, by omega⟩
  rw [show 1400 + (f - 1400) = f by omega]
  have a2 := lw_rng (x := y >>> (zI 10 &&& zI 31)) (n := 2001 - f) (by omega)
  (try simp (disch := omega) only [zI_lit, zI_neg, zI_add, zI_sub, zI_mul, zI_div, q_md, zI_lt, zI_le, zI_eq, zI_clamp, zI_vp, forall_eq, mb_u_eq, mb_u_ne, upd_eq, q_if, q_ifn, if_pos, if_neg, true_and, and_true, if_true, if_false, q_low])
  generalize lw (y >>> (zI 10 &&& zI 31)) (2001 - f) = t0 at a2 ⊢
  obtain ⟨t, rfl⟩ : ∃ t, t0 = t - f := ⟨t0 + f, by omega⟩
  rw [show f + (t - f) = t by omega]
  have a3 := lw_rng (x := y >>> (zI 20 &&& zI 31)) (n := 9) (by omega)
  generalize lw (y >>> (zI 20 &&& zI 31)) 9 = w0 at a3 ⊢
  obtain ⟨w, rfl⟩ : ∃ w, w0 = w - 1 := ⟨w0 + 1, by omega⟩
  rw [show 1 + (w - 1) = w by omega]
  have ho : spO f t w := ⟨by omega, by omega, by omega⟩
  refine t_speak hN hV hi hq ho (fun z => ?_) (fun z b' hV' => ?_)
  · have hvok : vok vf vt vw (v 8) := ⟨r9, r12⟩
    (try dsimp only)
    refine t_year0 hN hV hi hq (fun y1 hy1 => ?_)
    (try dsimp only)
    refine t_year1 hN hV hi hq (fun z1 => absurd (yr_some hvok (by omega) z1) (by omega)) (fun y2 l hy2 _ hl => ?_)
    have e := isB_one hy2 hy1
    subst e
    simp (disch := omega) only [zI_lit, zI_neg, zI_add, zI_sub, zI_mul, zI_div, q_md, zI_lt, zI_le, zI_eq, zI_clamp, zI_vp, forall_eq, mb_u_eq, mb_u_ne, upd_eq, q_if, q_ifn, if_pos, if_neg, true_and, and_true, if_true, if_false]
    exact l_speaks77 hN hV hi hq (by omega) hvok hy1 hl (Or.inl rfl) (fun z => absurd z (by omega)) (by omega) (hK _ _ (Iw_iv hI))
  · have hvok : vok (fun k => if k = v 8 then f else vf k) (fun k => if k = v 8 then t else vt k) (fun k => if k = v 8 then w else vw k) (v 8 + 1) := by
      refine ⟨by omega, fun k k1 k2 => ?_⟩
      (try dsimp only)
      by_cases z : k = v 8
      · rw [if_pos z, if_pos z, if_pos z]; omega
      · rw [if_neg z, if_neg z, if_neg z]; exact r12 k k1 (by omega)
    have hq' : (bset bk i (kset v 8 (v 8 + 1), mv, rp, fun k => if k = v 8 then f else vf k, fun k => if k = v 8 then t else vt k, fun k => if k = v 8 then w else vw k)) i = (kset v 8 (v 8 + 1), mv, rp, fun k => if k = v 8 then f else vf k, fun k => if k = v 8 then t else vt k, fun k => if k = v 8 then w else vw k) := if_pos rfl
    have e8 : (kset v 8 (v 8 + 1)) 8 = v 8 + 1 := if_pos rfl
    have hI' := Iw_upd hI hV' (fun j hj => by
      rw [hq]
      show (if j = 8 then v 8 + 1 else v j) = v j
      rw [if_neg (by omega)])
    (try dsimp only)
    refine t_year0 hN hV' hi hq' (fun y1 hy1 => ?_)
    rw [e8] at hy1
    (try dsimp only)
    refine t_year1 hN hV' hi hq' (fun z1 => ?_) (fun y2 l hy2 _ hl => ?_)
    · rw [e8] at z1
      exact absurd (yr_some hvok (by omega) z1) (by omega)
    · rw [e8] at hy2 hl
      have e := isB_one hy2 hy1
      subst e
      simp (disch := omega) only [zI_lit, zI_neg, zI_add, zI_sub, zI_mul, zI_div, q_md, zI_lt, zI_le, zI_eq, zI_clamp, zI_vp, forall_eq, mb_u_eq, mb_u_ne, upd_eq, q_if, q_ifn, if_pos, if_neg, true_and, and_true, if_true, if_false]
      refine l_speaks77 hN hV' hi hq' (by rw [e8]; omega) (by rw [e8]; exact hvok) (by rw [e8]; exact hy1) (by rw [e8]; exact hl) (Or.inr (by omega)) (fun z2 => ?_) (by omega) (hK _ _ (Iw_iv hI'))
      have e0 : v 8 = 0 := by omega
      have hone := yr_one (vf := fun k => if k = v 8 then f else vf k) (vt := fun k => if k = v 8 then t else vt k) (vw := fun k => if k = v 8 then w else vw k) (by (try dsimp only); rw [if_pos e0.symm]) (by (try dsimp only); rw [if_pos e0.symm]) (by (try dsimp only); rw [if_pos e0.symm]) ho
      rw [show (v 8 + 1).toNat = 1 by omega] at hy1 hl
      have e3 := isB_one hy1 hone.1
      subst e3
      exact ⟨rfl, isL_one hl hone.2⟩
