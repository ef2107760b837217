/-- the model's thread that was gone through -/
def Tm (M : mb_m) (t : ts) : Prop := mr M 13 t.1 40 ∧ mr M 14 (fun k => qb (0 < t.2.1 k)) 8 ∧ m1 M 15 t.2.2.1 ∧ m1 M 16 t.2.2.2.1 ∧ m1 M 17 t.2.2.2.2.1 ∧ m1 M 18 t.2.2.2.2.2
abbrev scr : List Nat := [13, 14, 15, 16, 17, 18]
theorem zI_ti {a : Int} (h1 : -2147483648 ≤ a) (h2 : a < 2147483648) : (zI a).toInt = a := zI_toInt h1 h2
theorem m_lays {N : Nat} {M : mb_m} {t : ts} {by_ pt g st n : Int} {K : mb_m → Prop} (h : Tm M t) (hr : trg g st t n) (hn : 0 ≤ n ∧ n ≤ 200) (hg : g ≤ 8) (hs : st ≤ 6) (hb : by_ = 1 ∨ by_ = -1) (hp : 0 ≤ pt ∧ pt ≤ 4)
    (hK : ∀ M', mf M M' scr → Tm M' (fun k => if k = 5 * t.2.2.2.1 + pt then t.1 k + t.2.2.2.2.2 else t.1 k, t.2.1, t.2.2.1 + 10, t.2.2.2.1, t.2.2.2.2.1 + by_, t.2.2.2.2.2) → K M') : PX8_lays N M (zI by_) (zI pt) K := by
  obtain ⟨h13, h14, h15, h16, h17, h18⟩ := h
  obtain ⟨a1, a2, a3, a4, a5, a6, a7, a8, a9, a10⟩ := hr
  have v15 : M 15 0 = zI t.2.2.1 := h15
  have v16 : M 16 0 = zI t.2.2.2.1 := h16
  have v17 : M 17 0 = zI t.2.2.2.2.1 := h17
  have v18 : M 18 0 = zI t.2.2.2.2.2 := h18
  have e : ∀ x : Int, mb_c (zI x) 0 = zI x := fun _ => rfl
  have q9 := a9 (5 * t.2.2.2.1 + pt)
  have v13 := h13 (5 * t.2.2.2.1 + pt) (by omega) (by omega)
  unfold PX8_lays PX8_lays_47
  simp (disch := omega) only [zI_lit, zI_neg, zI_add, zI_sub, zI_mul, zI_div, q_md, zI_lt, zI_le, zI_eq, zI_clamp, zI_vp, forall_eq, mb_u_eq, mb_u_ne, upd_eq, q_if, q_ifn, if_pos, if_neg, true_and, and_true, if_true, if_false, v15, v16, v17, v18, v13, e]
  have fin : ∀ y : Int, y = t.1 (5 * t.2.2.2.1 + pt) + t.2.2.2.2.2 → K (mb_u (mb_u (mb_u M 17 (mb_c (zI (t.2.2.2.2.1 + by_)))) 15 (mb_c (zI (t.2.2.1 + 10)))) 13 (upd (M 13) (5 * t.2.2.2.1 + pt).toNat (zI y))) := by
    intro y hy
    refine hK _ (mf_u (mf_u (mf_u (mf_refl _ _) _ (by decide)) _ (by decide)) _ (by decide)) ⟨mr_up h13 (by omega) (by omega) (by (try dsimp only); rw [if_pos rfl, hy]) (fun k _ _ k3 => by (try dsimp only); rw [if_neg k3]), mr_ne _ (mr_ne _ (mr_ne _ h14 (by decide)) (by decide)) (by decide), m1_ne _ (m1_set _ _ _) (by decide), m1_ne _ (m1_ne _ (m1_ne _ h16 (by decide)) (by decide)) (by decide), m1_ne _ (m1_ne _ (m1_set _ _ _) (by decide)) (by decide), m1_ne _ (m1_ne _ (m1_ne _ h18 (by decide)) (by decide)) (by decide)⟩
  split
  · exact fin _ (by omega)
  · exact fin _ (by omega)
theorem m_links {N : Nat} {M : mb_m} {t : ts} {by_ lw g st n : Int} {K : mb_m → Prop} (h : Tm M t) (hr : trg g st t n) (hn : 0 ≤ n ∧ n ≤ 200) (hg : g ≤ 8) (hs : st ≤ 6) (hb : by_ = 1 ∧ lw = t.2.2.2.1 ∨ by_ = -1 ∧ lw = t.2.2.2.1 - 1) (hp : 0 ≤ lw ∧ lw ≤ 7)
    (hK : ∀ M', mf M M' scr → Tm M' (t.1, fun k => if k = lw then t.2.1 k + 1 else t.2.1 k, t.2.2.1 + 4, t.2.2.2.1 + by_, t.2.2.2.2.1, t.2.2.2.2.2) → K M') : PX8_links N M (zI by_) K := by
  obtain ⟨h13, h14, h15, h16, h17, h18⟩ := h
  obtain ⟨a1, a2, a3, a4, a5, a6, a7, a8, a9, a10⟩ := hr
  have v15 : M 15 0 = zI t.2.2.1 := h15
  have v16 : M 16 0 = zI t.2.2.2.1 := h16
  have e : ∀ x : Int, mb_c (zI x) 0 = zI x := fun _ => rfl
  have hb1 : vp_nar .boolean (zI 1) = zI 1 := mb_nar (Or.inr rfl)
  have hv : (0 < by_ → t.2.2.2.1 = lw) ∧ (¬ 0 < by_ → t.2.2.2.1 - 1 = lw) := by omega
  have k21 : PX8_links_21 N K M (zI by_) (zI lw) := by
    unfold PX8_links_21
    simp (disch := omega) only [zI_lit, zI_neg, zI_add, zI_sub, zI_mul, zI_div, q_md, zI_lt, zI_le, zI_eq, zI_clamp, zI_vp, forall_eq, mb_u_eq, mb_u_ne, upd_eq, q_if, q_ifn, if_pos, if_neg, true_and, and_true, if_true, if_false, v15, v16, e, hb1]
    refine hK _ (mf_u (mf_u (mf_u (mf_refl _ _) _ (by decide)) _ (by decide)) _ (by decide)) ⟨mr_ne _ (mr_ne _ (mr_ne _ h13 (by decide)) (by decide)) (by decide), mr_ne _ (mr_ne _ (mr_up h14 (by omega) (by omega) (qb_t (by (try dsimp only); have := a10 lw; rw [if_pos rfl]; omega)) (fun k _ _ k3 => qb_cong (by (try dsimp only); rw [if_neg k3]))) (by decide)) (by decide), m1_set _ _ _, m1_ne _ (m1_set _ _ _) (by decide), m1_ne _ (m1_ne _ (m1_ne _ h17 (by decide)) (by decide)) (by decide), m1_ne _ (m1_ne _ (m1_ne _ h18 (by decide)) (by decide)) (by decide)⟩
  unfold PX8_links
  simp (disch := omega) only [zI_lit, zI_neg, zI_add, zI_sub, zI_mul, zI_div, q_md, zI_lt, zI_le, zI_eq, zI_clamp, zI_vp, forall_eq, mb_u_eq, mb_u_ne, upd_eq, q_if, q_ifn, if_pos, if_neg, true_and, and_true, if_true, if_false, v16]
  split
  · rw [hv.2 (by omega)]; exact k21
  · rw [hv.1 (by omega)]; exact k21
theorem m_moves {N : Nat} {M : mb_m} {t : ts} {mv g st n : Int} {K : mb_m → Prop} (h : Tm M t) (hr : trg g st t n) (hn : 0 ≤ n ∧ n ≤ 200) (hg : g ≤ 8) (hs : st ≤ 6) (hk : tok g st t mv)
    (hK : ∀ M', mf M M' scr → Tm M' (tstep t mv) → K M') : PX8_moves N M (zI mv) K := by
  obtain ⟨b1, b2, b3, b4, b5, b6⟩ := hk
  obtain ⟨a1, a2, a3, a4, a5, a6, a7, a8, a9, a10⟩ := id hr
  obtain ⟨h13, h14, h15, h16, h17, h18⟩ := id h
  have v17 : M 17 0 = zI t.2.2.2.2.1 := h17
  have v18 : M 18 0 = zI t.2.2.2.2.2 := h18
  have hti : (zI mv).toInt = mv := zI_ti (by omega) (by omega)
  have hmv : mv = 0 ∨ mv = 1 ∨ mv = 2 ∨ mv = 3 ∨ mv = 4 := by omega
  unfold PX8_moves
  rw [hti]
  have hfl : ∀ y : Int, y = 1 - t.2.2.2.2.2 → mv = 0 → K (mb_u M 18 (mb_c (zI y))) := by
    intro y hy h0
    refine hK _ (mf_u (mf_refl _ _) _ (by decide)) ?_
    unfold tstep
    rw [if_neg (by omega), if_neg (by omega), if_neg (by omega), if_neg (by omega)]
    exact ⟨mr_ne _ h13 (by decide), mr_ne _ h14 (by decide), m1_ne _ h15 (by decide), m1_ne _ h16 (by decide), m1_ne _ h17 (by decide), by rw [← hy]; exact m1_set _ _ _⟩
  refine ⟨fun z => ?_, fun z => ?_, fun z => ?_, fun z => ?_, fun z => ?_⟩
  · have e4 : mv = 4 := by omega
    have := b6 e4
    refine m_links (by_ := -1) (lw := t.2.2.2.1 - 1) h hr hn hg hs (Or.inr ⟨rfl, rfl⟩) (by omega) (fun M' hf ht => hK M' hf ?_)
    unfold tstep
    rw [if_neg (by omega), if_neg (by omega), if_neg (by omega), if_pos e4]
    exact ht
  · unfold PX8_moves_45
    simp (disch := omega) only [zI_lit, zI_neg, zI_add, zI_sub, zI_mul, zI_div, q_md, zI_lt, zI_le, zI_eq, zI_clamp, zI_vp, forall_eq, mb_u_eq, mb_u_ne, upd_eq, q_if, q_ifn, if_pos, if_neg, true_and, and_true, if_true, if_false, v18, q_isB0, q_isB1]
    split
    · exact hfl 1 (by omega) z
    · exact hfl 0 (by omega) z
  · have := b3 z
    rw [v17]
    refine m_lays (by_ := 1) (pt := t.2.2.2.2.1) h hr hn hg hs (Or.inl rfl) (by omega) (fun M' hf ht => hK M' hf ?_)
    unfold tstep
    rw [if_pos z]
    exact ht
  · have := b4 z
    rw [v17, show (zI t.2.2.2.2.1 - (1 : Int32)) = zI (t.2.2.2.2.1 - 1) from zI_sub _ 1]
    refine m_lays (by_ := -1) (pt := t.2.2.2.2.1 - 1) h hr hn hg hs (Or.inr rfl) (by omega) (fun M' hf ht => hK M' hf ?_)
    unfold tstep
    rw [if_neg (by omega), if_pos z]
    exact ht
  · have := b5 z
    refine m_links (by_ := 1) (lw := t.2.2.2.1) h hr hn hg hs (Or.inl ⟨rfl, rfl⟩) (by omega) (fun M' hf ht => hK M' hf ?_)
    unfold tstep
    rw [if_neg (by omega), if_neg (by omega), if_pos z]
    exact ht
theorem m_follows {N : Nat} {m : mb_m} {a g st : Int} {n : Nat} {mv : Int → Int} {K : mb_m → Prop} (hN : 700 ≤ N) (ha : 0 ≤ a ∧ a < 4) (hg : 1 ≤ g ∧ g ≤ 8) (hs : 3 ≤ st ∧ st ≤ 6) (hn : n ≤ 200) (h11 : m 11 a.toNat = zI n) (h12 : ∀ k : Int, 0 ≤ k → k < n → m 12 (200 * a + k).toNat = zI (mv k)) (hv : tv g st mv n)
    (hK : ∀ m', mf m m' scr → Tm m' (tr mv n) → K m') : PX8_follows N m (zI a) K := by
  have hb0 : vp_nar .boolean (zI 0) = zI 0 := mb_nar (Or.inl rfl)
  refine (q_for (σ := mb_m × Int32 × Int32) (fun n s => PX8_follows_2 N K n s.1 s.2.1 s.2.2) (fun r0 s => PX8_follows_2_b N K (fun a0 a1 a2 => r0 (a0, a1, a2)) s.1 s.2.1 s.2.2) (fun _ _ => rfl))
    (fun i s => mf m s.1 scr ∧ mr s.1 13 (fun _ => 0) i ∧ s.2.1 = zI a ∧ s.2.2 = zI i ∧ 0 ≤ i) 40 ?_ ?_ N 0 (m, _, _) (by omega) (by omega) ?_
  · rintro i ⟨M1, x1, x2⟩ r hi hI hr
    dsimp only at hI hr ⊢
    obtain ⟨hf, h13, rfl, rfl, h0⟩ := hI
    unfold PX8_follows_2_b
    simp (disch := omega) only [zI_lit, zI_neg, zI_add, zI_sub, zI_mul, zI_div, q_md, zI_lt, zI_le, zI_eq, zI_clamp, zI_vp, forall_eq, mb_u_eq, mb_u_ne, upd_eq, q_if, q_ifn, if_pos, if_neg, true_and, and_true, if_true, if_false]
    exact hr _ ⟨mf_u hf _ (by decide), mr_app h13 h0 rfl (fun _ _ _ => rfl), rfl, rfl, by omega⟩
  · rintro ⟨M1, x1, x2⟩ r hI
    dsimp only at hI ⊢
    obtain ⟨hf, h13, rfl, rfl, h0⟩ := hI
    unfold PX8_follows_2_b
    simp (disch := omega) only [zI_lit, zI_neg, zI_add, zI_sub, zI_mul, zI_div, q_md, zI_lt, zI_le, zI_eq, zI_clamp, zI_vp, forall_eq, mb_u_eq, mb_u_ne, upd_eq, q_if, q_ifn, if_pos, if_neg, true_and, and_true, if_true, if_false]
    refine (q_for (σ := mb_m × Int32 × Int32) (fun n s => PX8_follows_23 N K n s.1 s.2.1 s.2.2) (fun r0 s => PX8_follows_23_b N K (fun a0 a1 a2 => r0 (a0, a1, a2)) s.1 s.2.1 s.2.2) (fun _ _ => rfl))
      (fun i s => mf m s.1 scr ∧ mr s.1 13 (fun _ => 0) 40 ∧ mr s.1 14 (fun _ => 0) i ∧ s.2.1 = zI a ∧ s.2.2 = zI i ∧ 0 ≤ i) 8 ?_ ?_ N 0 (M1, _, _) (by omega) (by omega) ?_
    · rintro i ⟨M2, x1, x2⟩ r hi hI hr
      dsimp only at hI hr ⊢
      obtain ⟨hf, h13, h14, rfl, rfl, h0⟩ := hI
      unfold PX8_follows_23_b
      simp (disch := omega) only [zI_lit, zI_neg, zI_add, zI_sub, zI_mul, zI_div, q_md, zI_lt, zI_le, zI_eq, zI_clamp, zI_vp, forall_eq, mb_u_eq, mb_u_ne, upd_eq, q_if, q_ifn, if_pos, if_neg, true_and, and_true, if_true, if_false, hb0]
      exact hr _ ⟨mf_u hf _ (by decide), mr_ne _ h13 (by decide), mr_app h14 h0 rfl (fun _ _ _ => rfl), rfl, rfl, by omega⟩
    · rintro ⟨M2, x1, x2⟩ r hI
      dsimp only at hI ⊢
      obtain ⟨hf, h13, h14, rfl, rfl, h0⟩ := hI
      unfold PX8_follows_23_b
      simp (disch := omega) only [zI_lit, zI_neg, zI_add, zI_sub, zI_mul, zI_div, q_md, zI_lt, zI_le, zI_eq, zI_clamp, zI_vp, forall_eq, mb_u_eq, mb_u_ne, upd_eq, q_if, q_ifn, if_pos, if_neg, true_and, and_true, if_true, if_false]
      refine (q_for (σ := mb_m × Int32 × Int32) (fun n s => PX8_follows_68 N K n s.1 s.2.1 s.2.2) (fun r0 s => PX8_follows_68_b N K (fun a0 a1 a2 => r0 (a0, a1, a2)) s.1 s.2.1 s.2.2) (fun _ _ => rfl))
        (fun i s => mf m s.1 scr ∧ Tm s.1 (tr mv i.toNat) ∧ s.2.1 = zI a ∧ s.2.2 = zI (200 * a + i) ∧ 0 ≤ i) n ?_ ?_ N 0 (_, _, _) (by omega) (by omega) ?_
      · rintro i ⟨M3, x1, x2⟩ r hi hI hr
        dsimp only at hI hr ⊢
        obtain ⟨hf, ht, rfl, rfl, h0⟩ := hI
        have w11 : M3 11 a.toNat = zI n := by rw [hf 11 (by decide)]; exact h11
        have w12 : M3 12 (200 * a + i).toNat = zI (mv i) := by rw [hf 12 (by decide)]; exact h12 i h0 hi
        have ei : ((i.toNat : Nat) : Int) = i := by omega
        have hrg := tr_rng hg.1 hs.1 (fun j hj => hv j (by omega) : tv g st mv i.toNat)
        have hok := hv i.toNat (by omega)
        rw [ei] at hok
        unfold PX8_follows_68_b
        simp (disch := omega) only [zI_lit, zI_neg, zI_add, zI_sub, zI_mul, zI_div, q_md, zI_lt, zI_le, zI_eq, zI_clamp, zI_vp, forall_eq, mb_u_eq, mb_u_ne, upd_eq, q_if, q_ifn, if_pos, if_neg, true_and, and_true, if_true, if_false, w11, w12]
        refine m_moves ht hrg (by omega) hg.2 hs.2 hok (fun M' hf' ht' => ?_)
        (try simp (disch := omega) only [zI_lit, zI_neg, zI_add, zI_sub, zI_mul, zI_div, q_md, zI_lt, zI_le, zI_eq, zI_clamp, zI_vp, forall_eq, mb_u_eq, mb_u_ne, upd_eq, q_if, q_ifn, if_pos, if_neg, true_and, and_true, if_true, if_false])
        refine hr _ ⟨mf_tr hf hf', ?_, rfl, by (try dsimp only); congr 1; omega, by omega⟩
        (try dsimp only)
        rw [show (i + 1).toNat = i.toNat + 1 by omega]
        show Tm M' (tstep (tr mv i.toNat) (mv ((i.toNat : Nat) : Int)))
        rw [ei]; exact ht'
      · rintro ⟨M3, x1, x2⟩ r hI
        dsimp only at hI ⊢
        obtain ⟨hf, ht, rfl, rfl, h0⟩ := hI
        have w11 : M3 11 a.toNat = zI n := by rw [hf 11 (by decide)]; exact h11
        unfold PX8_follows_68_b
        simp (disch := omega) only [zI_lit, zI_neg, zI_add, zI_sub, zI_mul, zI_div, q_md, zI_lt, zI_le, zI_eq, zI_clamp, zI_vp, forall_eq, mb_u_eq, mb_u_ne, upd_eq, q_if, q_ifn, if_pos, if_neg, true_and, and_true, if_true, if_false, w11]
        exact hK M3 hf (by rwa [Int.toNat_natCast] at ht)
      · refine ⟨mf_u (mf_u (mf_u (mf_u hf _ (by decide)) _ (by decide)) _ (by decide)) _ (by decide), ⟨mr_ne _ (mr_ne _ (mr_ne _ (mr_ne _ h13 (by decide)) (by decide)) (by decide)) (by decide), mr_cong (mr_ne _ (mr_ne _ (mr_ne _ (mr_ne _ h14 (by decide)) (by decide)) (by decide)) (by decide)) (fun _ _ _ => rfl), m1_ne _ (m1_ne _ (m1_ne _ (m1_set _ _ _) (by decide)) (by decide)) (by decide), m1_ne _ (m1_ne _ (m1_set _ _ _) (by decide)) (by decide), m1_ne _ (m1_set _ _ _) (by decide), m1_set _ _ _⟩, rfl, ?_, by omega⟩
        show zI (200 * a) = zI (200 * a + 0)
        congr 1; omega
    · exact ⟨hf, h13, mr_0 _ _ _, rfl, rfl, by omega⟩
  · exact ⟨mf_refl _ _, mr_0 _ _ _, rfl, rfl, by omega⟩
/-- the bench's thread -/
def Bs (M : mb_m) (t : ts) : Prop := mr M 2 t.1 40 ∧ mr M 3 t.2.1 8 ∧ m1 M 9 t.2.2.1 ∧ m1 M 6 t.2.2.2.1 ∧ m1 M 7 t.2.2.2.2.1 ∧ m1 M 8 t.2.2.2.2.2
abbrev bsc : List Nat := [2, 3, 6, 7, 8, 9]
theorem e_pass {N : Nat} {M : mb_m} {t : ts} {x pt n : Int} {K : mb_m → Prop} (h : Bs M t) (hx : x = 1 ∨ x = -1) (hp : 0 ≤ pt ∧ pt ≤ 4) (hg : 0 ≤ t.2.2.2.1 ∧ t.2.2.2.1 < 8) (hi : t.2.2.2.2.2 = 0 ∨ t.2.2.2.2.2 = 1) (hl : -3000 ≤ t.2.2.1 ∧ t.2.2.1 ≤ 3000) (hn : ∀ k, -300 ≤ t.1 k ∧ t.1 k ≤ 300)
    (hK : ∀ M', mf M M' [2, 9] → Bs M' (fun k => if k = 5 * t.2.2.2.1 + pt then t.1 k + x * t.2.2.2.2.2 else t.1 k, t.2.1, t.2.2.1 + x * 10, t.2.2.2.1, t.2.2.2.2.1, t.2.2.2.2.2) → K M') : PX4_pass N M (zI pt) (zI x) K := by
  obtain ⟨h2, h3, h9, h6, h7, h8⟩ := h
  have v9 : M 9 0 = zI t.2.2.1 := h9
  have v6 : M 6 0 = zI t.2.2.2.1 := h6
  have v8 : M 8 0 = zI t.2.2.2.2.2 := h8
  have q := hn (5 * t.2.2.2.1 + pt)
  have v2 := h2 (5 * t.2.2.2.1 + pt) (by omega) (by omega)
  rw [show 5 * t.2.2.2.1 + pt = t.2.2.2.1 * 5 + pt by omega] at v2
  unfold PX4_pass
  simp (disch := omega) only [zI_lit, zI_neg, zI_add, zI_sub, zI_mul, zI_div, q_md, zI_lt, zI_le, zI_eq, zI_clamp, zI_vp, forall_eq, mb_u_eq, mb_u_ne, upd_eq, q_if, q_ifn, if_pos, if_neg, true_and, and_true, if_true, if_false, v9, v6, v8, v2]
  rcases hi with e | e
  · rw [if_pos e]
    refine hK _ (mf_u (mf_refl _ _) _ (by decide)) ⟨mr_cong (mr_ne _ h2 (by decide)) (fun k _ _ => by (try dsimp only); rw [e]; split <;> omega), mr_ne _ h3 (by decide), m1_set _ _ _, m1_ne _ h6 (by decide), m1_ne _ h7 (by decide), m1_ne _ h8 (by decide)⟩
  · rw [if_neg (by omega)]
    refine hK _ (mf_u (mf_u (mf_refl _ _) _ (by decide)) _ (by decide)) ⟨mr_up h2 (by omega) (by omega) (by (try dsimp only); rw [if_pos (by omega), e]; omega) (fun k _ _ k3 => by (try dsimp only); rw [if_neg (by omega)]), mr_ne _ (mr_ne _ h3 (by decide)) (by decide), m1_ne _ (m1_set _ _ _) (by decide), m1_ne _ (m1_ne _ h6 (by decide)) (by decide), m1_ne _ (m1_ne _ h7 (by decide)) (by decide), m1_ne _ (m1_ne _ h8 (by decide)) (by decide)⟩
theorem e_link {N : Nat} {M : mb_m} {t : ts} {x lw : Int} {K : mb_m → Prop} (h : Bs M t) (hx : x = 1 ∨ x = -1) (hp : 0 ≤ lw ∧ lw ≤ 7) (hl : -3000 ≤ t.2.2.1 ∧ t.2.2.1 ≤ 3000) (hn : ∀ k, -300 ≤ t.2.1 k ∧ t.2.1 k ≤ 300)
    (hK : ∀ M', mf M M' [3, 9] → Bs M' (t.1, fun k => if k = lw then t.2.1 k + x else t.2.1 k, t.2.2.1 + x * 4, t.2.2.2.1, t.2.2.2.2.1, t.2.2.2.2.2) → K M') : PX4_link N M (zI lw) (zI x) K := by
  obtain ⟨h2, h3, h9, h6, h7, h8⟩ := h
  have v9 : M 9 0 = zI t.2.2.1 := h9
  have q := hn lw
  have v3 := h3 lw (by omega) (by omega)
  unfold PX4_link
  simp (disch := omega) only [zI_lit, zI_neg, zI_add, zI_sub, zI_mul, zI_div, q_md, zI_lt, zI_le, zI_eq, zI_clamp, zI_vp, forall_eq, mb_u_eq, mb_u_ne, upd_eq, q_if, q_ifn, if_pos, if_neg, true_and, and_true, if_true, if_false, v9, v3]
  refine hK _ (mf_u (mf_u (mf_refl _ _) _ (by decide)) _ (by decide)) ⟨mr_ne _ (mr_ne _ h2 (by decide)) (by decide), mr_up h3 (by omega) (by omega) (by (try dsimp only); rw [if_pos rfl]) (fun k _ _ k3 => by (try dsimp only); rw [if_neg k3]), m1_ne _ (m1_set _ _ _) (by decide), m1_ne _ (m1_ne _ h6 (by decide)) (by decide), m1_ne _ (m1_ne _ h7 (by decide)) (by decide), m1_ne _ (m1_ne _ h8 (by decide)) (by decide)⟩
theorem Bs_7 {M : mb_m} {t : ts} (h : Bs M t) (y : Int) : Bs (mb_u M 7 (mb_c (zI y))) (t.1, t.2.1, t.2.2.1, t.2.2.2.1, y, t.2.2.2.2.2) := by
  obtain ⟨h2, h3, h9, h6, h7, h8⟩ := h
  exact ⟨mr_ne _ h2 (by decide), mr_ne _ h3 (by decide), m1_ne _ h9 (by decide), m1_ne _ h6 (by decide), m1_set _ _ _, m1_ne _ h8 (by decide)⟩
theorem Bs_6 {M : mb_m} {t : ts} (h : Bs M t) (y : Int) : Bs (mb_u M 6 (mb_c (zI y))) (t.1, t.2.1, t.2.2.1, y, t.2.2.2.2.1, t.2.2.2.2.2) := by
  obtain ⟨h2, h3, h9, h6, h7, h8⟩ := h
  exact ⟨mr_ne _ h2 (by decide), mr_ne _ h3 (by decide), m1_ne _ h9 (by decide), m1_set _ _ _, m1_ne _ h7 (by decide), m1_ne _ h8 (by decide)⟩
theorem Bs_8 {M : mb_m} {t : ts} (h : Bs M t) (y : Int) : Bs (mb_u M 8 (mb_c (zI y))) (t.1, t.2.1, t.2.2.1, t.2.2.2.1, t.2.2.2.2.1, y) := by
  obtain ⟨h2, h3, h9, h6, h7, h8⟩ := h
  exact ⟨mr_ne _ h2 (by decide), mr_ne _ h3 (by decide), m1_ne _ h9 (by decide), m1_ne _ h6 (by decide), m1_ne _ h7 (by decide), m1_set _ _ _⟩
theorem Bs_cong {M : mb_m} {t u : ts} (h : Bs M t) (h1 : ∀ k, t.1 k = u.1 k) (h2 : ∀ k, t.2.1 k = u.2.1 k) (h3 : t.2.2.1 = u.2.2.1) (h4 : t.2.2.2.1 = u.2.2.2.1) (h5 : t.2.2.2.2.1 = u.2.2.2.2.1) (h6 : t.2.2.2.2.2 = u.2.2.2.2.2) : Bs M u := by
  obtain ⟨g2, g3, g9, g6, g7, g8⟩ := h
  exact ⟨mr_cong g2 (fun k _ _ => h1 k), mr_cong g3 (fun k _ _ => h2 k), h3 ▸ g9, h4 ▸ g6, h5 ▸ g7, h6 ▸ g8⟩
/-- the bench's thread goes a move: x = 1 forth, -1 back -/
theorem e_along {N : Nat} {M : mb_m} {t u : ts} {x : Int} {K : mb_m → Prop} (h : Bs M t) (hx : x = 1 ∨ x = -1) (hp : 0 ≤ t.2.2.2.2.1 ∧ t.2.2.2.2.1 ≤ 4) (hg : 0 ≤ t.2.2.2.1 ∧ t.2.2.2.1 < 8) (hi : t.2.2.2.2.2 = 0 ∨ t.2.2.2.2.2 = 1) (hl : -3000 ≤ t.2.2.1 ∧ t.2.2.1 ≤ 3000) (hn : ∀ k, -300 ≤ t.1 k ∧ t.1 k ≤ 300)
    (hu : (∀ k, (if k = 5 * t.2.2.2.1 + t.2.2.2.2.1 then t.1 k + x * t.2.2.2.2.2 else t.1 k) = u.1 k) ∧ (∀ k, t.2.1 k = u.2.1 k) ∧ t.2.2.1 + x * 10 = u.2.2.1 ∧ t.2.2.2.1 = u.2.2.2.1 ∧ t.2.2.2.2.1 + 1 = u.2.2.2.2.1 ∧ t.2.2.2.2.2 = u.2.2.2.2.2)
    (hK : ∀ M', mf M M' bsc → Bs M' u → K M') : PX4_go N M (zI 1) (zI x) K := by
  have v7 : M 7 0 = zI t.2.2.2.2.1 := h.2.2.2.2.1
  have hti : (zI 1).toInt = 1 := by decide
  unfold PX4_go
  rw [hti]
  refine ⟨fun z => absurd z (by decide), fun _ => ?_, fun z => absurd z (by decide), fun z => absurd z (by decide), fun z => absurd z (by decide)⟩
  rw [v7]
  refine e_pass (n := 0) h hx hp hg hi hl hn (fun M' hf hb => ?_)
  have w7 : M' 7 0 = zI t.2.2.2.2.1 := hb.2.2.2.2.1
  simp (disch := omega) only [zI_lit, zI_neg, zI_add, zI_sub, zI_mul, zI_div, q_md, zI_lt, zI_le, zI_eq, zI_clamp, zI_vp, forall_eq, mb_u_eq, mb_u_ne, upd_eq, q_if, q_ifn, if_pos, if_neg, true_and, and_true, if_true, if_false, w7]
  exact hK _ (mf_u (mf_mono hf (by decide)) _ (by decide)) (Bs_cong (Bs_7 hb _) hu.1 hu.2.1 hu.2.2.1 hu.2.2.2.1 hu.2.2.2.2.1 hu.2.2.2.2.2)
theorem e_back_ {N : Nat} {M : mb_m} {t u : ts} {x : Int} {K : mb_m → Prop} (h : Bs M t) (hx : x = 1 ∨ x = -1) (hp : 1 ≤ t.2.2.2.2.1 ∧ t.2.2.2.2.1 ≤ 5) (hg : 0 ≤ t.2.2.2.1 ∧ t.2.2.2.1 < 8) (hi : t.2.2.2.2.2 = 0 ∨ t.2.2.2.2.2 = 1) (hl : -3000 ≤ t.2.2.1 ∧ t.2.2.1 ≤ 3000) (hn : ∀ k, -300 ≤ t.1 k ∧ t.1 k ≤ 300)
    (hu : (∀ k, (if k = 5 * t.2.2.2.1 + (t.2.2.2.2.1 - 1) then t.1 k + x * t.2.2.2.2.2 else t.1 k) = u.1 k) ∧ (∀ k, t.2.1 k = u.2.1 k) ∧ t.2.2.1 + x * 10 = u.2.2.1 ∧ t.2.2.2.1 = u.2.2.2.1 ∧ t.2.2.2.2.1 - 1 = u.2.2.2.2.1 ∧ t.2.2.2.2.2 = u.2.2.2.2.2)
    (hK : ∀ M', mf M M' bsc → Bs M' u → K M') : PX4_go N M (zI 2) (zI x) K := by
  have v7 : M 7 0 = zI t.2.2.2.2.1 := h.2.2.2.2.1
  have hti : (zI 2).toInt = 2 := by decide
  unfold PX4_go
  rw [hti]
  refine ⟨fun z => absurd z (by decide), fun z => absurd z (by decide), fun _ => ?_, fun z => absurd z (by decide), fun z => absurd z (by decide)⟩
  have e : ∀ x : Int, mb_c (zI x) 0 = zI x := fun _ => rfl
  simp (disch := omega) only [zI_lit, zI_neg, zI_add, zI_sub, zI_mul, zI_div, q_md, zI_lt, zI_le, zI_eq, zI_clamp, zI_vp, forall_eq, mb_u_eq, mb_u_ne, upd_eq, q_if, q_ifn, if_pos, if_neg, true_and, and_true, if_true, if_false, v7, e]
  refine e_pass (n := 0) (Bs_7 h _) hx (by (try dsimp only); omega) hg hi hl hn (fun M' hf hb => ?_)
  exact hK _ (mf_tr (mf_u (mf_refl _ _) _ (by decide)) (mf_mono hf (by decide))) (Bs_cong hb hu.1 hu.2.1 hu.2.2.1 hu.2.2.2.1 hu.2.2.2.2.1 hu.2.2.2.2.2)
theorem e_up {N : Nat} {M : mb_m} {t u : ts} {x : Int} {K : mb_m → Prop} (h : Bs M t) (hx : x = 1 ∨ x = -1) (hp : 0 ≤ t.2.2.2.1 ∧ t.2.2.2.1 ≤ 7) (hl : -3000 ≤ t.2.2.1 ∧ t.2.2.1 ≤ 3000) (hn : ∀ k, -300 ≤ t.2.1 k ∧ t.2.1 k ≤ 300)
    (hu : (∀ k, t.1 k = u.1 k) ∧ (∀ k, (if k = t.2.2.2.1 then t.2.1 k + x else t.2.1 k) = u.2.1 k) ∧ t.2.2.1 + x * 4 = u.2.2.1 ∧ t.2.2.2.1 + 1 = u.2.2.2.1 ∧ t.2.2.2.2.1 = u.2.2.2.2.1 ∧ t.2.2.2.2.2 = u.2.2.2.2.2)
    (hK : ∀ M', mf M M' bsc → Bs M' u → K M') : PX4_go N M (zI 3) (zI x) K := by
  have v6 : M 6 0 = zI t.2.2.2.1 := h.2.2.2.1
  have hti : (zI 3).toInt = 3 := by decide
  unfold PX4_go
  rw [hti]
  refine ⟨fun z => absurd z (by decide), fun z => absurd z (by decide), fun z => absurd z (by decide), fun _ => ?_, fun z => absurd z (by decide)⟩
  rw [v6]
  refine e_link h hx hp hl hn (fun M' hf hb => ?_)
  have w6 : M' 6 0 = zI t.2.2.2.1 := hb.2.2.2.1
  simp (disch := omega) only [zI_lit, zI_neg, zI_add, zI_sub, zI_mul, zI_div, q_md, zI_lt, zI_le, zI_eq, zI_clamp, zI_vp, forall_eq, mb_u_eq, mb_u_ne, upd_eq, q_if, q_ifn, if_pos, if_neg, true_and, and_true, if_true, if_false, w6]
  exact hK _ (mf_u (mf_mono hf (by decide)) _ (by decide)) (Bs_cong (Bs_6 hb _) hu.1 hu.2.1 hu.2.2.1 hu.2.2.2.1 hu.2.2.2.2.1 hu.2.2.2.2.2)
theorem e_down {N : Nat} {M : mb_m} {t u : ts} {x : Int} {K : mb_m → Prop} (h : Bs M t) (hx : x = 1 ∨ x = -1) (hp : 1 ≤ t.2.2.2.1 ∧ t.2.2.2.1 ≤ 8) (hl : -3000 ≤ t.2.2.1 ∧ t.2.2.1 ≤ 3000) (hn : ∀ k, -300 ≤ t.2.1 k ∧ t.2.1 k ≤ 300)
    (hu : (∀ k, t.1 k = u.1 k) ∧ (∀ k, (if k = t.2.2.2.1 - 1 then t.2.1 k + x else t.2.1 k) = u.2.1 k) ∧ t.2.2.1 + x * 4 = u.2.2.1 ∧ t.2.2.2.1 - 1 = u.2.2.2.1 ∧ t.2.2.2.2.1 = u.2.2.2.2.1 ∧ t.2.2.2.2.2 = u.2.2.2.2.2)
    (hK : ∀ M', mf M M' bsc → Bs M' u → K M') : PX4_go N M (zI 4) (zI x) K := by
  have v6 : M 6 0 = zI t.2.2.2.1 := h.2.2.2.1
  have hti : (zI 4).toInt = 4 := by decide
  unfold PX4_go
  rw [hti]
  refine ⟨fun z => absurd z (by decide), fun z => absurd z (by decide), fun z => absurd z (by decide), fun z => absurd z (by decide), fun _ => ?_⟩
  have e : ∀ x : Int, mb_c (zI x) 0 = zI x := fun _ => rfl
  simp (disch := omega) only [zI_lit, zI_neg, zI_add, zI_sub, zI_mul, zI_div, q_md, zI_lt, zI_le, zI_eq, zI_clamp, zI_vp, forall_eq, mb_u_eq, mb_u_ne, upd_eq, q_if, q_ifn, if_pos, if_neg, true_and, and_true, if_true, if_false, v6, e]
  refine e_link (Bs_6 h _) hx (by (try dsimp only); omega) hl hn (fun M' hf hb => ?_)
  exact hK _ (mf_tr (mf_u (mf_refl _ _) _ (by decide)) (mf_mono hf (by decide))) (Bs_cong hb hu.1 hu.2.1 hu.2.2.1 hu.2.2.2.1 hu.2.2.2.2.1 hu.2.2.2.2.2)
theorem e_thr {N : Nat} {M : mb_m} {t u : ts} {x : Int32} {K : mb_m → Prop} (h : Bs M t) (hi : t.2.2.2.2.2 = 0 ∨ t.2.2.2.2.2 = 1)
    (hu : (∀ k, t.1 k = u.1 k) ∧ (∀ k, t.2.1 k = u.2.1 k) ∧ t.2.2.1 = u.2.2.1 ∧ t.2.2.2.1 = u.2.2.2.1 ∧ t.2.2.2.2.1 = u.2.2.2.2.1 ∧ 1 - t.2.2.2.2.2 = u.2.2.2.2.2)
    (hK : ∀ M', mf M M' bsc → Bs M' u → K M') : PX4_go N M (zI 0) x K := by
  have v8 : M 8 0 = zI t.2.2.2.2.2 := h.2.2.2.2.2
  have hti : (zI 0).toInt = 0 := by decide
  unfold PX4_go
  rw [hti]
  refine ⟨fun _ => ?_, fun z => absurd z (by decide), fun z => absurd z (by decide), fun z => absurd z (by decide), fun z => absurd z (by decide)⟩
  unfold PX4_go_133
  have fin : ∀ y : Int, y = 1 - t.2.2.2.2.2 → K (mb_u M 8 (mb_c (zI y))) := fun y hy =>
    hK _ (mf_u (mf_refl _ _) _ (by decide)) (Bs_cong (Bs_8 h y) hu.1 hu.2.1 hu.2.2.1 hu.2.2.2.1 hu.2.2.2.2.1 (by (try dsimp only); rw [hy]; exact hu.2.2.2.2.2))
  simp (disch := omega) only [zI_lit, zI_neg, zI_add, zI_sub, zI_mul, zI_div, q_md, zI_lt, zI_le, zI_eq, zI_clamp, zI_vp, forall_eq, mb_u_eq, mb_u_ne, upd_eq, q_if, q_ifn, if_pos, if_neg, true_and, and_true, if_true, if_false, v8, q_isB0, q_isB1]
  split
  · exact fin 1 (by omega)
  · exact fin 0 (by omega)
/-- forth -/
theorem e_go {N : Nat} {M : mb_m} {t : ts} {mv g st n : Int} {K : mb_m → Prop} (h : Bs M t) (hr : trg g st t n) (hn : 0 ≤ n ∧ n ≤ 200) (hg : g ≤ 8) (hs : st ≤ 6) (hk : tok g st t mv)
    (hK : ∀ M', mf M M' bsc → Bs M' (tstep t mv) → K M') : PX4_go N M (zI mv) (zI 1) K := by
  obtain ⟨b1, b2, b3, b4, b5, b6⟩ := hk
  obtain ⟨a1, a2, a3, a4, a5, a6, a7, a8, a9, a10⟩ := id hr
  have l1 : ∀ k, -300 ≤ t.1 k ∧ t.1 k ≤ 300 := fun k => by have := a9 k; omega
  have l2 : ∀ k, -300 ≤ t.2.1 k ∧ t.2.1 k ≤ 300 := fun k => by have := a10 k; omega
  have hmv : mv = 0 ∨ mv = 1 ∨ mv = 2 ∨ mv = 3 ∨ mv = 4 := by omega
  rcases hmv with rfl | rfl | rfl | rfl | rfl
  · exact e_thr (u := tstep t 0) h (by omega) ⟨fun _ => rfl, fun _ => rfl, rfl, rfl, rfl, rfl⟩ hK
  · have := b3 rfl
    exact e_along (u := tstep t 1) h (Or.inl rfl) (by omega) (by omega) (by omega) (by omega) l1 ⟨fun k => by show _ = (if k = 5 * t.2.2.2.1 + t.2.2.2.2.1 then t.1 k + t.2.2.2.2.2 else t.1 k); rw [Int.one_mul], fun _ => rfl, rfl, rfl, rfl, rfl⟩ hK
  · have := b4 rfl
    exact e_back_ (u := tstep t 2) h (Or.inl rfl) (by omega) (by omega) (by omega) (by omega) l1 ⟨fun k => by show _ = (if k = 5 * t.2.2.2.1 + (t.2.2.2.2.1 - 1) then t.1 k + t.2.2.2.2.2 else t.1 k); rw [Int.one_mul], fun _ => rfl, rfl, rfl, rfl, rfl⟩ hK
  · have := b5 rfl
    exact e_up (u := tstep t 3) h (Or.inl rfl) (by omega) (by omega) l2 ⟨fun _ => rfl, fun k => rfl, rfl, rfl, rfl, rfl⟩ hK
  · have := b6 rfl
    exact e_down (u := tstep t 4) h (Or.inl rfl) (by omega) (by omega) l2 ⟨fun _ => rfl, fun k => rfl, rfl, rfl, rfl, rfl⟩ hK
/-- and back -/
def opp (m : Int) : Int := if m = 1 then 2 else if m = 2 then 1 else if m = 3 then 4 else if m = 4 then 3 else 0
theorem e_goB {N : Nat} {M : mb_m} {t : ts} {mv g st n : Int} {K : mb_m → Prop} (h : Bs M (tstep t mv)) (hr : trg g st t n) (hn : 0 ≤ n ∧ n ≤ 200) (hg : g ≤ 8) (hs : st ≤ 6) (hk : tok g st t mv)
    (hK : ∀ M', mf M M' bsc → Bs M' t → K M') : PX4_go N M (zI (opp mv)) (zI (-1)) K := by
  obtain ⟨a1, a2, a3, a4, a5, a6, a7, a8, a9, a10⟩ := trg_step hr hk
  obtain ⟨b1, b2, b3, b4, b5, b6⟩ := hk
  obtain ⟨c1, c2, c3, c4, c5, c6, c7, c8, c9, c10⟩ := hr
  have l1 : ∀ k, -300 ≤ (tstep t mv).1 k ∧ (tstep t mv).1 k ≤ 300 := fun k => by have := a9 k; omega
  have l2 : ∀ k, -300 ≤ (tstep t mv).2.1 k ∧ (tstep t mv).2.1 k ≤ 300 := fun k => by have := a10 k; omega
  have hmv : mv = 0 ∨ mv = 1 ∨ mv = 2 ∨ mv = 3 ∨ mv = 4 := by omega
  rcases hmv with rfl | rfl | rfl | rfl | rfl
  · exact e_thr (u := t) h (by omega) ⟨fun _ => rfl, fun _ => rfl, rfl, rfl, rfl, by show 1 - (1 - t.2.2.2.2.2) = _; omega⟩ hK
  · have := b3 rfl
    refine e_back_ (u := t) h (Or.inr rfl) ?_ (by omega) (by omega) (by omega) l1 ⟨fun k => ?_, fun _ => rfl, ?_, rfl, ?_, rfl⟩ hK
    · show 1 ≤ t.2.2.2.2.1 + 1 ∧ t.2.2.2.2.1 + 1 ≤ 5
      omega
    · show (if k = 5 * t.2.2.2.1 + (t.2.2.2.2.1 + 1 - 1) then (if k = 5 * t.2.2.2.1 + t.2.2.2.2.1 then t.1 k + t.2.2.2.2.2 else t.1 k) + -1 * t.2.2.2.2.2 else (if k = 5 * t.2.2.2.1 + t.2.2.2.2.1 then t.1 k + t.2.2.2.2.2 else t.1 k)) = t.1 k
      (repeat' split) <;> omega
    · show t.2.2.1 + 10 + -1 * 10 = _
      omega
    · show t.2.2.2.2.1 + 1 - 1 = _
      omega
  · have := b4 rfl
    refine e_along (u := t) h (Or.inr rfl) ?_ (by omega) (by omega) (by omega) l1 ⟨fun k => ?_, fun _ => rfl, ?_, rfl, ?_, rfl⟩ hK
    · show 0 ≤ t.2.2.2.2.1 - 1 ∧ t.2.2.2.2.1 - 1 ≤ 4
      omega
    · show (if k = 5 * t.2.2.2.1 + (t.2.2.2.2.1 - 1) then (if k = 5 * t.2.2.2.1 + (t.2.2.2.2.1 - 1) then t.1 k + t.2.2.2.2.2 else t.1 k) + -1 * t.2.2.2.2.2 else (if k = 5 * t.2.2.2.1 + (t.2.2.2.2.1 - 1) then t.1 k + t.2.2.2.2.2 else t.1 k)) = t.1 k
      (repeat' split) <;> omega
    · show t.2.2.1 + 10 + -1 * 10 = _
      omega
    · show t.2.2.2.2.1 - 1 + 1 = _
      omega
  · have := b5 rfl
    refine e_down (u := t) h (Or.inr rfl) ?_ (by omega) l2 ⟨fun _ => rfl, fun k => ?_, ?_, ?_, rfl, rfl⟩ hK
    · show 1 ≤ t.2.2.2.1 + 1 ∧ t.2.2.2.1 + 1 ≤ 8
      omega
    · show (if k = t.2.2.2.1 + 1 - 1 then (if k = t.2.2.2.1 then t.2.1 k + 1 else t.2.1 k) + -1 else (if k = t.2.2.2.1 then t.2.1 k + 1 else t.2.1 k)) = t.2.1 k
      (repeat' split) <;> omega
    · show t.2.2.1 + 4 + -1 * 4 = _
      omega
    · show t.2.2.2.1 + 1 - 1 = _
      omega
  · have := b6 rfl
    refine e_up (u := t) h (Or.inr rfl) ?_ (by omega) l2 ⟨fun _ => rfl, fun k => ?_, ?_, ?_, rfl, rfl⟩ hK
    · show 0 ≤ t.2.2.2.1 - 1 ∧ t.2.2.2.1 - 1 ≤ 7
      omega
    · show (if k = t.2.2.2.1 - 1 then (if k = t.2.2.2.1 - 1 then t.2.1 k + 1 else t.2.1 k) + -1 else (if k = t.2.2.2.1 - 1 then t.2.1 k + 1 else t.2.1 k)) = t.2.1 k
      (repeat' split) <;> omega
    · show t.2.2.1 + 4 + -1 * 4 = _
      omega
    · show t.2.2.2.1 - 1 + 1 = _
      omega
theorem m_can {N : Nat} {M : mb_m} {t : ts} {a mv g st n : Int} {K : Int32 → mb_m → Prop} (ha : 0 ≤ a ∧ a < 4) (h : Tm M t) (hr : trg g st t n) (hg : g ≤ 8) (hs : st ≤ 6) (h5 : M 5 a.toNat = zI g) (h7 : M 7 a.toNat = zI st) (hm : 0 ≤ mv ∧ mv ≤ 4)
    (k1 : tok g st t mv → K (zI 1) M) (k0 : ¬ tok g st t mv → K (zI 0) M) : PX8_can N M (zI a) (zI mv) K := by
  obtain ⟨h13, h14, h15, h16, h17, h18⟩ := h
  obtain ⟨a1, a2, a3, a4, a5, a6, a7, a8, a9, a10⟩ := hr
  have v16 : M 16 0 = zI t.2.2.2.1 := h16
  have v17 : M 17 0 = zI t.2.2.2.2.1 := h17
  have v18 : M 18 0 = zI t.2.2.2.2.2 := h18
  have hti : (zI mv).toInt = mv := zI_ti (by omega) (by omega)
  unfold tok at k0 k1
  unfold PX8_can
  rw [hti]
  refine ⟨fun z => ?_, fun z => ?_, fun z => ?_, fun z => ?_, fun z => ?_⟩
  · simp (disch := omega) only [zI_lit, zI_neg, zI_add, zI_sub, zI_mul, zI_div, q_md, zI_lt, zI_le, zI_eq, zI_clamp, zI_vp, forall_eq, mb_u_eq, mb_u_ne, upd_eq, q_if, q_ifn, if_pos, if_neg, true_and, and_true, if_true, if_false, v16, v18]
    (repeat' split) <;> first | exact k1 (by omega) | exact k0 (by omega)
  · exact k1 (by omega)
  · simp (disch := omega) only [zI_lit, zI_neg, zI_add, zI_sub, zI_mul, zI_div, q_md, zI_lt, zI_le, zI_eq, zI_clamp, zI_vp, forall_eq, mb_u_eq, mb_u_ne, upd_eq, q_if, q_ifn, if_pos, if_neg, true_and, and_true, if_true, if_false, v17, h7]
    (repeat' split) <;> first | exact k1 (by omega) | exact k0 (by omega)
  · simp (disch := omega) only [zI_lit, zI_neg, zI_add, zI_sub, zI_mul, zI_div, q_md, zI_lt, zI_le, zI_eq, zI_clamp, zI_vp, forall_eq, mb_u_eq, mb_u_ne, upd_eq, q_if, q_ifn, if_pos, if_neg, true_and, and_true, if_true, if_false, v17]
    (repeat' split) <;> first | exact k1 (by omega) | exact k0 (by omega)
  · simp (disch := omega) only [zI_lit, zI_neg, zI_add, zI_sub, zI_mul, zI_div, q_md, zI_lt, zI_le, zI_eq, zI_clamp, zI_vp, forall_eq, mb_u_eq, mb_u_ne, upd_eq, q_if, q_ifn, if_pos, if_neg, true_and, and_true, if_true, if_false, v16, v18, h5]
    (repeat' split) <;> first | exact k1 (by omega) | exact k0 (by omega)
theorem e_allows {N : Nat} {M : mb_m} {t : ts} {mv g st n : Int} {K : Int32 → mb_m → Prop} (h : Bs M t) (hr : trg g st t n) (hg : g ≤ 8) (hs : st ≤ 6) (hn : 0 ≤ n ∧ n ≤ 200) (h0 : m1 M 0 g) (h1 : m1 M 1 st) (h5 : m1 M 5 n) (hm : 0 ≤ mv ∧ mv ≤ 4)
    (k1 : n < 200 → tok g st t mv → K (zI 1) M) (k0 : ¬ (n < 200 ∧ tok g st t mv) → K (zI 0) M) : PX4_allows N M (zI mv) K := by
  obtain ⟨g2, g3, g9, g6, g7, g8⟩ := h
  obtain ⟨a1, a2, a3, a4, a5, a6, a7, a8, a9, a10⟩ := hr
  have w0 : M 0 0 = zI g := h0
  have w1 : M 1 0 = zI st := h1
  have w5 : M 5 0 = zI n := h5
  have w6 : M 6 0 = zI t.2.2.2.1 := g6
  have w7 : M 7 0 = zI t.2.2.2.2.1 := g7
  have w8 : M 8 0 = zI t.2.2.2.2.2 := g8
  have hti : (zI mv).toInt = mv := zI_ti (by omega) (by omega)
  unfold tok at k0 k1
  unfold PX4_allows
  rw [hti]
  refine ⟨fun y => ?_, fun y => ?_⟩
  · have y : n < 200 := by
      rw [w5] at y
      exact (zI_lt (by omega) (by omega) (by omega) (by omega)).mp y
    refine ⟨fun z => ?_, fun z => ?_, fun z => ?_, fun z => ?_, fun z => ?_⟩
    · exact k1 y (by omega)
    · simp (disch := omega) only [zI_lit, zI_neg, zI_add, zI_sub, zI_mul, zI_div, q_md, zI_lt, zI_le, zI_eq, zI_clamp, zI_vp, forall_eq, mb_u_eq, mb_u_ne, upd_eq, q_if, q_ifn, if_pos, if_neg, true_and, and_true, if_true, if_false, w1, w7]
      (repeat' split) <;> first | exact k1 y (by omega) | exact k0 (by omega)
    · simp (disch := omega) only [zI_lit, zI_neg, zI_add, zI_sub, zI_mul, zI_div, q_md, zI_lt, zI_le, zI_eq, zI_clamp, zI_vp, forall_eq, mb_u_eq, mb_u_ne, upd_eq, q_if, q_ifn, if_pos, if_neg, true_and, and_true, if_true, if_false, w7]
      (repeat' split) <;> first | exact k1 y (by omega) | exact k0 (by omega)
    · simp (disch := omega) only [zI_lit, zI_neg, zI_add, zI_sub, zI_mul, zI_div, q_md, zI_lt, zI_le, zI_eq, zI_clamp, zI_vp, forall_eq, mb_u_eq, mb_u_ne, upd_eq, q_if, q_ifn, if_pos, if_neg, true_and, and_true, if_true, if_false, w0, w6, w8]
      (repeat' split) <;> first | exact k1 y (by omega) | exact k0 (by omega)
    · simp (disch := omega) only [zI_lit, zI_neg, zI_add, zI_sub, zI_mul, zI_div, q_md, zI_lt, zI_le, zI_eq, zI_clamp, zI_vp, forall_eq, mb_u_eq, mb_u_ne, upd_eq, q_if, q_ifn, if_pos, if_neg, true_and, and_true, if_true, if_false, w6, w8]
      (repeat' split) <;> first | exact k1 y (by omega) | exact k0 (by omega)
  · have y : ¬ n < 200 := fun x => y (by rw [w5]; exact (zI_lt (by omega) (by omega) (by omega) (by omega)).mpr x)
    exact k0 (by omega)
theorem e_make {N : Nat} {M : mb_m} {t : ts} {mv g st n : Int} {mw : Int → Int} {K : mb_m → Prop} (h : Bs M t) (hr : trg g st t n) (hn : 0 ≤ n ∧ n < 200) (hg : g ≤ 8) (hs : st ≤ 6) (h4 : mr M 4 mw n) (h5 : m1 M 5 n) (hk : tok g st t mv)
    (hK : ∀ M', mf M M' (4 :: 5 :: bsc) → mr M' 4 (fun k => if k = n then mv else mw k) (n + 1) → m1 M' 5 (n + 1) → Bs M' (tstep t mv) → K M') : PX4_make N M (zI mv) K := by
  have w5 : M 5 0 = zI n := h5
  unfold PX4_make
  simp (disch := omega) only [zI_lit, zI_neg, zI_add, zI_sub, zI_mul, zI_div, q_md, zI_lt, zI_le, zI_eq, zI_clamp, zI_vp, forall_eq, mb_u_eq, mb_u_ne, upd_eq, q_if, q_ifn, if_pos, if_neg, true_and, and_true, if_true, if_false, w5]
  obtain ⟨g2, g3, g9, g6, g7, g8⟩ := h
  refine e_go (t := t) (n := n) ⟨mr_ne _ (mr_ne _ g2 (by decide)) (by decide), mr_ne _ (mr_ne _ g3 (by decide)) (by decide), m1_ne _ (m1_ne _ g9 (by decide)) (by decide), m1_ne _ (m1_ne _ g6 (by decide)) (by decide), m1_ne _ (m1_ne _ g7 (by decide)) (by decide), m1_ne _ (m1_ne _ g8 (by decide)) (by decide)⟩ hr (by omega) hg hs hk (fun M' hf hb => ?_)
  refine hK M' (mf_tr (mf_u (mf_u (mf_refl _ _) _ (by decide)) _ (by decide)) (mf_mono hf (by decide))) (mf_mr hf (by decide) (mr_ne _ (mr_app h4 hn.1 (if_pos rfl) (fun k _ k2 => if_neg (by omega))) (by decide))) (mf_m1 hf (by decide) (m1_set _ _ _)) hb
theorem m_sew {N : Nat} {m : mb_m} {a mv nb : Int} {v : kN} {mw rp vf vt vw : Int → Int} {K : Int32 → mb_m → Prop} (hN : 700 ≤ N) (hb : m1 m 4 nb) (hnb : nb ≤ 4) (ha : 0 ≤ a ∧ a < nb) (l : -2147483648 ≤ mv) (g : mv < 2147483648) (kr : Kr v mw rp vf vt vw) (km : Km m a v mw rp vf vt vw)
    (k2 : ¬ (0 ≤ mv ∧ mv ≤ 4) → K (zI 0) (mb_u m 27 (mb_c (zI 2))))
    (k3 : ∀ M', mf m M' scr → 0 ≤ mv ∧ mv ≤ 4 → ¬ (v 6 < 200 ∧ tok (v 0) (v 2) (tr mw (v 6).toNat) mv) → K (zI 0) (mb_u M' 27 (mb_c (zI 3))))
    (k0 : ∀ M' M'', mf m M' scr → 0 ≤ mv ∧ mv ≤ 4 → v 6 < 200 → tok (v 0) (v 2) (tr mw (v 6).toNat) mv → mf (mb_u (mb_u (mb_u M' 27 (mb_c (zI 0))) 12 (upd (M' 12) (200 * a + v 6).toNat (zI mv))) 11 (upd (M' 11) a.toNat (zI (v 6 + 1)))) M'' scr → K (zI (tstep (tr mw (v 6).toNat) mv).2.2.1) M'') : PX8_sew N m (zI a) (zI mv) K := by
  obtain ⟨r1, r2, r3, r4, r5, r6, r7, r8, r9, r10, r11, r12⟩ := id kr
  obtain ⟨⟨q1, q2, q3, q4, q5, q6, q7, q8, q9⟩, q10, q11, q12⟩ := id km
  have hrg := tr_rng r1.1 r3.1 r10
  have en : (((v 6).toNat : Nat) : Int) = v 6 := by omega
  rw [en] at hrg
  unfold PX8_sew PX8_canMove
  simp (disch := omega) only [zI_lit, zI_neg, zI_add, zI_sub, zI_mul, zI_div, q_md, zI_lt, zI_le, zI_eq, zI_clamp, zI_vp, forall_eq, mb_u_eq, mb_u_ne, upd_eq, q_isBook (by omega : -2147483648 ≤ a) (by omega : a < 2147483648) hb, q_in8]
  rw [if_pos (by omega)]
  by_cases c : 0 ≤ mv ∧ mv ≤ 4
  · rw [if_pos c]
    simp (disch := omega) only [zI_lit, zI_neg, zI_add, zI_sub, zI_mul, zI_div, q_md, zI_lt, zI_le, zI_eq, zI_clamp, zI_vp, forall_eq, mb_u_eq, mb_u_ne, upd_eq, q_if, q_ifn, if_pos, if_neg, true_and, and_true, if_true, if_false]
    refine m_follows (g := v 0) (st := v 2) (n := (v 6).toNat) (mv := mw) hN (by omega) r1 r3 (by omega) (by rw [en]; exact q7) (fun k h1 h2 => q10 k h1 (by omega)) r10 (fun M' hf ht => ?_)
    have w11 : M' 11 a.toNat = zI (v 6) := by rw [hf 11 (by decide)]; exact q7
    have w5 : M' 5 a.toNat = zI (v 0) := by rw [hf 5 (by decide)]; exact q1
    have w7 : M' 7 a.toNat = zI (v 2) := by rw [hf 7 (by decide)]; exact q3
    have b3 : ¬ (v 6 < 200 ∧ tok (v 0) (v 2) (tr mw (v 6).toNat) mv) → PX8_sew_40 N K M' (zI a) (zI mv) (zI 1) (zI 1) := by
      intro z
      unfold PX8_sew_40 PX8_sew_41
      simp (disch := omega) only [zI_lit, zI_neg, zI_add, zI_sub, zI_mul, zI_div, q_md, zI_lt, zI_le, zI_eq, zI_clamp, zI_vp, forall_eq, mb_u_eq, mb_u_ne, upd_eq, q_if, q_ifn, if_pos, if_neg, true_and, and_true, if_true, if_false, q_goes110]
      exact k3 M' hf c z
    have b0 : v 6 < 200 → tok (v 0) (v 2) (tr mw (v 6).toNat) mv → PX8_sew_41 N K M' (zI a) (zI mv) (zI 1) (zI 1) (zI 1) := by
      intro z1 z2
      unfold PX8_sew_41
      simp (disch := omega) only [zI_lit, zI_neg, zI_add, zI_sub, zI_mul, zI_div, q_md, zI_lt, zI_le, zI_eq, zI_clamp, zI_vp, forall_eq, mb_u_eq, mb_u_ne, upd_eq, q_if, q_ifn, if_pos, if_neg, true_and, and_true, if_true, if_false, q_goes111, w11]
      obtain ⟨t13, t14, t15, t16, t17, t18⟩ := ht
      refine m_moves (t := tr mw (v 6).toNat) (n := v 6) ⟨mr_ne _ (mr_ne _ (mr_ne _ t13 (by decide)) (by decide)) (by decide), mr_ne _ (mr_ne _ (mr_ne _ t14 (by decide)) (by decide)) (by decide), m1_ne _ (m1_ne _ (m1_ne _ t15 (by decide)) (by decide)) (by decide), m1_ne _ (m1_ne _ (m1_ne _ t16 (by decide)) (by decide)) (by decide), m1_ne _ (m1_ne _ (m1_ne _ t17 (by decide)) (by decide)) (by decide), m1_ne _ (m1_ne _ (m1_ne _ t18 (by decide)) (by decide)) (by decide)⟩ hrg (by omega) r1.2 r3.2 z2 (fun M'' hf'' ht'' => ?_)
      have e15 : M'' 15 0 = zI (tstep (tr mw (v 6).toNat) mv).2.2.1 := ht''.2.2.1
      rw [e15]
      exact k0 M' M'' hf c z1 z2 hf''
    simp (disch := omega) only [zI_lit, zI_neg, zI_add, zI_sub, zI_mul, zI_div, q_md, zI_lt, zI_le, zI_eq, zI_clamp, zI_vp, forall_eq, mb_u_eq, mb_u_ne, upd_eq, q_if, q_ifn, if_pos, if_neg, true_and, and_true, if_true, if_false, w11]
    split
    · exact b3 (by omega)
    · refine m_can (n := v 6) (by omega) ht hrg r1.2 r3.2 w5 w7 c (fun z => ?_) (fun z => ?_)
      · simp (disch := omega) only [zI_lit, zI_neg, zI_add, zI_sub, zI_mul, zI_div, q_md, zI_lt, zI_le, zI_eq, zI_clamp, zI_vp, forall_eq, mb_u_eq, mb_u_ne, upd_eq, q_if, q_ifn, if_pos, if_neg, true_and, and_true, if_true, if_false]
        exact b0 (by omega) z
      · simp (disch := omega) only [zI_lit, zI_neg, zI_add, zI_sub, zI_mul, zI_div, q_md, zI_lt, zI_le, zI_eq, zI_clamp, zI_vp, forall_eq, mb_u_eq, mb_u_ne, upd_eq, q_if, q_ifn, if_pos, if_neg, true_and, and_true, if_true, if_false]
        exact b3 (fun y => z y.2)
  · rw [if_neg c]
    simp (disch := omega) only [zI_lit, zI_neg, zI_add, zI_sub, zI_mul, zI_div, q_md, zI_lt, zI_le, zI_eq, zI_clamp, zI_vp, forall_eq, mb_u_eq, mb_u_ne, upd_eq, q_if, q_ifn, if_pos, if_neg, true_and, and_true, if_true, if_false]
    unfold PX8_sew_40 PX8_sew_41
    simp (disch := omega) only [zI_lit, zI_neg, zI_add, zI_sub, zI_mul, zI_div, q_md, zI_lt, zI_le, zI_eq, zI_clamp, zI_vp, forall_eq, mb_u_eq, mb_u_ne, upd_eq, q_if, q_ifn, if_pos, if_neg, true_and, and_true, if_true, if_false, q_goes10]
    exact k2 c
