/-- the model's thread that was gone through -/
def Tm (M : mb_m) (t : ts) : Prop := mr M 13 t.1 40 ∧ mr M 14 (fun k => qb (0 < t.2.1 k)) 8 ∧ m1 M 15 t.2.2.1 ∧ m1 M 16 t.2.2.2.1 ∧ m1 M 17 t.2.2.2.2.1 ∧ m1 M 18 t.2.2.2.2.2
abbrev scr : List Nat := [13, 14, 15, 16, 17, 18]
theorem zI_ti {a : Int} (h1 : -2147483648 ≤ a) (h2 : a < 2147483648) : (zI a).toInt = a := zI_toInt h1 h2


/-- the bench's thread -/
def Bs (M : mb_m) (t : ts) : Prop := mr M 2 t.1 40 ∧ mr M 3 t.2.1 8 ∧ m1 M 9 t.2.2.1 ∧ m1 M 6 t.2.2.2.1 ∧ m1 M 7 t.2.2.2.2.1 ∧ m1 M 8 t.2.2.2.2.2
abbrev bsc : List Nat := [2, 3, 6, 7, 8, 9]
theorem e_pass {N : Nat} {M : mb_m} {t : ts} {x pt n : Int} {K : mb_m → Prop} (h : Bs M t) (hx : x = 1 ∨ x = -1) (hp : 0 ≤ pt ∧ pt ≤ 4) (hg : 0 ≤ t.2.2.2.1 ∧ t.2.2.2.1 < 8) (hi : t.2.2.2.2.2 = 0 ∨ t.2.2.2.2.2 = 1) (hl : -3000 ≤ t.2.2.1 ∧ t.2.2.1 ≤ 3000) (hn : ∀ k, -300 ≤ t.1 k ∧ t.1 k ≤ 300)
    (hK : ∀ M', mf M M' [2, 9] → Bs M' (fun k => if k = 5 * t.2.2.2.1 + pt then t.1 k + x * t.2.2.2.2.2 else t.1 k, t.2.1, t.2.2.1 + x * 10, t.2.2.2.1, t.2.2.2.2.1, t.2.2.2.2.2) → K M') : PX4_pass N M (zI pt) (zI x) K := by
  obtain ⟨h2, h3, h9, h6, h7, h8⟩ := h
  have v9 : M 9 0 = zI t.2.2.1 := h9
  have v6 : M 6 0 = zI t.2.2.2.1 := h6
  have v8 : M 8 0 = zI t.2.2.2.2.2 := h8
  have q := hn (5 * t.2.2.2.1 + pt)
  have v2 := h2 (5 * t.2.2.2.1 + pt) (by omega) (by omega)
  rw [show 5 * t.2.2.2.1 + pt = t.2.2.2.1 * 5 + pt by omega] at v2
  unfold PX4_pass
  simp (disch := omega) only [zI_lit, zI_neg, zI_add, zI_sub, zI_mul, zI_div, q_md, zI_lt, zI_le, zI_eq, zI_clamp, zI_vp, forall_eq, mb_u_eq, mb_u_ne, upd_eq, q_if, q_ifn, if_pos, if_neg, true_and, and_true, if_true, if_false, v9, v6, v8, v2]
  rcases hi with e | e
  · rw [if_pos e]
    refine hK _ (mf_u (mf_refl _ _) _ (by decide)) ⟨mr_cong (mr_ne _ h2 (by decide)) (fun k _ _ => by (try dsimp only); rw [e]; split <;> omega), mr_ne _ h3 (by decide), m1_set _ _ _, m1_ne _ h6 (by decide), m1_ne _ h7 (by decide), m1_ne _ h8 (by decide)⟩
  · rw [if_neg (by omega)]
    refine hK _ (mf_u (mf_u (mf_refl _ _) _ (by decide)) _ (by decide)) ⟨mr_up h2 (by omega) (by omega) (by (try dsimp only); rw [if_pos (by omega), e]; omega) (fun k _ _ k3 => by (try dsimp only); rw [if_neg (by omega)]), mr_ne _ (mr_ne _ h3 (by decide)) (by decide), m1_ne _ (m1_set _ _ _) (by decide), m1_ne _ (m1_ne _ h6 (by decide)) (by decide), m1_ne _ (m1_ne _ h7 (by decide)) (by decide), m1_ne _ (m1_ne _ h8 (by decide)) (by decide)⟩
theorem e_link {N : Nat} {M : mb_m} {t : ts} {x lw : Int} {K : mb_m → Prop} (h : Bs M t) (hx : x = 1 ∨ x = -1) (hp : 0 ≤ lw ∧ lw ≤ 7) (hl : -3000 ≤ t.2.2.1 ∧ t.2.2.1 ≤ 3000) (hn : ∀ k, -300 ≤ t.2.1 k ∧ t.2.1 k ≤ 300)
    (hK : ∀ M', mf M M' [3, 9] → Bs M' (t.1, fun k => if k = lw then t.2.1 k + x else t.2.1 k, t.2.2.1 + x * 4, t.2.2.2.1, t.2.2.2.2.1, t.2.2.2.2.2) → K M') : PX4_link N M (zI lw) (zI x) K := by
  obtain ⟨h2, h3, h9, h6, h7, h8⟩ := h
  have v9 : M 9 0 = zI t.2.2.1 := h9
  have q := hn lw
  have v3 := h3 lw (by omega) (by omega)
  unfold PX4_link
  simp (disch := omega) only [zI_lit, zI_neg, zI_add, zI_sub, zI_mul, zI_div, q_md, zI_lt, zI_le, zI_eq, zI_clamp, zI_vp, forall_eq, mb_u_eq, mb_u_ne, upd_eq, q_if, q_ifn, if_pos, if_neg, true_and, and_true, if_true, if_false, v9, v3]
  refine hK _ (mf_u (mf_u (mf_refl _ _) _ (by decide)) _ (by decide)) ⟨mr_ne _ (mr_ne _ h2 (by decide)) (by decide), mr_up h3 (by omega) (by omega) (by (try dsimp only); rw [if_pos rfl]) (fun k _ _ k3 => by (try dsimp only); rw [if_neg k3]), m1_ne _ (m1_set _ _ _) (by decide), m1_ne _ (m1_ne _ h6 (by decide)) (by decide), m1_ne _ (m1_ne _ h7 (by decide)) (by decide), m1_ne _ (m1_ne _ h8 (by decide)) (by decide)⟩
theorem Bs_7 {M : mb_m} {t : ts} (h : Bs M t) (y : Int) : Bs (mb_u M 7 (mb_c (zI y))) (t.1, t.2.1, t.2.2.1, t.2.2.2.1, y, t.2.2.2.2.2) := by
  obtain ⟨h2, h3, h9, h6, h7, h8⟩ := h
  exact ⟨mr_ne _ h2 (by decide), mr_ne _ h3 (by decide), m1_ne _ h9 (by decide), m1_ne _ h6 (by decide), m1_set _ _ _, m1_ne _ h8 (by decide)⟩
theorem Bs_6 {M : mb_m} {t : ts} (h : Bs M t) (y : Int) : Bs (mb_u M 6 (mb_c (zI y))) (t.1, t.2.1, t.2.2.1, y, t.2.2.2.2.1, t.2.2.2.2.2) := by
  obtain ⟨h2, h3, h9, h6, h7, h8⟩ := h
  exact ⟨mr_ne _ h2 (by decide), mr_ne _ h3 (by decide), m1_ne _ h9 (by decide), m1_set _ _ _, m1_ne _ h7 (by decide), m1_ne _ h8 (by decide)⟩
theorem Bs_8 {M : mb_m} {t : ts} (h : Bs M t) (y : Int) : Bs (mb_u M 8 (mb_c (zI y))) (t.1, t.2.1, t.2.2.1, t.2.2.2.1, t.2.2.2.2.1, y) := by
  obtain ⟨h2, h3, h9, h6, h7, h8⟩ := h
  exact ⟨mr_ne _ h2 (by decide), mr_ne _ h3 (by decide), m1_ne _ h9 (by decide), m1_ne _ h6 (by decide), m1_ne _ h7 (by decide), m1_set _ _ _⟩
theorem Bs_cong {M : mb_m} {t u : ts} (h : Bs M t) (h1 : ∀ k, t.1 k = u.1 k) (h2 : ∀ k, t.2.1 k = u.2.1 k) (h3 : t.2.2.1 = u.2.2.1) (h4 : t.2.2.2.1 = u.2.2.2.1) (h5 : t.2.2.2.2.1 = u.2.2.2.2.1) (h6 : t.2.2.2.2.2 = u.2.2.2.2.2) : Bs M u := by
  obtain ⟨g2, g3, g9, g6, g7, g8⟩ := h
  exact ⟨mr_cong g2 (fun k _ _ => h1 k), mr_cong g3 (fun k _ _ => h2 k), h3 ▸ g9, h4 ▸ g6, h5 ▸ g7, h6 ▸ g8⟩
/-- the bench's thread goes a move: x = 1 forth, -1 back -/
theorem e_along {N : Nat} {M : mb_m} {t u : ts} {x : Int} {K : mb_m → Prop} (h : Bs M t) (hx : x = 1 ∨ x = -1) (hp : 0 ≤ t.2.2.2.2.1 ∧ t.2.2.2.2.1 ≤ 4) (hg : 0 ≤ t.2.2.2.1 ∧ t.2.2.2.1 < 8) (hi : t.2.2.2.2.2 = 0 ∨ t.2.2.2.2.2 = 1) (hl : -3000 ≤ t.2.2.1 ∧ t.2.2.1 ≤ 3000) (hn : ∀ k, -300 ≤ t.1 k ∧ t.1 k ≤ 300)
    (hu : (∀ k, (if k = 5 * t.2.2.2.1 + t.2.2.2.2.1 then t.1 k + x * t.2.2.2.2.2 else t.1 k) = u.1 k) ∧ (∀ k, t.2.1 k = u.2.1 k) ∧ t.2.2.1 + x * 10 = u.2.2.1 ∧ t.2.2.2.1 = u.2.2.2.1 ∧ t.2.2.2.2.1 + 1 = u.2.2.2.2.1 ∧ t.2.2.2.2.2 = u.2.2.2.2.2)
    (hK : ∀ M', mf M M' bsc → Bs M' u → K M') : PX4_go N M (zI 1) (zI x) K := by
  have v7 : M 7 0 = zI t.2.2.2.2.1 := h.2.2.2.2.1
  have hti : (zI 1).toInt = 1 := by decide
  unfold PX4_go
  rw [hti]
  refine ⟨fun z => absurd z (by decide), fun _ => ?_, fun z => absurd z (by decide), fun z => absurd z (by decide), fun z => absurd z (by decide)⟩
  rw [v7]
  refine e_pass (n := 0) h hx hp hg hi hl hn (fun M' hf hb => ?_)
  have w7 : M' 7 0 = zI t.2.2.2.2.1 := hb.2.2.2.2.1
  simp (disch := omega) only [zI_lit, zI_neg, zI_add, zI_sub, zI_mul, zI_div, q_md, zI_lt, zI_le, zI_eq, zI_clamp, zI_vp, forall_eq, mb_u_eq, mb_u_ne, upd_eq, q_if, q_ifn, if_pos, if_neg, true_and, and_true, if_true, if_false, w7]
  exact hK _ (mf_u (mf_mono hf (by decide)) _ (by decide)) (Bs_cong (Bs_7 hb _) hu.1 hu.2.1 hu.2.2.1 hu.2.2.2.1 hu.2.2.2.2.1 hu.2.2.2.2.2)
theorem e_back_ {N : Nat} {M : mb_m} {t u : ts} {x : Int} {K : mb_m → Prop} (h : Bs M t) (hx : x = 1 ∨ x = -1) (hp : 1 ≤ t.2.2.2.2.1 ∧ t.2.2.2.2.1 ≤ 5) (hg : 0 ≤ t.2.2.2.1 ∧ t.2.2.2.1 < 8) (hi : t.2.2.2.2.2 = 0 ∨ t.2.2.2.2.2 = 1) (hl : -3000 ≤ t.2.2.1 ∧ t.2.2.1 ≤ 3000) (hn : ∀ k, -300 ≤ t.1 k ∧ t.1 k ≤ 300)
    (hu : (∀ k, (if k = 5 * t.2.2.2.1 + (t.2.2.2.2.1 - 1) then t.1 k + x * t.2.2.2.2.2 else t.1 k) = u.1 k) ∧ (∀ k, t.2.1 k = u.2.1 k) ∧ t.2.2.1 + x * 10 = u.2.2.1 ∧ t.2.2.2.1 = u.2.2.2.1 ∧ t.2.2.2.2.1 - 1 = u.2.2.2.2.1 ∧ t.2.2.2.2.2 = u.2.2.2.2.2)
    (hK : ∀ M', mf M M' bsc → Bs M' u → K M') : PX4_go N M (zI 2) (zI x) K := by
  have v7 : M 7 0 = zI t.2.2.2.2.1 := h.2.2.2.2.1
  have hti : (zI 2).toInt = 2 := by decide
  unfold PX4_go
  rw [hti]
  refine ⟨fun z => absurd z (by decide), fun z => absurd z (by decide), fun _ => ?_, fun z => absurd z (by decide), fun z => absurd z (by decide)⟩
  have e : ∀ x : Int, mb_c (zI x) 0 = zI x := fun _ => rfl
  simp (disch := omega) only [zI_lit, zI_neg, zI_add, zI_sub, zI_mul, zI_div, q_md, zI_lt, zI_le, zI_eq, zI_clamp, zI_vp, forall_eq, mb_u_eq, mb_u_ne, upd_eq, q_if, q_ifn, if_pos, if_neg, true_and, and_true, if_true, if_false, v7, e]
  refine e_pass (n := 0) (Bs_7 h _) hx (by (try dsimp only); omega) hg hi hl hn (fun M' hf hb => ?_)
  exact hK _ (mf_tr (mf_u (mf_refl _ _) _ (by decide)) (mf_mono hf (by decide))) (Bs_cong hb hu.1 hu.2.1 hu.2.2.1 hu.2.2.2.1 hu.2.2.2.2.1 hu.2.2.2.2.2)
theorem e_up {N : Nat} {M : mb_m} {t u : ts} {x : Int} {K : mb_m → Prop} (h : Bs M t) (hx : x = 1 ∨ x = -1) (hp : 0 ≤ t.2.2.2.1 ∧ t.2.2.2.1 ≤ 7) (hl : -3000 ≤ t.2.2.1 ∧ t.2.2.1 ≤ 3000) (hn : ∀ k, -300 ≤ t.2.1 k ∧ t.2.1 k ≤ 300)
    (hu : (∀ k, t.1 k = u.1 k) ∧ (∀ k, (if k = t.2.2.2.1 then t.2.1 k + x else t.2.1 k) = u.2.1 k) ∧ t.2.2.1 + x * 4 = u.2.2.1 ∧ t.2.2.2.1 + 1 = u.2.2.2.1 ∧ t.2.2.2.2.1 = u.2.2.2.2.1 ∧ t.2.2.2.2.2 = u.2.2.2.2.2)
    (hK : ∀ M', mf M M' bsc → Bs M' u → K M') : PX4_go N M (zI 3) (zI x) K := by
  have v6 : M 6 0 = zI t.2.2.2.1 := h.2.2.2.1
  have hti : (zI 3).toInt = 3 := by decide
  unfold PX4_go
  rw [hti]
  refine ⟨fun z => absurd z (by decide), fun z => absurd z (by decide), fun z => absurd z (by decide), fun _ => ?_, fun z => absurd z (by decide)⟩
  rw [v6]
  refine e_link h hx hp hl hn (fun M' hf hb => ?_)
  have w6 : M' 6 0 = zI t.2.2.2.1 := hb.2.2.2.1
  simp (disch := omega) only [zI_lit, zI_neg, zI_add, zI_sub, zI_mul, zI_div, q_md, zI_lt, zI_le, zI_eq, zI_clamp, zI_vp, forall_eq, mb_u_eq, mb_u_ne, upd_eq, q_if, q_ifn, if_pos, if_neg, true_and, and_true, if_true, if_false, w6]
  exact hK _ (mf_u (mf_mono hf (by decide)) _ (by decide)) (Bs_cong (Bs_6 hb _) hu.1 hu.2.1 hu.2.2.1 hu.2.2.2.1 hu.2.2.2.2.1 hu.2.2.2.2.2)
theorem e_down {N : Nat} {M : mb_m} {t u : ts} {x : Int} {K : mb_m → Prop} (h : Bs M t) (hx : x = 1 ∨ x = -1) (hp : 1 ≤ t.2.2.2.1 ∧ t.2.2.2.1 ≤ 8) (hl : -3000 ≤ t.2.2.1 ∧ t.2.2.1 ≤ 3000) (hn : ∀ k, -300 ≤ t.2.1 k ∧ t.2.1 k ≤ 300)
    (hu : (∀ k, t.1 k = u.1 k) ∧ (∀ k, (if k = t.2.2.2.1 - 1 then t.2.1 k + x else t.2.1 k) = u.2.1 k) ∧ t.2.2.1 + x * 4 = u.2.2.1 ∧ t.2.2.2.1 - 1 = u.2.2.2.1 ∧ t.2.2.2.2.1 = u.2.2.2.2.1 ∧ t.2.2.2.2.2 = u.2.2.2.2.2)
    (hK : ∀ M', mf M M' bsc → Bs M' u → K M') : PX4_go N M (zI 4) (zI x) K := by
  have v6 : M 6 0 = zI t.2.2.2.1 := h.2.2.2.1
  have hti : (zI 4).toInt = 4 := by decide
  unfold PX4_go
  rw [hti]
  refine ⟨fun z => absurd z (by decide), fun z => absurd z (by decide), fun z => absurd z (by decide), fun z => absurd z (by decide), fun _ => ?_⟩
  have e : ∀ x : Int, mb_c (zI x) 0 = zI x := fun _ => rfl
  simp (disch := omega) only [zI_lit, zI_neg, zI_add, zI_sub, zI_mul, zI_div, q_md, zI_lt, zI_le, zI_eq, zI_clamp, zI_vp, forall_eq, mb_u_eq, mb_u_ne, upd_eq, q_if, q_ifn, if_pos, if_neg, true_and, and_true, if_true, if_false, v6, e]
  refine e_link (Bs_6 h _) hx (by (try dsimp only); omega) hl hn (fun M' hf hb => ?_)
  exact hK _ (mf_tr (mf_u (mf_refl _ _) _ (by decide)) (mf_mono hf (by decide))) (Bs_cong hb hu.1 hu.2.1 hu.2.2.1 hu.2.2.2.1 hu.2.2.2.2.1 hu.2.2.2.2.2)
theorem e_thr {N : Nat} {M : mb_m} {t u : ts} {x : Int32} {K : mb_m → Prop} (h : Bs M t) (hi : t.2.2.2.2.2 = 0 ∨ t.2.2.2.2.2 = 1)
    (hu : (∀ k, t.1 k = u.1 k) ∧ (∀ k, t.2.1 k = u.2.1 k) ∧ t.2.2.1 = u.2.2.1 ∧ t.2.2.2.1 = u.2.2.2.1 ∧ t.2.2.2.2.1 = u.2.2.2.2.1 ∧ 1 - t.2.2.2.2.2 = u.2.2.2.2.2)
    (hK : ∀ M', mf M M' bsc → Bs M' u → K M') : PX4_go N M (zI 0) x K := by
  have v8 : M 8 0 = zI t.2.2.2.2.2 := h.2.2.2.2.2
  have hti : (zI 0).toInt = 0 := by decide
  unfold PX4_go
  rw [hti]
  refine ⟨fun _ => ?_, fun z => absurd z (by decide), fun z => absurd z (by decide), fun z => absurd z (by decide), fun z => absurd z (by decide)⟩
  unfold PX4_go_133
  have fin : ∀ y : Int, y = 1 - t.2.2.2.2.2 → K (mb_u M 8 (mb_c (zI y))) := fun y hy =>
    hK _ (mf_u (mf_refl _ _) _ (by decide)) (Bs_cong (Bs_8 h y) hu.1 hu.2.1 hu.2.2.1 hu.2.2.2.1 hu.2.2.2.2.1 (by (try dsimp only); rw [hy]; exact hu.2.2.2.2.2))
  simp (disch := omega) only [zI_lit, zI_neg, zI_add, zI_sub, zI_mul, zI_div, q_md, zI_lt, zI_le, zI_eq, zI_clamp, zI_vp, forall_eq, mb_u_eq, mb_u_ne, upd_eq, q_if, q_ifn, if_pos, if_neg, true_and, and_true, if_true, if_false, v8, q_isB0, q_isB1]
  split
  · exact fin 1 (by omega)
  · exact fin 0 (by omega)
/-- forth -/
theorem e_go {N : Nat} {M : mb_m} {t : ts} {mv g st n : Int} {K : mb_m → Prop} (h : Bs M t) (hr : trg g st t n) (hn : 0 ≤ n ∧ n ≤ 200) (hg : g ≤ 8) (hs : st ≤ 6) (hk : tok g st t mv)
    (hK : ∀ M', mf M M' bsc → Bs M' (tstep t mv) → K M') : PX4_go N M (zI mv) (zI 1) K := by
  obtain ⟨b1, b2, b3, b4, b5, b6⟩ := hk
  obtain ⟨a1, a2, a3, a4, a5, a6, a7, a8, a9, a10⟩ := id hr
  have l1 : ∀ k, -300 ≤ t.1 k ∧ t.1 k ≤ 300 := fun k => by have := a9 k; omega
  have l2 : ∀ k, -300 ≤ t.2.1 k ∧ t.2.1 k ≤ 300 := fun k => by have := a10 k; omega
  have hmv : mv = 0 ∨ mv = 1 ∨ mv = 2 ∨ mv = 3 ∨ mv = 4 := by omega
  rcases hmv with rfl | rfl | rfl | rfl | rfl
  · exact e_thr (u := tstep t 0) h (by omega) ⟨fun _ => rfl, fun _ => rfl, rfl, rfl, rfl, rfl⟩ hK
  · have := b3 rfl
    exact e_along (u := tstep t 1) h (Or.inl rfl) (by omega) (by omega) (by omega) (by omega) l1 ⟨fun k => by show _ = (if k = 5 * t.2.2.2.1 + t.2.2.2.2.1 then t.1 k + t.2.2.2.2.2 else t.1 k); rw [Int.one_mul], fun _ => rfl, rfl, rfl, rfl, rfl⟩ hK
  · have := b4 rfl
    exact e_back_ (u := tstep t 2) h (Or.inl rfl) (by omega) (by omega) (by omega) (by omega) l1 ⟨fun k => by show _ = (if k = 5 * t.2.2.2.1 + (t.2.2.2.2.1 - 1) then t.1 k + t.2.2.2.2.2 else t.1 k); rw [Int.one_mul], fun _ => rfl, rfl, rfl, rfl, rfl⟩ hK
  · have := b5 rfl
    exact e_up (u := tstep t 3) h (Or.inl rfl) (by omega) (by omega) l2 ⟨fun _ => rfl, fun k => rfl, rfl, rfl, rfl, rfl⟩ hK
  · have := b6 rfl
    exact e_down (u := tstep t 4) h (Or.inl rfl) (by omega) (by omega) l2 ⟨fun _ => rfl, fun k => rfl, rfl, rfl, rfl, rfl⟩ hK
/-- and back -/
def opp (m : Int) : Int := if m = 1 then 2 else if m = 2 then 1 else if m = 3 then 4 else if m = 4 then 3 else 0
theorem e_goB {N : Nat} {M : mb_m} {t : ts} {mv g st n : Int} {K : mb_m → Prop} (h : Bs M (tstep t mv)) (hr : trg g st t n) (hn : 0 ≤ n ∧ n ≤ 200) (hg : g ≤ 8) (hs : st ≤ 6) (hk : tok g st t mv)
    (hK : ∀ M', mf M M' bsc → Bs M' t → K M') : PX4_go N M (zI (opp mv)) (zI (-1)) K := by
  obtain ⟨a1, a2, a3, a4, a5, a6, a7, a8, a9, a10⟩ := trg_step hr hk
  obtain ⟨b1, b2, b3, b4, b5, b6⟩ := hk
  obtain ⟨c1, c2, c3, c4, c5, c6, c7, c8, c9, c10⟩ := hr
  have l1 : ∀ k, -300 ≤ (tstep t mv).1 k ∧ (tstep t mv).1 k ≤ 300 := fun k => by have := a9 k; omega
  have l2 : ∀ k, -300 ≤ (tstep t mv).2.1 k ∧ (tstep t mv).2.1 k ≤ 300 := fun k => by have := a10 k; omega
  have hmv : mv = 0 ∨ mv = 1 ∨ mv = 2 ∨ mv = 3 ∨ mv = 4 := by omega
  rcases hmv with rfl | rfl | rfl | rfl | rfl
  · exact e_thr (u := t) h (by omega) ⟨fun _ => rfl, fun _ => rfl, rfl, rfl, rfl, by show 1 - (1 - t.2.2.2.2.2) = _; omega⟩ hK
  · have := b3 rfl
    refine e_back_ (u := t) h (Or.inr rfl) ?_ (by omega) (by omega) (by omega) l1 ⟨fun k => ?_, fun _ => rfl, ?_, rfl, ?_, rfl⟩ hK
    · show 1 ≤ t.2.2.2.2.1 + 1 ∧ t.2.2.2.2.1 + 1 ≤ 5
      omega
    · show (if k = 5 * t.2.2.2.1 + (t.2.2.2.2.1 + 1 - 1) then (if k = 5 * t.2.2.2.1 + t.2.2.2.2.1 then t.1 k + t.2.2.2.2.2 else t.1 k) + -1 * t.2.2.2.2.2 else (if k = 5 * t.2.2.2.1 + t.2.2.2.2.1 then t.1 k + t.2.2.2.2.2 else t.1 k)) = t.1 k
      (repeat' split) <;> omega
    · show t.2.2.1 + 10 + -1 * 10 = _
      omega
    · show t.2.2.2.2.1 + 1 - 1 = _
      omega
  · have := b4 rfl
    refine e_along (u := t) h (Or.inr rfl) ?_ (by omega) (by omega) (by omega) l1 ⟨fun k => ?_, fun _ => rfl, ?_, rfl, ?_, rfl⟩ hK
    · show 0 ≤ t.2.2.2.2.1 - 1 ∧ t.2.2.2.2.1 - 1 ≤ 4
      omega
    · show (if k = 5 * t.2.2.2.1 + (t.2.2.2.2.1 - 1) then (if k = 5 * t.2.2.2.1 + (t.2.2.2.2.1 - 1) then t.1 k + t.2.2.2.2.2 else t.1 k) + -1 * t.2.2.2.2.2 else (if k = 5 * t.2.2.2.1 + (t.2.2.2.2.1 - 1) then t.1 k + t.2.2.2.2.2 else t.1 k)) = t.1 k
      (repeat' split) <;> omega
    · show t.2.2.1 + 10 + -1 * 10 = _
      omega
    · show t.2.2.2.2.1 - 1 + 1 = _
      omega
  · have := b5 rfl
    refine e_down (u := t) h (Or.inr rfl) ?_ (by omega) l2 ⟨fun _ => rfl, fun k => ?_, ?_, ?_, rfl, rfl⟩ hK
    · show 1 ≤ t.2.2.2.1 + 1 ∧ t.2.2.2.1 + 1 ≤ 8
      omega
    · show (if k = t.2.2.2.1 + 1 - 1 then (if k = t.2.2.2.1 then t.2.1 k + 1 else t.2.1 k) + -1 else (if k = t.2.2.2.1 then t.2.1 k + 1 else t.2.1 k)) = t.2.1 k
      (repeat' split) <;> omega
    · show t.2.2.1 + 4 + -1 * 4 = _
      omega
    · show t.2.2.2.1 + 1 - 1 = _
      omega
  · have := b6 rfl
    refine e_up (u := t) h (Or.inr rfl) ?_ (by omega) l2 ⟨fun _ => rfl, fun k => ?_, ?_, ?_, rfl, rfl⟩ hK
    · show 0 ≤ t.2.2.2.1 - 1 ∧ t.2.2.2.1 - 1 ≤ 7
      omega
    · show (if k = t.2.2.2.1 - 1 then (if k = t.2.2.2.1 - 1 then t.2.1 k + 1 else t.2.1 k) + -1 else (if k = t.2.2.2.1 - 1 then t.2.1 k + 1 else t.2.1 k)) = t.2.1 k
      (repeat' split) <;> omega
    · show t.2.2.1 + 4 + -1 * 4 = _
      omega
    · show t.2.2.2.1 - 1 + 1 = _
      omega
theorem e_allows {N : Nat} {M : mb_m} {t : ts} {mv g st n : Int} {K : Int32 → mb_m → Prop} (h : Bs M t) (hr : trg g st t n) (hg : g ≤ 8) (hs : st ≤ 6) (hn : 0 ≤ n ∧ n ≤ 200) (h0 : m1 M 0 g) (h1 : m1 M 1 st) (h5 : m1 M 5 n) (hm : 0 ≤ mv ∧ mv ≤ 4)
    (k1 : n < 200 → tok g st t mv → K (zI 1) M) (k0 : ¬ (n < 200 ∧ tok g st t mv) → K (zI 0) M) : PX4_allows N M (zI mv) K := by
  obtain ⟨g2, g3, g9, g6, g7, g8⟩ := h
  obtain ⟨a1, a2, a3, a4, a5, a6, a7, a8, a9, a10⟩ := hr
  have w0 : M 0 0 = zI g := h0
  have w1 : M 1 0 = zI st := h1
  have w5 : M 5 0 = zI n := h5
  have w6 : M 6 0 = zI t.2.2.2.1 := g6
  have w7 : M 7 0 = zI t.2.2.2.2.1 := g7
  have w8 : M 8 0 = zI t.2.2.2.2.2 := g8
  have hti : (zI mv).toInt = mv := zI_ti (by omega) (by omega)
  unfold tok at k0 k1
  unfold PX4_allows
  rw [hti]
  refine ⟨fun y => ?_, fun y => ?_⟩
  · have y : n < 200 := by
      rw [w5] at y
      exact (zI_lt (by omega) (by omega) (by omega) (by omega)).mp y
    refine ⟨fun z => ?_, fun z => ?_, fun z => ?_, fun z => ?_, fun z => ?_⟩
    · exact k1 y (by omega)
    · simp (disch := omega) only [zI_lit, zI_neg, zI_add, zI_sub, zI_mul, zI_div, q_md, zI_lt, zI_le, zI_eq, zI_clamp, zI_vp, forall_eq, mb_u_eq, mb_u_ne, upd_eq, q_if, q_ifn, if_pos, if_neg, true_and, and_true, if_true, if_false, w1, w7]
      (repeat' split) <;> first | exact k1 y (by omega) | exact k0 (by omega)
    · simp (disch := omega) only [zI_lit, zI_neg, zI_add, zI_sub, zI_mul, zI_div, q_md, zI_lt, zI_le, zI_eq, zI_clamp, zI_vp, forall_eq, mb_u_eq, mb_u_ne, upd_eq, q_if, q_ifn, if_pos, if_neg, true_and, and_true, if_true, if_false, w7]
      (repeat' split) <;> first | exact k1 y (by omega) | exact k0 (by omega)
    · simp (disch := omega) only [zI_lit, zI_neg, zI_add, zI_sub, zI_mul, zI_div, q_md, zI_lt, zI_le, zI_eq, zI_clamp, zI_vp, forall_eq, mb_u_eq, mb_u_ne, upd_eq, q_if, q_ifn, if_pos, if_neg, true_and, and_true, if_true, if_false, w0, w6, w8]
      (repeat' split) <;> first | exact k1 y (by omega) | exact k0 (by omega)
    · simp (disch := omega) only [zI_lit, zI_neg, zI_add, zI_sub, zI_mul, zI_div, q_md, zI_lt, zI_le, zI_eq, zI_clamp, zI_vp, forall_eq, mb_u_eq, mb_u_ne, upd_eq, q_if, q_ifn, if_pos, if_neg, true_and, and_true, if_true, if_false, w6, w8]
      (repeat' split) <;> first | exact k1 y (by omega) | exact k0 (by omega)
  · have y : ¬ n < 200 := fun x => y (by rw [w5]; exact (zI_lt (by omega) (by omega) (by omega) (by omega)).mpr x)
    exact k0 (by omega)
theorem e_make {N : Nat} {M : mb_m} {t : ts} {mv g st n : Int} {mw : Int → Int} {K : mb_m → Prop} (h : Bs M t) (hr : trg g st t n) (hn : 0 ≤ n ∧ n < 200) (hg : g ≤ 8) (hs : st ≤ 6) (h4 : mr M 4 mw n) (h5 : m1 M 5 n) (hk : tok g st t mv)
    (hK : ∀ M', mf M M' (4 :: 5 :: bsc) → mr M' 4 (fun k => if k = n then mv else mw k) (n + 1) → m1 M' 5 (n + 1) → Bs M' (tstep t mv) → K M') : PX4_make N M (zI mv) K := by
  have w5 : M 5 0 = zI n := h5
  unfold PX4_make
  simp (disch := omega) only [zI_lit, zI_neg, zI_add, zI_sub, zI_mul, zI_div, q_md, zI_lt, zI_le, zI_eq, zI_clamp, zI_vp, forall_eq, mb_u_eq, mb_u_ne, upd_eq, q_if, q_ifn, if_pos, if_neg, true_and, and_true, if_true, if_false, w5]
  obtain ⟨g2, g3, g9, g6, g7, g8⟩ := h
  refine e_go (t := t) (n := n) ⟨mr_ne _ (mr_ne _ g2 (by decide)) (by decide), mr_ne _ (mr_ne _ g3 (by decide)) (by decide), m1_ne _ (m1_ne _ g9 (by decide)) (by decide), m1_ne _ (m1_ne _ g6 (by decide)) (by decide), m1_ne _ (m1_ne _ g7 (by decide)) (by decide), m1_ne _ (m1_ne _ g8 (by decide)) (by decide)⟩ hr (by omega) hg hs hk (fun M' hf hb => ?_)
  refine hK M' (mf_tr (mf_u (mf_u (mf_refl _ _) _ (by decide)) _ (by decide)) (mf_mono hf (by decide))) (mf_mr hf (by decide) (mr_ne _ (mr_app h4 hn.1 (if_pos rfl) (fun k _ k2 => if_neg (by omega))) (by decide))) (mf_m1 hf (by decide) (m1_set _ _ _)) hb
