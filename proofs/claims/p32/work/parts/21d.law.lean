/-! a book that is looked at -/
theorem wsI_max (f : Int → Int) : ∀ n : Nat, ∀ k : Int, 0 ≤ k → k ≤ n → f k ≤ f (wsI f n) ∧ (k < wsI f n → f k < f (wsI f n))
  | 0, k, h1, h2 => by
    have e : k = 0 := by omega
    subst e
    exact ⟨Int.le_refl _, fun h => absurd (show (0 : Int) < 0 from h) (by omega)⟩
  | n + 1, k, h1, h2 => by
    have hr := wsI_rng f n
    show f k ≤ f (if f (wsI f n) < f (n + 1) then (n + 1 : Int) else wsI f n) ∧ (k < (if f (wsI f n) < f (n + 1) then (n + 1 : Int) else wsI f n) → f k < f (if f (wsI f n) < f (n + 1) then (n + 1 : Int) else wsI f n))
    by_cases c : f (wsI f n) < f (n + 1)
    · rw [if_pos c]
      by_cases e : k = n + 1
      · rw [e]; exact ⟨Int.le_refl _, fun h => by omega⟩
      · have := (wsI_max f n k h1 (by omega)).1
        exact ⟨by omega, fun _ => by omega⟩
    · rw [if_neg c]
      by_cases e : k = n + 1
      · rw [e]; exact ⟨by omega, fun h => by omega⟩
      · exact wsI_max f n k h1 (by omega)
theorem sfI_rng (s : Int) : 1 ≤ sfI s ∧ sfI s ≤ 4 := by unfold sfI; (repeat' split) <;> omega
theorem bdI_sym (v : kN) (o : Int) : bdI v (v 0 * v 1 - o) = bdI v o := by
  unfold bdI
  congr 2
  (repeat' split) <;> omega
theorem bdI_lt {v : kN} {o p : Int} (h3 : 1 ≤ v 3) (h : (if v 0 * v 1 - o ≤ o then v 0 * v 1 - o else o) < (if v 0 * v 1 - p ≤ p then v 0 * v 1 - p else p)) : bdI v o < bdI v p := by
  have hs := sfI_rng (v 5)
  unfold bdI
  exact Int.mul_lt_mul_of_pos_right (Int.mul_lt_mul_of_pos_right h (by omega)) (by omega)
theorem bdI_le {v : kN} {o p : Int} (h3 : 1 ≤ v 3) (h : (if v 0 * v 1 - o ≤ o then v 0 * v 1 - o else o) ≤ (if v 0 * v 1 - p ≤ p then v 0 * v 1 - p else p)) : bdI v o ≤ bdI v p := by
  have hs := sfI_rng (v 5)
  unfold bdI
  exact Int.mul_le_mul_of_nonneg_right (Int.mul_le_mul_of_nonneg_right h (by omega)) (by omega)
/-- the stiffest opening is the middle -/
theorem ws_mid {v : kN} (h : 2 ≤ v 0 * v 1 ∧ v 0 * v 1 ≤ 128) (h3 : 1 ≤ v 3) : wsI (bdI v) (v 0 * v 1).toNat = v 0 * v 1 / 2 := by
  have hr := wsI_rng (bdI v) (v 0 * v 1).toNat
  have hm := wsI_max (bdI v) (v 0 * v 1).toNat (v 0 * v 1 / 2) (by omega) (by omega)
  generalize wsI (bdI v) (v 0 * v 1).toNat = w at hr hm ⊢
  have hr2 : w ≤ v 0 * v 1 := by omega
  apply Classical.byContradiction
  intro hne
  rcases (by omega : w < v 0 * v 1 / 2 ∨ v 0 * v 1 / 2 < w) with c | c
  · have := bdI_lt (v := v) (o := w) (p := v 0 * v 1 / 2) h3 (by (repeat' split) <;> omega)
    omega
  · have h1 := hm.2 c
    have := bdI_le (v := v) (o := w) (p := v 0 * v 1 / 2) h3 (by (repeat' split) <;> omega)
    omega
theorem mxI_pos {f : Int → Int} : ∀ {n : Nat}, ∀ k : Int, 0 ≤ k → k < n → f k ≤ mxI f n
  | 0, k, h1, h2 => by omega
  | n + 1, k, h1, h2 => by
    show f k ≤ (if mxI f n < f n then f n else mxI f n)
    by_cases e : k = n
    · rw [e]; split <;> omega
    · have := mxI_pos (f := f) (n := n) k h1 (by omega)
      split <;> omega
theorem hq_zero {st g : Int} {f : Int → Int} {n : Nat} (hn : n = (st - 1).toNat) (h : mxI (fun p => f (5 * g + p)) n ≤ 0) : hq st f g = 0 := by
  unfold hq
  rw [← hn]
  refine sI_zero (fun p p1 p2 => qb_f ?_)
  have := mxI_pos (f := fun p => f (5 * g + p)) (n := n) p p1 p2
  (try dsimp only at this)
  omega
/-- h tells whether the first k gatherings are held -/
def hdI (st : Int) (f : Int → Int) (k h : Int) : Prop := (h = 1 ∧ ∀ j, 0 ≤ j → j < k → st / 2 ≤ hq st f j) ∨ (h = 0 ∧ ¬ ∀ j, 0 ≤ j → j < k → st / 2 ≤ hq st f j)
theorem hdI_1 {st k h : Int} {f : Int → Int} (hh : hdI st f k h) (h1 : h = 1) (hk : st / 2 ≤ hq st f k) : hdI st f (k + 1) 1 := by
  rcases hh with ⟨e, z⟩ | ⟨e, z⟩
  · refine Or.inl ⟨rfl, fun j j1 j2 => ?_⟩
    by_cases c : j = k
    · rw [c]; exact hk
    · exact z j j1 (by omega)
  · omega
theorem hdI_0 {st k h : Int} {f : Int → Int} (hh : hdI st f k h) (hk0 : 0 ≤ k) (h1 : h = 0 ∨ ¬ st / 2 ≤ hq st f k) : hdI st f (k + 1) 0 := by
  refine Or.inr ⟨rfl, fun z => ?_⟩
  rcases h1 with e | e
  · rcases hh with ⟨e2, z2⟩ | ⟨e2, z2⟩
    · omega
    · exact z2 (fun j j1 j2 => z j j1 (by omega))
  · exact e (z k hk0 (by omega))
theorem mxI_step0 (f : Int → Int) {p : Int} (h : 0 ≤ p) : mxI f (p + 1).toNat = if mxI f p.toNat < f p then f p else mxI f p.toNat := mxI_step f h
section BK
variable {N : Nat} {b : mb_bs} {F : mb_m} {C S : Int → Int} {np : Nat} {pr : Int → Int → Int} {nb : Nat} {bk : Nat → vk} {ns : Nat} {sk : Int → Int → Int} {K : Int32 → mb_S → Prop} {i : Nat} {v : kN} {mv rp vf vt vw : Int → Int} {B : mb_m → mb_bs → Int32 → Int32 → Int32 → Int32 → Int32 → Int32 → Int32 → Int32 → Prop}
theorem l_isBook89 {k h : Int} (hN : 700 ≤ N) (hV : Vw b C S np pr nb bk ns sk) (hi : i < nb) (hp4 : nb ≤ 4) (hbk : bk i = (v, mv, rp, vf, vt, vw)) (kr : Kr v mv rp vf vt vw) (b2 : F 1 (6 * (i : Int) + 2).toNat = zI (v 2)) (hk : 0 ≤ k ∧ k < v 0) (hh : hdI (v 2) (tr mv (v 6).toNat).1 k h)
    (hB : ∀ h', hdI (v 2) (tr mv (v 6).toNat).1 (k + 1) h' → B F b (zI i) (zI (v 0)) (zI (v 0 * v 1)) (zI (3 * swI (tr mv (v 6).toNat).1 (v 0).toNat)) (zI h') (zI (3 * swI (tr mv (v 6).toNat).1 (k + 1).toNat)) (zI 1) (zI (k + 1))) :
    PL_isBook_89 N K B 6 F b (zI i) (zI (v 0)) (zI (v 0 * v 1)) (zI (3 * swI (tr mv (v 6).toNat).1 (v 0).toNat)) (zI h) (zI (3 * swI (tr mv (v 6).toNat).1 k.toNat)) (zI k) (zI 0) (zI 0) := by
  obtain ⟨r1, r2, r3, r4, r5, r6, r7, r8, r9, r10, r11, r12⟩ := id kr
  have hrg := tr_rng r1.1 r3.1 r10
  have hf9 : ∀ k, 0 ≤ (tr mv (v 6).toNat).1 k ∧ (tr mv (v 6).toNat).1 k ≤ 200 := fun k => by have := hrg.2.2.2.2.2.2.2.2.1 k; omega
  have hz9 := tr_zero r1.1 r3 r10
  have hsw := swI_rng hf9 k.toNat (by omega)
  refine (q_for (σ := mb_m × mb_bs × Int32 × Int32 × Int32 × Int32 × Int32 × Int32 × Int32 × Int32 × Int32) (fun n s => PL_isBook_89 N K B n s.1 s.2.1 s.2.2.1 s.2.2.2.1 s.2.2.2.2.1 s.2.2.2.2.2.1 s.2.2.2.2.2.2.1 s.2.2.2.2.2.2.2.1 s.2.2.2.2.2.2.2.2.1 s.2.2.2.2.2.2.2.2.2.1 s.2.2.2.2.2.2.2.2.2.2) (fun r0 s => PL_isBook_89_b N K B (fun a0 a1 a2 a3 a4 a5 a6 a7 a8 a9 a10 => r0 (a0, a1, a2, a3, a4, a5, a6, a7, a8, a9, a10)) s.1 s.2.1 s.2.2.1 s.2.2.2.1 s.2.2.2.2.1 s.2.2.2.2.2.1 s.2.2.2.2.2.2.1 s.2.2.2.2.2.2.2.1 s.2.2.2.2.2.2.2.2.1 s.2.2.2.2.2.2.2.2.2.1 s.2.2.2.2.2.2.2.2.2.2) (fun _ _ => rfl)) (fun p s => s.1 = F ∧ s.2.1 = b ∧ s.2.2.1 = zI i ∧ s.2.2.2.1 = zI (v 0) ∧ s.2.2.2.2.1 = zI (v 0 * v 1) ∧ s.2.2.2.2.2.1 = zI (3 * swI (tr mv (v 6).toNat).1 (v 0).toNat) ∧ s.2.2.2.2.2.2.1 = zI h ∧ s.2.2.2.2.2.2.2.1 = zI (3 * swI (tr mv (v 6).toNat).1 k.toNat) ∧ s.2.2.2.2.2.2.2.2.1 = zI k ∧ s.2.2.2.2.2.2.2.2.2.1 = zI (mxI (fun p => (tr mv (v 6).toNat).1 (5 * k + p)) p.toNat) ∧ s.2.2.2.2.2.2.2.2.2.2 = zI p ∧ 0 ≤ p) (v 2 - 1) ?_ ?_ 6 0 (F, b, _, _, _, _, _, _, _, _, _) (by omega) (by omega) ?_
  · rintro p ⟨F1, b1, y2, y3, y4, y5, y6, y7, y9, y10, y11⟩ r hp hI2 hr
    dsimp only at hI2 hr ⊢
    obtain ⟨e1, e2, rfl, rfl, rfl, rfl, rfl, rfl, rfl, rfl, rfl, h0⟩ := hI2
    rw [e1, e2]
    have hmx := mxI_rng (f := fun p => (tr mv (v 6).toNat).1 (5 * k + p)) (b := 200) (by omega) (n := p.toNat) (fun k2 _ _ => hf9 _)
    have hfp := hf9 (5 * k + p)
    have hst := mxI_step0 (fun p => (tr mv (v 6).toNat).1 (5 * k + p)) h0
    (try dsimp only at hst)
    unfold PL_isBook_89_b PL_isBook_129
    simp (maxSteps := 1000000) (disch := omega) only [zI_lit, zI_neg, zI_add, zI_sub, zI_mul, zI_div, q_md, zI_lt, zI_le, zI_eq, zI_clamp, zI_vp, forall_eq, mb_u_eq, mb_u_ne, upd_eq, q_if, q_ifn, if_pos, if_neg, true_and, and_true, if_true, if_false, b2]
    refine t_stitches hN hV hi hbk (by omega) (by omega) ?_
    (try dsimp only)
    by_cases c : mxI (fun p => (tr mv (v 6).toNat).1 (5 * k + p)) p.toNat < (tr mv (v 6).toNat).1 (5 * k + p)
    · rw [if_pos c] at hst
      simp (maxSteps := 1000000) (disch := omega) only [zI_lit, zI_neg, zI_add, zI_sub, zI_mul, zI_div, q_md, zI_lt, zI_le, zI_eq, zI_clamp, zI_vp, forall_eq, mb_u_eq, mb_u_ne, upd_eq, q_if, q_ifn, if_pos, if_neg, true_and, and_true, if_true, if_false]
      exact hr _ ⟨rfl, rfl, rfl, rfl, rfl, rfl, rfl, rfl, rfl, by (try dsimp only); rw [hst], rfl, by omega⟩
    · rw [if_neg c] at hst
      simp (maxSteps := 1000000) (disch := omega) only [zI_lit, zI_neg, zI_add, zI_sub, zI_mul, zI_div, q_md, zI_lt, zI_le, zI_eq, zI_clamp, zI_vp, forall_eq, mb_u_eq, mb_u_ne, upd_eq, q_if, q_ifn, if_pos, if_neg, true_and, and_true, if_true, if_false]
      exact hr _ ⟨rfl, rfl, rfl, rfl, rfl, rfl, rfl, rfl, rfl, by (try dsimp only); rw [hst], rfl, by omega⟩
  · rintro ⟨F1, b1, y2, y3, y4, y5, y6, y7, y9, y10, y11⟩ r hI2
    dsimp only at hI2 ⊢
    obtain ⟨e1, e2, rfl, rfl, rfl, rfl, rfl, rfl, rfl, rfl, rfl, h0⟩ := hI2
    rw [e1, e2]
    have hmx := mxI_rng (f := fun p => (tr mv (v 6).toNat).1 (5 * k + p)) (b := 200) (by omega) (n := (v 2 - 1).toNat) (fun k2 _ _ => hf9 _)
    have h5 : mxI (fun p => (tr mv (v 6).toNat).1 (5 * k + p)) 5 = mxI (fun p => (tr mv (v 6).toNat).1 (5 * k + p)) (v 2 - 1).toNat := mxI_zero (fun p p1 p2 => hz9 _ (by omega) (by omega)) (fun p _ => (hf9 _).1) (Nat.le_refl 5) (by omega)
    have hs1 : 3 * swI (tr mv (v 6).toNat).1 (k + 1).toNat = 3 * swI (tr mv (v 6).toNat).1 k.toNat + 3 * mxI (fun p => (tr mv (v 6).toNat).1 (5 * k + p)) (v 2 - 1).toNat := by
      unfold swI
      rw [sI_step _ hk.1]
      (try dsimp only)
      rw [h5]; omega
    have hq0 := hq_zero (st := v 2) (g := k) (f := (tr mv (v 6).toNat).1) (n := (v 2 - 1).toNat) rfl
    rw [hs1] at hB
    generalize mxI (fun p => (tr mv (v 6).toNat).1 (5 * k + p)) (v 2 - 1).toNat = mo at hmx hB hq0 ⊢
    have h167 : ∀ h', hdI (v 2) (tr mv (v 6).toNat).1 (k + 1) h' → PL_isBook_167 N K B F b (zI i) (zI (v 0)) (zI (v 0 * v 1)) (zI (3 * swI (tr mv (v 6).toNat).1 (v 0).toNat)) (zI (3 * swI (tr mv (v 6).toNat).1 k.toNat + 3 * mo)) (zI k) (zI mo) (zI h') := by
      intro h' hh'
      unfold PL_isBook_167
      simp (maxSteps := 1000000) (disch := omega) only [zI_lit, zI_neg, zI_add, zI_sub, zI_mul, zI_div, q_md, zI_lt, zI_le, zI_eq, zI_clamp, zI_vp, forall_eq, mb_u_eq, mb_u_ne, upd_eq, q_if, q_ifn, if_pos, if_neg, true_and, and_true, if_true, if_false, b2]
      refine t_stitchesX hN hV hi hbk (by omega) (by omega) (by omega) (by omega) ?_
      (try dsimp only)
      unfold PL_isBook_206 PL_isBook_211
      by_cases c : 0 < mo
      · simp (maxSteps := 1000000) (disch := omega) only [zI_lit, zI_neg, zI_add, zI_sub, zI_mul, zI_div, q_md, zI_lt, zI_le, zI_eq, zI_clamp, zI_vp, forall_eq, mb_u_eq, mb_u_ne, upd_eq, q_if, q_ifn, if_pos, if_neg, true_and, and_true, if_true, if_false]
        exact hB h' hh'
      · simp (maxSteps := 1000000) (disch := omega) only [zI_lit, zI_neg, zI_add, zI_sub, zI_mul, zI_div, q_md, zI_lt, zI_le, zI_eq, zI_clamp, zI_vp, forall_eq, mb_u_eq, mb_u_ne, upd_eq, q_if, q_ifn, if_pos, if_neg, true_and, and_true, if_true, if_false]
        have h00 := hq0 (by omega)
        refine t_isHeld hN hV hi hbk (by omega) (fun z => ?_) (fun z => ?_)
        · exfalso; rw [h00] at z; omega
        · (try dsimp only)
          simp (maxSteps := 1000000) (disch := omega) only [zI_lit, zI_neg, zI_add, zI_sub, zI_mul, zI_div, q_md, zI_lt, zI_le, zI_eq, zI_clamp, zI_vp, forall_eq, mb_u_eq, mb_u_ne, upd_eq, q_if, q_ifn, if_pos, if_neg, true_and, and_true, if_true, if_false]
          exact hB h' hh'
    unfold PL_isBook_89_b PL_isBook_166
    simp (maxSteps := 1000000) (disch := omega) only [zI_lit, zI_neg, zI_add, zI_sub, zI_mul, zI_div, q_md, zI_lt, zI_le, zI_eq, zI_clamp, zI_vp, forall_eq, mb_u_eq, mb_u_ne, upd_eq, q_if, q_ifn, if_pos, if_neg, true_and, and_true, if_true, if_false, b2]
    have h01 : h = 0 ∨ h = 1 := by
      rcases hh with ⟨e, -⟩ | ⟨e, -⟩
      · exact Or.inr e
      · exact Or.inl e
    by_cases c : h = 0
    · simp (maxSteps := 1000000) (disch := omega) only [zI_lit, zI_neg, zI_add, zI_sub, zI_mul, zI_div, q_md, zI_lt, zI_le, zI_eq, zI_clamp, zI_vp, forall_eq, mb_u_eq, mb_u_ne, upd_eq, q_if, q_ifn, if_pos, if_neg, true_and, and_true, if_true, if_false]
      exact h167 0 (hdI_0 hh hk.1 (Or.inl c))
    · simp (maxSteps := 1000000) (disch := omega) only [zI_lit, zI_neg, zI_add, zI_sub, zI_mul, zI_div, q_md, zI_lt, zI_le, zI_eq, zI_clamp, zI_vp, forall_eq, mb_u_eq, mb_u_ne, upd_eq, q_if, q_ifn, if_pos, if_neg, true_and, and_true, if_true, if_false]
      refine t_isHeld hN hV hi hbk (by omega) (fun z => ?_) (fun z => ?_)
      · (try dsimp only)
        simp (maxSteps := 1000000) (disch := omega) only [zI_lit, zI_neg, zI_add, zI_sub, zI_mul, zI_div, q_md, zI_lt, zI_le, zI_eq, zI_clamp, zI_vp, forall_eq, mb_u_eq, mb_u_ne, upd_eq, q_if, q_ifn, if_pos, if_neg, true_and, and_true, if_true, if_false]
        exact h167 1 (hdI_1 hh (by omega) z)
      · (try dsimp only)
        simp (maxSteps := 1000000) (disch := omega) only [zI_lit, zI_neg, zI_add, zI_sub, zI_mul, zI_div, q_md, zI_lt, zI_le, zI_eq, zI_clamp, zI_vp, forall_eq, mb_u_eq, mb_u_ne, upd_eq, q_if, q_ifn, if_pos, if_neg, true_and, and_true, if_true, if_false]
        exact h167 0 (hdI_0 hh hk.1 (Or.inr z))
  · exact ⟨rfl, rfl, rfl, rfl, rfl, rfl, rfl, rfl, rfl, rfl, rfl, by omega⟩
theorem l_isBook316 {h : Int} (hN : 700 ≤ N) (hV : Vw b C S np pr nb bk ns sk) (hi : i < nb) (hp4 : nb ≤ 4) (hbk : bk i = (v, mv, rp, vf, vt, vw)) (kr : Kr v mv rp vf vt vw) (hh : hdI (v 2) (tr mv (v 6).toNat).1 (v 0) h) (hK : K (zI 1) (b, F)) :
    PL_isBook_316 N K F b (zI i) (zI (v 0 * v 1)) (zI (3 * swI (tr mv (v 6).toNat).1 (v 0).toNat)) (zI h) (zI (3 * swI (tr mv (v 6).toNat).1 (v 0).toNat)) (zI 1) (zI (v 0 * v 1 / 2)) := by
  obtain ⟨r1, r2, r3, r4, r5, r6, r7, r8, r9, r10, r11, r12⟩ := id kr
  have hrg := tr_rng r1.1 r3.1 r10
  have hf9 : ∀ k, 0 ≤ (tr mv (v 6).toNat).1 k ∧ (tr mv (v 6).toNat).1 k ≤ 200 := fun k => by have := hrg.2.2.2.2.2.2.2.2.1 k; omega
  have hsw := swI_rng hf9 (v 0).toNat (by omega)
  have al := all_rng kr
  have hbd : ∀ o, 0 ≤ o → o < v 0 * v 1 + 1 → 0 ≤ bdI v o ∧ bdI v o ≤ 4608 := fun o o1 o2 => bdI_rng kr o1 (by omega)
  have h360 : PL_isBook_360 N K F b (zI i) (zI (v 0 * v 1)) (zI (3 * swI (tr mv (v 6).toNat).1 (v 0).toNat)) := by
    have o1 : opI (fun k => bdI v k + 3 * swI (tr mv (v 6).toNat).1 (v 0).toNat) 100000 (v 0 * v 1 + 1).toNat = v 0 * v 1 + 1 := by
      have : ∀ n : Nat, (∀ k : Int, 0 ≤ k → k < n → bdI v k + 3 * swI (tr mv (v 6).toNat).1 (v 0).toNat ≤ 100000) → opI (fun k => bdI v k + 3 * swI (tr mv (v 6).toNat).1 (v 0).toNat) 100000 n = n := by
        intro n
        induction n with
        | zero => intro _; rfl
        | succ n ih =>
          intro hn
          have := ih (fun k k1 k2 => hn k k1 (by omega))
          unfold opI at this ⊢
          show sI _ n + qb (bdI v n + 3 * swI (tr mv (v 6).toNat).1 (v 0).toNat ≤ 100000) = _
          rw [this, qb_t (hn n (by omega) (by omega))]; omega
      rw [this _ (fun k k1 k2 => by have := hbd k k1 (by omega); omega)]
      omega
    have o2 : opI (fun k => bdI v k + 3 * swI (tr mv (v 6).toNat).1 (v 0).toNat) (3 * swI (tr mv (v 6).toNat).1 (v 0).toNat - 1) (v 0 * v 1 + 1).toNat = 0 := by
      unfold opI
      refine sI_zero (fun k k1 k2 => qb_f ?_)
      have := hbd k k1 (by omega)
      (try dsimp only)
      omega
    unfold PL_isBook_360
    simp (maxSteps := 1000000) (disch := omega) only [zI_lit, zI_neg, zI_add, zI_sub, zI_mul, zI_div, q_md, zI_lt, zI_le, zI_eq, zI_clamp, zI_vp, forall_eq, mb_u_eq, mb_u_ne, upd_eq, q_if, q_ifn, if_pos, if_neg, true_and, and_true, if_true, if_false]
    refine t_opens hN hV hi hbk (by omega) ?_
    rw [o1]
    (try dsimp only)
    simp (maxSteps := 1000000) (disch := omega) only [zI_lit, zI_neg, zI_add, zI_sub, zI_mul, zI_div, q_md, zI_lt, zI_le, zI_eq, zI_clamp, zI_vp, forall_eq, mb_u_eq, mb_u_ne, upd_eq, q_if, q_ifn, if_pos, if_neg, true_and, and_true, if_true, if_false]
    by_cases c : swI (tr mv (v 6).toNat).1 (v 0).toNat = 0
    · simp (maxSteps := 1000000) (disch := omega) only [zI_lit, zI_neg, zI_add, zI_sub, zI_mul, zI_div, q_md, zI_lt, zI_le, zI_eq, zI_clamp, zI_vp, forall_eq, mb_u_eq, mb_u_ne, upd_eq, q_if, q_ifn, if_pos, if_neg, true_and, and_true, if_true, if_false]
      exact hK
    · simp (maxSteps := 1000000) (disch := omega) only [zI_lit, zI_neg, zI_add, zI_sub, zI_mul, zI_div, q_md, zI_lt, zI_le, zI_eq, zI_clamp, zI_vp, forall_eq, mb_u_eq, mb_u_ne, upd_eq, q_if, q_ifn, if_pos, if_neg, true_and, and_true, if_true, if_false]
      refine t_opens hN hV hi hbk (by omega) ?_
      rw [o2]
      (try dsimp only)
      simp (maxSteps := 1000000) (disch := omega) only [zI_lit, zI_neg, zI_add, zI_sub, zI_mul, zI_div, q_md, zI_lt, zI_le, zI_eq, zI_clamp, zI_vp, forall_eq, mb_u_eq, mb_u_ne, upd_eq, q_if, q_ifn, if_pos, if_neg, true_and, and_true, if_true, if_false]
      exact hK
  unfold PL_isBook_316
  simp (maxSteps := 1000000) (disch := omega) only [zI_lit, zI_neg, zI_add, zI_sub, zI_mul, zI_div, q_md, zI_lt, zI_le, zI_eq, zI_clamp, zI_vp, forall_eq, mb_u_eq, mb_u_ne, upd_eq, q_if, q_ifn, if_pos, if_neg, true_and, and_true, if_true, if_false]
  refine t_oT5 hN hV hi hbk ?_
  (try dsimp only)
  rcases sw1_r v mv with ⟨e, z⟩ | ⟨e, z⟩
  · rw [e]
    have hh1 : h = 1 := by
      rcases hh with ⟨e2, -⟩ | ⟨-, z2⟩
      · exact e2
      · exact absurd (fun j j1 j2 => z.2.1 j j1 j2) z2
    simp (maxSteps := 1000000) (disch := omega) only [zI_lit, zI_neg, zI_add, zI_sub, zI_mul, zI_div, q_md, zI_lt, zI_le, zI_eq, zI_clamp, zI_vp, forall_eq, mb_u_eq, mb_u_ne, upd_eq, q_if, q_ifn, if_pos, if_neg, true_and, and_true, if_true, if_false]
    refine t_oT3 hN hV hi hbk ?_
    rw [z.1]
    (try dsimp only)
    simp (maxSteps := 1000000) (disch := omega) only [zI_lit, zI_neg, zI_add, zI_sub, zI_mul, zI_div, q_md, zI_lt, zI_le, zI_eq, zI_clamp, zI_vp, forall_eq, mb_u_eq, mb_u_ne, upd_eq, q_if, q_ifn, if_pos, if_neg, true_and, and_true, if_true, if_false]
    exact h360
  · rw [e]
    simp (maxSteps := 1000000) (disch := omega) only [zI_lit, zI_neg, zI_add, zI_sub, zI_mul, zI_div, q_md, zI_lt, zI_le, zI_eq, zI_clamp, zI_vp, forall_eq, mb_u_eq, mb_u_ne, upd_eq, q_if, q_ifn, if_pos, if_neg, true_and, and_true, if_true, if_false]
    exact h360
theorem l_isBook219 {h : Int} (hN : 700 ≤ N) (hV : Vw b C S np pr nb bk ns sk) (hi : i < nb) (hp4 : nb ≤ 4) (hbk : bk i = (v, mv, rp, vf, vt, vw)) (kr : Kr v mv rp vf vt vw) (hh : hdI (v 2) (tr mv (v 6).toNat).1 (v 0) h) (hK : K (zI 1) (b, F)) :
    PL_isBook_219 N K F b (zI i) (zI (v 0 * v 1)) (zI (3 * swI (tr mv (v 6).toNat).1 (v 0).toNat)) (zI h) (zI (3 * swI (tr mv (v 6).toNat).1 (v 0).toNat)) (zI 1) := by
  have h316 := l_isBook316 hN hV hi hp4 hbk kr hh hK
  obtain ⟨r1, r2, r3, r4, r5, r6, r7, r8, r9, r10, r11, r12⟩ := id kr
  have hrg := tr_rng r1.1 r3.1 r10
  have hf9 : ∀ k, 0 ≤ (tr mv (v 6).toNat).1 k ∧ (tr mv (v 6).toNat).1 k ≤ 200 := fun k => by have := hrg.2.2.2.2.2.2.2.2.1 k; omega
  have hsw := swI_rng hf9 (v 0).toNat (by omega)
  have al := all_rng kr
  have hbd : ∀ o, 0 ≤ o → o ≤ v 0 * v 1 → 0 ≤ bdI v o ∧ bdI v o ≤ 4608 := fun o o1 o2 => bdI_rng kr o1 o2
  have hmax := wsI_max (bdI v) (v 0 * v 1).toNat
  rw [ws_mid al r4.1] at hmax
  unfold PL_isBook_219
  refine t_worst hN hV hi hbk ?_
  rw [ws_mid al r4.1]
  (try dsimp only)
  refine (q_for (σ := mb_m × mb_bs × Int32 × Int32 × Int32 × Int32 × Int32 × Int32 × Int32 × Int32) (fun n s => PL_isBook_229 N K n s.1 s.2.1 s.2.2.1 s.2.2.2.1 s.2.2.2.2.1 s.2.2.2.2.2.1 s.2.2.2.2.2.2.1 s.2.2.2.2.2.2.2.1 s.2.2.2.2.2.2.2.2.1 s.2.2.2.2.2.2.2.2.2) (fun r0 s => PL_isBook_229_b N K (fun a0 a1 a2 a3 a4 a5 a6 a7 a8 a9 => r0 (a0, a1, a2, a3, a4, a5, a6, a7, a8, a9)) s.1 s.2.1 s.2.2.1 s.2.2.2.1 s.2.2.2.2.1 s.2.2.2.2.2.1 s.2.2.2.2.2.2.1 s.2.2.2.2.2.2.2.1 s.2.2.2.2.2.2.2.2.1 s.2.2.2.2.2.2.2.2.2) (fun _ _ => rfl)) (fun k s => s.1 = F ∧ s.2.1 = b ∧ s.2.2.1 = zI i ∧ s.2.2.2.1 = zI (v 0 * v 1) ∧ s.2.2.2.2.1 = zI (3 * swI (tr mv (v 6).toNat).1 (v 0).toNat) ∧ s.2.2.2.2.2.1 = zI h ∧ s.2.2.2.2.2.2.1 = zI (3 * swI (tr mv (v 6).toNat).1 (v 0).toNat) ∧ s.2.2.2.2.2.2.2.1 = zI 1 ∧ s.2.2.2.2.2.2.2.2.1 = zI (v 0 * v 1 / 2) ∧ s.2.2.2.2.2.2.2.2.2 = zI k ∧ 0 ≤ k) (v 0 * v 1 + 1) ?_ ?_ 130 0 (F, b, _, _, _, _, _, _, _, _) (by omega) (by omega) ?_
  · rintro k ⟨F1, b1, y2, y4, y5, y6, y7, y8, y9, y10⟩ r hk hI2 hr
    dsimp only at hI2 hr ⊢
    obtain ⟨e1, e2, rfl, rfl, rfl, rfl, rfl, rfl, rfl, rfl, h0⟩ := hI2
    rw [e1, e2]
    have hb1 := hbd k h0 (by omega)
    have hb2 := hbd (v 0 * v 1 / 2) (by omega) (by omega)
    have hm := hmax k h0 (by omega)
    unfold PL_isBook_229_b PL_isBook_303 PL_isBook_307 PL_isBook_308
    simp (maxSteps := 1000000) (disch := omega) only [zI_lit, zI_neg, zI_add, zI_sub, zI_mul, zI_div, q_md, zI_lt, zI_le, zI_eq, zI_clamp, zI_vp, forall_eq, mb_u_eq, mb_u_ne, upd_eq, q_if, q_ifn, if_pos, if_neg, true_and, and_true, if_true, if_false]
    refine t_strain hN hV hi hbk (by omega) ?_
    (try dsimp only)
    refine t_strain hN hV hi hbk (by omega) ?_
    rw [bdI_sym]
    (try dsimp only)
    simp (maxSteps := 1000000) (disch := omega) only [zI_lit, zI_neg, zI_add, zI_sub, zI_mul, zI_div, q_md, zI_lt, zI_le, zI_eq, zI_clamp, zI_vp, forall_eq, mb_u_eq, mb_u_ne, upd_eq, q_if, q_ifn, if_pos, if_neg, true_and, and_true, if_true, if_false]
    refine t_strain hN hV hi hbk (by omega) ?_
    (try dsimp only)
    have hlt := hm.2
    have hle := hm.1
    by_cases c : k < v 0 * v 1 / 2
    · have hlt := hlt c
      simp (maxSteps := 1000000) (disch := omega) only [zI_lit, zI_neg, zI_add, zI_sub, zI_mul, zI_div, q_md, zI_lt, zI_le, zI_eq, zI_clamp, zI_vp, forall_eq, mb_u_eq, mb_u_ne, upd_eq, q_if, q_ifn, if_pos, if_neg, true_and, and_true, if_true, if_false]
      refine t_strain hN hV hi hbk (by omega) ?_
      (try dsimp only)
      simp (maxSteps := 1000000) (disch := omega) only [zI_lit, zI_neg, zI_add, zI_sub, zI_mul, zI_div, q_md, zI_lt, zI_le, zI_eq, zI_clamp, zI_vp, forall_eq, mb_u_eq, mb_u_ne, upd_eq, q_if, q_ifn, if_pos, if_neg, true_and, and_true, if_true, if_false]
      exact hr _ ⟨rfl, rfl, rfl, rfl, rfl, rfl, rfl, rfl, rfl, rfl, by omega⟩
    · simp (maxSteps := 1000000) (disch := omega) only [zI_lit, zI_neg, zI_add, zI_sub, zI_mul, zI_div, q_md, zI_lt, zI_le, zI_eq, zI_clamp, zI_vp, forall_eq, mb_u_eq, mb_u_ne, upd_eq, q_if, q_ifn, if_pos, if_neg, true_and, and_true, if_true, if_false]
      exact hr _ ⟨rfl, rfl, rfl, rfl, rfl, rfl, rfl, rfl, rfl, rfl, by omega⟩
  · rintro ⟨F1, b1, y2, y4, y5, y6, y7, y8, y9, y10⟩ r hI2
    dsimp only at hI2 ⊢
    obtain ⟨e1, e2, rfl, rfl, rfl, rfl, rfl, rfl, rfl, rfl, h0⟩ := hI2
    rw [e1, e2]
    unfold PL_isBook_229_b
    simp (maxSteps := 1000000) (disch := omega) only [zI_lit, zI_neg, zI_add, zI_sub, zI_mul, zI_div, q_md, zI_lt, zI_le, zI_eq, zI_clamp, zI_vp, forall_eq, mb_u_eq, mb_u_ne, upd_eq, q_if, q_ifn, if_pos, if_neg, true_and, and_true, if_true, if_false]
    exact h316
  · exact ⟨rfl, rfl, rfl, rfl, rfl, rfl, rfl, rfl, rfl, rfl, by omega⟩
theorem l_isBook (hN : 700 ≤ N) (hV : Vw b C S np pr nb bk ns sk) (hF : FI F np nb bk ns sk) (hi : i < nb) (hK : K (zI 1) (b, F)) : PL_isBook N F b (zI i) K := by
  obtain ⟨⟨f00, f01, f02⟩, fb, fm, fz, fk⟩ := id hF
  obtain ⟨q, hq⟩ : ∃ q, bk i = q := ⟨_, rfl⟩
  obtain ⟨v, mv, rp, vf, vt, vw⟩ := q
  have hp4 : nb ≤ 4 := hV.2.2.1.1
  obtain ⟨kr, -⟩ := (hV.2.2.1.2.2.2.1 i hi).choose_spec.2.2
  rw [hq] at kr
  (try dsimp only at kr)
  obtain ⟨r1, r2, r3, r4, r5, r6, r7, r8, r9, r10, r11, r12⟩ := id kr
  have fbi := fb i hi
  rw [hq] at fbi
  (try dsimp only at fbi)
  obtain ⟨b0, b1, b2, b3, b4⟩ := fbi
  have hrg := tr_rng r1.1 r3.1 r10
  have hf9 : ∀ k, 0 ≤ (tr mv (v 6).toNat).1 k ∧ (tr mv (v 6).toNat).1 k ≤ 200 := fun k => by have := hrg.2.2.2.2.2.2.2.2.1 k; omega
  have hsw := swI_rng hf9 (v 0).toNat (by omega)
  have al := all_rng kr
  unfold PL_isBook
  simp (maxSteps := 1000000) (disch := omega) only [zI_lit, zI_neg, zI_add, zI_sub, zI_mul, zI_div, q_md, zI_lt, zI_le, zI_eq, zI_clamp, zI_vp, forall_eq, mb_u_eq, mb_u_ne, upd_eq, q_if, q_ifn, if_pos, if_neg, true_and, and_true, if_true, if_false, b0, b1]
  refine t_swelling hN hV hi hq ?_
  (try dsimp only)
  refine t_ofThreadX hN hV hi hq (by omega) (by omega) (by omega) ?_
  (try dsimp only)
  simp (maxSteps := 1000000) (disch := omega) only [zI_lit, zI_neg, zI_add, zI_sub, zI_mul, zI_div, q_md, zI_lt, zI_le, zI_eq, zI_clamp, zI_vp, forall_eq, mb_u_eq, mb_u_ne, upd_eq, q_if, q_ifn, if_pos, if_neg, true_and, and_true, if_true, if_false]
  refine t_isHeldX hN hV hi hq (by omega) (by omega) (by omega) ?_
  (try dsimp only)
  simp (maxSteps := 1000000) (disch := omega) only [zI_lit, zI_neg, zI_add, zI_sub, zI_mul, zI_div, q_md, zI_lt, zI_le, zI_eq, zI_clamp, zI_vp, forall_eq, mb_u_eq, mb_u_ne, upd_eq, q_if, q_ifn, if_pos, if_neg, true_and, and_true, if_true, if_false]
  unfold PL_isBook_67
  refine (q_for (σ := mb_m × mb_bs × Int32 × Int32 × Int32 × Int32 × Int32 × Int32 × Int32 × Int32) (fun n s => PL_isBook_72 N K n s.1 s.2.1 s.2.2.1 s.2.2.2.1 s.2.2.2.2.1 s.2.2.2.2.2.1 s.2.2.2.2.2.2.1 s.2.2.2.2.2.2.2.1 s.2.2.2.2.2.2.2.2.1 s.2.2.2.2.2.2.2.2.2) (fun r0 s => PL_isBook_72_b N K (fun a0 a1 a2 a3 a4 a5 a6 a7 a8 a9 => r0 (a0, a1, a2, a3, a4, a5, a6, a7, a8, a9)) s.1 s.2.1 s.2.2.1 s.2.2.2.1 s.2.2.2.2.1 s.2.2.2.2.2.1 s.2.2.2.2.2.2.1 s.2.2.2.2.2.2.2.1 s.2.2.2.2.2.2.2.2.1 s.2.2.2.2.2.2.2.2.2) (fun _ _ => rfl)) (fun k s => s.1 = F ∧ s.2.1 = b ∧ s.2.2.1 = zI i ∧ s.2.2.2.1 = zI (v 0) ∧ s.2.2.2.2.1 = zI (v 0 * v 1) ∧ s.2.2.2.2.2.1 = zI (3 * swI (tr mv (v 6).toNat).1 (v 0).toNat) ∧ (∃ h, hdI (v 2) (tr mv (v 6).toNat).1 k h ∧ s.2.2.2.2.2.2.1 = zI h) ∧ s.2.2.2.2.2.2.2.1 = zI (3 * swI (tr mv (v 6).toNat).1 k.toNat) ∧ s.2.2.2.2.2.2.2.2.1 = zI 1 ∧ s.2.2.2.2.2.2.2.2.2 = zI k ∧ 0 ≤ k) (v 0) ?_ ?_ 9 0 (F, b, _, _, _, _, _, _, _, _) (by omega) (by omega) ?_
  · rintro k ⟨F1, b1', y2, y3, y4, y5, y6, y7, y8, y9⟩ r hk hI2 hr
    dsimp only at hI2 hr ⊢
    obtain ⟨e1, e2, rfl, rfl, rfl, rfl, ⟨h, hh, rfl⟩, rfl, rfl, rfl, h0⟩ := hI2
    rw [e1, e2]
    unfold PL_isBook_72_b
    simp (maxSteps := 1000000) (disch := omega) only [zI_lit, zI_neg, zI_add, zI_sub, zI_mul, zI_div, q_md, zI_lt, zI_le, zI_eq, zI_clamp, zI_vp, forall_eq, mb_u_eq, mb_u_ne, upd_eq, q_if, q_ifn, if_pos, if_neg, true_and, and_true, if_true, if_false]
    refine l_isBook89 hN hV hi hp4 hq kr b2 ⟨h0, hk⟩ hh (fun h' hh' => ?_)
    exact hr _ ⟨rfl, rfl, rfl, rfl, rfl, rfl, ⟨h', hh', rfl⟩, rfl, rfl, rfl, by omega⟩
  · rintro ⟨F1, b1', y2, y3, y4, y5, y6, y7, y8, y9⟩ r hI2
    dsimp only at hI2 ⊢
    obtain ⟨e1, e2, rfl, rfl, rfl, rfl, ⟨h, hh, rfl⟩, rfl, rfl, rfl, h0⟩ := hI2
    rw [e1, e2]
    unfold PL_isBook_72_b
    simp (maxSteps := 1000000) (disch := omega) only [zI_lit, zI_neg, zI_add, zI_sub, zI_mul, zI_div, q_md, zI_lt, zI_le, zI_eq, zI_clamp, zI_vp, forall_eq, mb_u_eq, mb_u_ne, upd_eq, q_if, q_ifn, if_pos, if_neg, true_and, and_true, if_true, if_false]
    exact l_isBook219 hN hV hi hp4 hq kr hh hK
  · exact ⟨rfl, rfl, rfl, rfl, rfl, rfl, ⟨1, Or.inl ⟨rfl, fun j j1 j2 => by omega⟩, rfl⟩, rfl, rfl, rfl, by omega⟩
end BK
