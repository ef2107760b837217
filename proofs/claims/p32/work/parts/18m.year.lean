/-- the sum of the weights that speak for a year -/
def smI (vf vt vw : Int → Int) (n : Nat) (y : Int) : Int := sI (fun k => if vf k ≤ y ∧ y ≤ vt k then vw k else 0) n
def vok (vf vt vw : Int → Int) (n : Int) : Prop := (0 ≤ n ∧ n ≤ 20) ∧ ∀ k : Int, 0 ≤ k → k < n → 1400 ≤ vf k ∧ vf k ≤ vt k ∧ vt k ≤ 2000 ∧ 1 ≤ vw k ∧ vw k ≤ 9
theorem smI_rng {vf vt vw : Int → Int} {n : Int} (h : vok vf vt vw n) (j : Nat) (hj : (j : Int) ≤ n) (y : Int) : 0 ≤ smI vf vt vw j y ∧ smI vf vt vw j y ≤ 180 := by
  have := sI_rng (f := fun k => if vf k ≤ y ∧ y ≤ vt k then vw k else 0) (a := 0) (b := 9) (n := j) (fun k k1 k2 => by
    have := h.2 k k1 (by omega)
    (try dsimp only)
    split <;> omega)
  have := h.1
  unfold smI
  omega
theorem e_weightIn {N : Nat} {M : mb_m} {vf vt vw : Int → Int} {n y : Int} {K : Int32 → mb_m → Prop} (hN : 700 ≤ N) (h : vok vf vt vw n) (h0 : mr M 0 vf n) (h1 : mr M 1 vt n) (h2 : mr M 2 vw n) (h3 : m1 M 3 n) (ly : -2147483648 ≤ y) (gy : y < 2147483648)
    (hK : K (zI (smI vf vt vw n.toNat y)) M) : PX6_weightIn N M (zI y) K := by
  obtain ⟨hn, hv⟩ := id h
  refine (q_for (σ := mb_m × Int32 × Int32 × Int32) (fun n s => PX6_weightIn_4 N K n s.1 s.2.1 s.2.2.1 s.2.2.2) (fun r0 s => PX6_weightIn_4_b N K (fun a0 a1 a2 a3 => r0 (a0, a1, a2, a3)) s.1 s.2.1 s.2.2.1 s.2.2.2) (fun _ _ => rfl))
    (fun i s => s.1 = M ∧ s.2.1 = zI y ∧ s.2.2.1 = zI (smI vf vt vw i.toNat y) ∧ s.2.2.2 = zI i ∧ 0 ≤ i) n ?_ ?_ N 0 (M, _, _, _) (by omega) (by omega) ?_
  · rintro i ⟨M1, y1, y2, y3⟩ r hi hI hr
    dsimp only at hI hr ⊢
    obtain ⟨rfl, rfl, rfl, rfl, z0⟩ := hI
    have w3 : M1 3 0 = zI n := h3
    have u0 := h0 i z0 hi
    have u1 := h1 i z0 hi
    have u2 := h2 i z0 hi
    have hvi := hv i z0 hi
    have hst := sI_step (fun k => if vf k ≤ y ∧ y ≤ vt k then vw k else 0) z0
    unfold PX6_weightIn_4_b PX6_weightIn_48
    simp (disch := omega) only [zI_lit, zI_neg, zI_add, zI_sub, zI_mul, zI_div, q_md, zI_lt, zI_le, zI_eq, zI_clamp, zI_vp, forall_eq, mb_u_eq, mb_u_ne, upd_eq, q_if, q_ifn, if_pos, if_neg, true_and, and_true, if_true, if_false, w3, u0, u1, u2, q_isWithin]
    split
    · rename_i c
      refine hr _ ⟨rfl, rfl, ?_, rfl, by omega⟩
      (try dsimp only)
      unfold smI
      rw [hst]
      (try dsimp only)
      rw [if_pos c]
    · rename_i c
      refine hr _ ⟨rfl, rfl, ?_, rfl, by omega⟩
      (try dsimp only)
      unfold smI
      rw [hst]
      (try dsimp only)
      rw [if_neg c]
  · rintro ⟨M1, y1, y2, y3⟩ r hI
    dsimp only at hI ⊢
    obtain ⟨rfl, rfl, rfl, rfl, z0⟩ := hI
    have w3 : M1 3 0 = zI n := h3
    unfold PX6_weightIn_4_b
    simp (disch := omega) only [zI_lit, zI_neg, zI_add, zI_sub, zI_mul, zI_div, q_md, zI_lt, zI_le, zI_eq, zI_clamp, zI_vp, forall_eq, mb_u_eq, mb_u_ne, upd_eq, q_if, q_ifn, if_pos, if_neg, true_and, and_true, if_true, if_false, w3]
    exact hK
  · exact ⟨rfl, rfl, rfl, rfl, by omega⟩
/-- the first year with the greatest sum -/
def isB (S : Int → Int) (y : Int) : Prop := (y = -1 ∧ ∀ z, 1400 ≤ z → z ≤ 2000 → S z ≤ 0) ∨ ((1400 ≤ y ∧ y ≤ 2000) ∧ 0 < S y ∧ (∀ z, 1400 ≤ z → z ≤ 2000 → S z ≤ S y) ∧ ∀ z, 1400 ≤ z → z < y → S z < S y)
theorem isB_one {S : Int → Int} {y w : Int} (h : isB S y) (g : isB S w) : y = w := by
  rcases h with ⟨rfl, h⟩ | ⟨h1, h2, h3, h4⟩
  · rcases g with ⟨rfl, g⟩ | ⟨g1, g2, g3, g4⟩
    · rfl
    · have := h w g1.1 g1.2; omega
  · rcases g with ⟨rfl, g⟩ | ⟨g1, g2, g3, g4⟩
    · have := g y h1.1 h1.2; omega
    · have a := h3 w g1.1 g1.2
      have b := g3 y h1.1 h1.2
      rcases (by omega : y < w ∨ y = w ∨ w < y) with e | e | e
      · have := g4 y h1.1 e; omega
      · exact e
      · have := h4 w g1.1 e; omega
/-- the last of the years from f on -/
def isL (S : Int → Int) (f l : Int) : Prop := (f ≤ l ∧ l ≤ 2000) ∧ (∀ z, f ≤ z → z ≤ l → S z = S f) ∧ (l = 2000 ∨ S (l + 1) ≠ S f)
theorem isL_one {S : Int → Int} {f y w : Int} (h : isL S f y) (g : isL S f w) : y = w := by
  obtain ⟨h1, h2, h3⟩ := h
  obtain ⟨g1, g2, g3⟩ := g
  rcases (by omega : y < w ∨ y = w ∨ w < y) with e | e | e
  · rcases h3 with h3 | h3
    · omega
    · exact absurd (g2 (y + 1) (by omega) (by omega)) h3
  · exact e
  · rcases g3 with g3 | g3
    · omega
    · exact absurd (h2 (w + 1) (by omega) (by omega)) g3
/-- what is known of the years before one -/
def isP (S : Int → Int) (i f mo : Int) : Prop := (f = -1 ∧ mo = 0 ∧ ∀ z, 1400 ≤ z → z < i → S z ≤ 0) ∨ ((1400 ≤ f ∧ f < i) ∧ mo = S f ∧ 0 < mo ∧ (∀ z, 1400 ≤ z → z < i → S z ≤ mo) ∧ ∀ z, 1400 ≤ z → z < f → S z < mo)
theorem isP_up {S : Int → Int} {i f mo : Int} (h : isP S i f mo) (hi : 1400 ≤ i) (c : mo < S i) : isP S (i + 1) i (S i) := by
  refine Or.inr ⟨⟨hi, by omega⟩, rfl, ?_, fun z z1 z2 => ?_, fun z z1 z2 => ?_⟩
  · rcases h with ⟨_, h, _⟩ | ⟨_, _, h, _⟩ <;> omega
  · rcases (by omega : z = i ∨ z < i) with e | e
    · rw [e]; omega
    · rcases h with ⟨_, h, g⟩ | ⟨_, _, h, g, _⟩ <;> (have := g z z1 e; omega)
  · rcases h with ⟨_, h, g⟩ | ⟨_, _, h, g, _⟩ <;> (have := g z z1 z2; omega)
theorem isP_no {S : Int → Int} {i f mo : Int} (h : isP S i f mo) (hi : 1400 ≤ i) (c : ¬ mo < S i) : isP S (i + 1) f mo := by
  rcases h with ⟨h1, h2, h3⟩ | ⟨h1, h2, h3, h4, h5⟩
  · refine Or.inl ⟨h1, h2, fun z z1 z2 => ?_⟩
    rcases (by omega : z = i ∨ z < i) with e | e
    · rw [e]; omega
    · exact h3 z z1 e
  · refine Or.inr ⟨by omega, h2, h3, fun z z1 z2 => ?_, h5⟩
    rcases (by omega : z = i ∨ z < i) with e | e
    · rw [e]; omega
    · exact h4 z z1 e
theorem isP_end {S : Int → Int} {f mo : Int} (h : isP S 2001 f mo) : isB S f := by
  rcases h with ⟨h1, h2, h3⟩ | ⟨h1, h2, h3, h4, h5⟩
  · exact Or.inl ⟨h1, fun z z1 z2 => h3 z z1 (by omega)⟩
  · subst h2
    exact Or.inr ⟨by omega, h3, fun z z1 z2 => h4 z z1 (by omega), h5⟩
theorem isP_rng {S : Int → Int} {i f mo : Int} (h : isP S i f mo) (hi : i ≤ 2001) (hS : ∀ z, 0 ≤ S z ∧ S z ≤ 180) : -1 ≤ f ∧ f ≤ 2000 ∧ 0 ≤ mo ∧ mo ≤ 180 := by
  rcases h with ⟨h1, h2, h3⟩ | ⟨h1, h2, h3, h4, h5⟩
  · omega
  · have := hS f
    omega
theorem e_firstY {N : Nat} {M : mb_m} {vf vt vw : Int → Int} {n : Int} {K : Int32 → mb_m → Prop} (hN : 700 ≤ N) (h : vok vf vt vw n) (h0 : mr M 0 vf n) (h1 : mr M 1 vt n) (h2 : mr M 2 vw n) (h3 : m1 M 3 n)
    (hK : ∀ y, isB (smI vf vt vw n.toNat) y → K (zI y) M) : PX6_firstByYears N M K := by
  have hS := smI_rng h n.toNat (by have := h.1; omega)
  refine (q_for (σ := mb_m × Int32 × Int32 × Int32) (fun n s => PX6_firstByYears_8 N K n s.1 s.2.1 s.2.2.1 s.2.2.2) (fun r0 s => PX6_firstByYears_8_b N K (fun a0 a1 a2 a3 => r0 (a0, a1, a2, a3)) s.1 s.2.1 s.2.2.1 s.2.2.2) (fun _ _ => rfl))
    (fun i s => s.1 = M ∧ (∃ f mo, isP (smI vf vt vw n.toNat) i f mo ∧ s.2.1 = zI mo ∧ s.2.2.1 = zI f) ∧ s.2.2.2 = zI i ∧ 1400 ≤ i) 2001 ?_ ?_ N 1400 (M, _, _, _) (by omega) (by omega) ?_
  · rintro i ⟨M1, y1, y2, y3⟩ r hi hI hr
    dsimp only at hI hr ⊢
    obtain ⟨rfl, ⟨f, mo, hp, rfl, rfl⟩, rfl, z0⟩ := hI
    have hr1 := isP_rng hp (by omega) hS
    have hSi := hS i
    unfold PX6_firstByYears_8_b PX6_firstByYears_33
    simp (disch := omega) only [zI_lit, zI_neg, zI_add, zI_sub, zI_mul, zI_div, q_md, zI_lt, zI_le, zI_eq, zI_clamp, zI_vp, forall_eq, mb_u_eq, mb_u_ne, upd_eq, q_if, q_ifn, if_pos, if_neg, true_and, and_true, if_true, if_false]
    refine e_weightIn hN h h0 h1 h2 h3 (by omega) (by omega) ?_
    simp (disch := omega) only [zI_lit, zI_neg, zI_add, zI_sub, zI_mul, zI_div, q_md, zI_lt, zI_le, zI_eq, zI_clamp, zI_vp, forall_eq, mb_u_eq, mb_u_ne, upd_eq, q_if, q_ifn, if_pos, if_neg, true_and, and_true, if_true, if_false]
    split
    · exact hr _ ⟨rfl, ⟨_, _, isP_no hp z0 (by omega), rfl, rfl⟩, rfl, by omega⟩
    · exact hr _ ⟨rfl, ⟨_, _, isP_up hp z0 (by omega), rfl, rfl⟩, rfl, by omega⟩
  · rintro ⟨M1, y1, y2, y3⟩ r hI
    dsimp only at hI ⊢
    obtain ⟨rfl, ⟨f, mo, hp, rfl, rfl⟩, rfl, z0⟩ := hI
    unfold PX6_firstByYears_8_b
    simp (disch := omega) only [zI_lit, zI_neg, zI_add, zI_sub, zI_mul, zI_div, q_md, zI_lt, zI_le, zI_eq, zI_clamp, zI_vp, forall_eq, mb_u_eq, mb_u_ne, upd_eq, q_if, q_ifn, if_pos, if_neg, true_and, and_true, if_true, if_false]
    exact hK f (isP_end hp)
  · exact ⟨rfl, ⟨-1, 0, Or.inl ⟨rfl, rfl, fun z z1 z2 => by omega⟩, rfl, rfl⟩, rfl, by omega⟩
theorem isL_step {S : Int → Int} {f i : Int} (h : f ≤ i ∧ ∀ z, f ≤ z → z ≤ i → S z = S f) (c : S (i + 1) = S f) : f ≤ i + 1 ∧ ∀ z, f ≤ z → z ≤ i + 1 → S z = S f :=
  ⟨by omega, fun z z1 z2 => by
    rcases (by omega : z = i + 1 ∨ z ≤ i) with e | e
    · rw [e]; exact c
    · exact h.2 z z1 e⟩
theorem e_lastY {N : Nat} {M : mb_m} {vf vt vw : Int → Int} {n f : Int} {K : Int32 → mb_m → Prop} (hN : 700 ≤ N) (h : vok vf vt vw n) (h0 : mr M 0 vf n) (h1 : mr M 1 vt n) (h2 : mr M 2 vw n) (h3 : m1 M 3 n) (hf : 1400 ≤ f ∧ f ≤ 2000)
    (hK : ∀ y, isL (smI vf vt vw n.toNat) f y → K (zI y) M) : PX6_lastByYears N M (zI f) K := by
  have hS := smI_rng h n.toNat (by have := h.1; omega)
  unfold PX6_lastByYears
  refine e_weightIn hN h h0 h1 h2 h3 (by omega) (by omega) ?_
  (try dsimp only)
  refine (q_for (σ := mb_m × Int32 × Int32) (fun n s => PX6_lastByYears_8 N K n s.1 s.2.1 s.2.2) (fun r0 s => PX6_lastByYears_8_b N K (fun a0 a1 a2 => r0 (a0, a1, a2)) s.1 s.2.1 s.2.2) (fun _ _ => rfl))
    (fun i s => s.1 = M ∧ s.2.1 = zI (smI vf vt vw n.toNat f) ∧ s.2.2 = zI i ∧ f ≤ i ∧ ∀ z, f ≤ z → z ≤ i → smI vf vt vw n.toNat z = smI vf vt vw n.toNat f) 2000 ?_ ?_ N f (M, _, _) (by omega) (by omega) ?_
  · rintro i ⟨M1, y1, y2⟩ r hi hI hr
    dsimp only at hI hr ⊢
    obtain ⟨rfl, rfl, rfl, z0⟩ := hI
    have hSi := hS (i + 1)
    have hSf := hS f
    unfold PX6_lastByYears_8_b
    simp (disch := omega) only [zI_lit, zI_neg, zI_add, zI_sub, zI_mul, zI_div, q_md, zI_lt, zI_le, zI_eq, zI_clamp, zI_vp, forall_eq, mb_u_eq, mb_u_ne, upd_eq, q_if, q_ifn, if_pos, if_neg, true_and, and_true, if_true, if_false]
    refine e_weightIn hN h h0 h1 h2 h3 (by omega) (by omega) ?_
    simp (disch := omega) only [zI_lit, zI_neg, zI_add, zI_sub, zI_mul, zI_div, q_md, zI_lt, zI_le, zI_eq, zI_clamp, zI_vp, forall_eq, mb_u_eq, mb_u_ne, upd_eq, q_if, q_ifn, if_pos, if_neg, true_and, and_true, if_true, if_false]
    by_cases c : smI vf vt vw n.toNat (i + 1) = smI vf vt vw n.toNat f
    · simp (disch := omega) only [zI_lit, zI_neg, zI_add, zI_sub, zI_mul, zI_div, q_md, zI_lt, zI_le, zI_eq, zI_clamp, zI_vp, forall_eq, mb_u_eq, mb_u_ne, upd_eq, q_if, q_ifn, if_pos, if_neg, true_and, and_true, if_true, if_false]
      exact hr _ ⟨rfl, rfl, rfl, isL_step z0 c⟩
    · simp (disch := omega) only [zI_lit, zI_neg, zI_add, zI_sub, zI_mul, zI_div, q_md, zI_lt, zI_le, zI_eq, zI_clamp, zI_vp, forall_eq, mb_u_eq, mb_u_ne, upd_eq, q_if, q_ifn, if_pos, if_neg, true_and, and_true, if_true, if_false]
      exact hK i ⟨⟨z0.1, by omega⟩, z0.2, Or.inr c⟩
  · rintro ⟨M1, y1, y2⟩ r hI
    dsimp only at hI ⊢
    obtain ⟨rfl, rfl, rfl, z0⟩ := hI
    unfold PX6_lastByYears_8_b
    simp (disch := omega) only [zI_lit, zI_neg, zI_add, zI_sub, zI_mul, zI_div, q_md, zI_lt, zI_le, zI_eq, zI_clamp, zI_vp, forall_eq, mb_u_eq, mb_u_ne, upd_eq, q_if, q_ifn, if_pos, if_neg, true_and, and_true, if_true, if_false]
    exact hK 2000 ⟨⟨z0.1, by omega⟩, z0.2, Or.inl rfl⟩
  · exact ⟨rfl, rfl, rfl, Int.le_refl _, fun z z1 z2 => by rw [show z = f by omega]⟩
/-- the nearest beginning at or ahead of a year -/
theorem near {vf : Int → Int} {z : Int} : ∀ {n : Nat}, (∃ k : Int, 0 ≤ k ∧ k < n ∧ vf k ≤ z) → ∃ j : Int, 0 ≤ j ∧ j < n ∧ vf j ≤ z ∧ ∀ k : Int, 0 ≤ k → k < n → vf k ≤ z → vf k ≤ vf j
  | 0, ⟨k, k1, k2, _⟩ => by omega
  | n + 1, ⟨k, k1, k2, k3⟩ => by
    by_cases c : ∃ k : Int, 0 ≤ k ∧ k < n ∧ vf k ≤ z
    · obtain ⟨j, j1, j2, j3, j4⟩ := near c
      by_cases d : vf n ≤ z ∧ vf j < vf n
      · refine ⟨n, by omega, by omega, d.1, fun k h1 h2 h3 => ?_⟩
        rcases (by omega : k = n ∨ k < n) with e | e
        · rw [e]; omega
        · have := j4 k h1 e h3; omega
      · refine ⟨j, j1, by omega, j3, fun k h1 h2 h3 => ?_⟩
        rcases (by omega : k = n ∨ k < n) with e | e
        · rw [e] at h3 ⊢; omega
        · exact j4 k h1 e h3
    · have e : k = n := by
        rcases (by omega : k = n ∨ k < n) with e | e
        · exact e
        · exact absurd ⟨k, k1, e, k3⟩ c
      subst e
      refine ⟨n, by omega, by omega, k3, fun k h1 h2 h3 => ?_⟩
      rcases (by omega : k = n ∨ k < n) with e | e
      · rw [e]; exact Int.le_refl _
      · exact absurd ⟨k, h1, e, h3⟩ c
theorem sI_zero {f : Int → Int} : ∀ {n : Nat}, (∀ k : Int, 0 ≤ k → k < n → f k = 0) → sI f n = 0
  | 0, _ => rfl
  | n + 1, h => by
    show sI f n + f n = 0
    rw [sI_zero (n := n) (fun k h1 h2 => h k h1 (by omega)), h n (by omega) (by omega)]; rfl
theorem sI_one {f : Int → Int} {j : Int} : ∀ {n : Nat}, (∀ k : Int, 0 ≤ k → k < n → 0 ≤ f k) → 0 ≤ j → j < n → f j ≤ sI f n
  | 0, _, _, _ => by omega
  | n + 1, h, j0, j1 => by
    show f j ≤ sI f n + f n
    have hn := h n (by omega) (by omega)
    have hs : 0 ≤ sI f n := by
      have := sI_mono (f := fun _ => 0) (g := f) (n := n) (fun k h1 h2 => h k h1 (by omega))
      rw [sI_zero (fun _ _ _ => rfl)] at this
      exact this
    rcases (by omega : j = n ∨ j < n) with e | e
    · rw [e]; omega
    · have := sI_one (n := n) (fun k h1 h2 => h k h1 (by omega)) j0 e
      omega
/-- a year with a sum has a beginning at or ahead of it with no less -/
theorem sm_near {vf vt vw : Int → Int} {n : Int} (h : vok vf vt vw n) {z : Int} (hz : 0 < smI vf vt vw n.toNat z) : ∃ j : Int, 0 ≤ j ∧ j < n ∧ vf j ≤ z ∧ smI vf vt vw n.toNat z ≤ smI vf vt vw n.toNat (vf j) := by
  obtain ⟨hn, hv⟩ := h
  have ex : ∃ k : Int, 0 ≤ k ∧ k < n.toNat ∧ vf k ≤ z := by
    refine Classical.byContradiction fun c => ?_
    have : smI vf vt vw n.toNat z = 0 := sI_zero (fun k k1 k2 => by
      (try dsimp only)
      rw [if_neg]
      intro e
      exact c ⟨k, k1, k2, e.1⟩)
    omega
  obtain ⟨j, j1, j2, j3, j4⟩ := near ex
  refine ⟨j, j1, by omega, j3, sI_mono (fun k k1 k2 => ?_)⟩
  have hk := hv k k1 (by omega)
  (try dsimp only)
  by_cases c : vf k ≤ z ∧ z ≤ vt k
  · have := j4 k k1 k2 c.1
    rw [if_pos c, if_pos (by omega)]; exact Int.le_refl _
  · rw [if_neg c]
    split <;> omega
theorem sm_pos {vf vt vw : Int → Int} {n : Int} (h : vok vf vt vw n) {j : Int} (j0 : 0 ≤ j) (j1 : j < n) : 0 < smI vf vt vw n.toNat (vf j) := by
  obtain ⟨hn, hv⟩ := h
  have hj := hv j j0 j1
  have := sI_one (f := fun k => if vf k ≤ vf j ∧ vf j ≤ vt k then vw k else 0) (j := j) (n := n.toNat) (fun k k1 k2 => by
    have := hv k k1 (by omega)
    (try dsimp only)
    split <;> omega) j0 (by omega)
  (try dsimp only at this)
  rw [if_pos (by omega)] at this
  unfold smI
  omega
theorem sm_drop {vf vt vw : Int → Int} {n : Int} (h : vok vf vt vw n) {z : Int} (hz : smI vf vt vw n.toNat (z + 1) < smI vf vt vw n.toNat z) : ∃ j : Int, 0 ≤ j ∧ j < n ∧ vt j = z := by
  obtain ⟨hn, hv⟩ := h
  refine Classical.byContradiction fun c => ?_
  have : smI vf vt vw n.toNat z ≤ smI vf vt vw n.toNat (z + 1) := sI_mono (fun k k1 k2 => by
    have hk := hv k k1 (by omega)
    have ne : vt k ≠ z := fun e => c ⟨k, k1, by omega, e⟩
    (try dsimp only)
    by_cases d : vf k ≤ z ∧ z ≤ vt k
    · rw [if_pos d, if_pos (by omega)]; exact Int.le_refl _
    · rw [if_neg d]
      split <;> omega)
  omega
theorem e_firstE {N : Nat} {M : mb_m} {vf vt vw : Int → Int} {n : Int} {K : Int32 → mb_m → Prop} (hN : 700 ≤ N) (h : vok vf vt vw n) (h0 : mr M 0 vf n) (h1 : mr M 1 vt n) (h2 : mr M 2 vw n) (h3 : m1 M 3 n)
    (hK : ∀ y, isB (smI vf vt vw n.toNat) y → K (zI y) M) : PX6_firstByEnds N M K := by
  have hS := smI_rng h n.toNat (by have := h.1; omega)
  obtain ⟨hn, hv⟩ := id h
  have hpos : ∀ j : Int, 0 ≤ j → j < n → 0 < smI vf vt vw n.toNat (vf j) := fun j j0 j1 => sm_pos h j0 j1
  have hnear : ∀ z : Int, 0 < smI vf vt vw n.toNat z → ∃ j : Int, 0 ≤ j ∧ j < n ∧ vf j ≤ z ∧ smI vf vt vw n.toNat z ≤ smI vf vt vw n.toNat (vf j) := fun z hz => sm_near h hz
  have hw : ∀ (y : Int) (K : Int32 → mb_m → Prop), -2147483648 ≤ y → y < 2147483648 → K (zI (smI vf vt vw n.toNat y)) M → PX6_weightIn N M (zI y) K := fun y K a b c => e_weightIn hN h h0 h1 h2 h3 a b c
  generalize smI vf vt vw n.toNat = S at *
  refine (q_for (σ := mb_m × Int32 × Int32 × Int32) (fun n s => PX6_firstByEnds_6 N K n s.1 s.2.1 s.2.2.1 s.2.2.2) (fun r0 s => PX6_firstByEnds_6_b N K (fun a0 a1 a2 a3 => r0 (a0, a1, a2, a3)) s.1 s.2.1 s.2.2.1 s.2.2.2) (fun _ _ => rfl))
    (fun i s => s.1 = M ∧ (∃ f mo, ((i = 0 ∧ f = -1 ∧ mo = 0) ∨ ((∃ j : Int, 0 ≤ j ∧ j < i ∧ f = vf j) ∧ mo = S f ∧ ∀ j : Int, 0 ≤ j → j < i → S (vf j) ≤ mo ∧ (S (vf j) = mo → f ≤ vf j))) ∧ s.2.1 = zI mo ∧ s.2.2.1 = zI f) ∧ s.2.2.2 = zI i ∧ 0 ≤ i) n ?_ ?_ N 0 (M, _, _, _) (by omega) (by omega) ?_
  · rintro i ⟨M1, y1, y2, y3⟩ r hi hI hr
    dsimp only at hI hr ⊢
    obtain ⟨rfl, ⟨f, mo, hp, rfl, rfl⟩, rfl, z0⟩ := hI
    have w3 : M1 3 0 = zI n := h3
    have u0 := h0 i z0 hi
    have hvi := hv i z0 hi
    have hSi := hS (vf i)
    have hpi := hpos i z0 hi
    have hfm : -1 ≤ f ∧ f ≤ 2000 ∧ 0 ≤ mo ∧ mo ≤ 180 := by
      rcases hp with ⟨e1, e2, e3⟩ | ⟨⟨j, j1, j2, j3⟩, e, -⟩
      · omega
      · have := hv j j1 (by omega)
        have := hS f
        omega
    have yes : (mo < S (vf i) ∨ S (vf i) = mo ∧ vf i < f) → r (M1, zI (S (vf i)), zI (vf i), zI (i + 1)) := by
      intro c
      refine hr _ ⟨rfl, ⟨vf i, S (vf i), Or.inr ⟨⟨i, z0, by omega, rfl⟩, rfl, fun j j0 j1 => ?_⟩, rfl, rfl⟩, rfl, by omega⟩
      rcases (by omega : j = i ∨ j < i) with e | e
      · rw [e]; exact ⟨Int.le_refl _, fun _ => Int.le_refl _⟩
      · rcases hp with ⟨e1, e2, e3⟩ | ⟨-, -, g⟩
        · omega
        · have := g j j0 e
          omega
    have no : ¬ (mo < S (vf i) ∨ S (vf i) = mo ∧ vf i < f) → r (M1, zI mo, zI f, zI (i + 1)) := by
      intro c
      rcases hp with ⟨e1, e2, e3⟩ | ⟨⟨j, j1, j2, j3⟩, g1, g⟩
      · omega
      · refine hr _ ⟨rfl, ⟨f, mo, Or.inr ⟨⟨j, j1, by omega, j3⟩, g1, fun k k0 k1 => ?_⟩, rfl, rfl⟩, rfl, by omega⟩
        rcases (by omega : k = i ∨ k < i) with e | e
        · rw [e]; omega
        · exact g k k0 e
    unfold PX6_firstByEnds_6_b PX6_firstByEnds_54 PX6_firstByEnds_64
    simp (disch := omega) only [zI_lit, zI_neg, zI_add, zI_sub, zI_mul, zI_div, q_md, zI_lt, zI_le, zI_eq, zI_clamp, zI_vp, forall_eq, mb_u_eq, mb_u_ne, upd_eq, q_if, q_ifn, if_pos, if_neg, true_and, and_true, if_true, if_false, w3, u0]
    refine hw (vf i) _ (by omega) (by omega) ?_
    simp (disch := omega) only [zI_lit, zI_neg, zI_add, zI_sub, zI_mul, zI_div, q_md, zI_lt, zI_le, zI_eq, zI_clamp, zI_vp, forall_eq, mb_u_eq, mb_u_ne, upd_eq, q_if, q_ifn, if_pos, if_neg, true_and, and_true, if_true, if_false, u0]
    (repeat' split) <;> first | exact yes (by omega) | exact no (by omega)
  · rintro ⟨M1, y1, y2, y3⟩ r hI
    dsimp only at hI ⊢
    obtain ⟨rfl, ⟨f, mo, hp, rfl, rfl⟩, rfl, z0⟩ := hI
    have w3 : M1 3 0 = zI n := h3
    unfold PX6_firstByEnds_6_b
    simp (disch := omega) only [zI_lit, zI_neg, zI_add, zI_sub, zI_mul, zI_div, q_md, zI_lt, zI_le, zI_eq, zI_clamp, zI_vp, forall_eq, mb_u_eq, mb_u_ne, upd_eq, q_if, q_ifn, if_pos, if_neg, true_and, and_true, if_true, if_false, w3]
    refine hK f ?_
    rcases hp with ⟨e1, e2, e3⟩ | ⟨⟨j, j1, j2, rfl⟩, rfl, g⟩
    · refine Or.inl ⟨e2, fun z _ _ => ?_⟩
      refine Classical.byContradiction fun c => ?_
      obtain ⟨j, j1, j2, -⟩ := hnear z (by omega)
      omega
    · have hj := hv j j1 j2
      refine Or.inr ⟨by omega, hpos j j1 j2, fun z z1 z2 => ?_, fun z z1 z2 => ?_⟩
      · refine Classical.byContradiction fun c => ?_
        have := hpos j j1 j2
        obtain ⟨k, k1, k2, k3, k4⟩ := hnear z (by omega)
        have := (g k k1 k2).1
        omega
      · refine Classical.byContradiction fun c => ?_
        have := hpos j j1 j2
        obtain ⟨k, k1, k2, k3, k4⟩ := hnear z (by omega)
        have g1 := g k k1 k2
        have := g1.2 (by omega)
        omega
  · exact ⟨rfl, ⟨-1, 0, Or.inl ⟨rfl, rfl, rfl⟩, rfl, rfl⟩, rfl, by omega⟩
theorem e_lastE {N : Nat} {M : mb_m} {vf vt vw : Int → Int} {n f : Int} {K : Int32 → mb_m → Prop} (hN : 700 ≤ N) (h : vok vf vt vw n) (h0 : mr M 0 vf n) (h1 : mr M 1 vt n) (h2 : mr M 2 vw n) (h3 : m1 M 3 n) (hf : 1400 ≤ f ∧ f ≤ 2000) (hb : isB (smI vf vt vw n.toNat) f)
    (hK : ∀ y, isL (smI vf vt vw n.toNat) f y → K (zI y) M) : PX6_lastByEnds N M (zI f) K := by
  have hS := smI_rng h n.toNat (by have := h.1; omega)
  obtain ⟨hn, hv⟩ := id h
  have hdrop : ∀ z : Int, smI vf vt vw n.toNat (z + 1) < smI vf vt vw n.toNat z → ∃ j : Int, 0 ≤ j ∧ j < n ∧ vt j = z := fun z hz => sm_drop h hz
  have hw : ∀ (y : Int) (K : Int32 → mb_m → Prop), -2147483648 ≤ y → y < 2147483648 → K (zI (smI vf vt vw n.toNat y)) M → PX6_weightIn N M (zI y) K := fun y K a b c => e_weightIn hN h h0 h1 h2 h3 a b c
  generalize smI vf vt vw n.toNat = S at *
  have hmax : ∀ z, 1400 ≤ z → z ≤ 2000 → S z ≤ S f := by
    rcases hb with ⟨e, -⟩ | ⟨-, -, g, -⟩
    · omega
    · exact g
  have hSf := hS f
  unfold PX6_lastByEnds
  refine hw f _ (by omega) (by omega) ?_
  (try dsimp only)
  refine (q_for (σ := mb_m × Int32 × Int32 × Int32 × Int32) (fun n s => PX6_lastByEnds_13 N K n s.1 s.2.1 s.2.2.1 s.2.2.2.1 s.2.2.2.2) (fun r0 s => PX6_lastByEnds_13_b N K (fun a0 a1 a2 a3 a4 => r0 (a0, a1, a2, a3, a4)) s.1 s.2.1 s.2.2.1 s.2.2.2.1 s.2.2.2.2) (fun _ _ => rfl))
    (fun i s => s.1 = M ∧ s.2.1 = zI f ∧ s.2.2.1 = zI (S f) ∧ (∃ l, (f ≤ l ∧ l ≤ 2000) ∧ (l = 2000 ∨ S (l + 1) < S f) ∧ (∀ j : Int, 0 ≤ j → j < i → f ≤ vt j → vt j < l → S f ≤ S (vt j + 1)) ∧ s.2.2.2.1 = zI l) ∧ s.2.2.2.2 = zI i ∧ 0 ≤ i) n ?_ ?_ N 0 (M, _, _, _, _) (by omega) (by omega) ?_
  · rintro i ⟨M1, y0, y1, y2, y3⟩ r hi hI hr
    dsimp only at hI hr ⊢
    obtain ⟨rfl, rfl, rfl, ⟨l, l1, l2, l3, rfl⟩, rfl, z0⟩ := hI
    have w3 : M1 3 0 = zI n := h3
    have u1 := h1 i z0 hi
    have hvi := hv i z0 hi
    have hSi := hS (vt i + 1)
    have yes : f ≤ vt i → vt i ≤ l → S (vt i + 1) < S f → r (M1, zI f, zI (S f), zI (vt i), zI (i + 1)) := by
      intro c1 c2 c3
      refine hr _ ⟨rfl, rfl, rfl, ⟨vt i, by omega, Or.inr c3, fun j j0 j1 j2 j3 => ?_, rfl⟩, rfl, by omega⟩
      rcases (by omega : j = i ∨ j < i) with e | e
      · rw [e] at j3; omega
      · exact l3 j j0 e j2 (by omega)
    have no : ¬ (f ≤ vt i ∧ vt i ≤ l ∧ S (vt i + 1) < S f) → r (M1, zI f, zI (S f), zI l, zI (i + 1)) := by
      intro c
      refine hr _ ⟨rfl, rfl, rfl, ⟨l, l1, l2, fun j j0 j1 j2 j3 => ?_, rfl⟩, rfl, by omega⟩
      rcases (by omega : j = i ∨ j < i) with e | e
      · rw [e] at j2 j3 ⊢; omega
      · exact l3 j j0 e j2 j3
    unfold PX6_lastByEnds_13_b PX6_lastByEnds_69
    simp (disch := omega) only [zI_lit, zI_neg, zI_add, zI_sub, zI_mul, zI_div, q_md, zI_lt, zI_le, zI_eq, zI_clamp, zI_vp, forall_eq, mb_u_eq, mb_u_ne, upd_eq, q_if, q_ifn, if_pos, if_neg, true_and, and_true, if_true, if_false, w3, u1, q_isWithin]
    split
    · refine hw (vt i + 1) _ (by omega) (by omega) ?_
      simp (disch := omega) only [zI_lit, zI_neg, zI_add, zI_sub, zI_mul, zI_div, q_md, zI_lt, zI_le, zI_eq, zI_clamp, zI_vp, forall_eq, mb_u_eq, mb_u_ne, upd_eq, q_if, q_ifn, if_pos, if_neg, true_and, and_true, if_true, if_false, u1]
      split
      · exact no (by omega)
      · exact yes (by omega) (by omega) (by omega)
    · exact no (by omega)
  · rintro ⟨M1, y0, y1, y2, y3⟩ r hI
    dsimp only at hI ⊢
    obtain ⟨rfl, rfl, rfl, ⟨l, l1, l2, l3, rfl⟩, rfl, z0⟩ := hI
    have w3 : M1 3 0 = zI n := h3
    unfold PX6_lastByEnds_13_b
    simp (disch := omega) only [zI_lit, zI_neg, zI_add, zI_sub, zI_mul, zI_div, q_md, zI_lt, zI_le, zI_eq, zI_clamp, zI_vp, forall_eq, mb_u_eq, mb_u_ne, upd_eq, q_if, q_ifn, if_pos, if_neg, true_and, and_true, if_true, if_false, w3]
    refine hK l ⟨l1, fun z z1 z2 => ?_, ?_⟩
    · have : ∀ d : Nat, f + d ≤ l → S (f + d) = S f := by
        intro d
        induction d with
        | zero => intro _; congr 1; omega
        | succ d ih =>
          intro hd
          have e := ih (by omega)
          have hm := hmax (f + (d + 1 : Nat)) (by omega) (by omega)
          refine Classical.byContradiction fun c => ?_
          obtain ⟨k, k1, k2, k3⟩ := hdrop (f + d) (by rw [show f + (d : Int) + 1 = f + (d + 1 : Nat) by omega]; omega)
          have := l3 k k1 k2 (by omega) (by omega)
          rw [k3, show f + (d : Int) + 1 = f + (d + 1 : Nat) by omega] at this
          omega
      have := this (z - f).toNat (by omega)
      rwa [show f + ((z - f).toNat : Int) = z by omega] at this
    · rcases l2 with l2 | l2
      · exact Or.inl l2
      · exact Or.inr (by omega)
  · exact ⟨rfl, rfl, rfl, ⟨2000, by omega, Or.inl rfl, fun j j0 j1 => by omega, rfl⟩, rfl, by omega⟩
theorem isL_ex (S : Int → Int) : ∀ {f : Int}, f ≤ 2000 → ∃ l, isL S f l := by
  have : ∀ (d : Nat) (f i : Int), (2000 - i : Int) = d → (f ≤ i ∧ ∀ z, f ≤ z → z ≤ i → S z = S f) → ∃ l, isL S f l := by
    intro d
    induction d with
    | zero => intro f i hd h; exact ⟨i, ⟨h.1, by omega⟩, h.2, Or.inl (by omega)⟩
    | succ d ih =>
      intro f i hd h
      by_cases c : S (i + 1) = S f
      · exact ih f (i + 1) (by omega) (isL_step h c)
      · exact ⟨i, ⟨h.1, by omega⟩, h.2, Or.inr c⟩
  intro f hf
  exact this (2000 - f).toNat f f (by omega) ⟨Int.le_refl _, fun z z1 z2 => by rw [show z = f by omega]⟩
theorem e_init0 {N : Nat} {K : mb_m → Prop} (hN : 700 ≤ N) (hK : ∀ M, mr M 0 (fun _ => -1) 64 → mr M 1 (fun _ => 0) 64 → K M) : PX0_init N K := by
  unfold PX0_init
  refine (q_for (σ := mb_m × Int32) (fun n s => PX0_init_46 N K n s.1 s.2) (fun r0 s => PX0_init_46_b N K (fun a0 a1 => r0 (a0, a1)) s.1 s.2) (fun _ _ => rfl))
    (fun i s => mr s.1 0 (fun _ => -1) i ∧ mr s.1 1 (fun _ => 0) 64 ∧ s.2 = zI i ∧ 0 ≤ i) 64 ?_ ?_ N 0 (mb_z, _) (by omega) (by omega) ?_
  · rintro i ⟨M1, y⟩ r hi hI hr
    dsimp only at hI hr ⊢
    obtain ⟨g0, g1, rfl, h0⟩ := hI
    unfold PX0_init_46_b
    simp (disch := omega) only [zI_lit, zI_neg, zI_add, zI_sub, zI_mul, zI_div, q_md, zI_lt, zI_le, zI_eq, zI_clamp, zI_vp, forall_eq, mb_u_eq, mb_u_ne, upd_eq, q_if, q_ifn, if_pos, if_neg, true_and, and_true, if_true, if_false]
    exact hr _ ⟨mr_app g0 h0 rfl (fun _ _ _ => rfl), mr_ne _ g1 (by decide), rfl, by omega⟩
  · rintro ⟨M1, y⟩ r hI
    dsimp only at hI ⊢
    obtain ⟨g0, g1, rfl, h0⟩ := hI
    unfold PX0_init_46_b
    simp (disch := omega) only [zI_lit, zI_neg, zI_add, zI_sub, zI_mul, zI_div, q_md, zI_lt, zI_le, zI_eq, zI_clamp, zI_vp, forall_eq, mb_u_eq, mb_u_ne, upd_eq, q_if, q_ifn, if_pos, if_neg, true_and, and_true, if_true, if_false]
    exact hK M1 g0 g1
  · exact ⟨mr_0 _ _ _, fun _ _ _ => rfl, rfl, by omega⟩
