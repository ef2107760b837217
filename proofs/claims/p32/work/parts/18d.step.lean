theorem e_init5 {N : Nat} {t : Int} {K : mb_m → Prop} (hN : 700 ≤ N) (hK : ∀ M', mr M' 0 (fun _ => t) 64 → K M') : PX5_init N (zI t) K := by
  refine (q_for (σ := mb_m × Int32 × Int32) (fun n s => PX5_init_14 N K n s.1 s.2.1 s.2.2) (fun r0 s => PX5_init_14_b N K (fun a0 a1 a2 => r0 (a0, a1, a2)) s.1 s.2.1 s.2.2) (fun _ _ => rfl))
    (fun i s => mr s.1 0 (fun _ => t) i ∧ s.2.1 = zI t ∧ s.2.2 = zI i ∧ 0 ≤ i) 64 ?_ ?_ N 0 (mb_z, _, _) (by omega) (by omega) ?_
  · rintro i ⟨M1, y, z⟩ r hi hI hr
    dsimp only at hI hr ⊢
    obtain ⟨h1, rfl, rfl, h0⟩ := hI
    unfold PX5_init_14_b
    simp (disch := omega) only [zI_lit, zI_neg, zI_add, zI_sub, zI_mul, zI_div, q_md, zI_lt, zI_le, zI_eq, zI_clamp, zI_vp, forall_eq, mb_u_eq, mb_u_ne, upd_eq, q_if, q_ifn, if_pos, if_neg, true_and, and_true, if_true, if_false]
    exact hr _ ⟨mr_app h1 h0 rfl (fun _ _ _ => rfl), rfl, rfl, by omega⟩
  · rintro ⟨M1, y, z⟩ r hI
    dsimp only at hI ⊢
    obtain ⟨h1, rfl, rfl, h0⟩ := hI
    unfold PX5_init_14_b
    simp (disch := omega) only [zI_lit, zI_neg, zI_add, zI_sub, zI_mul, zI_div, q_md, zI_lt, zI_le, zI_eq, zI_clamp, zI_vp, forall_eq, mb_u_eq, mb_u_ne, upd_eq, q_if, q_ifn, if_pos, if_neg, true_and, and_true, if_true, if_false]
    exact hK M1 h1
  · exact ⟨mr_0 _ _ _, rfl, rfl, by omega⟩
/-- the places of a field -/
abbrev fld (a b c d k : Int) : Prop := (a ≤ k % 8 ∧ k % 8 ≤ b) ∧ c ≤ k / 8 ∧ k / 8 ≤ d
def okF (a b c d : Int) : Prop := 0 ≤ a ∧ a ≤ b ∧ b ≤ 7 ∧ 0 ≤ c ∧ c ≤ d ∧ d ≤ 7
def mnI (a b c d : Int) (f : Int → Int) (v : Int) : Prop := (∀ k, 0 ≤ k → k < 64 → fld a b c d k → v ≤ f k) ∧ (∃ k, 0 ≤ k ∧ k < 64 ∧ fld a b c d k ∧ f k = v)
theorem mnI_one {a b c d v w : Int} {f : Int → Int} (h : mnI a b c d f v) (g : mnI a b c d f w) : v = w := by
  obtain ⟨h1, k, k1, k2, k3, k4⟩ := h
  obtain ⟨g1, j, j1, j2, j3, j4⟩ := g
  have := h1 j j1 j2 j3
  have := g1 k k1 k2 k3
  omega
def thF (a b c d y : Int) (f : Int → Int) (k : Int) : Int := if fld a b c d k then f k - y else f k
theorem mnI_th {a b c d v y : Int} {f : Int → Int} (h : mnI a b c d f v) : mnI a b c d (thF a b c d y f) (v - y) := by
  obtain ⟨h1, k, k1, k2, k3, k4⟩ := h
  refine ⟨fun j j1 j2 j3 => ?_, k, k1, k2, k3, ?_⟩
  · have := h1 j j1 j2 j3
    unfold thF; rw [if_pos j3]; omega
  · unfold thF; rw [if_pos k3]; omega
theorem e_thinnest {N : Nat} {M : mb_m} {f : Int → Int} {a b c d : Int} {K : Int32 → mb_m → Prop} (hN : 700 ≤ N) (ho : okF a b c d) (h : mr M 0 f 64) (hf : ∀ k : Int, 0 ≤ k → k < 64 → 3 ≤ f k ∧ f k ≤ 30)
    (hK : ∀ v, 3 ≤ v → v ≤ 30 → mnI a b c d f v → K (zI v) M) : PX5_thinnest N M (zI a) (zI b) (zI c) (zI d) K := by
  obtain ⟨o1, o2, o3, o4, o5, o6⟩ := ho
  refine (q_for (σ := mb_m × Int32 × Int32 × Int32 × Int32 × Int32) (fun n s => PX5_thinnest_7 N K n s.1 s.2.1 s.2.2.1 s.2.2.2.1 s.2.2.2.2.1 s.2.2.2.2.2) (fun r0 s => PX5_thinnest_7_b N K (fun a0 a1 a2 a3 a4 a5 => r0 (a0, a1, a2, a3, a4, a5)) s.1 s.2.1 s.2.2.1 s.2.2.2.1 s.2.2.2.2.1 s.2.2.2.2.2) (fun _ _ => rfl))
    (fun i s => s.1 = M ∧ s.2.1 = zI a ∧ s.2.2.1 = zI b ∧ s.2.2.2.1 = zI d ∧ (∃ v, s.2.2.2.2.1 = zI v ∧ 3 ≤ v ∧ v ≤ 30 ∧ (∀ k, 0 ≤ k → k < 64 → fld a b c d k → k / 8 < i → v ≤ f k) ∧ (v = 30 ∨ ∃ k, 0 ≤ k ∧ k < 64 ∧ fld a b c d k ∧ f k = v)) ∧ s.2.2.2.2.2 = zI i ∧ c ≤ i) (d + 1) ?_ ?_ N c (M, _, _, _, _, _) (by omega) (by omega) ?_
  · rintro i ⟨M1, x1, x2, x3, x4, x5⟩ r hi hI hr
    dsimp only at hI hr ⊢
    obtain ⟨rfl, rfl, rfl, rfl, ⟨v, rfl, v1, v2, v3, v4⟩, rfl, h0⟩ := hI
    unfold PX5_thinnest_7_b
    simp (disch := omega) only [zI_lit, zI_neg, zI_add, zI_sub, zI_mul, zI_div, q_md, zI_lt, zI_le, zI_eq, zI_clamp, zI_vp, forall_eq, mb_u_eq, mb_u_ne, upd_eq, q_if, q_ifn, if_pos, if_neg, true_and, and_true, if_true, if_false]
    refine (q_for (σ := mb_m × Int32 × Int32 × Int32 × Int32 × Int32 × Int32) (fun n s => PX5_thinnest_17 N K (fun b0 b1 b2 b3 b4 b5 => r (b0, b1, b2, b3, b4, b5)) n s.1 s.2.1 s.2.2.1 s.2.2.2.1 s.2.2.2.2.1 s.2.2.2.2.2.1 s.2.2.2.2.2.2) (fun r0 s => PX5_thinnest_17_b N K (fun b0 b1 b2 b3 b4 b5 => r (b0, b1, b2, b3, b4, b5)) (fun a0 a1 a2 a3 a4 a5 a6 => r0 (a0, a1, a2, a3, a4, a5, a6)) s.1 s.2.1 s.2.2.1 s.2.2.2.1 s.2.2.2.2.1 s.2.2.2.2.2.1 s.2.2.2.2.2.2) (fun _ _ => rfl))
      (fun j s => s.1 = M1 ∧ s.2.1 = zI a ∧ s.2.2.1 = zI b ∧ s.2.2.2.1 = zI d ∧ (∃ v, s.2.2.2.2.1 = zI v ∧ 3 ≤ v ∧ v ≤ 30 ∧ (∀ k, 0 ≤ k → k < 64 → fld a b c d k → (k / 8 < i ∨ k / 8 = i ∧ k % 8 < j) → v ≤ f k) ∧ (v = 30 ∨ ∃ k, 0 ≤ k ∧ k < 64 ∧ fld a b c d k ∧ f k = v)) ∧ s.2.2.2.2.2.1 = zI i ∧ s.2.2.2.2.2.2 = zI j ∧ a ≤ j) (b + 1) ?_ ?_ N a (M1, _, _, _, _, _, _) (by omega) (by omega) ?_
    · rintro j ⟨M2, y1, y2, y3, y4, y5, y6⟩ r2 hj hI hr2
      dsimp only at hI hr2 ⊢
      obtain ⟨rfl, rfl, rfl, rfl, ⟨w, rfl, w1, w2, w3, w4⟩, rfl, rfl, j0⟩ := hI
      have u := h (i * 8 + j) (by omega) (by omega)
      have hb := hf (i * 8 + j) (by omega) (by omega)
      unfold PX5_thinnest_17_b
      simp (disch := omega) only [zI_lit, zI_neg, zI_add, zI_sub, zI_mul, zI_div, q_md, zI_lt, zI_le, zI_eq, zI_clamp, zI_vp, forall_eq, mb_u_eq, mb_u_ne, upd_eq, q_if, q_ifn, if_pos, if_neg, true_and, and_true, if_true, if_false, q_cellOf, u]
      refine hr2 _ ⟨rfl, rfl, rfl, rfl, ?_, rfl, rfl, by omega⟩
      have hk : ∀ k : Int, 0 ≤ k → k < 64 → fld a b c d k → (k / 8 < i ∨ k / 8 = i ∧ k % 8 < j + 1) → k = i * 8 + j ∨ (k / 8 < i ∨ k / 8 = i ∧ k % 8 < j) := fun k _ _ _ _ => by omega
      by_cases hlt : f (i * 8 + j) < w
      · refine ⟨f (i * 8 + j), by (try dsimp only); rw [if_pos hlt], hb.1, hb.2, fun k k1 k2 k3 k4 => ?_, Or.inr ⟨i * 8 + j, by omega, by omega, by (refine ⟨⟨?_, ?_⟩, ?_, ?_⟩ <;> omega), rfl⟩⟩
        rcases hk k k1 k2 k3 k4 with e | e
        · rw [e]; exact Int.le_refl _
        · have := w3 k k1 k2 k3 e; omega
      · refine ⟨w, by (try dsimp only); rw [if_neg hlt], w1, w2, fun k k1 k2 k3 k4 => ?_, w4⟩
        rcases hk k k1 k2 k3 k4 with e | e
        · rw [e]; omega
        · exact w3 k k1 k2 k3 e
    · rintro ⟨M2, y1, y2, y3, y4, y5, y6⟩ r2 hI
      dsimp only at hI ⊢
      obtain ⟨rfl, rfl, rfl, rfl, ⟨w, rfl, w1, w2, w3, w4⟩, rfl, rfl, j0⟩ := hI
      unfold PX5_thinnest_17_b
      simp (disch := omega) only [zI_lit, zI_neg, zI_add, zI_sub, zI_mul, zI_div, q_md, zI_lt, zI_le, zI_eq, zI_clamp, zI_vp, forall_eq, mb_u_eq, mb_u_ne, upd_eq, q_if, q_ifn, if_pos, if_neg, true_and, and_true, if_true, if_false]
      exact hr _ ⟨rfl, rfl, rfl, rfl, ⟨w, rfl, w1, w2, fun k k1 k2 k3 k4 => w3 k k1 k2 k3 (by have := k3.1.2; omega), w4⟩, rfl, by omega⟩
    · exact ⟨rfl, rfl, rfl, rfl, ⟨v, rfl, v1, v2, fun k k1 k2 k3 k4 => v3 k k1 k2 k3 (by have := k3.1.1; omega), v4⟩, rfl, rfl, by omega⟩
  · rintro ⟨M1, x1, x2, x3, x4, x5⟩ r hI
    dsimp only at hI ⊢
    obtain ⟨rfl, rfl, rfl, rfl, ⟨v, rfl, v1, v2, v3, v4⟩, rfl, h0⟩ := hI
    unfold PX5_thinnest_7_b
    simp (disch := omega) only [zI_lit, zI_neg, zI_add, zI_sub, zI_mul, zI_div, q_md, zI_lt, zI_le, zI_eq, zI_clamp, zI_vp, forall_eq, mb_u_eq, mb_u_ne, upd_eq, q_if, q_ifn, if_pos, if_neg, true_and, and_true, if_true, if_false]
    refine hK v v1 v2 ⟨fun k k1 k2 k3 => v3 k k1 k2 k3 (by have := k3.2.2; omega), ?_⟩
    rcases v4 with e | e
    · refine ⟨c * 8 + a, by omega, by omega, by (refine ⟨⟨?_, ?_⟩, ?_, ?_⟩ <;> omega), ?_⟩
      have := hf (c * 8 + a) (by omega) (by omega)
      have := v3 (c * 8 + a) (by omega) (by omega) (by (refine ⟨⟨?_, ?_⟩, ?_, ?_⟩ <;> omega)) (by omega)
      omega
    · exact e
  · exact ⟨rfl, rfl, rfl, rfl, ⟨30, rfl, by omega, by omega, fun k k1 k2 k3 k4 => by have := k3.2.1; omega, Or.inl rfl⟩, rfl, by omega⟩
theorem e_thin {N : Nat} {M : mb_m} {f : Int → Int} {a b c d y : Int} {K : mb_m → Prop} (hN : 700 ≤ N) (ho : okF a b c d) (hy : 0 ≤ y ∧ y ≤ 27) (h : mr M 0 f 64) (hf : ∀ k : Int, 0 ≤ k → k < 64 → 3 ≤ f k ∧ f k ≤ 30)
    (hK : ∀ M', mr M' 0 (thF a b c d y f) 64 → K M') : PX5_thin N M (zI a) (zI b) (zI c) (zI d) (zI y) K := by
  obtain ⟨o1, o2, o3, o4, o5, o6⟩ := ho
  refine (q_for (σ := mb_m × Int32 × Int32 × Int32 × Int32 × Int32) (fun n s => PX5_thin_3 N K n s.1 s.2.1 s.2.2.1 s.2.2.2.1 s.2.2.2.2.1 s.2.2.2.2.2) (fun r0 s => PX5_thin_3_b N K (fun a0 a1 a2 a3 a4 a5 => r0 (a0, a1, a2, a3, a4, a5)) s.1 s.2.1 s.2.2.1 s.2.2.2.1 s.2.2.2.2.1 s.2.2.2.2.2) (fun _ _ => rfl))
    (fun i s => mr s.1 0 (fun k => if k / 8 < i then thF a b c d y f k else f k) 64 ∧ s.2.1 = zI a ∧ s.2.2.1 = zI b ∧ s.2.2.2.1 = zI d ∧ s.2.2.2.2.1 = zI y ∧ s.2.2.2.2.2 = zI i ∧ c ≤ i) (d + 1) ?_ ?_ N c (M, _, _, _, _, _) (by omega) (by omega) ?_
  · rintro i ⟨M1, x1, x2, x3, x4, x5⟩ r hi hI hr
    dsimp only at hI hr ⊢
    obtain ⟨h1, rfl, rfl, rfl, rfl, rfl, h0⟩ := hI
    unfold PX5_thin_3_b
    simp (disch := omega) only [zI_lit, zI_neg, zI_add, zI_sub, zI_mul, zI_div, q_md, zI_lt, zI_le, zI_eq, zI_clamp, zI_vp, forall_eq, mb_u_eq, mb_u_ne, upd_eq, q_if, q_ifn, if_pos, if_neg, true_and, and_true, if_true, if_false]
    refine (q_for (σ := mb_m × Int32 × Int32 × Int32 × Int32 × Int32 × Int32) (fun n s => PX5_thin_13 N K (fun b0 b1 b2 b3 b4 b5 => r (b0, b1, b2, b3, b4, b5)) n s.1 s.2.1 s.2.2.1 s.2.2.2.1 s.2.2.2.2.1 s.2.2.2.2.2.1 s.2.2.2.2.2.2) (fun r0 s => PX5_thin_13_b N K (fun b0 b1 b2 b3 b4 b5 => r (b0, b1, b2, b3, b4, b5)) (fun a0 a1 a2 a3 a4 a5 a6 => r0 (a0, a1, a2, a3, a4, a5, a6)) s.1 s.2.1 s.2.2.1 s.2.2.2.1 s.2.2.2.2.1 s.2.2.2.2.2.1 s.2.2.2.2.2.2) (fun _ _ => rfl))
      (fun j s => mr s.1 0 (fun k => if k / 8 < i ∨ k / 8 = i ∧ k % 8 < j then thF a b c d y f k else f k) 64 ∧ s.2.1 = zI a ∧ s.2.2.1 = zI b ∧ s.2.2.2.1 = zI d ∧ s.2.2.2.2.1 = zI y ∧ s.2.2.2.2.2.1 = zI i ∧ s.2.2.2.2.2.2 = zI j ∧ a ≤ j) (b + 1) ?_ ?_ N a (M1, _, _, _, _, _, _) (by omega) (by omega) ?_
    · rintro j ⟨M2, y1, y2, y3, y4, y5, y6⟩ r2 hj hI hr2
      dsimp only at hI hr2 ⊢
      obtain ⟨g1, rfl, rfl, rfl, rfl, rfl, rfl, j0⟩ := hI
      have u := g1 (i * 8 + j) (by omega) (by omega)
      (try dsimp only at u)
      rw [if_neg (by omega)] at u
      have hb := hf (i * 8 + j) (by omega) (by omega)
      unfold PX5_thin_13_b
      simp (disch := omega) only [zI_lit, zI_neg, zI_add, zI_sub, zI_mul, zI_div, q_md, zI_lt, zI_le, zI_eq, zI_clamp, zI_vp, forall_eq, mb_u_eq, mb_u_ne, upd_eq, q_if, q_ifn, if_pos, if_neg, true_and, and_true, if_true, if_false, q_cellOf, u]
      refine hr2 _ ⟨mr_up g1 (by omega) (by omega) ?_ (fun k k1 k2 k3 => ?_), rfl, rfl, rfl, rfl, rfl, rfl, by omega⟩
      · (try dsimp only)
        rw [if_pos (by omega), thF, if_pos (by (refine ⟨⟨?_, ?_⟩, ?_, ?_⟩ <;> omega))]
      · (try dsimp only)
        by_cases e : k / 8 < i ∨ k / 8 = i ∧ k % 8 < j
        · rw [if_pos e, if_pos (by omega)]
        · rw [if_neg e, if_neg (by omega)]
    · rintro ⟨M2, y1, y2, y3, y4, y5, y6⟩ r2 hI
      dsimp only at hI ⊢
      obtain ⟨g1, rfl, rfl, rfl, rfl, rfl, rfl, j0⟩ := hI
      unfold PX5_thin_13_b
      simp (disch := omega) only [zI_lit, zI_neg, zI_add, zI_sub, zI_mul, zI_div, q_md, zI_lt, zI_le, zI_eq, zI_clamp, zI_vp, forall_eq, mb_u_eq, mb_u_ne, upd_eq, q_if, q_ifn, if_pos, if_neg, true_and, and_true, if_true, if_false]
      refine hr _ ⟨mr_cong g1 (fun k k1 k2 => ?_), rfl, rfl, rfl, rfl, rfl, by omega⟩
      (try dsimp only)
      by_cases e : k / 8 < i ∨ k / 8 = i ∧ k % 8 < b + 1
      · rw [if_pos e, if_pos (by omega)]
      · rw [if_neg e]
        by_cases e2 : k / 8 < i + 1
        · rw [if_pos e2, thF, if_neg (fun z => by have := z.1.2; omega)]
        · rw [if_neg e2]
    · refine ⟨mr_cong h1 (fun k k1 k2 => ?_), rfl, rfl, rfl, rfl, rfl, rfl, by omega⟩
      (try dsimp only)
      by_cases e : k / 8 < i
      · rw [if_pos e, if_pos (by omega)]
      · rw [if_neg e]
        by_cases e2 : k / 8 < i ∨ k / 8 = i ∧ k % 8 < a
        · rw [if_pos e2, thF, if_neg (fun z => by have := z.1.1; omega)]
        · rw [if_neg e2]
  · rintro ⟨M1, x1, x2, x3, x4, x5⟩ r hI
    dsimp only at hI ⊢
    obtain ⟨h1, rfl, rfl, rfl, rfl, rfl, h0⟩ := hI
    unfold PX5_thin_3_b
    simp (disch := omega) only [zI_lit, zI_neg, zI_add, zI_sub, zI_mul, zI_div, q_md, zI_lt, zI_le, zI_eq, zI_clamp, zI_vp, forall_eq, mb_u_eq, mb_u_ne, upd_eq, q_if, q_ifn, if_pos, if_neg, true_and, and_true, if_true, if_false]
    refine hK M1 (mr_cong h1 (fun k k1 k2 => ?_))
    (try dsimp only)
    by_cases e : k / 8 < d + 1
    · rw [if_pos e]
    · rw [if_neg e, thF, if_neg (fun z => by have := z.2.2; omega)]
  · refine ⟨mr_cong h (fun k k1 k2 => ?_), rfl, rfl, rfl, rfl, rfl, by omega⟩
    (try dsimp only)
    by_cases e : k / 8 < c
    · rw [if_pos e, thF, if_neg (fun z => by have := z.2.1; omega)]
    · rw [if_neg e]

theorem b_pare {N : Nat} {M7 M2 : mb_m} {fK : Nat → Option Nat} {o2 : Nat} {f : Int → Int} {a1 a b c d y : Int} {K : Int32 → (mb_m × (Nat → Option Nat) × mb_m) → Prop} {KX : String → (mb_m × (Nat → Option Nat) × mb_m) → Prop} (hN : 700 ≤ N)
    (r1 : -2147483648 ≤ a1 ∧ a1 < 2147483648) (r2 : -2147483648 ≤ a ∧ a < 2147483648) (r3 : -2147483648 ≤ b ∧ b < 2147483648) (r4 : -2147483648 ≤ c ∧ c < 2147483648) (r5 : -2147483648 ≤ d ∧ d < 2147483648) (r6 : -2147483648 ≤ y ∧ y < 2147483648)
    (hs : fK a1.toNat = some o2) (h01 : 0 ≤ a1 ∧ a1 ≤ 2) (h : mr M2 0 f 64) (hf : ∀ k : Int, 0 ≤ k → k < 64 → 3 ≤ f k ∧ f k ≤ 30)
    (h1 : ¬ okF a b c d → KX eO (M7, fK, M2)) (h2 : okF a b c d → ¬ (1 ≤ y ∧ y ≤ 27) → KX eA (M7, fK, M2))
    (h3 : okF a b c d → 1 ≤ y ∧ y ≤ 27 → ∀ v, 3 ≤ v → v ≤ 30 → mnI a b c d f v → v - y < 3 → KX eS (M7, fK, M2))
    (h4 : okF a b c d → 1 ≤ y ∧ y ≤ 27 → ∀ v, 3 ≤ v → v ≤ 30 → mnI a b c d f v → ¬ v - y < 3 → ∀ M', mr M' 0 (thF a b c d y f) 64 → K (zI (v - y)) (M7, fK, M')) :
    PX7_pare N M7 fK o2 M2 (zI a1) (zI a) (zI b) (zI c) (zI d) (zI y) K KX := by
  unfold PX7_pare
  refine q_skinOf r1.1 r1.2 (fun o _ _ e => ?_) (fun e => absurd (e h01.1 h01.2) (by rw [hs]; exact fun z => by cases z))
  have e2 : o = o2 := by rw [hs] at e; exact (Option.some.inj e).symm
  have k41 : ¬ okF a b c d → PX7_pare_41 N K KX M7 fK M2 (zI a) (zI b) (zI c) (zI d) (zI y) := by
    intro z
    unfold PX7_pare_41 PX7_pare_42
    simp (disch := omega) only [zI_lit, zI_neg, zI_add, zI_sub, zI_mul, zI_div, q_md, zI_lt, zI_le, zI_eq, zI_clamp, zI_vp, forall_eq, mb_u_eq, mb_u_ne, upd_eq, q_if, q_ifn, if_pos, if_neg, true_and, and_true, if_true, if_false, q_demandPlace0]
    exact h1 z
  have k42 : okF a b c d → PX7_pare_42 N K KX M7 fK M2 (zI a) (zI b) (zI c) (zI d) (zI y) (zI 1) := by
    intro z
    unfold PX7_pare_42
    simp (disch := omega) only [zI_lit, zI_neg, zI_add, zI_sub, zI_mul, zI_div, q_md, zI_lt, zI_le, zI_eq, zI_clamp, zI_vp, forall_eq, mb_u_eq, mb_u_ne, upd_eq, q_demandPlace1, q_isWithin]
    by_cases cy : 1 ≤ y ∧ y ≤ 27
    · rw [if_pos cy]
      simp (disch := omega) only [zI_lit, zI_neg, zI_add, zI_sub, zI_mul, zI_div, q_md, zI_lt, zI_le, zI_eq, zI_clamp, zI_vp, forall_eq, mb_u_eq, mb_u_ne, upd_eq, q_demandArgument1]
      refine e_thinnest hN z h hf (fun v v1 v2 v3 => ?_)
      unfold PX7_pare_83
      simp (disch := omega) only [zI_lit, zI_neg, zI_add, zI_sub, zI_mul, zI_div, q_md, zI_lt, zI_le, zI_eq, zI_clamp, zI_vp, forall_eq, mb_u_eq, mb_u_ne, upd_eq, q_if, q_ifn, if_pos, if_neg, true_and, and_true, if_true, if_false, q_demandState0, q_demandState1]
      by_cases cv : v - y < 3
      · rw [if_pos cv]; exact h3 z cy v v1 v2 v3 cv
      · rw [if_neg cv]; exact e_thin hN z (by omega) h hf (fun M' hM' => h4 z cy v v1 v2 v3 cv M' hM')
    · rw [if_neg cy]
      simp (disch := omega) only [zI_lit, zI_neg, zI_add, zI_sub, zI_mul, zI_div, q_md, zI_lt, zI_le, zI_eq, zI_clamp, zI_vp, forall_eq, mb_u_eq, mb_u_ne, upd_eq, q_demandArgument0]
      exact h2 z cy
  unfold okF at k41 k42
  simp (disch := omega) only [zI_lit, zI_neg, zI_add, zI_sub, zI_mul, zI_div, q_md, zI_lt, zI_le, zI_eq, zI_clamp, zI_vp, forall_eq, mb_u_eq, mb_u_ne, upd_eq, q_if, q_ifn, if_pos, if_neg, true_and, and_true, if_true, if_false, q_isOnGrid]
  (repeat' split) <;> first | exact ⟨e2, k41 (by omega)⟩ | exact ⟨e2, k42 (by omega)⟩
theorem getElem_mid {α : Type} {L : List α} {i : Nat} {x y : α} (h : L[i]? = some x) : (L.take i ++ y :: L.drop (i + 1)).length = L.length ∧ (L.take i ++ y :: L.drop (i + 1))[i]? = some y ∧ ∀ j, j ≠ i → (L.take i ++ y :: L.drop (i + 1))[j]? = L[j]? := by
  obtain ⟨hi, -⟩ := List.getElem?_eq_some_iff.mp h
  have e : L.take i ++ y :: L.drop (i + 1) = L.set i y := by rw [List.set_eq_take_append_cons_drop, if_pos hi]
  rw [e]
  exact ⟨List.length_set, by rw [List.getElem?_set_self hi], fun j hj => List.getElem?_set_ne (fun z => hj z.symm)⟩
