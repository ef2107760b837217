

theorem tr_zero {g st : Int} {mv : Int → Int} (hg : 1 ≤ g) (hs : 3 ≤ st ∧ st ≤ 6) : ∀ {n : Nat}, tv g st mv n → ∀ k : Int, 0 ≤ k → st - 1 ≤ k % 5 → (tr mv n).1 k = 0
  | 0, _ => fun k _ _ => rfl
  | n + 1, h => by
    intro k k0 k1
    have ih := tr_zero hg hs (fun j hj => h j (by omega) : tv g st mv n) k k0 k1
    have hok := h n (by omega)
    have hrg := tr_rng hg hs.1 (fun j hj => h j (by omega) : tv g st mv n)
    obtain ⟨a1, a2, a3, a4, a5, a6, a7, a8, a9, a10⟩ := hrg
    obtain ⟨b1, b2, b3, b4, b5, b6⟩ := hok
    show (tstep (tr mv n) (mv n)).1 k = 0
    unfold tstep
    split
    · rename_i e
      have := b3 e
      (try dsimp only)
      rw [if_neg (by omega)]; exact ih
    · split
      · rename_i e
        have := b4 e
        (try dsimp only)
        rw [if_neg (by omega)]; exact ih
      · (repeat' split) <;> exact ih
/-- the greatest of the first numbers -/
def mxI (f : Int → Int) : Nat → Int
  | 0 => 0
  | n + 1 => if mxI f n < f n then f n else mxI f n
theorem mxI_step (f : Int → Int) {i : Int} (h : 0 ≤ i) : mxI f (i + 1).toNat = if mxI f i.toNat < f i then f i else mxI f i.toNat := by
  have e : (i + 1).toNat = i.toNat + 1 := by omega
  have e2 : (i.toNat : Int) = i := by omega
  rw [e]
  show (if mxI f i.toNat < f (i.toNat : Int) then f (i.toNat : Int) else mxI f i.toNat) = _
  rw [e2]
theorem mxI_rng {f : Int → Int} {b : Int} (hb : 0 ≤ b) : ∀ {n : Nat}, (∀ k : Int, 0 ≤ k → k < n → 0 ≤ f k ∧ f k ≤ b) → 0 ≤ mxI f n ∧ mxI f n ≤ b
  | 0, _ => ⟨Int.le_refl _, hb⟩
  | n + 1, h => by
    have h1 := mxI_rng hb (n := n) (fun k h1 h2 => h k h1 (by omega))
    have h2 := h n (by omega) (by omega)
    show 0 ≤ (if mxI f n < f n then f n else mxI f n) ∧ (if mxI f n < f n then f n else mxI f n) ≤ b
    split <;> omega
theorem mxI_zero {f : Int → Int} {m : Nat} (hz : ∀ k : Int, m ≤ k → k < 5 → f k = 0) (hp : ∀ k : Int, 0 ≤ k → 0 ≤ f k) : ∀ {n : Nat}, n ≤ 5 → m ≤ n → mxI f n = mxI f m
  | 0, _, h => by rw [show m = 0 by omega]
  | n + 1, h5, h => by
    by_cases e : m = n + 1
    · rw [e]
    · have ih := mxI_zero hz hp (n := n) (by omega) (by omega)
      have z := hz n (by omega) (by omega)
      have h0 := mxI_rng (f := f) (b := mxI f n) (n := n)
      show (if mxI f n < f n then f n else mxI f n) = mxI f m
      rw [z, if_neg, ih]
      have nn : ∀ j : Nat, 0 ≤ mxI f j := by
        intro j
        induction j with
        | zero => exact Int.le_refl _
        | succ j hj =>
          show 0 ≤ (if mxI f j < f j then f j else mxI f j)
          split
          · exact hp j (by omega)
          · exact hj
      have := nn n
      omega
theorem q_ite {c : Prop} [Decidable c] {a b : Int} : (if c then zI a else zI b) = zI (if c then a else b) := by split <;> rfl
/-- a third of the swelling -/
def swI (f : Int → Int) (n : Nat) : Int := sI (fun k => mxI (fun p => f (5 * k + p)) 5) n
theorem swI_rng {f : Int → Int} (hf : ∀ k, 0 ≤ f k ∧ f k ≤ 200) (n : Nat) (hn : n ≤ 8) : 0 ≤ swI f n ∧ swI f n ≤ 1600 := by
  have := sI_rng (f := fun k => mxI (fun p => f (5 * k + p)) 5) (a := 0) (b := 200) (n := n) (fun k _ _ => mxI_rng (by omega) (fun p _ _ => hf _))
  unfold swI
  omega
theorem e_most {N : Nat} {M : mb_m} {f : Int → Int} {st g : Int} {K : Int32 → mb_m → Prop} (hN : 700 ≤ N) (h : mr M 2 f 40) (h1 : m1 M 1 st) (hf : ∀ k, 0 ≤ f k ∧ f k ≤ 200) (hz : ∀ k : Int, 0 ≤ k → st - 1 ≤ k % 5 → f k = 0) (hg : 0 ≤ g ∧ g < 8) (hs : 3 ≤ st ∧ st ≤ 6)
    (hK : K (zI (mxI (fun p => f (5 * g + p)) 5)) M) : PX4_mostStitches N M (zI g) K := by
  refine (q_for (σ := mb_m × Int32 × Int32 × Int32) (fun n s => PX4_mostStitches_4 N K n s.1 s.2.1 s.2.2.1 s.2.2.2) (fun r0 s => PX4_mostStitches_4_b N K (fun a0 a1 a2 a3 => r0 (a0, a1, a2, a3)) s.1 s.2.1 s.2.2.1 s.2.2.2) (fun _ _ => rfl))
    (fun i s => s.1 = M ∧ s.2.1 = zI g ∧ s.2.2.1 = zI (mxI (fun p => f (5 * g + p)) i.toNat) ∧ s.2.2.2 = zI i ∧ 0 ≤ i) (st - 1) ?_ ?_ N 0 (M, _, _, _) (by omega) (by omega) ?_
  · rintro i ⟨M1, y1, y2, y3⟩ r hi hI hr
    dsimp only at hI hr ⊢
    obtain ⟨rfl, rfl, rfl, rfl, h0⟩ := hI
    have w1 : M1 1 0 = zI st := h1
    have hfi := hf (5 * g + i)
    have hc := mxI_rng (f := fun p => f (5 * g + p)) (b := 200) (n := i.toNat) (by omega) (fun k _ _ => hf _)
    unfold PX4_mostStitches_4_b
    simp (disch := omega) only [zI_lit, zI_neg, zI_add, zI_sub, zI_mul, zI_div, q_md, zI_lt, zI_le, zI_eq, zI_clamp, zI_vp, forall_eq, mb_u_eq, mb_u_ne, upd_eq, q_if, q_ifn, if_pos, if_neg, true_and, and_true, if_true, if_false, w1, q_stitchesAt h hg, q_ite]
    exact hr _ ⟨rfl, rfl, by (try dsimp only); rw [mxI_step _ h0], rfl, by omega⟩
  · rintro ⟨M1, y1, y2, y3⟩ r hI
    dsimp only at hI ⊢
    obtain ⟨rfl, rfl, rfl, rfl, h0⟩ := hI
    have w1 : M1 1 0 = zI st := h1
    unfold PX4_mostStitches_4_b
    simp (disch := omega) only [zI_lit, zI_neg, zI_add, zI_sub, zI_mul, zI_div, q_md, zI_lt, zI_le, zI_eq, zI_clamp, zI_vp, forall_eq, mb_u_eq, mb_u_ne, upd_eq, q_if, q_ifn, if_pos, if_neg, true_and, and_true, if_true, if_false, w1]
    rw [mxI_zero (f := fun p => f (5 * g + p)) (m := (st - 1).toNat) (n := 5) (fun k k1 k2 => hz _ (by omega) (by omega)) (fun k _ => (hf _).1) (by omega) (by omega)] at hK
    exact hK
  · exact ⟨rfl, rfl, rfl, rfl, by omega⟩
theorem e_swell {N : Nat} {M : mb_m} {f : Int → Int} {st g : Int} {K : Int32 → mb_m → Prop} (hN : 700 ≤ N) (h : mr M 2 f 40) (h0 : m1 M 0 g) (h1 : m1 M 1 st) (hf : ∀ k, 0 ≤ f k ∧ f k ≤ 200) (hz : ∀ k : Int, 0 ≤ k → st - 1 ≤ k % 5 → f k = 0) (hg : 1 ≤ g ∧ g ≤ 8) (hs : 3 ≤ st ∧ st ≤ 6)
    (hK : K (zI (3 * swI f g.toNat)) M) : PX4_swell N M K := by
  refine (q_for (σ := mb_m × Int32 × Int32) (fun n s => PX4_swell_4 N K n s.1 s.2.1 s.2.2) (fun r0 s => PX4_swell_4_b N K (fun a0 a1 a2 => r0 (a0, a1, a2)) s.1 s.2.1 s.2.2) (fun _ _ => rfl))
    (fun i s => s.1 = M ∧ s.2.1 = zI (swI f i.toNat) ∧ s.2.2 = zI i ∧ 0 ≤ i) g ?_ ?_ N 0 (M, _, _) (by omega) (by omega) ?_
  · rintro i ⟨M1, y1, y2⟩ r hi hI hr
    dsimp only at hI hr ⊢
    obtain ⟨rfl, rfl, rfl, z0⟩ := hI
    have w0 : M1 0 0 = zI g := h0
    unfold PX4_swell_4_b
    simp (disch := omega) only [zI_lit, zI_neg, zI_add, zI_sub, zI_mul, zI_div, q_md, zI_lt, zI_le, zI_eq, zI_clamp, zI_vp, forall_eq, mb_u_eq, mb_u_ne, upd_eq, q_if, q_ifn, if_pos, if_neg, true_and, and_true, if_true, if_false, w0]
    refine e_most hN h h1 hf hz (by omega) hs ?_
    simp (disch := omega) only [zI_lit, zI_neg, zI_add, zI_sub, zI_mul, zI_div, q_md, zI_lt, zI_le, zI_eq, zI_clamp, zI_vp, forall_eq, mb_u_eq, mb_u_ne, upd_eq, q_if, q_ifn, if_pos, if_neg, true_and, and_true, if_true, if_false]
    exact hr _ ⟨rfl, by (try dsimp only); unfold swI; rw [sI_step _ z0], rfl, by omega⟩
  · rintro ⟨M1, y1, y2⟩ r hI
    dsimp only at hI ⊢
    obtain ⟨rfl, rfl, rfl, z0⟩ := hI
    have w0 : M1 0 0 = zI g := h0
    unfold PX4_swell_4_b
    simp (disch := omega) only [zI_lit, zI_neg, zI_add, zI_sub, zI_mul, zI_div, q_md, zI_lt, zI_le, zI_eq, zI_clamp, zI_vp, forall_eq, mb_u_eq, mb_u_ne, upd_eq, q_if, q_ifn, if_pos, if_neg, true_and, and_true, if_true, if_false, w0]
    exact hK
  · exact ⟨rfl, rfl, rfl, by omega⟩
