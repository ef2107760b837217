theorem tv_app {g st mv : Int} {mw : Int → Int} {n : Nat} (h : tv g st mw n) (hk : tok g st (tr mw n) mv) : tv g st (fun k => if k = n then mv else mw k) (n + 1) := by
  have e : ∀ k : Int, 0 ≤ k → k < n → mw k = (fun k => if k = (n : Int) then mv else mw k) k := fun k _ k2 => by (try dsimp only); rw [if_neg (by omega)]
  intro j hj
  by_cases z : j = n
  · subst z
    (try dsimp only)
    rw [if_pos rfl, ← tr_cong (n := j) e]
    exact hk
  · (try dsimp only)
    rw [if_neg (by omega), ← tr_cong (n := j) (fun k k1 k2 => e k k1 (by omega))]
    exact h j (by omega)
theorem tr_app {mv : Int} {mw : Int → Int} {n : Nat} : tr (fun k => if k = n then mv else mw k) (n + 1) = tstep (tr mw n) mv := by
  show tstep (tr _ n) _ = _
  (try dsimp only)
  have e := tr_cong (mv := mw) (mv' := fun k => if k = (n : Int) then mv else mw k) (n := n) (fun k _ k2 => by (try dsimp only); rw [if_neg (by omega)])
  rw [if_pos rfl, ← e]
theorem q_opp {N : Nat} {mv : Int} {K : Int32 → Unit → Prop} (h : 0 ≤ mv ∧ mv ≤ 4) (hK : K (zI (opp mv)) ()) : PX4_opposite N (zI mv) K := by
  have hti : (zI mv).toInt = mv := zI_ti (by omega) (by omega)
  unfold PX4_opposite
  rw [hti]
  unfold opp at hK
  refine ⟨fun z => ?_, fun z => ?_, fun z => ?_, fun z => ?_, fun z => ?_⟩
  · rw [if_neg (by omega), if_neg (by omega), if_neg (by omega), if_neg (by omega)] at hK; exact hK
  · rw [if_pos z] at hK; exact hK
  · rw [if_neg (by omega), if_pos z] at hK; exact hK
  · rw [if_neg (by omega), if_neg (by omega), if_pos z] at hK; exact hK
  · rw [if_neg (by omega), if_neg (by omega), if_neg (by omega), if_pos z] at hK; exact hK
theorem e_takeBack {N : Nat} {M : mb_m} {g st n : Int} {mw : Int → Int} {K : mb_m → Prop} (hn : 1 ≤ n ∧ n ≤ 200) (hg : 1 ≤ g ∧ g ≤ 8) (hs : 3 ≤ st ∧ st ≤ 6) (hv : tv g st mw n.toNat) (h4 : mr M 4 mw n) (h5 : m1 M 5 n) (hb : Bs M (tr mw n.toNat))
    (hK : ∀ M', mf M M' (5 :: bsc) → m1 M' 5 (n - 1) → Bs M' (tr mw (n - 1).toNat) → K M') : PX4_takeBack N M K := by
  have w5 : M 5 0 = zI n := h5
  have e : ∀ x : Int, mb_c (zI x) 0 = zI x := fun _ => rfl
  have w4 := h4 (n - 1) (by omega) (by omega)
  have en : n.toNat = (n - 1).toNat + 1 := by omega
  have en2 : (((n - 1).toNat : Nat) : Int) = n - 1 := by omega
  have hok := hv (n - 1).toNat (by omega)
  rw [en2] at hok
  have hrg := tr_rng hg.1 hs.1 (fun j hj => hv j (by omega) : tv g st mw (n - 1).toNat)
  rw [en2] at hrg
  have hb2 : Bs M (tstep (tr mw (n - 1).toNat) (mw (n - 1))) := by
    rw [en] at hb
    have hb : Bs M (tstep (tr mw (n - 1).toNat) (mw (((n - 1).toNat : Nat) : Int))) := hb
    rwa [en2] at hb
  unfold PX4_takeBack
  simp (disch := omega) only [zI_lit, zI_neg, zI_add, zI_sub, zI_mul, zI_div, q_md, zI_lt, zI_le, zI_eq, zI_clamp, zI_vp, forall_eq, mb_u_eq, mb_u_ne, upd_eq, q_if, q_ifn, if_pos, if_neg, true_and, and_true, if_true, if_false, w5, e, w4]
  refine q_opp ⟨hok.1, hok.2.1⟩ ?_
  obtain ⟨g2, g3, g9, g6, g7, g8⟩ := hb2
  refine e_goB (n := n - 1) (t := tr mw (n - 1).toNat) ⟨mr_ne _ g2 (by decide), mr_ne _ g3 (by decide), m1_ne _ g9 (by decide), m1_ne _ g6 (by decide), m1_ne _ g7 (by decide), m1_ne _ g8 (by decide)⟩ hrg (by omega) hg.2 hs.2 hok (fun M' hf ht => ?_)
  exact hK M' (mf_tr (mf_u (mf_refl _ _) _ (by decide)) (mf_mono hf (by decide))) (mf_m1 hf (by decide) (m1_set _ _ _)) ht
theorem b_unsew {N : Nat} {M7 M2 M4 : mb_m} {f : Nat → Option Nat} {a g st n : Int} {mw : Int → Int} {K : Int32 → (mb_m × (Nat → Option Nat) × mb_m × mb_m) → Prop} {KX : String → (mb_m × (Nat → Option Nat) × mb_m × mb_m) → Prop} (hN : 700 ≤ N) (ha : 1 ≤ a ∧ a ≤ n) (hn : n ≤ 200) (hg : 1 ≤ g ∧ g ≤ 8) (hs : 3 ≤ st ∧ st ≤ 6) (hv : tv g st mw n.toNat) (h4 : mr M4 4 mw n) (h5 : m1 M4 5 n) (hb : Bs M4 (tr mw n.toNat))
    (hK : ∀ M', mf M4 M' (5 :: bsc) → m1 M' 5 (n - a) → Bs M' (tr mw (n - a).toNat) → K (zI (tr mw (n - a).toNat).2.2.1) (M7, f, M2, M')) : PX7_unsew_39 N K KX N M7 f M2 M4 (zI a) (zI 0) := by
  refine (q_for (σ := mb_m × (Nat → Option Nat) × mb_m × mb_m × Int32 × Int32) (fun n s => PX7_unsew_39 N K KX n s.1 s.2.1 s.2.2.1 s.2.2.2.1 s.2.2.2.2.1 s.2.2.2.2.2) (fun r0 s => PX7_unsew_39_b N K KX (fun a0 a1 a2 a3 a4 a5 => r0 (a0, a1, a2, a3, a4, a5)) s.1 s.2.1 s.2.2.1 s.2.2.2.1 s.2.2.2.2.1 s.2.2.2.2.2) (fun _ _ => rfl))
    (fun i s => mf M4 s.2.2.2.1 (5 :: bsc) ∧ m1 s.2.2.2.1 5 (n - i) ∧ Bs s.2.2.2.1 (tr mw (n - i).toNat) ∧ s.1 = M7 ∧ s.2.1 = f ∧ s.2.2.1 = M2 ∧ s.2.2.2.2.1 = zI a ∧ s.2.2.2.2.2 = zI i ∧ 0 ≤ i) a ?_ ?_ N 0 (M7, f, M2, M4, _, _) (by omega) (by omega) ?_
  · rintro i ⟨y1, y2, y3, M1, y4, y⟩ r hi hI hr
    dsimp only at hI hr ⊢
    obtain ⟨hf, g5, gb, rfl, rfl, rfl, rfl, rfl, h0⟩ := hI
    unfold PX7_unsew_39_b
    simp (disch := omega) only [zI_lit, zI_neg, zI_add, zI_sub, zI_mul, zI_div, q_md, zI_lt, zI_le, zI_eq, zI_clamp, zI_vp, forall_eq, mb_u_eq, mb_u_ne, upd_eq, q_if, q_ifn, if_pos, if_neg, true_and, and_true, if_true, if_false]
    refine e_takeBack (n := n - i) (by omega) hg hs (fun j hj => hv j (by omega)) (fun e e1 e2 => by rw [hf 4 (by decide)]; exact h4 e e1 (by omega)) g5 gb (fun M' hf' g5' gb' => ?_)
    (try simp (disch := omega) only [zI_lit, zI_neg, zI_add, zI_sub, zI_mul, zI_div, q_md, zI_lt, zI_le, zI_eq, zI_clamp, zI_vp, forall_eq, mb_u_eq, mb_u_ne, upd_eq, q_if, q_ifn, if_pos, if_neg, true_and, and_true, if_true, if_false])
    refine hr _ ⟨mf_tr hf hf', ?_, ?_, rfl, rfl, rfl, rfl, rfl, by omega⟩
    · rwa [show n - i - 1 = n - (i + 1) by omega] at g5'
    · rwa [show n - i - 1 = n - (i + 1) by omega] at gb'
  · rintro ⟨y1, y2, y3, M1, y4, y⟩ r hI
    dsimp only at hI ⊢
    obtain ⟨hf, g5, gb, rfl, rfl, rfl, rfl, rfl, h0⟩ := hI
    unfold PX7_unsew_39_b
    simp (disch := omega) only [zI_lit, zI_neg, zI_add, zI_sub, zI_mul, zI_div, q_md, zI_lt, zI_le, zI_eq, zI_clamp, zI_vp, forall_eq, mb_u_eq, mb_u_ne, upd_eq, q_if, q_ifn, if_pos, if_neg, true_and, and_true, if_true, if_false]
    have w9 : M1 9 0 = zI (tr mw (n - a).toNat).2.2.1 := gb.2.2.1
    rw [w9]
    exact hK M1 hf g5 gb
  · refine ⟨mf_refl _ _, ?_, ?_, rfl, rfl, rfl, rfl, rfl, by omega⟩
    · rwa [show n - 0 = n by omega]
    · rwa [show n - 0 = n by omega]

/-- how many parts of gathering g have a stitch -/
def hq (st : Int) (f : Int → Int) (g : Int) : Int := sI (fun p => qb (0 < f (5 * g + p))) (st - 1).toNat
theorem q_stitchesAt {N : Nat} {M : mb_m} {f : Int → Int} {g p : Int} {K : Int32 → mb_m → Prop} (h : mr M 2 f 40) (hg : 0 ≤ g ∧ g < 8) (hp : 0 ≤ p ∧ p ≤ 4) : PX4_stitchesAt N M (zI g) (zI p) K = K (zI (f (5 * g + p))) M := by
  have w := h (5 * g + p) (by omega) (by omega)
  rw [show 5 * g + p = g * 5 + p by omega] at w
  unfold PX4_stitchesAt
  simp (disch := omega) only [zI_lit, zI_neg, zI_add, zI_sub, zI_mul, zI_div, q_md, zI_lt, zI_le, zI_eq, zI_clamp, zI_vp, forall_eq, mb_u_eq, mb_u_ne, upd_eq, q_if, q_ifn, if_pos, if_neg, true_and, and_true, if_true, if_false, w]
  rw [show g * 5 + p = 5 * g + p by omega]
theorem e_holds {N : Nat} {M : mb_m} {f : Int → Int} {st g : Int} {K : Int32 → mb_m → Prop} (hN : 700 ≤ N) (h : mr M 2 f 40) (h1 : m1 M 1 st) (hf : ∀ k, 0 ≤ f k ∧ f k ≤ 200) (hg : 0 ≤ g ∧ g < 8) (hs : 3 ≤ st ∧ st ≤ 6)
    (k1 : st / 2 ≤ hq st f g → K (zI 1) M) (k0 : ¬ st / 2 ≤ hq st f g → K (zI 0) M) : PX4_holds N M (zI g) K := by
  refine (q_for (σ := mb_m × Int32 × Int32 × Int32) (fun n s => PX4_holds_4 N K n s.1 s.2.1 s.2.2.1 s.2.2.2) (fun r0 s => PX4_holds_4_b N K (fun a0 a1 a2 a3 => r0 (a0, a1, a2, a3)) s.1 s.2.1 s.2.2.1 s.2.2.2) (fun _ _ => rfl))
    (fun i s => s.1 = M ∧ s.2.1 = zI g ∧ s.2.2.1 = zI (sI (fun p => qb (0 < f (5 * g + p))) i.toNat) ∧ s.2.2.2 = zI i ∧ 0 ≤ i) (st - 1) ?_ ?_ N 0 (M, _, _, _) (by omega) (by omega) ?_
  · rintro i ⟨M1, y1, y2, y3⟩ r hi hI hr
    dsimp only at hI hr ⊢
    obtain ⟨rfl, rfl, rfl, rfl, h0⟩ := hI
    have w1 : M1 1 0 = zI st := h1
    have hc := sI_qb (fun p => 0 < f (5 * g + p)) i.toNat
    have hst := sI_step (fun p => qb (0 < f (5 * g + p))) h0
    have hfi := hf (5 * g + i)
    have key : ∀ y : Int, y = qb (0 < f (5 * g + i)) → r (M1, zI g, zI (sI (fun p => qb (0 < f (5 * g + p))) i.toNat + y), zI (i + 1)) := by
      intro y hy
      exact hr _ ⟨rfl, rfl, by (try dsimp only); rw [hst, hy], rfl, by omega⟩
    unfold PX4_holds_4_b PX4_holds_29
    simp (disch := omega) only [zI_lit, zI_neg, zI_add, zI_sub, zI_mul, zI_div, q_md, zI_lt, zI_le, zI_eq, zI_clamp, zI_vp, forall_eq, mb_u_eq, mb_u_ne, upd_eq, q_if, q_ifn, if_pos, if_neg, true_and, and_true, if_true, if_false, w1, q_stitchesAt h hg]
    split
    · exact key 0 (qb_f (by omega)).symm
    · exact key 1 (qb_t (by omega)).symm
  · rintro ⟨M1, y1, y2, y3⟩ r hI
    dsimp only at hI ⊢
    obtain ⟨rfl, rfl, rfl, rfl, h0⟩ := hI
    have w1 : M1 1 0 = zI st := h1
    have hc := sI_qb (fun p => 0 < f (5 * g + p)) (st - 1).toNat
    unfold PX4_holds_4_b
    simp (disch := omega) only [zI_lit, zI_neg, zI_add, zI_sub, zI_mul, zI_div, q_md, zI_lt, zI_le, zI_eq, zI_clamp, zI_vp, forall_eq, mb_u_eq, mb_u_ne, upd_eq, q_if, q_ifn, if_pos, if_neg, true_and, and_true, if_true, if_false, w1]
    split
    · exact k0 (by unfold hq; omega)
    · exact k1 (by unfold hq; omega)
  · exact ⟨rfl, rfl, rfl, rfl, by omega⟩
/-- a book is sewn -/
def swn (g st : Int) (t : ts) : Prop := t.2.2.2.2.2 = 0 ∧ (∀ k, 0 ≤ k → k < g → st / 2 ≤ hq st t.1 k) ∧ (∀ k, 0 ≤ k → k < g - 1 → 0 < t.2.1 k)
theorem e_isSewn {N : Nat} {M : mb_m} {t : ts} {g st n : Int} {K : Int32 → mb_m → Prop} (hN : 700 ≤ N) (hb : Bs M t) (hr : trg g st t n) (hn : 0 ≤ n ∧ n ≤ 200) (hg : 1 ≤ g ∧ g ≤ 8) (hs : 3 ≤ st ∧ st ≤ 6) (h0 : m1 M 0 g) (h1 : m1 M 1 st)
    (k1 : swn g st t → K (zI 1) M) (k0 : ¬ swn g st t → K (zI 0) M) : PX4_isSewn N M K := by
  obtain ⟨g2, g3, g9, g6, g7, g8⟩ := hb
  obtain ⟨a1, a2, a3, a4, a5, a6, a7, a8, a9, a10⟩ := hr
  have a9' : ∀ k, 0 ≤ t.1 k ∧ t.1 k ≤ 200 := fun k => by have := a9 k; omega
  have w8 : M 8 0 = zI t.2.2.2.2.2 := g8
  have L2 : ∀ b : Int, (b = 0 ∨ b = 1) → (b = 1 ↔ (t.2.2.2.2.2 = 0 ∧ (∀ k, 0 ≤ k → k < g → st / 2 ≤ hq st t.1 k))) → PX4_isSewn_49 N K N M (zI b) (zI 0) := by
    intro b hb1 hb2
    refine (q_for (σ := mb_m × Int32 × Int32) (fun n s => PX4_isSewn_49 N K n s.1 s.2.1 s.2.2) (fun r0 s => PX4_isSewn_49_b N K (fun a0 a1 a2 => r0 (a0, a1, a2)) s.1 s.2.1 s.2.2) (fun _ _ => rfl))
      (fun i s => s.1 = M ∧ (∃ b : Int, (b = 0 ∨ b = 1) ∧ (b = 1 ↔ (t.2.2.2.2.2 = 0 ∧ (∀ k, 0 ≤ k → k < g → st / 2 ≤ hq st t.1 k)) ∧ (∀ k, 0 ≤ k → k < i → 0 < t.2.1 k)) ∧ s.2.1 = zI b) ∧ s.2.2 = zI i ∧ 0 ≤ i) (g - 1) ?_ ?_ N 0 (M, _, _) (by omega) (by omega) ?_
    · rintro i ⟨M1, y1, y2⟩ r hi hI hr
      dsimp only at hI hr ⊢
      obtain ⟨rfl, ⟨b, b1, b2, rfl⟩, rfl, z0⟩ := hI
      have w0 : M1 0 0 = zI g := h0
      have w3 := g3 i z0 (by omega)
      have := a10 i
      unfold PX4_isSewn_49_b PX4_isSewn_85 PX4_isSewn_86
      simp (disch := omega) only [zI_lit, zI_neg, zI_add, zI_sub, zI_mul, zI_div, q_md, zI_lt, zI_le, zI_eq, zI_clamp, zI_vp, forall_eq, mb_u_eq, mb_u_ne, upd_eq, q_if, q_ifn, if_pos, if_neg, true_and, and_true, if_true, if_false, w0, w3]
      have f0 : ¬ (b = 1 ∧ 0 < t.2.1 i) → r (M1, zI 0, zI (i + 1)) := fun z => hr _ ⟨rfl, ⟨0, Or.inl rfl, ⟨fun e => by omega, fun e => absurd ⟨b2.mpr ⟨e.1, fun k k1 k2 => e.2 k k1 (by omega)⟩, e.2 i z0 (by omega)⟩ z⟩, rfl⟩, rfl, by omega⟩
      have f1 : b = 1 → 0 < t.2.1 i → r (M1, zI 1, zI (i + 1)) := fun z1 z2 => hr _ ⟨rfl, ⟨1, Or.inr rfl, ⟨fun _ => ⟨(b2.mp z1).1, fun k k1 k2 => by
        by_cases e : k = i
        · rw [e]; exact z2
        · exact (b2.mp z1).2 k k1 (by omega)⟩, fun _ => rfl⟩, rfl⟩, rfl, by omega⟩
      (repeat' split) <;> first | exact f0 (by omega) | exact f1 (by omega) (by omega)
    · rintro ⟨M1, y1, y2⟩ r hI
      dsimp only at hI ⊢
      obtain ⟨rfl, ⟨b, b1, b2, rfl⟩, rfl, z0⟩ := hI
      have w0 : M1 0 0 = zI g := h0
      unfold PX4_isSewn_49_b
      simp (disch := omega) only [zI_lit, zI_neg, zI_add, zI_sub, zI_mul, zI_div, q_md, zI_lt, zI_le, zI_eq, zI_clamp, zI_vp, forall_eq, mb_u_eq, mb_u_ne, upd_eq, q_if, q_ifn, if_pos, if_neg, true_and, and_true, if_true, if_false, w0]
      rcases b1 with rfl | rfl
      · exact ⟨Or.inl rfl, k0 (fun z => absurd (b2.mpr ⟨⟨z.1, z.2.1⟩, z.2.2⟩) (by omega))⟩
      · exact ⟨Or.inr rfl, k1 ⟨(b2.mp rfl).1.1, (b2.mp rfl).1.2, (b2.mp rfl).2⟩⟩
    · exact ⟨rfl, ⟨b, hb1, ⟨fun z => ⟨hb2.mp z, fun k k1 k2 => by omega⟩, fun z => hb2.mpr z.1⟩, rfl⟩, rfl, by omega⟩
  have L1 : ∀ b : Int, (b = 0 ∨ b = 1) → (b = 1 ↔ t.2.2.2.2.2 = 0) → PX4_isSewn_15 N K N M (zI b) (zI 0) := by
    intro b hb1 hb2
    refine (q_for (σ := mb_m × Int32 × Int32) (fun n s => PX4_isSewn_15 N K n s.1 s.2.1 s.2.2) (fun r0 s => PX4_isSewn_15_b N K (fun a0 a1 a2 => r0 (a0, a1, a2)) s.1 s.2.1 s.2.2) (fun _ _ => rfl))
      (fun i s => s.1 = M ∧ (∃ b : Int, (b = 0 ∨ b = 1) ∧ (b = 1 ↔ (t.2.2.2.2.2 = 0 ∧ (∀ k, 0 ≤ k → k < i → st / 2 ≤ hq st t.1 k))) ∧ s.2.1 = zI b) ∧ s.2.2 = zI i ∧ 0 ≤ i) g ?_ ?_ N 0 (M, _, _) (by omega) (by omega) ?_
    · rintro i ⟨M1, y1, y2⟩ r hi hI hr
      dsimp only at hI hr ⊢
      obtain ⟨rfl, ⟨b, b1, b2, rfl⟩, rfl, z0⟩ := hI
      have w0 : M1 0 0 = zI g := h0
      have f0 : ¬ (b = 1 ∧ st / 2 ≤ hq st t.1 i) → r (M1, zI 0, zI (i + 1)) := fun z => hr _ ⟨rfl, ⟨0, Or.inl rfl, ⟨fun e => by omega, fun e => absurd ⟨b2.mpr ⟨e.1, fun k k1 k2 => e.2 k k1 (by omega)⟩, e.2 i z0 (by omega)⟩ z⟩, rfl⟩, rfl, by omega⟩
      have f1 : b = 1 → st / 2 ≤ hq st t.1 i → r (M1, zI 1, zI (i + 1)) := fun z1 z2 => hr _ ⟨rfl, ⟨1, Or.inr rfl, ⟨fun _ => ⟨(b2.mp z1).1, fun k k1 k2 => by
        by_cases e : k = i
        · rw [e]; exact z2
        · exact (b2.mp z1).2 k k1 (by omega)⟩, fun _ => rfl⟩, rfl⟩, rfl, by omega⟩
      unfold PX4_isSewn_15_b PX4_isSewn_39 PX4_isSewn_40
      rcases b1 with rfl | rfl
      · simp (disch := omega) only [zI_lit, zI_neg, zI_add, zI_sub, zI_mul, zI_div, q_md, zI_lt, zI_le, zI_eq, zI_clamp, zI_vp, forall_eq, mb_u_eq, mb_u_ne, upd_eq, q_if, q_ifn, if_pos, if_neg, true_and, and_true, if_true, if_false, w0]
        exact f0 (by omega)
      · simp (disch := omega) only [zI_lit, zI_neg, zI_add, zI_sub, zI_mul, zI_div, q_md, zI_lt, zI_le, zI_eq, zI_clamp, zI_vp, forall_eq, mb_u_eq, mb_u_ne, upd_eq, q_if, q_ifn, if_pos, if_neg, true_and, and_true, if_true, if_false, w0]
        refine e_holds hN g2 h1 a9' (by omega) hs (fun z => ?_) (fun z => ?_)
        · simp (disch := omega) only [zI_lit, zI_neg, zI_add, zI_sub, zI_mul, zI_div, q_md, zI_lt, zI_le, zI_eq, zI_clamp, zI_vp, forall_eq, mb_u_eq, mb_u_ne, upd_eq, q_if, q_ifn, if_pos, if_neg, true_and, and_true, if_true, if_false]
          exact f1 rfl z
        · simp (disch := omega) only [zI_lit, zI_neg, zI_add, zI_sub, zI_mul, zI_div, q_md, zI_lt, zI_le, zI_eq, zI_clamp, zI_vp, forall_eq, mb_u_eq, mb_u_ne, upd_eq, q_if, q_ifn, if_pos, if_neg, true_and, and_true, if_true, if_false]
          exact f0 (fun e => z e.2)
    · rintro ⟨M1, y1, y2⟩ r hI
      dsimp only at hI ⊢
      obtain ⟨rfl, ⟨b, b1, b2, rfl⟩, rfl, z0⟩ := hI
      have w0 : M1 0 0 = zI g := h0
      unfold PX4_isSewn_15_b
      simp (disch := omega) only [zI_lit, zI_neg, zI_add, zI_sub, zI_mul, zI_div, q_md, zI_lt, zI_le, zI_eq, zI_clamp, zI_vp, forall_eq, mb_u_eq, mb_u_ne, upd_eq, q_if, q_ifn, if_pos, if_neg, true_and, and_true, if_true, if_false, w0]
      exact L2 b b1 b2
    · exact ⟨rfl, ⟨b, hb1, ⟨fun z => ⟨hb2.mp z, fun k k1 k2 => by omega⟩, fun z => hb2.mpr z.1⟩, rfl⟩, rfl, by omega⟩
  unfold PX4_isSewn PX4_isSewn_12
  simp (disch := omega) only [zI_lit, zI_neg, zI_add, zI_sub, zI_mul, zI_div, q_md, zI_lt, zI_le, zI_eq, zI_clamp, zI_vp, forall_eq, mb_u_eq, mb_u_ne, upd_eq, q_if, q_ifn, if_pos, if_neg, true_and, and_true, if_true, if_false, w8]
  split
  · exact L1 1 (by omega) (by omega)
  · exact L1 0 (by omega) (by omega)
