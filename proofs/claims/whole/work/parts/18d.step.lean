theorem e_init5 {N : Nat} {t : Int} {K : mb_m → Prop} (hN : 700 ≤ N) (hK : ∀ M', mr M' 0 (fun _ => t) 64 → K M') : PX5_init N (zI t) K := by
  refine (q_for (σ := mb_m × Int32 × Int32) (fun n s => PX5_init_14 N K n s.1 s.2.1 s.2.2) (fun r0 s => PX5_init_14_b N K (fun a0 a1 a2 => r0 (a0, a1, a2)) s.1 s.2.1 s.2.2) (fun _ _ => rfl))
    (fun i s => mr s.1 0 (fun _ => t) i ∧ s.2.1 = zI t ∧ s.2.2 = zI i ∧ 0 ≤ i) 64 ?_ ?_ N 0 (mb_z, _, _) (by omega) (by omega) ?_
  · rintro i ⟨M1, y, z⟩ r hi hI hr
    dsimp only at hI hr ⊢
    obtain ⟨h1, rfl, rfl, h0⟩ := hI
    unfold PX5_init_14_b
    simp (disch := omega) only [zI_lit, zI_neg, zI_add, zI_sub, zI_mul, zI_div, q_md, zI_lt, zI_le, zI_eq, zI_clamp, zI_vp, forall_eq, mb_u_eq, mb_u_ne, upd_eq, q_if, q_ifn, if_pos, if_neg, true_and, and_true, if_true, if_false]
    exact hr _ ⟨mr_app h1 h0 rfl (fun _ _ _ => rfl), rfl, rfl, by omega⟩
  · rintro ⟨M1, y, z⟩ r hI
    dsimp only at hI ⊢
    obtain ⟨h1, rfl, rfl, h0⟩ := hI
    unfold PX5_init_14_b
    simp (disch := omega) only [zI_lit, zI_neg, zI_add, zI_sub, zI_mul, zI_div, q_md, zI_lt, zI_le, zI_eq, zI_clamp, zI_vp, forall_eq, mb_u_eq, mb_u_ne, upd_eq, q_if, q_ifn, if_pos, if_neg, true_and, and_true, if_true, if_false]
    exact hK M1 h1
  · exact ⟨mr_0 _ _ _, rfl, rfl, by omega⟩
theorem m_skin {N : Nat} {M : mb_m} {sk : Int → Int → Int} {ns t : Int} {K : Int32 → mb_m → Prop} (hN : 700 ≤ N) (hp : 0 ≤ ns ∧ ns < 3)
    (h2 : m1 M 19 ns) (h3 : mr M 20 (fun e => sk (e / 64) (e % 64)) (64 * ns))
    (hK : ∀ M', mf M M' [19, 20] → m1 M' 19 (ns + 1) → mr M' 20 (fun e => (fun i k => if i = ns then t else sk i k) (e / 64) (e % 64)) (64 * (ns + 1)) → K (zI ns) M') : PX8_skin_33 N K N M (zI t) (zI 0) := by
  refine (q_for (σ := mb_m × Int32 × Int32) (fun n s => PX8_skin_33 N K n s.1 s.2.1 s.2.2) (fun r0 s => PX8_skin_33_b N K (fun a0 a1 a2 => r0 (a0, a1, a2)) s.1 s.2.1 s.2.2) (fun _ _ => rfl))
    (fun i s => (mf M s.1 [20] ∧ mr s.1 20 (fun e => (fun i k => if i = ns then t else sk i k) (e / 64) (e % 64)) (64 * ns + i)) ∧ s.2.1 = zI t ∧ s.2.2 = zI i ∧ 0 ≤ i) 64 ?_ ?_ N 0 (M, _, _) (by omega) (by omega) ?_
  · rintro i ⟨M1, y, z⟩ r hi hI hr
    dsimp only at hI hr ⊢
    obtain ⟨⟨hf, g3⟩, rfl, rfl, h0⟩ := hI
    have v2 : M1 19 0 = zI ns := mf_m1 hf (by decide) h2
    have e3 := mr_app (X := M1) (t := 20) (v := t) g3 (by omega) (by (try dsimp only); rw [if_pos (by omega)]) (fun _ _ _ => rfl)
    rw [show 64 * ns + i + 1 = 64 * ns + (i + 1) by omega] at e3
    unfold PX8_skin_33_b
    simp (disch := omega) only [zI_lit, zI_neg, zI_add, zI_sub, zI_mul, zI_div, q_md, zI_lt, zI_le, zI_eq, zI_clamp, zI_vp, forall_eq, mb_u_eq, mb_u_ne, upd_eq, q_if, q_ifn, if_pos, if_neg, true_and, and_true, if_true, if_false, v2]
    exact hr _ ⟨⟨mf_u hf _ (by decide), e3⟩, rfl, rfl, by omega⟩
  · rintro ⟨M1, y, z⟩ r hI
    dsimp only at hI ⊢
    obtain ⟨⟨hf, g3⟩, rfl, rfl, h0⟩ := hI
    have v2 : M1 19 0 = zI ns := mf_m1 hf (by decide) h2
    have e : ∀ x : Int, mb_c (zI x) 0 = zI x := fun _ => rfl
    unfold PX8_skin_33_b
    simp (disch := omega) only [zI_lit, zI_neg, zI_add, zI_sub, zI_mul, zI_div, q_md, zI_lt, zI_le, zI_eq, zI_clamp, zI_vp, forall_eq, mb_u_eq, mb_u_ne, upd_eq, q_if, q_ifn, if_pos, if_neg, true_and, and_true, if_true, if_false, v2, e]
    rw [show ns + 1 - 1 = ns by omega]
    refine hK _ (mf_u (mf_mono hf (by decide)) _ (by decide)) (m1_set _ _ _) (mr_ne _ ?_ (by decide))
    rwa [show 64 * ns + 64 = 64 * (ns + 1) by omega] at g3
  · refine ⟨⟨mf_refl _ _, ?_⟩, rfl, rfl, by omega⟩
    rw [show 64 * ns + 0 = 64 * ns by omega]
    exact mr_cong h3 (fun e h4 h5 => by (try dsimp only); rw [if_neg (by omega)])
theorem s_skin {N : Nat} {M7 MA : mb_m} {fP fB fK : Nat → Option Nat} {LP : List mb_p} {LB : List mb_k} {LS : List mb_p} {m : mb_m} (hN : 700 ≤ N) (h : Rm (M7, MA, fP, fB, fK, LP, LB, LS) m) (x1 : Int32) :
    BP_skin N M7 MA fP fB fK LP LB LS x1 (fun r b => PX8_skin N m x1 (Qe 0 r b)) (fun E b => (E = eA ∧ PX8_skin N m x1 (Qe 1 0 b)) ∨ (E = eS ∧ PX8_skin N m x1 (Qe 2 0 b))) := by
  obtain ⟨a1, l1, g1, rfl⟩ := zI_ex x1
  obtain ⟨hA, hP, hB, ⟨ns, sk, p1, p2, p3, p4, p5, p6, p7, p8⟩⟩ := id h
  (try dsimp only at p2 p5 p6 p7)
  have v7 : M7 6 0 = zI ns := p2
  have vm : m 19 0 = zI ns := p3
  have e : ((ns : Int)).toNat = ns := by omega
  have hm : ∀ K : Int32 → mb_m → Prop, (8 ≤ a1 ∧ a1 ≤ 30 → ns < 3 → PX8_skin_33 N K N (mb_u m 27 (mb_c (zI 0))) (zI a1) (zI 0)) → (¬ (8 ≤ a1 ∧ a1 ≤ 30) → K (zI 0) (mb_u m 27 (mb_c (zI 1)))) → (8 ≤ a1 ∧ a1 ≤ 30 → ¬ ns < 3 → K (zI 0) (mb_u m 27 (mb_c (zI 2)))) → PX8_skin N m (zI a1) K := by
    intro K k0 k1 k2
    unfold PX8_skin PX8_skin_22
    simp (disch := omega) only [zI_lit, zI_neg, zI_add, zI_sub, zI_mul, zI_div, q_md, zI_lt, zI_le, zI_eq, zI_clamp, zI_vp, forall_eq, mb_u_eq, mb_u_ne, upd_eq, q_if, q_ifn, if_pos, if_neg, true_and, and_true, if_true, if_false, q_in8, vm]
    by_cases c : 8 ≤ a1 ∧ a1 ≤ 30
    · by_cases c2 : ns < 3
      · simp (disch := omega) only [zI_lit, zI_neg, zI_add, zI_sub, zI_mul, zI_div, q_md, zI_lt, zI_le, zI_eq, zI_clamp, zI_vp, forall_eq, mb_u_eq, mb_u_ne, upd_eq, q_if, q_ifn, if_pos, if_neg, true_and, and_true, if_true, if_false, c, and_self, q_goes111]; exact k0 c c2
      · simp (disch := omega) only [zI_lit, zI_neg, zI_add, zI_sub, zI_mul, zI_div, q_md, zI_lt, zI_le, zI_eq, zI_clamp, zI_vp, forall_eq, mb_u_eq, mb_u_ne, upd_eq, q_if, q_ifn, if_pos, if_neg, true_and, and_true, if_true, if_false, c, and_self, q_goes10]; exact k2 c c2
    · rw [if_neg c]
      simp (disch := omega) only [zI_lit, zI_neg, zI_add, zI_sub, zI_mul, zI_div, q_md, zI_lt, zI_le, zI_eq, zI_clamp, zI_vp, forall_eq, mb_u_eq, mb_u_ne, upd_eq, q_if, q_ifn, if_pos, if_neg, true_and, and_true, if_true, if_false, q_goes0, ite_self]; exact k1 c
  unfold BP_skin PX7_skin PX7_skin_24
  by_cases c : 8 ≤ a1 ∧ a1 ≤ 30
  · by_cases c2 : ns < 3
    · simp (disch := omega) only [zI_lit, zI_neg, zI_add, zI_sub, zI_mul, zI_div, q_md, zI_lt, zI_le, zI_eq, zI_clamp, zI_vp, forall_eq, mb_u_eq, mb_u_ne, upd_eq, q_if, q_ifn, if_pos, if_neg, true_and, and_true, if_true, if_false, q_isWithin, c, and_self, q_demandArgument1, q_demandState1, v7]
      intro q
      refine e_init5 hN (fun M' hM' => ?_)
      intro a
      simp (disch := omega) only [zI_lit, zI_neg, zI_add, zI_sub, zI_mul, zI_div, q_md, zI_lt, zI_le, zI_eq, zI_clamp, zI_vp, forall_eq, mb_u_eq, mb_u_ne, upd_eq, q_if, q_ifn, if_pos, if_neg, true_and, and_true, if_true, if_false, v7, e]
      refine hm _ (fun _ _ => ?_) (fun z => absurd c z) (fun _ z => absurd c2 z)
      refine m_skin hN (by omega) (m1_ne _ p3 (by decide)) (mr_ne _ p4 (by decide)) (fun m' hf e2 e3 => ?_)
      have hf' : mf m m' [27, 19, 20] := mf_tr (mf_mono (mf_u (mf_refl m [27]) _ (by decide)) (by decide)) (mf_mono hf (by decide))
      refine ⟨mf_m1 hf (by decide) (m1_set _ _ _), fun _ => rfl, RA_mf hA hf' (by decide) (by decide), RP_mf (RP_7 hP (mf_u (mf_refl _ [6]) _ (by decide)) (by decide)) hf' (by decide) (by decide), RB_mf (RB_7 hB (mf_u (mf_refl _ [6]) _ (by decide)) (by decide)) hf' (by decide), ?_⟩
      refine ⟨ns + 1, fun i k => if i = ns then a1 else sk i k, by omega, ?_, ?_, ?_, ?_, fun i hi => ?_, fun i hi hi2 => ?_, fun i k i1 i2 k1 k2 => ?_⟩
      · rw [Int.natCast_add]; exact m1_set _ _ _
      · rw [Int.natCast_add]; exact e2
      · rw [Int.natCast_add]; exact e3
      · (try dsimp only at p5 ⊢); rw [List.length_append, p5]; rfl
      · (try dsimp only at p5 p6 ⊢)
        by_cases hh : i = ns
        · subst hh
          refine ⟨_, by rw [← p5]; exact List.getElem?_concat_length, va_up_eq _ _ _, mr_cong hM' (fun k _ _ => by (try dsimp only); rw [if_pos rfl])⟩
        · obtain ⟨x, x1, x2, x3⟩ := p6 i (by omega)
          refine ⟨x, by rw [List.getElem?_append_left (by rw [p5]; omega)]; exact x1, by rw [va_up_neq _ _ hh]; exact x2, mr_cong x3 (fun k _ _ => by (try dsimp only); rw [if_neg (by omega)])⟩
      · (try dsimp only at p7 ⊢); rw [va_up_neq _ _ (by omega)]; exact p7 i (by omega) hi2
      · (try dsimp only); split
        · omega
        · exact p8 i k i1 (by omega) k1 k2
    · simp (disch := omega) only [zI_lit, zI_neg, zI_add, zI_sub, zI_mul, zI_div, q_md, zI_lt, zI_le, zI_eq, zI_clamp, zI_vp, forall_eq, mb_u_eq, mb_u_ne, upd_eq, q_if, q_ifn, if_pos, if_neg, true_and, and_true, if_true, if_false, q_isWithin, c, and_self, q_demandArgument1, q_demandState0, v7]
      exact Or.inr ⟨rfl, hm _ (fun _ z => absurd z c2) (fun z => absurd c z) (fun _ _ => Qe_x h (by decide))⟩
  · simp (disch := omega) only [zI_lit, zI_neg, zI_add, zI_sub, zI_mul, zI_div, q_md, zI_lt, zI_le, zI_eq, zI_clamp, zI_vp, forall_eq, mb_u_eq, mb_u_ne, upd_eq, q_isWithin]
    rw [if_neg c]
    simp (disch := omega) only [zI_lit, zI_neg, zI_add, zI_sub, zI_mul, zI_div, q_md, zI_lt, zI_le, zI_eq, zI_clamp, zI_vp, forall_eq, mb_u_eq, mb_u_ne, upd_eq, q_if, q_ifn, if_pos, if_neg, true_and, and_true, if_true, if_false, q_demandArgument0]
    exact Or.inl ⟨rfl, hm _ (fun z => absurd z c) (fun _ => Qe_x h (by decide)) (fun z => absurd z c)⟩
/-- the places of a field -/
abbrev fld (a b c d k : Int) : Prop := (a ≤ k % 8 ∧ k % 8 ≤ b) ∧ c ≤ k / 8 ∧ k / 8 ≤ d
def okF (a b c d : Int) : Prop := 0 ≤ a ∧ a ≤ b ∧ b ≤ 7 ∧ 0 ≤ c ∧ c ≤ d ∧ d ≤ 7
def mnI (a b c d : Int) (f : Int → Int) (v : Int) : Prop := (∀ k, 0 ≤ k → k < 64 → fld a b c d k → v ≤ f k) ∧ (∃ k, 0 ≤ k ∧ k < 64 ∧ fld a b c d k ∧ f k = v)
theorem mnI_one {a b c d v w : Int} {f : Int → Int} (h : mnI a b c d f v) (g : mnI a b c d f w) : v = w := by
  obtain ⟨h1, k, k1, k2, k3, k4⟩ := h
  obtain ⟨g1, j, j1, j2, j3, j4⟩ := g
  have := h1 j j1 j2 j3
  have := g1 k k1 k2 k3
  omega
def thF (a b c d y : Int) (f : Int → Int) (k : Int) : Int := if fld a b c d k then f k - y else f k
theorem mnI_th {a b c d v y : Int} {f : Int → Int} (h : mnI a b c d f v) : mnI a b c d (thF a b c d y f) (v - y) := by
  obtain ⟨h1, k, k1, k2, k3, k4⟩ := h
  refine ⟨fun j j1 j2 j3 => ?_, k, k1, k2, k3, ?_⟩
  · have := h1 j j1 j2 j3
    unfold thF; rw [if_pos j3]; omega
  · unfold thF; rw [if_pos k3]; omega
theorem e_thinnest {N : Nat} {M : mb_m} {f : Int → Int} {a b c d : Int} {K : Int32 → mb_m → Prop} (hN : 700 ≤ N) (ho : okF a b c d) (h : mr M 0 f 64) (hf : ∀ k : Int, 0 ≤ k → k < 64 → 3 ≤ f k ∧ f k ≤ 30)
    (hK : ∀ v, 3 ≤ v → v ≤ 30 → mnI a b c d f v → K (zI v) M) : PX5_thinnest N M (zI a) (zI b) (zI c) (zI d) K := by
  obtain ⟨o1, o2, o3, o4, o5, o6⟩ := ho
  refine (q_for (σ := mb_m × Int32 × Int32 × Int32 × Int32 × Int32) (fun n s => PX5_thinnest_7 N K n s.1 s.2.1 s.2.2.1 s.2.2.2.1 s.2.2.2.2.1 s.2.2.2.2.2) (fun r0 s => PX5_thinnest_7_b N K (fun a0 a1 a2 a3 a4 a5 => r0 (a0, a1, a2, a3, a4, a5)) s.1 s.2.1 s.2.2.1 s.2.2.2.1 s.2.2.2.2.1 s.2.2.2.2.2) (fun _ _ => rfl))
    (fun i s => s.1 = M ∧ s.2.1 = zI a ∧ s.2.2.1 = zI b ∧ s.2.2.2.1 = zI d ∧ (∃ v, s.2.2.2.2.1 = zI v ∧ 3 ≤ v ∧ v ≤ 30 ∧ (∀ k, 0 ≤ k → k < 64 → fld a b c d k → k / 8 < i → v ≤ f k) ∧ (v = 30 ∨ ∃ k, 0 ≤ k ∧ k < 64 ∧ fld a b c d k ∧ f k = v)) ∧ s.2.2.2.2.2 = zI i ∧ c ≤ i) (d + 1) ?_ ?_ N c (M, _, _, _, _, _) (by omega) (by omega) ?_
  · rintro i ⟨M1, x1, x2, x3, x4, x5⟩ r hi hI hr
    dsimp only at hI hr ⊢
    obtain ⟨rfl, rfl, rfl, rfl, ⟨v, rfl, v1, v2, v3, v4⟩, rfl, h0⟩ := hI
    unfold PX5_thinnest_7_b
    simp (disch := omega) only [zI_lit, zI_neg, zI_add, zI_sub, zI_mul, zI_div, q_md, zI_lt, zI_le, zI_eq, zI_clamp, zI_vp, forall_eq, mb_u_eq, mb_u_ne, upd_eq, q_if, q_ifn, if_pos, if_neg, true_and, and_true, if_true, if_false]
    refine (q_for (σ := mb_m × Int32 × Int32 × Int32 × Int32 × Int32 × Int32) (fun n s => PX5_thinnest_17 N K (fun b0 b1 b2 b3 b4 b5 => r (b0, b1, b2, b3, b4, b5)) n s.1 s.2.1 s.2.2.1 s.2.2.2.1 s.2.2.2.2.1 s.2.2.2.2.2.1 s.2.2.2.2.2.2) (fun r0 s => PX5_thinnest_17_b N K (fun b0 b1 b2 b3 b4 b5 => r (b0, b1, b2, b3, b4, b5)) (fun a0 a1 a2 a3 a4 a5 a6 => r0 (a0, a1, a2, a3, a4, a5, a6)) s.1 s.2.1 s.2.2.1 s.2.2.2.1 s.2.2.2.2.1 s.2.2.2.2.2.1 s.2.2.2.2.2.2) (fun _ _ => rfl))
      (fun j s => s.1 = M1 ∧ s.2.1 = zI a ∧ s.2.2.1 = zI b ∧ s.2.2.2.1 = zI d ∧ (∃ v, s.2.2.2.2.1 = zI v ∧ 3 ≤ v ∧ v ≤ 30 ∧ (∀ k, 0 ≤ k → k < 64 → fld a b c d k → (k / 8 < i ∨ k / 8 = i ∧ k % 8 < j) → v ≤ f k) ∧ (v = 30 ∨ ∃ k, 0 ≤ k ∧ k < 64 ∧ fld a b c d k ∧ f k = v)) ∧ s.2.2.2.2.2.1 = zI i ∧ s.2.2.2.2.2.2 = zI j ∧ a ≤ j) (b + 1) ?_ ?_ N a (M1, _, _, _, _, _, _) (by omega) (by omega) ?_
    · rintro j ⟨M2, y1, y2, y3, y4, y5, y6⟩ r2 hj hI hr2
      dsimp only at hI hr2 ⊢
      obtain ⟨rfl, rfl, rfl, rfl, ⟨w, rfl, w1, w2, w3, w4⟩, rfl, rfl, j0⟩ := hI
      have u := h (i * 8 + j) (by omega) (by omega)
      have hb := hf (i * 8 + j) (by omega) (by omega)
      unfold PX5_thinnest_17_b
      simp (disch := omega) only [zI_lit, zI_neg, zI_add, zI_sub, zI_mul, zI_div, q_md, zI_lt, zI_le, zI_eq, zI_clamp, zI_vp, forall_eq, mb_u_eq, mb_u_ne, upd_eq, q_if, q_ifn, if_pos, if_neg, true_and, and_true, if_true, if_false, q_cellOf, u]
      refine hr2 _ ⟨rfl, rfl, rfl, rfl, ?_, rfl, rfl, by omega⟩
      have hk : ∀ k : Int, 0 ≤ k → k < 64 → fld a b c d k → (k / 8 < i ∨ k / 8 = i ∧ k % 8 < j + 1) → k = i * 8 + j ∨ (k / 8 < i ∨ k / 8 = i ∧ k % 8 < j) := fun k _ _ _ _ => by omega
      by_cases hlt : f (i * 8 + j) < w
      · refine ⟨f (i * 8 + j), by (try dsimp only); rw [if_pos hlt], hb.1, hb.2, fun k k1 k2 k3 k4 => ?_, Or.inr ⟨i * 8 + j, by omega, by omega, by (refine ⟨⟨?_, ?_⟩, ?_, ?_⟩ <;> omega), rfl⟩⟩
        rcases hk k k1 k2 k3 k4 with e | e
        · rw [e]; exact Int.le_refl _
        · have := w3 k k1 k2 k3 e; omega
      · refine ⟨w, by (try dsimp only); rw [if_neg hlt], w1, w2, fun k k1 k2 k3 k4 => ?_, w4⟩
        rcases hk k k1 k2 k3 k4 with e | e
        · rw [e]; omega
        · exact w3 k k1 k2 k3 e
    · rintro ⟨M2, y1, y2, y3, y4, y5, y6⟩ r2 hI
      dsimp only at hI ⊢
      obtain ⟨rfl, rfl, rfl, rfl, ⟨w, rfl, w1, w2, w3, w4⟩, rfl, rfl, j0⟩ := hI
      unfold PX5_thinnest_17_b
      simp (disch := omega) only [zI_lit, zI_neg, zI_add, zI_sub, zI_mul, zI_div, q_md, zI_lt, zI_le, zI_eq, zI_clamp, zI_vp, forall_eq, mb_u_eq, mb_u_ne, upd_eq, q_if, q_ifn, if_pos, if_neg, true_and, and_true, if_true, if_false]
      exact hr _ ⟨rfl, rfl, rfl, rfl, ⟨w, rfl, w1, w2, fun k k1 k2 k3 k4 => w3 k k1 k2 k3 (by have := k3.1.2; omega), w4⟩, rfl, by omega⟩
    · exact ⟨rfl, rfl, rfl, rfl, ⟨v, rfl, v1, v2, fun k k1 k2 k3 k4 => v3 k k1 k2 k3 (by have := k3.1.1; omega), v4⟩, rfl, rfl, by omega⟩
  · rintro ⟨M1, x1, x2, x3, x4, x5⟩ r hI
    dsimp only at hI ⊢
    obtain ⟨rfl, rfl, rfl, rfl, ⟨v, rfl, v1, v2, v3, v4⟩, rfl, h0⟩ := hI
    unfold PX5_thinnest_7_b
    simp (disch := omega) only [zI_lit, zI_neg, zI_add, zI_sub, zI_mul, zI_div, q_md, zI_lt, zI_le, zI_eq, zI_clamp, zI_vp, forall_eq, mb_u_eq, mb_u_ne, upd_eq, q_if, q_ifn, if_pos, if_neg, true_and, and_true, if_true, if_false]
    refine hK v v1 v2 ⟨fun k k1 k2 k3 => v3 k k1 k2 k3 (by have := k3.2.2; omega), ?_⟩
    rcases v4 with e | e
    · refine ⟨c * 8 + a, by omega, by omega, by (refine ⟨⟨?_, ?_⟩, ?_, ?_⟩ <;> omega), ?_⟩
      have := hf (c * 8 + a) (by omega) (by omega)
      have := v3 (c * 8 + a) (by omega) (by omega) (by (refine ⟨⟨?_, ?_⟩, ?_, ?_⟩ <;> omega)) (by omega)
      omega
    · exact e
  · exact ⟨rfl, rfl, rfl, rfl, ⟨30, rfl, by omega, by omega, fun k k1 k2 k3 k4 => by have := k3.2.1; omega, Or.inl rfl⟩, rfl, by omega⟩
theorem e_thin {N : Nat} {M : mb_m} {f : Int → Int} {a b c d y : Int} {K : mb_m → Prop} (hN : 700 ≤ N) (ho : okF a b c d) (hy : 0 ≤ y ∧ y ≤ 27) (h : mr M 0 f 64) (hf : ∀ k : Int, 0 ≤ k → k < 64 → 3 ≤ f k ∧ f k ≤ 30)
    (hK : ∀ M', mr M' 0 (thF a b c d y f) 64 → K M') : PX5_thin N M (zI a) (zI b) (zI c) (zI d) (zI y) K := by
  obtain ⟨o1, o2, o3, o4, o5, o6⟩ := ho
  refine (q_for (σ := mb_m × Int32 × Int32 × Int32 × Int32 × Int32) (fun n s => PX5_thin_3 N K n s.1 s.2.1 s.2.2.1 s.2.2.2.1 s.2.2.2.2.1 s.2.2.2.2.2) (fun r0 s => PX5_thin_3_b N K (fun a0 a1 a2 a3 a4 a5 => r0 (a0, a1, a2, a3, a4, a5)) s.1 s.2.1 s.2.2.1 s.2.2.2.1 s.2.2.2.2.1 s.2.2.2.2.2) (fun _ _ => rfl))
    (fun i s => mr s.1 0 (fun k => if k / 8 < i then thF a b c d y f k else f k) 64 ∧ s.2.1 = zI a ∧ s.2.2.1 = zI b ∧ s.2.2.2.1 = zI d ∧ s.2.2.2.2.1 = zI y ∧ s.2.2.2.2.2 = zI i ∧ c ≤ i) (d + 1) ?_ ?_ N c (M, _, _, _, _, _) (by omega) (by omega) ?_
  · rintro i ⟨M1, x1, x2, x3, x4, x5⟩ r hi hI hr
    dsimp only at hI hr ⊢
    obtain ⟨h1, rfl, rfl, rfl, rfl, rfl, h0⟩ := hI
    unfold PX5_thin_3_b
    simp (disch := omega) only [zI_lit, zI_neg, zI_add, zI_sub, zI_mul, zI_div, q_md, zI_lt, zI_le, zI_eq, zI_clamp, zI_vp, forall_eq, mb_u_eq, mb_u_ne, upd_eq, q_if, q_ifn, if_pos, if_neg, true_and, and_true, if_true, if_false]
    refine (q_for (σ := mb_m × Int32 × Int32 × Int32 × Int32 × Int32 × Int32) (fun n s => PX5_thin_13 N K (fun b0 b1 b2 b3 b4 b5 => r (b0, b1, b2, b3, b4, b5)) n s.1 s.2.1 s.2.2.1 s.2.2.2.1 s.2.2.2.2.1 s.2.2.2.2.2.1 s.2.2.2.2.2.2) (fun r0 s => PX5_thin_13_b N K (fun b0 b1 b2 b3 b4 b5 => r (b0, b1, b2, b3, b4, b5)) (fun a0 a1 a2 a3 a4 a5 a6 => r0 (a0, a1, a2, a3, a4, a5, a6)) s.1 s.2.1 s.2.2.1 s.2.2.2.1 s.2.2.2.2.1 s.2.2.2.2.2.1 s.2.2.2.2.2.2) (fun _ _ => rfl))
      (fun j s => mr s.1 0 (fun k => if k / 8 < i ∨ k / 8 = i ∧ k % 8 < j then thF a b c d y f k else f k) 64 ∧ s.2.1 = zI a ∧ s.2.2.1 = zI b ∧ s.2.2.2.1 = zI d ∧ s.2.2.2.2.1 = zI y ∧ s.2.2.2.2.2.1 = zI i ∧ s.2.2.2.2.2.2 = zI j ∧ a ≤ j) (b + 1) ?_ ?_ N a (M1, _, _, _, _, _, _) (by omega) (by omega) ?_
    · rintro j ⟨M2, y1, y2, y3, y4, y5, y6⟩ r2 hj hI hr2
      dsimp only at hI hr2 ⊢
      obtain ⟨g1, rfl, rfl, rfl, rfl, rfl, rfl, j0⟩ := hI
      have u := g1 (i * 8 + j) (by omega) (by omega)
      (try dsimp only at u)
      rw [if_neg (by omega)] at u
      have hb := hf (i * 8 + j) (by omega) (by omega)
      unfold PX5_thin_13_b
      simp (disch := omega) only [zI_lit, zI_neg, zI_add, zI_sub, zI_mul, zI_div, q_md, zI_lt, zI_le, zI_eq, zI_clamp, zI_vp, forall_eq, mb_u_eq, mb_u_ne, upd_eq, q_if, q_ifn, if_pos, if_neg, true_and, and_true, if_true, if_false, q_cellOf, u]
      refine hr2 _ ⟨mr_up g1 (by omega) (by omega) ?_ (fun k k1 k2 k3 => ?_), rfl, rfl, rfl, rfl, rfl, rfl, by omega⟩
      · (try dsimp only)
        rw [if_pos (by omega), thF, if_pos (by (refine ⟨⟨?_, ?_⟩, ?_, ?_⟩ <;> omega))]
      · (try dsimp only)
        by_cases e : k / 8 < i ∨ k / 8 = i ∧ k % 8 < j
        · rw [if_pos e, if_pos (by omega)]
        · rw [if_neg e, if_neg (by omega)]
    · rintro ⟨M2, y1, y2, y3, y4, y5, y6⟩ r2 hI
      dsimp only at hI ⊢
      obtain ⟨g1, rfl, rfl, rfl, rfl, rfl, rfl, j0⟩ := hI
      unfold PX5_thin_13_b
      simp (disch := omega) only [zI_lit, zI_neg, zI_add, zI_sub, zI_mul, zI_div, q_md, zI_lt, zI_le, zI_eq, zI_clamp, zI_vp, forall_eq, mb_u_eq, mb_u_ne, upd_eq, q_if, q_ifn, if_pos, if_neg, true_and, and_true, if_true, if_false]
      refine hr _ ⟨mr_cong g1 (fun k k1 k2 => ?_), rfl, rfl, rfl, rfl, rfl, by omega⟩
      (try dsimp only)
      by_cases e : k / 8 < i ∨ k / 8 = i ∧ k % 8 < b + 1
      · rw [if_pos e, if_pos (by omega)]
      · rw [if_neg e]
        by_cases e2 : k / 8 < i + 1
        · rw [if_pos e2, thF, if_neg (fun z => by have := z.1.2; omega)]
        · rw [if_neg e2]
    · refine ⟨mr_cong h1 (fun k k1 k2 => ?_), rfl, rfl, rfl, rfl, rfl, rfl, by omega⟩
      (try dsimp only)
      by_cases e : k / 8 < i
      · rw [if_pos e, if_pos (by omega)]
      · rw [if_neg e]
        by_cases e2 : k / 8 < i ∨ k / 8 = i ∧ k % 8 < a
        · rw [if_pos e2, thF, if_neg (fun z => by have := z.1.1; omega)]
        · rw [if_neg e2]
  · rintro ⟨M1, x1, x2, x3, x4, x5⟩ r hI
    dsimp only at hI ⊢
    obtain ⟨h1, rfl, rfl, rfl, rfl, rfl, h0⟩ := hI
    unfold PX5_thin_3_b
    simp (disch := omega) only [zI_lit, zI_neg, zI_add, zI_sub, zI_mul, zI_div, q_md, zI_lt, zI_le, zI_eq, zI_clamp, zI_vp, forall_eq, mb_u_eq, mb_u_ne, upd_eq, q_if, q_ifn, if_pos, if_neg, true_and, and_true, if_true, if_false]
    refine hK M1 (mr_cong h1 (fun k k1 k2 => ?_))
    (try dsimp only)
    by_cases e : k / 8 < d + 1
    · rw [if_pos e]
    · rw [if_neg e, thF, if_neg (fun z => by have := z.2.2; omega)]
  · refine ⟨mr_cong h (fun k k1 k2 => ?_), rfl, rfl, rfl, rfl, rfl, by omega⟩
    (try dsimp only)
    by_cases e : k / 8 < c
    · rw [if_pos e, thF, if_neg (fun z => by have := z.2.1; omega)]
    · rw [if_neg e]
theorem m_least {N : Nat} {M : mb_m} {f : Int → Int} {x a b c d : Int} {K : Int32 → mb_m → Prop} (hN : 700 ≤ N) (hx : 0 ≤ x ∧ x < 3) (ho : okF a b c d) (h : ∀ k : Int, 0 ≤ k → k < 64 → M 20 (64 * x + k).toNat = zI (f k)) (hf : ∀ k : Int, 0 ≤ k → k < 64 → -30 ≤ f k ∧ f k ≤ 30)
    (hK : ∀ v, -30 ≤ v → v ≤ 30 → mnI a b c d f v → K (zI v) M) : PX8_least N M (zI x) (zI a) (zI b) (zI c) (zI d) K := by
  obtain ⟨o1, o2, o3, o4, o5, o6⟩ := ho
  refine (q_for (σ := mb_m × Int32 × Int32 × Int32 × Int32 × Int32 × Int32 × Int32) (fun n s => PX8_least_7 N K n s.1 s.2.1 s.2.2.1 s.2.2.2.1 s.2.2.2.2.1 s.2.2.2.2.2.1 s.2.2.2.2.2.2.1 s.2.2.2.2.2.2.2) (fun r0 s => PX8_least_7_b N K (fun a0 a1 a2 a3 a4 a5 a6 a7 => r0 (a0, a1, a2, a3, a4, a5, a6, a7)) s.1 s.2.1 s.2.2.1 s.2.2.2.1 s.2.2.2.2.1 s.2.2.2.2.2.1 s.2.2.2.2.2.2.1 s.2.2.2.2.2.2.2) (fun _ _ => rfl))
    (fun i s => s.1 = M ∧ s.2.1 = zI x ∧ s.2.2.1 = zI a ∧ s.2.2.2.1 = zI b ∧ s.2.2.2.2.1 = zI c ∧ s.2.2.2.2.2.1 = zI d ∧ (∃ v, s.2.2.2.2.2.2.1 = zI v ∧ -30 ≤ v ∧ v ≤ 99 ∧ (∀ k, 0 ≤ k → k < i → fld a b c d k → v ≤ f k) ∧ (v = 99 ∨ ∃ k, 0 ≤ k ∧ k < 64 ∧ fld a b c d k ∧ f k = v)) ∧ s.2.2.2.2.2.2.2 = zI i ∧ 0 ≤ i) 64 ?_ ?_ N 0 (M, _, _, _, _, _, _, _) (by omega) (by omega) ?_
  · rintro i ⟨M1, x1, x2, x3, x4, x5, x6, x7⟩ r hi hI hr
    dsimp only at hI hr ⊢
    obtain ⟨rfl, rfl, rfl, rfl, rfl, rfl, ⟨v, rfl, v1, v2, v3, v4⟩, rfl, h0⟩ := hI
    have u := h i h0 hi
    have hb := hf i h0 hi
    have hk : ∀ k : Int, 0 ≤ k → k < i + 1 → k = i ∨ k < i := fun k _ _ => by omega
    have k1 : fld a b c d i → f i < v → r (M1, zI x, zI a, zI b, zI c, zI d, zI (f i), zI (i + 1)) := fun e e2 => hr _ ⟨rfl, rfl, rfl, rfl, rfl, rfl, ⟨f i, rfl, hb.1, by omega, fun k a1 a2 a3 => by
      rcases hk k a1 a2 with g | g
      · rw [g]; exact Int.le_refl _
      · have := v3 k a1 g a3; omega, Or.inr ⟨i, h0, hi, e, rfl⟩⟩, rfl, by omega⟩
    have k2 : ¬ (fld a b c d i ∧ f i < v) → r (M1, zI x, zI a, zI b, zI c, zI d, zI v, zI (i + 1)) := fun e => hr _ ⟨rfl, rfl, rfl, rfl, rfl, rfl, ⟨v, rfl, v1, v2, fun k a1 a2 a3 => by
      rcases hk k a1 a2 with g | g
      · rw [g] at a3 ⊢
        by_cases z : f i < v
        · exact absurd ⟨a3, z⟩ e
        · omega
      · exact v3 k a1 g a3, v4⟩, rfl, by omega⟩
    unfold PX8_least_7_b PX8_least_46 PX8_least_47 PX8_least_86 PX8_least_88
    simp (disch := omega) only [zI_lit, zI_neg, zI_add, zI_sub, zI_mul, zI_div, q_md, zI_lt, zI_le, zI_eq, zI_clamp, zI_vp, forall_eq, mb_u_eq, mb_u_ne, upd_eq, q_if, q_ifn, if_pos, if_neg, true_and, and_true, if_true, if_false, q_in8, u]
    (repeat' split) <;> first | exact k2 (by omega) | exact k1 (by omega) (by omega)
  · rintro ⟨M1, x1, x2, x3, x4, x5, x6, x7⟩ r hI
    dsimp only at hI ⊢
    obtain ⟨rfl, rfl, rfl, rfl, rfl, rfl, ⟨v, rfl, v1, v2, v3, v4⟩, rfl, h0⟩ := hI
    unfold PX8_least_7_b
    simp (disch := omega) only [zI_lit, zI_neg, zI_add, zI_sub, zI_mul, zI_div, q_md, zI_lt, zI_le, zI_eq, zI_clamp, zI_vp, forall_eq, mb_u_eq, mb_u_ne, upd_eq, q_if, q_ifn, if_pos, if_neg, true_and, and_true, if_true, if_false]
    have := hf (c * 8 + a) (by omega) (by omega)
    have := v3 (c * 8 + a) (by omega) (by omega) (by (refine ⟨⟨?_, ?_⟩, ?_, ?_⟩ <;> omega))
    refine hK v v1 (by omega) ⟨fun k k1 k2 k3 => v3 k k1 k2 k3, ?_⟩
    rcases v4 with e | e
    · omega
    · exact e
  · exact ⟨rfl, rfl, rfl, rfl, rfl, rfl, ⟨99, rfl, by omega, by omega, fun k k1 k2 k3 => by omega, Or.inl rfl⟩, rfl, by omega⟩
theorem m_pare {N : Nat} {M : mb_m} {sk : Int → Int → Int} {x a b c d y ns : Int} {K : Int32 → mb_m → Prop} (hN : 700 ≤ N) (hx : 0 ≤ x ∧ x < ns) (hns : ns ≤ 3) (ho : okF a b c d) (hy : 0 ≤ y ∧ y ≤ 27)
    (h : mr M 20 (fun e => sk (e / 64) (e % 64)) (64 * ns)) (hf : ∀ i k : Int, 0 ≤ i → i < ns → 0 ≤ k → k < 64 → 3 ≤ sk i k ∧ sk i k ≤ 30)
    (hK : ∀ M' v, mf M M' [20] → mr M' 20 (fun e => (fun i k => if i = x then thF a b c d y (sk x) k else sk i k) (e / 64) (e % 64)) (64 * ns) → mnI a b c d (thF a b c d y (sk x)) v → K (zI v) M') : PX8_pare_111 N K N M (zI x) (zI a) (zI b) (zI c) (zI d) (zI y) (zI 0) := by
  refine (q_for (σ := mb_m × Int32 × Int32 × Int32 × Int32 × Int32 × Int32 × Int32) (fun n s => PX8_pare_111 N K n s.1 s.2.1 s.2.2.1 s.2.2.2.1 s.2.2.2.2.1 s.2.2.2.2.2.1 s.2.2.2.2.2.2.1 s.2.2.2.2.2.2.2) (fun r0 s => PX8_pare_111_b N K (fun a0 a1 a2 a3 a4 a5 a6 a7 => r0 (a0, a1, a2, a3, a4, a5, a6, a7)) s.1 s.2.1 s.2.2.1 s.2.2.2.1 s.2.2.2.2.1 s.2.2.2.2.2.1 s.2.2.2.2.2.2.1 s.2.2.2.2.2.2.2) (fun _ _ => rfl))
    (fun i s => (mf M s.1 [20] ∧ mr s.1 20 (fun e => if e / 64 = x ∧ e % 64 < i then thF a b c d y (sk x) (e % 64) else sk (e / 64) (e % 64)) (64 * ns)) ∧ s.2.1 = zI x ∧ s.2.2.1 = zI a ∧ s.2.2.2.1 = zI b ∧ s.2.2.2.2.1 = zI c ∧ s.2.2.2.2.2.1 = zI d ∧ s.2.2.2.2.2.2.1 = zI y ∧ s.2.2.2.2.2.2.2 = zI i ∧ 0 ≤ i) 64 ?_ ?_ N 0 (M, _, _, _, _, _, _, _) (by omega) (by omega) ?_
  · obtain ⟨o1, o2, o3, o4, o5, o6⟩ := ho
    rintro i ⟨M1, x1, x2, x3, x4, x5, x6, x7⟩ r hi hI hr
    dsimp only at hI hr ⊢
    obtain ⟨⟨hff, g⟩, rfl, rfl, rfl, rfl, rfl, rfl, rfl, h0⟩ := hI
    have u := g (64 * x + i) (by omega) (by omega)
    (try dsimp only at u)
    rw [if_neg (by omega), show (64 * x + i) / 64 = x by omega, show (64 * x + i) % 64 = i by omega] at u
    have hb := hf x i hx.1 hx.2 h0 hi
    have hkeep : ∀ k : Int, 0 ≤ k → k < 64 * ns → k ≠ 64 * x + i → (if k / 64 = x ∧ k % 64 < i + 1 then thF a b c d y (sk x) (k % 64) else sk (k / 64) (k % 64)) = (if k / 64 = x ∧ k % 64 < i then thF a b c d y (sk x) (k % 64) else sk (k / 64) (k % 64)) := by
      intro k k1 k2 k3
      by_cases e : k / 64 = x ∧ k % 64 < i
      · rw [if_pos e, if_pos (by omega)]
      · rw [if_neg e, if_neg (by omega)]
    have hthis : (if (64 * x + i) / 64 = x ∧ (64 * x + i) % 64 < i + 1 then thF a b c d y (sk x) ((64 * x + i) % 64) else sk ((64 * x + i) / 64) ((64 * x + i) % 64)) = thF a b c d y (sk x) i := by
      rw [if_pos (by omega), show (64 * x + i) % 64 = i by omega]
    have hgo : ∀ z : Int, z = thF a b c d y (sk x) i → r (mb_u M1 20 (upd (M1 20) (64 * x + i).toNat (zI z)), zI x, zI a, zI b, zI c, zI d, zI y, zI (i + 1)) := by
      rintro z rfl
      exact hr _ ⟨⟨mf_u hff _ (by decide), mr_up g (by omega) (by omega) hthis hkeep⟩, rfl, rfl, rfl, rfl, rfl, rfl, rfl, by omega⟩
    unfold PX8_pare_111_b PX8_pare_164 PX8_pare_165
    simp (disch := omega) only [zI_lit, zI_neg, zI_add, zI_sub, zI_mul, zI_div, q_md, zI_lt, zI_le, zI_eq, zI_clamp, zI_vp, forall_eq, mb_u_eq, mb_u_ne, upd_eq, q_if, q_ifn, if_pos, if_neg, true_and, and_true, if_true, if_false, q_in8, u]
    have t1 : fld a b c d i → sk x i - y = thF a b c d y (sk x) i := fun e => by unfold thF; rw [if_pos e]
    have t2 : ¬ fld a b c d i → sk x i - 0 = thF a b c d y (sk x) i := fun e => by unfold thF; rw [if_neg e]; omega
    (repeat' split) <;> first | exact hgo _ (t1 (by omega)) | exact hgo _ (t2 (by omega))
  · rintro ⟨M1, x1, x2, x3, x4, x5, x6, x7⟩ r hI
    dsimp only at hI ⊢
    obtain ⟨⟨hff, g⟩, rfl, rfl, rfl, rfl, rfl, rfl, rfl, h0⟩ := hI
    unfold PX8_pare_111_b
    simp (disch := omega) only [zI_lit, zI_neg, zI_add, zI_sub, zI_mul, zI_div, q_md, zI_lt, zI_le, zI_eq, zI_clamp, zI_vp, forall_eq, mb_u_eq, mb_u_ne, upd_eq, q_if, q_ifn, if_pos, if_neg, true_and, and_true, if_true, if_false]
    have g' : mr M1 20 (fun e => (fun i k => if i = x then thF a b c d y (sk x) k else sk i k) (e / 64) (e % 64)) (64 * ns) := mr_cong g (fun e e1 e2 => by
      (try dsimp only)
      by_cases z : e / 64 = x
      · rw [if_pos ⟨z, by omega⟩, if_pos z]
      · rw [if_neg (fun w => z w.1), if_neg z])
    refine m_least (f := thF a b c d y (sk x)) hN (by omega) ho (fun k k1 k2 => ?_) (fun k k1 k2 => ?_) (fun v v1 v2 v3 => hK M1 v hff g' v3)
    · have := g' (64 * x + k) (by omega) (by omega)
      (try dsimp only at this)
      rw [this, show (64 * x + k) / 64 = x by omega, show (64 * x + k) % 64 = k by omega, if_pos rfl]
    · have := hf x k hx.1 hx.2 k1 k2
      unfold thF; split <;> omega
  · refine ⟨⟨mf_refl _ _, mr_cong h (fun e e1 e2 => ?_)⟩, rfl, rfl, rfl, rfl, rfl, rfl, rfl, by omega⟩
    (try dsimp only)
    rw [if_neg (by omega)]
theorem b_pare {N : Nat} {M7 M2 : mb_m} {fK : Nat → Option Nat} {o2 : Nat} {f : Int → Int} {a1 a b c d y : Int} {K : Int32 → (mb_m × (Nat → Option Nat) × mb_m) → Prop} {KX : String → (mb_m × (Nat → Option Nat) × mb_m) → Prop} (hN : 700 ≤ N)
    (r1 : -2147483648 ≤ a1 ∧ a1 < 2147483648) (r2 : -2147483648 ≤ a ∧ a < 2147483648) (r3 : -2147483648 ≤ b ∧ b < 2147483648) (r4 : -2147483648 ≤ c ∧ c < 2147483648) (r5 : -2147483648 ≤ d ∧ d < 2147483648) (r6 : -2147483648 ≤ y ∧ y < 2147483648)
    (hs : fK a1.toNat = some o2) (h01 : 0 ≤ a1 ∧ a1 ≤ 2) (h : mr M2 0 f 64) (hf : ∀ k : Int, 0 ≤ k → k < 64 → 3 ≤ f k ∧ f k ≤ 30)
    (h1 : ¬ okF a b c d → KX eO (M7, fK, M2)) (h2 : okF a b c d → ¬ (1 ≤ y ∧ y ≤ 27) → KX eA (M7, fK, M2))
    (h3 : okF a b c d → 1 ≤ y ∧ y ≤ 27 → ∀ v, 3 ≤ v → v ≤ 30 → mnI a b c d f v → v - y < 3 → KX eS (M7, fK, M2))
    (h4 : okF a b c d → 1 ≤ y ∧ y ≤ 27 → ∀ v, 3 ≤ v → v ≤ 30 → mnI a b c d f v → ¬ v - y < 3 → ∀ M', mr M' 0 (thF a b c d y f) 64 → K (zI (v - y)) (M7, fK, M')) :
    PX7_pare N M7 fK o2 M2 (zI a1) (zI a) (zI b) (zI c) (zI d) (zI y) K KX := by
  unfold PX7_pare
  refine q_skinOf r1.1 r1.2 (fun o _ _ e => ?_) (fun e => absurd (e h01.1 h01.2) (by rw [hs]; exact fun z => by cases z))
  have e2 : o = o2 := by rw [hs] at e; exact (Option.some.inj e).symm
  have k41 : ¬ okF a b c d → PX7_pare_41 N K KX M7 fK M2 (zI a) (zI b) (zI c) (zI d) (zI y) := by
    intro z
    unfold PX7_pare_41 PX7_pare_42
    simp (disch := omega) only [zI_lit, zI_neg, zI_add, zI_sub, zI_mul, zI_div, q_md, zI_lt, zI_le, zI_eq, zI_clamp, zI_vp, forall_eq, mb_u_eq, mb_u_ne, upd_eq, q_if, q_ifn, if_pos, if_neg, true_and, and_true, if_true, if_false, q_demandPlace0]
    exact h1 z
  have k42 : okF a b c d → PX7_pare_42 N K KX M7 fK M2 (zI a) (zI b) (zI c) (zI d) (zI y) (zI 1) := by
    intro z
    unfold PX7_pare_42
    simp (disch := omega) only [zI_lit, zI_neg, zI_add, zI_sub, zI_mul, zI_div, q_md, zI_lt, zI_le, zI_eq, zI_clamp, zI_vp, forall_eq, mb_u_eq, mb_u_ne, upd_eq, q_demandPlace1, q_isWithin]
    by_cases cy : 1 ≤ y ∧ y ≤ 27
    · rw [if_pos cy]
      simp (disch := omega) only [zI_lit, zI_neg, zI_add, zI_sub, zI_mul, zI_div, q_md, zI_lt, zI_le, zI_eq, zI_clamp, zI_vp, forall_eq, mb_u_eq, mb_u_ne, upd_eq, q_demandArgument1]
      refine e_thinnest hN z h hf (fun v v1 v2 v3 => ?_)
      unfold PX7_pare_83
      simp (disch := omega) only [zI_lit, zI_neg, zI_add, zI_sub, zI_mul, zI_div, q_md, zI_lt, zI_le, zI_eq, zI_clamp, zI_vp, forall_eq, mb_u_eq, mb_u_ne, upd_eq, q_if, q_ifn, if_pos, if_neg, true_and, and_true, if_true, if_false, q_demandState0, q_demandState1]
      by_cases cv : v - y < 3
      · rw [if_pos cv]; exact h3 z cy v v1 v2 v3 cv
      · rw [if_neg cv]; exact e_thin hN z (by omega) h hf (fun M' hM' => h4 z cy v v1 v2 v3 cv M' hM')
    · rw [if_neg cy]
      simp (disch := omega) only [zI_lit, zI_neg, zI_add, zI_sub, zI_mul, zI_div, q_md, zI_lt, zI_le, zI_eq, zI_clamp, zI_vp, forall_eq, mb_u_eq, mb_u_ne, upd_eq, q_demandArgument0]
      exact h2 z cy
  unfold okF at k41 k42
  simp (disch := omega) only [zI_lit, zI_neg, zI_add, zI_sub, zI_mul, zI_div, q_md, zI_lt, zI_le, zI_eq, zI_clamp, zI_vp, forall_eq, mb_u_eq, mb_u_ne, upd_eq, q_if, q_ifn, if_pos, if_neg, true_and, and_true, if_true, if_false, q_isOnGrid]
  (repeat' split) <;> first | exact ⟨e2, k41 (by omega)⟩ | exact ⟨e2, k42 (by omega)⟩
theorem mm_pare {N : Nat} {m : mb_m} {f : Int → Int} {a1 a b c d y : Int} {ns : Nat} {K : Int32 → mb_m → Prop} (hN : 700 ≤ N)
    (r1 : -2147483648 ≤ a1 ∧ a1 < 2147483648) (r2 : -2147483648 ≤ a ∧ a < 2147483648) (r3 : -2147483648 ≤ b ∧ b < 2147483648) (r4 : -2147483648 ≤ c ∧ c < 2147483648) (r5 : -2147483648 ≤ d ∧ d < 2147483648) (r6 : -2147483648 ≤ y ∧ y < 2147483648)
    (p1 : ns ≤ 3) (p3 : m1 m 19 ns) (h : 0 ≤ a1 ∧ a1 < ns → ∀ k : Int, 0 ≤ k → k < 64 → m 20 (64 * a1 + k).toNat = zI (f k)) (hf : 0 ≤ a1 ∧ a1 < ns → ∀ k : Int, 0 ≤ k → k < 64 → 3 ≤ f k ∧ f k ≤ 30)
    (h1 : ¬ ((0 ≤ a1 ∧ a1 < ns) ∧ okF a b c d) → K (zI 0) (mb_u m 27 (mb_c (zI 1))))
    (h2 : 0 ≤ a1 ∧ a1 < ns → okF a b c d → ¬ (1 ≤ y ∧ y ≤ 27) → K (zI 0) (mb_u m 27 (mb_c (zI 2))))
    (h3 : 0 ≤ a1 ∧ a1 < ns → okF a b c d → 1 ≤ y ∧ y ≤ 27 → ∀ v, mnI a b c d f v → v - y < 3 → K (zI 0) (mb_u m 27 (mb_c (zI 3))))
    (h4 : 0 ≤ a1 ∧ a1 < ns → okF a b c d → 1 ≤ y ∧ y ≤ 27 → ∀ v, mnI a b c d f v → ¬ v - y < 3 → PX8_pare_111 N K N (mb_u m 27 (mb_c (zI 0))) (zI a1) (zI a) (zI b) (zI c) (zI d) (zI y) (zI 0)) :
    PX8_pare N m (zI a1) (zI a) (zI b) (zI c) (zI d) (zI y) K := by
  have k49 : ¬ ((0 ≤ a1 ∧ a1 < ns) ∧ okF a b c d) → PX8_pare_49 N K m (zI a1) (zI a) (zI b) (zI c) (zI d) (zI y) := by
    intro z
    unfold PX8_pare_49 PX8_pare_50 PX8_pare_99 PX8_pare_100
    simp (disch := omega) only [zI_lit, zI_neg, zI_add, zI_sub, zI_mul, zI_div, q_md, zI_lt, zI_le, zI_eq, zI_clamp, zI_vp, forall_eq, mb_u_eq, mb_u_ne, upd_eq, q_if, q_ifn, if_pos, if_neg, true_and, and_true, if_true, if_false, q_in8, q_goes0, ite_self]
    exact h1 z
  have k50 : 0 ≤ a1 ∧ a1 < ns → okF a b c d → PX8_pare_50 N K m (zI a1) (zI a) (zI b) (zI c) (zI d) (zI y) (zI 1) := by
    intro z0 z
    unfold PX8_pare_50
    simp (disch := omega) only [zI_lit, zI_neg, zI_add, zI_sub, zI_mul, zI_div, q_md, zI_lt, zI_le, zI_eq, zI_clamp, zI_vp, forall_eq, mb_u_eq, mb_u_ne, upd_eq, q_in8]
    by_cases cy : 1 ≤ y ∧ y ≤ 27
    · rw [if_pos cy]
      simp (disch := omega) only [zI_lit, zI_neg, zI_add, zI_sub, zI_mul, zI_div, q_md, zI_lt, zI_le, zI_eq, zI_clamp, zI_vp, forall_eq, mb_u_eq, mb_u_ne, upd_eq, q_if, q_ifn, if_pos, if_neg, true_and, and_true, if_true, if_false]
      refine m_least hN (by omega) z (h z0) (fun k k1 k2 => by have := hf z0 k k1 k2; omega) (fun v v1 v2 v3 => ?_)
      unfold PX8_pare_99 PX8_pare_100
      simp (disch := omega) only [zI_lit, zI_neg, zI_add, zI_sub, zI_mul, zI_div, q_md, zI_lt, zI_le, zI_eq, zI_clamp, zI_vp, forall_eq, mb_u_eq, mb_u_ne, upd_eq, q_if, q_ifn, if_pos, if_neg, true_and, and_true, if_true, if_false, q_goes110, q_goes111]
      by_cases cv : v - y < 3
      · rw [if_pos cv]; exact h3 z0 z cy v v3 cv
      · rw [if_neg cv]; exact h4 z0 z cy v v3 cv
    · rw [if_neg cy]
      unfold PX8_pare_99 PX8_pare_100
      simp (disch := omega) only [zI_lit, zI_neg, zI_add, zI_sub, zI_mul, zI_div, q_md, zI_lt, zI_le, zI_eq, zI_clamp, zI_vp, forall_eq, mb_u_eq, mb_u_ne, upd_eq, q_if, q_ifn, if_pos, if_neg, true_and, and_true, if_true, if_false, q_goes10]
      exact h2 z0 z cy
  unfold okF at k49 k50
  unfold PX8_pare
  simp (disch := omega) only [zI_lit, zI_neg, zI_add, zI_sub, zI_mul, zI_div, q_md, zI_lt, zI_le, zI_eq, zI_clamp, zI_vp, forall_eq, mb_u_eq, mb_u_ne, upd_eq, q_if, q_ifn, if_pos, if_neg, true_and, and_true, if_true, if_false, q_isSkin r1.1 r1.2 p3, q_isEdge, q_in8]
  (repeat' split) <;> first | exact k49 (by omega) | exact k50 (by omega) (by omega)
theorem getElem_mid {α : Type} {L : List α} {i : Nat} {x y : α} (h : L[i]? = some x) : (L.take i ++ y :: L.drop (i + 1)).length = L.length ∧ (L.take i ++ y :: L.drop (i + 1))[i]? = some y ∧ ∀ j, j ≠ i → (L.take i ++ y :: L.drop (i + 1))[j]? = L[j]? := by
  obtain ⟨hi, -⟩ := List.getElem?_eq_some_iff.mp h
  have e : L.take i ++ y :: L.drop (i + 1) = L.set i y := by rw [List.set_eq_take_append_cons_drop, if_pos hi]
  rw [e]
  exact ⟨List.length_set, by rw [List.getElem?_set_self hi], fun j hj => List.getElem?_set_ne (fun z => hj z.symm)⟩
theorem s_pare {N : Nat} {M7 MA : mb_m} {fP fB fK : Nat → Option Nat} {LP : List mb_p} {LB : List mb_k} {LS : List mb_p} {m : mb_m} (hN : 700 ≤ N) (h : Rm (M7, MA, fP, fB, fK, LP, LB, LS) m) (x1 x2 x3 x4 x5 x6 : Int32) :
    BP_pare N M7 MA fP fB fK LP LB LS x1 x2 x3 x4 x5 x6 (fun r b => PX8_pare N m x1 x2 x3 x4 x5 x6 (Qe 0 r b)) (fun E b => (E = eO ∧ PX8_pare N m x1 x2 x3 x4 x5 x6 (Qe 1 0 b)) ∨ (E = eA ∧ PX8_pare N m x1 x2 x3 x4 x5 x6 (Qe 2 0 b)) ∨ (E = eS ∧ PX8_pare N m x1 x2 x3 x4 x5 x6 (Qe 3 0 b))) := by
  obtain ⟨a1, l1, g1, rfl⟩ := zI_ex x1
  obtain ⟨a, l2, g2, rfl⟩ := zI_ex x2
  obtain ⟨b, l3, g3, rfl⟩ := zI_ex x3
  obtain ⟨c, l4, g4, rfl⟩ := zI_ex x4
  obtain ⟨d, l5, g5, rfl⟩ := zI_ex x5
  obtain ⟨y, l6, g6, rfl⟩ := zI_ex x6
  obtain ⟨hA, hP, hB, ⟨ns, sk, p1, p2, p3, p4, p5, p6, p7, p8⟩⟩ := id h
  (try dsimp only at hA hP hB p2 p5 p6 p7)
  have hmk : 0 ≤ a1 ∧ a1 < ns → ∀ k : Int, 0 ≤ k → k < 64 → m 20 (64 * a1 + k).toNat = zI (sk a1 k) := by
    intro z k k1 k2
    have := p4 (64 * a1 + k) (by omega) (by omega)
    (try dsimp only at this)
    rw [this, show (64 * a1 + k) / 64 = a1 by omega, show (64 * a1 + k) % 64 = k by omega]
  have hsk : 0 ≤ a1 ∧ a1 < ns → ∀ k : Int, 0 ≤ k → k < 64 → 3 ≤ sk a1 k ∧ sk a1 k ≤ 30 := fun z k k1 k2 => p8 a1 k z.1 z.2 k1 k2
  by_cases cs : 0 ≤ a1 ∧ a1 < ns
  · obtain ⟨x, x1, x2, x3⟩ := p6 a1.toNat (by omega)
    have hx : LS.take a1.toNat ++ (x.1, x.2.1, x.2.2) :: LS.drop (a1.toNat + 1) = LS := (q_split x1).symm
    rw [show ((a1.toNat : Nat) : Int) = a1 by omega] at x3
    refine Or.inl ⟨_, x, _, q_split x1, ?_⟩
    refine b_pare hN ⟨l1, g1⟩ ⟨l2, g2⟩ ⟨l3, g3⟩ ⟨l4, g4⟩ ⟨l5, g5⟩ ⟨l6, g6⟩ x2 (by omega) x3 (hsk cs) (fun z => ?_) (fun z1 z2 => ?_) (fun z1 z2 v v1 v2 v3 v4 => ?_) (fun z1 z2 v v1 v2 v3 v4 M' hM' => ?_) <;> (try dsimp only)
    · rw [hx]
      exact Or.inl ⟨rfl, mm_pare hN ⟨l1, g1⟩ ⟨l2, g2⟩ ⟨l3, g3⟩ ⟨l4, g4⟩ ⟨l5, g5⟩ ⟨l6, g6⟩ p1 p3 hmk hsk (fun _ => Qe_x h (by decide)) (fun _ w => absurd w z) (fun _ w => absurd w z) (fun _ w => absurd w z)⟩
    · rw [hx]
      exact Or.inr (Or.inl ⟨rfl, mm_pare hN ⟨l1, g1⟩ ⟨l2, g2⟩ ⟨l3, g3⟩ ⟨l4, g4⟩ ⟨l5, g5⟩ ⟨l6, g6⟩ p1 p3 hmk hsk (fun w => absurd ⟨cs, z1⟩ w) (fun _ _ _ => Qe_x h (by decide)) (fun _ _ w => absurd w z2) (fun _ _ w => absurd w z2)⟩)
    · rw [hx]
      exact Or.inr (Or.inr ⟨rfl, mm_pare hN ⟨l1, g1⟩ ⟨l2, g2⟩ ⟨l3, g3⟩ ⟨l4, g4⟩ ⟨l5, g5⟩ ⟨l6, g6⟩ p1 p3 hmk hsk (fun w => absurd ⟨cs, z1⟩ w) (fun _ _ w => absurd z2 w) (fun _ _ _ _ _ _ => Qe_x h (by decide)) (fun _ _ _ w wv wn => absurd v4 (by rw [mnI_one v3 wv]; exact wn))⟩)
    · refine mm_pare hN ⟨l1, g1⟩ ⟨l2, g2⟩ ⟨l3, g3⟩ ⟨l4, g4⟩ ⟨l5, g5⟩ ⟨l6, g6⟩ p1 p3 hmk hsk (fun w => absurd ⟨cs, z1⟩ w) (fun _ _ w => absurd z2 w) (fun _ _ _ w wv wn => absurd wn (by rw [← mnI_one v3 wv]; exact v4)) (fun _ _ _ w wv wn => ?_)
      refine m_pare hN cs (by omega) z1 (by omega) (mr_ne _ p4 (by decide)) p8 (fun m' u hf e20 hu => ?_)
      have hf' : mf m m' [27, 20] := mf_tr (mf_mono (mf_u (mf_refl m [27]) _ (by decide)) (by decide)) (mf_mono hf (by decide))
      have hmid := getElem_mid (y := ((x.1, x.2.1, M') : mb_p)) x1
      refine ⟨mf_m1 hf (by decide) (m1_set _ _ _), fun _ => by rw [mnI_one hu (mnI_th v3)], RA_mf hA hf' (by decide) (by decide), RP_mf hP hf' (by decide) (by decide), RB_mf hB hf' (by decide), ?_⟩
      refine ⟨ns, fun i k => if i = a1 then thF a b c d y (sk a1) k else sk i k, p1, p2, mf_m1 hf' (by decide) p3, e20, by (try dsimp only); rw [hmid.1, p5], fun i hi => ?_, p7, fun i k i1 i2 k1 k2 => ?_⟩
      · (try dsimp only)
        by_cases hh : i = a1.toNat
        · subst hh
          exact ⟨_, hmid.2.1, x2, mr_cong hM' (fun k _ _ => by (try dsimp only); rw [if_pos (by omega)])⟩
        · obtain ⟨x', y1, y2, y3⟩ := p6 i hi
          exact ⟨x', by rw [hmid.2.2 i hh]; exact y1, y2, mr_cong y3 (fun k _ _ => by (try dsimp only); rw [if_neg (by omega)])⟩
      · (try dsimp only)
        split
        · have := hsk cs k k1 k2
          unfold thF
          split
          · rename_i zf
            have := v3.1 k k1 k2 zf
            (try dsimp only at this)
            omega
          · omega
        · exact p8 i k i1 i2 k1 k2
  · refine Or.inr ?_
    unfold PX7_pare_n
    refine q_skinOf l1 g1 (fun o e1 e2 e3 => ?_) (fun e => Or.inl ⟨rfl, mm_pare hN ⟨l1, g1⟩ ⟨l2, g2⟩ ⟨l3, g3⟩ ⟨l4, g4⟩ ⟨l5, g5⟩ ⟨l6, g6⟩ p1 p3 hmk hsk (fun _ => Qe_x h (by decide)) (fun w => absurd w cs) (fun w => absurd w cs) (fun w => absurd w cs)⟩)
    rw [p7 a1.toNat (by omega) (by omega)] at e3
    cases e3
