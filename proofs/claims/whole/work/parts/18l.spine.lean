/-- the strain of an opening but for the swelling -/
def sfI (s : Int) : Int := if s = 0 then 4 else if s = 1 then 1 else 2
def bdI (v : kN) (o : Int) : Int := (if v 0 * v 1 - o ≤ o then v 0 * v 1 - o else o) * v 3 * sfI (v 5)
theorem mul_rng {a b A B : Int} (h1 : 0 ≤ a) (h2 : a ≤ A) (h3 : 0 ≤ b) (h4 : b ≤ B) : 0 ≤ a * b ∧ a * b ≤ A * B :=
  ⟨Int.mul_nonneg h1 h3, Int.mul_le_mul h2 h4 h3 (by omega)⟩
theorem all_rng {v : kN} {mw rp vf vt vw : Int → Int} (kr : Kr v mw rp vf vt vw) : 2 ≤ v 0 * v 1 ∧ v 0 * v 1 ≤ 128 := by
  obtain ⟨r1, r2, -⟩ := kr
  have := mul_rng (a := v 0) (b := v 1) (A := 8) (B := 16) (by omega) (by omega) (by omega) (by omega)
  have h2 : 1 * 2 ≤ v 0 * v 1 := Int.mul_le_mul (by omega) (by omega) (by omega) (by omega)
  omega
theorem bdI_rng {v : kN} {mw rp vf vt vw : Int → Int} (kr : Kr v mw rp vf vt vw) {o : Int} (h0 : 0 ≤ o) (h1 : o ≤ v 0 * v 1) : 0 ≤ bdI v o ∧ bdI v o ≤ 4608 := by
  have ha := all_rng kr
  obtain ⟨r1, r2, r3, r4, r5, r6, -⟩ := kr
  have hl : 0 ≤ (if v 0 * v 1 - o ≤ o then v 0 * v 1 - o else o) ∧ (if v 0 * v 1 - o ≤ o then v 0 * v 1 - o else o) ≤ 128 := by split <;> omega
  have hs : 0 ≤ sfI (v 5) ∧ sfI (v 5) ≤ 4 := by unfold sfI; (repeat' split) <;> omega
  have h2 := mul_rng hl.1 hl.2 (by omega : 0 ≤ v 3) r4.2
  have h3 := mul_rng h2.1 h2.2 hs.1 hs.2
  unfold bdI
  omega
theorem q_all {N : Nat} {m : mb_m} {a : Int} {v : kN} {mw rp vf vt vw : Int → Int} {K : Int32 → mb_m → Prop} (ha : 0 ≤ a ∧ a < 4) (km : Km m a v mw rp vf vt vw) : PX8_all N m (zI a) K = K (zI (v 0 * v 1)) m := by
  have u5 : m 5 a.toNat = zI (v 0) := km.1.1
  have u6 : m 6 a.toNat = zI (v 1) := km.1.2.1
  unfold PX8_all
  simp (disch := omega) only [zI_lit, zI_neg, zI_add, zI_sub, zI_mul, zI_div, q_md, zI_lt, zI_le, zI_eq, zI_clamp, zI_vp, forall_eq, mb_u_eq, mb_u_ne, upd_eq, q_if, q_ifn, if_pos, if_neg, true_and, and_true, if_true, if_false, u5, u6]
theorem q_bends {N : Nat} {m : mb_m} {a o : Int} {v : kN} {mw rp vf vt vw : Int → Int} {K : Int32 → mb_m → Prop} (ha : 0 ≤ a ∧ a < 4) (kr : Kr v mw rp vf vt vw) (km : Km m a v mw rp vf vt vw) (h0 : 0 ≤ o) (h1 : o ≤ v 0 * v 1) : PX8_bends N m (zI a) (zI o) K = K (zI (bdI v o)) m := by
  have al := all_rng kr
  obtain ⟨r1, r2, r3, r4, r5, r6, -⟩ := id kr
  have u8 : m 8 a.toNat = zI (v 3) := km.1.2.2.2.1
  have u10 : m 10 a.toNat = zI (v 5) := km.1.2.2.2.2.2.1
  have e22 : ∀ y : Int, PX8_bends_22 N K m (zI a) (zI y) = K (zI (y * v 3 * sfI (v 5))) m := by
    intro y
    unfold PX8_bends_22
    have : v 5 = 0 ∨ v 5 = 1 ∨ v 5 = 2 := by omega
    rcases this with e | e | e
    · rw [e] at u10
      simp (disch := omega) only [zI_lit, zI_neg, zI_add, zI_sub, zI_mul, zI_div, q_md, zI_lt, zI_le, zI_eq, zI_clamp, zI_vp, forall_eq, mb_u_eq, mb_u_ne, upd_eq, q_if, q_ifn, if_pos, if_neg, true_and, and_true, if_true, if_false, u10, u8]
      rw [e]
      rfl
    · rw [e] at u10
      simp (disch := omega) only [zI_lit, zI_neg, zI_add, zI_sub, zI_mul, zI_div, q_md, zI_lt, zI_le, zI_eq, zI_clamp, zI_vp, forall_eq, mb_u_eq, mb_u_ne, upd_eq, q_if, q_ifn, if_pos, if_neg, true_and, and_true, if_true, if_false, u10, u8]
      rw [e]
      rfl
    · rw [e] at u10
      simp (disch := omega) only [zI_lit, zI_neg, zI_add, zI_sub, zI_mul, zI_div, q_md, zI_lt, zI_le, zI_eq, zI_clamp, zI_vp, forall_eq, mb_u_eq, mb_u_ne, upd_eq, q_if, q_ifn, if_pos, if_neg, true_and, and_true, if_true, if_false, u10, u8]
      rw [e]
      rfl
  unfold PX8_bends
  simp (disch := omega) only [zI_lit, zI_neg, zI_add, zI_sub, zI_mul, zI_div, q_md, zI_lt, zI_le, zI_eq, zI_clamp, zI_vp, forall_eq, mb_u_eq, mb_u_ne, upd_eq, q_if, q_ifn, if_pos, if_neg, true_and, and_true, if_true, if_false, q_all ha km]
  unfold bdI
  by_cases c : v 0 * v 1 - o ≤ o
  · simp (disch := omega) only [zI_lit, zI_neg, zI_add, zI_sub, zI_mul, zI_div, q_md, zI_lt, zI_le, zI_eq, zI_clamp, zI_vp, forall_eq, mb_u_eq, mb_u_ne, upd_eq, q_if, q_ifn, if_pos, if_neg, true_and, and_true, if_true, if_false, e22]
  · simp (disch := omega) only [zI_lit, zI_neg, zI_add, zI_sub, zI_mul, zI_div, q_md, zI_lt, zI_le, zI_eq, zI_clamp, zI_vp, forall_eq, mb_u_eq, mb_u_ne, upd_eq, q_if, q_ifn, if_pos, if_neg, true_and, and_true, if_true, if_false, e22]
theorem q_bendAt {N : Nat} {M : mb_m} {o : Int} {v : kN} {mw rp vf vt vw : Int → Int} {K : Int32 → mb_m → Prop} (kr : Kr v mw rp vf vt vw) (h3 : m1 M 3 (v 0 * v 1)) (h4 : m1 M 4 (v 3)) (h6 : m1 M 6 (v 5)) (h0 : 0 ≤ o) (h1 : o ≤ v 0 * v 1) : PX1_bendAt N M (zI o) K = K (zI (bdI v o)) M := by
  have al := all_rng kr
  obtain ⟨r1, r2, r3, r4, r5, r6, -⟩ := id kr
  have w3 : M 3 0 = zI (v 0 * v 1) := h3
  have w4 : M 4 0 = zI (v 3) := h4
  have w6 : M 6 0 = zI (v 5) := h6
  have hti : (zI (v 5)).toInt = v 5 := zI_ti (by omega) (by omega)
  have e5 : ∀ K : Int32 → mb_m → Prop, PX1_stiffness N M K = K (zI (sfI (v 5))) M := by
    intro K
    unfold PX1_stiffness
    rw [w6, hti]
    apply propext
    have : v 5 = 0 ∨ v 5 = 1 ∨ v 5 = 2 := by omega
    rcases this with e | e | e
    · rw [e]; exact ⟨fun z => z.1 (by omega), fun z => ⟨fun _ => z, fun y => absurd y (by omega), fun y => absurd y (by omega)⟩⟩
    · rw [e]; exact ⟨fun z => z.2.1 rfl, fun z => ⟨fun y => absurd y (by omega), fun _ => z, fun y => absurd y (by omega)⟩⟩
    · rw [e]; exact ⟨fun z => z.2.2 rfl, fun z => ⟨fun y => absurd y (by omega), fun y => absurd y (by omega), fun _ => z⟩⟩
  unfold PX1_bendAt
  rw [e5]
  simp (disch := omega) only [zI_lit, zI_neg, zI_add, zI_sub, zI_mul, zI_div, q_md, zI_lt, zI_le, zI_eq, zI_clamp, zI_vp, forall_eq, mb_u_eq, mb_u_ne, upd_eq, q_if, q_ifn, if_pos, if_neg, true_and, and_true, if_true, if_false, w3, w4, q_ite]
  unfold bdI
  congr 4
  (repeat' split) <;> omega
/-- the lowest opening with the greatest strain among the first -/
def wsI (f : Int → Int) : Nat → Int
  | 0 => 0
  | n + 1 => if f (wsI f n) < f (n + 1) then n + 1 else wsI f n
theorem wsI_step (f : Int → Int) {i : Int} (h : 1 ≤ i) : wsI f i.toNat = if f (wsI f (i - 1).toNat) < f i then i else wsI f (i - 1).toNat := by
  have e : i.toNat = (i - 1).toNat + 1 := by omega
  have e2 : ((i - 1).toNat : Int) + 1 = i := by omega
  rw [e]
  show (if f (wsI f (i - 1).toNat) < f (((i - 1).toNat : Int) + 1) then ((i - 1).toNat : Int) + 1 else wsI f (i - 1).toNat) = _
  rw [e2]
theorem wsI_rng (f : Int → Int) : ∀ n : Nat, 0 ≤ wsI f n ∧ wsI f n ≤ n
  | 0 => ⟨Int.le_refl _, Int.le_refl _⟩
  | n + 1 => by
    have h := wsI_rng f n
    show 0 ≤ (if f (wsI f n) < f (n + 1) then (n + 1 : Int) else wsI f n) ∧ (if f (wsI f n) < f (n + 1) then (n + 1 : Int) else wsI f n) ≤ _
    split <;> omega
theorem e_stiffest {N : Nat} {M : mb_m} {v : kN} {mw rp vf vt vw : Int → Int} {K : Int32 → mb_m → Prop} (hN : 700 ≤ N) (kr : Kr v mw rp vf vt vw) (h3 : m1 M 3 (v 0 * v 1)) (h4 : m1 M 4 (v 3)) (h6 : m1 M 6 (v 5)) (hK : K (zI (wsI (bdI v) (v 0 * v 1).toNat)) M) : PX1_stiffestOpening N M K := by
  have al := all_rng kr
  refine (q_for (σ := mb_m × Int32 × Int32) (fun n s => PX1_stiffestOpening_4 N K n s.1 s.2.1 s.2.2) (fun r0 s => PX1_stiffestOpening_4_b N K (fun a0 a1 a2 => r0 (a0, a1, a2)) s.1 s.2.1 s.2.2) (fun _ _ => rfl))
    (fun i s => s.1 = M ∧ s.2.1 = zI (wsI (bdI v) (i - 1).toNat) ∧ s.2.2 = zI i ∧ 1 ≤ i) (v 0 * v 1 + 1) ?_ ?_ N 1 (M, _, _) (by omega) (by omega) ?_
  · rintro i ⟨M1, y1, y2⟩ r hi hI hr
    dsimp only at hI hr ⊢
    obtain ⟨rfl, rfl, rfl, z0⟩ := hI
    have w3 : M1 3 0 = zI (v 0 * v 1) := h3
    have hw := wsI_rng (bdI v) (i - 1).toNat
    have hb1 := bdI_rng kr (o := i) (by omega) (by omega)
    have hb2 := bdI_rng kr (o := wsI (bdI v) (i - 1).toNat) (by omega) (by omega)
    have hst := wsI_step (bdI v) z0
    unfold PX1_stiffestOpening_4_b PX1_stiffestOpening_27
    simp (disch := omega) only [zI_lit, zI_neg, zI_add, zI_sub, zI_mul, zI_div, q_md, zI_lt, zI_le, zI_eq, zI_clamp, zI_vp, forall_eq, mb_u_eq, mb_u_ne, upd_eq, q_if, q_ifn, if_pos, if_neg, true_and, and_true, if_true, if_false, w3, q_bendAt kr h3 h4 h6]
    split
    · refine hr _ ⟨rfl, ?_, rfl, by omega⟩
      (try dsimp only)
      rw [show i + 1 - 1 = i by omega, hst, if_neg (by omega)]
    · refine hr _ ⟨rfl, ?_, rfl, by omega⟩
      (try dsimp only)
      rw [show i + 1 - 1 = i by omega, hst, if_pos (by omega)]
  · rintro ⟨M1, y1, y2⟩ r hI
    dsimp only at hI ⊢
    obtain ⟨rfl, rfl, rfl, z0⟩ := hI
    have w3 : M1 3 0 = zI (v 0 * v 1) := h3
    unfold PX1_stiffestOpening_4_b
    simp (disch := omega) only [zI_lit, zI_neg, zI_add, zI_sub, zI_mul, zI_div, q_md, zI_lt, zI_le, zI_eq, zI_clamp, zI_vp, forall_eq, mb_u_eq, mb_u_ne, upd_eq, q_if, q_ifn, if_pos, if_neg, true_and, and_true, if_true, if_false, w3]
    rw [show v 0 * v 1 + 1 - 1 = v 0 * v 1 by omega]
    exact hK
  · exact ⟨rfl, rfl, rfl, by omega⟩
theorem m_worst {N : Nat} {m : mb_m} {a : Int} {v : kN} {mw rp vf vt vw : Int → Int} {K : Int32 → mb_m → Prop} (hN : 700 ≤ N) (ha : 0 ≤ a ∧ a < 4) (kr : Kr v mw rp vf vt vw) (km : Km m a v mw rp vf vt vw) (hK : K (zI (wsI (bdI v) (v 0 * v 1).toNat)) m) : PX8_worst_20 N K N m (zI a) (zI 0) (zI 1) := by
  have al := all_rng kr
  refine (q_for (σ := mb_m × Int32 × Int32 × Int32) (fun n s => PX8_worst_20 N K n s.1 s.2.1 s.2.2.1 s.2.2.2) (fun r0 s => PX8_worst_20_b N K (fun a0 a1 a2 a3 => r0 (a0, a1, a2, a3)) s.1 s.2.1 s.2.2.1 s.2.2.2) (fun _ _ => rfl))
    (fun i s => s.1 = m ∧ s.2.1 = zI a ∧ s.2.2.1 = zI (wsI (bdI v) (i - 1).toNat) ∧ s.2.2.2 = zI i ∧ 1 ≤ i) (v 0 * v 1 + 1) ?_ ?_ N 1 (m, _, _, _) (by omega) (by omega) ?_
  · rintro i ⟨M1, y0, y1, y2⟩ r hi hI hr
    dsimp only at hI hr ⊢
    obtain ⟨rfl, rfl, rfl, rfl, z0⟩ := hI
    have hw := wsI_rng (bdI v) (i - 1).toNat
    have hb1 := bdI_rng kr (o := i) (by omega) (by omega)
    have hb2 := bdI_rng kr (o := wsI (bdI v) (i - 1).toNat) (by omega) (by omega)
    have hst := wsI_step (bdI v) z0
    unfold PX8_worst_20_b PX8_worst_49
    simp (disch := omega) only [zI_lit, zI_neg, zI_add, zI_sub, zI_mul, zI_div, q_md, zI_lt, zI_le, zI_eq, zI_clamp, zI_vp, forall_eq, mb_u_eq, mb_u_ne, upd_eq, q_if, q_ifn, if_pos, if_neg, true_and, and_true, if_true, if_false, q_all ha km, q_bends ha kr km]
    split
    · refine hr _ ⟨rfl, rfl, ?_, rfl, by omega⟩
      (try dsimp only)
      rw [show i + 1 - 1 = i by omega, hst, if_neg (by omega)]
    · refine hr _ ⟨rfl, rfl, ?_, rfl, by omega⟩
      (try dsimp only)
      rw [show i + 1 - 1 = i by omega, hst, if_pos (by omega)]
  · rintro ⟨M1, y0, y1, y2⟩ r hI
    dsimp only at hI ⊢
    obtain ⟨rfl, rfl, rfl, rfl, z0⟩ := hI
    unfold PX8_worst_20_b
    simp (disch := omega) only [zI_lit, zI_neg, zI_add, zI_sub, zI_mul, zI_div, q_md, zI_lt, zI_le, zI_eq, zI_clamp, zI_vp, forall_eq, mb_u_eq, mb_u_ne, upd_eq, q_if, q_ifn, if_pos, if_neg, true_and, and_true, if_true, if_false, q_all ha km]
    rw [show v 0 * v 1 + 1 - 1 = v 0 * v 1 by omega]
    exact hK
  · exact ⟨rfl, rfl, rfl, rfl, by omega⟩
def opI (f : Int → Int) (b : Int) (n : Nat) : Int := sI (fun k => qb (f k ≤ b)) n
theorem e_opens {N : Nat} {M M4 : mb_m} {v : kN} {mw rp vf vt vw : Int → Int} {b s : Int} {K : Int32 → (mb_m × mb_m) → Prop} (hN : 700 ≤ N) (kr : Kr v mw rp vf vt vw) (h3 : m1 M 3 (v 0 * v 1)) (h4 : m1 M 4 (v 3)) (h6 : m1 M 6 (v 5)) (hb : 0 ≤ b ∧ b ≤ 100000) (hs : 0 ≤ s ∧ s ≤ 5000)
    (hK : K (zI (opI (fun k => bdI v k + s) b (v 0 * v 1 + 1).toNat)) (M, M4)) : PX1_openingsWithin_13 N K N M M4 (zI b) (zI s) (zI 0) (zI 0) := by
  have al := all_rng kr
  refine (q_for (σ := mb_m × mb_m × Int32 × Int32 × Int32 × Int32) (fun n s => PX1_openingsWithin_13 N K n s.1 s.2.1 s.2.2.1 s.2.2.2.1 s.2.2.2.2.1 s.2.2.2.2.2) (fun r0 s => PX1_openingsWithin_13_b N K (fun a0 a1 a2 a3 a4 a5 => r0 (a0, a1, a2, a3, a4, a5)) s.1 s.2.1 s.2.2.1 s.2.2.2.1 s.2.2.2.2.1 s.2.2.2.2.2) (fun _ _ => rfl))
    (fun i t => t.1 = M ∧ t.2.1 = M4 ∧ t.2.2.1 = zI b ∧ t.2.2.2.1 = zI s ∧ t.2.2.2.2.1 = zI (opI (fun k => bdI v k + s) b i.toNat) ∧ t.2.2.2.2.2 = zI i ∧ 0 ≤ i) (v 0 * v 1 + 1) ?_ ?_ N 0 (M, M4, _, _, _, _) (by omega) (by omega) ?_
  · rintro i ⟨M1, M2, y0, y1, y2, y3⟩ r hi hI hr
    dsimp only at hI hr ⊢
    obtain ⟨rfl, rfl, rfl, rfl, rfl, rfl, z0⟩ := hI
    have w3 : M1 3 0 = zI (v 0 * v 1) := h3
    have hb1 := bdI_rng kr (o := i) (by omega) (by omega)
    have hst := sI_step (fun k => qb (bdI v k + s ≤ b)) z0
    unfold PX1_openingsWithin_13_b PX1_openingsWithin_40
    simp (disch := omega) only [zI_lit, zI_neg, zI_add, zI_sub, zI_mul, zI_div, q_md, zI_lt, zI_le, zI_eq, zI_clamp, zI_vp, forall_eq, mb_u_eq, mb_u_ne, upd_eq, q_if, q_ifn, if_pos, if_neg, true_and, and_true, if_true, if_false, w3, q_bendAt kr h3 h4 h6]
    have key : ∀ y : Int, y = qb (bdI v i + s ≤ b) → r (M1, M2, zI b, zI s, zI (opI (fun k => bdI v k + s) b i.toNat + y), zI (i + 1)) := by
      intro y hy
      exact hr _ ⟨rfl, rfl, rfl, rfl, by (try dsimp only); unfold opI; rw [hst, hy], rfl, by omega⟩
    split
    · exact key 0 (qb_f (by omega)).symm
    · exact key 1 (qb_t (by omega)).symm
  · rintro ⟨M1, M2, y0, y1, y2, y3⟩ r hI
    dsimp only at hI ⊢
    obtain ⟨rfl, rfl, rfl, rfl, rfl, rfl, z0⟩ := hI
    have w3 : M1 3 0 = zI (v 0 * v 1) := h3
    unfold PX1_openingsWithin_13_b
    simp (disch := omega) only [zI_lit, zI_neg, zI_add, zI_sub, zI_mul, zI_div, q_md, zI_lt, zI_le, zI_eq, zI_clamp, zI_vp, forall_eq, mb_u_eq, mb_u_ne, upd_eq, q_if, q_ifn, if_pos, if_neg, true_and, and_true, if_true, if_false, w3]
    exact hK
  · exact ⟨rfl, rfl, rfl, rfl, rfl, rfl, by omega⟩
theorem m_opens {N : Nat} {m : mb_m} {a b s : Int} {v : kN} {mw rp vf vt vw : Int → Int} {K : Int32 → mb_m → Prop} (hN : 700 ≤ N) (ha : 0 ≤ a ∧ a < 4) (kr : Kr v mw rp vf vt vw) (km : Km m a v mw rp vf vt vw) (hb : 0 ≤ b ∧ b ≤ 100000) (hs : 0 ≤ s ∧ s ≤ 5000)
    (hK : K (zI (opI (fun k => bdI v k + s) b (v 0 * v 1 + 1).toNat)) m) : PX8_opens_34 N K N m (zI a) (zI b) (zI 0) (zI s) (zI 0) := by
  have al := all_rng kr
  refine (q_for (σ := mb_m × Int32 × Int32 × Int32 × Int32 × Int32) (fun n s => PX8_opens_34 N K n s.1 s.2.1 s.2.2.1 s.2.2.2.1 s.2.2.2.2.1 s.2.2.2.2.2) (fun r0 s => PX8_opens_34_b N K (fun a0 a1 a2 a3 a4 a5 => r0 (a0, a1, a2, a3, a4, a5)) s.1 s.2.1 s.2.2.1 s.2.2.2.1 s.2.2.2.2.1 s.2.2.2.2.2) (fun _ _ => rfl))
    (fun i t => t.1 = m ∧ t.2.1 = zI a ∧ t.2.2.1 = zI b ∧ t.2.2.2.1 = zI (opI (fun k => bdI v k + s) b i.toNat) ∧ t.2.2.2.2.1 = zI s ∧ t.2.2.2.2.2 = zI i ∧ 0 ≤ i) (v 0 * v 1 + 1) ?_ ?_ N 0 (m, _, _, _, _, _) (by omega) (by omega) ?_
  · rintro i ⟨M1, y0, y1, y2, y3, y4⟩ r hi hI hr
    dsimp only at hI hr ⊢
    obtain ⟨rfl, rfl, rfl, rfl, rfl, rfl, z0⟩ := hI
    have hb1 := bdI_rng kr (o := i) (by omega) (by omega)
    have hst := sI_step (fun k => qb (bdI v k + s ≤ b)) z0
    unfold PX8_opens_34_b PX8_opens_64
    simp (disch := omega) only [zI_lit, zI_neg, zI_add, zI_sub, zI_mul, zI_div, q_md, zI_lt, zI_le, zI_eq, zI_clamp, zI_vp, forall_eq, mb_u_eq, mb_u_ne, upd_eq, q_if, q_ifn, if_pos, if_neg, true_and, and_true, if_true, if_false, q_all ha km, q_bends ha kr km]
    have key : ∀ y : Int, y = qb (bdI v i + s ≤ b) → r (M1, zI a, zI b, zI (opI (fun k => bdI v k + s) b i.toNat + y), zI s, zI (i + 1)) := by
      intro y hy
      exact hr _ ⟨rfl, rfl, rfl, by (try dsimp only); unfold opI; rw [hst, hy], rfl, rfl, by omega⟩
    split
    · exact key 0 (qb_f (by omega)).symm
    · exact key 1 (qb_t (by omega)).symm
  · rintro ⟨M1, y0, y1, y2, y3, y4⟩ r hI
    dsimp only at hI ⊢
    obtain ⟨rfl, rfl, rfl, rfl, rfl, rfl, z0⟩ := hI
    unfold PX8_opens_34_b
    simp (disch := omega) only [zI_lit, zI_neg, zI_add, zI_sub, zI_mul, zI_div, q_md, zI_lt, zI_le, zI_eq, zI_clamp, zI_vp, forall_eq, mb_u_eq, mb_u_ne, upd_eq, q_if, q_ifn, if_pos, if_neg, true_and, and_true, if_true, if_false, q_all ha km]
    exact hK
  · exact ⟨rfl, rfl, rfl, rfl, rfl, rfl, by omega⟩
theorem q_in_any {N : Nat} {x y z : Int32} {K : Int32 → Unit → Prop} (h1 : K (zI 1) ()) (h0 : K (zI 0) ()) : PX8_in N x y z K := by
  obtain ⟨a, la, ga, rfl⟩ := zI_ex x
  obtain ⟨b, lb, gb, rfl⟩ := zI_ex y
  obtain ⟨c, lc, gc, rfl⟩ := zI_ex z
  rw [q_in8 la ga lb gb lc gc]
  split
  · exact h1
  · exact h0
theorem s_swelling {N : Nat} {M7 MA : mb_m} {fP fB fK : Nat → Option Nat} {LP : List mb_p} {LB : List mb_k} {LS : List mb_p} {m : mb_m} (hN : 700 ≤ N) (h : Rm (M7, MA, fP, fB, fK, LP, LB, LS) m) (x1 : Int32) :
    BP_swelling N M7 MA fP fB fK LP LB LS x1 (fun r b => PX8_swelling N m x1 (Qe 0 r b)) (fun E b => (E = eO ∧ PX8_swelling N m x1 (Qe 1 0 b))) := by
  obtain ⟨a1, l1, g1, rfl⟩ := zI_ex x1
  obtain ⟨hA, hP, ⟨nb, p1, p2, p3, p5, p6, p7, p8⟩, hSk⟩ := id h
  (try dsimp only at hA hP hSk p2 p5 p6 p7)
  by_cases c : 0 ≤ a1 ∧ a1 < nb
  · obtain ⟨x, x1, x2, x3⟩ := p6 a1.toNat (by omega)
    have hx : LB.take a1.toNat ++ (x.1, x.2.1, x.2.2.1, x.2.2.2.1, x.2.2.2.2.1, x.2.2.2.2.2.1, x.2.2.2.2.2.2.1, x.2.2.2.2.2.2.2.1, x.2.2.2.2.2.2.2.2) :: LB.drop (a1.toNat + 1) = LB := (q_split x1).symm
    obtain ⟨v, mv, rp, vf, vt, vw, kr, kb, km⟩ := id x3
    rw [show ((a1.toNat : Nat) : Int) = a1 by omega] at km
    obtain ⟨r1, r2, r3, r4, r5, r6, r7, r8, r9, r10, r11, r12⟩ := id kr
    obtain ⟨⟨c3, c4, c5, c6⟩, ⟨⟨s0, s1, s5⟩, s4, sb⟩, b6⟩ := id kb
    have al := all_rng kr
    have hrg := tr_rng r1.1 r3.1 r10
    have hf9 : ∀ k, 0 ≤ (tr mv (v 6).toNat).1 k ∧ (tr mv (v 6).toNat).1 k ≤ 200 := fun k => by have := hrg.2.2.2.2.2.2.2.2.1 k; omega
    have hz9 := tr_zero r1.1 r3 r10
    have hsw := swI_rng hf9 (v 0).toNat (by omega)
    have km2 : Km (mb_u m 27 (mb_c (zI 0))) a1 v mv rp vf vt vw := Km_ag km kr (mf_ag (l := [27]) (mf_u (mf_refl _ _) _ (by decide)) (by decide) a1)
    have u5 : m 5 a1.toNat = zI (v 0) := km.1.1
    have u6 : m 6 a1.toNat = zI (v 1) := km.1.2.1
    have w3 : x.2.2.2.2.2.1 3 0 = zI (v 0 * v 1) := c3
    refine Or.inl ⟨_, x, _, q_split x1, ?_⟩
    unfold PX7_swelling
    refine b_on l1 g1 (by omega) x2 ?_
    (try dsimp only)
    refine ⟨rfl, ?_⟩
    refine e_swell hN sb.1 s0 s1 hf9 hz9 r1 r3 ?_
    (try dsimp only)
    rw [hx]
    unfold PX8_swelling
    simp (disch := omega) only [zI_lit, zI_neg, zI_add, zI_sub, zI_mul, zI_div, q_md, zI_lt, zI_le, zI_eq, zI_clamp, zI_vp, forall_eq, mb_u_eq, mb_u_ne, upd_eq, q_isBook l1 g1 p3]
    rw [if_pos (by omega), q_goes111]
    simp (disch := omega) only [zI_lit, zI_neg, zI_add, zI_sub, zI_mul, zI_div, q_md, zI_lt, zI_le, zI_eq, zI_clamp, zI_vp, forall_eq, mb_u_eq, mb_u_ne, upd_eq, q_if, q_ifn, if_pos, if_neg, true_and, and_true, if_true, if_false]
    exact m_swells hN (by omega) kr km (fun M' hf _ => Qe_q h hf rfl)
  · refine Or.inr ?_
    unfold PX7_swelling_n
    refine b_off l1 g1 c p7 ⟨rfl, ?_⟩
    unfold PX8_swelling
    simp (disch := omega) only [zI_lit, zI_neg, zI_add, zI_sub, zI_mul, zI_div, q_md, zI_lt, zI_le, zI_eq, zI_clamp, zI_vp, forall_eq, mb_u_eq, mb_u_ne, upd_eq, q_isBook l1 g1 p3]
    rw [if_neg (by omega), q_goes0]
    simp (disch := omega) only [zI_lit, zI_neg, zI_add, zI_sub, zI_mul, zI_div, q_md, zI_lt, zI_le, zI_eq, zI_clamp, zI_vp, forall_eq, mb_u_eq, mb_u_ne, upd_eq, q_if, q_ifn, if_pos, if_neg, true_and, and_true, if_true, if_false]
    exact Qe_x h (by decide)
theorem s_worst {N : Nat} {M7 MA : mb_m} {fP fB fK : Nat → Option Nat} {LP : List mb_p} {LB : List mb_k} {LS : List mb_p} {m : mb_m} (hN : 700 ≤ N) (h : Rm (M7, MA, fP, fB, fK, LP, LB, LS) m) (x1 : Int32) :
    BP_worst N M7 MA fP fB fK LP LB LS x1 (fun r b => PX8_worst N m x1 (Qe 0 r b)) (fun E b => (E = eO ∧ PX8_worst N m x1 (Qe 1 0 b))) := by
  obtain ⟨a1, l1, g1, rfl⟩ := zI_ex x1
  obtain ⟨hA, hP, ⟨nb, p1, p2, p3, p5, p6, p7, p8⟩, hSk⟩ := id h
  (try dsimp only at hA hP hSk p2 p5 p6 p7)
  by_cases c : 0 ≤ a1 ∧ a1 < nb
  · obtain ⟨x, x1, x2, x3⟩ := p6 a1.toNat (by omega)
    have hx : LB.take a1.toNat ++ (x.1, x.2.1, x.2.2.1, x.2.2.2.1, x.2.2.2.2.1, x.2.2.2.2.2.1, x.2.2.2.2.2.2.1, x.2.2.2.2.2.2.2.1, x.2.2.2.2.2.2.2.2) :: LB.drop (a1.toNat + 1) = LB := (q_split x1).symm
    obtain ⟨v, mv, rp, vf, vt, vw, kr, kb, km⟩ := id x3
    rw [show ((a1.toNat : Nat) : Int) = a1 by omega] at km
    obtain ⟨r1, r2, r3, r4, r5, r6, r7, r8, r9, r10, r11, r12⟩ := id kr
    obtain ⟨⟨c3, c4, c5, c6⟩, ⟨⟨s0, s1, s5⟩, s4, sb⟩, b6⟩ := id kb
    have al := all_rng kr
    have hrg := tr_rng r1.1 r3.1 r10
    have hf9 : ∀ k, 0 ≤ (tr mv (v 6).toNat).1 k ∧ (tr mv (v 6).toNat).1 k ≤ 200 := fun k => by have := hrg.2.2.2.2.2.2.2.2.1 k; omega
    have hz9 := tr_zero r1.1 r3 r10
    have hsw := swI_rng hf9 (v 0).toNat (by omega)
    have km2 : Km (mb_u m 27 (mb_c (zI 0))) a1 v mv rp vf vt vw := Km_ag km kr (mf_ag (l := [27]) (mf_u (mf_refl _ _) _ (by decide)) (by decide) a1)
    have u5 : m 5 a1.toNat = zI (v 0) := km.1.1
    have u6 : m 6 a1.toNat = zI (v 1) := km.1.2.1
    have w3 : x.2.2.2.2.2.1 3 0 = zI (v 0 * v 1) := c3
    refine Or.inl ⟨_, x, _, q_split x1, ?_⟩
    unfold PX7_worst
    refine b_on l1 g1 (by omega) x2 ?_
    (try dsimp only)
    refine ⟨rfl, ?_⟩
    refine e_stiffest hN kr c3 c4 c6 ?_
    (try dsimp only)
    rw [hx]
    unfold PX8_worst
    simp (disch := omega) only [zI_lit, zI_neg, zI_add, zI_sub, zI_mul, zI_div, q_md, zI_lt, zI_le, zI_eq, zI_clamp, zI_vp, forall_eq, mb_u_eq, mb_u_ne, upd_eq, q_isBook l1 g1 p3]
    rw [if_pos (by omega), q_goes111]
    simp (disch := omega) only [zI_lit, zI_neg, zI_add, zI_sub, zI_mul, zI_div, q_md, zI_lt, zI_le, zI_eq, zI_clamp, zI_vp, forall_eq, mb_u_eq, mb_u_ne, upd_eq, q_if, q_ifn, if_pos, if_neg, true_and, and_true, if_true, if_false]
    exact m_worst hN (by omega) kr km2 (Qe_q h (mf_refl _ _) rfl)
  · refine Or.inr ?_
    unfold PX7_worst_n
    refine b_off l1 g1 c p7 ⟨rfl, ?_⟩
    unfold PX8_worst
    simp (disch := omega) only [zI_lit, zI_neg, zI_add, zI_sub, zI_mul, zI_div, q_md, zI_lt, zI_le, zI_eq, zI_clamp, zI_vp, forall_eq, mb_u_eq, mb_u_ne, upd_eq, q_isBook l1 g1 p3]
    rw [if_neg (by omega), q_goes0]
    simp (disch := omega) only [zI_lit, zI_neg, zI_add, zI_sub, zI_mul, zI_div, q_md, zI_lt, zI_le, zI_eq, zI_clamp, zI_vp, forall_eq, mb_u_eq, mb_u_ne, upd_eq, q_if, q_ifn, if_pos, if_neg, true_and, and_true, if_true, if_false]
    exact Qe_x h (by decide)
theorem s_opens {N : Nat} {M7 MA : mb_m} {fP fB fK : Nat → Option Nat} {LP : List mb_p} {LB : List mb_k} {LS : List mb_p} {m : mb_m} (hN : 700 ≤ N) (h : Rm (M7, MA, fP, fB, fK, LP, LB, LS) m) (x1 x2 : Int32) :
    BP_opens N M7 MA fP fB fK LP LB LS x1 x2 (fun r b => PX8_opens N m x1 x2 (Qe 0 r b)) (fun E b => (E = eO ∧ PX8_opens N m x1 x2 (Qe 1 0 b)) ∨ (E = eA ∧ PX8_opens N m x1 x2 (Qe 2 0 b))) := by
  obtain ⟨a1, l1, g1, rfl⟩ := zI_ex x1
  obtain ⟨a2, l2, g2, rfl⟩ := zI_ex x2
  obtain ⟨hA, hP, ⟨nb, p1, p2, p3, p5, p6, p7, p8⟩, hSk⟩ := id h
  (try dsimp only at hA hP hSk p2 p5 p6 p7)
  by_cases c : 0 ≤ a1 ∧ a1 < nb
  · obtain ⟨x, x1, x2, x3⟩ := p6 a1.toNat (by omega)
    have hx : LB.take a1.toNat ++ (x.1, x.2.1, x.2.2.1, x.2.2.2.1, x.2.2.2.2.1, x.2.2.2.2.2.1, x.2.2.2.2.2.2.1, x.2.2.2.2.2.2.2.1, x.2.2.2.2.2.2.2.2) :: LB.drop (a1.toNat + 1) = LB := (q_split x1).symm
    obtain ⟨v, mv, rp, vf, vt, vw, kr, kb, km⟩ := id x3
    rw [show ((a1.toNat : Nat) : Int) = a1 by omega] at km
    obtain ⟨r1, r2, r3, r4, r5, r6, r7, r8, r9, r10, r11, r12⟩ := id kr
    obtain ⟨⟨c3, c4, c5, c6⟩, ⟨⟨s0, s1, s5⟩, s4, sb⟩, b6⟩ := id kb
    have al := all_rng kr
    have hrg := tr_rng r1.1 r3.1 r10
    have hf9 : ∀ k, 0 ≤ (tr mv (v 6).toNat).1 k ∧ (tr mv (v 6).toNat).1 k ≤ 200 := fun k => by have := hrg.2.2.2.2.2.2.2.2.1 k; omega
    have hz9 := tr_zero r1.1 r3 r10
    have hsw := swI_rng hf9 (v 0).toNat (by omega)
    have km2 : Km (mb_u m 27 (mb_c (zI 0))) a1 v mv rp vf vt vw := Km_ag km kr (mf_ag (l := [27]) (mf_u (mf_refl _ _) _ (by decide)) (by decide) a1)
    have u5 : m 5 a1.toNat = zI (v 0) := km.1.1
    have u6 : m 6 a1.toNat = zI (v 1) := km.1.2.1
    have w3 : x.2.2.2.2.2.1 3 0 = zI (v 0 * v 1) := c3
    refine Or.inl ⟨_, x, _, q_split x1, ?_⟩
    unfold PX7_opens
    refine b_on l1 g1 (by omega) x2 ?_
    (try dsimp only)
    simp (disch := omega) only [zI_lit, zI_neg, zI_add, zI_sub, zI_mul, zI_div, q_md, zI_lt, zI_le, zI_eq, zI_clamp, zI_vp, forall_eq, mb_u_eq, mb_u_ne, upd_eq, q_isWithin]
    by_cases c2 : 0 ≤ a2 ∧ a2 ≤ 100000
    · rw [if_pos c2, q_demandArgument1]
      refine ⟨trivial, ?_⟩
      unfold PX1_openingsWithin
      refine e_swell hN sb.1 s0 s1 hf9 hz9 r1 r3 ?_
      refine e_opens hN kr c3 c4 c6 c2 (by omega) ?_
      (try dsimp only)
      rw [hx]
      unfold PX8_opens
      simp (disch := omega) only [zI_lit, zI_neg, zI_add, zI_sub, zI_mul, zI_div, q_md, zI_lt, zI_le, zI_eq, zI_clamp, zI_vp, forall_eq, mb_u_eq, mb_u_ne, upd_eq, q_isBook l1 g1 p3, q_in8]
      rw [if_pos (by omega), if_pos c2, q_goes111]
      simp (disch := omega) only [zI_lit, zI_neg, zI_add, zI_sub, zI_mul, zI_div, q_md, zI_lt, zI_le, zI_eq, zI_clamp, zI_vp, forall_eq, mb_u_eq, mb_u_ne, upd_eq, q_if, q_ifn, if_pos, if_neg, true_and, and_true, if_true, if_false]
      refine m_swells hN (by omega) kr km (fun M' hf km' => ?_)
      exact m_opens hN (by omega) kr km' c2 (by omega) (Qe_q h hf rfl)
    · rw [if_neg c2, q_demandArgument0]
      rw [hx]
      refine Or.inr ⟨rfl, ?_⟩
      unfold PX8_opens
      simp (disch := omega) only [zI_lit, zI_neg, zI_add, zI_sub, zI_mul, zI_div, q_md, zI_lt, zI_le, zI_eq, zI_clamp, zI_vp, forall_eq, mb_u_eq, mb_u_ne, upd_eq, q_isBook l1 g1 p3, q_in8]
      rw [if_pos (by omega), if_neg c2, q_goes10]
      simp (disch := omega) only [zI_lit, zI_neg, zI_add, zI_sub, zI_mul, zI_div, q_md, zI_lt, zI_le, zI_eq, zI_clamp, zI_vp, forall_eq, mb_u_eq, mb_u_ne, upd_eq, q_if, q_ifn, if_pos, if_neg, true_and, and_true, if_true, if_false]
      exact Qe_x h (by decide)
  · refine Or.inr ?_
    unfold PX7_opens_n
    refine b_off l1 g1 c p7 (Or.inl ⟨rfl, ?_⟩)
    unfold PX8_opens
    simp (disch := omega) only [zI_lit, zI_neg, zI_add, zI_sub, zI_mul, zI_div, q_md, zI_lt, zI_le, zI_eq, zI_clamp, zI_vp, forall_eq, mb_u_eq, mb_u_ne, upd_eq, q_isBook l1 g1 p3, q_in8]
    rw [if_neg (by omega)]
    split
    · rw [q_goes0]
      simp (disch := omega) only [zI_lit, zI_neg, zI_add, zI_sub, zI_mul, zI_div, q_md, zI_lt, zI_le, zI_eq, zI_clamp, zI_vp, forall_eq, mb_u_eq, mb_u_ne, upd_eq, q_if, q_ifn, if_pos, if_neg, true_and, and_true, if_true, if_false]
      exact Qe_x h (by decide)
    · rw [q_goes0]
      simp (disch := omega) only [zI_lit, zI_neg, zI_add, zI_sub, zI_mul, zI_div, q_md, zI_lt, zI_le, zI_eq, zI_clamp, zI_vp, forall_eq, mb_u_eq, mb_u_ne, upd_eq, q_if, q_ifn, if_pos, if_neg, true_and, and_true, if_true, if_false]
      exact Qe_x h (by decide)
theorem s_strain {N : Nat} {M7 MA : mb_m} {fP fB fK : Nat → Option Nat} {LP : List mb_p} {LB : List mb_k} {LS : List mb_p} {m : mb_m} (hN : 700 ≤ N) (h : Rm (M7, MA, fP, fB, fK, LP, LB, LS) m) (x1 x2 : Int32) :
    BP_strain N M7 MA fP fB fK LP LB LS x1 x2 (fun r b => PX8_strain N m x1 x2 (Qe 0 r b)) (fun E b => (E = eO ∧ PX8_strain N m x1 x2 (Qe 1 0 b)) ∨ (E = eA ∧ PX8_strain N m x1 x2 (Qe 2 0 b))) := by
  obtain ⟨a1, l1, g1, rfl⟩ := zI_ex x1
  obtain ⟨a2, l2, g2, rfl⟩ := zI_ex x2
  obtain ⟨hA, hP, ⟨nb, p1, p2, p3, p5, p6, p7, p8⟩, hSk⟩ := id h
  (try dsimp only at hA hP hSk p2 p5 p6 p7)
  by_cases c : 0 ≤ a1 ∧ a1 < nb
  · obtain ⟨x, x1, x2, x3⟩ := p6 a1.toNat (by omega)
    have hx : LB.take a1.toNat ++ (x.1, x.2.1, x.2.2.1, x.2.2.2.1, x.2.2.2.2.1, x.2.2.2.2.2.1, x.2.2.2.2.2.2.1, x.2.2.2.2.2.2.2.1, x.2.2.2.2.2.2.2.2) :: LB.drop (a1.toNat + 1) = LB := (q_split x1).symm
    obtain ⟨v, mv, rp, vf, vt, vw, kr, kb, km⟩ := id x3
    rw [show ((a1.toNat : Nat) : Int) = a1 by omega] at km
    obtain ⟨r1, r2, r3, r4, r5, r6, r7, r8, r9, r10, r11, r12⟩ := id kr
    obtain ⟨⟨c3, c4, c5, c6⟩, ⟨⟨s0, s1, s5⟩, s4, sb⟩, b6⟩ := id kb
    have al := all_rng kr
    have hrg := tr_rng r1.1 r3.1 r10
    have hf9 : ∀ k, 0 ≤ (tr mv (v 6).toNat).1 k ∧ (tr mv (v 6).toNat).1 k ≤ 200 := fun k => by have := hrg.2.2.2.2.2.2.2.2.1 k; omega
    have hz9 := tr_zero r1.1 r3 r10
    have hsw := swI_rng hf9 (v 0).toNat (by omega)
    have km2 : Km (mb_u m 27 (mb_c (zI 0))) a1 v mv rp vf vt vw := Km_ag km kr (mf_ag (l := [27]) (mf_u (mf_refl _ _) _ (by decide)) (by decide) a1)
    have u5 : m 5 a1.toNat = zI (v 0) := km.1.1
    have u6 : m 6 a1.toNat = zI (v 1) := km.1.2.1
    have w3 : x.2.2.2.2.2.1 3 0 = zI (v 0 * v 1) := c3
    refine Or.inl ⟨_, x, _, q_split x1, ?_⟩
    unfold PX7_strain
    refine b_on l1 g1 (by omega) x2 ?_
    (try dsimp only)
    refine ⟨rfl, ?_⟩
    simp (disch := omega) only [zI_lit, zI_neg, zI_add, zI_sub, zI_mul, zI_div, q_md, zI_lt, zI_le, zI_eq, zI_clamp, zI_vp, forall_eq, mb_u_eq, mb_u_ne, upd_eq, q_isWithin, w3]
    by_cases c2 : 0 ≤ a2 ∧ a2 ≤ v 0 * v 1
    · rw [if_pos c2, q_demandArgument1, q_bendAt kr c3 c4 c6 c2.1 c2.2]
      refine e_swell hN sb.1 s0 s1 hf9 hz9 r1 r3 ?_
      (try dsimp only)
      rw [hx]
      unfold PX8_strain PX8_strain_20
      simp (disch := omega) only [zI_lit, zI_neg, zI_add, zI_sub, zI_mul, zI_div, q_md, zI_lt, zI_le, zI_eq, zI_clamp, zI_vp, forall_eq, mb_u_eq, mb_u_ne, upd_eq, q_isBook l1 g1 p3]
      rw [if_pos (by omega)]
      simp (disch := omega) only [zI_lit, zI_neg, zI_add, zI_sub, zI_mul, zI_div, q_md, zI_lt, zI_le, zI_eq, zI_clamp, zI_vp, forall_eq, mb_u_eq, mb_u_ne, upd_eq, q_if, q_ifn, if_pos, if_neg, true_and, and_true, if_true, if_false, q_all (by omega) km, q_in8]
      rw [q_goes111]
      simp (disch := omega) only [zI_lit, zI_neg, zI_add, zI_sub, zI_mul, zI_div, q_md, zI_lt, zI_le, zI_eq, zI_clamp, zI_vp, forall_eq, mb_u_eq, mb_u_ne, upd_eq, q_if, q_ifn, if_pos, if_neg, true_and, and_true, if_true, if_false]
      rw [q_bends (by omega) kr km2 c2.1 c2.2]
      exact m_swells hN (by omega) kr km (fun M' hf _ => Qe_q h hf (zI_add _ _))
    · rw [if_neg c2, q_demandArgument0]
      rw [hx]
      refine Or.inr ⟨rfl, ?_⟩
      unfold PX8_strain PX8_strain_20
      simp (disch := omega) only [zI_lit, zI_neg, zI_add, zI_sub, zI_mul, zI_div, q_md, zI_lt, zI_le, zI_eq, zI_clamp, zI_vp, forall_eq, mb_u_eq, mb_u_ne, upd_eq, q_isBook l1 g1 p3]
      rw [if_pos (by omega)]
      simp (disch := omega) only [zI_lit, zI_neg, zI_add, zI_sub, zI_mul, zI_div, q_md, zI_lt, zI_le, zI_eq, zI_clamp, zI_vp, forall_eq, mb_u_eq, mb_u_ne, upd_eq, q_if, q_ifn, if_pos, if_neg, true_and, and_true, if_true, if_false, q_all (by omega) km, q_in8]
      rw [q_goes10]
      simp (disch := omega) only [zI_lit, zI_neg, zI_add, zI_sub, zI_mul, zI_div, q_md, zI_lt, zI_le, zI_eq, zI_clamp, zI_vp, forall_eq, mb_u_eq, mb_u_ne, upd_eq, q_if, q_ifn, if_pos, if_neg, true_and, and_true, if_true, if_false]
      exact Qe_x h (by decide)
  · refine Or.inr ?_
    unfold PX7_strain_n
    refine b_off l1 g1 c p7 (Or.inl ⟨rfl, ?_⟩)
    unfold PX8_strain PX8_strain_20
    simp (disch := omega) only [zI_lit, zI_neg, zI_add, zI_sub, zI_mul, zI_div, q_md, zI_lt, zI_le, zI_eq, zI_clamp, zI_vp, forall_eq, mb_u_eq, mb_u_ne, upd_eq, q_isBook l1 g1 p3]
    rw [if_neg (by omega)]
    simp (disch := omega) only [zI_lit, zI_neg, zI_add, zI_sub, zI_mul, zI_div, q_md, zI_lt, zI_le, zI_eq, zI_clamp, zI_vp, forall_eq, mb_u_eq, mb_u_ne, upd_eq, q_if, q_ifn, if_pos, if_neg, true_and, and_true, if_true, if_false]
    unfold PX8_all
    simp (disch := omega) only [zI_lit, zI_neg, zI_add, zI_sub, zI_mul, zI_div, q_md, zI_lt, zI_le, zI_eq, zI_clamp, zI_vp, forall_eq, mb_u_eq, mb_u_ne, upd_eq, q_if, q_ifn, if_pos, if_neg, true_and, and_true, if_true, if_false]
    have k : ∀ y : Int32, PX8_goes N m (zI 0) y (zI 1) (fun r27 M27 => if r27 = zI 0 then Qe 1 (zI 0) (M7, MA, fP, fB, fK, LP, LB, LS) (zI 0) M27 else PX8_bends N M27 (zI a1) (zI a2) fun r36 M36 => PX8_swells N M36 (zI a1) fun r41 M41 => Qe 1 (zI 0) (M7, MA, fP, fB, fK, LP, LB, LS) (r36 + r41) M41) := by
      intro y
      rw [q_goes0]
      simp (disch := omega) only [zI_lit, zI_neg, zI_add, zI_sub, zI_mul, zI_div, q_md, zI_lt, zI_le, zI_eq, zI_clamp, zI_vp, forall_eq, mb_u_eq, mb_u_ne, upd_eq, q_if, q_ifn, if_pos, if_neg, true_and, and_true, if_true, if_false]
      exact Qe_x h (by decide)
    exact q_in_any (k _) (k _)
