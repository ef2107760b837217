/-- the strain of an opening but for the swelling -/
def sfI (s : Int) : Int := if s = 0 then 4 else if s = 1 then 1 else 2
def bdI (v : kN) (o : Int) : Int := (if v 0 * v 1 - o ≤ o then v 0 * v 1 - o else o) * v 3 * sfI (v 5)
theorem mul_rng {a b A B : Int} (h1 : 0 ≤ a) (h2 : a ≤ A) (h3 : 0 ≤ b) (h4 : b ≤ B) : 0 ≤ a * b ∧ a * b ≤ A * B :=
  ⟨Int.mul_nonneg h1 h3, Int.mul_le_mul h2 h4 h3 (by omega)⟩
theorem all_rng {v : kN} {mw rp vf vt vw : Int → Int} (kr : Kr v mw rp vf vt vw) : 2 ≤ v 0 * v 1 ∧ v 0 * v 1 ≤ 128 := by
  obtain ⟨r1, r2, -⟩ := kr
  have := mul_rng (a := v 0) (b := v 1) (A := 8) (B := 16) (by omega) (by omega) (by omega) (by omega)
  have h2 : 1 * 2 ≤ v 0 * v 1 := Int.mul_le_mul (by omega) (by omega) (by omega) (by omega)
  omega
theorem bdI_rng {v : kN} {mw rp vf vt vw : Int → Int} (kr : Kr v mw rp vf vt vw) {o : Int} (h0 : 0 ≤ o) (h1 : o ≤ v 0 * v 1) : 0 ≤ bdI v o ∧ bdI v o ≤ 4608 := by
  have ha := all_rng kr
  obtain ⟨r1, r2, r3, r4, r5, r6, -⟩ := kr
  have hl : 0 ≤ (if v 0 * v 1 - o ≤ o then v 0 * v 1 - o else o) ∧ (if v 0 * v 1 - o ≤ o then v 0 * v 1 - o else o) ≤ 128 := by split <;> omega
  have hs : 0 ≤ sfI (v 5) ∧ sfI (v 5) ≤ 4 := by unfold sfI; (repeat' split) <;> omega
  have h2 := mul_rng hl.1 hl.2 (by omega : 0 ≤ v 3) r4.2
  have h3 := mul_rng h2.1 h2.2 hs.1 hs.2
  unfold bdI
  omega
theorem q_bendAt {N : Nat} {M : mb_m} {o : Int} {v : kN} {mw rp vf vt vw : Int → Int} {K : Int32 → mb_m → Prop} (kr : Kr v mw rp vf vt vw) (h3 : m1 M 3 (v 0 * v 1)) (h4 : m1 M 4 (v 3)) (h6 : m1 M 6 (v 5)) (h0 : 0 ≤ o) (h1 : o ≤ v 0 * v 1) : PX1_bendAt N M (zI o) K = K (zI (bdI v o)) M := by
  have al := all_rng kr
  obtain ⟨r1, r2, r3, r4, r5, r6, -⟩ := id kr
  have w3 : M 3 0 = zI (v 0 * v 1) := h3
  have w4 : M 4 0 = zI (v 3) := h4
  have w6 : M 6 0 = zI (v 5) := h6
  have hti : (zI (v 5)).toInt = v 5 := zI_ti (by omega) (by omega)
  have e5 : ∀ K : Int32 → mb_m → Prop, PX1_stiffness N M K = K (zI (sfI (v 5))) M := by
    intro K
    unfold PX1_stiffness
    rw [w6, hti]
    apply propext
    have : v 5 = 0 ∨ v 5 = 1 ∨ v 5 = 2 := by omega
    rcases this with e | e | e
    · rw [e]; exact ⟨fun z => z.1 (by omega), fun z => ⟨fun _ => z, fun y => absurd y (by omega), fun y => absurd y (by omega)⟩⟩
    · rw [e]; exact ⟨fun z => z.2.1 rfl, fun z => ⟨fun y => absurd y (by omega), fun _ => z, fun y => absurd y (by omega)⟩⟩
    · rw [e]; exact ⟨fun z => z.2.2 rfl, fun z => ⟨fun y => absurd y (by omega), fun y => absurd y (by omega), fun _ => z⟩⟩
  unfold PX1_bendAt
  rw [e5]
  simp (disch := omega) only [zI_lit, zI_neg, zI_add, zI_sub, zI_mul, zI_div, q_md, zI_lt, zI_le, zI_eq, zI_clamp, zI_vp, forall_eq, mb_u_eq, mb_u_ne, upd_eq, q_if, q_ifn, if_pos, if_neg, true_and, and_true, if_true, if_false, w3, w4, q_ite]
  unfold bdI
  congr 4
  (repeat' split) <;> omega
/-- the lowest opening with the greatest strain among the first -/
def wsI (f : Int → Int) : Nat → Int
  | 0 => 0
  | n + 1 => if f (wsI f n) < f (n + 1) then n + 1 else wsI f n
theorem wsI_step (f : Int → Int) {i : Int} (h : 1 ≤ i) : wsI f i.toNat = if f (wsI f (i - 1).toNat) < f i then i else wsI f (i - 1).toNat := by
  have e : i.toNat = (i - 1).toNat + 1 := by omega
  have e2 : ((i - 1).toNat : Int) + 1 = i := by omega
  rw [e]
  show (if f (wsI f (i - 1).toNat) < f (((i - 1).toNat : Int) + 1) then ((i - 1).toNat : Int) + 1 else wsI f (i - 1).toNat) = _
  rw [e2]
theorem wsI_rng (f : Int → Int) : ∀ n : Nat, 0 ≤ wsI f n ∧ wsI f n ≤ n
  | 0 => ⟨Int.le_refl _, Int.le_refl _⟩
  | n + 1 => by
    have h := wsI_rng f n
    show 0 ≤ (if f (wsI f n) < f (n + 1) then (n + 1 : Int) else wsI f n) ∧ (if f (wsI f n) < f (n + 1) then (n + 1 : Int) else wsI f n) ≤ _
    split <;> omega
theorem e_stiffest {N : Nat} {M : mb_m} {v : kN} {mw rp vf vt vw : Int → Int} {K : Int32 → mb_m → Prop} (hN : 700 ≤ N) (kr : Kr v mw rp vf vt vw) (h3 : m1 M 3 (v 0 * v 1)) (h4 : m1 M 4 (v 3)) (h6 : m1 M 6 (v 5)) (hK : K (zI (wsI (bdI v) (v 0 * v 1).toNat)) M) : PX1_stiffestOpening N M K := by
  have al := all_rng kr
  refine (q_for (σ := mb_m × Int32 × Int32) (fun n s => PX1_stiffestOpening_4 N K n s.1 s.2.1 s.2.2) (fun r0 s => PX1_stiffestOpening_4_b N K (fun a0 a1 a2 => r0 (a0, a1, a2)) s.1 s.2.1 s.2.2) (fun _ _ => rfl))
    (fun i s => s.1 = M ∧ s.2.1 = zI (wsI (bdI v) (i - 1).toNat) ∧ s.2.2 = zI i ∧ 1 ≤ i) (v 0 * v 1 + 1) ?_ ?_ N 1 (M, _, _) (by omega) (by omega) ?_
  · rintro i ⟨M1, y1, y2⟩ r hi hI hr
    dsimp only at hI hr ⊢
    obtain ⟨rfl, rfl, rfl, z0⟩ := hI
    have w3 : M1 3 0 = zI (v 0 * v 1) := h3
    have hw := wsI_rng (bdI v) (i - 1).toNat
    have hb1 := bdI_rng kr (o := i) (by omega) (by omega)
    have hb2 := bdI_rng kr (o := wsI (bdI v) (i - 1).toNat) (by omega) (by omega)
    have hst := wsI_step (bdI v) z0
    unfold PX1_stiffestOpening_4_b PX1_stiffestOpening_27
    simp (disch := omega) only [zI_lit, zI_neg, zI_add, zI_sub, zI_mul, zI_div, q_md, zI_lt, zI_le, zI_eq, zI_clamp, zI_vp, forall_eq, mb_u_eq, mb_u_ne, upd_eq, q_if, q_ifn, if_pos, if_neg, true_and, and_true, if_true, if_false, w3, q_bendAt kr h3 h4 h6]
    split
    · refine hr _ ⟨rfl, ?_, rfl, by omega⟩
      (try dsimp only)
      rw [show i + 1 - 1 = i by omega, hst, if_neg (by omega)]
    · refine hr _ ⟨rfl, ?_, rfl, by omega⟩
      (try dsimp only)
      rw [show i + 1 - 1 = i by omega, hst, if_pos (by omega)]
  · rintro ⟨M1, y1, y2⟩ r hI
    dsimp only at hI ⊢
    obtain ⟨rfl, rfl, rfl, z0⟩ := hI
    have w3 : M1 3 0 = zI (v 0 * v 1) := h3
    unfold PX1_stiffestOpening_4_b
    simp (disch := omega) only [zI_lit, zI_neg, zI_add, zI_sub, zI_mul, zI_div, q_md, zI_lt, zI_le, zI_eq, zI_clamp, zI_vp, forall_eq, mb_u_eq, mb_u_ne, upd_eq, q_if, q_ifn, if_pos, if_neg, true_and, and_true, if_true, if_false, w3]
    rw [show v 0 * v 1 + 1 - 1 = v 0 * v 1 by omega]
    exact hK
  · exact ⟨rfl, rfl, rfl, by omega⟩
def opI (f : Int → Int) (b : Int) (n : Nat) : Int := sI (fun k => qb (f k ≤ b)) n
theorem e_opens {N : Nat} {M M4 : mb_m} {v : kN} {mw rp vf vt vw : Int → Int} {b s : Int} {K : Int32 → (mb_m × mb_m) → Prop} (hN : 700 ≤ N) (kr : Kr v mw rp vf vt vw) (h3 : m1 M 3 (v 0 * v 1)) (h4 : m1 M 4 (v 3)) (h6 : m1 M 6 (v 5)) (hb : 0 ≤ b ∧ b ≤ 100000) (hs : 0 ≤ s ∧ s ≤ 5000)
    (hK : K (zI (opI (fun k => bdI v k + s) b (v 0 * v 1 + 1).toNat)) (M, M4)) : PX1_openingsWithin_13 N K N M M4 (zI b) (zI s) (zI 0) (zI 0) := by
  have al := all_rng kr
  refine (q_for (σ := mb_m × mb_m × Int32 × Int32 × Int32 × Int32) (fun n s => PX1_openingsWithin_13 N K n s.1 s.2.1 s.2.2.1 s.2.2.2.1 s.2.2.2.2.1 s.2.2.2.2.2) (fun r0 s => PX1_openingsWithin_13_b N K (fun a0 a1 a2 a3 a4 a5 => r0 (a0, a1, a2, a3, a4, a5)) s.1 s.2.1 s.2.2.1 s.2.2.2.1 s.2.2.2.2.1 s.2.2.2.2.2) (fun _ _ => rfl))
    (fun i t => t.1 = M ∧ t.2.1 = M4 ∧ t.2.2.1 = zI b ∧ t.2.2.2.1 = zI s ∧ t.2.2.2.2.1 = zI (opI (fun k => bdI v k + s) b i.toNat) ∧ t.2.2.2.2.2 = zI i ∧ 0 ≤ i) (v 0 * v 1 + 1) ?_ ?_ N 0 (M, M4, _, _, _, _) (by omega) (by omega) ?_
  · rintro i ⟨M1, M2, y0, y1, y2, y3⟩ r hi hI hr
    dsimp only at hI hr ⊢
    obtain ⟨rfl, rfl, rfl, rfl, rfl, rfl, z0⟩ := hI
    have w3 : M1 3 0 = zI (v 0 * v 1) := h3
    have hb1 := bdI_rng kr (o := i) (by omega) (by omega)
    have hst := sI_step (fun k => qb (bdI v k + s ≤ b)) z0
    unfold PX1_openingsWithin_13_b PX1_openingsWithin_40
    simp (disch := omega) only [zI_lit, zI_neg, zI_add, zI_sub, zI_mul, zI_div, q_md, zI_lt, zI_le, zI_eq, zI_clamp, zI_vp, forall_eq, mb_u_eq, mb_u_ne, upd_eq, q_if, q_ifn, if_pos, if_neg, true_and, and_true, if_true, if_false, w3, q_bendAt kr h3 h4 h6]
    have key : ∀ y : Int, y = qb (bdI v i + s ≤ b) → r (M1, M2, zI b, zI s, zI (opI (fun k => bdI v k + s) b i.toNat + y), zI (i + 1)) := by
      intro y hy
      exact hr _ ⟨rfl, rfl, rfl, rfl, by (try dsimp only); unfold opI; rw [hst, hy], rfl, by omega⟩
    split
    · exact key 0 (qb_f (by omega)).symm
    · exact key 1 (qb_t (by omega)).symm
  · rintro ⟨M1, M2, y0, y1, y2, y3⟩ r hI
    dsimp only at hI ⊢
    obtain ⟨rfl, rfl, rfl, rfl, rfl, rfl, z0⟩ := hI
    have w3 : M1 3 0 = zI (v 0 * v 1) := h3
    unfold PX1_openingsWithin_13_b
    simp (disch := omega) only [zI_lit, zI_neg, zI_add, zI_sub, zI_mul, zI_div, q_md, zI_lt, zI_le, zI_eq, zI_clamp, zI_vp, forall_eq, mb_u_eq, mb_u_ne, upd_eq, q_if, q_ifn, if_pos, if_neg, true_and, and_true, if_true, if_false, w3]
    exact hK
  · exact ⟨rfl, rfl, rfl, rfl, rfl, rfl, by omega⟩

