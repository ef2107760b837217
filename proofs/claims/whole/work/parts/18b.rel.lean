theorem m_lift {N : Nat} {M : mb_m} {C S : Int → Int} {pr : Int → Int → Int} {np : Int} {K : Int32 → mb_m → Prop} (hN : 700 ≤ N) (hp : 0 ≤ np ∧ np < 10) (hR : bR C S) (hC : mr M 0 C 64) (hS : mr M 1 S 64)
    (h2 : m1 M 2 np) (h3 : mr M 3 (fun e => pr (e / 64) (e % 64)) (64 * np))
    (hK : ∀ M', mf M M' [0, 1, 2, 3] → mr M' 0 (fC C S) 64 → mr M' 1 (fS C S) 64 → m1 M' 2 (np + 1) → mr M' 3 (fun e => (fun i k => if i = np then C k else pr i k) (e / 64) (e % 64)) (64 * (np + 1)) → K (zI np) M') : PX8_lift_27 N K N M (zI 0) := by
  refine (q_for (σ := mb_m × Int32) (fun n s => PX8_lift_27 N K n s.1 s.2) (fun r0 s => PX8_lift_27_b N K (fun a0 a1 => r0 (a0, a1)) s.1 s.2) (fun _ _ => rfl))
    (fun i s => (mf M s.1 [0, 1, 3] ∧ mr s.1 0 (fun k => if k < i then fC C S k else C k) 64 ∧ mr s.1 1 (fun k => if k < i then fS C S k else S k) 64 ∧ mr s.1 3 (fun e => (fun i k => if i = np then C k else pr i k) (e / 64) (e % 64)) (64 * np + i)) ∧ s.2 = zI i ∧ 0 ≤ i) 64 ?_ ?_ N 0 (M, _) (by omega) (by omega) ?_
  · rintro i ⟨M1, y⟩ r hi hI hr
    dsimp only at hI hr ⊢
    obtain ⟨⟨hf, g0, g1, g3⟩, rfl, h0⟩ := hI
    have v0 := g0 i h0 hi
    have v1 := g1 i h0 hi
    have v2 : M1 2 0 = zI np := mf_m1 hf (by decide) h2
    have hb := hR i h0 hi
    (try dsimp only at v0 v1)
    rw [if_neg (by omega)] at v0 v1
    have u1 : ∀ k, 0 ≤ k → k < 64 → k ≠ i → (if k < i + 1 then fC C S k else C k) = (if k < i then fC C S k else C k) := by intro k _ _ _; (repeat' split) <;> omega
    have u2 : ∀ k, 0 ≤ k → k < 64 → k ≠ i → (if k < i + 1 then fS C S k else S k) = (if k < i then fS C S k else S k) := by intro k _ _ _; (repeat' split) <;> omega
    have w1 : (if i < i + 1 then fC C S i else C i) = fC C S i := if_pos (by omega)
    have w2 : (if i < i + 1 then fS C S i else S i) = fS C S i := if_pos (by omega)
    have e3 : ∀ X : mb_m, mr (mb_u X 3 (upd (M1 3) (64 * np + i).toNat (zI (C i)))) 3 (fun e => (fun i k => if i = np then C k else pr i k) (e / 64) (e % 64)) (64 * np + (i + 1)) := by
      intro X
      have := mr_app (X := X) (t := 3) (v := C i) g3 (by omega) (by (try dsimp only); rw [if_pos (by omega)]; congr 1; omega) (fun _ _ _ => rfl)
      rwa [show 64 * np + i + 1 = 64 * np + (i + 1) by omega] at this
    unfold PX8_lift_27_b PX8_lift_74 PX8_lift_100
    simp (disch := omega) only [zI_lit, zI_neg, zI_add, zI_sub, zI_mul, zI_div, q_md, zI_lt, zI_le, zI_eq, zI_clamp, zI_vp, forall_eq, mb_u_eq, mb_u_ne, upd_eq, q_if, q_ifn, if_pos, if_neg, true_and, and_true, if_true, if_false, v0, v1, v2]
    by_cases c0 : C i ≤ 0
    · simp (disch := omega) only [zI_lit, zI_neg, zI_add, zI_sub, zI_mul, zI_div, q_md, zI_lt, zI_le, zI_eq, zI_clamp, zI_vp, forall_eq, mb_u_eq, mb_u_ne, upd_eq, q_if, q_ifn, if_pos, if_neg, true_and, and_true, if_true, if_false]
      split
      · exact hr _ ⟨⟨mf_u (mf_u (mf_u hf _ (by decide)) _ (by decide)) _ (by decide), mr_up g0 h0 hi (by (try dsimp only); rw [w1, fC, if_neg (by omega)]; omega) u1, mr_ne _ (mr_up g1 h0 hi (by (try dsimp only); rw [w2, fS, if_neg (by omega)]; omega) u2) (by decide), mr_ne _ (mr_ne _ (e3 M1) (by decide)) (by decide)⟩, rfl, by omega⟩
      · exact hr _ ⟨⟨mf_u (mf_u (mf_u hf _ (by decide)) _ (by decide)) _ (by decide), mr_up g0 h0 hi (by (try dsimp only); rw [w1, fC, if_neg (by omega)]) u1, mr_ne _ (mr_up g1 h0 hi (by (try dsimp only); rw [w2, fS, if_neg (by omega)]; omega) u2) (by decide), mr_ne _ (mr_ne _ (e3 M1) (by decide)) (by decide)⟩, rfl, by omega⟩
    · simp (disch := omega) only [zI_lit, zI_neg, zI_add, zI_sub, zI_mul, zI_div, q_md, zI_lt, zI_le, zI_eq, zI_clamp, zI_vp, forall_eq, mb_u_eq, mb_u_ne, upd_eq, q_if, q_ifn, if_pos, if_neg, true_and, and_true, if_true, if_false]
      split
      · exact hr _ ⟨⟨mf_u (mf_u (mf_u hf _ (by decide)) _ (by decide)) _ (by decide), mr_up g0 h0 hi (by (try dsimp only); rw [w1, fC, if_pos (by omega), if_neg (by omega)]) u1, mr_ne _ (mr_up g1 h0 hi (by (try dsimp only); rw [w2, fS, if_pos (by omega)]) u2) (by decide), mr_ne _ (mr_ne _ (e3 M1) (by decide)) (by decide)⟩, rfl, by omega⟩
      · exact hr _ ⟨⟨mf_u (mf_u (mf_u hf _ (by decide)) _ (by decide)) _ (by decide), mr_up g0 h0 hi (by (try dsimp only); rw [w1, fC, if_pos (by omega), if_pos (by omega)]) u1, mr_ne _ (mr_up g1 h0 hi (by (try dsimp only); rw [w2, fS, if_pos (by omega)]) u2) (by decide), mr_ne _ (mr_ne _ (e3 M1) (by decide)) (by decide)⟩, rfl, by omega⟩
  · rintro ⟨M1, y⟩ r hI
    dsimp only at hI ⊢
    obtain ⟨⟨hf, g0, g1, g3⟩, rfl, h0⟩ := hI
    have v2 : M1 2 0 = zI np := mf_m1 hf (by decide) h2
    have e : ∀ x : Int, mb_c (zI x) 0 = zI x := fun _ => rfl
    unfold PX8_lift_27_b
    simp (disch := omega) only [zI_lit, zI_neg, zI_add, zI_sub, zI_mul, zI_div, q_md, zI_lt, zI_le, zI_eq, zI_clamp, zI_vp, forall_eq, mb_u_eq, mb_u_ne, upd_eq, q_if, q_ifn, if_pos, if_neg, true_and, and_true, if_true, if_false, v2, e]
    rw [show np + 1 - 1 = np by omega]
    refine hK _ (mf_u (mf_mono hf (by decide)) _ (by decide)) (mr_ne _ (mr_cong g0 (fun k h3 h4 => by (try dsimp only); rw [if_pos h4])) (by decide)) (mr_ne _ (mr_cong g1 (fun k h3 h4 => by (try dsimp only); rw [if_pos h4])) (by decide)) (m1_set _ _ _) (mr_ne _ ?_ (by decide))
    rwa [show 64 * np + 64 = 64 * (np + 1) by omega] at g3
  · refine ⟨⟨mf_refl _ _, mr_cong hC (fun k h3 h4 => by (try dsimp only); rw [if_neg (by omega)]), mr_cong hS (fun k h3 h4 => by (try dsimp only); rw [if_neg (by omega)]), ?_⟩, rfl, by omega⟩
    rw [show 64 * np + 0 = 64 * np by omega]
    exact mr_cong h3 (fun e h4 h5 => by (try dsimp only); rw [if_neg (by omega)])
theorem bR_0 : bR (fun _ => 0) (fun _ => 0) := fun k _ _ => by (try dsimp only); omega
theorem bR_f {C S : Int → Int} (h : bR C S) : bR (fC C S) (fS C S) := fun k h1 h2 => by
  have := h k h1 h2
  unfold fC fS
  (repeat' split) <;> omega
theorem bR_u {C S : Int → Int} {x y c m : Int} (hc : 0 ≤ c ∧ c ≤ 5) (h : bR C S) : bR (uC x y c m C) (uS x y c m C S) := fun k h1 h2 => by
  have := h k h1 h2
  unfold uC uS
  (repeat' split) <;> omega
theorem bR_c {C S : Int → Int} {b : Int32} {l s : Int} (hl : 0 ≤ l ∧ l ≤ 7) (h : bR C S) : bR (cC b l s C) (cC b l s S) := fun k h1 h2 => by
  rcases cC_on (b := b) (l := l) h1 h2 with ⟨p, hp, hp2, rfl⟩ | g
  · rw [cC_lc hl ⟨hp, hp2⟩, cC_lc hl ⟨hp, hp2⟩]
    have := lc_rng (b := b) (l := l) (p := (p - s) % 8) hl (by omega)
    exact h _ this.1 this.2
  · rw [cC_out g h1 h2, cC_out g h1 h2]; exact h k h1 h2
/-! the bench and the model stand alike -/
def RA (MA m : mb_m) : Prop := ∃ C S, bR C S ∧ bI MA C S ∧ mr m 0 C 64 ∧ mr m 1 S 64
def RP (M7 : mb_m) (fP : Nat → Option Nat) (LP : List mb_p) (m : mb_m) : Prop := ∃ (np : Nat) (pr : Int → Int → Int), np ≤ 10 ∧ m1 M7 4 np ∧ m1 m 2 np ∧ mr m 3 (fun e => pr (e / 64) (e % 64)) (64 * np) ∧ LP.length = np ∧
  (∀ i : Nat, i < np → ∃ x, LP[i]? = some x ∧ fP i = some x.1 ∧ mr x.2.2 0 (fun k => pr i k - 1) 64) ∧ (∀ i : Nat, np ≤ i → i < 10 → fP i = none) ∧ (∀ i k : Int, 0 ≤ i → i < np → 0 ≤ k → k < 64 → 0 ≤ pr i k ∧ pr i k ≤ 6)
def RS (M7 : mb_m) (fS : Nat → Option Nat) (LS : List mb_p) (m : mb_m) : Prop := ∃ (ns : Nat) (sk : Int → Int → Int), ns ≤ 3 ∧ m1 M7 6 ns ∧ m1 m 19 ns ∧ mr m 20 (fun e => sk (e / 64) (e % 64)) (64 * ns) ∧ LS.length = ns ∧
  (∀ i : Nat, i < ns → ∃ x, LS[i]? = some x ∧ fS i = some x.1 ∧ mr x.2.2 0 (fun k => sk i k) 64) ∧ (∀ i : Nat, ns ≤ i → i < 3 → fS i = none) ∧ (∀ i k : Int, 0 ≤ i → i < ns → 0 ≤ k → k < 64 → 3 ≤ sk i k ∧ sk i k ≤ 30)
theorem RA_mf {MA m m' : mb_m} {l : List Nat} (h : RA MA m) (hf : mf m m' l) (h0 : 0 ∉ l) (h1 : 1 ∉ l) : RA MA m' := by
  obtain ⟨C, S, a, b, c, d⟩ := h
  exact ⟨C, S, a, b, mf_mr hf h0 c, mf_mr hf h1 d⟩
theorem RP_mf {M7 m m' : mb_m} {fP : Nat → Option Nat} {LP : List mb_p} {l : List Nat} (h : RP M7 fP LP m) (hf : mf m m' l) (h0 : 2 ∉ l) (h1 : 3 ∉ l) : RP M7 fP LP m' := by
  obtain ⟨np, pr, a, b, c, d, e⟩ := h
  exact ⟨np, pr, a, b, mf_m1 hf h0 c, mf_mr hf h1 d, e⟩
theorem RS_mf {M7 m m' : mb_m} {fP : Nat → Option Nat} {LP : List mb_p} {l : List Nat} (h : RS M7 fP LP m) (hf : mf m m' l) (h0 : 19 ∉ l) (h1 : 20 ∉ l) : RS M7 fP LP m' := by
  obtain ⟨np, pr, a, b, c, d, e⟩ := h
  exact ⟨np, pr, a, b, mf_m1 hf h0 c, mf_mr hf h1 d, e⟩
theorem RP_7 {M7 M7' m : mb_m} {fP : Nat → Option Nat} {LP : List mb_p} {l : List Nat} (h : RP M7 fP LP m) (hf : mf M7 M7' l) (h0 : 4 ∉ l) : RP M7' fP LP m := by
  obtain ⟨np, pr, a, b, c⟩ := h
  exact ⟨np, pr, a, mf_m1 hf h0 b, c⟩
theorem RS_7 {M7 M7' m : mb_m} {fP : Nat → Option Nat} {LP : List mb_p} {l : List Nat} (h : RS M7 fP LP m) (hf : mf M7 M7' l) (h0 : 6 ∉ l) : RS M7' fP LP m := by
  obtain ⟨np, pr, a, b, c⟩ := h
  exact ⟨np, pr, a, mf_m1 hf h0 b, c⟩
/-! a thread after some moves: what it laid, what it linked, its length, where it is, whether inside -/
abbrev ts : Type := (Int → Int) × (Int → Int) × Int × Int × Int × Int
def t0 : ts := (fun _ => 0, fun _ => 0, 0, 0, 0, 0)
def tstep (t : ts) (m : Int) : ts :=
  if m = 1 then (fun k => if k = 5 * t.2.2.2.1 + t.2.2.2.2.1 then t.1 k + t.2.2.2.2.2 else t.1 k, t.2.1, t.2.2.1 + 10, t.2.2.2.1, t.2.2.2.2.1 + 1, t.2.2.2.2.2)
  else if m = 2 then (fun k => if k = 5 * t.2.2.2.1 + (t.2.2.2.2.1 - 1) then t.1 k + t.2.2.2.2.2 else t.1 k, t.2.1, t.2.2.1 + 10, t.2.2.2.1, t.2.2.2.2.1 - 1, t.2.2.2.2.2)
  else if m = 3 then (t.1, fun k => if k = t.2.2.2.1 then t.2.1 k + 1 else t.2.1 k, t.2.2.1 + 4, t.2.2.2.1 + 1, t.2.2.2.2.1, t.2.2.2.2.2)
  else if m = 4 then (t.1, fun k => if k = t.2.2.2.1 - 1 then t.2.1 k + 1 else t.2.1 k, t.2.2.1 + 4, t.2.2.2.1 - 1, t.2.2.2.2.1, t.2.2.2.2.2)
  else (t.1, t.2.1, t.2.2.1, t.2.2.2.1, t.2.2.2.2.1, 1 - t.2.2.2.2.2)
def tr (mv : Int → Int) : Nat → ts
  | 0 => t0
  | n + 1 => tstep (tr mv n) (mv n)
def tok (g st : Int) (t : ts) (m : Int) : Prop := 0 ≤ m ∧ m ≤ 4 ∧ (m = 1 → t.2.2.2.2.1 + 1 < st) ∧ (m = 2 → 0 < t.2.2.2.2.1) ∧ (m = 3 → t.2.2.2.2.2 = 0 ∧ t.2.2.2.1 + 1 < g) ∧ (m = 4 → t.2.2.2.2.2 = 0 ∧ 0 < t.2.2.2.1)
def tv (g st : Int) (mv : Int → Int) (n : Nat) : Prop := ∀ j : Nat, j < n → tok g st (tr mv j) (mv j)
/-- where a thread can be -/
def trg (g st : Int) (t : ts) (n : Int) : Prop := 0 ≤ t.2.2.2.1 ∧ t.2.2.2.1 < g ∧ 0 ≤ t.2.2.2.2.1 ∧ t.2.2.2.2.1 < st ∧ 0 ≤ t.2.2.2.2.2 ∧ t.2.2.2.2.2 ≤ 1 ∧ 0 ≤ t.2.2.1 ∧ t.2.2.1 ≤ 10 * n ∧ (∀ k, 0 ≤ t.1 k ∧ t.1 k ≤ n) ∧ (∀ k, 0 ≤ t.2.1 k ∧ t.2.1 k ≤ n)
theorem trg_step {g st : Int} {t : ts} {m n : Int} (h : trg g st t n) (hm : tok g st t m) : trg g st (tstep t m) (n + 1) := by
  obtain ⟨a1, a2, a3, a4, a5, a6, a7, a8, a9, a10⟩ := h
  obtain ⟨b1, b2, b3, b4, b5, b6⟩ := hm
  unfold tstep
  (repeat' split) <;> (unfold trg; dsimp only; refine ⟨by omega, by omega, by omega, by omega, by omega, by omega, by omega, by omega, fun k => ?_, fun k => ?_⟩ <;> (have := a9 k; have := a10 k; (repeat' split) <;> omega))
theorem tr_rng {g st : Int} {mv : Int → Int} (hg : 1 ≤ g) (hs : 3 ≤ st) : ∀ {n : Nat}, tv g st mv n → trg g st (tr mv n) n
  | 0, _ => by
    unfold trg tr t0; dsimp only
    exact ⟨by omega, by omega, by omega, by omega, by omega, by omega, by omega, by omega, fun k => by omega, fun k => by omega⟩
  | n + 1, h => by
    have := trg_step (tr_rng hg hs (fun j hj => h j (by omega))) (h n (by omega))
    rw [show ((n + 1 : Nat) : Int) = n + 1 by omega]
    exact this
theorem tr_cong {mv mv' : Int → Int} : ∀ {n : Nat}, (∀ k : Int, 0 ≤ k → k < n → mv k = mv' k) → tr mv n = tr mv' n
  | 0, _ => rfl
  | n + 1, h => by
    show tstep (tr mv n) (mv n) = tstep (tr mv' n) (mv' n)
    rw [tr_cong (n := n) (fun k h1 h2 => h k h1 (by omega)), h n (by omega) (by omega)]
theorem tv_cong {g st : Int} {mv mv' : Int → Int} {n : Nat} (h : ∀ k : Int, 0 ≤ k → k < n → mv k = mv' k) (hv : tv g st mv n) : tv g st mv' n := fun j hj => by
  rw [← h j (by omega) (by omega), ← tr_cong (n := j) (fun k h1 h2 => h k h1 (by omega))]
  exact hv j hj
/-- book i of the model, with its numbers -/
abbrev kN : Type := Nat → Int
def Km (m : mb_m) (i : Int) (v : kN) (mv rp vf vt vw : Int → Int) : Prop :=
  (m 5 i.toNat = zI (v 0) ∧ m 6 i.toNat = zI (v 1) ∧ m 7 i.toNat = zI (v 2) ∧ m 8 i.toNat = zI (v 3) ∧ m 9 i.toNat = zI (v 4) ∧ m 10 i.toNat = zI (v 5) ∧ m 11 i.toNat = zI (v 6) ∧ m 21 i.toNat = zI (v 7) ∧ m 23 i.toNat = zI (v 8)) ∧
  (∀ k : Int, 0 ≤ k → k < v 6 → m 12 (200 * i + k).toNat = zI (mv k)) ∧
  (∀ k : Int, 0 ≤ k → k < v 7 → m 22 (20 * i + k).toNat = zI (rp k)) ∧
  (∀ k : Int, 0 ≤ k → k < v 8 → m 24 (20 * i + k).toNat = zI (vf k) ∧ m 25 (20 * i + k).toNat = zI (vt k) ∧ m 26 (20 * i + k).toNat = zI (vw k))
/-- the thread of the bench's book -/
def Ks (M4 : mb_m) (v : kN) (mv : Int → Int) : Prop :=
  (m1 M4 0 (v 0) ∧ m1 M4 1 (v 2) ∧ m1 M4 5 (v 6)) ∧ mr M4 4 mv (v 6) ∧
  mr M4 2 (tr mv (v 6).toNat).1 40 ∧ mr M4 3 (tr mv (v 6).toNat).2.1 8 ∧ m1 M4 9 (tr mv (v 6).toNat).2.2.1 ∧ m1 M4 6 (tr mv (v 6).toNat).2.2.2.1 ∧ m1 M4 7 (tr mv (v 6).toNat).2.2.2.2.1 ∧ m1 M4 8 (tr mv (v 6).toNat).2.2.2.2.2
def Kb (x : mb_k) (v : kN) (mv rp vf vt vw : Int → Int) : Prop :=
  (m1 x.2.2.2.2.2.1 3 (v 0 * v 1) ∧ m1 x.2.2.2.2.2.1 4 (v 3) ∧ m1 x.2.2.2.2.2.1 5 (v 4) ∧ m1 x.2.2.2.2.2.1 6 (v 5)) ∧ Ks x.2.2.2.2.2.2.1 v mv ∧
  (mr x.2.2.2.2.2.2.2.1 0 rp (v 7) ∧ m1 x.2.2.2.2.2.2.2.1 1 (v 7)) ∧
  (mr x.2.2.2.2.2.2.2.2 0 vf (v 8) ∧ mr x.2.2.2.2.2.2.2.2 1 vt (v 8) ∧ mr x.2.2.2.2.2.2.2.2 2 vw (v 8) ∧ m1 x.2.2.2.2.2.2.2.2 3 (v 8))
def Kr (v : kN) (mv rp vf vt vw : Int → Int) : Prop :=
  (1 ≤ v 0 ∧ v 0 ≤ 8) ∧ (2 ≤ v 1 ∧ v 1 ≤ 16) ∧ (3 ≤ v 2 ∧ v 2 ≤ 6) ∧ (1 ≤ v 3 ∧ v 3 ≤ 9) ∧ (0 ≤ v 4 ∧ v 4 ≤ 1) ∧ (0 ≤ v 5 ∧ v 5 ≤ 2) ∧ (0 ≤ v 6 ∧ v 6 ≤ 200) ∧ (0 ≤ v 7 ∧ v 7 ≤ 20) ∧ (0 ≤ v 8 ∧ v 8 ≤ 20) ∧
  tv (v 0) (v 2) mv (v 6).toNat ∧ (∀ k : Int, 0 ≤ k → k < v 7 → 0 ≤ rp k ∧ rp k ≤ 4) ∧ (∀ k : Int, 0 ≤ k → k < v 8 → 1400 ≤ vf k ∧ vf k ≤ vt k ∧ vt k ≤ 2000 ∧ 1 ≤ vw k ∧ vw k ≤ 9)
def Kk (x : mb_k) (m : mb_m) (i : Int) : Prop := ∃ (v : kN) (mv rp vf vt vw : Int → Int), Kr v mv rp vf vt vw ∧ Kb x v mv rp vf vt vw ∧ Km m i v mv rp vf vt vw
def RB (M7 : mb_m) (fB : Nat → Option Nat) (LB : List mb_k) (m : mb_m) : Prop := ∃ nb : Nat, nb ≤ 4 ∧ m1 M7 5 nb ∧ m1 m 4 nb ∧ LB.length = nb ∧ (∀ i : Nat, i < nb → ∃ x, LB[i]? = some x ∧ fB i = some x.1 ∧ Kk x m i) ∧ (∀ i : Nat, nb ≤ i → i < 4 → fB i = none) ∧ (∀ i : Nat, nb ≤ i → i < 4 → m 10 i = zI 0 ∧ m 11 i = zI 0 ∧ m 21 i = zI 0 ∧ m 23 i = zI 0)
/-- the model's numbers of book i are the same -/
def Kag (m m' : mb_m) (i : Int) : Prop := (∀ s : Nat, s ∈ [5, 6, 7, 8, 9, 10, 11, 21, 23] → m' s i.toNat = m s i.toNat) ∧ (∀ k : Int, 0 ≤ k → k < 200 → m' 12 (200 * i + k).toNat = m 12 (200 * i + k).toNat) ∧
  (∀ (s : Nat) (k : Int), s ∈ [22, 24, 25, 26] → 0 ≤ k → k < 20 → m' s (20 * i + k).toNat = m s (20 * i + k).toNat)
theorem Km_ag {m m' : mb_m} {i : Int} {v : kN} {mv rp vf vt vw : Int → Int} (h : Km m i v mv rp vf vt vw) (hr : Kr v mv rp vf vt vw) (ha : Kag m m' i) : Km m' i v mv rp vf vt vw := by
  obtain ⟨⟨a1, a2, a3, a4, a5, a6, a7, a8, a9⟩, b, c, d⟩ := h
  obtain ⟨-, -, -, -, -, -, r6, r7, r8, -⟩ := hr
  obtain ⟨e, f, g⟩ := ha
  refine ⟨⟨?_, ?_, ?_, ?_, ?_, ?_, ?_, ?_, ?_⟩, fun k h1 h2 => ?_, fun k h1 h2 => ?_, fun k h1 h2 => ⟨?_, ?_, ?_⟩⟩
  all_goals first
    | (rw [e _ (by decide)]; assumption)
    | (rw [f _ h1 (by omega)]; exact b k h1 h2)
    | (rw [g _ _ (by decide) h1 (by omega)]; exact c k h1 h2)
    | (rw [g _ _ (by decide) h1 (by omega)]; exact (d k h1 h2).1)
    | (rw [g _ _ (by decide) h1 (by omega)]; exact (d k h1 h2).2.1)
    | (rw [g _ _ (by decide) h1 (by omega)]; exact (d k h1 h2).2.2)
theorem Kk_ag {x : mb_k} {m m' : mb_m} {i : Int} (h : Kk x m i) (ha : Kag m m' i) : Kk x m' i := by
  obtain ⟨v, mv, rp, vf, vt, vw, a, b, c⟩ := h
  exact ⟨v, mv, rp, vf, vt, vw, a, b, Km_ag c a ha⟩
theorem mf_ag {m m' : mb_m} {l : List Nat} (hf : mf m m' l) (hl : ∀ s ∈ [5, 6, 7, 8, 9, 10, 11, 21, 23, 12, 22, 24, 25, 26], s ∉ l) (i : Int) : Kag m m' i := by
  refine ⟨fun s hs => ?_, fun k h1 h2 => ?_, fun s k hs h1 h2 => ?_⟩
  · rw [hf s (hl s (by revert hs; simp; omega))]
  · rw [hf 12 (hl 12 (by decide))]
  · rw [hf s (hl s (by revert hs; simp; omega))]
theorem RB_mf {M7 m m' : mb_m} {fB : Nat → Option Nat} {LB : List mb_k} {l : List Nat} (h : RB M7 fB LB m) (hf : mf m m' l) (hl : ∀ s ∈ [4, 5, 6, 7, 8, 9, 10, 11, 21, 23, 12, 22, 24, 25, 26], s ∉ l) : RB M7 fB LB m' := by
  obtain ⟨nb, a, b, c, d, e, f, g⟩ := h
  refine ⟨nb, a, b, mf_m1 hf (hl 4 (by decide)) c, d, fun i hi => ?_, f, fun i h1 h2 => by rw [hf 10 (hl 10 (by decide)), hf 11 (hl 11 (by decide)), hf 21 (hl 21 (by decide)), hf 23 (hl 23 (by decide))]; exact g i h1 h2⟩
  obtain ⟨x, e1, e2, e3⟩ := e i hi
  exact ⟨x, e1, e2, Kk_ag e3 (mf_ag hf (fun s hs => hl s (List.mem_cons_of_mem _ hs)) _)⟩
theorem RB_7 {M7 M7' m : mb_m} {fB : Nat → Option Nat} {LB : List mb_k} {l : List Nat} (h : RB M7 fB LB m) (hf : mf M7 M7' l) (h0 : 5 ∉ l) : RB M7' fB LB m := by
  obtain ⟨nb, a, b, c⟩ := h
  exact ⟨nb, a, mf_m1 hf h0 b, c⟩
def Rm (b : mb_bs) (m : mb_m) : Prop := RA b.2.1 m ∧ RP b.1 b.2.2.1 b.2.2.2.2.2.1 m ∧ RB b.1 b.2.2.2.1 b.2.2.2.2.2.2.1 m ∧ RS b.1 b.2.2.2.2.1 b.2.2.2.2.2.2.2 m
theorem Rm_scr {b : mb_bs} {m m' : mb_m} (h : Rm b m) (hf : mf m m' [13, 14, 15, 16, 17, 18, 27]) : Rm b m' :=
  ⟨RA_mf h.1 hf (by decide) (by decide), RP_mf h.2.1 hf (by decide) (by decide), RB_mf h.2.2.1 hf (by decide), RS_mf h.2.2.2 hf (by decide) (by decide)⟩
def eO : String := "java/lang/IndexOutOfBoundsException"
def eA : String := "java/lang/IllegalArgumentException"
def eS : String := "java/lang/IllegalStateException"
/-- what the law asks after a call that ended with the code c, the answer r and the bench b -/
def Qe (c : Int) (r : Int32) (b : mb_bs) (v : Int32) (m : mb_m) : Prop := m1 m 27 c ∧ (c = 0 → v = r) ∧ Rm b m
theorem Qe_x {c : Int} {b : mb_bs} {m : mb_m} {r v : Int32} (h : Rm b m) (hc : c ≠ 0) : Qe c r b v (mb_u m 27 (mb_c (zI c))) :=
  ⟨m1_set _ _ _, fun e => absurd e hc, Rm_scr h (mf_u (mf_refl _ _) _ (by decide))⟩
