theorem bR_0 : bR (fun _ => 0) (fun _ => 0) := fun k _ _ => by (try dsimp only); omega
theorem bR_f {C S : Int → Int} (h : bR C S) : bR (fC C S) (fS C S) := fun k h1 h2 => by
  have := h k h1 h2
  unfold fC fS
  (repeat' split) <;> omega
theorem bR_u {C S : Int → Int} {x y c m : Int} (hc : 0 ≤ c ∧ c ≤ 5) (h : bR C S) : bR (uC x y c m C) (uS x y c m C S) := fun k h1 h2 => by
  have := h k h1 h2
  unfold uC uS
  (repeat' split) <;> omega
theorem bR_c {C S : Int → Int} {b : Int32} {l s : Int} (hl : 0 ≤ l ∧ l ≤ 7) (h : bR C S) : bR (cC b l s C) (cC b l s S) := fun k h1 h2 => by
  rcases cC_on (b := b) (l := l) h1 h2 with ⟨p, hp, hp2, rfl⟩ | g
  · rw [cC_lc hl ⟨hp, hp2⟩, cC_lc hl ⟨hp, hp2⟩]
    have := lc_rng (b := b) (l := l) (p := (p - s) % 8) hl (by omega)
    exact h _ this.1 this.2
  · rw [cC_out g h1 h2, cC_out g h1 h2]; exact h k h1 h2
/-! a thread after some moves: what it laid, what it linked, its length, where it is, whether inside -/
abbrev ts : Type := (Int → Int) × (Int → Int) × Int × Int × Int × Int
def t0 : ts := (fun _ => 0, fun _ => 0, 0, 0, 0, 0)
def tstep (t : ts) (m : Int) : ts :=
  if m = 1 then (fun k => if k = 5 * t.2.2.2.1 + t.2.2.2.2.1 then t.1 k + t.2.2.2.2.2 else t.1 k, t.2.1, t.2.2.1 + 10, t.2.2.2.1, t.2.2.2.2.1 + 1, t.2.2.2.2.2)
  else if m = 2 then (fun k => if k = 5 * t.2.2.2.1 + (t.2.2.2.2.1 - 1) then t.1 k + t.2.2.2.2.2 else t.1 k, t.2.1, t.2.2.1 + 10, t.2.2.2.1, t.2.2.2.2.1 - 1, t.2.2.2.2.2)
  else if m = 3 then (t.1, fun k => if k = t.2.2.2.1 then t.2.1 k + 1 else t.2.1 k, t.2.2.1 + 4, t.2.2.2.1 + 1, t.2.2.2.2.1, t.2.2.2.2.2)
  else if m = 4 then (t.1, fun k => if k = t.2.2.2.1 - 1 then t.2.1 k + 1 else t.2.1 k, t.2.2.1 + 4, t.2.2.2.1 - 1, t.2.2.2.2.1, t.2.2.2.2.2)
  else (t.1, t.2.1, t.2.2.1, t.2.2.2.1, t.2.2.2.2.1, 1 - t.2.2.2.2.2)
def tr (mv : Int → Int) : Nat → ts
  | 0 => t0
  | n + 1 => tstep (tr mv n) (mv n)
def tok (g st : Int) (t : ts) (m : Int) : Prop := 0 ≤ m ∧ m ≤ 4 ∧ (m = 1 → t.2.2.2.2.1 + 1 < st) ∧ (m = 2 → 0 < t.2.2.2.2.1) ∧ (m = 3 → t.2.2.2.2.2 = 0 ∧ t.2.2.2.1 + 1 < g) ∧ (m = 4 → t.2.2.2.2.2 = 0 ∧ 0 < t.2.2.2.1)
def tv (g st : Int) (mv : Int → Int) (n : Nat) : Prop := ∀ j : Nat, j < n → tok g st (tr mv j) (mv j)
/-- where a thread can be -/
def trg (g st : Int) (t : ts) (n : Int) : Prop := 0 ≤ t.2.2.2.1 ∧ t.2.2.2.1 < g ∧ 0 ≤ t.2.2.2.2.1 ∧ t.2.2.2.2.1 < st ∧ 0 ≤ t.2.2.2.2.2 ∧ t.2.2.2.2.2 ≤ 1 ∧ 0 ≤ t.2.2.1 ∧ t.2.2.1 ≤ 10 * n ∧ (∀ k, 0 ≤ t.1 k ∧ t.1 k ≤ n) ∧ (∀ k, 0 ≤ t.2.1 k ∧ t.2.1 k ≤ n)
theorem trg_step {g st : Int} {t : ts} {m n : Int} (h : trg g st t n) (hm : tok g st t m) : trg g st (tstep t m) (n + 1) := by
  obtain ⟨a1, a2, a3, a4, a5, a6, a7, a8, a9, a10⟩ := h
  obtain ⟨b1, b2, b3, b4, b5, b6⟩ := hm
  unfold tstep
  (repeat' split) <;> (unfold trg; dsimp only; refine ⟨by omega, by omega, by omega, by omega, by omega, by omega, by omega, by omega, fun k => ?_, fun k => ?_⟩ <;> (have := a9 k; have := a10 k; (repeat' split) <;> omega))
theorem tr_rng {g st : Int} {mv : Int → Int} (hg : 1 ≤ g) (hs : 3 ≤ st) : ∀ {n : Nat}, tv g st mv n → trg g st (tr mv n) n
  | 0, _ => by
    unfold trg tr t0; dsimp only
    exact ⟨by omega, by omega, by omega, by omega, by omega, by omega, by omega, by omega, fun k => by omega, fun k => by omega⟩
  | n + 1, h => by
    have := trg_step (tr_rng hg hs (fun j hj => h j (by omega))) (h n (by omega))
    rw [show ((n + 1 : Nat) : Int) = n + 1 by omega]
    exact this
theorem tr_cong {mv mv' : Int → Int} : ∀ {n : Nat}, (∀ k : Int, 0 ≤ k → k < n → mv k = mv' k) → tr mv n = tr mv' n
  | 0, _ => rfl
  | n + 1, h => by
    show tstep (tr mv n) (mv n) = tstep (tr mv' n) (mv' n)
    rw [tr_cong (n := n) (fun k h1 h2 => h k h1 (by omega)), h n (by omega) (by omega)]
theorem tv_cong {g st : Int} {mv mv' : Int → Int} {n : Nat} (h : ∀ k : Int, 0 ≤ k → k < n → mv k = mv' k) (hv : tv g st mv n) : tv g st mv' n := fun j hj => by
  rw [← h j (by omega) (by omega), ← tr_cong (n := j) (fun k h1 h2 => h k h1 (by omega))]
  exact hv j hj
/-- book i of the model, with its numbers -/
abbrev kN : Type := Nat → Int
/-- the thread of the bench's book -/
def Ks (M4 : mb_m) (v : kN) (mv : Int → Int) : Prop :=
  (m1 M4 0 (v 0) ∧ m1 M4 1 (v 2) ∧ m1 M4 5 (v 6)) ∧ mr M4 4 mv (v 6) ∧
  mr M4 2 (tr mv (v 6).toNat).1 40 ∧ mr M4 3 (tr mv (v 6).toNat).2.1 8 ∧ m1 M4 9 (tr mv (v 6).toNat).2.2.1 ∧ m1 M4 6 (tr mv (v 6).toNat).2.2.2.1 ∧ m1 M4 7 (tr mv (v 6).toNat).2.2.2.2.1 ∧ m1 M4 8 (tr mv (v 6).toNat).2.2.2.2.2
def Kb (x : mb_k) (v : kN) (mv rp vf vt vw : Int → Int) : Prop :=
  (m1 x.2.2.2.2.2.1 3 (v 0 * v 1) ∧ m1 x.2.2.2.2.2.1 4 (v 3) ∧ m1 x.2.2.2.2.2.1 5 (v 4) ∧ m1 x.2.2.2.2.2.1 6 (v 5)) ∧ Ks x.2.2.2.2.2.2.1 v mv ∧
  (mr x.2.2.2.2.2.2.2.1 0 rp (v 7) ∧ m1 x.2.2.2.2.2.2.2.1 1 (v 7)) ∧
  (mr x.2.2.2.2.2.2.2.2 0 vf (v 8) ∧ mr x.2.2.2.2.2.2.2.2 1 vt (v 8) ∧ mr x.2.2.2.2.2.2.2.2 2 vw (v 8) ∧ m1 x.2.2.2.2.2.2.2.2 3 (v 8))
def Kr (v : kN) (mv rp vf vt vw : Int → Int) : Prop :=
  (1 ≤ v 0 ∧ v 0 ≤ 8) ∧ (2 ≤ v 1 ∧ v 1 ≤ 16) ∧ (3 ≤ v 2 ∧ v 2 ≤ 6) ∧ (1 ≤ v 3 ∧ v 3 ≤ 9) ∧ (0 ≤ v 4 ∧ v 4 ≤ 1) ∧ (0 ≤ v 5 ∧ v 5 ≤ 2) ∧ (0 ≤ v 6 ∧ v 6 ≤ 200) ∧ (0 ≤ v 7 ∧ v 7 ≤ 20) ∧ (0 ≤ v 8 ∧ v 8 ≤ 20) ∧
  tv (v 0) (v 2) mv (v 6).toNat ∧ (∀ k : Int, 0 ≤ k → k < v 7 → 0 ≤ rp k ∧ rp k ≤ 4) ∧ (∀ k : Int, 0 ≤ k → k < v 8 → 1400 ≤ vf k ∧ vf k ≤ vt k ∧ vt k ≤ 2000 ∧ 1 ≤ vw k ∧ vw k ≤ 9)
def eO : String := "java/lang/IndexOutOfBoundsException"
def eA : String := "java/lang/IllegalArgumentException"
def eS : String := "java/lang/IllegalStateException"
