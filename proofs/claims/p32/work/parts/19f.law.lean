/-! WHAT THE LAW COUNTS: a choice below a number, sums, ranks, turns -/
def lw (x : Int32) (n : Int) : Int := (x &&& 2147483647).toInt % n
theorem and_rng (x : Int32) : 0 ≤ (x &&& 2147483647).toInt ∧ (x &&& 2147483647).toInt < 2147483648 := by
  refine ⟨?_, (x &&& 2147483647).toInt_lt⟩
  have h : (x &&& 2147483647).toBitVec.msb = false := by
    rw [Int32.toBitVec_and, BitVec.msb_and]
    have : (2147483647 : Int32).toBitVec.msb = false := by decide
    rw [this, Bool.and_false]
  have e : (x &&& 2147483647).toInt = (x &&& 2147483647).toBitVec.toInt := rfl
  rw [e, BitVec.toInt_eq_toNat_of_msb h]
  omega
theorem lw_rng {x : Int32} {n : Int} (h : 1 ≤ n) : 0 ≤ lw x n ∧ lw x n < n := ⟨Int.emod_nonneg _ (by omega), Int.emod_lt_of_pos _ (by omega)⟩
theorem q_low {N : Nat} {x : Int32} {n : Int} {K : Int32 → Unit → Prop} (h1 : 1 ≤ n) (h2 : n < 2147483648) : PL_low N x (zI n) K = K (zI (lw x n)) () := by
  have hr := and_rng x
  unfold PL_low lw
  generalize (x &&& 2147483647) = y at hr ⊢
  have e : y = zI y.toInt := zI_of y
  have hz : ¬ zI n = 0 := by
    rw [show (0 : Int32) = zI 0 from rfl, zI_eq (by omega) (by omega) (by omega) (by omega)]
    omega
  have e2 : y - y / zI n * zI n = zI (y.toInt % n) := by
    rw [e, zI_rem hr.1 hr.2 (by omega) h2, zI_toInt (by omega) (by omega)]
  rw [e2]
  exact propext ⟨fun h => h.2, fun h => ⟨hz, h⟩⟩
theorem sI_sub (f g : Int → Int) : ∀ n : Nat, sI (fun k => f k - g k) n = sI f n - sI g n
  | 0 => rfl
  | n + 1 => by
    show sI (fun k => f k - g k) n + (f n - g n) = sI f n + f n - (sI g n + g n)
    rw [sI_sub f g n]; omega
theorem sI_not (p : Int → Prop) [DecidablePred p] : ∀ n : Nat, sI (fun k => qb (¬ p k)) n = n - sI (fun k => qb (p k)) n
  | 0 => rfl
  | n + 1 => by
    show sI (fun k => qb (¬ p k)) n + qb (¬ p n) = ((n + 1 : Nat) : Int) - (sI (fun k => qb (p k)) n + qb (p n))
    rw [sI_not p n]
    by_cases h : p n
    · rw [qb_t h, qb_f (fun z => z h)]; omega
    · rw [qb_f h, qb_t h]; omega
theorem sI_pt (j : Int) : ∀ n : Nat, sI (fun k => qb (k = j)) n ≤ 1
  | 0 => by show (0 : Int) ≤ 1; omega
  | n + 1 => by
    show sI (fun k => qb (k = j)) n + qb ((n : Int) = j) ≤ 1
    by_cases h : (n : Int) = j
    · rw [qb_t h, sI_zero (fun k h1 h2 => qb_f (by omega))]; omega
    · rw [qb_f h]
      have := sI_pt j n
      omega
/-- so many cells at most are taken -/
theorem dA_le {x y m : Int} (hm : 1 ≤ m) : sI (fun k => qb (dA x y k < m)) 64 ≤ m := by
  by_cases hex : ∃ k : Int, 0 ≤ k ∧ k < (64 : Nat) ∧ dA x y k ≤ m - 1
  · obtain ⟨j, j1, j2, j3, j4⟩ := near hex
    have j2 : j < 64 := by omega
    have key : ∀ k : Int, 0 ≤ k → k < (64 : Nat) → qb (dA x y k < m) ≤ qb (64 * dd x y k + k < 64 * dd x y j + j) + qb (k = j) := by
      intro k k1 k2
      have k2 : k < 64 := by omega
      have r1 := @qb_rng (64 * dd x y k + k < 64 * dd x y j + j) _
      have r2 := @qb_rng (k = j) _
      by_cases h : dA x y k < m
      · rw [qb_t h]
        by_cases e : k = j
        · rw [qb_t e]; omega
        · rw [qb_f e]
          by_cases h2 : 64 * dd x y k + k < 64 * dd x y j + j
          · rw [qb_t h2]; omega
          · exfalso
            have h4 := j4 k k1 (by omega) (by omega)
            have hlt : 64 * dd x y j + j < 64 * dd x y k + k := by omega
            have o1 := dA_order (x := x) (y := y) k1 k2
            have o2 := dA_order (x := x) (y := y) j1 j2
            have hmono : sI (fun n => qb (64 * dd x y n + n < 64 * dd x y j + j) + qb (n = j)) 64 ≤ sI (fun n => qb (64 * dd x y n + n < 64 * dd x y k + k)) 64 := by
              refine sI_mono (fun n n1 n2 => ?_)
              by_cases a : 64 * dd x y n + n < 64 * dd x y j + j
              · have a1 : ¬ n = j := by intro z; rw [z] at a; omega
                rw [qb_t a, qb_f a1, qb_t (show 64 * dd x y n + n < 64 * dd x y k + k by omega)]; omega
              · rw [qb_f a]
                by_cases z : n = j
                · rw [qb_t z, qb_t (by rw [z]; exact hlt)]; omega
                · rw [qb_f z]
                  have := @qb_rng (64 * dd x y n + n < 64 * dd x y k + k) _
                  omega
            rw [sI_add] at hmono
            have one := sI_one (f := fun n => qb (n = j)) (j := j) (n := 64) (fun _ _ _ => qb_rng.1) j1 j2
            (try dsimp only at one)
            rw [qb_t rfl] at one
            omega
      · rw [qb_f h]; omega
    have h1 := sI_mono (n := 64) key
    rw [sI_add, dA_order j1 j2] at h1
    have h2 := sI_pt j 64
    omega
  · rw [sI_zero (fun k k1 k2 => qb_f (fun z => hex ⟨k, k1, k2, by omega⟩))]
    omega
theorem dd_zero {x y k : Int} (hx : 0 ≤ x ∧ x ≤ 7) (hy : 0 ≤ y ∧ y ≤ 7) (k1 : 0 ≤ k) (k2 : k < 64) (h : dd x y k ≤ 0) : k = 8 * y + x := by
  unfold dd at h
  have n1 : 0 ≤ (k % 8 - x) * (k % 8 - x) := (sq_rng (a := k % 8 - x) (by omega) (by omega)).1
  have n2 : 0 ≤ (k / 8 - y) * (k / 8 - y) := (sq_rng (a := k / 8 - y) (by omega) (by omega)).1
  have e1 : k % 8 - x = 0 := by
    rcases Int.mul_eq_zero.mp (show (k % 8 - x) * (k % 8 - x) = 0 by omega) with z | z <;> exact z
  have e2 : k / 8 - y = 0 := by
    rcases Int.mul_eq_zero.mp (show (k / 8 - y) * (k / 8 - y) = 0 by omega) with z | z <;> exact z
  omega
/-- the cell that is dropped on is the first -/
theorem dA_self {x y : Int} (hx : 0 ≤ x ∧ x ≤ 7) (hy : 0 ≤ y ∧ y ≤ 7) : dA x y (8 * y + x) = 0 := by
  have h0 : dd x y (8 * y + x) = 0 := by
    unfold dd
    rw [show (8 * y + x) % 8 - x = 0 by omega, show (8 * y + x) / 8 - y = 0 by omega]; rfl
  rw [← dA_order (by omega) (by omega)]
  refine sI_zero (fun n n1 n2 => qb_f ?_)
  have hn := dd_rng hx hy n1 (by omega : n < 64)
  rw [h0]
  intro z
  have := dd_zero hx hy n1 (by omega) (by omega)
  omega
theorem cnt_rng (C : Int → Int) : 0 ≤ cnt C ∧ cnt C ≤ 64 := sI_qb (fun k => 0 < C k) 64
theorem uN_rng {x y c m : Int} {C : Int → Int} (hm : 1 ≤ m) : 0 ≤ uN x y c m C 64 ∧ uN x y c m C 64 ≤ m := by
  refine ⟨(sI_qb (fun k => dA x y k < m ∧ C k ≤ c + 1) 64).1, Int.le_trans ?_ (dA_le (x := x) (y := y) hm)⟩
  refine sI_mono (fun k _ _ => ?_)
  by_cases h : dA x y k < m
  · rw [qb_t h]; exact qb_rng.2
  · rw [qb_f h, qb_f (fun z => h z.1)]; omega
theorem uN_again {x y c m : Int} {C : Int → Int} : uN x y c m (uC x y c m C) 64 = uN x y c m C 64 := by
  refine sI_cong (fun k _ _ => qb_cong ?_)
  unfold uC
  constructor
  · rintro ⟨h1, h2⟩
    refine ⟨h1, ?_⟩
    by_cases z : dA x y k < m ∧ C k ≤ c + 1
    · exact z.2
    · rw [if_neg z] at h2; exact h2
  · rintro ⟨h1, h2⟩
    exact ⟨h1, by rw [if_pos ⟨h1, h2⟩]; omega⟩
theorem cnt_u {x y c m : Int} {C : Int → Int} (hc : 0 ≤ c) : cnt C ≤ cnt (uC x y c m C) ∧ cnt (uC x y c m C) ≤ cnt C + uN x y c m C 64 ∧ uN x y c m C 64 ≤ cnt (uC x y c m C) := by
  unfold cnt uN uC
  refine ⟨sI_mono (fun k _ _ => ?_), ?_, sI_mono (fun k _ _ => ?_)⟩
  · have := @qb_rng (0 < C k) _
    by_cases z : dA x y k < m ∧ C k ≤ c + 1
    · simp only [if_pos z]
      rw [@qb_t (0 < c + 1) _ (by omega)]; omega
    · simp only [if_neg z]; omega
  · rw [← sI_add]
    refine sI_mono (fun k _ _ => ?_)
    have := @qb_rng (0 < C k) _
    have := @qb_rng (0 < c + 1) _
    by_cases z : dA x y k < m ∧ C k ≤ c + 1
    · simp only [if_pos z]
      rw [qb_t z]; omega
    · simp only [if_neg z]
      rw [qb_f z]; omega
  · have := @qb_rng (0 < C k) _
    by_cases z : dA x y k < m ∧ C k ≤ c + 1
    · simp only [if_pos z]
      rw [qb_t z, @qb_t (0 < c + 1) _ (by omega)]; omega
    · simp only [if_neg z]
      rw [qb_f z]; omega
theorem s8 (f : Int → Int) : sI f 8 = f 0 + f 1 + f 2 + f 3 + f 4 + f 5 + f 6 + f 7 := by
  show ((((((((0 : Int) + f 0) + f 1) + f 2) + f 3) + f 4) + f 5) + f 6) + f 7 = _
  omega
theorem rot8 (f : Int → Int) {s : Int} (h : -7 ≤ s ∧ s ≤ 7) : sI (fun p => f ((p - s) % 8)) 8 = sI f 8 := by
  rw [s8, s8]
  have : s = -7 ∨ s = -6 ∨ s = -5 ∨ s = -4 ∨ s = -3 ∨ s = -2 ∨ s = -1 ∨ s = 0 ∨ s = 1 ∨ s = 2 ∨ s = 3 ∨ s = 4 ∨ s = 5 ∨ s = 6 ∨ s = 7 := by omega
  rcases this with e | e | e | e | e | e | e | e | e | e | e | e | e | e | e <;> subst e <;> ((try dsimp only); (try simp only [Int.reduceSub, Int.reduceAdd, Int.reduceMod, Int.reduceNeg, Int.sub_zero, Int.sub_neg]) <;> omega)
theorem s64r (g : Int → Int) : sI g 64 = sI (fun r => sI (fun c => g (8 * r + c)) 8) 8 := by
  have e : ∀ (a n : Nat), sI g (a + n) = sI g a + sI (fun c => g (a + c)) n := by
    intro a n
    induction n with
    | zero => show sI g a = sI g a + 0; omega
    | succ n ih =>
      show sI g (a + n) + g ((a + n : Nat) : Int) = sI g a + (sI (fun c => g (a + c)) n + g ((a : Int) + n))
      rw [ih, Int.natCast_add]; omega
  rw [s8 (fun r => sI (fun c => g (8 * r + c)) 8)]
  have h1 := e 56 8
  have h2 := e 48 8
  have h3 := e 40 8
  have h4 := e 32 8
  have h5 := e 24 8
  have h6 := e 16 8
  have h7 := e 8 8
  have h8 : sI g 8 = sI (fun c => g (8 * 0 + c)) 8 := sI_cong (fun k _ _ => by rw [show (8 : Int) * 0 + k = k by omega])
  have k1 : sI (fun c => g (((56 : Nat) : Int) + c)) 8 = sI (fun c => g (8 * 7 + c)) 8 := sI_cong (fun k _ _ => rfl)
  have k2 : sI (fun c => g (((48 : Nat) : Int) + c)) 8 = sI (fun c => g (8 * 6 + c)) 8 := sI_cong (fun k _ _ => rfl)
  have k3 : sI (fun c => g (((40 : Nat) : Int) + c)) 8 = sI (fun c => g (8 * 5 + c)) 8 := sI_cong (fun k _ _ => rfl)
  have k4 : sI (fun c => g (((32 : Nat) : Int) + c)) 8 = sI (fun c => g (8 * 4 + c)) 8 := sI_cong (fun k _ _ => rfl)
  have k5 : sI (fun c => g (((24 : Nat) : Int) + c)) 8 = sI (fun c => g (8 * 3 + c)) 8 := sI_cong (fun k _ _ => rfl)
  have k6 : sI (fun c => g (((16 : Nat) : Int) + c)) 8 = sI (fun c => g (8 * 2 + c)) 8 := sI_cong (fun k _ _ => rfl)
  have k7 : sI (fun c => g (((8 : Nat) : Int) + c)) 8 = sI (fun c => g (8 * 1 + c)) 8 := sI_cong (fun k _ _ => rfl)
  have j1 : sI g (56 + 8) = sI g 64 := rfl
  have j2 : sI g (48 + 8) = sI g 56 := rfl
  have j3 : sI g (40 + 8) = sI g 48 := rfl
  have j4 : sI g (32 + 8) = sI g 40 := rfl
  have j5 : sI g (24 + 8) = sI g 32 := rfl
  have j6 : sI g (16 + 8) = sI g 24 := rfl
  have j7 : sI g (8 + 8) = sI g 16 := rfl
  omega
theorem s64c (g : Int → Int) : sI g 64 = sI (fun c => sI (fun r => g (8 * r + c)) 8) 8 := by
  rw [s64r, s8 (fun r => sI (fun c => g (8 * r + c)) 8), s8 (fun c => sI (fun r => g (8 * r + c)) 8)]
  simp only [s8]
  omega
/-- a comb keeps what is coloured -/
theorem cnt_c {f : Int32} {l s : Int} {C : Int → Int} (hl : 0 ≤ l ∧ l ≤ 7) (hs : -7 ≤ s ∧ s ≤ 7) : cnt (cC f l s C) = cnt C := by
  unfold cnt
  by_cases hf : f = 0
  · rw [s64c, s64c (fun k => qb (0 < C k))]
    refine sI_cong (fun c c1 c2 => ?_)
    have c2 : c < 8 := by omega
    by_cases e : c = l
    · subst e
      rw [← rot8 (fun r => qb (0 < C (8 * r + c))) hs]
      refine sI_cong (fun r r1 r2 => ?_)
      have r2 : r < 8 := by omega
      have := cC_lc (b := f) (l := c) (s := s) (p := r) (C := C) hl (by omega)
      unfold lc at this
      rw [if_pos hf, if_pos hf] at this
      rw [this]
    · refine sI_cong (fun r r1 r2 => ?_)
      have r2 : r < 8 := by omega
      rw [cC, if_neg]
      rintro ⟨z, -⟩
      have := z hf
      omega
  · rw [s64r, s64r (fun k => qb (0 < C k))]
    refine sI_cong (fun r r1 r2 => ?_)
    have r2 : r < 8 := by omega
    by_cases e : r = l
    · subst e
      rw [← rot8 (fun c => qb (0 < C (8 * r + c))) hs]
      refine sI_cong (fun c c1 c2 => ?_)
      have c2 : c < 8 := by omega
      have := cC_lc (b := f) (l := r) (s := s) (p := c) (C := C) hl (by omega)
      unfold lc at this
      rw [if_neg hf, if_neg hf] at this
      rw [this]
    · refine sI_cong (fun c c1 c2 => ?_)
      have c2 : c < 8 := by omega
      rw [cC, if_neg]
      rintro ⟨-, z⟩
      have := z hf
      omega
/-- what is coloured in a line -/
def lnN (f : Int32) (l : Int) (C : Int → Int) : Int := sI (fun p => qb (0 < C (lc f l p))) 8
theorem cN_ln {f : Int32} {l s : Int} {C : Int → Int} (hs : -7 ≤ s ∧ s ≤ 7) : cN f l s C 8 = lnN f l C := rot8 (fun p => qb (0 < C (lc f l p))) hs
theorem lnN_c {f : Int32} {l s : Int} {C : Int → Int} (hl : 0 ≤ l ∧ l ≤ 7) (hs : -7 ≤ s ∧ s ≤ 7) : lnN f l (cC f l s C) = lnN f l C := by
  unfold lnN
  rw [← rot8 (fun p => qb (0 < C (lc f l p))) hs]
  refine sI_cong (fun p p1 p2 => ?_)
  rw [cC_lc hl (by omega)]
theorem lnN_rng (f : Int32) (l : Int) (C : Int → Int) : 0 ≤ lnN f l C ∧ lnN f l C ≤ 8 := sI_qb (fun p => 0 < C (lc f l p)) 8
/-- where there is no colour, there is no strength -/
def zS (C S : Int → Int) : Prop := ∀ k : Int, 0 ≤ k → k < 64 → C k = 0 → S k = 0
theorem zS_0 : zS (fun _ => 0) (fun _ => 0) := fun _ _ _ _ => rfl
theorem zS_u {C S : Int → Int} {x y c m : Int} (hc : 0 ≤ c ∧ c ≤ 5) (h : zS C S) : zS (uC x y c m C) (uS x y c m C S) := fun k h1 h2 => by
  have := h k h1 h2
  unfold uC uS
  (repeat' split) <;> omega
theorem zS_c {C S : Int → Int} {f : Int32} {l s : Int} (hl : 0 ≤ l ∧ l ≤ 7) (h : zS C S) : zS (cC f l s C) (cC f l s S) := fun k h1 h2 => by
  rcases cC_on (b := f) (l := l) h1 h2 with ⟨p, hp, hp2, rfl⟩ | g
  · rw [cC_lc hl ⟨hp, hp2⟩, cC_lc hl ⟨hp, hp2⟩]
    have := lc_rng (b := f) (l := l) (p := (p - s) % 8) hl (by omega)
    exact h _ this.1 (by omega)
  · rw [cC_out g h1 h2, cC_out g h1 h2]; exact h k h1 h2
theorem zS_f {C S : Int → Int} (hR : bR C S) (h : zS C S) : zS (fC C S) (fS C S) := fun k h1 h2 => by
  have := h k h1 h2
  have := hR k h1 h2
  unfold fC fS
  (repeat' split) <;> omega
theorem and31 (a : Int) (h : a = 1 ∨ a = 2 ∨ a = 3 ∨ a = 4) : (zI 2 <<< (zI a &&& zI 31)) = zI (2 * cls a * rws a) := by
  rcases h with h | h | h | h <;> subst h <;> rfl
/-- the two sides of a leaf are one place -/
theorem pg_mate : ∀ F c r : Fin 4, shO (((F : Nat) : Int) + 1) ((c : Nat) : Int) ((r : Nat) : Int) → (pgT (((F : Nat) : Int) + 1) 0 ((c : Nat) : Int) ((r : Nat) : Int) % 2 = 1 ∧ pgT (((F : Nat) : Int) + 1) 1 ((c : Nat) : Int) ((r : Nat) : Int) = pgT (((F : Nat) : Int) + 1) 0 ((c : Nat) : Int) ((r : Nat) : Int) + 1) ∨ (pgT (((F : Nat) : Int) + 1) 1 ((c : Nat) : Int) ((r : Nat) : Int) % 2 = 1 ∧ pgT (((F : Nat) : Int) + 1) 0 ((c : Nat) : Int) ((r : Nat) : Int) = pgT (((F : Nat) : Int) + 1) 1 ((c : Nat) : Int) ((r : Nat) : Int) + 1) := by decide +kernel
theorem q_mate {F c r : Int} (h : shO F c r) : (pgT F 0 c r % 2 = 1 ∧ pgT F 1 c r = pgT F 0 c r + 1) ∨ (pgT F 1 c r % 2 = 1 ∧ pgT F 0 c r = pgT F 1 c r + 1) := by
  obtain ⟨h1, h2, h3, h4, h5, h6⟩ := id h
  have c1 := cls_rng F
  have c2 := rws_rng F
  have hF : F = (((F - 1).toNat : Nat) : Int) + 1 := by omega
  have hc : c = ((c.toNat : Nat) : Int) := by omega
  have hr : r = ((r.toNat : Nat) : Int) := by omega
  have := pg_mate ⟨(F - 1).toNat, by omega⟩ ⟨c.toNat, by omega⟩ ⟨r.toNat, by omega⟩
  (try dsimp only at this)
  rw [← hF, ← hc, ← hr] at this
  exact this h
/-- how the law's rows stand beside the bench -/
def FI (F : mb_m) (np nb : Nat) (bk : Nat → vk) (ns : Nat) (sk : Int → Int → Int) : Prop :=
  (F 0 (0 : Int).toNat = zI np ∧ F 0 (1 : Int).toNat = zI nb ∧ F 0 (2 : Int).toNat = zI ns) ∧
  (∀ i : Nat, i < nb → F 1 (6 * (i : Int)).toNat = zI ((bk i).1 0) ∧ F 1 (6 * (i : Int) + 1).toNat = zI ((bk i).1 1) ∧ F 1 (6 * (i : Int) + 2).toNat = zI ((bk i).1 2) ∧ F 1 (6 * (i : Int) + 3).toNat = zI ((bk i).1 3) ∧ F 1 (6 * (i : Int) + 4).toNat = zI ((bk i).1 4)) ∧
  (∀ i : Nat, i < nb → F 2 (i : Int).toNat = zI ((bk i).1 6) ∧ F 4 (i : Int).toNat = zI ((bk i).1 7)) ∧
  (∀ i : Nat, nb ≤ i → i < 4 → F 2 (i : Int).toNat = zI 0 ∧ F 4 (i : Int).toNat = zI 0) ∧
  (∀ i : Nat, i < ns → ∃ t : Int, (8 ≤ t ∧ t ≤ 30) ∧ F 3 (i : Int).toNat = zI t ∧ ∀ k : Int, 0 ≤ k → k < 64 → sk i k ≤ t)
def Iw (b : mb_bs) (F : mb_m) (C S : Int → Int) (np : Nat) (pr : Int → Int → Int) (nb : Nat) (bk : Nat → vk) (ns : Nat) (sk : Int → Int → Int) (T : Int) : Prop :=
  Vw b C S np pr nb bk ns sk ∧ zS C S ∧ FI F np nb bk ns sk ∧ ∀ i : Nat, i < nb → (bk i).1 6 ≤ T
def Iv (b : mb_bs) (F : mb_m) (T : Int) : Prop := ∃ C S np pr nb bk ns sk, Iw b F C S np pr nb bk ns sk T
def gN (F : mb_m) (nb ns : Nat) : Prop := F 0 (1 : Int).toNat = zI nb ∧ F 0 (2 : Int).toNat = zI ns
