/-- the page at a place of a folded sheet -/
def pgT (F b c r : Int) : Int := ([3, 2, 0, 0, 0, 0, 0, 0, 0, 0, 0, 0, 0, 0, 0, 0, 4, 1, 0, 0, 0, 0, 0, 0, 0, 0, 0, 0, 0, 0, 0, 0, 7, 6, 0, 0, 2, 3, 0, 0, 0, 0, 0, 0, 0, 0, 0, 0, 8, 5, 0, 0, 1, 4, 0, 0, 0, 0, 0, 0, 0, 0, 0, 0, 15, 2, 3, 14, 10, 7, 6, 11, 0, 0, 0, 0, 0, 0, 0, 0, 16, 1, 4, 13, 9, 8, 5, 12, 0, 0, 0, 0, 0, 0, 0, 0, 31, 18, 19, 30, 2, 15, 14, 3, 7, 10, 11, 6, 26, 23, 22, 27, 32, 17, 20, 29, 1, 16, 13, 4, 8, 9, 12, 5, 25, 24, 21, 28] : List Int).getD (32 * (F - 1) + 16 * b + 4 * r + c).toNat 0
theorem q_f29 (N : Nat) (K : Int32 → Unit → Prop) (n : Nat) : PX7_foldedPage_29 N K (n + 1) = PX7_foldedPage_29_b N K (PX7_foldedPage_29 N K n) := rfl
theorem q_columnsOf7 {N : Nat} {F : Int} {K : Int32 → Unit → Prop} (h1 : 1 ≤ F) (h2 : F ≤ 4) : PX7_columnsOf N (zI F) K = K (zI (if F < 3 then 2 else 4)) () := by
  have : F = 1 ∨ F = 2 ∨ F = 3 ∨ F = 4 := by omega
  unfold PX7_columnsOf
  rcases this with h | h | h | h <;> subst h <;> rfl
theorem q_rowsOf7 {N : Nat} {F : Int} {K : Int32 → Unit → Prop} (h1 : 1 ≤ F) (h2 : F ≤ 4) : PX7_rowsOf N (zI F) K = K (zI (if F = 1 then 1 else if F < 4 then 2 else 4)) () := by
  have : F = 1 ∨ F = 2 ∨ F = 3 ∨ F = 4 := by omega
  unfold PX7_rowsOf
  rcases this with h | h | h | h <;> subst h <;> rfl
theorem q_fs {N n : Nat} {K : Int32 → Unit → Prop} {F c r C R P p i : Int} (h0 : 0 ≤ i) (h1 : i < F) (hF : F ≤ 4) (hc : 0 ≤ c ∧ c < 8) (hr : 0 ≤ r ∧ r < 8) (hC : 0 ≤ C ∧ C ≤ 8) (hR : 0 ≤ R ∧ R ≤ 8) (hP : 0 ≤ P ∧ P ≤ 64) (hp : 0 ≤ p ∧ p ≤ 64) :
    PX7_foldedPage_29 N K (n + 1) (zI F) (zI c) (zI r) (zI C) (zI R) (zI P) (zI p) (zI i) =
    PX7_foldedPage_29 N K n (zI F) (zI (if i % 2 = 0 ∧ C / 2 ≤ c then 2 * (C / 2) - 1 - c else c)) (zI (if ¬ i % 2 = 0 ∧ R / 2 ≤ r then 2 * (R / 2) - 1 - r else r)) (zI (if i % 2 = 0 then C / 2 else C)) (zI (if i % 2 = 0 then R else R / 2)) (zI (P * 2)) (zI (if (i % 2 = 0 ∧ C / 2 ≤ c) ∨ (¬ i % 2 = 0 ∧ R / 2 ≤ r) then P + 1 - p else P + p)) (zI (i + 1)) := by
  rw [q_f29]
  unfold PX7_foldedPage_29_b PX7_foldedPage_59 PX7_foldedPage_78 PX7_foldedPage_99 PX7_foldedPage_118 PX7_foldedPage_119 PX7_foldedPage_139
  by_cases e : i % 2 = 0
  · by_cases t : C / 2 ≤ c
    · simp (disch := omega) only [zI_lit, zI_neg, zI_add, zI_sub, zI_mul, zI_div, q_md, zI_lt, zI_le, zI_eq, zI_clamp, zI_vp, forall_eq, mb_u_eq, mb_u_ne, upd_eq, q_if, q_ifn, if_pos, if_neg, true_and, and_true, if_true, if_false]
    · simp (disch := omega) only [zI_lit, zI_neg, zI_add, zI_sub, zI_mul, zI_div, q_md, zI_lt, zI_le, zI_eq, zI_clamp, zI_vp, forall_eq, mb_u_eq, mb_u_ne, upd_eq, q_if, q_ifn, if_pos, if_neg, true_and, and_true, if_true, if_false]
  · by_cases t : R / 2 ≤ r
    · simp (disch := omega) only [zI_lit, zI_neg, zI_add, zI_sub, zI_mul, zI_div, q_md, zI_lt, zI_le, zI_eq, zI_clamp, zI_vp, forall_eq, mb_u_eq, mb_u_ne, upd_eq, q_if, q_ifn, if_pos, if_neg, true_and, and_true, if_true, if_false]
    · simp (disch := omega) only [zI_lit, zI_neg, zI_add, zI_sub, zI_mul, zI_div, q_md, zI_lt, zI_le, zI_eq, zI_clamp, zI_vp, forall_eq, mb_u_eq, mb_u_ne, upd_eq, q_if, q_ifn, if_pos, if_neg, true_and, and_true, if_true, if_false]
theorem q_fe {N n : Nat} {K : Int32 → Unit → Prop} {F c r C R P p : Int} (hF : 0 ≤ F ∧ F ≤ 4) :
    PX7_foldedPage_29 N K (n + 1) (zI F) (zI c) (zI r) (zI C) (zI R) (zI P) (zI p) (zI F) = K (zI p) () := by
  rw [q_f29]
  unfold PX7_foldedPage_29_b
  simp (disch := omega) only [zI_lit, zI_neg, zI_add, zI_sub, zI_mul, zI_div, q_md, zI_lt, zI_le, zI_eq, zI_clamp, zI_vp, forall_eq, mb_u_eq, mb_u_ne, upd_eq, q_if, q_ifn, if_pos, if_neg, true_and, and_true, if_true, if_false]
theorem q_fp_1_0_0_0 (n : Nat) (K : Int32 → Unit → Prop) : PX7_foldedPage (n + 5) (zI 1) (zI 0) (zI 0) (zI 0) K = K (zI 3) () := by
  unfold PX7_foldedPage PX7_foldedPage_24
  simp (disch := decide) only [q_columnsOf7, q_rowsOf7, zI_lit, zI_eq, q_if, if_pos, if_neg, q_fs, q_fe, Int.reduceAdd, Int.reduceMul, Int.reduceDiv, Int.reduceSub, Int.reduceMod]
theorem q_fp_1_1_0_0 (n : Nat) (K : Int32 → Unit → Prop) : PX7_foldedPage (n + 5) (zI 1) (zI 1) (zI 0) (zI 0) K = K (zI 4) () := by
  unfold PX7_foldedPage PX7_foldedPage_24
  simp (disch := decide) only [q_columnsOf7, q_rowsOf7, zI_lit, zI_eq, q_if, if_pos, if_neg, q_fs, q_fe, Int.reduceAdd, Int.reduceMul, Int.reduceDiv, Int.reduceSub, Int.reduceMod]
theorem q_fp_1_0_1_0 (n : Nat) (K : Int32 → Unit → Prop) : PX7_foldedPage (n + 5) (zI 1) (zI 0) (zI 1) (zI 0) K = K (zI 2) () := by
  unfold PX7_foldedPage PX7_foldedPage_24
  simp (disch := decide) only [q_columnsOf7, q_rowsOf7, zI_lit, zI_eq, q_if, if_pos, if_neg, q_fs, q_fe, Int.reduceAdd, Int.reduceMul, Int.reduceDiv, Int.reduceSub, Int.reduceMod]
theorem q_fp_1_1_1_0 (n : Nat) (K : Int32 → Unit → Prop) : PX7_foldedPage (n + 5) (zI 1) (zI 1) (zI 1) (zI 0) K = K (zI 1) () := by
  unfold PX7_foldedPage PX7_foldedPage_24
  simp (disch := decide) only [q_columnsOf7, q_rowsOf7, zI_lit, zI_eq, q_if, if_pos, if_neg, q_fs, q_fe, Int.reduceAdd, Int.reduceMul, Int.reduceDiv, Int.reduceSub, Int.reduceMod]
theorem q_fp_2_0_0_0 (n : Nat) (K : Int32 → Unit → Prop) : PX7_foldedPage (n + 5) (zI 2) (zI 0) (zI 0) (zI 0) K = K (zI 7) () := by
  unfold PX7_foldedPage PX7_foldedPage_24
  simp (disch := decide) only [q_columnsOf7, q_rowsOf7, zI_lit, zI_eq, q_if, if_pos, if_neg, q_fs, q_fe, Int.reduceAdd, Int.reduceMul, Int.reduceDiv, Int.reduceSub, Int.reduceMod]
theorem q_fp_2_1_0_0 (n : Nat) (K : Int32 → Unit → Prop) : PX7_foldedPage (n + 5) (zI 2) (zI 1) (zI 0) (zI 0) K = K (zI 8) () := by
  unfold PX7_foldedPage PX7_foldedPage_24
  simp (disch := decide) only [q_columnsOf7, q_rowsOf7, zI_lit, zI_eq, q_if, if_pos, if_neg, q_fs, q_fe, Int.reduceAdd, Int.reduceMul, Int.reduceDiv, Int.reduceSub, Int.reduceMod]
theorem q_fp_2_0_1_0 (n : Nat) (K : Int32 → Unit → Prop) : PX7_foldedPage (n + 5) (zI 2) (zI 0) (zI 1) (zI 0) K = K (zI 6) () := by
  unfold PX7_foldedPage PX7_foldedPage_24
  simp (disch := decide) only [q_columnsOf7, q_rowsOf7, zI_lit, zI_eq, q_if, if_pos, if_neg, q_fs, q_fe, Int.reduceAdd, Int.reduceMul, Int.reduceDiv, Int.reduceSub, Int.reduceMod]
theorem q_fp_2_1_1_0 (n : Nat) (K : Int32 → Unit → Prop) : PX7_foldedPage (n + 5) (zI 2) (zI 1) (zI 1) (zI 0) K = K (zI 5) () := by
  unfold PX7_foldedPage PX7_foldedPage_24
  simp (disch := decide) only [q_columnsOf7, q_rowsOf7, zI_lit, zI_eq, q_if, if_pos, if_neg, q_fs, q_fe, Int.reduceAdd, Int.reduceMul, Int.reduceDiv, Int.reduceSub, Int.reduceMod]
theorem q_fp_2_0_0_1 (n : Nat) (K : Int32 → Unit → Prop) : PX7_foldedPage (n + 5) (zI 2) (zI 0) (zI 0) (zI 1) K = K (zI 2) () := by
  unfold PX7_foldedPage PX7_foldedPage_24
  simp (disch := decide) only [q_columnsOf7, q_rowsOf7, zI_lit, zI_eq, q_if, if_pos, if_neg, q_fs, q_fe, Int.reduceAdd, Int.reduceMul, Int.reduceDiv, Int.reduceSub, Int.reduceMod]
theorem q_fp_2_1_0_1 (n : Nat) (K : Int32 → Unit → Prop) : PX7_foldedPage (n + 5) (zI 2) (zI 1) (zI 0) (zI 1) K = K (zI 1) () := by
  unfold PX7_foldedPage PX7_foldedPage_24
  simp (disch := decide) only [q_columnsOf7, q_rowsOf7, zI_lit, zI_eq, q_if, if_pos, if_neg, q_fs, q_fe, Int.reduceAdd, Int.reduceMul, Int.reduceDiv, Int.reduceSub, Int.reduceMod]
theorem q_fp_2_0_1_1 (n : Nat) (K : Int32 → Unit → Prop) : PX7_foldedPage (n + 5) (zI 2) (zI 0) (zI 1) (zI 1) K = K (zI 3) () := by
  unfold PX7_foldedPage PX7_foldedPage_24
  simp (disch := decide) only [q_columnsOf7, q_rowsOf7, zI_lit, zI_eq, q_if, if_pos, if_neg, q_fs, q_fe, Int.reduceAdd, Int.reduceMul, Int.reduceDiv, Int.reduceSub, Int.reduceMod]
theorem q_fp_2_1_1_1 (n : Nat) (K : Int32 → Unit → Prop) : PX7_foldedPage (n + 5) (zI 2) (zI 1) (zI 1) (zI 1) K = K (zI 4) () := by
  unfold PX7_foldedPage PX7_foldedPage_24
  simp (disch := decide) only [q_columnsOf7, q_rowsOf7, zI_lit, zI_eq, q_if, if_pos, if_neg, q_fs, q_fe, Int.reduceAdd, Int.reduceMul, Int.reduceDiv, Int.reduceSub, Int.reduceMod]
theorem q_fp_3_0_0_0 (n : Nat) (K : Int32 → Unit → Prop) : PX7_foldedPage (n + 5) (zI 3) (zI 0) (zI 0) (zI 0) K = K (zI 15) () := by
  unfold PX7_foldedPage PX7_foldedPage_24
  simp (disch := decide) only [q_columnsOf7, q_rowsOf7, zI_lit, zI_eq, q_if, if_pos, if_neg, q_fs, q_fe, Int.reduceAdd, Int.reduceMul, Int.reduceDiv, Int.reduceSub, Int.reduceMod]
theorem q_fp_3_1_0_0 (n : Nat) (K : Int32 → Unit → Prop) : PX7_foldedPage (n + 5) (zI 3) (zI 1) (zI 0) (zI 0) K = K (zI 16) () := by
  unfold PX7_foldedPage PX7_foldedPage_24
  simp (disch := decide) only [q_columnsOf7, q_rowsOf7, zI_lit, zI_eq, q_if, if_pos, if_neg, q_fs, q_fe, Int.reduceAdd, Int.reduceMul, Int.reduceDiv, Int.reduceSub, Int.reduceMod]
theorem q_fp_3_0_1_0 (n : Nat) (K : Int32 → Unit → Prop) : PX7_foldedPage (n + 5) (zI 3) (zI 0) (zI 1) (zI 0) K = K (zI 2) () := by
  unfold PX7_foldedPage PX7_foldedPage_24
  simp (disch := decide) only [q_columnsOf7, q_rowsOf7, zI_lit, zI_eq, q_if, if_pos, if_neg, q_fs, q_fe, Int.reduceAdd, Int.reduceMul, Int.reduceDiv, Int.reduceSub, Int.reduceMod]
theorem q_fp_3_1_1_0 (n : Nat) (K : Int32 → Unit → Prop) : PX7_foldedPage (n + 5) (zI 3) (zI 1) (zI 1) (zI 0) K = K (zI 1) () := by
  unfold PX7_foldedPage PX7_foldedPage_24
  simp (disch := decide) only [q_columnsOf7, q_rowsOf7, zI_lit, zI_eq, q_if, if_pos, if_neg, q_fs, q_fe, Int.reduceAdd, Int.reduceMul, Int.reduceDiv, Int.reduceSub, Int.reduceMod]
theorem q_fp_3_0_2_0 (n : Nat) (K : Int32 → Unit → Prop) : PX7_foldedPage (n + 5) (zI 3) (zI 0) (zI 2) (zI 0) K = K (zI 3) () := by
  unfold PX7_foldedPage PX7_foldedPage_24
  simp (disch := decide) only [q_columnsOf7, q_rowsOf7, zI_lit, zI_eq, q_if, if_pos, if_neg, q_fs, q_fe, Int.reduceAdd, Int.reduceMul, Int.reduceDiv, Int.reduceSub, Int.reduceMod]
theorem q_fp_3_1_2_0 (n : Nat) (K : Int32 → Unit → Prop) : PX7_foldedPage (n + 5) (zI 3) (zI 1) (zI 2) (zI 0) K = K (zI 4) () := by
  unfold PX7_foldedPage PX7_foldedPage_24
  simp (disch := decide) only [q_columnsOf7, q_rowsOf7, zI_lit, zI_eq, q_if, if_pos, if_neg, q_fs, q_fe, Int.reduceAdd, Int.reduceMul, Int.reduceDiv, Int.reduceSub, Int.reduceMod]
theorem q_fp_3_0_3_0 (n : Nat) (K : Int32 → Unit → Prop) : PX7_foldedPage (n + 5) (zI 3) (zI 0) (zI 3) (zI 0) K = K (zI 14) () := by
  unfold PX7_foldedPage PX7_foldedPage_24
  simp (disch := decide) only [q_columnsOf7, q_rowsOf7, zI_lit, zI_eq, q_if, if_pos, if_neg, q_fs, q_fe, Int.reduceAdd, Int.reduceMul, Int.reduceDiv, Int.reduceSub, Int.reduceMod]
theorem q_fp_3_1_3_0 (n : Nat) (K : Int32 → Unit → Prop) : PX7_foldedPage (n + 5) (zI 3) (zI 1) (zI 3) (zI 0) K = K (zI 13) () := by
  unfold PX7_foldedPage PX7_foldedPage_24
  simp (disch := decide) only [q_columnsOf7, q_rowsOf7, zI_lit, zI_eq, q_if, if_pos, if_neg, q_fs, q_fe, Int.reduceAdd, Int.reduceMul, Int.reduceDiv, Int.reduceSub, Int.reduceMod]
theorem q_fp_3_0_0_1 (n : Nat) (K : Int32 → Unit → Prop) : PX7_foldedPage (n + 5) (zI 3) (zI 0) (zI 0) (zI 1) K = K (zI 10) () := by
  unfold PX7_foldedPage PX7_foldedPage_24
  simp (disch := decide) only [q_columnsOf7, q_rowsOf7, zI_lit, zI_eq, q_if, if_pos, if_neg, q_fs, q_fe, Int.reduceAdd, Int.reduceMul, Int.reduceDiv, Int.reduceSub, Int.reduceMod]
theorem q_fp_3_1_0_1 (n : Nat) (K : Int32 → Unit → Prop) : PX7_foldedPage (n + 5) (zI 3) (zI 1) (zI 0) (zI 1) K = K (zI 9) () := by
  unfold PX7_foldedPage PX7_foldedPage_24
  simp (disch := decide) only [q_columnsOf7, q_rowsOf7, zI_lit, zI_eq, q_if, if_pos, if_neg, q_fs, q_fe, Int.reduceAdd, Int.reduceMul, Int.reduceDiv, Int.reduceSub, Int.reduceMod]
theorem q_fp_3_0_1_1 (n : Nat) (K : Int32 → Unit → Prop) : PX7_foldedPage (n + 5) (zI 3) (zI 0) (zI 1) (zI 1) K = K (zI 7) () := by
  unfold PX7_foldedPage PX7_foldedPage_24
  simp (disch := decide) only [q_columnsOf7, q_rowsOf7, zI_lit, zI_eq, q_if, if_pos, if_neg, q_fs, q_fe, Int.reduceAdd, Int.reduceMul, Int.reduceDiv, Int.reduceSub, Int.reduceMod]
theorem q_fp_3_1_1_1 (n : Nat) (K : Int32 → Unit → Prop) : PX7_foldedPage (n + 5) (zI 3) (zI 1) (zI 1) (zI 1) K = K (zI 8) () := by
  unfold PX7_foldedPage PX7_foldedPage_24
  simp (disch := decide) only [q_columnsOf7, q_rowsOf7, zI_lit, zI_eq, q_if, if_pos, if_neg, q_fs, q_fe, Int.reduceAdd, Int.reduceMul, Int.reduceDiv, Int.reduceSub, Int.reduceMod]
theorem q_fp_3_0_2_1 (n : Nat) (K : Int32 → Unit → Prop) : PX7_foldedPage (n + 5) (zI 3) (zI 0) (zI 2) (zI 1) K = K (zI 6) () := by
  unfold PX7_foldedPage PX7_foldedPage_24
  simp (disch := decide) only [q_columnsOf7, q_rowsOf7, zI_lit, zI_eq, q_if, if_pos, if_neg, q_fs, q_fe, Int.reduceAdd, Int.reduceMul, Int.reduceDiv, Int.reduceSub, Int.reduceMod]
theorem q_fp_3_1_2_1 (n : Nat) (K : Int32 → Unit → Prop) : PX7_foldedPage (n + 5) (zI 3) (zI 1) (zI 2) (zI 1) K = K (zI 5) () := by
  unfold PX7_foldedPage PX7_foldedPage_24
  simp (disch := decide) only [q_columnsOf7, q_rowsOf7, zI_lit, zI_eq, q_if, if_pos, if_neg, q_fs, q_fe, Int.reduceAdd, Int.reduceMul, Int.reduceDiv, Int.reduceSub, Int.reduceMod]
theorem q_fp_3_0_3_1 (n : Nat) (K : Int32 → Unit → Prop) : PX7_foldedPage (n + 5) (zI 3) (zI 0) (zI 3) (zI 1) K = K (zI 11) () := by
  unfold PX7_foldedPage PX7_foldedPage_24
  simp (disch := decide) only [q_columnsOf7, q_rowsOf7, zI_lit, zI_eq, q_if, if_pos, if_neg, q_fs, q_fe, Int.reduceAdd, Int.reduceMul, Int.reduceDiv, Int.reduceSub, Int.reduceMod]
theorem q_fp_3_1_3_1 (n : Nat) (K : Int32 → Unit → Prop) : PX7_foldedPage (n + 5) (zI 3) (zI 1) (zI 3) (zI 1) K = K (zI 12) () := by
  unfold PX7_foldedPage PX7_foldedPage_24
  simp (disch := decide) only [q_columnsOf7, q_rowsOf7, zI_lit, zI_eq, q_if, if_pos, if_neg, q_fs, q_fe, Int.reduceAdd, Int.reduceMul, Int.reduceDiv, Int.reduceSub, Int.reduceMod]
theorem q_fp_4_0_0_0 (n : Nat) (K : Int32 → Unit → Prop) : PX7_foldedPage (n + 5) (zI 4) (zI 0) (zI 0) (zI 0) K = K (zI 31) () := by
  unfold PX7_foldedPage PX7_foldedPage_24
  simp (disch := decide) only [q_columnsOf7, q_rowsOf7, zI_lit, zI_eq, q_if, if_pos, if_neg, q_fs, q_fe, Int.reduceAdd, Int.reduceMul, Int.reduceDiv, Int.reduceSub, Int.reduceMod]
theorem q_fp_4_1_0_0 (n : Nat) (K : Int32 → Unit → Prop) : PX7_foldedPage (n + 5) (zI 4) (zI 1) (zI 0) (zI 0) K = K (zI 32) () := by
  unfold PX7_foldedPage PX7_foldedPage_24
  simp (disch := decide) only [q_columnsOf7, q_rowsOf7, zI_lit, zI_eq, q_if, if_pos, if_neg, q_fs, q_fe, Int.reduceAdd, Int.reduceMul, Int.reduceDiv, Int.reduceSub, Int.reduceMod]
theorem q_fp_4_0_1_0 (n : Nat) (K : Int32 → Unit → Prop) : PX7_foldedPage (n + 5) (zI 4) (zI 0) (zI 1) (zI 0) K = K (zI 18) () := by
  unfold PX7_foldedPage PX7_foldedPage_24
  simp (disch := decide) only [q_columnsOf7, q_rowsOf7, zI_lit, zI_eq, q_if, if_pos, if_neg, q_fs, q_fe, Int.reduceAdd, Int.reduceMul, Int.reduceDiv, Int.reduceSub, Int.reduceMod]
theorem q_fp_4_1_1_0 (n : Nat) (K : Int32 → Unit → Prop) : PX7_foldedPage (n + 5) (zI 4) (zI 1) (zI 1) (zI 0) K = K (zI 17) () := by
  unfold PX7_foldedPage PX7_foldedPage_24
  simp (disch := decide) only [q_columnsOf7, q_rowsOf7, zI_lit, zI_eq, q_if, if_pos, if_neg, q_fs, q_fe, Int.reduceAdd, Int.reduceMul, Int.reduceDiv, Int.reduceSub, Int.reduceMod]
theorem q_fp_4_0_2_0 (n : Nat) (K : Int32 → Unit → Prop) : PX7_foldedPage (n + 5) (zI 4) (zI 0) (zI 2) (zI 0) K = K (zI 19) () := by
  unfold PX7_foldedPage PX7_foldedPage_24
  simp (disch := decide) only [q_columnsOf7, q_rowsOf7, zI_lit, zI_eq, q_if, if_pos, if_neg, q_fs, q_fe, Int.reduceAdd, Int.reduceMul, Int.reduceDiv, Int.reduceSub, Int.reduceMod]
theorem q_fp_4_1_2_0 (n : Nat) (K : Int32 → Unit → Prop) : PX7_foldedPage (n + 5) (zI 4) (zI 1) (zI 2) (zI 0) K = K (zI 20) () := by
  unfold PX7_foldedPage PX7_foldedPage_24
  simp (disch := decide) only [q_columnsOf7, q_rowsOf7, zI_lit, zI_eq, q_if, if_pos, if_neg, q_fs, q_fe, Int.reduceAdd, Int.reduceMul, Int.reduceDiv, Int.reduceSub, Int.reduceMod]
theorem q_fp_4_0_3_0 (n : Nat) (K : Int32 → Unit → Prop) : PX7_foldedPage (n + 5) (zI 4) (zI 0) (zI 3) (zI 0) K = K (zI 30) () := by
  unfold PX7_foldedPage PX7_foldedPage_24
  simp (disch := decide) only [q_columnsOf7, q_rowsOf7, zI_lit, zI_eq, q_if, if_pos, if_neg, q_fs, q_fe, Int.reduceAdd, Int.reduceMul, Int.reduceDiv, Int.reduceSub, Int.reduceMod]
theorem q_fp_4_1_3_0 (n : Nat) (K : Int32 → Unit → Prop) : PX7_foldedPage (n + 5) (zI 4) (zI 1) (zI 3) (zI 0) K = K (zI 29) () := by
  unfold PX7_foldedPage PX7_foldedPage_24
  simp (disch := decide) only [q_columnsOf7, q_rowsOf7, zI_lit, zI_eq, q_if, if_pos, if_neg, q_fs, q_fe, Int.reduceAdd, Int.reduceMul, Int.reduceDiv, Int.reduceSub, Int.reduceMod]
theorem q_fp_4_0_0_1 (n : Nat) (K : Int32 → Unit → Prop) : PX7_foldedPage (n + 5) (zI 4) (zI 0) (zI 0) (zI 1) K = K (zI 2) () := by
  unfold PX7_foldedPage PX7_foldedPage_24
  simp (disch := decide) only [q_columnsOf7, q_rowsOf7, zI_lit, zI_eq, q_if, if_pos, if_neg, q_fs, q_fe, Int.reduceAdd, Int.reduceMul, Int.reduceDiv, Int.reduceSub, Int.reduceMod]
theorem q_fp_4_1_0_1 (n : Nat) (K : Int32 → Unit → Prop) : PX7_foldedPage (n + 5) (zI 4) (zI 1) (zI 0) (zI 1) K = K (zI 1) () := by
  unfold PX7_foldedPage PX7_foldedPage_24
  simp (disch := decide) only [q_columnsOf7, q_rowsOf7, zI_lit, zI_eq, q_if, if_pos, if_neg, q_fs, q_fe, Int.reduceAdd, Int.reduceMul, Int.reduceDiv, Int.reduceSub, Int.reduceMod]
theorem q_fp_4_0_1_1 (n : Nat) (K : Int32 → Unit → Prop) : PX7_foldedPage (n + 5) (zI 4) (zI 0) (zI 1) (zI 1) K = K (zI 15) () := by
  unfold PX7_foldedPage PX7_foldedPage_24
  simp (disch := decide) only [q_columnsOf7, q_rowsOf7, zI_lit, zI_eq, q_if, if_pos, if_neg, q_fs, q_fe, Int.reduceAdd, Int.reduceMul, Int.reduceDiv, Int.reduceSub, Int.reduceMod]
theorem q_fp_4_1_1_1 (n : Nat) (K : Int32 → Unit → Prop) : PX7_foldedPage (n + 5) (zI 4) (zI 1) (zI 1) (zI 1) K = K (zI 16) () := by
  unfold PX7_foldedPage PX7_foldedPage_24
  simp (disch := decide) only [q_columnsOf7, q_rowsOf7, zI_lit, zI_eq, q_if, if_pos, if_neg, q_fs, q_fe, Int.reduceAdd, Int.reduceMul, Int.reduceDiv, Int.reduceSub, Int.reduceMod]
theorem q_fp_4_0_2_1 (n : Nat) (K : Int32 → Unit → Prop) : PX7_foldedPage (n + 5) (zI 4) (zI 0) (zI 2) (zI 1) K = K (zI 14) () := by
  unfold PX7_foldedPage PX7_foldedPage_24
  simp (disch := decide) only [q_columnsOf7, q_rowsOf7, zI_lit, zI_eq, q_if, if_pos, if_neg, q_fs, q_fe, Int.reduceAdd, Int.reduceMul, Int.reduceDiv, Int.reduceSub, Int.reduceMod]
theorem q_fp_4_1_2_1 (n : Nat) (K : Int32 → Unit → Prop) : PX7_foldedPage (n + 5) (zI 4) (zI 1) (zI 2) (zI 1) K = K (zI 13) () := by
  unfold PX7_foldedPage PX7_foldedPage_24
  simp (disch := decide) only [q_columnsOf7, q_rowsOf7, zI_lit, zI_eq, q_if, if_pos, if_neg, q_fs, q_fe, Int.reduceAdd, Int.reduceMul, Int.reduceDiv, Int.reduceSub, Int.reduceMod]
theorem q_fp_4_0_3_1 (n : Nat) (K : Int32 → Unit → Prop) : PX7_foldedPage (n + 5) (zI 4) (zI 0) (zI 3) (zI 1) K = K (zI 3) () := by
  unfold PX7_foldedPage PX7_foldedPage_24
  simp (disch := decide) only [q_columnsOf7, q_rowsOf7, zI_lit, zI_eq, q_if, if_pos, if_neg, q_fs, q_fe, Int.reduceAdd, Int.reduceMul, Int.reduceDiv, Int.reduceSub, Int.reduceMod]
theorem q_fp_4_1_3_1 (n : Nat) (K : Int32 → Unit → Prop) : PX7_foldedPage (n + 5) (zI 4) (zI 1) (zI 3) (zI 1) K = K (zI 4) () := by
  unfold PX7_foldedPage PX7_foldedPage_24
  simp (disch := decide) only [q_columnsOf7, q_rowsOf7, zI_lit, zI_eq, q_if, if_pos, if_neg, q_fs, q_fe, Int.reduceAdd, Int.reduceMul, Int.reduceDiv, Int.reduceSub, Int.reduceMod]
theorem q_fp_4_0_0_2 (n : Nat) (K : Int32 → Unit → Prop) : PX7_foldedPage (n + 5) (zI 4) (zI 0) (zI 0) (zI 2) K = K (zI 7) () := by
  unfold PX7_foldedPage PX7_foldedPage_24
  simp (disch := decide) only [q_columnsOf7, q_rowsOf7, zI_lit, zI_eq, q_if, if_pos, if_neg, q_fs, q_fe, Int.reduceAdd, Int.reduceMul, Int.reduceDiv, Int.reduceSub, Int.reduceMod]
theorem q_fp_4_1_0_2 (n : Nat) (K : Int32 → Unit → Prop) : PX7_foldedPage (n + 5) (zI 4) (zI 1) (zI 0) (zI 2) K = K (zI 8) () := by
  unfold PX7_foldedPage PX7_foldedPage_24
  simp (disch := decide) only [q_columnsOf7, q_rowsOf7, zI_lit, zI_eq, q_if, if_pos, if_neg, q_fs, q_fe, Int.reduceAdd, Int.reduceMul, Int.reduceDiv, Int.reduceSub, Int.reduceMod]
theorem q_fp_4_0_1_2 (n : Nat) (K : Int32 → Unit → Prop) : PX7_foldedPage (n + 5) (zI 4) (zI 0) (zI 1) (zI 2) K = K (zI 10) () := by
  unfold PX7_foldedPage PX7_foldedPage_24
  simp (disch := decide) only [q_columnsOf7, q_rowsOf7, zI_lit, zI_eq, q_if, if_pos, if_neg, q_fs, q_fe, Int.reduceAdd, Int.reduceMul, Int.reduceDiv, Int.reduceSub, Int.reduceMod]
theorem q_fp_4_1_1_2 (n : Nat) (K : Int32 → Unit → Prop) : PX7_foldedPage (n + 5) (zI 4) (zI 1) (zI 1) (zI 2) K = K (zI 9) () := by
  unfold PX7_foldedPage PX7_foldedPage_24
  simp (disch := decide) only [q_columnsOf7, q_rowsOf7, zI_lit, zI_eq, q_if, if_pos, if_neg, q_fs, q_fe, Int.reduceAdd, Int.reduceMul, Int.reduceDiv, Int.reduceSub, Int.reduceMod]
theorem q_fp_4_0_2_2 (n : Nat) (K : Int32 → Unit → Prop) : PX7_foldedPage (n + 5) (zI 4) (zI 0) (zI 2) (zI 2) K = K (zI 11) () := by
  unfold PX7_foldedPage PX7_foldedPage_24
  simp (disch := decide) only [q_columnsOf7, q_rowsOf7, zI_lit, zI_eq, q_if, if_pos, if_neg, q_fs, q_fe, Int.reduceAdd, Int.reduceMul, Int.reduceDiv, Int.reduceSub, Int.reduceMod]
theorem q_fp_4_1_2_2 (n : Nat) (K : Int32 → Unit → Prop) : PX7_foldedPage (n + 5) (zI 4) (zI 1) (zI 2) (zI 2) K = K (zI 12) () := by
  unfold PX7_foldedPage PX7_foldedPage_24
  simp (disch := decide) only [q_columnsOf7, q_rowsOf7, zI_lit, zI_eq, q_if, if_pos, if_neg, q_fs, q_fe, Int.reduceAdd, Int.reduceMul, Int.reduceDiv, Int.reduceSub, Int.reduceMod]
theorem q_fp_4_0_3_2 (n : Nat) (K : Int32 → Unit → Prop) : PX7_foldedPage (n + 5) (zI 4) (zI 0) (zI 3) (zI 2) K = K (zI 6) () := by
  unfold PX7_foldedPage PX7_foldedPage_24
  simp (disch := decide) only [q_columnsOf7, q_rowsOf7, zI_lit, zI_eq, q_if, if_pos, if_neg, q_fs, q_fe, Int.reduceAdd, Int.reduceMul, Int.reduceDiv, Int.reduceSub, Int.reduceMod]
theorem q_fp_4_1_3_2 (n : Nat) (K : Int32 → Unit → Prop) : PX7_foldedPage (n + 5) (zI 4) (zI 1) (zI 3) (zI 2) K = K (zI 5) () := by
  unfold PX7_foldedPage PX7_foldedPage_24
  simp (disch := decide) only [q_columnsOf7, q_rowsOf7, zI_lit, zI_eq, q_if, if_pos, if_neg, q_fs, q_fe, Int.reduceAdd, Int.reduceMul, Int.reduceDiv, Int.reduceSub, Int.reduceMod]
theorem q_fp_4_0_0_3 (n : Nat) (K : Int32 → Unit → Prop) : PX7_foldedPage (n + 5) (zI 4) (zI 0) (zI 0) (zI 3) K = K (zI 26) () := by
  unfold PX7_foldedPage PX7_foldedPage_24
  simp (disch := decide) only [q_columnsOf7, q_rowsOf7, zI_lit, zI_eq, q_if, if_pos, if_neg, q_fs, q_fe, Int.reduceAdd, Int.reduceMul, Int.reduceDiv, Int.reduceSub, Int.reduceMod]
theorem q_fp_4_1_0_3 (n : Nat) (K : Int32 → Unit → Prop) : PX7_foldedPage (n + 5) (zI 4) (zI 1) (zI 0) (zI 3) K = K (zI 25) () := by
  unfold PX7_foldedPage PX7_foldedPage_24
  simp (disch := decide) only [q_columnsOf7, q_rowsOf7, zI_lit, zI_eq, q_if, if_pos, if_neg, q_fs, q_fe, Int.reduceAdd, Int.reduceMul, Int.reduceDiv, Int.reduceSub, Int.reduceMod]
theorem q_fp_4_0_1_3 (n : Nat) (K : Int32 → Unit → Prop) : PX7_foldedPage (n + 5) (zI 4) (zI 0) (zI 1) (zI 3) K = K (zI 23) () := by
  unfold PX7_foldedPage PX7_foldedPage_24
  simp (disch := decide) only [q_columnsOf7, q_rowsOf7, zI_lit, zI_eq, q_if, if_pos, if_neg, q_fs, q_fe, Int.reduceAdd, Int.reduceMul, Int.reduceDiv, Int.reduceSub, Int.reduceMod]
theorem q_fp_4_1_1_3 (n : Nat) (K : Int32 → Unit → Prop) : PX7_foldedPage (n + 5) (zI 4) (zI 1) (zI 1) (zI 3) K = K (zI 24) () := by
  unfold PX7_foldedPage PX7_foldedPage_24
  simp (disch := decide) only [q_columnsOf7, q_rowsOf7, zI_lit, zI_eq, q_if, if_pos, if_neg, q_fs, q_fe, Int.reduceAdd, Int.reduceMul, Int.reduceDiv, Int.reduceSub, Int.reduceMod]
theorem q_fp_4_0_2_3 (n : Nat) (K : Int32 → Unit → Prop) : PX7_foldedPage (n + 5) (zI 4) (zI 0) (zI 2) (zI 3) K = K (zI 22) () := by
  unfold PX7_foldedPage PX7_foldedPage_24
  simp (disch := decide) only [q_columnsOf7, q_rowsOf7, zI_lit, zI_eq, q_if, if_pos, if_neg, q_fs, q_fe, Int.reduceAdd, Int.reduceMul, Int.reduceDiv, Int.reduceSub, Int.reduceMod]
theorem q_fp_4_1_2_3 (n : Nat) (K : Int32 → Unit → Prop) : PX7_foldedPage (n + 5) (zI 4) (zI 1) (zI 2) (zI 3) K = K (zI 21) () := by
  unfold PX7_foldedPage PX7_foldedPage_24
  simp (disch := decide) only [q_columnsOf7, q_rowsOf7, zI_lit, zI_eq, q_if, if_pos, if_neg, q_fs, q_fe, Int.reduceAdd, Int.reduceMul, Int.reduceDiv, Int.reduceSub, Int.reduceMod]
theorem q_fp_4_0_3_3 (n : Nat) (K : Int32 → Unit → Prop) : PX7_foldedPage (n + 5) (zI 4) (zI 0) (zI 3) (zI 3) K = K (zI 27) () := by
  unfold PX7_foldedPage PX7_foldedPage_24
  simp (disch := decide) only [q_columnsOf7, q_rowsOf7, zI_lit, zI_eq, q_if, if_pos, if_neg, q_fs, q_fe, Int.reduceAdd, Int.reduceMul, Int.reduceDiv, Int.reduceSub, Int.reduceMod]
theorem q_fp_4_1_3_3 (n : Nat) (K : Int32 → Unit → Prop) : PX7_foldedPage (n + 5) (zI 4) (zI 1) (zI 3) (zI 3) K = K (zI 28) () := by
  unfold PX7_foldedPage PX7_foldedPage_24
  simp (disch := decide) only [q_columnsOf7, q_rowsOf7, zI_lit, zI_eq, q_if, if_pos, if_neg, q_fs, q_fe, Int.reduceAdd, Int.reduceMul, Int.reduceDiv, Int.reduceSub, Int.reduceMod]
def cls (F : Int) : Int := if F < 3 then 2 else 4
def rws (F : Int) : Int := if F = 1 then 1 else if F < 4 then 2 else 4
abbrev shO (F c r : Int) : Prop := 1 ≤ F ∧ F ≤ 4 ∧ 0 ≤ c ∧ c < cls F ∧ 0 ≤ r ∧ r < rws F
theorem q_folded {N : Nat} {F b c r : Int} {K : Int32 → Unit → Prop} (hN : 700 ≤ N) (h : shO F c r) (hb : b = 0 ∨ b = 1) : PX7_foldedPage N (zI F) (zI b) (zI c) (zI r) K = K (zI (pgT F b c r)) () := by
  obtain ⟨n, rfl⟩ : ∃ n, N = n + 5 := ⟨N - 5, by omega⟩
  obtain ⟨h1, h2, h3, h4, h5, h6⟩ := h
  have hF : F = 1 ∨ F = 2 ∨ F = 3 ∨ F = 4 := by omega
  rcases hF with e | e | e | e <;> subst e <;> simp (disch := decide) only [cls, rws, if_pos, if_neg] at h4 h6
  · have hc : c = 0 ∨ c = 1 := by omega
    have hr : r = 0 := by omega
    rcases hb with e | e <;> subst e <;> rcases hc with e | e <;> subst e <;> subst hr
    · exact q_fp_1_0_0_0 n K
    · exact q_fp_1_0_1_0 n K
    · exact q_fp_1_1_0_0 n K
    · exact q_fp_1_1_1_0 n K
  · have hc : c = 0 ∨ c = 1 := by omega
    have hr : r = 0 ∨ r = 1 := by omega
    rcases hb with e | e <;> subst e <;> rcases hc with e | e <;> subst e <;> rcases hr with e | e <;> subst e
    · exact q_fp_2_0_0_0 n K
    · exact q_fp_2_0_0_1 n K
    · exact q_fp_2_0_1_0 n K
    · exact q_fp_2_0_1_1 n K
    · exact q_fp_2_1_0_0 n K
    · exact q_fp_2_1_0_1 n K
    · exact q_fp_2_1_1_0 n K
    · exact q_fp_2_1_1_1 n K
  · have hc : c = 0 ∨ c = 1 ∨ c = 2 ∨ c = 3 := by omega
    have hr : r = 0 ∨ r = 1 := by omega
    rcases hb with e | e <;> subst e <;> rcases hc with e | e | e | e <;> subst e <;> rcases hr with e | e <;> subst e
    · exact q_fp_3_0_0_0 n K
    · exact q_fp_3_0_0_1 n K
    · exact q_fp_3_0_1_0 n K
    · exact q_fp_3_0_1_1 n K
    · exact q_fp_3_0_2_0 n K
    · exact q_fp_3_0_2_1 n K
    · exact q_fp_3_0_3_0 n K
    · exact q_fp_3_0_3_1 n K
    · exact q_fp_3_1_0_0 n K
    · exact q_fp_3_1_0_1 n K
    · exact q_fp_3_1_1_0 n K
    · exact q_fp_3_1_1_1 n K
    · exact q_fp_3_1_2_0 n K
    · exact q_fp_3_1_2_1 n K
    · exact q_fp_3_1_3_0 n K
    · exact q_fp_3_1_3_1 n K
  · have hc : c = 0 ∨ c = 1 ∨ c = 2 ∨ c = 3 := by omega
    have hr : r = 0 ∨ r = 1 ∨ r = 2 ∨ r = 3 := by omega
    rcases hb with e | e <;> subst e <;> rcases hc with e | e | e | e <;> subst e <;> rcases hr with e | e | e | e <;> subst e
    · exact q_fp_4_0_0_0 n K
    · exact q_fp_4_0_0_1 n K
    · exact q_fp_4_0_0_2 n K
    · exact q_fp_4_0_0_3 n K
    · exact q_fp_4_0_1_0 n K
    · exact q_fp_4_0_1_1 n K
    · exact q_fp_4_0_1_2 n K
    · exact q_fp_4_0_1_3 n K
    · exact q_fp_4_0_2_0 n K
    · exact q_fp_4_0_2_1 n K
    · exact q_fp_4_0_2_2 n K
    · exact q_fp_4_0_2_3 n K
    · exact q_fp_4_0_3_0 n K
    · exact q_fp_4_0_3_1 n K
    · exact q_fp_4_0_3_2 n K
    · exact q_fp_4_0_3_3 n K
    · exact q_fp_4_1_0_0 n K
    · exact q_fp_4_1_0_1 n K
    · exact q_fp_4_1_0_2 n K
    · exact q_fp_4_1_0_3 n K
    · exact q_fp_4_1_1_0 n K
    · exact q_fp_4_1_1_1 n K
    · exact q_fp_4_1_1_2 n K
    · exact q_fp_4_1_1_3 n K
    · exact q_fp_4_1_2_0 n K
    · exact q_fp_4_1_2_1 n K
    · exact q_fp_4_1_2_2 n K
    · exact q_fp_4_1_2_3 n K
    · exact q_fp_4_1_3_0 n K
    · exact q_fp_4_1_3_1 n K
    · exact q_fp_4_1_3_2 n K
    · exact q_fp_4_1_3_3 n K
