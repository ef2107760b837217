/-! the pure part: an int as its number -/
def zI (e : Int) : Int32 := Int32.ofInt e
theorem zI_lit (n : Nat) : (OfNat.ofNat n : Int32) = zI (OfNat.ofNat n : Int) := rfl
theorem zI_add (a b : Int) : zI a + zI b = zI (a + b) := (Int32.ofInt_add a b).symm
theorem zI_sub (a b : Int) : zI a - zI b = zI (a - b) := (Int32.ofInt_sub a b).symm
theorem zI_mul (a b : Int) : zI a * zI b = zI (a * b) := (Int32.ofInt_mul a b).symm
theorem zI_neg (a : Int) : - zI a = zI (-a) := (Int32.ofInt_neg a).symm
theorem zI_toInt {a : Int} (h1 : -2147483648 ≤ a) (h2 : a < 2147483648) : (zI a).toInt = a := by
  unfold zI; rw [Int32.toInt_ofInt]
  show Int.bmod a 4294967296 = a
  exact Int.bmod_eq_of_le (by omega) (by omega)
theorem zI_of (x : Int32) : x = zI x.toInt := (Int32.ofInt_toInt x).symm
theorem zI_ex (x : Int32) : ∃ a : Int, -2147483648 ≤ a ∧ a < 2147483648 ∧ x = zI a := ⟨x.toInt, x.le_toInt, x.toInt_lt, zI_of x⟩
theorem zI_le {a b : Int} (h1 : -2147483648 ≤ a) (h2 : a < 2147483648) (h3 : -2147483648 ≤ b) (h4 : b < 2147483648) : zI a ≤ zI b ↔ a ≤ b := by
  rw [Int32.le_iff_toInt_le, zI_toInt h1 h2, zI_toInt h3 h4]
theorem zI_lt {a b : Int} (h1 : -2147483648 ≤ a) (h2 : a < 2147483648) (h3 : -2147483648 ≤ b) (h4 : b < 2147483648) : zI a < zI b ↔ a < b := by
  rw [Int32.lt_iff_toInt_lt, zI_toInt h1 h2, zI_toInt h3 h4]
theorem zI_eq {a b : Int} (h1 : -2147483648 ≤ a) (h2 : a < 2147483648) (h3 : -2147483648 ≤ b) (h4 : b < 2147483648) : zI a = zI b ↔ a = b := by
  rw [← Int32.toInt_inj, zI_toInt h1 h2, zI_toInt h3 h4]
theorem zI_div {a b : Int} (h1 : 0 ≤ a) (h2 : a < 2147483648) (h3 : 0 < b) (h4 : b < 2147483648) : zI a / zI b = zI (a / b) := by
  have : a / b < 2147483648 := Int.lt_of_le_of_lt (Int.ediv_le_self b h1) h2
  have h0 : 0 ≤ a / b := Int.ediv_nonneg h1 (by omega)
  rw [← Int32.toInt_inj, Int32.toInt_div, zI_toInt (by omega) h2, zI_toInt (by omega) h4, zI_toInt (by omega) this, Int.tdiv_eq_ediv_of_nonneg h1]
  exact Int.bmod_eq_of_le (by omega) (by omega)
theorem zI_rem {a b : Int} (h1 : 0 ≤ a) (h2 : a < 2147483648) (h3 : 0 < b) (h4 : b < 2147483648) : zI a - zI a / zI b * zI b = zI (a % b) := by
  rw [zI_div h1 h2 h3 h4, zI_mul, zI_sub]
  congr 1
  have := Int.emod_def a b
  rw [this, Int.mul_comm]
theorem zI_clamp {a : Int} (h1 : 0 ≤ a) (h2 : a < 2147483648) : (zI a).toNatClampNeg = a.toNat := by
  unfold Int32.toNatClampNeg; rw [zI_toInt (by omega) h2]
theorem zI_vp {a : Int} {n : Nat} (h1 : 0 ≤ a) (h2 : a < n) (h3 : (n : Int) ≤ 2147483648) : vp_in (zI a) n = True := by
  unfold vp_in
  rw [zI_clamp h1 (by omega), show (0 : Int32) = zI 0 from rfl, zI_lt (by omega) (by omega) (by omega) (by omega)]
  exact eq_true (by omega)
theorem q_if {c A B : Prop} [Decidable c] : ((c → A) ∧ (¬ c → B)) ↔ if c then A else B := by
  by_cases h : c <;> simp [h]
theorem q_ifn {c A B : Prop} [Decidable c] : ((¬ c → A) ∧ (c → B)) ↔ if c then B else A := by
  by_cases h : c <;> simp [h]
/-- a loop that counts from i to e -/
theorem q_for {σ : Type} (L : Nat → σ → Prop) (B : (σ → Prop) → σ → Prop) (hL : ∀ n s, L (n + 1) s = B (L n) s) (Inv : Int → σ → Prop) (e : Int)
    (hstep : ∀ i s (r : σ → Prop), i < e → Inv i s → (∀ s', Inv (i + 1) s' → r s') → B r s)
    (hend : ∀ s (r : σ → Prop), Inv e s → B r s) : ∀ (n : Nat) (i : Int) (s : σ), e - i < n → i ≤ e → Inv i s → L n s := by
  intro n
  induction n with
  | zero => intro i s h1 h2; omega
  | succ n ih =>
    intro i s h1 h2 hI
    rw [hL]
    rcases (by omega : i < e ∨ e ≤ i) with h | h
    · exact hstep i s (L n) h hI (fun s' hI' => ih (i + 1) s' (by omega) (by omega) hI')
    · have : i = e := by omega
      subst this
      exact hend s (L n) hI
/-! rows of a memory -/
theorem mb_u_eq (M : mb_m) (s : Nat) (f : Nat → Int32) : mb_u M s f s = f := if_pos rfl
theorem mb_u_ne (M : mb_m) {s t : Nat} (f : Nat → Int32) (h : t ≠ s) : mb_u M s f t = M t := if_neg h
/-- row s of M holds the numbers f below n -/
def mr (M : mb_m) (s : Nat) (f : Int → Int) (n : Int) : Prop := ∀ e : Int, 0 ≤ e → e < n → M s e.toNat = zI (f e)
theorem mr_get {M : mb_m} {s : Nat} {f : Int → Int} {n e : Int} (h : mr M s f n) (h1 : 0 ≤ e) (h2 : e < n) : M s e.toNat = zI (f e) := h e h1 h2
theorem mr_set {M : mb_m} {s : Nat} {f : Int → Int} {n : Int} (h : mr M s f n) {e v : Int} (h1 : 0 ≤ e) (h2 : e < n) :
    mr (mb_u M s (upd (M s) e.toNat (zI v))) s (fun j => if j = e then v else f j) n := by
  intro j h3 h4
  rw [mb_u_eq]
  show (if j.toNat = e.toNat then zI v else M s j.toNat) = zI (if j = e then v else f j)
  by_cases hj : j = e
  · rw [if_pos (by rw [hj]), if_pos hj]
  · rw [if_neg (by omega), if_neg hj, h j h3 h4]
theorem mr_ne {M : mb_m} {s t : Nat} {f : Int → Int} {n : Int} (r : Nat → Int32) (h : mr M s f n) (hst : s ≠ t) : mr (mb_u M t r) s f n := by
  intro j h3 h4
  rw [mb_u_ne _ _ hst]
  exact h j h3 h4
theorem mr_cong {M : mb_m} {s : Nat} {f g : Int → Int} {n : Int} (h : mr M s f n) (hg : ∀ e, 0 ≤ e → e < n → f e = g e) : mr M s g n := by
  intro j h3 h4
  rw [h j h3 h4, hg j h3 h4]
/-- the single number in slot s -/
def m1 (M : mb_m) (s : Nat) (v : Int) : Prop := M s 0 = zI v
theorem m1_set (M : mb_m) (s : Nat) (v : Int) : m1 (mb_u M s (mb_c (zI v))) s v := by unfold m1; rw [mb_u_eq]; rfl
theorem m1_ne {M : mb_m} {s t : Nat} {v : Int} (r : Nat → Int32) (h : m1 M s v) (hst : s ≠ t) : m1 (mb_u M t r) s v := by unfold m1; rw [mb_u_ne _ _ hst]; exact h
theorem upd_eq (f : Nat → Int32) (k : Nat) (x : Int32) : upd f k x k = x := if_pos rfl
theorem mr_dec {P : Int → Prop} {n : Int} (h : ∀ k, 0 ≤ k → k < n → P k) {e : Int} (h1 : 0 ≤ e) (h2 : e < n) : P e := h e h1 h2
/-- but for the slots in l, M' is M -/
def mf (M M' : mb_m) (l : List Nat) : Prop := ∀ s, s ∉ l → M' s = M s
theorem mf_refl (M : mb_m) (l : List Nat) : mf M M l := fun _ _ => rfl
theorem mf_u {M M' : mb_m} {l : List Nat} (h : mf M M' l) {t : Nat} (r : Nat → Int32) (ht : t ∈ l) : mf M (mb_u M' t r) l := fun s hs => by
  rw [mb_u_ne _ _ (fun e => hs (by rw [e]; exact ht))]; exact h s hs
theorem mf_tr {M M' M'' : mb_m} {l : List Nat} (h : mf M M' l) (h2 : mf M' M'' l) : mf M M'' l := fun s hs => by rw [h2 s hs, h s hs]
theorem mf_mono {M M' : mb_m} {l l' : List Nat} (h : mf M M' l) (hl : ∀ s ∈ l, s ∈ l') : mf M M' l' := fun s hs => h s (fun e => hs (hl s e))
theorem mf_mr {M M' : mb_m} {l : List Nat} (h : mf M M' l) {s : Nat} {f : Int → Int} {n : Int} (hs : s ∉ l) (hr : mr M s f n) : mr M' s f n := fun e h1 h2 => by rw [h s hs]; exact hr e h1 h2
theorem mf_m1 {M M' : mb_m} {l : List Nat} (h : mf M M' l) {s : Nat} {v : Int} (hs : s ∉ l) (hr : m1 M s v) : m1 M' s v := by unfold m1; rw [h s hs]; exact hr
/-- the sum of f below n -/
def sI (f : Int → Int) : Nat → Int
  | 0 => 0
  | n + 1 => sI f n + f n
theorem sI_step (f : Int → Int) {i : Int} (h : 0 ≤ i) : sI f (i + 1).toNat = sI f i.toNat + f i := by
  have e : (i + 1).toNat = i.toNat + 1 := by omega
  have e2 : (i.toNat : Int) = i := by omega
  rw [e]
  show sI f i.toNat + f (i.toNat : Int) = _
  rw [e2]
theorem sI_cong {f g : Int → Int} : ∀ {n : Nat}, (∀ k : Int, 0 ≤ k → k < n → f k = g k) → sI f n = sI g n
  | 0, _ => rfl
  | n + 1, h => by
    show sI f n + f n = sI g n + g n
    rw [sI_cong (n := n) (fun k h1 h2 => h k h1 (by omega)), h n (by omega) (by omega)]
theorem sI_rng {f : Int → Int} {a b : Int} : ∀ {n : Nat}, (∀ k : Int, 0 ≤ k → k < n → a ≤ f k ∧ f k ≤ b) → n * a ≤ sI f n ∧ sI f n ≤ n * b
  | 0, _ => by simp [sI]
  | n + 1, h => by
    have h1 := sI_rng (n := n) (fun k h1 h2 => h k h1 (by omega))
    have h2 := h n (by omega) (by omega)
    show _ ≤ sI f n + f n ∧ sI f n + f n ≤ _
    rw [show ((n + 1 : Nat) : Int) * a = n * a + a by rw [Int.natCast_add, Int.add_mul]; simp, show ((n + 1 : Nat) : Int) * b = n * b + b by rw [Int.natCast_add, Int.add_mul]; simp]
    omega
/-- 1 where p holds -/
def qb (p : Prop) [Decidable p] : Int := if p then 1 else 0
theorem qb_t {p : Prop} [Decidable p] (h : p) : qb p = 1 := if_pos h
theorem qb_f {p : Prop} [Decidable p] (h : ¬ p) : qb p = 0 := if_neg h
theorem qb_rng {p : Prop} [Decidable p] : 0 ≤ qb p ∧ qb p ≤ 1 := by unfold qb; split <;> omega
/-- a row after one of its numbers was written -/
theorem mr_up {M X : mb_m} {s t : Nat} {f g : Int → Int} {n e v : Int} (h : mr M s f n) (h1 : 0 ≤ e) (h2 : e < n) (he : g e = v) (hg : ∀ k, 0 ≤ k → k < n → k ≠ e → g k = f k) :
    mr (mb_u X t (upd (M s) e.toNat (zI v))) t g n := by
  intro j h3 h4
  rw [mb_u_eq]
  show (if j.toNat = e.toNat then zI v else M s j.toNat) = zI (g j)
  by_cases hj : j = e
  · rw [if_pos (by rw [hj]), hj, he]
  · rw [if_neg (by omega), hg j h3 h4 hj, h j h3 h4]
theorem mb_zm (s : Nat) (k : Nat) : mb_z s k = zI 0 := rfl
theorem q_const {p q : Prop} (h : p) : (p → q) ↔ q := ⟨fun g => g h, fun g _ => g⟩
theorem sI_le {f : Int → Int} {a b : Int} {n : Nat} (h : ∀ k : Int, 0 ≤ k → k < n → a ≤ f k ∧ f k ≤ b) {c : Int} (hc : n * b ≤ c) : sI f n ≤ c := Int.le_trans (sI_rng h).2 hc
theorem sI_qb (p : Int → Prop) [DecidablePred p] (n : Nat) : 0 ≤ sI (fun k => qb (p k)) n ∧ sI (fun k => qb (p k)) n ≤ n := by
  have := sI_rng (f := fun k => qb (p k)) (a := 0) (b := 1) (n := n) (fun k _ _ => qb_rng)
  omega
theorem sI_mono {f g : Int → Int} : ∀ {n : Nat}, (∀ k : Int, 0 ≤ k → k < n → f k ≤ g k) → sI f n ≤ sI g n
  | 0, _ => Int.le_refl _
  | n + 1, h => by
    have h1 := sI_mono (n := n) (fun k h1 h2 => h k h1 (by omega))
    have h2 := h n (by omega) (by omega)
    show sI f n + f n ≤ sI g n + g n
    omega
theorem sI_add (f g : Int → Int) : ∀ n : Nat, sI (fun k => f k + g k) n = sI f n + sI g n
  | 0 => rfl
  | n + 1 => by
    show sI (fun k => f k + g k) n + (f n + g n) = sI f n + f n + (sI g n + g n)
    rw [sI_add f g n]; omega
/-- counting below a place -/
theorem sI_cut (p : Int → Prop) [DecidablePred p] {k : Int} (hk : 0 ≤ k) : ∀ n : Nat, sI (fun j => qb (p j ∧ j < k)) n = sI (fun j => qb (p j)) (min n k.toNat)
  | 0 => by rw [Nat.zero_min]; rfl
  | n + 1 => by
    show sI (fun j => qb (p j ∧ j < k)) n + qb (p n ∧ (n : Int) < k) = _
    rw [sI_cut p hk n]
    by_cases h : (n : Int) < k
    · rw [show min (n + 1) k.toNat = min n k.toNat + 1 by omega]
      show _ = sI (fun j => qb (p j)) (min n k.toNat) + qb (p ((min n k.toNat : Nat) : Int))
      have e : min n k.toNat = n := by omega
      rw [e]
      by_cases hp : p n
      · rw [qb_t hp, qb_t ⟨hp, h⟩]
      · rw [qb_f hp, qb_f (fun x => hp x.1)]
    · rw [qb_f (fun x => h x.2), show min (n + 1) k.toNat = min n k.toNat by omega]; omega
theorem qb_cong {p q : Prop} [Decidable p] [Decidable q] (h : p ↔ q) : qb p = qb q := by
  by_cases hp : p
  · rw [qb_t hp, qb_t (h.mp hp)]
  · rw [qb_f hp, qb_f (fun x => hp (h.mpr x))]
theorem q_md (a b : Int) : a - a / b * b = a % b := by rw [Int.emod_def, Int.mul_comm]
theorem mr_app {M X : mb_m} {s t : Nat} {f g : Int → Int} {e v : Int} (h : mr M s f e) (h1 : 0 ≤ e) (he : g e = v) (hg : ∀ k, 0 ≤ k → k < e → g k = f k) :
    mr (mb_u X t (upd (M s) e.toNat (zI v))) t g (e + 1) := by
  intro j h3 h4
  rw [mb_u_eq]
  show (if j.toNat = e.toNat then zI v else M s j.toNat) = zI (g j)
  by_cases hj : j = e
  · rw [if_pos (by rw [hj]), hj, he]
  · rw [if_neg (by omega), hg j h3 (by omega), h j h3 (by omega)]
theorem mr_0 (M : mb_m) (s : Nat) (f : Int → Int) : mr M s f 0 := fun e h1 h2 => by omega
/-! small methods as equations -/
theorem q_isWithin {N : Nat} {a b c : Int} {K : Int32 → Unit → Prop} (h1 : -2147483648 ≤ a) (h2 : a < 2147483648) (h3 : -2147483648 ≤ b) (h4 : b < 2147483648) (h5 : -2147483648 ≤ c) (h6 : c < 2147483648) :
    PX7_isWithin N (zI a) (zI b) (zI c) K = if b ≤ a ∧ a ≤ c then K (zI 1) () else K (zI 0) () := by
  unfold PX7_isWithin
  simp (disch := omega) only [zI_lit, zI_neg, zI_add, zI_sub, zI_mul, zI_div, q_md, zI_lt, zI_le, zI_eq, zI_clamp, zI_vp, forall_eq, mb_u_eq, mb_u_ne, upd_eq, q_if]
  apply propext
  by_cases h : b ≤ a
  · by_cases h' : a ≤ c
    · rw [if_neg (by omega), if_neg (by omega), if_pos ⟨h, h'⟩]
    · rw [if_neg (by omega), if_pos (by omega), if_neg (by omega)]
  · rw [if_pos (by omega), if_neg (by omega)]
theorem q_isB1 : mb_isB (zI 1) = True := eq_true (Or.inr rfl)
theorem q_isB0 : mb_isB (zI 0) = True := eq_true (Or.inl rfl)
theorem q_isOnSide {N : Nat} {a : Int} {K : Int32 → Unit → Prop} (h1 : -2147483648 ≤ a) (h2 : a < 2147483648) :
    PX7_isOnSide N (zI a) K = if 0 ≤ a ∧ a ≤ 7 then K (zI 1) () else K (zI 0) () := by
  unfold PX7_isOnSide
  simp (disch := omega) only [zI_lit, zI_neg, zI_add, zI_sub, zI_mul, zI_div, q_md, zI_lt, zI_le, zI_eq, zI_clamp, zI_vp, forall_eq, mb_u_eq, mb_u_ne, upd_eq, q_if, q_ifn, if_pos, if_neg, true_and, and_true, if_true, if_false, q_isWithin, q_isB1, q_isB0]
theorem q_isOnGrid {N : Nat} {a b : Int} {K : Int32 → Unit → Prop} (h1 : -2147483648 ≤ a) (h2 : a < 2147483648) (h3 : -2147483648 ≤ b) (h4 : b < 2147483648) :
    PX7_isOnGrid N (zI a) (zI b) K = if (0 ≤ a ∧ a ≤ 7) ∧ 0 ≤ b ∧ b ≤ 7 then K (zI 1) () else K (zI 0) () := by
  unfold PX7_isOnGrid
  simp (disch := omega) only [zI_lit, zI_neg, zI_add, zI_sub, zI_mul, zI_div, q_md, zI_lt, zI_le, zI_eq, zI_clamp, zI_vp, forall_eq, mb_u_eq, mb_u_ne, upd_eq, q_if, q_ifn, if_pos, if_neg, true_and, and_true, if_true, if_false, q_isOnSide]
  by_cases h : 0 ≤ a ∧ a ≤ 7
  · by_cases h' : 0 ≤ b ∧ b ≤ 7
    · simp only [h, h', and_self, if_true]
    · simp only [h, h', and_false, if_true, if_false, and_self]
  · simp only [h, false_and, if_false, if_true]
theorem q_cellOf {N : Nat} {a b : Int} {K : Int32 → Unit → Prop} : PX7_cellOf N (zI a) (zI b) K = K (zI (b * 8 + a)) () := by
  unfold PX7_cellOf
  simp (disch := omega) only [zI_lit, zI_neg, zI_add, zI_sub, zI_mul, zI_div, q_md, zI_lt, zI_le, zI_eq, zI_clamp, zI_vp, forall_eq, mb_u_eq, mb_u_ne, upd_eq]
def dd (x y k : Int) : Int := (k % 8 - x) * (k % 8 - x) + (k / 8 - y) * (k / 8 - y)
theorem q_distance {N : Nat} {k x y : Int} {K : Int32 → Unit → Prop} (h1 : 0 ≤ k) (h2 : k < 64) :
    PX0_distance N (zI k) (zI x) (zI y) K = K (zI (dd x y k)) () := by
  unfold PX0_distance dd
  simp (disch := omega) only [zI_lit, zI_neg, zI_add, zI_sub, zI_mul, zI_div, q_md, zI_lt, zI_le, zI_eq, zI_clamp, zI_vp, forall_eq, mb_u_eq, mb_u_ne, upd_eq]
theorem sq_rng {a : Int} (h1 : -7 ≤ a) (h2 : a ≤ 7) : 0 ≤ a * a ∧ a * a ≤ 49 := by
  have : a = -7 ∨ a = -6 ∨ a = -5 ∨ a = -4 ∨ a = -3 ∨ a = -2 ∨ a = -1 ∨ a = 0 ∨ a = 1 ∨ a = 2 ∨ a = 3 ∨ a = 4 ∨ a = 5 ∨ a = 6 ∨ a = 7 := by omega
  rcases this with h | h | h | h | h | h | h | h | h | h | h | h | h | h | h <;> subst h <;> decide
theorem dd_rng {x y k : Int} (hx : 0 ≤ x ∧ x ≤ 7) (hy : 0 ≤ y ∧ y ≤ 7) (h1 : 0 ≤ k) (h2 : k < 64) : 0 ≤ dd x y k ∧ dd x y k ≤ 98 := by
  have a := sq_rng (a := k % 8 - x) (by omega) (by omega)
  have b := sq_rng (a := k / 8 - y) (by omega) (by omega)
  unfold dd; omega
theorem q_demandPlace0 {N : Nat} {K : Unit → Prop} {KX : String → Unit → Prop} : PX7_demandPlace N (zI 0) K KX = KX "java/lang/IndexOutOfBoundsException" () := by
  unfold PX7_demandPlace; simp (disch := omega) only [zI_lit, zI_neg, zI_add, zI_sub, zI_mul, zI_div, q_md, zI_lt, zI_le, zI_eq, zI_clamp, zI_vp, forall_eq, mb_u_eq, mb_u_ne, upd_eq, q_if, q_ifn, if_pos, if_neg, true_and, and_true, if_true, if_false]
theorem q_demandPlace1 {N : Nat} {K : Unit → Prop} {KX : String → Unit → Prop} : PX7_demandPlace N (zI 1) K KX = K () := by
  unfold PX7_demandPlace; simp (disch := omega) only [zI_lit, zI_neg, zI_add, zI_sub, zI_mul, zI_div, q_md, zI_lt, zI_le, zI_eq, zI_clamp, zI_vp, forall_eq, mb_u_eq, mb_u_ne, upd_eq, q_if, q_ifn, if_pos, if_neg, true_and, and_true, if_true, if_false]
theorem q_demandArgument0 {N : Nat} {K : Unit → Prop} {KX : String → Unit → Prop} : PX7_demandArgument N (zI 0) K KX = KX "java/lang/IllegalArgumentException" () := by
  unfold PX7_demandArgument; simp (disch := omega) only [zI_lit, zI_neg, zI_add, zI_sub, zI_mul, zI_div, q_md, zI_lt, zI_le, zI_eq, zI_clamp, zI_vp, forall_eq, mb_u_eq, mb_u_ne, upd_eq, q_if, q_ifn, if_pos, if_neg, true_and, and_true, if_true, if_false]
theorem q_demandArgument1 {N : Nat} {K : Unit → Prop} {KX : String → Unit → Prop} : PX7_demandArgument N (zI 1) K KX = K () := by
  unfold PX7_demandArgument; simp (disch := omega) only [zI_lit, zI_neg, zI_add, zI_sub, zI_mul, zI_div, q_md, zI_lt, zI_le, zI_eq, zI_clamp, zI_vp, forall_eq, mb_u_eq, mb_u_ne, upd_eq, q_if, q_ifn, if_pos, if_neg, true_and, and_true, if_true, if_false]
theorem q_demandState0 {N : Nat} {K : Unit → Prop} {KX : String → Unit → Prop} : PX7_demandState N (zI 0) K KX = KX "java/lang/IllegalStateException" () := by
  unfold PX7_demandState; simp (disch := omega) only [zI_lit, zI_neg, zI_add, zI_sub, zI_mul, zI_div, q_md, zI_lt, zI_le, zI_eq, zI_clamp, zI_vp, forall_eq, mb_u_eq, mb_u_ne, upd_eq, q_if, q_ifn, if_pos, if_neg, true_and, and_true, if_true, if_false]
theorem q_demandState1 {N : Nat} {K : Unit → Prop} {KX : String → Unit → Prop} : PX7_demandState N (zI 1) K KX = K () := by
  unfold PX7_demandState; simp (disch := omega) only [zI_lit, zI_neg, zI_add, zI_sub, zI_mul, zI_div, q_md, zI_lt, zI_le, zI_eq, zI_clamp, zI_vp, forall_eq, mb_u_eq, mb_u_ne, upd_eq, q_if, q_ifn, if_pos, if_neg, true_and, and_true, if_true, if_false]
/-! the bath of the bench -/
def cnt (C : Int → Int) : Int := sI (fun k => qb (0 < C k)) 64
def bI (M : mb_m) (C S : Int → Int) : Prop := mr M 0 (fun k => C k - 1) 64 ∧ mr M 1 S 64
def bR (C S : Int → Int) : Prop := ∀ k : Int, 0 ≤ k → k < 64 → 0 ≤ C k ∧ C k ≤ 6 ∧ 0 ≤ S k ∧ S k ≤ 2 ∧ (0 < C k → 1 ≤ S k)
theorem bI_cong {M : mb_m} {C S C' S' : Int → Int} (h : bI M C S) (hC : ∀ k, 0 ≤ k → k < 64 → C k = C' k) (hS : ∀ k, 0 ≤ k → k < 64 → S k = S' k) : bI M C' S' :=
  ⟨mr_cong h.1 (fun e h1 h2 => by rw [hC e h1 h2]), mr_cong h.2 hS⟩
theorem e_empty {N : Nat} {M : mb_m} {C S : Int → Int} {K : Int32 → mb_m → Prop} (hN : 700 ≤ N) (hR : bR C S) (h : bI M C S)
    (hK : ∀ M', bI M' (fun _ => 0) (fun _ => 0) → K (zI (cnt C)) M') : PX0_empty N M K := by
  refine (q_for (σ := mb_m × Int32 × Int32) (fun n s => PX0_empty_4 N K n s.1 s.2.1 s.2.2) (fun r0 s => PX0_empty_4_b N K (fun a0 a1 a2 => r0 (a0, a1, a2)) s.1 s.2.1 s.2.2) (fun _ _ => rfl))
    (fun i s => bI s.1 (fun k => if k < i then 0 else C k) (fun k => if k < i then 0 else S k) ∧ s.2.1 = zI (sI (fun k => qb (0 < C k)) i.toNat) ∧ s.2.2 = zI i ∧ 0 ≤ i) 64 ?_ ?_ N 0 (M, _, _) (by omega) (by omega) ?_
  · rintro i ⟨M, x, y⟩ r hi ⟨⟨h1, h2⟩, rfl, rfl, h0⟩ hr
    dsimp only at h1 h2 ⊢
    have g1 := h1 i h0 hi
    have hb := hR i h0 hi
    dsimp only at g1
    rw [if_neg (by omega)] at g1
    have hs := sI_qb (fun k => 0 < C k) i.toNat
    have hq := sI_step (fun k => qb (0 < C k)) h0
    try dsimp only at hq
    unfold PX0_empty_4_b PX0_empty_26
    simp (disch := omega) only [zI_lit, zI_neg, zI_add, zI_sub, zI_mul, zI_div, q_md, zI_lt, zI_le, zI_eq, zI_clamp, zI_vp, forall_eq, mb_u_eq, mb_u_ne, upd_eq, q_if, q_ifn, if_pos, if_neg, true_and, and_true, if_true, if_false, g1]
    have h4 : ∀ X : mb_m, bI (mb_u (mb_u X 0 (upd (M 0) i.toNat (zI (-1)))) 1 (upd (M 1) i.toNat (zI 0))) (fun k => if k < i + 1 then 0 else C k) (fun k => if k < i + 1 then 0 else S k) :=
      fun X => ⟨mr_ne _ (mr_up h1 (by omega) (by omega) (by intros; (try dsimp only); (repeat' split) <;> omega) (by intros; (try dsimp only); (repeat' split) <;> omega)) (by decide), (mr_up h2 (by omega) (by omega) (by intros; (try dsimp only); (repeat' split) <;> omega) (by intros; (try dsimp only); (repeat' split) <;> omega))⟩
    split
    · exact hr _ ⟨h4 M, by (try dsimp only); rw [hq, qb_f (by omega)], rfl, by omega⟩
    · exact hr _ ⟨h4 M, by (try dsimp only); rw [hq, qb_t (by omega)], rfl, by omega⟩
  · rintro ⟨M, x, y⟩ r ⟨h1, rfl, rfl, h0⟩
    unfold PX0_empty_4_b
    simp (disch := omega) only [zI_lit, zI_neg, zI_add, zI_sub, zI_mul, zI_div, q_md, zI_lt, zI_le, zI_eq, zI_clamp, zI_vp, forall_eq, mb_u_eq, mb_u_ne, upd_eq, q_if, q_ifn, if_pos, if_neg, true_and, and_true, if_true, if_false]
    exact hK M (bI_cong h1 (fun k h3 h4 => by (try dsimp only); rw [if_pos h4]) (fun k h3 h4 => by (try dsimp only); rw [if_pos h4]))
  · exact ⟨bI_cong h (fun k h3 h4 => by (try dsimp only); rw [if_neg (by omega)]) (fun k h3 h4 => by (try dsimp only); rw [if_neg (by omega)]), rfl, rfl, by omega⟩
/-- what fades: the colours and strengths after a lift -/
def fC (C S : Int → Int) (k : Int) : Int := if 0 < C k then (if 0 < S k - 1 then C k else 0) else C k
def fS (C S : Int → Int) (k : Int) : Int := if 0 < C k then S k - 1 else S k
theorem e_fade {N : Nat} {M : mb_m} {C S : Int → Int} {K : mb_m → Prop} (hN : 700 ≤ N) (hR : bR C S) (h : bI M C S)
    (hK : ∀ M', bI M' (fC C S) (fS C S) → K M') : PX0_fade N M K := by
  refine (q_for (σ := mb_m × Int32) (fun n s => PX0_fade_2 N K n s.1 s.2) (fun r0 s => PX0_fade_2_b N K (fun a0 a1 => r0 (a0, a1)) s.1 s.2) (fun _ _ => rfl))
    (fun i s => bI s.1 (fun k => if k < i then fC C S k else C k) (fun k => if k < i then fS C S k else S k) ∧ s.2 = zI i ∧ 0 ≤ i) 64 ?_ ?_ N 0 (M, _) (by omega) (by omega) ?_
  · rintro i ⟨M, y⟩ r hi ⟨⟨h1, h2⟩, rfl, h0⟩ hr
    dsimp only at h1 h2 ⊢
    have g1 := h1 i h0 hi
    have g2 := h2 i h0 hi
    have hb := hR i h0 hi
    dsimp only at g1 g2
    rw [if_neg (by omega)] at g1 g2
    unfold PX0_fade_2_b PX0_fade_52 PX0_fade_53
    simp (disch := omega) only [zI_lit, zI_neg, zI_add, zI_sub, zI_mul, zI_div, q_md, zI_lt, zI_le, zI_eq, zI_clamp, zI_vp, forall_eq, mb_u_eq, mb_u_ne, upd_eq, q_if, q_ifn, if_pos, if_neg, true_and, and_true, if_true, if_false, g1, g2]
    have u1 : ∀ k, 0 ≤ k → k < 64 → k ≠ i → (if k < i + 1 then fC C S k else C k) - 1 = (if k < i then fC C S k else C k) - 1 := by intro k _ _ _; (repeat' split) <;> omega
    have u2 : ∀ k, 0 ≤ k → k < 64 → k ≠ i → (if k < i + 1 then fS C S k else S k) = (if k < i then fS C S k else S k) := by intro k _ _ _; (repeat' split) <;> omega
    have v1 : (if i < i + 1 then fC C S i else C i) = fC C S i := if_pos (by omega)
    have v2 : (if i < i + 1 then fS C S i else S i) = fS C S i := if_pos (by omega)
    split
    · refine hr _ ⟨⟨mr_cong h1 (fun k h3 h4 => ?_), mr_cong h2 (fun k h3 h4 => ?_)⟩, rfl, by omega⟩
      · by_cases hk : k = i
        · subst hk; (try dsimp only); rw [v1, if_neg (by omega), fC, if_neg (by omega)]
        · exact (u1 k h3 h4 hk).symm
      · by_cases hk : k = i
        · subst hk; (try dsimp only); rw [v2, if_neg (by omega), fS, if_neg (by omega)]
        · exact (u2 k h3 h4 hk).symm
    · split
      · refine hr _ ⟨⟨mr_up h1 h0 hi (by (try dsimp only); rw [v1, fC, if_pos (by omega), if_neg (by omega)]; rfl) u1, mr_ne _ (mr_up h2 h0 hi (by (try dsimp only); rw [v2, fS, if_pos (by omega)]) u2) (by decide)⟩, rfl, by omega⟩
      · refine hr _ ⟨⟨mr_up h1 h0 hi (by (try dsimp only); rw [v1, fC, if_pos (by omega), if_pos (by omega)]) u1, mr_ne _ (mr_up h2 h0 hi (by (try dsimp only); rw [v2, fS, if_pos (by omega)]) u2) (by decide)⟩, rfl, by omega⟩
  · rintro ⟨M, y⟩ r ⟨h1, rfl, h0⟩
    unfold PX0_fade_2_b
    simp (disch := omega) only [zI_lit, zI_neg, zI_add, zI_sub, zI_mul, zI_div, q_md, zI_lt, zI_le, zI_eq, zI_clamp, zI_vp, forall_eq, mb_u_eq, mb_u_ne, upd_eq, q_if, q_ifn, if_pos, if_neg, true_and, and_true, if_true, if_false]
    exact hK M (bI_cong h1 (fun k h3 h4 => by (try dsimp only); rw [if_pos h4]) (fun k h3 h4 => by (try dsimp only); rw [if_pos h4]))
  · exact ⟨bI_cong h (fun k h3 h4 => by (try dsimp only); rw [if_neg (by omega)]) (fun k h3 h4 => by (try dsimp only); rw [if_neg (by omega)]), rfl, by omega⟩
theorem e_press {N : Nat} {M : mb_m} {f : Int → Int} {K : Nat → (mb_m × Nat × (Nat → Nat) × mb_m) → Prop} (hN : 700 ≤ N) (h : mr M 0 f 64)
    (hK : ∀ o a M', mr M' 0 f 64 → K o (M, o, a, M')) : PX0_press N M K := by
  unfold PX0_press
  intro q0
  unfold PX2_init
  intro a o1 a1
  refine (q_for (σ := mb_m × mb_m × Int32) (fun n s => PX0_press_10 N K o1 a1 n s.1 s.2.1 s.2.2) (fun r0 s => PX0_press_10_b N K o1 a1 (fun a0 a1 a2 => r0 (a0, a1, a2)) s.1 s.2.1 s.2.2) (fun _ _ => rfl))
    (fun i s => s.1 = M ∧ mr s.2.1 0 f i ∧ s.2.2 = zI i ∧ 0 ≤ i) 64 ?_ ?_ N 0 (M, _, _) (by omega) (by omega) ?_
  · rintro i ⟨M0, M1, y⟩ r hi ⟨rfl, h1, rfl, h0⟩ hr
    dsimp only at h1 h ⊢
    have g1 := h i h0 hi
    unfold PX0_press_10_b
    simp (disch := omega) only [zI_lit, zI_neg, zI_add, zI_sub, zI_mul, zI_div, q_md, zI_lt, zI_le, zI_eq, zI_clamp, zI_vp, forall_eq, mb_u_eq, mb_u_ne, upd_eq, q_if, q_ifn, if_pos, if_neg, true_and, and_true, if_true, if_false, g1]
    exact hr _ ⟨rfl, mr_app h1 h0 rfl (fun _ _ _ => rfl), rfl, by omega⟩
  · rintro ⟨M0, M1, y⟩ r ⟨rfl, h1, rfl, h0⟩
    unfold PX0_press_10_b
    simp (disch := omega) only [zI_lit, zI_neg, zI_add, zI_sub, zI_mul, zI_div, q_md, zI_lt, zI_le, zI_eq, zI_clamp, zI_vp, forall_eq, mb_u_eq, mb_u_ne, upd_eq, q_if, q_ifn, if_pos, if_neg, true_and, and_true, if_true, if_false]
    exact hK o1 a1 M1 h1
  · exact ⟨rfl, mr_0 _ _ _, rfl, by omega⟩
/-- how many cells are so far away -/
def dN (x y r : Int) : Int := sI (fun n => qb (dd x y n = r)) 64
def dL (x y r : Int) : Int := sI (fun n => qb (dd x y n < r)) 64
theorem dL_succ (x y r : Int) : dL x y (r + 1) = dL x y r + dN x y r := by
  unfold dL dN
  rw [← sI_add]
  refine sI_cong (fun k _ _ => ?_)
  by_cases h : dd x y k < r
  · rw [qb_t (by omega), qb_t h, qb_f (by omega)]; rfl
  · by_cases h2 : dd x y k = r
    · rw [qb_t (by omega), qb_f h, qb_t h2]; rfl
    · rw [qb_f (by omega), qb_f h, qb_f h2]; rfl
theorem dL_mono (x y : Int) {r r' : Int} (h : r ≤ r') : dL x y r ≤ dL x y r' := sI_mono (fun k _ _ => by
  by_cases h1 : dd x y k < r
  · rw [qb_t h1, qb_t (by omega)]; omega
  · rw [qb_f h1]; exact qb_rng.1)
/-- how many cells are before a cell -/
def dA (x y k : Int) : Int := dL x y (dd x y k) + sI (fun n => qb (dd x y n = dd x y k)) k.toNat
theorem dA_order {x y k : Int} (hk : 0 ≤ k) (hk2 : k < 64) : sI (fun n => qb (64 * dd x y n + n < 64 * dd x y k + k)) 64 = dA x y k := by
  unfold dA dL
  have e := sI_cut (fun n => dd x y n = dd x y k) hk 64
  rw [show min 64 k.toNat = k.toNat by omega] at e
  rw [← e, ← sI_add]
  refine sI_cong (fun n h1 h2 => ?_)
  have h3 : n < 64 := by omega
  by_cases h : dd x y n < dd x y k
  · rw [qb_t (by omega), qb_t h, qb_f (by omega)]; rfl
  · by_cases h4 : dd x y n = dd x y k ∧ n < k
    · rw [qb_t (by omega), qb_f h, qb_t h4]; rfl
    · rw [qb_f (by omega), qb_f h, qb_f h4]; rfl
theorem e_count {N : Nat} {M : mb_m} {x y : Int} {K : mb_m → Prop} (hN : 700 ≤ N) (hx : 0 ≤ x ∧ x ≤ 7) (hy : 0 ≤ y ∧ y ≤ 7)
    (hK : ∀ M', mf M M' [2] → mr M' 2 (dN x y) 99 → K M') : PX0_countCellsAway N M (zI x) (zI y) K := by
  refine (q_for (σ := mb_m × Int32 × Int32 × Int32) (fun n s => PX0_countCellsAway_2 N K n s.1 s.2.1 s.2.2.1 s.2.2.2) (fun r0 s => PX0_countCellsAway_2_b N K (fun a0 a1 a2 a3 => r0 (a0, a1, a2, a3)) s.1 s.2.1 s.2.2.1 s.2.2.2) (fun _ _ => rfl))
    (fun i s => mf M s.1 [2] ∧ mr s.1 2 (fun _ => 0) i ∧ s.2.1 = zI x ∧ s.2.2.1 = zI y ∧ s.2.2.2 = zI i ∧ 0 ≤ i) 99 ?_ ?_ N 0 (M, _, _, _) (by omega) (by omega) ?_
  · rintro i ⟨M1, a, b, c⟩ r hi ⟨h1, h2, rfl, rfl, rfl, h0⟩ hr
    dsimp only at h1 h2 ⊢
    unfold PX0_countCellsAway_2_b
    simp (disch := omega) only [zI_lit, zI_neg, zI_add, zI_sub, zI_mul, zI_div, q_md, zI_lt, zI_le, zI_eq, zI_clamp, zI_vp, forall_eq, mb_u_eq, mb_u_ne, upd_eq, q_if, q_ifn, if_pos, if_neg, true_and, and_true, if_true, if_false]
    exact hr _ ⟨mf_u h1 _ (by decide), mr_app h2 h0 rfl (fun _ _ _ => rfl), rfl, rfl, rfl, by omega⟩
  · rintro ⟨M1, a, b, c⟩ r ⟨h1, h2, rfl, rfl, rfl, h0⟩
    dsimp only at h1 h2 ⊢
    unfold PX0_countCellsAway_2_b
    simp (disch := omega) only [zI_lit, zI_neg, zI_add, zI_sub, zI_mul, zI_div, q_md, zI_lt, zI_le, zI_eq, zI_clamp, zI_vp, forall_eq, mb_u_eq, mb_u_ne, upd_eq, q_if, q_ifn, if_pos, if_neg, true_and, and_true, if_true, if_false]
    refine (q_for (σ := mb_m × Int32 × Int32 × Int32) (fun n s => PX0_countCellsAway_23 N K n s.1 s.2.1 s.2.2.1 s.2.2.2) (fun r0 s => PX0_countCellsAway_23_b N K (fun a0 a1 a2 a3 => r0 (a0, a1, a2, a3)) s.1 s.2.1 s.2.2.1 s.2.2.2) (fun _ _ => rfl))
      (fun i s => mf M s.1 [2] ∧ mr s.1 2 (fun r => sI (fun n => qb (dd x y n = r)) i.toNat) 99 ∧ s.2.1 = zI x ∧ s.2.2.1 = zI y ∧ s.2.2.2 = zI i ∧ 0 ≤ i) 64 ?_ ?_ N 0 (M1, _, _, _) (by omega) (by omega) ?_
    · rintro i ⟨M2, a, b, c⟩ r hi ⟨h1, h2, rfl, rfl, rfl, h0⟩ hr
      dsimp only at h1 h2 ⊢
      have hd := dd_rng hx hy h0 hi
      have g2 := h2 (dd x y i) hd.1 (by omega)
      have hs := sI_qb (fun n => dd x y n = dd x y i) i.toNat
      unfold PX0_countCellsAway_23_b
      simp (disch := omega) only [zI_lit, zI_neg, zI_add, zI_sub, zI_mul, zI_div, q_md, zI_lt, zI_le, zI_eq, zI_clamp, zI_vp, forall_eq, mb_u_eq, mb_u_ne, upd_eq, q_if, q_ifn, if_pos, if_neg, true_and, and_true, if_true, if_false, q_distance, g2]
      refine hr _ ⟨mf_u h1 _ (by decide), mr_up h2 hd.1 (by omega) ?_ ?_, rfl, rfl, rfl, by omega⟩
      · have := sI_step (fun n => qb (dd x y n = dd x y i)) h0
        rw [this, qb_t rfl]
      · intro k h3 h4 h5
        have := sI_step (fun n => qb (dd x y n = k)) h0
        rw [this, qb_f (fun e => h5 e.symm)]; omega
    · rintro ⟨M2, a, b, c⟩ r ⟨h1, h2, rfl, rfl, rfl, h0⟩
      unfold PX0_countCellsAway_23_b
      simp (disch := omega) only [zI_lit, zI_neg, zI_add, zI_sub, zI_mul, zI_div, q_md, zI_lt, zI_le, zI_eq, zI_clamp, zI_vp, forall_eq, mb_u_eq, mb_u_ne, upd_eq, q_if, q_ifn, if_pos, if_neg, true_and, and_true, if_true, if_false]
      exact hK M2 h1 h2
    · exact ⟨h1, mr_cong h2 (fun _ _ _ => rfl), rfl, rfl, rfl, by omega⟩
  · exact ⟨mf_refl _ _, mr_0 _ _ _, rfl, rfl, rfl, by omega⟩
def uC (x y c m : Int) (C : Int → Int) (k : Int) : Int := if dA x y k < m ∧ C k ≤ c + 1 then c + 1 else C k
def uS (x y c m : Int) (C S : Int → Int) (k : Int) : Int := if dA x y k < m ∧ C k ≤ c + 1 then 2 else S k
def uN (x y c m : Int) (C : Int → Int) (n : Nat) : Int := sI (fun k => qb (dA x y k < m ∧ C k ≤ c + 1)) n
theorem dA_taken {x y m ρ : Int} (hx : 0 ≤ x ∧ x ≤ 7) (hy : 0 ≤ y ∧ y ≤ 7) (h1 : ∀ r, 0 ≤ r → r < ρ → dL x y (r + 1) < m) (h2 : ρ = 98 ∨ m ≤ dL x y (ρ + 1)) {k : Int} (hk : 0 ≤ k) (hk2 : k < 64) :
    dA x y k < m ↔ (dd x y k < ρ ∨ dd x y k = ρ ∧ 0 < m - dL x y ρ - sI (fun n => qb (dd x y n = ρ)) k.toNat) := by
  have hd := dd_rng hx hy hk hk2
  have hs := sI_qb (fun n => dd x y n = dd x y k) k.toNat
  unfold dA
  rcases (by omega : dd x y k < ρ ∨ dd x y k = ρ ∨ ρ < dd x y k) with h | h | h
  · have a := h1 (dd x y k) hd.1 h
    have b := dL_succ x y (dd x y k)
    have : sI (fun n => qb (dd x y n = dd x y k)) k.toNat ≤ dN x y (dd x y k) := by
      unfold dN
      have e := sI_cut (fun n => dd x y n = dd x y k) hk 64
      rw [show min 64 k.toNat = k.toNat by omega] at e
      rw [← e]
      refine sI_mono (fun n _ _ => ?_)
      by_cases h3 : dd x y n = dd x y k ∧ n < k
      · rw [qb_t h3, qb_t h3.1]; omega
      · rw [qb_f h3]; exact qb_rng.1
    constructor
    · intro _; exact Or.inl h
    · intro _; omega
  · rw [h]
    constructor
    · intro g; exact Or.inr ⟨rfl, by omega⟩
    · rintro (g | g)
      · omega
      · omega
  · rcases h2 with h3 | h3
    · omega
    · have a := dL_mono x y (show ρ + 1 ≤ dd x y k by omega)
      constructor
      · intro g; omega
      · rintro (g | g) <;> omega
theorem e_take {N : Nat} {M : mb_m} {C S : Int → Int} {K : Int32 → mb_m → Prop} {x y c m ρ : Int} (hN : 700 ≤ N) (hx : 0 ≤ x ∧ x ≤ 7) (hy : 0 ≤ y ∧ y ≤ 7) (hc : 0 ≤ c ∧ c ≤ 5) (hm : 1 ≤ m ∧ m ≤ 64) (hρ : 0 ≤ ρ ∧ ρ ≤ 98)
    (h1 : ∀ r, 0 ≤ r → r < ρ → dL x y (r + 1) < m) (h2 : ρ = 98 ∨ m ≤ dL x y (ρ + 1)) (hR : bR C S) (h : bI M C S)
    (hK : ∀ M', bI M' (uC x y c m C) (uS x y c m C S) → K (zI (uN x y c m C 64)) M') : PX0_spread_50 N K M (zI x) (zI y) (zI c) (zI ρ) (zI (m - dL x y ρ)) := by
  have hL := sI_qb (fun n => dd x y n < ρ) 64
  have hL : 0 ≤ dL x y ρ ∧ dL x y ρ ≤ 64 := hL
  refine (q_for (σ := mb_m × Int32 × Int32 × Int32 × Int32 × Int32 × Int32 × Int32) (fun n s => PX0_spread_56 N K n s.1 s.2.1 s.2.2.1 s.2.2.2.1 s.2.2.2.2.1 s.2.2.2.2.2.1 s.2.2.2.2.2.2.1 s.2.2.2.2.2.2.2) (fun r0 s => PX0_spread_56_b N K (fun a0 a1 a2 a3 a4 a5 a6 a7 => r0 (a0, a1, a2, a3, a4, a5, a6, a7)) s.1 s.2.1 s.2.2.1 s.2.2.2.1 s.2.2.2.2.1 s.2.2.2.2.2.1 s.2.2.2.2.2.2.1 s.2.2.2.2.2.2.2) (fun _ _ => rfl))
    (fun i s => bI s.1 (fun k => if k < i then uC x y c m C k else C k) (fun k => if k < i then uS x y c m C S k else S k) ∧ s.2.1 = zI x ∧ s.2.2.1 = zI y ∧ s.2.2.2.1 = zI c ∧ s.2.2.2.2.1 = zI ρ ∧ s.2.2.2.2.2.1 = zI (m - dL x y ρ - sI (fun n => qb (dd x y n = ρ)) i.toNat) ∧ s.2.2.2.2.2.2.1 = zI (uN x y c m C i.toNat) ∧ s.2.2.2.2.2.2.2 = zI i ∧ 0 ≤ i) 64 ?_ ?_ N 0 (M, _, _, _, _, _, _, _) (by omega) (by omega) ?_
  · rintro i ⟨M1, a1, a2, a3, a4, a5, a6, a7⟩ r hi ⟨⟨g1, g2⟩, rfl, rfl, rfl, rfl, rfl, rfl, rfl, h0⟩ hr
    dsimp only at g1 g2 ⊢
    have v1 := g1 i h0 hi
    have hb := hR i h0 hi
    dsimp only at v1
    rw [if_neg (by omega)] at v1
    have hd := dd_rng hx hy h0 hi
    have ht := dA_taken hx hy h1 h2 h0 hi
    have hs := sI_qb (fun n => dd x y n = ρ) i.toNat
    have hs2 := sI_step (fun n => qb (dd x y n = ρ)) h0
    have hn : 0 ≤ uN x y c m C i.toNat ∧ uN x y c m C i.toNat ≤ i.toNat := sI_qb (fun k => dA x y k < m ∧ C k ≤ c + 1) i.toNat
    have hn2 : uN x y c m C (i + 1).toNat = uN x y c m C i.toNat + qb (dA x y i < m ∧ C i ≤ c + 1) := sI_step _ h0
    have u1 : ∀ k, 0 ≤ k → k < 64 → k ≠ i → (if k < i + 1 then uC x y c m C k else C k) - 1 = (if k < i then uC x y c m C k else C k) - 1 := by intro k _ _ _; (repeat' split) <;> omega
    have u2 : ∀ k, 0 ≤ k → k < 64 → k ≠ i → (if k < i + 1 then uS x y c m C S k else S k) = (if k < i then uS x y c m C S k else S k) := by intro k _ _ _; (repeat' split) <;> omega
    have w1 : (if i < i + 1 then uC x y c m C i else C i) = uC x y c m C i := if_pos (by omega)
    have w2 : (if i < i + 1 then uS x y c m C S i else S i) = uS x y c m C S i := if_pos (by omega)
    -- what is left after this cell
    have hq : qb (dd x y i = ρ) = 1 ∧ dd x y i = ρ ∨ qb (dd x y i = ρ) = 0 ∧ ¬ dd x y i = ρ := by
      by_cases e : dd x y i = ρ
      · exact Or.inl ⟨qb_t e, e⟩
      · exact Or.inr ⟨qb_f e, e⟩
    have hskip : ¬ (dA x y i < m ∧ C i ≤ c + 1) → ∀ a5' a6' a7', a5' = zI (m - dL x y ρ - sI (fun n => qb (dd x y n = ρ)) (i + 1).toNat) → a6' = zI (uN x y c m C i.toNat) → a7' = zI (i + 1) → r (M1, zI x, zI y, zI c, zI ρ, a5', a6', a7') := by
      rintro g _ _ _ rfl rfl rfl
      refine hr _ ⟨⟨mr_cong g1 (fun k h3 h4 => ?_), mr_cong g2 (fun k h3 h4 => ?_)⟩, rfl, rfl, rfl, rfl, rfl, by rw [hn2, qb_f g]; simp, rfl, by omega⟩
      · by_cases hk : k = i
        · subst hk; (try dsimp only); rw [w1, if_neg (by omega), uC, if_neg g]
        · exact (u1 k h3 h4 hk).symm
      · by_cases hk : k = i
        · subst hk; (try dsimp only); rw [w2, if_neg (by omega), uS, if_neg g]
        · exact (u2 k h3 h4 hk).symm
    have htake : (dA x y i < m ∧ C i ≤ c + 1) → ∀ a5' a6' a7', a5' = zI (m - dL x y ρ - sI (fun n => qb (dd x y n = ρ)) (i + 1).toNat) → a6' = zI (uN x y c m C i.toNat + 1) → a7' = zI (i + 1) → r (mb_u (mb_u M1 0 (upd (M1 0) i.toNat (zI c))) 1 (upd (M1 1) i.toNat (zI 2)), zI x, zI y, zI c, zI ρ, a5', a6', a7') := by
      rintro g _ _ _ rfl rfl rfl
      exact hr _ ⟨⟨mr_ne _ (mr_up g1 h0 hi (by (try dsimp only); rw [w1, uC, if_pos g]; omega) u1) (by decide), mr_up g2 h0 hi (by (try dsimp only); rw [w2, uS, if_pos g]) u2⟩, rfl, rfl, rfl, rfl, rfl, by rw [hn2, qb_t g], rfl, by omega⟩
    unfold PX0_spread_56_b PX0_spread_91 PX0_spread_95 PX0_spread_96 PX0_spread_108 PX0_spread_143
    rcases hq with ⟨q1, q2⟩ | ⟨q1, q2⟩
    · simp (disch := omega) only [zI_lit, zI_neg, zI_add, zI_sub, zI_mul, zI_div, q_md, zI_lt, zI_le, zI_eq, zI_clamp, zI_vp, forall_eq, mb_u_eq, mb_u_ne, upd_eq, q_if, q_ifn, if_pos, if_neg, true_and, and_true, if_true, if_false, q_distance, v1, q2]
      (repeat' split) <;> first
        | exact hskip (by omega) _ _ _ (by rw [hs2, q1]; congr 1; omega) rfl rfl
        | exact htake (by omega) _ _ _ (by rw [hs2, q1]; congr 1; omega) rfl rfl
    · simp (disch := omega) only [zI_lit, zI_neg, zI_add, zI_sub, zI_mul, zI_div, q_md, zI_lt, zI_le, zI_eq, zI_clamp, zI_vp, forall_eq, mb_u_eq, mb_u_ne, upd_eq, q_if, q_ifn, if_pos, if_neg, true_and, and_true, if_true, if_false, q_distance, v1]
      (repeat' split) <;> first
        | exact hskip (by omega) _ _ _ (by rw [hs2, q1]; congr 1; omega) rfl rfl
        | exact htake (by omega) _ _ _ (by rw [hs2, q1]; congr 1; omega) rfl rfl
  · rintro ⟨M1, a1, a2, a3, a4, a5, a6, a7⟩ r ⟨g1, rfl, rfl, rfl, rfl, rfl, rfl, rfl, h0⟩
    unfold PX0_spread_56_b
    simp (disch := omega) only [zI_lit, zI_neg, zI_add, zI_sub, zI_mul, zI_div, q_md, zI_lt, zI_le, zI_eq, zI_clamp, zI_vp, forall_eq, mb_u_eq, mb_u_ne, upd_eq, q_if, q_ifn, if_pos, if_neg, true_and, and_true, if_true, if_false]
    exact hK M1 (bI_cong g1 (fun k h3 h4 => by (try dsimp only); rw [if_pos h4]) (fun k h3 h4 => by (try dsimp only); rw [if_pos h4]))
  · exact ⟨bI_cong h (fun k h3 h4 => by (try dsimp only); rw [if_neg (by omega)]) (fun k h3 h4 => by (try dsimp only); rw [if_neg (by omega)]), rfl, rfl, rfl, rfl, by show zI _ = zI (_ - sI _ 0); congr 1; show _ = _ - (0 : Int); omega, rfl, rfl, by omega⟩
theorem e_spread {N : Nat} {M : mb_m} {C S : Int → Int} {K : Int32 → mb_m → Prop} {x y c m : Int} (hN : 700 ≤ N) (hx : 0 ≤ x ∧ x ≤ 7) (hy : 0 ≤ y ∧ y ≤ 7) (hc : 0 ≤ c ∧ c ≤ 5) (hm : 1 ≤ m ∧ m ≤ 64)
    (hR : bR C S) (h : bI M C S)
    (hK : ∀ M', bI M' (uC x y c m C) (uS x y c m C S) → K (zI (uN x y c m C 64)) M') : PX0_spread N M (zI x) (zI y) (zI c) (zI m) K := by
  unfold PX0_spread
  refine e_count hN hx hy (fun M2 hf hc2 => ?_)
  have hb2 : bI M2 C S := ⟨mf_mr hf (by decide) h.1, mf_mr hf (by decide) h.2⟩
  refine (q_for (σ := mb_m × Int32 × Int32 × Int32 × Int32 × Int32) (fun n s => PX0_spread_13 N K n s.1 s.2.1 s.2.2.1 s.2.2.2.1 s.2.2.2.2.1 s.2.2.2.2.2) (fun r0 s => PX0_spread_13_b N K (fun a0 a1 a2 a3 a4 a5 => r0 (a0, a1, a2, a3, a4, a5)) s.1 s.2.1 s.2.2.1 s.2.2.2.1 s.2.2.2.2.1 s.2.2.2.2.2) (fun _ _ => rfl))
    (fun i s => s.1 = M2 ∧ s.2.1 = zI x ∧ s.2.2.1 = zI y ∧ s.2.2.2.1 = zI c ∧ s.2.2.2.2.1 = zI i ∧ s.2.2.2.2.2 = zI (m - dL x y i) ∧ 0 ≤ i ∧ ∀ r, 0 ≤ r → r < i → dL x y (r + 1) < m) 98 ?_ ?_ N 0 (M2, _, _, _, _, _) (by omega) (by omega) ?_
  · rintro i ⟨M1, a1, a2, a3, a4, a5⟩ r hi ⟨rfl, rfl, rfl, rfl, rfl, rfl, h0, hl⟩ hr
    dsimp only at hf hc2 hb2 ⊢
    have g := hc2 i h0 (by omega)
    have hL : 0 ≤ dL x y i ∧ dL x y i ≤ 64 := sI_qb (fun n => dd x y n < i) 64
    have hD : 0 ≤ dN x y i ∧ dN x y i ≤ 64 := sI_qb (fun n => dd x y n = i) 64
    have hS := dL_succ x y i
    unfold PX0_spread_13_b
    simp (disch := omega) only [zI_lit, zI_neg, zI_add, zI_sub, zI_mul, zI_div, q_md, zI_lt, zI_le, zI_eq, zI_clamp, zI_vp, forall_eq, mb_u_eq, mb_u_ne, upd_eq, q_if, q_ifn, if_pos, if_neg, true_and, and_true, if_true, if_false, g]
    split
    · exact e_take hN hx hy hc hm ⟨h0, by omega⟩ hl (Or.inr (by omega)) hR hb2 hK
    · refine hr _ ⟨rfl, rfl, rfl, rfl, rfl, ?_, by omega, fun r h3 h4 => ?_⟩
      · (try dsimp only); congr 1; omega
      · by_cases e : r = i
        · rw [e]; omega
        · exact hl r h3 (by omega)
  · rintro ⟨M1, a1, a2, a3, a4, a5⟩ r ⟨rfl, rfl, rfl, rfl, rfl, rfl, h0, hl⟩
    dsimp only at hf hc2 hb2 ⊢
    unfold PX0_spread_13_b
    simp (disch := omega) only [zI_lit, zI_neg, zI_add, zI_sub, zI_mul, zI_div, q_md, zI_lt, zI_le, zI_eq, zI_clamp, zI_vp, forall_eq, mb_u_eq, mb_u_ne, upd_eq, q_if, q_ifn, if_pos, if_neg, true_and, and_true, if_true, if_false]
    exact e_take hN hx hy hc hm ⟨h0, by omega⟩ hl (Or.inl rfl) hR hb2 hK
  · refine ⟨rfl, rfl, rfl, rfl, rfl, ?_, by omega, fun r h3 h4 => by omega⟩
    have e : dL x y 0 = 0 := by
      have a := sI_rng (f := fun n => qb (dd x y n < 0)) (a := 0) (b := 0) (n := 64) (fun k h3 h4 => by
        have := dd_rng hx hy h3 (show k < 64 by omega)
        rw [qb_f (by omega)]; omega)
      unfold dL; omega
    show zI m = zI (m - dL x y 0)
    rw [e]; congr 1; omega
theorem q_floorMod {N : Nat} {a : Int} {K : Int32 → Unit → Prop} (h1 : -7 ≤ a) (h2 : a ≤ 14) : PJ9_floorMod_7cf53 N (zI a) (zI 8) K = K (zI (a % 8)) () := by
  have : a = -7 ∨ a = -6 ∨ a = -5 ∨ a = -4 ∨ a = -3 ∨ a = -2 ∨ a = -1 ∨ a = 0 ∨ a = 1 ∨ a = 2 ∨ a = 3 ∨ a = 4 ∨ a = 5 ∨ a = 6 ∨ a = 7 ∨ a = 8 ∨ a = 9 ∨ a = 10 ∨ a = 11 ∨ a = 12 ∨ a = 13 ∨ a = 14 := by omega
  unfold PJ9_floorMod_7cf53
  have e : (¬ zI 8 = 0) = True := eq_true (by decide)
  rcases this with h | h | h | h | h | h | h | h | h | h | h | h | h | h | h | h | h | h | h | h | h | h <;> subst h <;> simp (disch := decide) only [forall_eq, q_if, if_pos, if_neg, e, true_and] <;> rfl
/-- the cells of a line: b is 0 for a column -/
def lc (b : Int32) (l p : Int) : Int := if b = 0 then 8 * p + l else 8 * l + p
abbrev ol (b : Int32) (l k : Int) : Prop := (b = 0 → k % 8 = l) ∧ (b ≠ 0 → k / 8 = l)
def pl (b : Int32) (k : Int) : Int := if b = 0 then k / 8 else k % 8
def cC (b : Int32) (l s : Int) (C : Int → Int) (k : Int) : Int := if ol b l k then C (lc b l ((pl b k - s) % 8)) else C k
theorem lc_rng {b : Int32} {l p : Int} (hl : 0 ≤ l ∧ l ≤ 7) (hp : 0 ≤ p ∧ p ≤ 7) : 0 ≤ lc b l p ∧ lc b l p < 64 := by unfold lc; split <;> omega
theorem lc_inj {b : Int32} {l p q : Int} (h : lc b l p = lc b l q) : p = q := by unfold lc at h; split at h <;> omega
theorem lc_pl {b : Int32} {l k : Int} (h : ol b l k) (h1 : 0 ≤ k) (h2 : k < 64) : lc b l (pl b k) = k ∧ 0 ≤ pl b k ∧ pl b k ≤ 7 := by
  unfold lc pl
  by_cases hb : b = 0
  · have := h.1 hb
    rw [if_pos hb, if_pos hb]; omega
  · have := h.2 hb
    rw [if_neg hb, if_neg hb]; omega
theorem ol_lc {b : Int32} {l p : Int} (hl : 0 ≤ l ∧ l ≤ 7) (hp : 0 ≤ p ∧ p ≤ 7) : ol b l (lc b l p) ∧ pl b (lc b l p) = p := by
  unfold lc pl
  by_cases hb : b = 0
  · rw [if_pos hb, if_pos hb]
    exact ⟨⟨fun _ => by omega, fun e => absurd hb e⟩, by omega⟩
  · rw [if_neg hb, if_neg hb]
    exact ⟨⟨fun e => absurd e hb, fun _ => by omega⟩, by omega⟩
theorem cC_lc {b : Int32} {l s p : Int} {C : Int → Int} (hl : 0 ≤ l ∧ l ≤ 7) (hp : 0 ≤ p ∧ p ≤ 7) : cC b l s C (lc b l p) = C (lc b l ((p - s) % 8)) := by
  have := ol_lc (b := b) hl hp
  unfold cC; rw [if_pos this.1, this.2]
theorem cC_out {b : Int32} {l s k : Int} {C : Int → Int} (h : ∀ p, 0 ≤ p → p ≤ 7 → k ≠ lc b l p) (h1 : 0 ≤ k) (h2 : k < 64) : cC b l s C k = C k := by
  unfold cC
  rw [if_neg (fun ho => h _ (lc_pl ho h1 h2).2.1 (lc_pl ho h1 h2).2.2 (lc_pl ho h1 h2).1.symm)]
theorem cC_on {b : Int32} {l k : Int} (h1 : 0 ≤ k) (h2 : k < 64) : (∃ p, 0 ≤ p ∧ p ≤ 7 ∧ k = lc b l p) ∨ ∀ p, 0 ≤ p → p ≤ 7 → k ≠ lc b l p := by
  by_cases h : ol b l k
  · exact Or.inl ⟨pl b k, (lc_pl h h1 h2).2.1, (lc_pl h h1 h2).2.2, (lc_pl h h1 h2).1.symm⟩
  · by_cases h3 : ∃ p, 0 ≤ p ∧ p ≤ 7 ∧ k = lc b l p
    · exact Or.inl h3
    · exact Or.inr (fun p h4 h5 h6 => h3 ⟨p, h4, h5, h6⟩)
theorem cC_cong {b : Int32} {l s t k : Int} {C : Int → Int} (h : s % 8 = t % 8) : cC b l s C k = cC b l t C k := by
  unfold cC; rw [show (pl b k - s) % 8 = (pl b k - t) % 8 by omega]
theorem cC_twice {b : Int32} {l s t k : Int} {C : Int → Int} (hl : 0 ≤ l ∧ l ≤ 7) (h1 : 0 ≤ k) (h2 : k < 64) : cC b l s (cC b l t C) k = cC b l (s + t) C k := by
  rcases cC_on (b := b) (l := l) h1 h2 with ⟨p, hp, hp2, rfl⟩ | h
  · rw [cC_lc hl ⟨hp, hp2⟩, cC_lc hl (by omega), cC_lc hl ⟨hp, hp2⟩]
    congr 2; omega
  · rw [cC_out h h1 h2, cC_out h h1 h2, cC_out h h1 h2]
theorem cC_0 {b : Int32} {l k : Int} {C : Int → Int} (hl : 0 ≤ l ∧ l ≤ 7) (h1 : 0 ≤ k) (h2 : k < 64) : cC b l 0 C k = C k := by
  rcases cC_on (b := b) (l := l) h1 h2 with ⟨p, hp, hp2, rfl⟩ | h
  · rw [cC_lc hl ⟨hp, hp2⟩]; congr 2; omega
  · exact cC_out h h1 h2
/-- how many of a line are coloured -/
def cN (b : Int32) (l s : Int) (C : Int → Int) (n : Nat) : Int := sI (fun p => qb (0 < C (lc b l ((p - s) % 8)))) n
theorem e_shift_b {N : Nat} {M : mb_m} {C S : Int → Int} {K : Int32 → mb_m → Prop} {b : Int32} {l s F T : Int} (hN : 700 ≤ N) (hl : 0 ≤ l ∧ l ≤ 7) (hs : -7 ≤ s ∧ s ≤ 7)
    (hF : ∀ p : Int, F + p * T = lc b l p) (hR : bR C S) (h : bI M C S) (g3 : mr M 3 (fun p => C (lc b l ((p - s) % 8)) - 1) 8) (g4 : mr M 4 (fun p => S (lc b l ((p - s) % 8))) 8)
    (hK : ∀ M', bI M' (cC b l s C) (cC b l s S) → K (zI (cN b l s C 8)) M') : PX0_shift_104 N K N M (zI F) (zI T) (zI 0) (zI 0) := by
  have hstay : ∀ (D : Int → Int) (i : Int), 0 ≤ i → i < 8 → ∀ k, 0 ≤ k → k < 64 → k ≠ lc b l i → ∀ (c1 : Decidable (ol b l k ∧ pl b k < i + 1)) (c2 : Decidable (ol b l k ∧ pl b k < i)), (if ol b l k ∧ pl b k < i + 1 then cC b l s D k else D k) = (if ol b l k ∧ pl b k < i then cC b l s D k else D k) := by
    intro D i h0 hi k h3 h4 h5 c1 c2
    by_cases ho : ol b l k
    · have hp := lc_pl ho h3 h4
      have : pl b k ≠ i := fun e => h5 (by rw [← e]; exact hp.1.symm)
      by_cases hlt : pl b k < i
      · rw [if_pos ⟨ho, by omega⟩, if_pos ⟨ho, hlt⟩]
      · rw [if_neg (fun x => by omega), if_neg (fun x => hlt x.2)]
    · rw [if_neg (fun x => ho x.1), if_neg (fun x => ho x.1)]
  have hin : ∀ (D : Int → Int) (i : Int), 0 ≤ i → i < 8 → ∀ (c1 : Decidable (ol b l (lc b l i) ∧ pl b (lc b l i) < i + 1)), (if ol b l (lc b l i) ∧ pl b (lc b l i) < i + 1 then cC b l s D (lc b l i) else D (lc b l i)) = D (lc b l ((i - s) % 8)) := by
    intro D i h0 hi c1
    have := ol_lc (b := b) (l := l) (p := i) hl (by omega)
    rw [if_pos ⟨this.1, by omega⟩, cC_lc hl (by omega)]
  refine (q_for (σ := mb_m × Int32 × Int32 × Int32 × Int32) (fun n s => PX0_shift_104 N K n s.1 s.2.1 s.2.2.1 s.2.2.2.1 s.2.2.2.2) (fun r0 s => PX0_shift_104_b N K (fun a0 a1 a2 a3 a4 => r0 (a0, a1, a2, a3, a4)) s.1 s.2.1 s.2.2.1 s.2.2.2.1 s.2.2.2.2) (fun _ _ => rfl))
    (fun i s' => (bI s'.1 (fun k => if ol b l k ∧ pl b k < i then cC b l s C k else C k) (fun k => if ol b l k ∧ pl b k < i then cC b l s S k else S k)) ∧ mr s'.1 3 (fun p => C (lc b l ((p - s) % 8)) - 1) 8 ∧ mr s'.1 4 (fun p => S (lc b l ((p - s) % 8))) 8 ∧ s'.2.1 = zI F ∧ s'.2.2.1 = zI T ∧ s'.2.2.2.1 = zI (cN b l s C i.toNat) ∧ s'.2.2.2.2 = zI i ∧ 0 ≤ i) 8 ?_ ?_ N 0 (M, _, _, _, _) (by omega) (by omega) ?_
  · rintro i ⟨M1, a1, a2, a3, a4⟩ r hi ⟨⟨h1, h2⟩, h3, h4, rfl, rfl, rfl, rfl, h0⟩ hr
    dsimp only at h1 h2 h3 h4 ⊢
    have v3 := h3 i h0 hi
    have v4 := h4 i h0 hi
    have hq := lc_rng (b := b) (l := l) (p := (i - s) % 8) hl (by omega)
    have hb := hR _ hq.1 hq.2
    have hp := lc_rng (b := b) (l := l) (p := i) hl (by omega)
    have hn : 0 ≤ cN b l s C i.toNat ∧ cN b l s C i.toNat ≤ i.toNat := sI_qb (fun p => 0 < C (lc b l ((p - s) % 8))) i.toNat
    have hn2 : cN b l s C (i + 1).toNat = cN b l s C i.toNat + qb (0 < C (lc b l ((i - s) % 8))) := sI_step _ h0
    dsimp only at v3 v4
    unfold PX0_shift_104_b PX0_shift_169
    simp (disch := omega) only [zI_lit, zI_neg, zI_add, zI_sub, zI_mul, zI_div, q_md, zI_lt, zI_le, zI_eq, zI_clamp, zI_vp, forall_eq, mb_u_eq, mb_u_ne, upd_eq, q_if, q_ifn, if_pos, if_neg, true_and, and_true, if_true, if_false, hF, v3, v4]
    split
    · refine hr _ ⟨⟨mr_ne _ (mr_up h1 hp.1 hp.2 (by (try dsimp only); rw [hin C i h0 hi]) (fun k e1 e2 e3 => by (try dsimp only); rw [hstay C i h0 hi k e1 e2 e3])) (by decide), mr_up h2 hp.1 hp.2 (by (try dsimp only); rw [hin S i h0 hi]) (fun k e1 e2 e3 => hstay S i h0 hi k e1 e2 e3 _ _)⟩, mr_ne _ (mr_ne _ h3 (by decide)) (by decide), mr_ne _ (mr_ne _ h4 (by decide)) (by decide), rfl, rfl, by rw [hn2, qb_f (by omega)], rfl, by omega⟩
    · refine hr _ ⟨⟨mr_ne _ (mr_up h1 hp.1 hp.2 (by (try dsimp only); rw [hin C i h0 hi]) (fun k e1 e2 e3 => by (try dsimp only); rw [hstay C i h0 hi k e1 e2 e3])) (by decide), mr_up h2 hp.1 hp.2 (by (try dsimp only); rw [hin S i h0 hi]) (fun k e1 e2 e3 => hstay S i h0 hi k e1 e2 e3 _ _)⟩, mr_ne _ (mr_ne _ h3 (by decide)) (by decide), mr_ne _ (mr_ne _ h4 (by decide)) (by decide), rfl, rfl, by rw [hn2, qb_t (by omega)], rfl, by omega⟩
  · rintro ⟨M1, a1, a2, a3, a4⟩ r ⟨h1, h3, h4, rfl, rfl, rfl, rfl, h0⟩
    unfold PX0_shift_104_b
    simp (disch := omega) only [zI_lit, zI_neg, zI_add, zI_sub, zI_mul, zI_div, q_md, zI_lt, zI_le, zI_eq, zI_clamp, zI_vp, forall_eq, mb_u_eq, mb_u_ne, upd_eq, q_if, q_ifn, if_pos, if_neg, true_and, and_true, if_true, if_false]
    refine hK M1 (bI_cong h1 (fun k h3 h4 => ?_) (fun k h3 h4 => ?_))
    · by_cases ho : ol b l k
      · (try dsimp only); rw [if_pos ⟨ho, by have := lc_pl ho h3 h4; omega⟩]
      · (try dsimp only); rw [if_neg (fun x => ho x.1)]; unfold cC; rw [if_neg ho]
    · by_cases ho : ol b l k
      · (try dsimp only); rw [if_pos ⟨ho, by have := lc_pl ho h3 h4; omega⟩]
      · (try dsimp only); rw [if_neg (fun x => ho x.1)]; unfold cC; rw [if_neg ho]
  · refine ⟨bI_cong h (fun k h3 h4 => ?_) (fun k h3 h4 => ?_), g3, g4, rfl, rfl, rfl, rfl, by omega⟩
    · (try dsimp only); rw [if_neg (fun x => by have := lc_pl x.1 h3 h4; omega)]
    · (try dsimp only); rw [if_neg (fun x => by have := lc_pl x.1 h3 h4; omega)]
theorem e_shift_a {N : Nat} {M : mb_m} {C S : Int → Int} {K : Int32 → mb_m → Prop} {b : Int32} {l s F T : Int} (hN : 700 ≤ N) (hl : 0 ≤ l ∧ l ≤ 7) (hs : -7 ≤ s ∧ s ≤ 7)
    (hF : ∀ p : Int, F + p * T = lc b l p) (hR : bR C S) (h : bI M C S)
    (hK : ∀ M', bI M' (cC b l s C) (cC b l s S) → K (zI (cN b l s C 8)) M') : PX0_shift_29 N K M (zI s) (zI F) (zI T) := by
  have hs8 : ∀ i q : Int, 0 ≤ q → q < 8 → ((q - s) % 8 < i + 1 ↔ (q - s) % 8 < i ∨ (q - s) % 8 = i) := fun i q _ _ => by omega
  refine (q_for (σ := mb_m × Int32 × Int32 × Int32 × Int32) (fun n s => PX0_shift_34 N K n s.1 s.2.1 s.2.2.1 s.2.2.2.1 s.2.2.2.2) (fun r0 s => PX0_shift_34_b N K (fun a0 a1 a2 a3 a4 => r0 (a0, a1, a2, a3, a4)) s.1 s.2.1 s.2.2.1 s.2.2.2.1 s.2.2.2.2) (fun _ _ => rfl))
    (fun i s' => bI s'.1 C S ∧ (∀ q : Int, 0 ≤ q → q < 8 → (q - s) % 8 < i → s'.1 3 q.toNat = zI (C (lc b l ((q - s) % 8)) - 1) ∧ s'.1 4 q.toNat = zI (S (lc b l ((q - s) % 8)))) ∧ s'.2.1 = zI s ∧ s'.2.2.1 = zI F ∧ s'.2.2.2.1 = zI T ∧ s'.2.2.2.2 = zI i ∧ 0 ≤ i) 8 ?_ ?_ N 0 (M, _, _, _, _) (by omega) (by omega) ?_
  · rintro i ⟨M1, a1, a2, a3, a4⟩ r hi ⟨⟨h1, h2⟩, h3, rfl, rfl, rfl, rfl, h0⟩ hr
    dsimp only at h1 h2 h3 ⊢
    have hp := lc_rng (b := b) (l := l) (p := i) hl (by omega)
    have v1 := h1 _ hp.1 hp.2
    have v2 := h2 _ hp.1 hp.2
    dsimp only at v1
    unfold PX0_shift_34_b
    simp (disch := omega) only [zI_lit, zI_neg, zI_add, zI_sub, zI_mul, zI_div, q_md, zI_lt, zI_le, zI_eq, zI_clamp, zI_vp, forall_eq, mb_u_eq, mb_u_ne, upd_eq, q_if, q_ifn, if_pos, if_neg, true_and, and_true, if_true, if_false, q_floorMod, hF, v1, v2]
    refine hr _ ⟨⟨mr_ne _ (mr_ne _ h1 (by decide)) (by decide), mr_ne _ (mr_ne _ h2 (by decide)) (by decide)⟩, fun q e1 e2 e3 => ?_, rfl, rfl, rfl, rfl, by omega⟩
    dsimp only
    rw [mb_u_ne _ _ (show (3 : Nat) ≠ 4 by decide), mb_u_eq, mb_u_eq]
    by_cases hq : q = (i + s) % 8
    · have hq2 : (q - s) % 8 = i := by omega
      subst hq
      rw [upd_eq, upd_eq, hq2]
      exact ⟨rfl, rfl⟩
    · have hq2 : (q - s) % 8 ≠ i := by omega
      have := h3 q e1 e2 (by omega)
      constructor
      · show (if q.toNat = ((i + s) % 8).toNat then _ else M1 3 q.toNat) = _
        rw [if_neg (by omega), this.1]
      · show (if q.toNat = ((i + s) % 8).toNat then _ else M1 4 q.toNat) = _
        rw [if_neg (by omega), this.2]
  · rintro ⟨M1, a1, a2, a3, a4⟩ r ⟨h1, h3, rfl, rfl, rfl, rfl, h0⟩
    unfold PX0_shift_34_b
    simp (disch := omega) only [zI_lit, zI_neg, zI_add, zI_sub, zI_mul, zI_div, q_md, zI_lt, zI_le, zI_eq, zI_clamp, zI_vp, forall_eq, mb_u_eq, mb_u_ne, upd_eq, q_if, q_ifn, if_pos, if_neg, true_and, and_true, if_true, if_false]
    exact e_shift_b hN hl hs hF hR h1 (fun q e1 e2 => (h3 q e1 e2 (by omega)).1) (fun q e1 e2 => (h3 q e1 e2 (by omega)).2) hK
  · exact ⟨h, fun q e1 e2 e3 => by omega, rfl, rfl, rfl, rfl, by omega⟩
theorem e_shift {N : Nat} {M : mb_m} {C S : Int → Int} {K : Int32 → mb_m → Prop} {b : Int32} {l s : Int} (hN : 700 ≤ N) (hl : 0 ≤ l ∧ l ≤ 7) (hs : -7 ≤ s ∧ s ≤ 7)
    (hR : bR C S) (h : bI M C S)
    (hK : ∀ M', bI M' (cC b l s C) (cC b l s S) → K (zI (cN b l s C 8)) M') : PX0_shift N M b (zI l) (zI s) K := by
  unfold PX0_shift PX0_shift_17
  by_cases hb : b = 0
  · subst hb
    simp (disch := omega) only [zI_lit, zI_neg, zI_add, zI_sub, zI_mul, zI_div, q_md, zI_lt, zI_le, zI_eq, zI_clamp, zI_vp, forall_eq, mb_u_eq, mb_u_ne, upd_eq, q_if, q_ifn, if_pos, if_neg, true_and, and_true, if_true, if_false, q_cellOf]
    refine e_shift_a hN hl hs (fun p => ?_) hR h hK
    unfold lc; rw [if_pos rfl]; omega
  · refine ⟨fun e => absurd e hb, fun _ => ?_⟩
    simp (disch := omega) only [zI_lit, zI_neg, zI_add, zI_sub, zI_mul, zI_div, q_md, zI_lt, zI_le, zI_eq, zI_clamp, zI_vp, forall_eq, mb_u_eq, mb_u_ne, upd_eq, q_cellOf]
    refine ⟨fun e => absurd e hb, fun _ => ?_⟩
    refine e_shift_a hN hl hs (fun p => ?_) hR h hK
    unfold lc; rw [if_neg hb]; omega

/-- a line while it is turned by one: places above p are done -/
def tF (b : Int32) (l p : Int) (C : Int → Int) (k : Int) : Int := if ol b l k ∧ p < pl b k then cC b l 1 C k else C k
theorem tF_lc {b : Int32} {l p q : Int} {C : Int → Int} (hl : 0 ≤ l ∧ l ≤ 7) (hq : 0 ≤ q ∧ q ≤ 7) : tF b l p C (lc b l q) = if p < q then C (lc b l ((q - 1) % 8)) else C (lc b l q) := by
  have := ol_lc (b := b) hl hq
  unfold tF
  rw [this.2]
  by_cases h : p < q
  · rw [if_pos ⟨this.1, h⟩, if_pos h, cC_lc hl hq]
  · rw [if_neg (fun x => h x.2), if_neg h]
theorem tF_step {b : Int32} {l p k : Int} {C : Int → Int} (hl : 0 ≤ l ∧ l ≤ 7) (h1 : 0 ≤ k) (h2 : k < 64) (h : k ≠ lc b l p) : tF b l (p - 1) C k = tF b l p C k := by
  unfold tF
  by_cases ho : ol b l k
  · have hp := lc_pl ho h1 h2
    have : pl b k ≠ p := fun e => h (by rw [← e]; exact hp.1.symm)
    by_cases hlt : p < pl b k
    · rw [if_pos ⟨ho, by omega⟩, if_pos ⟨ho, hlt⟩]
    · rw [if_neg (fun x => by omega), if_neg (fun x => hlt x.2)]
  · rw [if_neg (fun x => ho x.1), if_neg (fun x => ho x.1)]
