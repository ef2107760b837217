theorem q_bookOf {N : Nat} {M : mb_m} {f : Nat → Option Nat} {a : Int} {K : Nat → (mb_m × (Nat → Option Nat)) → Prop} {KX : String → (mb_m × (Nat → Option Nat)) → Prop} (l : -2147483648 ≤ a) (g : a < 2147483648)
    (h0 : ∀ o, 0 ≤ a → a ≤ 3 → f a.toNat = some o → K o (M, f)) (h1 : (0 ≤ a → a ≤ 3 → f a.toNat = none) → KX eO (M, f)) : PX7_bookOf N M f (zI a) K KX := by
  unfold PX7_bookOf
  simp (disch := omega) only [zI_lit, zI_neg, zI_add, zI_sub, zI_mul, zI_div, q_md, zI_lt, zI_le, zI_eq, zI_clamp, zI_vp, forall_eq, mb_u_eq, mb_u_ne, upd_eq, q_if, q_ifn, if_pos, if_neg, true_and, and_true, if_true, if_false, q_isWithin]
  split
  · rename_i c
    (try simp (disch := omega) only [zI_lit, zI_neg, zI_add, zI_sub, zI_mul, zI_div, q_md, zI_lt, zI_le, zI_eq, zI_clamp, zI_vp, forall_eq, mb_u_eq, mb_u_ne, upd_eq, q_if, q_ifn, if_pos, if_neg, true_and, and_true, if_true, if_false])
    exact ⟨fun e => h1 (fun _ _ => e), fun o e => h0 o c.1 c.2 e⟩
  · rename_i c
    exact h1 (fun x y => absurd ⟨x, y⟩ c)
/-- a book that is there -/
theorem b_on {N : Nat} {M : mb_m} {f : Nat → Option Nat} {a : Int} {o2 : Nat} {K : Nat → (mb_m × (Nat → Option Nat)) → Prop} {KX : String → (mb_m × (Nat → Option Nat)) → Prop} (l : -2147483648 ≤ a) (g : a < 2147483648) (h : 0 ≤ a ∧ a ≤ 3) (hf : f a.toNat = some o2)
    (h0 : K o2 (M, f)) : PX7_bookOf N M f (zI a) K KX :=
  q_bookOf l g (fun o _ _ e => by rw [hf] at e; exact Option.some.inj e ▸ h0) (fun e => absurd (e h.1 h.2) (by rw [hf]; exact fun z => by cases z))
theorem b_off {N : Nat} {M : mb_m} {f : Nat → Option Nat} {a : Int} {nb : Nat} {K : Nat → (mb_m × (Nat → Option Nat)) → Prop} {KX : String → (mb_m × (Nat → Option Nat)) → Prop} (l : -2147483648 ≤ a) (g : a < 2147483648) (h : ¬ (0 ≤ a ∧ a < nb)) (hf : ∀ i : Nat, nb ≤ i → i < 4 → f i = none)
    (h0 : KX eO (M, f)) : PX7_bookOf N M f (zI a) K KX :=
  q_bookOf l g (fun o e1 e2 e => by rw [hf a.toNat (by omega) (by omega)] at e; cases e) (fun _ => h0)
/-- v with one number changed -/
def kset (v : kN) (s : Nat) (x : Int) : kN := fun j => if j = s then x else v j
theorem e_add3 {N : Nat} {M : mb_m} {n s : Int} {rp : Int → Int} {K : mb_m → Prop} (hn : 0 ≤ n ∧ n < 20) (h0 : mr M 0 rp n) (h1 : m1 M 1 n)
    (hK : ∀ M', mr M' 0 (fun k => if k = n then s else rp k) (n + 1) → m1 M' 1 (n + 1) → K M') : PX3_add N M (zI s) K := by
  have v : M 1 0 = zI n := h1
  unfold PX3_add
  simp (disch := omega) only [zI_lit, zI_neg, zI_add, zI_sub, zI_mul, zI_div, q_md, zI_lt, zI_le, zI_eq, zI_clamp, zI_vp, forall_eq, mb_u_eq, mb_u_ne, upd_eq, q_if, q_ifn, if_pos, if_neg, true_and, and_true, if_true, if_false, v]
  refine hK _ (mr_ne _ (mr_app h0 hn.1 (if_pos rfl) (fun k _ k2 => if_neg (by omega))) (by decide)) (m1_set _ _ _)

