theorem q_cls7 {N : Nat} {F : Int} {K : Int32 → Unit → Prop} (h1 : 1 ≤ F) (h2 : F ≤ 4) : PX7_columnsOf N (zI F) K = K (zI (cls F)) () := q_columnsOf7 h1 h2
theorem q_rws7 {N : Nat} {F : Int} {K : Int32 → Unit → Prop} (h1 : 1 ≤ F) (h2 : F ≤ 4) : PX7_rowsOf N (zI F) K = K (zI (rws F)) () := q_rowsOf7 h1 h2
theorem cls_rng (F : Int) : 2 ≤ cls F ∧ cls F ≤ 4 := by unfold cls; split <;> omega
theorem rws_rng (F : Int) : 1 ≤ rws F ∧ rws F ≤ 4 := by unfold rws; (repeat' split) <;> omega
theorem pg_cover : ∀ F : Fin 4, ∀ p : Fin 32, ((p : Nat) : Int) + 1 ≤ 2 * cls (F + 1) * rws (F + 1) → ∃ c r : Fin 4, ∃ b : Fin 2, shO (((F : Nat) : Int) + 1) ((c : Nat) : Int) ((r : Nat) : Int) ∧ pgT (((F : Nat) : Int) + 1) ((b : Nat) : Int) ((c : Nat) : Int) ((r : Nat) : Int) = ((p : Nat) : Int) + 1 := by decide +kernel
theorem pg_inj : ∀ F c r c' r' : Fin 4, ∀ b b' : Fin 2, shO (((F : Nat) : Int) + 1) ((c : Nat) : Int) ((r : Nat) : Int) → shO (((F : Nat) : Int) + 1) ((c' : Nat) : Int) ((r' : Nat) : Int) → pgT (((F : Nat) : Int) + 1) ((b : Nat) : Int) ((c : Nat) : Int) ((r : Nat) : Int) = pgT (((F : Nat) : Int) + 1) ((b' : Nat) : Int) ((c' : Nat) : Int) ((r' : Nat) : Int) → c = c' ∧ r = r' ∧ b = b' := by decide +kernel
theorem pg_rng : ∀ F c r : Fin 4, ∀ b : Fin 2, 0 ≤ pgT (((F : Nat) : Int) + 1) ((b : Nat) : Int) ((c : Nat) : Int) ((r : Nat) : Int) ∧ pgT (((F : Nat) : Int) + 1) ((b : Nat) : Int) ((c : Nat) : Int) ((r : Nat) : Int) ≤ 32 := by decide +kernel
theorem q_cover {F p : Int} (hF : 1 ≤ F ∧ F ≤ 4) (hp : 1 ≤ p ∧ p ≤ 2 * cls F * rws F) (hp2 : p ≤ 32) : ∃ c r b : Int, shO F c r ∧ (b = 0 ∨ b = 1) ∧ pgT F b c r = p := by
  have e1 : (((⟨(F - 1).toNat, by omega⟩ : Fin 4) : Nat) : Int) + 1 = F := by show (((F - 1).toNat : Nat) : Int) + 1 = F; omega
  have e2 : (((⟨(p - 1).toNat, by omega⟩ : Fin 32) : Nat) : Int) + 1 = p := by show (((p - 1).toNat : Nat) : Int) + 1 = p; omega
  have := pg_cover ⟨(F - 1).toNat, by omega⟩ ⟨(p - 1).toNat, by omega⟩
  rw [e1, e2] at this
  obtain ⟨c, r, b, h1, h2⟩ := this hp.2
  exact ⟨_, _, _, h1, by omega, h2⟩
theorem q_inj {F c r b c' r' b' : Int} (h : shO F c r) (h' : shO F c' r') (hb : b = 0 ∨ b = 1) (hb' : b' = 0 ∨ b' = 1) (e : pgT F b c r = pgT F b' c' r') : c = c' ∧ r = r' ∧ b = b' := by
  have z1 := cls_rng F
  have z2 := rws_rng F
  have y := h
  have y' := h'
  obtain ⟨a1, a2, a3, a4, a5, a6⟩ := y
  obtain ⟨d1, d2, d3, d4, d5, d6⟩ := y'
  have e1 : (((⟨(F - 1).toNat, by omega⟩ : Fin 4) : Nat) : Int) + 1 = F := by show (((F - 1).toNat : Nat) : Int) + 1 = F; omega
  have e2 : (((⟨c.toNat, by omega⟩ : Fin 4) : Nat) : Int) = c := by show ((c.toNat : Nat) : Int) = c; omega
  have e3 : (((⟨r.toNat, by omega⟩ : Fin 4) : Nat) : Int) = r := by show ((r.toNat : Nat) : Int) = r; omega
  have e4 : (((⟨c'.toNat, by omega⟩ : Fin 4) : Nat) : Int) = c' := by show ((c'.toNat : Nat) : Int) = c'; omega
  have e5 : (((⟨r'.toNat, by omega⟩ : Fin 4) : Nat) : Int) = r' := by show ((r'.toNat : Nat) : Int) = r'; omega
  have e6 : (((⟨b.toNat, by omega⟩ : Fin 2) : Nat) : Int) = b := by show ((b.toNat : Nat) : Int) = b; omega
  have e7 : (((⟨b'.toNat, by omega⟩ : Fin 2) : Nat) : Int) = b' := by show ((b'.toNat : Nat) : Int) = b'; omega
  have := pg_inj ⟨(F - 1).toNat, by omega⟩ ⟨c.toNat, by omega⟩ ⟨r.toNat, by omega⟩ ⟨c'.toNat, by omega⟩ ⟨r'.toNat, by omega⟩ ⟨b.toNat, by omega⟩ ⟨b'.toNat, by omega⟩
  rw [e1, e2, e3, e4, e5, e6, e7] at this
  obtain ⟨g1, g2, g3⟩ := this h h' e
  have g1 : ((c.toNat : Nat) : Int) = ((c'.toNat : Nat) : Int) := congrArg (fun x : Fin 4 => ((x : Nat) : Int)) g1
  have g2 : ((r.toNat : Nat) : Int) = ((r'.toNat : Nat) : Int) := congrArg (fun x : Fin 4 => ((x : Nat) : Int)) g2
  have g3 : ((b.toNat : Nat) : Int) = ((b'.toNat : Nat) : Int) := congrArg (fun x : Fin 2 => ((x : Nat) : Int)) g3
  exact ⟨by omega, by omega, by omega⟩
theorem q_pgr {F c r b : Int} (h : shO F c r) (hb : b = 0 ∨ b = 1) : 0 ≤ pgT F b c r ∧ pgT F b c r ≤ 32 := by
  have z1 := cls_rng F
  have z2 := rws_rng F
  obtain ⟨a1, a2, a3, a4, a5, a6⟩ := h
  have e1 : (((⟨(F - 1).toNat, by omega⟩ : Fin 4) : Nat) : Int) + 1 = F := by show (((F - 1).toNat : Nat) : Int) + 1 = F; omega
  have e2 : (((⟨c.toNat, by omega⟩ : Fin 4) : Nat) : Int) = c := by show ((c.toNat : Nat) : Int) = c; omega
  have e3 : (((⟨r.toNat, by omega⟩ : Fin 4) : Nat) : Int) = r := by show ((r.toNat : Nat) : Int) = r; omega
  have e6 : (((⟨b.toNat, by omega⟩ : Fin 2) : Nat) : Int) = b := by show ((b.toNat : Nat) : Int) = b; omega
  have := pg_rng ⟨(F - 1).toNat, by omega⟩ ⟨c.toNat, by omega⟩ ⟨r.toNat, by omega⟩ ⟨b.toNat, by omega⟩
  rwa [e1, e2, e3, e6] at this
theorem cr_tot {F : Int} (hF : 1 ≤ F ∧ F ≤ 4) : cls F * rws F ≤ 16 ∧ 2 * cls F * rws F = 2 * (cls F * rws F) ∧ 2 ≤ cls F * rws F ∧ ∀ i, 0 ≤ i → i < cls F * rws F → i / cls F < rws F ∧ 0 ≤ i / cls F ∧ 0 ≤ i % cls F ∧ i % cls F < cls F ∧ i = (i / cls F) * cls F + i % cls F := by
  have : F = 1 ∨ F = 2 ∨ F = 3 ∨ F = 4 := by omega
  rcases this with e | e | e | e <;> subst e <;> simp (disch := decide) only [cls, rws, if_pos, if_neg] <;> refine ⟨by omega, by omega, by omega, fun i h1 h2 => ?_⟩ <;> omega
theorem e_place {N : Nat} {F p : Int} {K : Int32 → Unit → Prop} (hN : 700 ≤ N) (hF : 1 ≤ F ∧ F ≤ 4) (hp : 1 ≤ p ∧ p ≤ 2 * cls F * rws F)
    (hK : ∀ c r b : Int, shO F c r → (b = 0 ∨ b = 1) → pgT F b c r = p → K (zI (100 * b + 10 * r + c)) ()) : PX7_unfoldedPlace N (zI F) (zI p) K := by
  have z1 := cls_rng F
  have z2 := rws_rng F
  have hct := cr_tot hF
  have hp2 : p ≤ 32 := by omega
  refine (q_for (σ := Int32 × Int32 × Int32) (fun n s => PX7_unfoldedPlace_2 N K n s.1 s.2.1 s.2.2) (fun r0 s => PX7_unfoldedPlace_2_b N K (fun a0 a1 a2 => r0 (a0, a1, a2)) s.1 s.2.1 s.2.2) (fun _ _ => rfl))
    (fun i s => s.1 = zI F ∧ s.2.1 = zI p ∧ s.2.2 = zI i ∧ 0 ≤ i ∧ ∀ c r b, shO F c r → (b = 0 ∨ b = 1) → r < i → pgT F b c r ≠ p) (rws F) ?_ ?_ N 0 (_, _, _) (by omega) (by omega) ?_
  · rintro i ⟨x1, x2, x3⟩ r hi hI hr
    dsimp only at hI hr ⊢
    obtain ⟨rfl, rfl, rfl, h0, hs⟩ := hI
    unfold PX7_unfoldedPlace_2_b
    simp (disch := omega) only [zI_lit, zI_neg, zI_add, zI_sub, zI_mul, zI_div, q_md, zI_lt, zI_le, zI_eq, zI_clamp, zI_vp, forall_eq, mb_u_eq, mb_u_ne, upd_eq, q_if, q_ifn, if_pos, if_neg, true_and, and_true, if_true, if_false, q_rws7]
    refine (q_for (σ := Int32 × Int32 × Int32 × Int32) (fun n s => PX7_unfoldedPlace_12 N K (fun b0 b1 b2 => r (b0, b1, b2)) n s.1 s.2.1 s.2.2.1 s.2.2.2) (fun r0 s => PX7_unfoldedPlace_12_b N K (fun b0 b1 b2 => r (b0, b1, b2)) (fun a0 a1 a2 a3 => r0 (a0, a1, a2, a3)) s.1 s.2.1 s.2.2.1 s.2.2.2) (fun _ _ => rfl))
      (fun j s => s.1 = zI F ∧ s.2.1 = zI p ∧ s.2.2.1 = zI i ∧ s.2.2.2 = zI j ∧ 0 ≤ j ∧ ∀ c r b, shO F c r → (b = 0 ∨ b = 1) → (r < i ∨ r = i ∧ c < j) → pgT F b c r ≠ p) (cls F) ?_ ?_ N 0 (_, _, _, _) (by omega) (by omega) ?_
    · rintro j ⟨y1, y2, y3, y4⟩ r2 hj hI hr2
      dsimp only at hI hr2 ⊢
      obtain ⟨rfl, rfl, rfl, rfl, j0, hs2⟩ := hI
      have ho : shO F j i := ⟨hF.1, hF.2, j0, hj, h0, hi⟩
      have w0 := q_pgr ho (Or.inl rfl : (0 : Int) = 0 ∨ (0 : Int) = 1)
      have w1 := q_pgr ho (Or.inr rfl : (1 : Int) = 0 ∨ (1 : Int) = 1)
      have hk0 := hK j i 0 ho (Or.inl rfl)
      have hk1 := hK j i 1 ho (Or.inr rfl)
      rw [show 100 * 0 + 10 * i + j = 10 * i + j by omega] at hk0
      rw [show 100 * 1 + 10 * i + j = 100 + 10 * i + j by omega] at hk1
      unfold PX7_unfoldedPlace_12_b
      simp (disch := omega) only [zI_lit, zI_neg, zI_add, zI_sub, zI_mul, zI_div, q_md, zI_lt, zI_le, zI_eq, zI_clamp, zI_vp, forall_eq, mb_u_eq, mb_u_ne, upd_eq, q_if, q_ifn, if_pos, if_neg, true_and, and_true, if_true, if_false, q_cls7, q_folded hN ho (Or.inl rfl), q_folded hN ho (Or.inr rfl)]
      by_cases m0 : pgT F 0 j i = p
      · rw [if_pos m0]; exact hk0 m0
      · rw [if_neg m0]
        by_cases m1 : pgT F 1 j i = p
        · rw [if_pos m1]; exact hk1 m1
        · rw [if_neg m1]
          refine hr2 _ ⟨rfl, rfl, rfl, rfl, by omega, fun c r b h1 h2 h3 h4 => ?_⟩
          by_cases hh : r = i ∧ c = j
          · obtain ⟨rfl, rfl⟩ := hh
            rcases h2 with h2 | h2 <;> subst h2
            · exact m0 h4
            · exact m1 h4
          · exact hs2 c r b h1 h2 (by omega) h4
    · rintro ⟨y1, y2, y3, y4⟩ r2 hI
      dsimp only at hI ⊢
      obtain ⟨rfl, rfl, rfl, rfl, j0, hs2⟩ := hI
      unfold PX7_unfoldedPlace_12_b
      simp (disch := omega) only [zI_lit, zI_neg, zI_add, zI_sub, zI_mul, zI_div, q_md, zI_lt, zI_le, zI_eq, zI_clamp, zI_vp, forall_eq, mb_u_eq, mb_u_ne, upd_eq, q_if, q_ifn, if_pos, if_neg, true_and, and_true, if_true, if_false, q_cls7]
      exact hr _ ⟨rfl, rfl, rfl, by omega, fun c r b h1 h2 h3 h4 => hs2 c r b h1 h2 (by have := h1.2.2.2.1; omega) h4⟩
    · exact ⟨rfl, rfl, rfl, rfl, by omega, fun c r b h1 h2 h3 h4 => hs c r b h1 h2 (by have := h1.2.2.1; omega) h4⟩
  · rintro ⟨x1, x2, x3⟩ r hI
    dsimp only at hI ⊢
    obtain ⟨rfl, rfl, rfl, h0, hs⟩ := hI
    obtain ⟨c, r', b, h1, h2, h3⟩ := q_cover hF hp hp2
    exact absurd h3 (hs c r' b h1 h2 h1.2.2.2.2.2)
  · exact ⟨rfl, rfl, rfl, by omega, fun c r b h1 h2 h3 h4 => by have := h1.2.2.2.2.1; omega⟩

