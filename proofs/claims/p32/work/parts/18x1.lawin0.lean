theorem mb_memr {big ws : List Cond} (ps : List Nat) (hp : ws = ps.filterMap (fun i => big[i]?)) : ∀ w ∈ ws, w ∈ big := by
  intro w hw
  rw [hp] at hw
  obtain ⟨i, _, hi⟩ := List.mem_filterMap.mp hw
  exact List.mem_of_getElem? hi
theorem mb_mema {big a b : List Cond} (ha : ∀ w ∈ a, w ∈ big) (hb : ∀ w ∈ b, w ∈ big) : ∀ w ∈ a ++ b, w ∈ big := fun w h => (List.mem_append.mp h).elim (ha w) (hb w)
theorem inR1 : ∀ w ∈ wsL_law0_r1, w ∈ lw_tbl := mb_memr [27, 28, 12, 59, 29, 30, 31, 32, 33, 34, 35, 36, 13, 66, 60, 67, 62, 68, 64, 69, 37, 38, 39, 40] (by decide +kernel)
theorem inR2 : ∀ w ∈ wsL_law0_r2, w ∈ lw_tbl := mb_memr [41, 43, 45, 46, 47, 93, 94, 11, 95, 96, 97, 98, 99, 100, 207, 208, 101, 102, 103, 104, 105, 106, 107, 108] (by decide +kernel)
theorem inR3 : ∀ w ∈ wsL_law0_r3, w ∈ lw_tbl := mb_memr [109, 110, 111, 112, 113, 114, 115, 116, 117, 17, 185, 186, 187, 188, 18, 204, 205, 206, 88, 89, 90, 91, 92, 316] (by decide +kernel)
theorem inR4 : ∀ w ∈ wsL_law0_r4, w ∈ lw_tbl := mb_memr [317, 318, 360, 319, 320, 321, 322, 323, 324, 325, 326, 327, 328, 329, 330, 72, 350, 20, 331, 332, 333, 334, 19, 351] (by decide +kernel)
