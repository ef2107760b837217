/-! FRAMES: a contract over a part of a world holds over the whole of it; worlds in another order -/
theorem mb_Pm {D : va_G} {cl : List vw_C} {ws : va_W} {H : Heap} : va_P D cl ws H ↔ ∀ q ∈ ws, va_at D cl q H :=
  ⟨fun h q hq => by obtain ⟨k, hk⟩ := List.getElem?_of_mem hq; exact h k q hk, fun h k q hk => h q (List.mem_of_getElem? hk)⟩
theorem mb_Dm {A : Nat → Prop} {ws : va_W} : va_D A ws ↔ (ws.map Prod.fst).Nodup ∧ ∀ q ∈ ws, A q.1 := by
  constructor
  · intro h
    refine ⟨?_, fun q hq => by obtain ⟨k, hk⟩ := List.getElem?_of_mem hq; exact h.2 k q hk⟩
    refine List.pairwise_iff_getElem.mpr (fun i j hi hj hij he => ?_)
    rw [List.length_map] at hi hj
    rw [List.getElem_map, List.getElem_map] at he
    exact absurd (h.1 i j _ _ (List.getElem?_eq_getElem hi) (List.getElem?_eq_getElem hj) he) (by omega)
  · rintro ⟨h1, h2⟩
    refine ⟨fun i j p q hi hj he => ?_, fun k q hk => h2 q (List.mem_of_getElem? hk)⟩
    obtain ⟨li, ei⟩ := List.getElem?_eq_some_iff.mp hi
    obtain ⟨lj, ej⟩ := List.getElem?_eq_some_iff.mp hj
    have key := List.pairwise_iff_getElem.mp h1
    rcases Nat.lt_trichotomy i j with h | h | h
    · exact absurd (by rw [List.getElem_map, List.getElem_map, ei, ej, he]) (key i j (by rw [List.length_map]; exact li) (by rw [List.length_map]; exact lj) h)
    · exact h
    · exact absurd (by rw [List.getElem_map, List.getElem_map, ei, ej, he]) (key j i (by rw [List.length_map]; exact lj) (by rw [List.length_map]; exact li) h)
theorem mb_Pperm {D : va_G} {cl : List vw_C} {ws ws' : va_W} {H : Heap} (h : ws.Perm ws') (hP : va_P D cl ws H) : va_P D cl ws' H :=
  mb_Pm.mpr fun q hq => mb_Pm.mp hP q (h.mem_iff.mpr hq)
theorem mb_Dperm {A : Nat → Prop} {ws ws' : va_W} (h : ws.Perm ws') (hD : va_D A ws) : va_D A ws' :=
  mb_Dm.mpr ⟨((h.map Prod.fst).nodup_iff).mp (mb_Dm.mp hD).1, fun q hq => (mb_Dm.mp hD).2 q (h.mem_iff.mpr hq)⟩
theorem mb_Am {ws : va_W} {sz q : Nat} : va_A ws sz q ↔ (∃ e, (q, e) ∈ ws) ∨ sz ≤ q := by
  constructor
  · rintro (⟨k, e, h⟩ | h)
    · exact Or.inl ⟨e, List.mem_of_getElem? h⟩
    · exact Or.inr h
  · rintro (⟨e, h⟩ | h)
    · obtain ⟨k, hk⟩ := List.getElem?_of_mem h
      exact Or.inl ⟨k, e, hk⟩
    · exact Or.inr h
theorem mb_Asub {ws wc wr : va_W} {sz q : Nat} (h : ws.Perm (wc ++ wr)) (hq : va_A wc sz q) : va_A ws sz q := by
  rcases mb_Am.mp hq with ⟨e, he⟩ | he
  · exact mb_Am.mpr (Or.inl ⟨e, h.mem_iff.mpr (List.mem_append_left _ he)⟩)
  · exact mb_Am.mpr (Or.inr he)
theorem mb_Psub {D : va_G} {cl : List vw_C} {ws wc wr : va_W} {H : Heap} (h : ws.Perm (wc ++ wr)) (hP : va_P D cl ws H) : va_P D cl wc H :=
  mb_Pm.mpr fun q hq => mb_Pm.mp hP q (h.mem_iff.mpr (List.mem_append_left _ hq))
theorem mb_Psubr {D : va_G} {cl : List vw_C} {ws wc wr : va_W} {H : Heap} (h : ws.Perm (wc ++ wr)) (hP : va_P D cl ws H) : va_P D cl wr H :=
  mb_Pm.mpr fun q hq => mb_Pm.mp hP q (h.mem_iff.mpr (List.mem_append_right _ hq))
theorem mb_Dsub {A : Nat → Prop} {ws wc wr : va_W} (h : ws.Perm (wc ++ wr)) (hD : va_D A ws) : va_D A wc := by
  have h1 := mb_Dm.mp (mb_Dperm h hD)
  rw [List.map_append] at h1
  exact mb_Dm.mpr ⟨(List.nodup_append.mp h1.1).1, fun q hq => h1.2 q (List.mem_append_left _ hq)⟩
theorem mb_frT {D : va_G} {cl : List vw_C} {W wc wr w1 W1 : va_W} {sz : Nat} {s t : State} (hW : W.Perm (wc ++ wr)) (hsz : s.heap.size = sz) (hP : va_P D cl W s.heap) (hD : va_D (fun _ => True) W) (hF : va_F (va_A wc sz) s t) (hP1 : va_P D cl w1 t.heap) (hD1 : va_D (va_A wc sz) w1) (hW1 : W1.Perm (w1 ++ wr)) : va_P D cl W1 t.heap ∧ va_D (va_A W sz) W1 := by
  have hDa := mb_Dm.mp (mb_Dperm hW hD)
  have hap : ∀ q ∈ wr, q.1 < s.heap.size ∧ ¬ va_A wc sz q.1 := by
    intro q hq
    have hm : q ∈ W := hW.mem_iff.mpr (List.mem_append_right _ hq)
    have hl := (mb_Pm.mp hP q hm).lt
    refine ⟨hl, fun h => ?_⟩
    rcases mb_Am.mp h with ⟨e, he⟩ | he
    · rw [List.map_append] at hDa
      exact (List.nodup_append.mp hDa.1).2.2 q.1 (List.mem_map.mpr ⟨(q.1, e), he, rfl⟩) q.1 (List.mem_map.mpr ⟨q, hq, rfl⟩) rfl
    · omega
  refine ⟨mb_Pperm hW1.symm (mb_Pm.mpr fun q hq => ?_), mb_Dperm hW1.symm (mb_Dm.mpr ⟨?_, fun q hq => ?_⟩)⟩
  · rcases List.mem_append.mp hq with h | h
    · exact mb_Pm.mp hP1 q h
    · exact (mb_Pm.mp hP q (hW.mem_iff.mpr (List.mem_append_right _ h))).kept (hF.2 q.1 (hap q h).1 (hap q h).2)
  · rw [List.map_append]
    rw [List.map_append] at hDa
    refine List.nodup_append.mpr ⟨(mb_Dm.mp hD1).1, (List.nodup_append.mp hDa.1).2.1, fun x hx y hy hxy => ?_⟩
    obtain ⟨p, hp, rfl⟩ := List.mem_map.mp hx
    obtain ⟨r, hr, rfl⟩ := List.mem_map.mp hy
    exact (hap r hr).2 (by rw [← hxy]; exact (mb_Dm.mp hD1).2 p hp)
  · rcases List.mem_append.mp hq with h | h
    · exact mb_Asub hW ((mb_Dm.mp hD1).2 q h)
    · exact mb_Am.mpr (Or.inl ⟨q.2, hW.mem_iff.mpr (List.mem_append_right _ h)⟩)
theorem mb_frF {W wc wr : va_W} {sz : Nat} {s t : State} (hW : W.Perm (wc ++ wr)) (hF : va_F (va_A wc sz) s t) : va_F (va_A W sz) s t :=
  ⟨hF.1, fun q h1 h2 => hF.2 q h1 (fun h => h2 (mb_Asub hW h))⟩
section FR
variable {l : Launch} {y : MethodName} {w : List Cond} {rm : Room} {av : List Value} {D : va_G} {Y : Nat → ClassId} {sz mc ms : Nat} {W wc wr : va_W} {S S' : Type}
theorem mb_fr {K : Int32 → S → Prop} {wf : S → va_W} {K' : Int32 → S' → Prop} {WF : S' → va_W} (f : S → S') (hW : W.Perm (wc ++ wr)) (hWF : ∀ u, (WF (f u)).Perm (wf u ++ wr)) (hKK : ∀ r u, K r u → K' r (f u)) (h : Met l y w rm (va_Pc av (mb_B D Y wc sz)) (va_Qi K (fun u t => mb_T D (va_A wc sz) (wf u) t) (va_A wc sz)) mc ms (va_A wc sz)) :
    Met l y w rm (va_Pc av (mb_B D Y W sz)) (va_Qi K' (fun u t => mb_T D (va_A W sz) (WF u) t) (va_A W sz)) mc ms (va_A W sz) := by
  refine MetFree.mono h ?_ (fun _ _ _ _ _ h => h) ?_
  · rintro a s ⟨h0, h1, h2, h3, h4⟩
    exact ⟨h0, h1, mb_Psub hW h2, h3, mb_Dsub hW h4⟩
  · rintro a s o t ⟨h0, h1, h2, h3, h4⟩ ⟨⟨⟨r, u, e1, e2, e3⟩, hF⟩, L, hL, hf⟩
    exact ⟨⟨⟨r, f u, e1, hKK r u e2, mb_frT hW h1 h2 h4 hF e3.1 e3.2 (hWF u)⟩, mb_frF hW hF⟩, L, hL, fun q hq => mb_Asub hW (hf q hq)⟩
theorem mb_frv {K : S → Prop} {wf : S → va_W} {K' : S' → Prop} {WF : S' → va_W} (f : S → S') (hW : W.Perm (wc ++ wr)) (hWF : ∀ u, (WF (f u)).Perm (wf u ++ wr)) (hKK : ∀ u, K u → K' (f u)) (h : Met l y w rm (va_Pc av (mb_B D Y wc sz)) (va_Qv K (fun u t => mb_T D (va_A wc sz) (wf u) t) (va_A wc sz)) mc ms (va_A wc sz)) :
    Met l y w rm (va_Pc av (mb_B D Y W sz)) (va_Qv K' (fun u t => mb_T D (va_A W sz) (WF u) t) (va_A W sz)) mc ms (va_A W sz) := by
  refine MetFree.mono h ?_ (fun _ _ _ _ _ h => h) ?_
  · rintro a s ⟨h0, h1, h2, h3, h4⟩
    exact ⟨h0, h1, mb_Psub hW h2, h3, mb_Dsub hW h4⟩
  · rintro a s o t ⟨h0, h1, h2, h3, h4⟩ ⟨⟨⟨u, e1, e2, e3⟩, hF⟩, L, hL, hf⟩
    exact ⟨⟨⟨f u, e1, hKK u e2, mb_frT hW h1 h2 h4 hF e3.1 e3.2 (hWF u)⟩, mb_frF hW hF⟩, L, hL, fun q hq => mb_Asub hW (hf q hq)⟩
theorem mbx_fr {SX : Type} {K : Int32 → S → Prop} {wf : S → va_W} {K' : Int32 → S' → Prop} {WF : S' → va_W} {KX : String → SX → Prop} {wx : SX → va_W} {KX' : String → S' → Prop} (f : S → S') (fx : SX → S') (hW : W.Perm (wc ++ wr)) (hWF : ∀ u, (WF (f u)).Perm (wf u ++ wr)) (hWX : ∀ u, (WF (fx u)).Perm (wx u ++ wr)) (hKK : ∀ r u, K r u → K' r (f u)) (hKX : ∀ E u, KX E u → KX' E (fx u))
    (h : vx_Met l y w rm (va_Pc av (mb_BX D Y wc sz)) (va_Qi K (fun u t => mb_T D (va_A wc sz) (wf u) t) (va_A wc sz)) (mb_XC D (va_A wc sz) KX wx) mc ms (va_A wc sz)) :
    vx_Met l y w rm (va_Pc av (mb_BX D Y W sz)) (va_Qi K' (fun u t => mb_T D (va_A W sz) (WF u) t) (va_A W sz)) (mb_XC D (va_A W sz) KX' WF) mc ms (va_A W sz) := by
  refine MetFree.mono h ?_ (fun _ _ _ _ _ h => h) ?_
  · rintro a s ⟨h0, ⟨h1, h2, h3, h4⟩, h5⟩
    exact ⟨h0, ⟨h1, mb_Psub hW h2, h3, mb_Dsub hW h4⟩, h5.1.narrow (fun q => mb_Asub hW), h5.2.narrow (fun q => mb_Asub hW)⟩
  · rintro a s o t ⟨h0, ⟨h1, h2, h3, h4⟩, h5⟩ (⟨⟨⟨r, u, e1, e2, e3⟩, hF⟩, L, hL, hf⟩ | ⟨q, e1, E, ce, L, ⟨u, -, ⟨e2, e3⟩, hF⟩, e4, e5, e6, e7, e8, hf⟩)
    · exact Or.inl ⟨⟨⟨r, f u, e1, hKK r u e2, mb_frT hW h1 h2 h4 hF e3.1 e3.2 (hWF u)⟩, mb_frF hW hF⟩, L, hL, fun q hq => mb_Asub hW (hf q hq)⟩
    · exact Or.inr ⟨q, e1, E, ce, L, ⟨fx u, trivial, ⟨hKX E u e2, mb_frT hW h1 h2 h4 hF e3.1 e3.2 (hWX u)⟩, mb_frF hW hF⟩, e4, e5, e6, e7, e8, fun q hq => mb_Asub hW (hf q hq)⟩
end FR
/-! the whole bench: its own, and lists of what was made -/
abbrev mb_p : Type := Nat × (Nat → Nat) × mb_m
abbrev mb_k : Type := Nat × (Nat → Nat) × (Nat → Nat) × (Nat → Nat) × (Nat → Nat) × mb_m × mb_m × mb_m × mb_m
abbrev mb_bs : Type := mb_m × mb_m × (Nat → Option Nat) × (Nat → Option Nat) × (Nat → Option Nat) × List mb_p × List mb_k × List mb_p
def gpP (Y : Nat → ClassId) (x : mb_p) : va_W := gw2 Y x.1 x.2.1 x.2.2
def gpS (Y : Nat → ClassId) (x : mb_p) : va_W := gw5 Y x.1 x.2.1 x.2.2
def gpB (Y : Nat → ClassId) (x : mb_k) : va_W := gw1 Y x.1 x.2.1 x.2.2.2.2.2.1 ++ gw4 Y (x.2.1 0) x.2.2.1 x.2.2.2.2.2.2.1 ++ gw3 Y (x.2.1 1) x.2.2.2.1 x.2.2.2.2.2.2.2.1 ++ gw6 Y (x.2.1 2) x.2.2.2.2.1 x.2.2.2.2.2.2.2.2
def wB (Y : Nat → ClassId) (o : Nat) (a aa : Nat → Nat) (b : mb_bs) : va_W :=
  gw7 Y o a b.1 ++ gw0 Y (a 0) aa b.2.1 ++ grP Y (a 1) b.2.2.1 ++ grB Y (a 2) b.2.2.2.1 ++ grS Y (a 3) b.2.2.2.2.1 ++ b.2.2.2.2.2.1.flatMap (gpP Y) ++ b.2.2.2.2.2.2.1.flatMap (gpB Y) ++ b.2.2.2.2.2.2.2.flatMap (gpS Y)
