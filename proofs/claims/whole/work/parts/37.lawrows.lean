/-! worlds as blocks: their order doesn't matter -/
theorem kP_perm {D : va_G} {w w' : va_W} {H : Heap} (h : w.Perm w') (hP : va_P D vwCl w H) : va_P D vwCl w' H := fun k q hk => by
  have hm : q ∈ w := h.mem_iff.mpr (List.mem_of_getElem? hk)
  obtain ⟨i, hi⟩ := List.getElem?_of_mem hm
  exact hP i q hi
theorem kD_pw {A : Nat → Prop} {w : va_W} : va_D A w ↔ (w.Pairwise (fun p q => p.1 ≠ q.1) ∧ ∀ q ∈ w, A q.1) := by
  constructor
  · intro h
    refine ⟨List.pairwise_iff_getElem.mpr (fun i j hi hj hij e => ?_), fun q hq => ?_⟩
    · have := h.1 i j _ _ (List.getElem?_eq_getElem hi) (List.getElem?_eq_getElem hj) e
      omega
    · obtain ⟨i, hi⟩ := List.getElem?_of_mem hq
      exact h.2 i q hi
  · intro h
    refine ⟨fun i j p q hi hj e => ?_, fun k q hk => h.2 q (List.mem_of_getElem? hk)⟩
    obtain ⟨hi1, hi2⟩ := List.getElem?_eq_some_iff.mp hi
    obtain ⟨hj1, hj2⟩ := List.getElem?_eq_some_iff.mp hj
    rcases Nat.lt_trichotomy i j with z | z | z
    · exact absurd (by rw [hi2, hj2]; exact e) (List.pairwise_iff_getElem.mp h.1 i j hi1 hj1 z)
    · exact z
    · exact absurd (by rw [hi2, hj2]; exact e.symm) (List.pairwise_iff_getElem.mp h.1 j i hj1 hi1 z)
theorem kD_perm {A : Nat → Prop} {w w' : va_W} (h : w.Perm w') (hD : va_D A w) : va_D A w' := by
  rw [kD_pw] at hD ⊢
  exact ⟨(h.pairwise_iff (fun e z => e z.symm)).mp hD.1, fun q hq => hD.2 q (h.mem_iff.mpr hq)⟩
theorem j_lperm {l : Launch} {D : va_G} {G : kCx} {n k : Nat} {w w' : va_W} {lv : List (Nat × Value)} {pc : Nat} {st : List Value} (h : w.Perm w') (kk : J l D G n k w' lv pc st) : J l D G n k w lv pc st := fun H locs ls hP hD hS hl => kk H locs ls (kP_perm h hP) (kD_perm h hD) hS hl
theorem suf_get {w0 wc : va_W} : (List.range' w0.length wc.length).map (fun i => (w0 ++ wc)[i]?) = wc.map some := by
  refine List.ext_getElem (by rw [List.length_map, List.length_map, List.length_range']) (fun i h1 h2 => ?_)
  have hi : i < wc.length := by rw [List.length_map] at h2; exact h2
  rw [List.getElem_map, List.getElem_map, List.getElem_range', Nat.one_mul, List.getElem?_append_right (by omega), Nat.add_sub_cancel_left, List.getElem?_eq_getElem hi]
theorem pre_get {w0 wc : va_W} : (List.range' 0 w0.length).map (fun i => (w0 ++ wc)[i]?) = w0.map some := by
  refine List.ext_getElem (by rw [List.length_map, List.length_map, List.length_range']) (fun i h1 h2 => ?_)
  have hi : i < w0.length := by rw [List.length_map] at h2; exact h2
  rw [List.getElem_map, List.getElem_map, List.getElem_range', Nat.zero_add, Nat.one_mul, List.getElem?_append_left hi, List.getElem?_eq_getElem hi]
