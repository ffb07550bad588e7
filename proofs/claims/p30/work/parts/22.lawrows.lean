theorem kP_perm {D : va_G} {w w' : va_W} {H : Heap} (h : w.Perm w') (hP : va_P D vwCl w H) : va_P D vwCl w' H := fun k q hk => by
  have hm : q ∈ w := h.mem_iff.mpr (List.mem_of_getElem? hk)
  obtain ⟨i, hi⟩ := List.getElem?_of_mem hm
  exact hP i q hi
theorem kD_pw {A : Nat → Prop} {w : va_W} : va_D A w ↔ (w.Pairwise (fun p q => p.1 ≠ q.1) ∧ ∀ q ∈ w, A q.1) := by
  constructor
  · intro h
    refine ⟨List.pairwise_iff_getElem.mpr (fun i j hi hj hij e => ?_), fun q hq => ?_⟩
    · have := h.1 i j _ _ (List.getElem?_eq_getElem hi) (List.getElem?_eq_getElem hj) e
      omega
    · obtain ⟨i, hi⟩ := List.getElem?_of_mem hq
      exact h.2 i q hi
  · intro h
    refine ⟨fun i j p q hi hj e => ?_, fun k q hk => h.2 q (List.mem_of_getElem? hk)⟩
    obtain ⟨hi1, hi2⟩ := List.getElem?_eq_some_iff.mp hi
    obtain ⟨hj1, hj2⟩ := List.getElem?_eq_some_iff.mp hj
    rcases Nat.lt_trichotomy i j with z | z | z
    · exact absurd (by rw [hi2, hj2]; exact e) (List.pairwise_iff_getElem.mp h.1 i j hi1 hj1 z)
    · exact z
    · exact absurd (by rw [hi2, hj2]; exact e.symm) (List.pairwise_iff_getElem.mp h.1 j i hj1 hi1 z)
theorem kD_perm {A : Nat → Prop} {w w' : va_W} (h : w.Perm w') (hD : va_D A w) : va_D A w' := by
  rw [kD_pw] at hD ⊢
  exact ⟨(h.pairwise_iff (fun e z => e z.symm)).mp hD.1, fun q hq => hD.2 q (h.mem_iff.mpr hq)⟩
theorem j_lperm {l : Launch} {D : va_G} {G : kCx} {n k : Nat} {w w' : va_W} {lv : List (Nat × Value)} {pc : Nat} {st : List Value} (h : w.Perm w') (kk : J l D G n k w' lv pc st) : J l D G n k w lv pc st := fun H locs ls hP hD hS hl => kk H locs ls (kP_perm h hP) (kD_perm h hD) hS hl
theorem suf_get {w0 wc : va_W} : (List.range' w0.length wc.length).map (fun i => (w0 ++ wc)[i]?) = wc.map some := by
  refine List.ext_getElem (by rw [List.length_map, List.length_map, List.length_range']) (fun i h1 h2 => ?_)
  have hi : i < wc.length := by rw [List.length_map] at h2; exact h2
  rw [List.getElem_map, List.getElem_map, List.getElem_range', Nat.one_mul, List.getElem?_append_right (by omega), Nat.add_sub_cancel_left, List.getElem?_eq_getElem hi]
theorem pre_get {w0 wc : va_W} : (List.range' 0 w0.length).map (fun i => (w0 ++ wc)[i]?) = w0.map some := by
  refine List.ext_getElem (by rw [List.length_map, List.length_map, List.length_range']) (fun i h1 h2 => ?_)
  have hi : i < w0.length := by rw [List.length_map] at h2; exact h2
  rw [List.getElem_map, List.getElem_map, List.getElem_range', Nat.zero_add, Nat.one_mul, List.getElem?_append_left hi, List.getElem?_eq_getElem hi]
theorem kPlug_suf : ∀ (wc wc' w0 : va_W), wc'.length = wc.length → kPlug (w0 ++ wc) (List.range' w0.length wc.length) wc' = w0 ++ wc'
  | [], [], w0, _ => by show w0 ++ [] = w0 ++ []; rfl
  | [], _ :: _, _, h => by cases h
  | _ :: _, [], _, h => by cases h
  | c :: wc, x :: wc', w0, h => by
    show kPlug ((w0 ++ c :: wc).set w0.length x) (List.range' (w0.length + 1) wc.length) wc' = _
    have e : (w0 ++ c :: wc).set w0.length x = (w0 ++ [x]) ++ wc := by
      rw [List.set_append_right _ _ (Nat.le_refl _), Nat.sub_self, List.append_assoc]; rfl
    have e2 : w0.length + 1 = (w0 ++ [x]).length := by rw [List.length_append]; rfl
    rw [e, e2, kPlug_suf wc wc' (w0 ++ [x]) (Nat.succ.inj h), List.append_assoc]
    rfl
section
variable {l : Launch} {D : va_G} {tA : Nat → ClassId} {G : kCx} {cc : ByteArray} {nL : Nat} {own : String} {fr lo n k : Nat} {lv : List (Nat × Value)} {pc : Nat} {st : List Value}
theorem j_cxV (X : kX D tA G cc nL own fr lo) {y : MethodName} {bytes : ByteArray} {maxL : Nat} {ret : Option FieldType} {frc loc index b : Nat} {As : List Value} {w0 wc wc' : va_W} {res : Option Value} {stk : List Value}
    (hM : Kx l D tA y bytes maxL ret frc loc (.ref b :: As) wc res wc') (hcd : kCardV y bytes maxL ret As.length) (hlink : Cond.methodLink own index y ∈ kALL)
    (q0 : Nat) {ci : Nat} {fs : List Value} {r : vw_C} (he : wc[q0]? = some (b, .inr (ci, fs))) (hcl : vwCl[ci]? = some r) (hrc : r.1 = y.cls) (hfc : wc'.map Prod.fst = wc.map Prod.fst)
    (hroom : frc + 1 ≤ fr ∧ 8 + (maxL + 11) + loc ≤ lo) (h0 : n ≤ (gR G).cells ∧ k ≤ (gR G).slots) (hstk : stk = As.reverse ++ .ref b :: st) (hcat : (st.map fun v => v.category).sum ≤ 8) (hdg : decode cc pc = .ok (.invokevirtual index, 3))
    (kk : J l D G n k (w0 ++ wc') lv (pc + 3) (res.toList ++ st)) : J l D G n k (w0 ++ wc) lv pc stk :=
  j_callV X hM hcd hlink (w0.length + q0) (by rw [List.getElem?_append_right (Nat.le_add_right _ _), Nat.add_sub_cancel_left]; exact he) hcl hrc (List.range' w0.length wc.length) suf_get (nd_range _ _) hfc (kPlug_suf wc wc' w0 (by simpa using congrArg List.length hfc)) hroom h0 hstk hcat hdg kk
theorem j_cyV (X : kX D tA G cc nL own fr lo) {y : MethodName} {bytes : ByteArray} {maxL : Nat} {ret : Option FieldType} {frc loc index b : Nat} {As : List Value} {w0 wc : va_W} {S : Type} {Pr : S → Prop} {res : S → Option Value} {wf : S → va_W} {stk : List Value}
    (hM : Ky l D tA y bytes maxL ret frc loc (.ref b :: As) wc Pr res wf) (hcd : kCardV y bytes maxL ret As.length) (hlink : Cond.methodLink own index y ∈ kALL)
    (q0 : Nat) {ci : Nat} {fs : List Value} {r : vw_C} (he : wc[q0]? = some (b, .inr (ci, fs))) (hcl : vwCl[ci]? = some r) (hrc : r.1 = y.cls) (hfc : ∀ u, (wf u).map Prod.fst = wc.map Prod.fst)
    (hroom : frc + 1 ≤ fr ∧ 8 + (maxL + 11) + loc ≤ lo) (h0 : n ≤ (gR G).cells ∧ k ≤ (gR G).slots) (hstk : stk = As.reverse ++ .ref b :: st) (hcat : (st.map fun v => v.category).sum ≤ 8) (hdg : decode cc pc = .ok (.invokevirtual index, 3))
    (kk : ∀ u, Pr u → J l D G n k (w0 ++ wf u) lv (pc + 3) ((res u).toList ++ st)) : J l D G n k (w0 ++ wc) lv pc stk :=
  j_callVy X hM hcd hlink (w0.length + q0) (by rw [List.getElem?_append_right (Nat.le_add_right _ _), Nat.add_sub_cancel_left]; exact he) hcl hrc (List.range' w0.length wc.length) suf_get (nd_range _ _) hfc (fun u => kPlug_suf wc (wf u) w0 (by simpa using congrArg List.length (hfc u))) hroom h0 hstk hcat hdg kk
end
theorem blk_perm (l : List va_W) (is js : List Nat) (h : is.Perm js) : ((is.map (fun i => l.getD i [])).flatten).Perm ((js.map (fun i => l.getD i [])).flatten) := (h.map _).flatten
theorem perm8 (b0 b1 b2 b3 b4 b5 b6 b7 : va_W) (js : List Nat) (h : (List.range 8).Perm js) {w' : va_W} (hw : (js.map (fun i => [b0, b1, b2, b3, b4, b5, b6, b7].getD i [])).flatten = w') : (b0 ++ (b1 ++ (b2 ++ (b3 ++ (b4 ++ (b5 ++ (b6 ++ b7))))))).Perm w' := by
  have e := blk_perm [b0, b1, b2, b3, b4, b5, b6, b7] (List.range 8) js h
  rw [hw] at e
  have e0 : ((List.range 8).map (fun i => [b0, b1, b2, b3, b4, b5, b6, b7].getD i [])).flatten = b0 ++ (b1 ++ (b2 ++ (b3 ++ (b4 ++ (b5 ++ (b6 ++ b7)))))) := by
    show b0 ++ (b1 ++ (b2 ++ (b3 ++ (b4 ++ (b5 ++ (b6 ++ (b7 ++ []))))))) = _
    rw [List.append_nil]
  rw [e0] at e
  exact e
theorem hh_push {s : Sg} {v : Hs} (hh : ∀ i, Wf (v.1 i)) (hw : Wf s) (o : Option Sg) : ∀ i, Wf ((aH v s o).1 i) := by
  cases o with
  | none => exact hh
  | some s' =>
    intro i
    show Wf (va_up v.1 v.2.1 s i)
    by_cases q : i = v.2.1
    · rw [q, up_same]; exact hw
    · rw [up_ne _ _ q]; exact hh i
section
variable {l : Launch} {D : va_G} {tA : Nat → ClassId} {G : kCx} {cc : ByteArray} {nL : Nat} {own : String} {fr lo n k : Nat} {w : va_W} {lv : List (Nat × Value)} {pc : Nat} {st : List Value}
theorem j_sld (X : kX D tA G cc nL own fr lo) {b L : Nat} {xs : Nat → Int32} (hX : va_X b L xs (gs G) (gs G).heap) (hbl : b < (gs G).heap.size) (hbA : ¬ gA G b) {i : Nat} (hi : i < L) (hL : L < 65536) (hdg : decode cc pc = .ok (.iaload, 1)) (kk : J l D G n k w lv (pc + 1) (.int (xs i) :: st)) : J l D G n k w lv pc (.int (nI i) :: .ref b :: st) :=
  fun H locs ls hP hD hS hl => va_sld X.1 X.2.1 hX hbl hbA hS (vp_in_nI hi (by omega)) hdg (by rw [nI_clamp (by omega)]; exact kk H locs ls hP hD hS hl)
theorem j_slen (X : kX D tA G cc nL own fr lo) {b L : Nat} {xs : Nat → Int32} (hX : va_X b L xs (gs G) (gs G).heap) (hbl : b < (gs G).heap.size) (hbA : ¬ gA G b) (hdg : decode cc pc = .ok (.arraylength, 1)) (kk : J l D G n k w lv (pc + 1) (.int (nI L) :: st)) : J l D G n k w lv pc (.ref b :: st) :=
  fun H locs ls hP hD hS hl => va_slen X.1 X.2.1 hX hbl hbA hS hdg (kk H locs ls hP hD hS hl)
end
