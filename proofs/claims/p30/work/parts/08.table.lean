/-- a table's contents: how many rows, and the cells -/
abbrev Tb : Type := Nat × (Nat → Nat)
def tbW (tA : Nat → ClassId) (h q most cols : Nat) (t : Tb) : va_W := [(h, .inr (2, [.ref q, .int (nI most), .int (nI cols), .int (nI t.1)])), (q, .inl (tA 0, most * cols, .inl (nF t.2)))]
theorem tb_fst {tA : Nat → ClassId} {h q most cols : Nat} {t : Tb} : (tbW tA h q most cols t).map Prod.fst = [h, q] := rfl
def inR (x : Int32) (n : Nat) : Bool := decide (0 ≤ x.toInt ∧ x.toInt < (n : Int))
theorem inR_nI {k n : Nat} (h : k < n) (hn : n < 2 ^ 31) : inR (nI k) n = true := by
  have := nI_toInt (show k < 2 ^ 31 by omega)
  simp only [inR, decide_eq_true_eq]
  omega
theorem inR_t {x : Int32} {n : Nat} (h : inR x n = true) : ∃ k : Nat, k < n ∧ x = nI k := by
  simp only [inR, decide_eq_true_eq] at h
  exact i_in h.1 h.2
theorem cell_lt {r n most cols c : Nat} (hr : r < n) (hn : n ≤ most) (hc : c < cols) : r * cols + c < most * cols := by
  have h1 : r * cols + cols ≤ n * cols := by
    have := Nat.mul_le_mul_right cols (show r + 1 ≤ n from hr)
    rwa [Nat.succ_mul] at this
  have h2 : n * cols ≤ most * cols := Nat.mul_le_mul_right _ hn
  omega
def tGet (cols : Nat) (t : Tb) (r c : Nat) : Nat := t.2 (r * cols + c)
def tSet (cols : Nat) (t : Tb) (r c v : Nat) : Tb := (t.1, va_up t.2 (r * cols + c) v)
/-- a new row, whose cells are 0 -/
def tAdd (cols : Nat) (t : Tb) : Tb := (t.1 + 1, fun j => if t.1 * cols ≤ j ∧ j < t.1 * cols + cols then 0 else t.2 j)
/-- the rows behind come one number earlier -/
def tDel (cols : Nat) (t : Tb) (r : Nat) : Tb := (t.1 - 1, fun j => if r * cols ≤ j ∧ j < (t.1 - 1) * cols then t.2 (j + cols) else t.2 j)
def cntN (p : Nat → Bool) : Nat → Nat
  | 0 => 0
  | n + 1 => cntN p n + (if p n = true then 1 else 0)
def sumN (f : Nat → Nat) : Nat → Nat
  | 0 => 0
  | n + 1 => sumN f n + f n
/-- the same cells, said otherwise -/
theorem j_world {l : Launch} {D : va_G} {G : kCx} {n k : Nat} {w w2 : va_W} {lv : List (Nat × Value)} {pc : Nat} {st : List Value} (h : ∀ H, va_P D vwCl w H → va_P D vwCl w2 H) (hf : w2.map Prod.fst = w.map Prod.fst) (kk : J l D G n k w2 lv pc st) : J l D G n k w lv pc st :=
  fun H locs ls hP hD hS hl => kk H locs ls (h H hP) (kD_same hD hf) hS hl
theorem arr_same {D : va_G} {cA : ClassId} {n a : Nat} {f g : Nat → Int32} {H : Heap} (h : ∀ j, j < n → f j = g j) (hP : va_at D vwCl (a, .inl (cA, n, .inl f)) H) : va_at D vwCl (a, .inl (cA, n, .inl g)) H := by
  show H[a]? = some (vp_cell cA (n, .inl g))
  have h0 : H[a]? = some (vp_cell cA (n, .inl f)) := hP
  rw [h0]
  congr 1
  simp only [vp_cell_i]
  show arrV cA n _ = arrV cA n _
  unfold arrV
  congr 1
  apply Array.ext
  · simp
  · intro i h1 h2
    have hi : i < n := by simpa using h1
    simp [h i hi]
theorem P_arr {D : va_G} {w : va_W} {q a n : Nat} {cA : ClassId} {f g : Nat → Int32} {H : Heap} (hq : q < w.length) (h : ∀ j, j < n → f j = g j) (hP : va_P D vwCl (w.set q (a, .inl (cA, n, .inl f))) H) : va_P D vwCl (w.set q (a, .inl (cA, n, .inl g))) H := by
  intro k x hk
  by_cases e : k = q
  · subst e
    rw [List.getElem?_set_self hq] at hk
    cases hk
    exact arr_same h (hP k _ (List.getElem?_set_self hq))
  · rw [List.getElem?_set_ne (Ne.symm e)] at hk
    exact hP k x (by rw [List.getElem?_set_ne (Ne.symm e)]; exact hk)
theorem j_copy {l : Launch} {D : va_G} {tA : Nat → ClassId} {G : kCx} {cc : ByteArray} {nL : Nat} {own : String} {fr lo n k : Nat} {w : va_W} {lv : List (Nat × Value)} {pc : Nat} {st : List Value} (X : kX D tA G cc nL own fr lo) (q0 q1 : Nat) {a0 a N index : Nat} {f g : Nat → Nat} (he0 : w[q0]? = some (a0, .inl (tA 0, N, .inl (nF f)))) (he1 : w[q1]? = some (a, .inl (tA 0, N, .inl (nF g)))) (hN : N < 65536)
    (hlink : Cond.methodLink own index arraycopyName ∈ kALL) (hfr : 1 ≤ fr) (hlo : (st.map fun v => v.category).sum + (nativeFrameWords "java/lang/System" "arraycopy" 5 + 11) ≤ lo) {w' : va_W} (hw : w.set q1 (a, .inl (tA 0, N, .inl (nF f))) = w') (hdg : decode cc pc = .ok (.invokestatic index, 3))
    (kk : J l D G n k w' lv (pc + 3) st) : J l D G n k w lv pc (.int (nI N) :: .int (nI 0) :: .ref a :: .int (nI 0) :: .ref a0 :: st) := by
  intro H locs ls hP hD hS hl
  have hq : q1 < w.length := (List.getElem?_eq_some_iff.mp he1).1
  have c0 : (nI 0).toNatClampNeg = 0 := nI_clamp (by omega)
  have cN : (nI N).toNatClampNeg = N := nI_clamp (by omega)
  refine va_copyi (D := D) (cl := vwCl) (ws := w) (tys := kTY tA) X.1 X.2.1 hl.1.symm X.2.2.2.1 (X.2.2.2.2.1 _ hlink) (X.2.2.2.2.1 _ wx_acopy) (X.2.2.2.2.1 _ wt_acopy) (X.2.2.2.2.1 _ wi_J10) X.2.2.2.2.2.1.1 hP hD hS q0 q1 0 0 he0 he1 rfl rfl rfl (nI_pos (by omega)) (nI_pos (by omega)) (nI_pos (by omega)) (by rw [c0, cN]; omega) (by rw [c0, cN]; omega) (fun i _ => rfl) (Nat.le_trans hfr X.2.2.2.2.2.2.2.1) (Nat.le_trans hlo X.2.2.2.2.2.2.2.2) hdg (fun H1 locs1 hP1 hD1 hS1 => ?_)
  rw [c0, cN] at hP1 hD1
  refine kk H1 locs1 ls ?_ ?_ hS1 hl
  · rw [← hw]
    exact P_arr hq (fun j hj => by simp [va_cpy, hj]) hP1
  · rw [← hw]
    exact kD_same hD1 (by rw [List.map_set, List.map_set])
theorem cd_X2_size : kCardV yX2_size cX2_size 1 (some .int) 0 := ⟨⟨wc_X2_size, wi_X2, by decide +kernel, by decide +kernel, rfl⟩, wk_X2_size, ws_X2_size⟩
set_option maxHeartbeats 4000000 in
set_option maxRecDepth 100000 in
theorem c_X2_size (l : Launch) (D : va_G) (tA : Nat → ClassId) (h q most cols : Nat) (t : Tb)   : Kx l D tA yX2_size cX2_size 1 (some .int) 0 0 [.ref h] (tbW tA h q most cols t) (some (.int (nI t.1))) (tbW tA h q most cols t) := by
  refine kx_int rfl (Nat.le_of_ble_eq_true rfl) (fun G X E => ?_)
  show J l D G 0 0 (tbW tA h q most cols t) [(0, .ref h)] 0 []
  refine j_aload_n (pc := 0) X dX2_size_0 rfl (q := 0) rfl ?_
  refine j_get (pc := 1) X (C := RX2) (T := TX2) (N := 4) wz_X2 0 rfl rfl 3 (by decide) wf_X2_28 rfl dX2_size_1 ?_
  exact j_endI (pc := 4) E dX2_size_4 rfl rfl
theorem cd_X2_has : kCardV yX2_has cX2_has 2 (some .boolean) 1 := ⟨⟨wc_X2_has, wi_X2, by decide +kernel, by decide +kernel, rfl⟩, wk_X2_has, ws_X2_has⟩
set_option maxHeartbeats 4000000 in
set_option maxRecDepth 100000 in
theorem c_X2_has (l : Launch) (D : va_G) (tA : Nat → ClassId) (h q most cols : Nat) (t : Tb) (x : Int32) (hm : most < 65536) (hz : most * cols < 65536) (ht : t.1 ≤ most) : Kx l D tA yX2_has cX2_has 2 (some .boolean) 0 0 [.ref h, .int x] (tbW tA h q most cols t) (some (.int (bI (inR x t.1)))) (tbW tA h q most cols t) := by
  refine kx_bool rfl (Nat.le_of_ble_eq_true rfl) (fun G X E => ?_)
  show J l D G 0 0 (tbW tA h q most cols t) [(0, .ref h), (1, .int x)] 0 []
  refine j_iload_n (pc := 0) X dX2_has_0 rfl (q := 1) rfl ?_
  refine j_if_lt (pc := 1) X (tgt := 16) (P := x.toInt < 0) dX2_has_1 (by decide) (iC_lt0 _) (fun h1 => ?_) (fun h1 => ?_)
  · skip
    refine j_iconst (pc := 16) X (v := (nI 0)) dX2_has_16 (by decide) ?_
    exact j_endI (pc := 17) E dX2_has_17 (bI_f (by simp only [inR, decide_eq_false_iff_not]; omega)) rfl
  · skip
    refine j_iload_n (pc := 4) X dX2_has_4 rfl (q := 1) rfl ?_
    refine j_aload_n (pc := 5) X dX2_has_5 rfl (q := 0) rfl ?_
    refine j_get (pc := 6) X (C := RX2) (T := TX2) (N := 4) wz_X2 0 rfl rfl 3 (by decide) wf_X2_28 rfl dX2_has_6 ?_
    refine j_icmp_ge (pc := 9) X (tgt := 16) (P := ((t.1 : Nat) : Int) ≤ x.toInt) dX2_has_9 (by decide) (iC_gen (by omega)) (fun h9 => ?_) (fun h9 => ?_)
    · skip
      refine j_iconst (pc := 16) X (v := (nI 0)) dX2_has_16 (by decide) ?_
      exact j_endI (pc := 17) E dX2_has_17 (bI_f (by simp only [inR, decide_eq_false_iff_not]; omega)) rfl
    · skip
      refine j_iconst (pc := 12) X (v := (nI 1)) dX2_has_12 (by decide) ?_
      refine j_goto (pc := 13) X (tgt := 17) dX2_has_13 (by decide) ?_
      exact j_endI (pc := 17) E dX2_has_17 (bI_t (by simp only [inR, decide_eq_true_eq]; omega)) rfl
theorem cd_X2_isFull : kCardV yX2_isFull cX2_isFull 1 (some .boolean) 0 := ⟨⟨wc_X2_isFull, wi_X2, by decide +kernel, by decide +kernel, rfl⟩, wk_X2_isFull, ws_X2_isFull⟩
set_option maxHeartbeats 4000000 in
set_option maxRecDepth 100000 in
theorem c_X2_isFull (l : Launch) (D : va_G) (tA : Nat → ClassId) (h q most cols : Nat) (t : Tb)  (hm : most < 65536) (hz : most * cols < 65536) (ht : t.1 ≤ most) : Kx l D tA yX2_isFull cX2_isFull 1 (some .boolean) 0 0 [.ref h] (tbW tA h q most cols t) (some (.int (bI (decide (most ≤ t.1))))) (tbW tA h q most cols t) := by
  refine kx_bool rfl (Nat.le_of_ble_eq_true rfl) (fun G X E => ?_)
  show J l D G 0 0 (tbW tA h q most cols t) [(0, .ref h)] 0 []
  refine j_aload_n (pc := 0) X dX2_isFull_0 rfl (q := 0) rfl ?_
  refine j_get (pc := 1) X (C := RX2) (T := TX2) (N := 4) wz_X2 0 rfl rfl 3 (by decide) wf_X2_28 rfl dX2_isFull_1 ?_
  refine j_aload_n (pc := 4) X dX2_isFull_4 rfl (q := 0) rfl ?_
  refine j_get (pc := 5) X (C := RX2) (T := TX2) (N := 4) wz_X2 0 rfl rfl 1 (by decide) wf_X2_9 rfl dX2_isFull_5 ?_
  refine j_icmp_lt (pc := 8) X (tgt := 15) (P := t.1 < most) dX2_isFull_8 (by decide) (nI_ltI (by omega) (by omega)) (fun h8 => ?_) (fun h8 => ?_)
  · skip
    refine j_iconst (pc := 15) X (v := (nI 0)) dX2_isFull_15 (by decide) ?_
    exact j_endI (pc := 16) E dX2_isFull_16 (bI_f (by simp only [decide_eq_false_iff_not]; omega)) rfl
  · skip
    refine j_iconst (pc := 11) X (v := (nI 1)) dX2_isFull_11 (by decide) ?_
    refine j_goto (pc := 12) X (tgt := 16) dX2_isFull_12 (by decide) ?_
    exact j_endI (pc := 16) E dX2_isFull_16 (bI_t (by simp only [decide_eq_true_eq]; omega)) rfl
theorem cd_X2_get : kCardV yX2_get cX2_get 4 (some .int) 2 := ⟨⟨wc_X2_get, wi_X2, by decide +kernel, by decide +kernel, rfl⟩, wk_X2_get, ws_X2_get⟩
set_option maxHeartbeats 4000000 in
set_option maxRecDepth 100000 in
theorem c_X2_get (l : Launch) (D : va_G) (tA : Nat → ClassId) (h q most cols : Nat) (t : Tb) (r c : Nat) (hm : most < 65536) (hz : most * cols < 65536) (ht : t.1 ≤ most) (hr : r < t.1) (hc : c < cols) (hcl : cols < 65536) : Kx l D tA yX2_get cX2_get 4 (some .int) 0 0 [.ref h, .int (nI r), .int (nI c)] (tbW tA h q most cols t) (some (.int (nI (tGet cols t r c)))) (tbW tA h q most cols t) := by
  refine kx_int rfl (Nat.le_of_ble_eq_true rfl) (fun G X E => ?_)
  show J l D G 0 0 (tbW tA h q most cols t) [(0, .ref h), (1, .int (nI r)), (2, .int (nI c))] 0 []
  have hx : r * cols + c < most * cols := cell_lt hr ht hc
  refine j_iload_n (pc := 0) X dX2_get_0 rfl (q := 1) rfl ?_
  refine j_aload_n (pc := 1) X dX2_get_1 rfl (q := 0) rfl ?_
  refine j_get (pc := 2) X (C := RX2) (T := TX2) (N := 4) wz_X2 0 rfl rfl 2 (by decide) wf_X2_15 rfl dX2_get_2 ?_
  refine j_imul (pc := 5) X (v := (nI (r * cols))) dX2_get_5 (pk_mul _ _) ?_
  refine j_iload_n (pc := 6) X dX2_get_6 rfl (q := 2) rfl ?_
  refine j_iadd (pc := 7) X (v := (nI ((r * cols) + c))) dX2_get_7 (nI_add _ _) ?_
  refine j_istore_n (pc := 8) X (lv' := [(3, .int (nI ((r * cols) + c))), (0, .ref h), (1, .int (nI r)), (2, .int (nI c))]) dX2_get_8 rfl (by decide) rfl ?_
  refine j_iload_n (pc := 9) X dX2_get_9 rfl (q := 2) rfl ?_
  refine j_if_lt_f (pc := 10) X (tgt := 46) dX2_get_10 (by decide) (nI_pos (by omega)) ?_
  refine j_iload_n (pc := 13) X dX2_get_13 rfl (q := 2) rfl ?_
  refine j_aload_n (pc := 14) X dX2_get_14 rfl (q := 1) rfl ?_
  refine j_get (pc := 15) X (C := RX2) (T := TX2) (N := 4) wz_X2 0 rfl rfl 3 (by decide) wf_X2_28 rfl dX2_get_15 ?_
  refine j_icmp_ge_f (pc := 18) X (tgt := 46) dX2_get_18 (by decide) (nI_ge hr (by omega)) ?_
  refine j_iload_n (pc := 21) X dX2_get_21 rfl (q := 3) rfl ?_
  refine j_if_lt_f (pc := 22) X (tgt := 46) dX2_get_22 (by decide) (nI_pos (by omega)) ?_
  refine j_iload_n (pc := 25) X dX2_get_25 rfl (q := 3) rfl ?_
  refine j_aload_n (pc := 26) X dX2_get_26 rfl (q := 1) rfl ?_
  refine j_get (pc := 27) X (C := RX2) (T := TX2) (N := 4) wz_X2 0 rfl rfl 2 (by decide) wf_X2_15 rfl dX2_get_27 ?_
  refine j_icmp_ge_f (pc := 30) X (tgt := 46) dX2_get_30 (by decide) (nI_ge hc (by omega)) ?_
  refine j_iload_n (pc := 33) X dX2_get_33 rfl (q := 0) rfl ?_
  refine j_if_lt_f (pc := 34) X (tgt := 46) dX2_get_34 (by decide) (nI_pos (by omega)) ?_
  refine j_iload_n (pc := 37) X dX2_get_37 rfl (q := 0) rfl ?_
  refine j_aload_n (pc := 38) X dX2_get_38 rfl (q := 1) rfl ?_
  refine j_get (pc := 39) X (C := RX2) (T := TX2) (N := 4) wz_X2 0 rfl rfl 0 (by decide) wf_X2_24 rfl dX2_get_39 ?_
  refine j_alen (pc := 42) X 1 0 rfl rfl dX2_get_42 ?_
  refine j_icmp_lt_t (pc := 43) X (tgt := 48) dX2_get_43 (by decide) (nI_lt hx (by omega)) ?_
  refine j_aload_n (pc := 48) X dX2_get_48 rfl (q := 1) rfl ?_
  refine j_get (pc := 49) X (C := RX2) (T := TX2) (N := 4) wz_X2 0 rfl rfl 0 (by decide) wf_X2_24 rfl dX2_get_49 ?_
  refine j_iload_n (pc := 52) X dX2_get_52 rfl (q := 0) rfl ?_
  refine j_iald (pc := 53) X 1 (i := ((r * cols) + c)) rfl (by omega) (by omega) dX2_get_53 ?_
  exact j_endI (pc := 54) E dX2_get_54 rfl rfl
theorem cd_X2_set : kCardV yX2_set cX2_set 5 none 3 := ⟨⟨wc_X2_set, wi_X2, by decide +kernel, by decide +kernel, rfl⟩, wk_X2_set, ws_X2_set⟩
set_option maxHeartbeats 4000000 in
set_option maxRecDepth 100000 in
theorem c_X2_set (l : Launch) (D : va_G) (tA : Nat → ClassId) (h q most cols : Nat) (t : Tb) (r c v : Nat) (hm : most < 65536) (hz : most * cols < 65536) (ht : t.1 ≤ most) (hr : r < t.1) (hc : c < cols) (hcl : cols < 65536) : Kx l D tA yX2_set cX2_set 5 none 0 0 [.ref h, .int (nI r), .int (nI c), .int (nI v)] (tbW tA h q most cols t) none (tbW tA h q most cols (tSet cols t r c v)) := by
  refine kx_void rfl (Nat.le_of_ble_eq_true rfl) (fun G X E => ?_)
  show J l D G 0 0 (tbW tA h q most cols t) [(0, .ref h), (1, .int (nI r)), (2, .int (nI c)), (3, .int (nI v))] 0 []
  have hx : r * cols + c < most * cols := cell_lt hr ht hc
  refine j_iload_n (pc := 0) X dX2_set_0 rfl (q := 1) rfl ?_
  refine j_aload_n (pc := 1) X dX2_set_1 rfl (q := 0) rfl ?_
  refine j_get (pc := 2) X (C := RX2) (T := TX2) (N := 4) wz_X2 0 rfl rfl 2 (by decide) wf_X2_15 rfl dX2_set_2 ?_
  refine j_imul (pc := 5) X (v := (nI (r * cols))) dX2_set_5 (pk_mul _ _) ?_
  refine j_iload_n (pc := 6) X dX2_set_6 rfl (q := 2) rfl ?_
  refine j_iadd (pc := 7) X (v := (nI ((r * cols) + c))) dX2_set_7 (nI_add _ _) ?_
  refine j_istore (pc := 8) X (lv' := [(4, .int (nI ((r * cols) + c))), (0, .ref h), (1, .int (nI r)), (2, .int (nI c)), (3, .int (nI v))]) dX2_set_8 (by decide) rfl ?_
  refine j_iload_n (pc := 10) X dX2_set_10 rfl (q := 2) rfl ?_
  refine j_if_lt_f (pc := 11) X (tgt := 49) dX2_set_11 (by decide) (nI_pos (by omega)) ?_
  refine j_iload_n (pc := 14) X dX2_set_14 rfl (q := 2) rfl ?_
  refine j_aload_n (pc := 15) X dX2_set_15 rfl (q := 1) rfl ?_
  refine j_get (pc := 16) X (C := RX2) (T := TX2) (N := 4) wz_X2 0 rfl rfl 3 (by decide) wf_X2_28 rfl dX2_set_16 ?_
  refine j_icmp_ge_f (pc := 19) X (tgt := 49) dX2_set_19 (by decide) (nI_ge hr (by omega)) ?_
  refine j_iload_n (pc := 22) X dX2_set_22 rfl (q := 3) rfl ?_
  refine j_if_lt_f (pc := 23) X (tgt := 49) dX2_set_23 (by decide) (nI_pos (by omega)) ?_
  refine j_iload_n (pc := 26) X dX2_set_26 rfl (q := 3) rfl ?_
  refine j_aload_n (pc := 27) X dX2_set_27 rfl (q := 1) rfl ?_
  refine j_get (pc := 28) X (C := RX2) (T := TX2) (N := 4) wz_X2 0 rfl rfl 2 (by decide) wf_X2_15 rfl dX2_set_28 ?_
  refine j_icmp_ge_f (pc := 31) X (tgt := 49) dX2_set_31 (by decide) (nI_ge hc (by omega)) ?_
  refine j_iload (pc := 34) X dX2_set_34 (q := 0) rfl ?_
  refine j_if_lt_f (pc := 36) X (tgt := 49) dX2_set_36 (by decide) (nI_pos (by omega)) ?_
  refine j_iload (pc := 39) X dX2_set_39 (q := 0) rfl ?_
  refine j_aload_n (pc := 41) X dX2_set_41 rfl (q := 1) rfl ?_
  refine j_get (pc := 42) X (C := RX2) (T := TX2) (N := 4) wz_X2 0 rfl rfl 0 (by decide) wf_X2_24 rfl dX2_set_42 ?_
  refine j_alen (pc := 45) X 1 0 rfl rfl dX2_set_45 ?_
  refine j_icmp_lt_t (pc := 46) X (tgt := 50) dX2_set_46 (by decide) (nI_lt hx (by omega)) ?_
  refine j_aload_n (pc := 50) X dX2_set_50 rfl (q := 1) rfl ?_
  refine j_get (pc := 51) X (C := RX2) (T := TX2) (N := 4) wz_X2 0 rfl rfl 0 (by decide) wf_X2_24 rfl dX2_set_51 ?_
  refine j_iload (pc := 54) X dX2_set_54 (q := 0) rfl ?_
  refine j_iload_n (pc := 56) X dX2_set_56 rfl (q := 4) rfl ?_
  refine j_iast (pc := 57) X 1 (i := ((r * cols) + c)) (v := v) rfl (by omega) (by omega) (w' := (tbW tA h q most cols (t.1, va_up t.2 ((r * cols) + c) v))) rfl dX2_set_57 ?_
  exact j_endV (pc := 58) E dX2_set_58 rfl
theorem zr_step (cols : Nat) (t : Tb) {c : Nat} {f : Nat → Nat} (hf : f = fun j => if t.1 * cols ≤ j ∧ j < t.1 * cols + c then 0 else t.2 j) : va_up f (t.1 * cols + c) 0 = fun j => if t.1 * cols ≤ j ∧ j < t.1 * cols + (c + 1) then 0 else t.2 j := by
  funext j
  by_cases h : j = t.1 * cols + c
  · subst h
    rw [up_same, if_pos ⟨by omega, by omega⟩]
  · rw [up_ne _ _ h, hf]
    show (if t.1 * cols ≤ j ∧ j < t.1 * cols + c then 0 else t.2 j) = _
    by_cases h2 : t.1 * cols ≤ j ∧ j < t.1 * cols + c
    · rw [if_pos h2, if_pos ⟨h2.1, by omega⟩]
    · rw [if_neg h2, if_neg (fun q => h2 ⟨q.1, by omega⟩)]
def sR (cols r : Nat) (f : Nat → Nat) (m : Nat) : Nat → Nat := fun j => if r * cols ≤ j ∧ j < m then f (j + cols) else f j
theorem sr_step {cols r : Nat} {f g : Nat → Nat} {m : Nat} (hg : g = sR cols r f m) (hm : r * cols ≤ m) : va_up g m (g (m + cols)) = sR cols r f (m + 1) := by
  subst hg
  funext j
  by_cases h : j = m
  · subst h
    rw [up_same]
    simp only [sR]
    rw [if_pos (show r * cols ≤ j ∧ j < j + 1 from ⟨hm, by omega⟩)]
    by_cases h2 : r * cols ≤ j + cols ∧ j + cols < j
    · omega
    · rw [if_neg h2]
  · rw [up_ne _ _ h]
    simp only [sR]
    by_cases h2 : r * cols ≤ j ∧ j < m
    · rw [if_pos h2, if_pos ⟨h2.1, by omega⟩]
    · rw [if_neg h2, if_neg (fun q => h2 ⟨q.1, by omega⟩)]
theorem sr_0 {cols r : Nat} {f : Nat → Nat} : sR cols r f (r * cols) = f := by
  funext j
  simp only [sR]
  rw [if_neg (by omega)]
theorem cnt_t {p : Nat → Bool} {i k : Nat} (hk : k = cntN p i) (h : p i = true) : k + 1 = cntN p (i + 1) := by rw [cntN, if_pos h, hk]
theorem cnt_f {p : Nat → Bool} {i k : Nat} (hk : k = cntN p i) (h : ¬ p i = true) : k = cntN p (i + 1) := by rw [cntN, if_neg h, hk]; rfl
theorem cd_X2_increase : kCardV yX2_increase cX2_increase 4 none 3 := ⟨⟨wc_X2_increase, wi_X2, by decide +kernel, by decide +kernel, rfl⟩, wk_X2_increase, ws_X2_increase⟩
set_option maxHeartbeats 4000000 in
set_option maxRecDepth 100000 in
theorem c_X2_increase (l : Launch) (D : va_G) (tA : Nat → ClassId) (h q most cols : Nat) (t : Tb) (r c : Nat) (d : Int32) (v : Nat) (hm : most < 65536) (hz : most * cols < 65536) (ht : t.1 ≤ most) (hr : r < t.1) (hc : c < cols) (hcl : cols < 65536) (hd : nI (tGet cols t r c) + d = nI v) : Kx l D tA yX2_increase cX2_increase 4 none 1 24 [.ref h, .int (nI r), .int (nI c), .int d] (tbW tA h q most cols t) none (tbW tA h q most cols (tSet cols t r c v)) := by
  refine kx_void rfl (Nat.le_of_ble_eq_true rfl) (fun G X E => ?_)
  show J l D G 0 0 (tbW tA h q most cols t) [(0, .ref h), (1, .int (nI r)), (2, .int (nI c)), (3, .int d)] 0 []
  refine j_aload_n (pc := 0) X dX2_increase_0 rfl (q := 0) rfl ?_
  refine j_iload_n (pc := 1) X dX2_increase_1 rfl (q := 1) rfl ?_
  refine j_iload_n (pc := 2) X dX2_increase_2 rfl (q := 2) rfl ?_
  refine j_aload_n (pc := 3) X dX2_increase_3 rfl (q := 0) rfl ?_
  refine j_iload_n (pc := 4) X dX2_increase_4 rfl (q := 1) rfl ?_
  refine j_iload_n (pc := 5) X dX2_increase_5 rfl (q := 2) rfl ?_
  refine j_callVR (pc := 6) X (st := [.int (nI c), .int (nI r), .ref h])  (c_X2_get l D tA h q most cols t r c (by first | assumption | omega | decide) (by first | assumption | omega | decide) (by first | assumption | omega | decide) (by first | assumption | omega | decide) (by first | assumption | omega | decide) (by first | assumption | omega | decide)) cd_X2_get wm_X2_31 0 rfl rfl rfl [0, 1] rfl rfl ⟨Nat.le_of_ble_eq_true rfl, Nat.le_of_ble_eq_true rfl⟩ ⟨Nat.zero_le _, Nat.zero_le _⟩ rfl (Nat.le_of_ble_eq_true rfl) dX2_increase_6 ?_
  refine j_iload_n (pc := 9) X dX2_increase_9 rfl (q := 3) rfl ?_
  refine j_iadd (pc := 10) X (v := (nI v)) dX2_increase_10 hd ?_
  refine j_callV (pc := 11) X (st := []) (w' := (tbW tA h q most cols (tSet cols t r c v))) (c_X2_set l D tA h q most cols t r c v (by first | assumption | omega | decide) (by first | assumption | omega | decide) (by first | assumption | omega | decide) (by first | assumption | omega | decide) (by first | assumption | omega | decide) (by first | assumption | omega | decide)) cd_X2_set wm_X2_34 0 rfl rfl rfl [0, 1] rfl rfl (tb_fst.trans tb_fst.symm) rfl ⟨Nat.le_of_ble_eq_true rfl, Nat.le_of_ble_eq_true rfl⟩ ⟨Nat.zero_le _, Nat.zero_le _⟩ rfl (Nat.le_of_ble_eq_true rfl) dX2_increase_11 ?_
  exact j_endV (pc := 14) E dX2_increase_14 rfl
theorem cd_X2_addRow : kCardV yX2_addRow cX2_addRow 3 (some .int) 0 := ⟨⟨wc_X2_addRow, wi_X2, by decide +kernel, by decide +kernel, rfl⟩, wk_X2_addRow, ws_X2_addRow⟩
set_option maxHeartbeats 4000000 in
set_option maxRecDepth 100000 in
theorem c_X2_addRow (l : Launch) (D : va_G) (tA : Nat → ClassId) (h q most cols : Nat) (t : Tb)  (hm : most < 65536) (hz : most * cols < 65536) (ht : t.1 ≤ most) (hcl : cols < 65536) (hlt : t.1 < most) : Kx l D tA yX2_addRow cX2_addRow 3 (some .int) 1 24 [.ref h] (tbW tA h q most cols t) (some (.int (nI t.1))) (tbW tA h q most cols (tAdd cols t)) := by
  refine kx_int rfl (Nat.le_of_ble_eq_true rfl) (fun G X E => ?_)
  show J l D G 0 0 (tbW tA h q most cols t) [(0, .ref h)] 0 []
  refine j_aload_n (pc := 0) X dX2_addRow_0 rfl (q := 0) rfl ?_
  refine j_callVR (pc := 1) X (st := [])  (c_X2_isFull l D tA h q most cols t  (by first | assumption | omega | decide) (by first | assumption | omega | decide) (by first | assumption | omega | decide)) cd_X2_isFull wm_X2_38 0 rfl rfl rfl [0, 1] rfl rfl ⟨Nat.le_of_ble_eq_true rfl, Nat.le_of_ble_eq_true rfl⟩ ⟨Nat.zero_le _, Nat.zero_le _⟩ rfl (Nat.le_of_ble_eq_true rfl) dX2_addRow_1 ?_
  refine j_if_eq_t (pc := 4) X (tgt := 10) dX2_addRow_4 (by decide) ((bI_0 _).mpr (by simp only [decide_eq_false_iff_not]; omega)) ?_
  refine j_aload_n (pc := 10) X dX2_addRow_10 rfl (q := 0) rfl ?_
  refine j_get (pc := 11) X (C := RX2) (T := TX2) (N := 4) wz_X2 0 rfl rfl 3 (by decide) wf_X2_28 rfl dX2_addRow_11 ?_
  refine j_istore_n (pc := 14) X (lv' := [(1, .int (nI t.1)), (0, .ref h)]) dX2_addRow_14 rfl (by decide) rfl ?_
  refine j_aload_n (pc := 15) X dX2_addRow_15 rfl (q := 1) rfl ?_
  refine j_dup (pc := 16) X dX2_addRow_16 rfl ?_
  refine j_get (pc := 17) X (C := RX2) (T := TX2) (N := 4) wz_X2 0 rfl rfl 3 (by decide) wf_X2_28 rfl dX2_addRow_17 ?_
  refine j_iconst (pc := 20) X (v := (nI 1)) dX2_addRow_20 (by decide) ?_
  refine j_iadd (pc := 21) X (v := (nI (t.1 + 1))) dX2_addRow_21 (nI_add _ _) ?_
  refine j_put (pc := 22) X (C := RX2) (T := TX2) (N := 4) wz_X2 tyX2 tyX2_ok nmX2 0 rfl rfl 3 (by decide) wf_X2_28 rfl rfl rfl (Nat.le_of_ble_eq_true rfl) (w' := (tbW tA h q most cols (t.1 + 1, t.2))) rfl dX2_addRow_22 ?_
  refine j_iconst (pc := 25) X (v := (nI 0)) dX2_addRow_25 (by decide) ?_
  refine j_istore_n (pc := 26) X (lv' := [(2, .int (nI 0)), (1, .int (nI t.1)), (0, .ref h)]) dX2_addRow_26 rfl (by decide) rfl ?_
  have L_27 : ∀ (fu : Nat) (c : Nat) (f : Nat → Nat), c ≤ cols → f = (fun j => if t.1 * cols ≤ j ∧ j < t.1 * cols + c then 0 else t.2 j) → cols - c < fu → J l D G 0 0 (tbW tA h q most cols (t.1 + 1, f)) [(0, .ref h), (1, .int (nI t.1)), (2, .int (nI c))] 27 [] := by
    intro fu
    induction fu with
    | zero => intro c f hi hf hfu; exact absurd hfu (Nat.not_lt_zero _)
    | succ fu ih_27 =>
      intro c f hi hf hfu
      refine j_iload_n (pc := 27) X dX2_addRow_27 rfl (q := 2) rfl ?_
      refine j_aload_n (pc := 28) X dX2_addRow_28 rfl (q := 0) rfl ?_
      refine j_get (pc := 29) X (C := RX2) (T := TX2) (N := 4) wz_X2 0 rfl rfl 2 (by decide) wf_X2_15 rfl dX2_addRow_29 ?_
      refine j_icmp_ge (pc := 32) X (tgt := 48) (P := cols ≤ c) dX2_addRow_32 (by decide) (nI_leI (by omega) (by omega)) (fun h32 => ?_) (fun h32 => ?_)
      · skip
        refine j_iload_n (pc := 48) X dX2_addRow_48 rfl (q := 1) rfl ?_
        exact j_endI (pc := 49) E dX2_addRow_49 rfl (by show tbW tA h q most cols (tAdd cols t) = _; rw [tAdd, hf, show c = cols by omega])
      · skip
        refine j_aload_n (pc := 35) X dX2_addRow_35 rfl (q := 0) rfl ?_
        refine j_iload_n (pc := 36) X dX2_addRow_36 rfl (q := 1) rfl ?_
        refine j_iload_n (pc := 37) X dX2_addRow_37 rfl (q := 2) rfl ?_
        refine j_iconst (pc := 38) X (v := (nI 0)) dX2_addRow_38 (by decide) ?_
        refine j_callV (pc := 39) X (st := []) (w' := (tbW tA h q most cols (tSet cols (t.1 + 1, f) t.1 c 0))) (c_X2_set l D tA h q most cols (t.1 + 1, f) t.1 c 0 hm hz (show t.1 + 1 ≤ most by omega) (show t.1 < t.1 + 1 by omega) (show c < cols by omega) hcl) cd_X2_set wm_X2_34 0 rfl rfl rfl [0, 1] rfl rfl (tb_fst.trans tb_fst.symm) rfl ⟨Nat.le_of_ble_eq_true rfl, Nat.le_of_ble_eq_true rfl⟩ ⟨Nat.zero_le _, Nat.zero_le _⟩ rfl (Nat.le_of_ble_eq_true rfl) dX2_addRow_39 ?_
        refine j_iinc (pc := 42) X (v := (nI (c + 1))) (lv' := [(2, .int (nI (c + 1))), (0, .ref h), (1, .int (nI t.1))]) dX2_addRow_42 (q := 2) rfl (nI_add _ _) (by decide) rfl ?_
        refine j_goto (pc := 45) X (tgt := 27) dX2_addRow_45 (by decide) ?_
        refine j_lv X (lv' := [(0, .ref h), (1, .int (nI t.1)), (2, .int (nI (c + 1)))]) [1, 2, 0] rfl ?_
        exact ih_27 (c + 1) (va_up f (t.1 * cols + c) 0) (by omega) (zr_step cols t hf) (by omega)
  refine j_lv X (lv' := [(0, .ref h), (1, .int (nI t.1)), (2, .int (nI 0))]) [2, 1, 0] rfl ?_
  exact L_27 _ 0 t.2 (Nat.zero_le _) (by funext j; rw [if_neg (by omega)]) (Nat.lt_succ_self _)
theorem cd_X2_removeRow : kCardV yX2_removeRow cX2_removeRow 4 none 1 := ⟨⟨wc_X2_removeRow, wi_X2, by decide +kernel, by decide +kernel, rfl⟩, wk_X2_removeRow, ws_X2_removeRow⟩
set_option maxHeartbeats 4000000 in
set_option maxRecDepth 100000 in
theorem c_X2_removeRow (l : Launch) (D : va_G) (tA : Nat → ClassId) (h q most cols : Nat) (t : Tb) (r : Nat) (hm : most < 65536) (hz : most * cols < 65536) (ht : t.1 ≤ most) (hcl : cols < 65536) (hr : r < t.1) : Kx l D tA yX2_removeRow cX2_removeRow 4 none 1 24 [.ref h, .int (nI r)] (tbW tA h q most cols t) none (tbW tA h q most cols (tDel cols t r)) := by
  refine kx_void rfl (Nat.le_of_ble_eq_true rfl) (fun G X E => ?_)
  show J l D G 0 0 (tbW tA h q most cols t) [(0, .ref h), (1, .int (nI r))] 0 []
  refine j_aload_n (pc := 0) X dX2_removeRow_0 rfl (q := 0) rfl ?_
  refine j_iload_n (pc := 1) X dX2_removeRow_1 rfl (q := 1) rfl ?_
  refine j_callVR (pc := 2) X (st := [])  (c_X2_has l D tA h q most cols t (nI r) hm hz ht) cd_X2_has wm_X2_42 0 rfl rfl rfl [0, 1] rfl rfl ⟨Nat.le_of_ble_eq_true rfl, Nat.le_of_ble_eq_true rfl⟩ ⟨Nat.zero_le _, Nat.zero_le _⟩ rfl (Nat.le_of_ble_eq_true rfl) dX2_removeRow_2 ?_
  refine j_if_ne_t (pc := 5) X (tgt := 9) dX2_removeRow_5 (by decide) ((bI_n0 _).mpr (inR_nI hr (by omega))) ?_
  refine j_iload_n (pc := 9) X dX2_removeRow_9 rfl (q := 1) rfl ?_
  refine j_iconst (pc := 10) X (v := (nI 1)) dX2_removeRow_10 (by decide) ?_
  refine j_iadd (pc := 11) X (v := (nI (r + 1))) dX2_removeRow_11 (nI_add _ _) ?_
  refine j_istore_n (pc := 12) X (lv' := [(2, .int (nI (r + 1))), (0, .ref h), (1, .int (nI r))]) dX2_removeRow_12 rfl (by decide) rfl ?_
  have L_13 : ∀ (fu : Nat) (L : Nat) (f : Nat → Nat), r + 1 ≤ L → L ≤ t.1 → f = sR cols r t.2 ((L - 1) * cols) → t.1 - L < fu → J l D G 0 0 (tbW tA h q most cols (t.1, f)) [(0, .ref h), (1, .int (nI r)), (2, .int (nI L))] 13 [] := by
    intro fu
    induction fu with
    | zero => intro L f hL hL2 hf hfu; exact absurd hfu (Nat.not_lt_zero _)
    | succ fu ih_13 =>
      intro L f hL hL2 hf hfu
      refine j_iload_n (pc := 13) X dX2_removeRow_13 rfl (q := 2) rfl ?_
      refine j_aload_n (pc := 14) X dX2_removeRow_14 rfl (q := 0) rfl ?_
      refine j_get (pc := 15) X (C := RX2) (T := TX2) (N := 4) wz_X2 0 rfl rfl 3 (by decide) wf_X2_28 rfl dX2_removeRow_15 ?_
      refine j_icmp_ge (pc := 18) X (tgt := 57) (P := ((t.1, f).1) ≤ L) dX2_removeRow_18 (by decide) (nI_leI (by omega) (by omega)) (fun h18 => ?_) (fun h18 => ?_)
      · skip
        refine j_aload_n (pc := 57) X dX2_removeRow_57 rfl (q := 0) rfl ?_
        refine j_dup (pc := 58) X dX2_removeRow_58 rfl ?_
        refine j_get (pc := 59) X (C := RX2) (T := TX2) (N := 4) wz_X2 0 rfl rfl 3 (by decide) wf_X2_28 rfl dX2_removeRow_59 ?_
        refine j_iconst (pc := 62) X (v := (nI 1)) dX2_removeRow_62 (by decide) ?_
        refine j_isub (pc := 63) X (v := (nI (((t.1, f).1) - 1))) dX2_removeRow_63 (pk_sub (by omega)) ?_
        refine j_put (pc := 64) X (C := RX2) (T := TX2) (N := 4) wz_X2 tyX2 tyX2_ok nmX2 0 rfl rfl 3 (by decide) wf_X2_28 rfl rfl rfl (Nat.le_of_ble_eq_true rfl) (w' := (tbW tA h q most cols (((t.1, f).1) - 1, (t.1, f).2))) rfl dX2_removeRow_64 ?_
        exact j_endV (pc := 67) E dX2_removeRow_67 (by show tbW tA h q most cols (tDel cols t r) = _; rw [tDel, hf, show L = t.1 by omega]; rfl)
      · skip
        refine j_iconst (pc := 21) X (v := (nI 0)) dX2_removeRow_21 (by decide) ?_
        refine j_istore_n (pc := 22) X (lv' := [(3, .int (nI 0)), (0, .ref h), (1, .int (nI r)), (2, .int (nI L))]) dX2_removeRow_22 rfl (by decide) rfl ?_
        have L_23 : ∀ (fu : Nat) (c : Nat) (g : Nat → Nat), c ≤ cols → g = sR cols r t.2 ((L - 1) * cols + c) → cols - c < fu → J l D G 0 0 (tbW tA h q most cols (t.1, g)) [(0, .ref h), (1, .int (nI r)), (2, .int (nI L)), (3, .int (nI c))] 23 [] := by
          intro fu
          induction fu with
          | zero => intro c g hc hg hfu; exact absurd hfu (Nat.not_lt_zero _)
          | succ fu ih_23 =>
            intro c g hc hg hfu
            refine j_iload_n (pc := 23) X dX2_removeRow_23 rfl (q := 3) rfl ?_
            refine j_aload_n (pc := 24) X dX2_removeRow_24 rfl (q := 0) rfl ?_
            refine j_get (pc := 25) X (C := RX2) (T := TX2) (N := 4) wz_X2 0 rfl rfl 2 (by decide) wf_X2_15 rfl dX2_removeRow_25 ?_
            refine j_icmp_ge (pc := 28) X (tgt := 51) (P := cols ≤ c) dX2_removeRow_28 (by decide) (nI_leI (by omega) (by omega)) (fun h28 => ?_) (fun h28 => ?_)
            · skip
              refine j_iinc (pc := 51) X (v := (nI (L + 1))) (lv' := [(2, .int (nI (L + 1))), (0, .ref h), (1, .int (nI r)), (3, .int (nI c))]) dX2_removeRow_51 (q := 2) rfl (nI_add _ _) (by decide) rfl ?_
              refine j_goto (pc := 54) X (tgt := 13) dX2_removeRow_54 (by decide) ?_
              refine j_lv X (lv' := [(0, .ref h), (1, .int (nI r)), (2, .int (nI (L + 1)))]) [1, 2, 0] rfl ?_
              exact ih_13 (L + 1) g (by omega) (by omega) (by rw [hg, Nat.add_sub_cancel, show c = cols by omega]; congr 1; have := Nat.succ_mul (L - 1) cols; rw [show (L - 1).succ = L by omega] at this; omega) (by omega)
            · skip
              refine j_aload_n (pc := 31) X dX2_removeRow_31 rfl (q := 0) rfl ?_
              refine j_iload_n (pc := 32) X dX2_removeRow_32 rfl (q := 2) rfl ?_
              refine j_iconst (pc := 33) X (v := (nI 1)) dX2_removeRow_33 (by decide) ?_
              refine j_isub (pc := 34) X (v := (nI (L - 1))) dX2_removeRow_34 (pk_sub (by omega)) ?_
              refine j_iload_n (pc := 35) X dX2_removeRow_35 rfl (q := 3) rfl ?_
              refine j_aload_n (pc := 36) X dX2_removeRow_36 rfl (q := 0) rfl ?_
              refine j_iload_n (pc := 37) X dX2_removeRow_37 rfl (q := 2) rfl ?_
              refine j_iload_n (pc := 38) X dX2_removeRow_38 rfl (q := 3) rfl ?_
              refine j_callVR (pc := 39) X (st := [.int (nI c), .int (nI (L - 1)), .ref h])  (c_X2_get l D tA h q most cols (t.1, g) L c hm hz ht (show L < t.1 by omega) (show c < cols by omega) hcl) cd_X2_get wm_X2_31 0 rfl rfl rfl [0, 1] rfl rfl ⟨Nat.le_of_ble_eq_true rfl, Nat.le_of_ble_eq_true rfl⟩ ⟨Nat.zero_le _, Nat.zero_le _⟩ rfl (Nat.le_of_ble_eq_true rfl) dX2_removeRow_39 ?_
              refine j_callV (pc := 42) X (st := []) (w' := (tbW tA h q most cols (tSet cols (t.1, g) (L - 1) c (tGet cols (t.1, g) L c)))) (c_X2_set l D tA h q most cols (t.1, g) (L - 1) c (tGet cols (t.1, g) L c) hm hz ht (show L - 1 < t.1 by omega) (show c < cols by omega) hcl) cd_X2_set wm_X2_34 0 rfl rfl rfl [0, 1] rfl rfl (tb_fst.trans tb_fst.symm) rfl ⟨Nat.le_of_ble_eq_true rfl, Nat.le_of_ble_eq_true rfl⟩ ⟨Nat.zero_le _, Nat.zero_le _⟩ rfl (Nat.le_of_ble_eq_true rfl) dX2_removeRow_42 ?_
              refine j_iinc (pc := 45) X (v := (nI (c + 1))) (lv' := [(3, .int (nI (c + 1))), (0, .ref h), (1, .int (nI r)), (2, .int (nI L))]) dX2_removeRow_45 (q := 3) rfl (nI_add _ _) (by decide) rfl ?_
              refine j_goto (pc := 48) X (tgt := 23) dX2_removeRow_48 (by decide) ?_
              refine j_lv X (lv' := [(0, .ref h), (1, .int (nI r)), (2, .int (nI L)), (3, .int (nI (c + 1)))]) [1, 2, 3, 0] rfl ?_
              exact ih_23 (c + 1) (va_up g ((L - 1) * cols + c) (g (L * cols + c))) (by omega) (by rw [show L * cols + c = ((L - 1) * cols + c) + cols by (have := Nat.succ_mul (L - 1) cols; rw [show (L - 1).succ = L by omega] at this; omega)]; exact sr_step hg (Nat.le_trans (Nat.mul_le_mul_right cols (show r ≤ L - 1 by omega)) (Nat.le_add_right _ _))) (by omega)
        refine j_lv X (lv' := [(0, .ref h), (1, .int (nI r)), (2, .int (nI L)), (3, .int (nI 0))]) [1, 2, 3, 0] rfl ?_
        exact L_23 _ 0 f (Nat.zero_le _) hf (Nat.lt_succ_self _)
  refine j_lv X (lv' := [(0, .ref h), (1, .int (nI r)), (2, .int (nI (r + 1)))]) [1, 2, 0] rfl ?_
  exact L_13 _ (r + 1) t.2 (Nat.le_refl _) (by omega) (by rw [Nat.add_sub_cancel]; exact sr_0.symm) (Nat.lt_succ_self _)
theorem cd_X2_countOf : kCardV yX2_countOf cX2_countOf 5 (some .int) 2 := ⟨⟨wc_X2_countOf, wi_X2, by decide +kernel, by decide +kernel, rfl⟩, wk_X2_countOf, ws_X2_countOf⟩
set_option maxHeartbeats 4000000 in
set_option maxRecDepth 100000 in
theorem c_X2_countOf (l : Launch) (D : va_G) (tA : Nat → ClassId) (h q most cols : Nat) (t : Tb) (c v : Nat) (hm : most < 65536) (hz : most * cols < 65536) (ht : t.1 ≤ most) (hcl : cols < 65536) (hc : c < cols) (hb : ∀ r, r < t.1 → tGet cols t r c < 2 ^ 31) (hv : v < 2 ^ 31) : Kx l D tA yX2_countOf cX2_countOf 5 (some .int) 1 23 [.ref h, .int (nI c), .int (nI v)] (tbW tA h q most cols t) (some (.int (nI (cntN (fun r => decide (tGet cols t r c = v)) t.1)))) (tbW tA h q most cols t) := by
  refine kx_int rfl (Nat.le_of_ble_eq_true rfl) (fun G X E => ?_)
  show J l D G 0 0 (tbW tA h q most cols t) [(0, .ref h), (1, .int (nI c)), (2, .int (nI v))] 0 []
  refine j_iconst (pc := 0) X (v := (nI 0)) dX2_countOf_0 (by decide) ?_
  refine j_istore_n (pc := 1) X (lv' := [(3, .int (nI 0)), (0, .ref h), (1, .int (nI c)), (2, .int (nI v))]) dX2_countOf_1 rfl (by decide) rfl ?_
  refine j_iconst (pc := 2) X (v := (nI 0)) dX2_countOf_2 (by decide) ?_
  refine j_istore (pc := 3) X (lv' := [(4, .int (nI 0)), (3, .int (nI 0)), (0, .ref h), (1, .int (nI c)), (2, .int (nI v))]) dX2_countOf_3 (by decide) rfl ?_
  have L_5 : ∀ (fu : Nat) (i k : Nat), i ≤ t.1 → k = cntN (fun r => decide (tGet cols t r c = v)) i → t.1 - i < fu → J l D G 0 0 (tbW tA h q most cols t) [(0, .ref h), (1, .int (nI c)), (2, .int (nI v)), (3, .int (nI k)), (4, .int (nI i))] 5 [] := by
    intro fu
    induction fu with
    | zero => intro i k hi hk hfu; exact absurd hfu (Nat.not_lt_zero _)
    | succ fu ih_5 =>
      intro i k hi hk hfu
      refine j_iload (pc := 5) X dX2_countOf_5 (q := 4) rfl ?_
      refine j_aload_n (pc := 7) X dX2_countOf_7 rfl (q := 0) rfl ?_
      refine j_get (pc := 8) X (C := RX2) (T := TX2) (N := 4) wz_X2 0 rfl rfl 3 (by decide) wf_X2_28 rfl dX2_countOf_8 ?_
      refine j_icmp_ge (pc := 11) X (tgt := 34) (P := t.1 ≤ i) dX2_countOf_11 (by decide) (nI_leI (by omega) (by omega)) (fun h11 => ?_) (fun h11 => ?_)
      · skip
        refine j_iload_n (pc := 34) X dX2_countOf_34 rfl (q := 3) rfl ?_
        exact j_endI (pc := 35) E dX2_countOf_35 (by rw [hk, show i = t.1 by omega]) rfl
      · skip
        refine j_aload_n (pc := 14) X dX2_countOf_14 rfl (q := 0) rfl ?_
        refine j_iload (pc := 15) X dX2_countOf_15 (q := 4) rfl ?_
        refine j_iload_n (pc := 17) X dX2_countOf_17 rfl (q := 1) rfl ?_
        refine j_callVR (pc := 18) X (st := [])  (c_X2_get l D tA h q most cols t i c hm hz ht (show i < t.1 by omega) hc hcl) cd_X2_get wm_X2_31 0 rfl rfl rfl [0, 1] rfl rfl ⟨Nat.le_of_ble_eq_true rfl, Nat.le_of_ble_eq_true rfl⟩ ⟨Nat.zero_le _, Nat.zero_le _⟩ rfl (Nat.le_of_ble_eq_true rfl) dX2_countOf_18 ?_
        have hbi := hb i (by omega)
        refine j_iload_n (pc := 21) X dX2_countOf_21 rfl (q := 2) rfl ?_
        refine j_icmp_ne (pc := 22) X (tgt := 28) (P := ¬ (tGet cols t i c) = v) dX2_countOf_22 (by decide) (not_congr (nI_eq (by omega) (by omega))) (fun h22 => ?_) (fun h22 => ?_)
        · skip
          refine j_iinc (pc := 28) X (v := (nI (i + 1))) (lv' := [(4, .int (nI (i + 1))), (0, .ref h), (1, .int (nI c)), (2, .int (nI v)), (3, .int (nI k))]) dX2_countOf_28 (q := 4) rfl (nI_add _ _) (by decide) rfl ?_
          refine j_goto (pc := 31) X (tgt := 5) dX2_countOf_31 (by decide) ?_
          refine j_lv X (lv' := [(0, .ref h), (1, .int (nI c)), (2, .int (nI v)), (3, .int (nI k)), (4, .int (nI (i + 1)))]) [1, 2, 3, 4, 0] rfl ?_
          exact ih_5 (i + 1) k (by omega) (cnt_f hk (by simpa using h22)) (by omega)
        · skip
          refine j_iinc (pc := 25) X (v := (nI (k + 1))) (lv' := [(3, .int (nI (k + 1))), (0, .ref h), (1, .int (nI c)), (2, .int (nI v)), (4, .int (nI i))]) dX2_countOf_25 (q := 3) rfl (nI_add _ _) (by decide) rfl ?_
          refine j_iinc (pc := 28) X (v := (nI (i + 1))) (lv' := [(4, .int (nI (i + 1))), (3, .int (nI (k + 1))), (0, .ref h), (1, .int (nI c)), (2, .int (nI v))]) dX2_countOf_28 (q := 4) rfl (nI_add _ _) (by decide) rfl ?_
          refine j_goto (pc := 31) X (tgt := 5) dX2_countOf_31 (by decide) ?_
          refine j_lv X (lv' := [(0, .ref h), (1, .int (nI c)), (2, .int (nI v)), (3, .int (nI (k + 1))), (4, .int (nI (i + 1)))]) [2, 3, 4, 1, 0] rfl ?_
          exact ih_5 (i + 1) (k + 1) (by omega) (cnt_t hk (by simpa using h22)) (by omega)
  refine j_lv X (lv' := [(0, .ref h), (1, .int (nI c)), (2, .int (nI v)), (3, .int (nI 0)), (4, .int (nI 0))]) [2, 3, 4, 1, 0] rfl ?_
  exact L_5 _ 0 0 (Nat.zero_le _) rfl (Nat.lt_succ_self _)
theorem cd_X2_countBoth : kCardV yX2_countBoth cX2_countBoth 7 (some .int) 4 := ⟨⟨wc_X2_countBoth, wi_X2, by decide +kernel, by decide +kernel, rfl⟩, wk_X2_countBoth, ws_X2_countBoth⟩
set_option maxHeartbeats 4000000 in
set_option maxRecDepth 100000 in
theorem c_X2_countBoth (l : Launch) (D : va_G) (tA : Nat → ClassId) (h q most cols : Nat) (t : Tb) (c v c2 v2 : Nat) (hm : most < 65536) (hz : most * cols < 65536) (ht : t.1 ≤ most) (hcl : cols < 65536) (hc : c < cols) (hb : ∀ r, r < t.1 → tGet cols t r c < 2 ^ 31) (hv : v < 2 ^ 31) (hc2 : c2 < cols) (hb2 : ∀ r, r < t.1 → tGet cols t r c2 < 2 ^ 31) (hv2 : v2 < 2 ^ 31) : Kx l D tA yX2_countBoth cX2_countBoth 7 (some .int) 1 23 [.ref h, .int (nI c), .int (nI v), .int (nI c2), .int (nI v2)] (tbW tA h q most cols t) (some (.int (nI (cntN (fun r => decide (tGet cols t r c = v ∧ tGet cols t r c2 = v2)) t.1)))) (tbW tA h q most cols t) := by
  refine kx_int rfl (Nat.le_of_ble_eq_true rfl) (fun G X E => ?_)
  show J l D G 0 0 (tbW tA h q most cols t) [(0, .ref h), (1, .int (nI c)), (2, .int (nI v)), (3, .int (nI c2)), (4, .int (nI v2))] 0 []
  refine j_iconst (pc := 0) X (v := (nI 0)) dX2_countBoth_0 (by decide) ?_
  refine j_istore (pc := 1) X (lv' := [(5, .int (nI 0)), (0, .ref h), (1, .int (nI c)), (2, .int (nI v)), (3, .int (nI c2)), (4, .int (nI v2))]) dX2_countBoth_1 (by decide) rfl ?_
  refine j_iconst (pc := 3) X (v := (nI 0)) dX2_countBoth_3 (by decide) ?_
  refine j_istore (pc := 4) X (lv' := [(6, .int (nI 0)), (5, .int (nI 0)), (0, .ref h), (1, .int (nI c)), (2, .int (nI v)), (3, .int (nI c2)), (4, .int (nI v2))]) dX2_countBoth_4 (by decide) rfl ?_
  have L_6 : ∀ (fu : Nat) (i k : Nat), i ≤ t.1 → k = cntN (fun r => decide (tGet cols t r c = v ∧ tGet cols t r c2 = v2)) i → t.1 - i < fu → J l D G 0 0 (tbW tA h q most cols t) [(0, .ref h), (1, .int (nI c)), (2, .int (nI v)), (3, .int (nI c2)), (4, .int (nI v2)), (5, .int (nI k)), (6, .int (nI i))] 6 [] := by
    intro fu
    induction fu with
    | zero => intro i k hi hk hfu; exact absurd hfu (Nat.not_lt_zero _)
    | succ fu ih_6 =>
      intro i k hi hk hfu
      refine j_iload (pc := 6) X dX2_countBoth_6 (q := 6) rfl ?_
      refine j_aload_n (pc := 8) X dX2_countBoth_8 rfl (q := 0) rfl ?_
      refine j_get (pc := 9) X (C := RX2) (T := TX2) (N := 4) wz_X2 0 rfl rfl 3 (by decide) wf_X2_28 rfl dX2_countBoth_9 ?_
      refine j_icmp_ge (pc := 12) X (tgt := 47) (P := t.1 ≤ i) dX2_countBoth_12 (by decide) (nI_leI (by omega) (by omega)) (fun h12 => ?_) (fun h12 => ?_)
      · skip
        refine j_iload (pc := 47) X dX2_countBoth_47 (q := 5) rfl ?_
        exact j_endI (pc := 49) E dX2_countBoth_49 (by rw [hk, show i = t.1 by omega]) rfl
      · skip
        refine j_aload_n (pc := 15) X dX2_countBoth_15 rfl (q := 0) rfl ?_
        refine j_iload (pc := 16) X dX2_countBoth_16 (q := 6) rfl ?_
        refine j_iload_n (pc := 18) X dX2_countBoth_18 rfl (q := 1) rfl ?_
        refine j_callVR (pc := 19) X (st := [])  (c_X2_get l D tA h q most cols t i c hm hz ht (show i < t.1 by omega) hc hcl) cd_X2_get wm_X2_31 0 rfl rfl rfl [0, 1] rfl rfl ⟨Nat.le_of_ble_eq_true rfl, Nat.le_of_ble_eq_true rfl⟩ ⟨Nat.zero_le _, Nat.zero_le _⟩ rfl (Nat.le_of_ble_eq_true rfl) dX2_countBoth_19 ?_
        have hbi := hb i (by omega)
        refine j_iload_n (pc := 22) X dX2_countBoth_22 rfl (q := 2) rfl ?_
        refine j_icmp_ne (pc := 23) X (tgt := 41) (P := ¬ (tGet cols t i c) = v) dX2_countBoth_23 (by decide) (not_congr (nI_eq (by omega) (by omega))) (fun h23 => ?_) (fun h23 => ?_)
        · skip
          refine j_iinc (pc := 41) X (v := (nI (i + 1))) (lv' := [(6, .int (nI (i + 1))), (0, .ref h), (1, .int (nI c)), (2, .int (nI v)), (3, .int (nI c2)), (4, .int (nI v2)), (5, .int (nI k))]) dX2_countBoth_41 (q := 6) rfl (nI_add _ _) (by decide) rfl ?_
          refine j_goto (pc := 44) X (tgt := 6) dX2_countBoth_44 (by decide) ?_
          refine j_lv X (lv' := [(0, .ref h), (1, .int (nI c)), (2, .int (nI v)), (3, .int (nI c2)), (4, .int (nI v2)), (5, .int (nI k)), (6, .int (nI (i + 1)))]) [1, 2, 3, 4, 5, 6, 0] rfl ?_
          exact ih_6 (i + 1) k (by omega) (cnt_f hk (by simp only [decide_eq_true_eq]; exact fun q => h23 q.1)) (by omega)
        · skip
          refine j_aload_n (pc := 26) X dX2_countBoth_26 rfl (q := 0) rfl ?_
          refine j_iload (pc := 27) X dX2_countBoth_27 (q := 6) rfl ?_
          refine j_iload_n (pc := 29) X dX2_countBoth_29 rfl (q := 3) rfl ?_
          refine j_callVR (pc := 30) X (st := [])  (c_X2_get l D tA h q most cols t i c2 hm hz ht (show i < t.1 by omega) hc2 hcl) cd_X2_get wm_X2_31 0 rfl rfl rfl [0, 1] rfl rfl ⟨Nat.le_of_ble_eq_true rfl, Nat.le_of_ble_eq_true rfl⟩ ⟨Nat.zero_le _, Nat.zero_le _⟩ rfl (Nat.le_of_ble_eq_true rfl) dX2_countBoth_30 ?_
          have hbi2 := hb2 i (by omega)
          refine j_iload (pc := 33) X dX2_countBoth_33 (q := 4) rfl ?_
          refine j_icmp_ne (pc := 35) X (tgt := 41) (P := ¬ (tGet cols t i c2) = v2) dX2_countBoth_35 (by decide) (not_congr (nI_eq (by omega) (by omega))) (fun h35 => ?_) (fun h35 => ?_)
          · skip
            refine j_iinc (pc := 41) X (v := (nI (i + 1))) (lv' := [(6, .int (nI (i + 1))), (0, .ref h), (1, .int (nI c)), (2, .int (nI v)), (3, .int (nI c2)), (4, .int (nI v2)), (5, .int (nI k))]) dX2_countBoth_41 (q := 6) rfl (nI_add _ _) (by decide) rfl ?_
            refine j_goto (pc := 44) X (tgt := 6) dX2_countBoth_44 (by decide) ?_
            refine j_lv X (lv' := [(0, .ref h), (1, .int (nI c)), (2, .int (nI v)), (3, .int (nI c2)), (4, .int (nI v2)), (5, .int (nI k)), (6, .int (nI (i + 1)))]) [1, 2, 3, 4, 5, 6, 0] rfl ?_
            exact ih_6 (i + 1) k (by omega) (cnt_f hk (by simp only [decide_eq_true_eq]; exact fun q => h35 q.2)) (by omega)
          · skip
            refine j_iinc (pc := 38) X (v := (nI (k + 1))) (lv' := [(5, .int (nI (k + 1))), (0, .ref h), (1, .int (nI c)), (2, .int (nI v)), (3, .int (nI c2)), (4, .int (nI v2)), (6, .int (nI i))]) dX2_countBoth_38 (q := 5) rfl (nI_add _ _) (by decide) rfl ?_
            refine j_iinc (pc := 41) X (v := (nI (i + 1))) (lv' := [(6, .int (nI (i + 1))), (5, .int (nI (k + 1))), (0, .ref h), (1, .int (nI c)), (2, .int (nI v)), (3, .int (nI c2)), (4, .int (nI v2))]) dX2_countBoth_41 (q := 6) rfl (nI_add _ _) (by decide) rfl ?_
            refine j_goto (pc := 44) X (tgt := 6) dX2_countBoth_44 (by decide) ?_
            refine j_lv X (lv' := [(0, .ref h), (1, .int (nI c)), (2, .int (nI v)), (3, .int (nI c2)), (4, .int (nI v2)), (5, .int (nI (k + 1))), (6, .int (nI (i + 1)))]) [2, 3, 4, 5, 6, 1, 0] rfl ?_
            exact ih_6 (i + 1) (k + 1) (by omega) (cnt_t hk (by simp only [decide_eq_true_eq]; exact ⟨Decidable.not_not.mp h23, Decidable.not_not.mp h35⟩)) (by omega)
  refine j_lv X (lv' := [(0, .ref h), (1, .int (nI c)), (2, .int (nI v)), (3, .int (nI c2)), (4, .int (nI v2)), (5, .int (nI 0)), (6, .int (nI 0))]) [2, 3, 4, 5, 6, 1, 0] rfl ?_
  exact L_6 _ 0 0 (Nat.zero_le _) rfl (Nat.lt_succ_self _)
theorem cd_X2_sumOf : kCardV yX2_sumOf cX2_sumOf 4 (some .int) 1 := ⟨⟨wc_X2_sumOf, wi_X2, by decide +kernel, by decide +kernel, rfl⟩, wk_X2_sumOf, ws_X2_sumOf⟩
set_option maxHeartbeats 4000000 in
set_option maxRecDepth 100000 in
theorem c_X2_sumOf (l : Launch) (D : va_G) (tA : Nat → ClassId) (h q most cols : Nat) (t : Tb) (c : Nat) (hm : most < 65536) (hz : most * cols < 65536) (ht : t.1 ≤ most) (hcl : cols < 65536) (hc : c < cols) : Kx l D tA yX2_sumOf cX2_sumOf 4 (some .int) 1 23 [.ref h, .int (nI c)] (tbW tA h q most cols t) (some (.int (nI (sumN (fun r => tGet cols t r c) t.1)))) (tbW tA h q most cols t) := by
  refine kx_int rfl (Nat.le_of_ble_eq_true rfl) (fun G X E => ?_)
  show J l D G 0 0 (tbW tA h q most cols t) [(0, .ref h), (1, .int (nI c))] 0 []
  refine j_iconst (pc := 0) X (v := (nI 0)) dX2_sumOf_0 (by decide) ?_
  refine j_istore_n (pc := 1) X (lv' := [(2, .int (nI 0)), (0, .ref h), (1, .int (nI c))]) dX2_sumOf_1 rfl (by decide) rfl ?_
  refine j_iconst (pc := 2) X (v := (nI 0)) dX2_sumOf_2 (by decide) ?_
  refine j_istore_n (pc := 3) X (lv' := [(3, .int (nI 0)), (2, .int (nI 0)), (0, .ref h), (1, .int (nI c))]) dX2_sumOf_3 rfl (by decide) rfl ?_
  have L_4 : ∀ (fu : Nat) (i k : Nat), i ≤ t.1 → k = sumN (fun r => tGet cols t r c) i → t.1 - i < fu → J l D G 0 0 (tbW tA h q most cols t) [(0, .ref h), (1, .int (nI c)), (2, .int (nI k)), (3, .int (nI i))] 4 [] := by
    intro fu
    induction fu with
    | zero => intro i k hi hk hfu; exact absurd hfu (Nat.not_lt_zero _)
    | succ fu ih_4 =>
      intro i k hi hk hfu
      refine j_iload_n (pc := 4) X dX2_sumOf_4 rfl (q := 3) rfl ?_
      refine j_aload_n (pc := 5) X dX2_sumOf_5 rfl (q := 0) rfl ?_
      refine j_get (pc := 6) X (C := RX2) (T := TX2) (N := 4) wz_X2 0 rfl rfl 3 (by decide) wf_X2_28 rfl dX2_sumOf_6 ?_
      refine j_icmp_ge (pc := 9) X (tgt := 27) (P := t.1 ≤ i) dX2_sumOf_9 (by decide) (nI_leI (by omega) (by omega)) (fun h9 => ?_) (fun h9 => ?_)
      · skip
        refine j_iload_n (pc := 27) X dX2_sumOf_27 rfl (q := 2) rfl ?_
        exact j_endI (pc := 28) E dX2_sumOf_28 (by rw [hk, show i = t.1 by omega]) rfl
      · skip
        refine j_iload_n (pc := 12) X dX2_sumOf_12 rfl (q := 2) rfl ?_
        refine j_aload_n (pc := 13) X dX2_sumOf_13 rfl (q := 0) rfl ?_
        refine j_iload_n (pc := 14) X dX2_sumOf_14 rfl (q := 3) rfl ?_
        refine j_iload_n (pc := 15) X dX2_sumOf_15 rfl (q := 1) rfl ?_
        refine j_callVR (pc := 16) X (st := [.int (nI k)])  (c_X2_get l D tA h q most cols t i c hm hz ht (show i < t.1 by omega) hc hcl) cd_X2_get wm_X2_31 0 rfl rfl rfl [0, 1] rfl rfl ⟨Nat.le_of_ble_eq_true rfl, Nat.le_of_ble_eq_true rfl⟩ ⟨Nat.zero_le _, Nat.zero_le _⟩ rfl (Nat.le_of_ble_eq_true rfl) dX2_sumOf_16 ?_
        refine j_iadd (pc := 19) X (v := (nI (k + (tGet cols t i c)))) dX2_sumOf_19 (nI_add _ _) ?_
        refine j_istore_n (pc := 20) X (lv' := [(2, .int (nI (k + (tGet cols t i c)))), (0, .ref h), (1, .int (nI c)), (3, .int (nI i))]) dX2_sumOf_20 rfl (by decide) rfl ?_
        refine j_iinc (pc := 21) X (v := (nI (i + 1))) (lv' := [(3, .int (nI (i + 1))), (2, .int (nI (k + (tGet cols t i c)))), (0, .ref h), (1, .int (nI c))]) dX2_sumOf_21 (q := 3) rfl (nI_add _ _) (by decide) rfl ?_
        refine j_goto (pc := 24) X (tgt := 4) dX2_sumOf_24 (by decide) ?_
        refine j_lv X (lv' := [(0, .ref h), (1, .int (nI c)), (2, .int (nI (k + (tGet cols t i c)))), (3, .int (nI (i + 1)))]) [2, 3, 1, 0] rfl ?_
        exact ih_4 (i + 1) (k + tGet cols t i c) (by omega) (by rw [hk]; rfl) (by omega)
  refine j_lv X (lv' := [(0, .ref h), (1, .int (nI c)), (2, .int (nI 0)), (3, .int (nI 0))]) [2, 3, 1, 0] rfl ?_
  exact L_4 _ 0 0 (Nat.zero_le _) rfl (Nat.lt_succ_self _)
theorem cd_X2_copyFrom : kCardV yX2_copyFrom cX2_copyFrom 2 none 1 := ⟨⟨wc_X2_copyFrom, wi_X2, by decide +kernel, by decide +kernel, rfl⟩, wk_X2_copyFrom, ws_X2_copyFrom⟩
set_option maxHeartbeats 4000000 in
set_option maxRecDepth 100000 in
theorem c_X2_copyFrom (l : Launch) (D : va_G) (tA : Nat → ClassId) (h q most cols : Nat) (t : Tb) (h2 q2 : Nat) (t2 : Tb) (hm : most < 65536) (hz : most * cols < 65536) (ht : t.1 ≤ most) (ht2 : t2.1 ≤ most) : Kx l D tA yX2_copyFrom cX2_copyFrom 2 none 1 18 [.ref h, .ref h2] (tbW tA h q most cols t ++ tbW tA h2 q2 most cols t2) none (tbW tA h q most cols t2 ++ tbW tA h2 q2 most cols t2) := by
  refine kx_void rfl (Nat.le_of_ble_eq_true rfl) (fun G X E => ?_)
  show J l D G 0 0 (tbW tA h q most cols t ++ tbW tA h2 q2 most cols t2) [(0, .ref h), (1, .ref h2)] 0 []
  refine j_aload_n (pc := 0) X dX2_copyFrom_0 rfl (q := 0) rfl ?_
  refine j_aload_n (pc := 1) X dX2_copyFrom_1 rfl (q := 1) rfl ?_
  refine j_get (pc := 2) X (C := RX2) (T := TX2) (N := 4) wz_X2 2 rfl rfl 3 (by decide) wf_X2_28 rfl dX2_copyFrom_2 ?_
  refine j_aload_n (pc := 5) X dX2_copyFrom_5 rfl (q := 0) rfl ?_
  refine j_get (pc := 6) X (C := RX2) (T := TX2) (N := 4) wz_X2 0 rfl rfl 1 (by decide) wf_X2_9 rfl dX2_copyFrom_6 ?_
  refine j_mmin (pc := 9) X wm_X2_46 (Nat.le_of_ble_eq_true rfl) (Nat.le_of_ble_eq_true rfl) ⟨Nat.zero_le _, Nat.zero_le _⟩ (v := (nI t2.1)) (by rw [nI_min (by omega) (by omega), Nat.min_eq_left ht2]) dX2_copyFrom_9 ?_
  refine j_put (pc := 12) X (C := RX2) (T := TX2) (N := 4) wz_X2 tyX2 tyX2_ok nmX2 0 rfl rfl 3 (by decide) wf_X2_28 rfl rfl rfl (Nat.le_of_ble_eq_true rfl) (w' := (tbW tA h q most cols (t2.1, t.2) ++ tbW tA h2 q2 most cols t2)) rfl dX2_copyFrom_12 ?_
  refine j_aload_n (pc := 15) X dX2_copyFrom_15 rfl (q := 1) rfl ?_
  refine j_get (pc := 16) X (C := RX2) (T := TX2) (N := 4) wz_X2 2 rfl rfl 0 (by decide) wf_X2_24 rfl dX2_copyFrom_16 ?_
  refine j_iconst (pc := 19) X (v := (nI 0)) dX2_copyFrom_19 (by decide) ?_
  refine j_aload_n (pc := 20) X dX2_copyFrom_20 rfl (q := 0) rfl ?_
  refine j_get (pc := 21) X (C := RX2) (T := TX2) (N := 4) wz_X2 0 rfl rfl 0 (by decide) wf_X2_24 rfl dX2_copyFrom_21 ?_
  refine j_iconst (pc := 24) X (v := (nI 0)) dX2_copyFrom_24 (by decide) ?_
  refine j_aload_n (pc := 25) X dX2_copyFrom_25 rfl (q := 1) rfl ?_
  refine j_get (pc := 26) X (C := RX2) (T := TX2) (N := 4) wz_X2 2 rfl rfl 0 (by decide) wf_X2_24 rfl dX2_copyFrom_26 ?_
  refine j_alen (pc := 29) X 3 0 rfl rfl dX2_copyFrom_29 ?_
  refine j_aload_n (pc := 30) X dX2_copyFrom_30 rfl (q := 0) rfl ?_
  refine j_get (pc := 31) X (C := RX2) (T := TX2) (N := 4) wz_X2 0 rfl rfl 0 (by decide) wf_X2_24 rfl dX2_copyFrom_31 ?_
  refine j_alen (pc := 34) X 1 0 rfl rfl dX2_copyFrom_34 ?_
  refine j_mmin (pc := 35) X wm_X2_46 (Nat.le_of_ble_eq_true rfl) (Nat.le_of_ble_eq_true rfl) ⟨Nat.zero_le _, Nat.zero_le _⟩ (v := (nI (most * cols))) (by rw [nI_min (by omega) (by omega), Nat.min_self]) dX2_copyFrom_35 ?_
  refine j_copy (pc := 38) X 3 1 rfl rfl (by omega) wm_X2_49 (Nat.le_of_ble_eq_true rfl) (Nat.le_of_ble_eq_true rfl) (w' := (tbW tA h q most cols (t2.1, t2.2) ++ tbW tA h2 q2 most cols t2)) rfl dX2_copyFrom_38 ?_
  exact j_endV (pc := 41) E dX2_copyFrom_41 rfl
