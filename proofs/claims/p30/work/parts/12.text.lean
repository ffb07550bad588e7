theorem j_top {l : Launch} {D : va_G} {G : kCx} {n k : Nat} {w : va_W} {lv : List (Nat × Value)} {pc : Nat} {st : List Value} {v v' : Int32} (h : v = v') (kk : J l D G n k w lv pc (.int v' :: st)) : J l D G n k w lv pc (.int v :: st) := h ▸ kk
def txW (tA : Nat → ClassId) (x : Nat → Nat) (c : Nat → Nat) (len p : Nat) (t : Tb) : va_W :=
  [(x 0, .inr (3, [.ref (x 1), .int (nI len), .int (nI p), .ref (x 2)])), (x 1, .inl (tA 1, 60, .inl (nF c))), (x 2, .inr (2, [.ref (x 3), .int (nI 15), .int (nI 2), .int (nI t.1)])), (x 3, .inl (tA 0, 15 * 2, .inl (nF t.2)))]
theorem tx_fst {tA : Nat → ClassId} {x : Nat → Nat} {c : Nat → Nat} {len p : Nat} {t : Tb} : (txW tA x c len p t).map Prod.fst = [x 0, x 1, x 2, x 3] := rfl
theorem cd_X3_length : kCardV yX3_length cX3_length 1 (some .int) 0 := ⟨⟨wc_X3_length, wi_X3, by decide +kernel, by decide +kernel, rfl⟩, wk_X3_length, ws_X3_length⟩
set_option maxHeartbeats 4000000 in
set_option maxRecDepth 100000 in
theorem c_X3_length (l : Launch) (D : va_G) (tA : Nat → ClassId) (x : Nat → Nat) (c : Nat → Nat) (len p : Nat) (t : Tb)   : Kx l D tA yX3_length cX3_length 1 (some .int) 0 0 [.ref (x 0)] (txW tA x c len p t) (some (.int (nI len))) (txW tA x c len p t) := by
  refine kx_int rfl (Nat.le_of_ble_eq_true rfl) (fun G X E => ?_)
  show J l D G 0 0 (txW tA x c len p t) [(0, .ref (x 0))] 0 []
  refine j_aload_n (pc := 0) X dX3_length_0 rfl (q := 0) rfl ?_
  refine j_get (pc := 1) X (C := RX3) (T := TX3) (N := 4) wz_X3 0 rfl rfl 1 (by decide) wf_X3_24 rfl dX3_length_1 ?_
  exact j_endI (pc := 4) E dX3_length_4 rfl rfl
