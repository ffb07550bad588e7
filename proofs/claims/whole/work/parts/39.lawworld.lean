/-! the law's world: eight blocks, and their order -/
theorem blk_perm (l : List va_W) (is js : List Nat) (h : is.Perm js) : ((is.map (fun i => l.getD i [])).flatten).Perm ((js.map (fun i => l.getD i [])).flatten) := (h.map _).flatten
theorem perm8 (b0 b1 b2 b3 b4 b5 b6 b7 : va_W) (js : List Nat) (h : (List.range 8).Perm js) {w' : va_W} (hw : (js.map (fun i => [b0, b1, b2, b3, b4, b5, b6, b7].getD i [])).flatten = w') : (b0 ++ (b1 ++ (b2 ++ (b3 ++ (b4 ++ (b5 ++ (b6 ++ b7))))))).Perm w' := by
  have e := blk_perm [b0, b1, b2, b3, b4, b5, b6, b7] (List.range 8) js h
  rw [hw] at e
  have e0 : ((List.range 8).map (fun i => [b0, b1, b2, b3, b4, b5, b6, b7].getD i [])).flatten = b0 ++ (b1 ++ (b2 ++ (b3 ++ (b4 ++ (b5 ++ (b6 ++ b7)))))) := by
    show b0 ++ (b1 ++ (b2 ++ (b3 ++ (b4 ++ (b5 ++ (b6 ++ (b7 ++ []))))))) = _
    rw [List.append_nil]
  rw [e0] at e
  exact e
/-- the club's and the state's and the ring's blocks stand last -/
theorem perm8_a (b0 b1 b2 b3 b4 b5 b6 b7 : va_W) : (b0 ++ (b1 ++ (b2 ++ (b3 ++ (b4 ++ (b5 ++ (b6 ++ b7))))))).Perm ((b2 ++ (b3 ++ (b5 ++ (b6 ++ b7)))) ++ (b0 ++ (b1 ++ b4))) :=
  perm8 b0 b1 b2 b3 b4 b5 b6 b7 [2, 3, 5, 6, 7, 0, 1, 4] (by decide) (by
    show b2 ++ (b3 ++ (b5 ++ (b6 ++ (b7 ++ (b0 ++ (b1 ++ (b4 ++ []))))))) = _
    rw [List.append_nil]
    simp only [List.append_assoc])
