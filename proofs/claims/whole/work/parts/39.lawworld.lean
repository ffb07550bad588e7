/-! the law's world: eight blocks, and their order -/
theorem blk_perm (l : List va_W) (is js : List Nat) (h : is.Perm js) : ((is.map (fun i => l.getD i [])).flatten).Perm ((js.map (fun i => l.getD i [])).flatten) := (h.map _).flatten
theorem perm8 (b0 b1 b2 b3 b4 b5 b6 b7 : va_W) (js : List Nat) (h : (List.range 8).Perm js) {w' : va_W} (hw : (js.map (fun i => [b0, b1, b2, b3, b4, b5, b6, b7].getD i [])).flatten = w') : (b0 ++ (b1 ++ (b2 ++ (b3 ++ (b4 ++ (b5 ++ (b6 ++ b7))))))).Perm w' := by
  have e := blk_perm [b0, b1, b2, b3, b4, b5, b6, b7] (List.range 8) js h
  rw [hw] at e
  have e0 : ((List.range 8).map (fun i => [b0, b1, b2, b3, b4, b5, b6, b7].getD i [])).flatten = b0 ++ (b1 ++ (b2 ++ (b3 ++ (b4 ++ (b5 ++ (b6 ++ b7)))))) := by
    show b0 ++ (b1 ++ (b2 ++ (b3 ++ (b4 ++ (b5 ++ (b6 ++ (b7 ++ []))))))) = _
    rw [List.append_nil]
  rw [e0] at e
  exact e
/-- the club's and the state's and the ring's blocks stand last -/
theorem perm8_a (b0 b1 b2 b3 b4 b5 b6 b7 : va_W) : (b0 ++ (b1 ++ (b2 ++ (b3 ++ (b4 ++ (b5 ++ (b6 ++ b7))))))).Perm ((b2 ++ (b3 ++ (b5 ++ (b6 ++ b7)))) ++ (b0 ++ (b1 ++ b4))) :=
  perm8 b0 b1 b2 b3 b4 b5 b6 b7 [2, 3, 5, 6, 7, 0, 1, 4] (by decide) (by
    show b2 ++ (b3 ++ (b5 ++ (b6 ++ (b7 ++ (b0 ++ (b1 ++ (b4 ++ []))))))) = _
    rw [List.append_nil]
    simp only [List.append_assoc])
def txC (tA : Nat → ClassId) (m T : Nat → Nat) : va_W := [(m 2, .inl (tA 0, 60, .inl (nF T)))]
def lawW (tA : Nat → ClassId) (c : Nat) (a b f h x m : Nat → Nat) (d : Nat → Nat → Nat) (s sn s3 : Sg) (v : Hs) (kp : Bool) (len : Nat) (ch : Nat → Nat) (p : Nat) (t : Tb) (T : Nat → Nat) (y : MX) : va_W :=
  clW c a b f h x kp ++ (stW tA a s ++ (stW tA b sn ++ (stW tA f s3 ++ (hsW tA h d v ++ (txW tA x ch len p t ++ (mW tA m v.2.2 kp len y ++ txC tA m T))))))
def LInv (s sn s3 : Sg) (v : Hs) (kp : Bool) (len : Nat) (ch : Nat → Nat) (p : Nat) (t : Tb) (T : Nat → Nat) (y : MX) : Prop :=
  RelM s sn v kp y.1 ∧ Wf sn ∧ Wf s3 ∧ (∀ i, Wf (v.1 i)) ∧ len ≤ 60 ∧ (∀ j, ch j < 65536) ∧ p ≤ 60 ∧ t.1 ≤ 15 ∧ (∀ j, j < len → T j = ch j)
theorem hh_push {s : Sg} {v : Hs} (hh : ∀ i, Wf (v.1 i)) (hw : Wf s) (o : Option Sg) : ∀ i, Wf ((aH v s o).1 i) := by
  cases o with
  | none => exact hh
  | some s' =>
    intro i
    show Wf (va_up v.1 v.2.1 s i)
    by_cases q : i = v.2.1
    · rw [q, up_same]; exact hw
    · rw [up_ne _ _ q]; exact hh i
section
variable {l : Launch} {D : va_G} {tA : Nat → ClassId} {G : kCx} {cc : ByteArray} {nL : Nat} {own : String} {fr lo n k : Nat} {w : va_W} {lv : List (Nat × Value)} {pc : Nat} {st : List Value}
theorem j_sld (X : kX D tA G cc nL own fr lo) {b L : Nat} {xs : Nat → Int32} (hX : va_X b L xs (gs G) (gs G).heap) (hbl : b < (gs G).heap.size) (hbA : ¬ gA G b) {i : Nat} (hi : i < L) (hL : L < 65536) (hdg : decode cc pc = .ok (.iaload, 1)) (kk : J l D G n k w lv (pc + 1) (.int (xs i) :: st)) : J l D G n k w lv pc (.int (nI i) :: .ref b :: st) :=
  fun H locs ls hP hD hS hl => va_sld X.1 X.2.1 hX hbl hbA hS (vp_in_nI hi (by omega)) hdg (by rw [nI_clamp (by omega)]; exact kk H locs ls hP hD hS hl)
theorem j_slen (X : kX D tA G cc nL own fr lo) {b L : Nat} {xs : Nat → Int32} (hX : va_X b L xs (gs G) (gs G).heap) (hbl : b < (gs G).heap.size) (hbA : ¬ gA G b) (hdg : decode cc pc = .ok (.arraylength, 1)) (kk : J l D G n k w lv (pc + 1) (.int (nI L) :: st)) : J l D G n k w lv pc (.ref b :: st) :=
  fun H locs ls hP hD hS hl => va_slen X.1 X.2.1 hX hbl hbA hS hdg (kk H locs ls hP hD hS hl)
end
