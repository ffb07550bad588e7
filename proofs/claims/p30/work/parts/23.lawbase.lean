theorem wq_L_7 : Cond.constant RL 7 2147483647 ∈ kALL := kin2 164 rfl rfl
theorem wq_L_8 : Cond.constantLong RL 8 61 ∈ kALL := kin2 168 rfl rfl
theorem wq_L_10 : Cond.constantLong RL 10 31 ∈ kALL := kin2 169 rfl rfl
section
variable {l : Launch} {D : va_G} {tA : Nat → ClassId} {G : kCx} {cc : ByteArray} {nL : Nat} {own : String} {fr lo n k : Nat} {w : va_W} {lv : List (Nat × Value)} {pc : Nat} {st : List Value}
theorem j_ldc (X : kX D tA G cc nL own fr lo) {index : Nat} {v : Int32} (hc : Cond.constant own index v ∈ kALL) (hdg : decode cc pc = .ok (.ldc index, 2)) (kk : J l D G n k w lv (pc + 2) (.int v :: st)) : J l D G n k w lv pc st :=
  fun H locs ls hP hD hS hl => lv_ldc X.1 X.2.1 X.2.2.2.1 (X.2.2.2.2.1 _ hc) hdg (kk H locs ls hP hD hS hl)
theorem j_ldc2 (X : kX D tA G cc nL own fr lo) {index : Nat} {v : Int64} (hc : Cond.constantLong own index v ∈ kALL) (hdg : decode cc pc = .ok (.ldc2_w index, 3)) (kk : J l D G n k w lv (pc + 3) (.long v :: st)) : J l D G n k w lv pc st :=
  fun H locs ls hP hD hS hl => lv_ldc2 X.1 X.2.1 X.2.2.2.1 (X.2.2.2.2.1 _ hc) hdg (kk H locs ls hP hD hS hl)
theorem j_lload_n (X : kX D tA G cc nL own fr lo) {kk0 : Fin 4} {i : Nat} {x : Int64} (hdg : decode cc pc = .ok (.lload_n kk0, 1)) (hi : (kk0 : Nat) = i) {q : Nat} (hk : lv[q]? = some (i, .long x)) (kk : J l D G n k w lv (pc + 1) (.long x :: st)) : J l D G n k w lv pc st :=
  fun H locs ls hP hD hS hl => lv_lload_n X.1 X.2.1 hdg hi (lv_at hl q hk) (kk H locs ls hP hD hS hl)
theorem j_lload (X : kX D tA G cc nL own fr lo) {i : Nat} {x : Int64} (hdg : decode cc pc = .ok (.lload i, 2)) {q : Nat} (hk : lv[q]? = some (i, .long x)) (kk : J l D G n k w lv (pc + 2) (.long x :: st)) : J l D G n k w lv pc st :=
  fun H locs ls hP hD hS hl => lv_lload X.1 X.2.1 hdg (lv_at hl q hk) (kk H locs ls hP hD hS hl)
theorem j_lstore_n (X : kX D tA G cc nL own fr lo) {kk0 : Fin 4} {i : Nat} {x : Int64} {lv' : List (Nat × Value)} (hdg : decode cc pc = .ok (.lstore_n kk0, 1)) (hi : (kk0 : Nat) = i) (hn : i + 1 < nL) (hl' : (i, Value.long x) :: lv.filter (fun q => !(q.1 == i) && (!(q.1 == i + 1) && !(q.1 + 1 == i && q.2.category == 2))) = lv') (kk : J l D G n k w lv' (pc + 1) st) : J l D G n k w lv pc (.long x :: st) :=
  fun H locs ls hP hD hS hl => lv_lstore_n X.1 X.2.1 hdg hi hl (by rw [X.2.2.1]; exact hn) hl' (fun ls hl => kk H locs ls hP hD hS hl)
theorem j_lstore (X : kX D tA G cc nL own fr lo) {i : Nat} {x : Int64} {lv' : List (Nat × Value)} (hdg : decode cc pc = .ok (.lstore i, 2)) (hn : i + 1 < nL) (hl' : (i, Value.long x) :: lv.filter (fun q => !(q.1 == i) && (!(q.1 == i + 1) && !(q.1 + 1 == i && q.2.category == 2))) = lv') (kk : J l D G n k w lv' (pc + 2) st) : J l D G n k w lv pc (.long x :: st) :=
  fun H locs ls hP hD hS hl => lv_lstore X.1 X.2.1 hdg hl (by rw [X.2.2.1]; exact hn) hl' (fun ls hl => kk H locs ls hP hD hS hl)
theorem j_lmul (X : kX D tA G cc nL own fr lo) {x y v : Int64} (hdg : decode cc pc = .ok (.lmul, 1)) (hv : x * y = v) (kk : J l D G n k w lv (pc + 1) (.long v :: st)) : J l D G n k w lv pc (.long y :: .long x :: st) :=
  fun H locs ls hP hD hS hl => lv_lmul X.1 X.2.1 hdg (by rw [hv]; exact kk H locs ls hP hD hS hl)
theorem j_ladd (X : kX D tA G cc nL own fr lo) {x y v : Int64} (hdg : decode cc pc = .ok (.ladd, 1)) (hv : x + y = v) (kk : J l D G n k w lv (pc + 1) (.long v :: st)) : J l D G n k w lv pc (.long y :: .long x :: st) :=
  fun H locs ls hP hD hS hl => lv_ladd X.1 X.2.1 hdg (by rw [hv]; exact kk H locs ls hP hD hS hl)
theorem j_i2l (X : kX D tA G cc nL own fr lo) {x : Int32} {v : Int64} (hdg : decode cc pc = .ok (.i2l, 1)) (hv : x.toInt64 = v) (kk : J l D G n k w lv (pc + 1) (.long v :: st)) : J l D G n k w lv pc (.int x :: st) :=
  fun H locs ls hP hD hS hl => lv_i2l X.1 X.2.1 hdg hv (kk H locs ls hP hD hS hl)
theorem j_lcmp (X : kX D tA G cc nL own fr lo) {x y : Int64} (hdg : decode cc pc = .ok (.lcmp, 1)) (kk : J l D G n k w lv (pc + 1) (.int (lg_cmp x y) :: st)) : J l D G n k w lv pc (.long y :: .long x :: st) :=
  fun H locs ls hP hD hS hl => W.lcmp X.1 X.2.1 hdg (kk H locs ls hP hD hS hl)
theorem j_ishr (X : kX D tA G cc nL own fr lo) {x y v : Int32} (hdg : decode cc pc = .ok (.ishr, 1)) (hv : x >>> (y &&& 31) = v) (kk : J l D G n k w lv (pc + 1) (.int v :: st)) : J l D G n k w lv pc (.int y :: .int x :: st) :=
  fun H locs ls hP hD hS hl => lv_ishr X.1 X.2.1 hdg (by rw [hv]; exact kk H locs ls hP hD hS hl)
theorem j_val {v v' : Value} (h : v = v') (kk : J l D G n k w lv pc (v' :: st)) : J l D G n k w lv pc (v :: st) := h ▸ kk
end
theorem kx_long {l : Launch} {D : va_G} {tA : Nat → ClassId} {y : MethodName} {cc : ByteArray} {nL : Nat} {fr lo : Nat} {av : List Value} {w : va_W} {r : Int64} {w' : va_W} (hy : plainName y.cls = true) (hn : (lg_sl av).length ≤ nL)
    (body : ∀ G : kCx, kX D tA G cc nL y.cls fr lo → kE l D G cc .lreturn (some (.long r)) w' → J l D G 0 0 w (lv_args 0 av) 0 []) : Kx l D tA y cc nL (some .long) fr lo av w (some (.long r)) w' :=
  kx_body .lreturn hy hn (fun p e R s m args below meth c A hx hb hr hlk H locs ls pc hdg hP hS => W.lret hx hb hr (fun t ht hW => ⟨⟨rfl, by rw [ht]; exact hP⟩, hS.F ht⟩) hS.2.2 hdg hlk) body
theorem j_endL {l : Launch} {D : va_G} {G : kCx} {cc : ByteArray} {w w0 : va_W} {lv : List (Nat × Value)} {pc : Nat} {r v : Int64} (E : kE l D G cc .lreturn (some (.long r)) w) (hdg : decode cc pc = .ok (.lreturn, 1)) (hr : r = v) (hw : w = w0) : J l D G 0 0 w0 lv pc [.long v] := by
  subst hr; subst hw; exact E lv pc hdg
theorem ndw (n : Nat) : va_nd (List.range' 0 n) = true := nd_range n 0
section
variable {l : Launch} {D : va_G} {tA : Nat → ClassId} {G : kCx} {cc : ByteArray} {nL : Nat} {own : String} {fr lo n k : Nat} {w : va_W} {lv : List (Nat × Value)} {pc : Nat} {st : List Value}
/-- a static method that gets the whole world -/
theorem j_cS (X : kX D tA G cc nL own fr lo) {y : MethodName} {bytes : ByteArray} {maxL : Nat} {ret : Option FieldType} {frc loc index : Nat} {As : List Value} {w' : va_W} {res : Option Value} {stk : List Value}
    (hM : Kx l D tA y bytes maxL ret frc loc As w res w') (hcd : kCardS y bytes maxL ret As.length) (hlink : Cond.methodLink own index y ∈ kALL) (hcls : y.cls = own) (hfc : w'.map Prod.fst = w.map Prod.fst)
    (hroom : frc + 1 ≤ fr ∧ 8 + (maxL + 11) + loc ≤ lo) (h0 : n ≤ (gR G).cells ∧ k ≤ (gR G).slots) (hstk : stk = As.reverse ++ st) (hcat : (st.map fun v => v.category).sum ≤ 8) (hdg : decode cc pc = .ok (.invokestatic index, 3))
    (kk : J l D G n k w' lv (pc + 3) (res.toList ++ st)) : J l D G n k w lv pc stk :=
  j_callS X hM hcd hlink hcls (List.range' 0 w.length) (suf_get (w0 := []) (wc := w)) (ndw _) hfc (kPlug_suf w w' [] (by simpa using congrArg List.length hfc)) hroom h0 hstk hcat hdg kk
/-- a static method that gets nothing of the world -/
theorem j_c0 (X : kX D tA G cc nL own fr lo) {y : MethodName} {bytes : ByteArray} {maxL : Nat} {ret : Option FieldType} {frc loc index : Nat} {As : List Value} {res : Option Value} {stk : List Value}
    (hM : Kx l D tA y bytes maxL ret frc loc As [] res []) (hcd : kCardS y bytes maxL ret As.length) (hlink : Cond.methodLink own index y ∈ kALL) (hcls : y.cls = own)
    (hroom : frc + 1 ≤ fr ∧ 8 + (maxL + 11) + loc ≤ lo) (h0 : n ≤ (gR G).cells ∧ k ≤ (gR G).slots) (hstk : stk = As.reverse ++ st) (hcat : (st.map fun v => v.category).sum ≤ 8) (hdg : decode cc pc = .ok (.invokestatic index, 3))
    (kk : J l D G n k w lv (pc + 3) (res.toList ++ st)) : J l D G n k w lv pc stk :=
  j_callSR X hM hcd hlink hcls [] rfl rfl hroom h0 hstk hcat hdg kk
theorem j_cSy (X : kX D tA G cc nL own fr lo) {y : MethodName} {bytes : ByteArray} {maxL : Nat} {ret : Option FieldType} {frc loc index : Nat} {As : List Value} {S : Type} {Pr : S → Prop} {res : S → Option Value} {wf : S → va_W} {stk : List Value}
    (hM : Ky l D tA y bytes maxL ret frc loc As w Pr res wf) (hcd : kCardS y bytes maxL ret As.length) (hlink : Cond.methodLink own index y ∈ kALL) (hcls : y.cls = own) (hfc : ∀ u, (wf u).map Prod.fst = w.map Prod.fst)
    (hroom : frc + 1 ≤ fr ∧ 8 + (maxL + 11) + loc ≤ lo) (h0 : n ≤ (gR G).cells ∧ k ≤ (gR G).slots) (hstk : stk = As.reverse ++ st) (hcat : (st.map fun v => v.category).sum ≤ 8) (hdg : decode cc pc = .ok (.invokestatic index, 3))
    (kk : ∀ u, Pr u → J l D G n k (wf u) lv (pc + 3) ((res u).toList ++ st)) : J l D G n k w lv pc stk := by
  subst hstk
  subst hcls
  intro H locs ls hP hD hS hl
  obtain ⟨hx, hb, hml, hown, hts, hK, hA, hR⟩ := X
  obtain ⟨⟨hcode, hini, hd⟩, hst⟩ := hcd
  have hC : (List.range' 0 w.length).map (fun i => w[i]?) = w.map some := suf_get (w0 := []) (wc := w)
  have hn := ndw w.length
  have hpre := kPre (av := As) hK hP hD _ hC hn
  refine k_cally (va_runS (As := As) (rest := st) (nL := (gc G).maxLocals) (own := y.cls) (Ts := kALL) (bytes := bytes) (maxL := maxL) (ret := ret) ⟨hx, hb, rfl, hown, hts⟩ (hM H.size) (cwS As.length hts (kGoodApp (fun z hz => ?_) (kGood hcode)) rfl rfl rfl ⟨rfl, hd⟩ ⟨Nat.le_trans hroom.1 hR.1, Nat.le_trans hroom.2 hR.2⟩) hpre rfl rfl hl.1 rfl (lv_room hcat) hdg h0) hS (fun q _ h => kFree hD hS hA _ hC q h) (kFree hD hS hA _ hC) (fun u H1 locs1 hu hP1 hk1 hS1 => ?_)
  · rcases List.mem_cons.mp hz with rfl | hz
    · exact ⟨hlink, good_of_word (kALL_good _ hlink)⟩
    rcases List.mem_cons.mp hz with rfl | hz
    · exact ⟨hst, good_of_word (kALL_good _ hst)⟩
    rcases List.mem_cons.mp hz with rfl | hz
    · exact ⟨hini, good_of_word (kALL_good _ hini)⟩
    · cases hz
  · exact kk u hu H1 locs1 ls hP1 (kD_same hD (hfc u)) hS1 hl
end
/-! the law's world: the club's six blocks -/
abbrev Ad : Type := Nat × (Nat → Nat) × (Nat → Nat) × (Nat → Nat) × (Nat → Nat) × (Nat → Nat) × (Nat → Nat → Nat)
def cuW (tA : Nat → ClassId) (g : Ad) (s sn s3 : Sg) (v : Hs) (kp : Bool) : va_W :=
  clW g.1 g.2.1 g.2.2.1 g.2.2.2.1 g.2.2.2.2.1 g.2.2.2.2.2.1 kp ++ (stW tA g.2.1 s ++ (stW tA g.2.2.1 sn ++ (stW tA g.2.2.2.1 s3 ++ (hsW tA g.2.2.2.2.1 g.2.2.2.2.2.2 v ++ txW tA g.2.2.2.2.2.1 (fun _ => 0) 0 0 z0))))
theorem cu_fst {tA : Nat → ClassId} {g : Ad} {s sn s3 s' sn' s3' : Sg} {v v' : Hs} {kp kp' : Bool} : (cuW tA g s' sn' s3' v' kp').map Prod.fst = (cuW tA g s sn s3 v kp).map Prod.fst := by
  unfold cuW
  simp only [List.map_append, st_fst, hs_fst, tx_fst]
  rfl
theorem perm6 (b0 b1 b2 b3 b4 b5 : va_W) (js : List Nat) (h : (List.range 6).Perm js) {w' : va_W} (hw : (js.map (fun i => [b0, b1, b2, b3, b4, b5].getD i [])).flatten = w') : (b0 ++ (b1 ++ (b2 ++ (b3 ++ (b4 ++ b5))))).Perm w' := by
  have e := blk_perm [b0, b1, b2, b3, b4, b5] (List.range 6) js h
  rw [hw] at e
  have e0 : ((List.range 6).map (fun i => [b0, b1, b2, b3, b4, b5].getD i [])).flatten = b0 ++ (b1 ++ (b2 ++ (b3 ++ (b4 ++ b5)))) := by
    show b0 ++ (b1 ++ (b2 ++ (b3 ++ (b4 ++ (b5 ++ []))))) = _
    rw [List.append_nil]
  rw [e0] at e
  exact e
theorem ps_a (b0 b1 b2 b3 b4 b5 : va_W) : (b0 ++ (b1 ++ (b2 ++ (b3 ++ (b4 ++ b5))))).Perm ((b2 ++ (b3 ++ (b5))) ++ (b0 ++ (b1 ++ (b4)))) :=
  perm6 b0 b1 b2 b3 b4 b5 [2, 3, 5, 0, 1, 4] (by decide) (by
    show b2 ++ (b3 ++ (b5 ++ (b0 ++ (b1 ++ (b4 ++ ([])))))) = _
    rw [List.append_nil]
    simp only [List.append_assoc])
theorem ps_b (b0 b1 b2 b3 b4 b5 : va_W) : (b0 ++ (b1 ++ (b2 ++ (b3 ++ (b4 ++ b5))))).Perm ((b2 ++ (b3 ++ (b4 ++ (b5)))) ++ (b0 ++ (b1))) :=
  perm6 b0 b1 b2 b3 b4 b5 [2, 3, 4, 5, 0, 1] (by decide) (by
    show b2 ++ (b3 ++ (b4 ++ (b5 ++ (b0 ++ (b1 ++ ([])))))) = _
    rw [List.append_nil]
    simp only [List.append_assoc])
theorem ps_c (b0 b1 b2 b3 b4 b5 : va_W) : (b0 ++ (b1 ++ (b2 ++ (b3 ++ (b4 ++ b5))))).Perm ((b1 ++ (b2 ++ (b3 ++ (b4 ++ (b5))))) ++ (b0)) :=
  perm6 b0 b1 b2 b3 b4 b5 [1, 2, 3, 4, 5, 0] (by decide) (by
    show b1 ++ (b2 ++ (b3 ++ (b4 ++ (b5 ++ (b0 ++ ([])))))) = _
    rw [List.append_nil]
    simp only [List.append_assoc])
theorem ps_e (b0 b1 b2 b3 b4 b5 : va_W) : (b0 ++ (b1 ++ (b2 ++ (b3 ++ (b4 ++ b5))))).Perm ((b2 ++ (b3)) ++ (b0 ++ (b1 ++ (b4 ++ (b5))))) :=
  perm6 b0 b1 b2 b3 b4 b5 [2, 3, 0, 1, 4, 5] (by decide) (by
    show b2 ++ (b3 ++ (b0 ++ (b1 ++ (b4 ++ (b5 ++ ([])))))) = _
    rw [List.append_nil]
    simp only [List.append_assoc])
theorem ps_f (b0 b1 b2 b3 b4 b5 : va_W) : (b0 ++ (b1 ++ (b2 ++ (b3 ++ (b4 ++ b5))))).Perm ((b3 ++ (b4 ++ (b5))) ++ (b0 ++ (b1 ++ (b2)))) :=
  perm6 b0 b1 b2 b3 b4 b5 [3, 4, 5, 0, 1, 2] (by decide) (by
    show b3 ++ (b4 ++ (b5 ++ (b0 ++ (b1 ++ (b2 ++ ([])))))) = _
    rw [List.append_nil]
    simp only [List.append_assoc])
theorem ps_g (b0 b1 b2 b3 b4 b5 : va_W) : (b0 ++ (b1 ++ (b2 ++ (b3 ++ (b4 ++ b5))))).Perm ((b3 ++ (b5)) ++ (b0 ++ (b1 ++ (b2 ++ (b4))))) :=
  perm6 b0 b1 b2 b3 b4 b5 [3, 5, 0, 1, 2, 4] (by decide) (by
    show b3 ++ (b5 ++ (b0 ++ (b1 ++ (b2 ++ (b4 ++ ([])))))) = _
    rw [List.append_nil]
    simp only [List.append_assoc])
theorem ps_h (b0 b1 b2 b3 b4 b5 : va_W) : (b0 ++ (b1 ++ (b2 ++ (b3 ++ (b4 ++ b5))))).Perm ((b2 ++ (b4 ++ (b5))) ++ (b0 ++ (b1 ++ (b3)))) :=
  perm6 b0 b1 b2 b3 b4 b5 [2, 4, 5, 0, 1, 3] (by decide) (by
    show b2 ++ (b4 ++ (b5 ++ (b0 ++ (b1 ++ (b3 ++ ([])))))) = _
    rw [List.append_nil]
    simp only [List.append_assoc])
def HOk (v : Hs) : Prop := v.2.1 < 4 ∧ v.2.2 ≤ 4 ∧ ∀ i, Wf (v.1 i)
section
variable {l : Launch} {D : va_G} {tA : Nat → ClassId} {G : kCx} {cc : ByteArray} {nL : Nat} {own : String} {fr lo n k : Nat} {lv : List (Nat × Value)} {pc : Nat} {st : List Value}
theorem q_bears (X : kX D tA G cc nL own fr lo) {g : Ad} {s sn s3 : Sg} {v : Hs} {kp : Bool} {index : Nat} {x1 x2 : Int32} {r : Int32} (hw : Wf s) (hr : oBears s x1 x2 = r) (hlink : Cond.methodLink own index yX4_bears ∈ kALL) (hroom : 2 + 1 ≤ fr ∧ 8 + (3 + 11) + 48 ≤ lo) (h0 : n ≤ (gR G).cells ∧ k ≤ (gR G).slots) (hcat : (st.map fun v => v.category).sum ≤ 8) (hdg : decode cc pc = .ok (.invokevirtual index, 3)) (kk : J l D G n k (cuW tA g s sn s3 v kp) lv (pc + 3) (.int r :: st)) : J l D G n k (cuW tA g s sn s3 v kp) lv pc (.int x2 :: .int x1 :: .ref g.1 :: st) := by
  subst hr
  refine j_lperm (ps_b _ _ _ _ _ _) ?_
  refine j_cxV X (As := [.int x1, .int x2]) (c_X4_bears l D tA g.1 g.2.1 g.2.2.1 g.2.2.2.1 g.2.2.2.2.1 g.2.2.2.2.2.1 kp s x1 x2 hw) cd_X4_bears hlink 0 rfl rfl rfl rfl hroom h0 rfl hcat hdg ?_
  exact j_lperm (ps_b _ _ _ _ _ _).symm kk
theorem q_machine (X : kX D tA G cc nL own fr lo) {g : Ad} {s sn s3 : Sg} {v : Hs} {kp : Bool} {index : Nat} {x1 x2 : Int32} {r : Int32} (hw : Wf s) (hr : oMachine s x1 x2 = r) (hlink : Cond.methodLink own index yX4_machine ∈ kALL) (hroom : 2 + 1 ≤ fr ∧ 8 + (3 + 11) + 49 ≤ lo) (h0 : n ≤ (gR G).cells ∧ k ≤ (gR G).slots) (hcat : (st.map fun v => v.category).sum ≤ 8) (hdg : decode cc pc = .ok (.invokevirtual index, 3)) (kk : J l D G n k (cuW tA g s sn s3 v kp) lv (pc + 3) (.int r :: st)) : J l D G n k (cuW tA g s sn s3 v kp) lv pc (.int x2 :: .int x1 :: .ref g.1 :: st) := by
  subst hr
  refine j_lperm (ps_b _ _ _ _ _ _) ?_
  refine j_cxV X (As := [.int x1, .int x2]) (c_X4_machine l D tA g.1 g.2.1 g.2.2.1 g.2.2.2.1 g.2.2.2.2.1 g.2.2.2.2.2.1 kp s x1 x2 hw) cd_X4_machine hlink 0 rfl rfl rfl rfl hroom h0 rfl hcat hdg ?_
  exact j_lperm (ps_b _ _ _ _ _ _).symm kk
theorem q_member (X : kX D tA G cc nL own fr lo) {g : Ad} {s sn s3 : Sg} {v : Hs} {kp : Bool} {index : Nat} {x1 x2 : Int32} {r : Int32} (hw : Wf s) (hr : oMember s x1 x2 = r) (hlink : Cond.methodLink own index yX4_member ∈ kALL) (hroom : 2 + 1 ≤ fr ∧ 8 + (3 + 11) + 49 ≤ lo) (h0 : n ≤ (gR G).cells ∧ k ≤ (gR G).slots) (hcat : (st.map fun v => v.category).sum ≤ 8) (hdg : decode cc pc = .ok (.invokevirtual index, 3)) (kk : J l D G n k (cuW tA g s sn s3 v kp) lv (pc + 3) (.int r :: st)) : J l D G n k (cuW tA g s sn s3 v kp) lv pc (.int x2 :: .int x1 :: .ref g.1 :: st) := by
  subst hr
  refine j_lperm (ps_b _ _ _ _ _ _) ?_
  refine j_cxV X (As := [.int x1, .int x2]) (c_X4_member l D tA g.1 g.2.1 g.2.2.1 g.2.2.2.1 g.2.2.2.2.1 g.2.2.2.2.2.1 kp s x1 x2 hw) cd_X4_member hlink 0 rfl rfl rfl rfl hroom h0 rfl hcat hdg ?_
  exact j_lperm (ps_b _ _ _ _ _ _).symm kk
theorem q_booking (X : kX D tA G cc nL own fr lo) {g : Ad} {s sn s3 : Sg} {v : Hs} {kp : Bool} {index : Nat} {x1 x2 : Int32} {r : Int32} (hw : Wf s) (hr : oBooking s x1 x2 = r) (hlink : Cond.methodLink own index yX4_booking ∈ kALL) (hroom : 3 + 1 ≤ fr ∧ 8 + (3 + 11) + 55 ≤ lo) (h0 : n ≤ (gR G).cells ∧ k ≤ (gR G).slots) (hcat : (st.map fun v => v.category).sum ≤ 8) (hdg : decode cc pc = .ok (.invokevirtual index, 3)) (kk : J l D G n k (cuW tA g s sn s3 v kp) lv (pc + 3) (.int r :: st)) : J l D G n k (cuW tA g s sn s3 v kp) lv pc (.int x2 :: .int x1 :: .ref g.1 :: st) := by
  subst hr
  refine j_lperm (ps_b _ _ _ _ _ _) ?_
  refine j_cxV X (As := [.int x1, .int x2]) (c_X4_booking l D tA g.1 g.2.1 g.2.2.1 g.2.2.2.1 g.2.2.2.2.1 g.2.2.2.2.2.1 kp s x1 x2 hw) cd_X4_booking hlink 0 rfl rfl rfl rfl hroom h0 rfl hcat hdg ?_
  exact j_lperm (ps_b _ _ _ _ _ _).symm kk
theorem q_move (X : kX D tA G cc nL own fr lo) {g : Ad} {s sn s3 : Sg} {v : Hs} {kp : Bool} {index : Nat} {x1 x2 : Int32} {r : Int32} (hw : Wf s) (hr : oMove s x1 x2 = r) (hlink : Cond.methodLink own index yX4_move ∈ kALL) (hroom : 1 + 1 ≤ fr ∧ 8 + (3 + 11) + 23 ≤ lo) (h0 : n ≤ (gR G).cells ∧ k ≤ (gR G).slots) (hcat : (st.map fun v => v.category).sum ≤ 8) (hdg : decode cc pc = .ok (.invokevirtual index, 3)) (kk : J l D G n k (cuW tA g s sn s3 v kp) lv (pc + 3) (.int r :: st)) : J l D G n k (cuW tA g s sn s3 v kp) lv pc (.int x2 :: .int x1 :: .ref g.1 :: st) := by
  subst hr
  refine j_lperm (ps_b _ _ _ _ _ _) ?_
  refine j_cxV X (As := [.int x1, .int x2]) (c_X4_move l D tA g.1 g.2.1 g.2.2.1 g.2.2.2.1 g.2.2.2.2.1 g.2.2.2.2.2.1 kp s x1 x2 hw) cd_X4_move hlink 0 rfl rfl rfl rfl hroom h0 rfl hcat hdg ?_
  exact j_lperm (ps_b _ _ _ _ _ _).symm kk
theorem q_bookedAt (X : kX D tA G cc nL own fr lo) {g : Ad} {s sn s3 : Sg} {v : Hs} {kp : Bool} {index : Nat} {x1 x2 : Int32} {r : Int32} (hw : Wf s) (hr : oBookedAt s x1 x2 = r) (hlink : Cond.methodLink own index yX4_bookedAt ∈ kALL) (hroom : 2 + 1 ≤ fr ∧ 8 + (3 + 11) + 46 ≤ lo) (h0 : n ≤ (gR G).cells ∧ k ≤ (gR G).slots) (hcat : (st.map fun v => v.category).sum ≤ 8) (hdg : decode cc pc = .ok (.invokevirtual index, 3)) (kk : J l D G n k (cuW tA g s sn s3 v kp) lv (pc + 3) (.int r :: st)) : J l D G n k (cuW tA g s sn s3 v kp) lv pc (.int x2 :: .int x1 :: .ref g.1 :: st) := by
  subst hr
  refine j_lperm (ps_b _ _ _ _ _ _) ?_
  refine j_cxV X (As := [.int x1, .int x2]) (c_X4_bookedAt l D tA g.1 g.2.1 g.2.2.1 g.2.2.2.1 g.2.2.2.2.1 g.2.2.2.2.2.1 kp s x1 x2 hw) cd_X4_bookedAt hlink 0 rfl rfl rfl rfl hroom h0 rfl hcat hdg ?_
  exact j_lperm (ps_b _ _ _ _ _ _).symm kk
theorem q_machineFor (X : kX D tA G cc nL own fr lo) {g : Ad} {s sn s3 : Sg} {v : Hs} {kp : Bool} {index : Nat} {x1 x2 x3 : Int32} {r : Int32} (hw : Wf s) (hr : oMachineFor s x1 x2 x3 = r) (hlink : Cond.methodLink own index yX4_machineFor ∈ kALL) (hroom : 3 + 1 ≤ fr ∧ 8 + (5 + 11) + 72 ≤ lo) (h0 : n ≤ (gR G).cells ∧ k ≤ (gR G).slots) (hcat : (st.map fun v => v.category).sum ≤ 8) (hdg : decode cc pc = .ok (.invokevirtual index, 3)) (kk : J l D G n k (cuW tA g s sn s3 v kp) lv (pc + 3) (.int r :: st)) : J l D G n k (cuW tA g s sn s3 v kp) lv pc (.int x3 :: .int x2 :: .int x1 :: .ref g.1 :: st) := by
  subst hr
  refine j_lperm (ps_b _ _ _ _ _ _) ?_
  refine j_cxV X (As := [.int x1, .int x2, .int x3]) (c_X4_machineFor l D tA g.1 g.2.1 g.2.2.1 g.2.2.2.1 g.2.2.2.2.1 g.2.2.2.2.2.1 kp s x1 x2 x3 hw) cd_X4_machineFor hlink 0 rfl rfl rfl rfl hroom h0 rfl hcat hdg ?_
  exact j_lperm (ps_b _ _ _ _ _ _).symm kk
theorem q_wind (X : kX D tA G cc nL own fr lo) {g : Ad} {s sn s3 : Sg} {v : Hs} {kp : Bool} {index : Nat} {x1 : Int32} {r : Int32} (hw : Wf s) (hr : oWind s x1 = r) (hlink : Cond.methodLink own index yX4_wind ∈ kALL) (hroom : 2 + 1 ≤ fr ∧ 8 + (2 + 11) + 42 ≤ lo) (h0 : n ≤ (gR G).cells ∧ k ≤ (gR G).slots) (hcat : (st.map fun v => v.category).sum ≤ 8) (hdg : decode cc pc = .ok (.invokevirtual index, 3)) (kk : J l D G n k (cuW tA g s sn s3 v kp) lv (pc + 3) (.int r :: st)) : J l D G n k (cuW tA g s sn s3 v kp) lv pc (.int x1 :: .ref g.1 :: st) := by
  subst hr
  refine j_lperm (ps_b _ _ _ _ _ _) ?_
  refine j_cxV X (As := [.int x1]) (c_X4_wind l D tA g.1 g.2.1 g.2.2.1 g.2.2.2.1 g.2.2.2.2.1 g.2.2.2.2.2.1 kp s x1 hw) cd_X4_wind hlink 0 rfl rfl rfl rfl hroom h0 rfl hcat hdg ?_
  exact j_lperm (ps_b _ _ _ _ _ _).symm kk
theorem q_windLimit (X : kX D tA G cc nL own fr lo) {g : Ad} {s sn s3 : Sg} {v : Hs} {kp : Bool} {index : Nat} {x1 x2 : Int32} {r : Int32} (hr : oLimit x1 x2 = r) (hlink : Cond.methodLink own index yX4_windLimit ∈ kALL) (hroom : 3 + 1 ≤ fr ∧ 8 + (3 + 11) + 63 ≤ lo) (h0 : n ≤ (gR G).cells ∧ k ≤ (gR G).slots) (hcat : (st.map fun v => v.category).sum ≤ 8) (hdg : decode cc pc = .ok (.invokevirtual index, 3)) (kk : J l D G n k (cuW tA g s sn s3 v kp) lv (pc + 3) (.int r :: st)) : J l D G n k (cuW tA g s sn s3 v kp) lv pc (.int x2 :: .int x1 :: .ref g.1 :: st) := by
  subst hr
  refine j_lperm (ps_c _ _ _ _ _ _) ?_
  refine j_cxV X (As := [.int x1, .int x2]) (c_X4_windLimit l D tA g.1 g.2.1 g.2.2.1 g.2.2.2.1 g.2.2.2.2.1 g.2.2.2.2.2.1 kp x1 x2) cd_X4_windLimit hlink 0 rfl rfl rfl rfl hroom h0 rfl hcat hdg ?_
  exact j_lperm (ps_c _ _ _ _ _ _).symm kk
theorem q_count (X : kX D tA G cc nL own fr lo) {g : Ad} {s sn s3 : Sg} {v : Hs} {kp : Bool} {index : Nat} {x1 : Int32} {r : Int32} (hw : Wf s) (hr : oCount s v.2.2 0 x1 = r) (hlink : Cond.methodLink own index yX4_count ∈ kALL) (hroom : 2 + 1 ≤ fr ∧ 8 + (2 + 11) + 47 ≤ lo) (h0 : n ≤ (gR G).cells ∧ k ≤ (gR G).slots) (hcat : (st.map fun v => v.category).sum ≤ 8) (hdg : decode cc pc = .ok (.invokevirtual index, 3)) (kk : J l D G n k (cuW tA g s sn s3 v kp) lv (pc + 3) (.int r :: st)) : J l D G n k (cuW tA g s sn s3 v kp) lv pc (.int x1 :: .ref g.1 :: st) := by
  subst hr
  refine j_lperm (ps_e _ _ _ _ _ _) ?_
  refine j_cxV X (As := [.int x1]) (c_X4_count l D tA g.1 g.2.1 g.2.2.1 g.2.2.2.1 g.2.2.2.2.1 g.2.2.2.2.2.1 kp s g.2.2.2.2.2.2 v (fun _ => 0) 0 0 z0 x1 hw) cd_X4_count hlink 0 rfl rfl rfl rfl hroom h0 rfl hcat hdg ?_
  exact j_lperm (ps_e _ _ _ _ _ _).symm kk
theorem q_addMachine (X : kX D tA G cc nL own fr lo) {g : Ad} {s sn s3 : Sg} {v : Hs} {kp : Bool} {index : Nat} {x1 x2 : Int32} {r : Int32} (hw : Wf s) (hv : HOk v) (hr : (oAddMachine s x1 x2).1 = r) (hlink : Cond.methodLink own index yX4_addMachine ∈ kALL) (hroom : 4 + 1 ≤ fr ∧ 8 + (3 + 11) + 82 ≤ lo) (h0 : n ≤ (gR G).cells ∧ k ≤ (gR G).slots) (hcat : (st.map fun v => v.category).sum ≤ 8) (hdg : decode cc pc = .ok (.invokevirtual index, 3)) (kk : J l D G n k (cuW tA g (aS s (oAddMachine s x1 x2).2) sn s3 (aH v s (oAddMachine s x1 x2).2) kp) lv (pc + 3) (.int r :: st)) : J l D G n k (cuW tA g s sn s3 v kp) lv pc (.int x2 :: .int x1 :: .ref g.1 :: st) := by
  subst hr
  refine j_lperm (ps_a _ _ _ _ _ _) ?_
  refine j_cxV X (As := [.int x1, .int x2]) (c_X4_addMachine l D tA g.1 g.2.1 g.2.2.1 g.2.2.2.1 g.2.2.2.2.1 g.2.2.2.2.2.1 kp s g.2.2.2.2.2.2 v x1 x2 hw hv.1 hv.2.1 hv.2.2) cd_X4_addMachine hlink 0 rfl rfl rfl (by simp only [List.map_append, st_fst, hs_fst] <;> rfl) hroom h0 rfl hcat hdg ?_
  exact j_lperm (ps_a _ _ _ _ _ _).symm kk
theorem q_addMember (X : kX D tA G cc nL own fr lo) {g : Ad} {s sn s3 : Sg} {v : Hs} {kp : Bool} {index : Nat} {r : Int32} (hw : Wf s) (hv : HOk v) (hr : (oAddMember s).1 = r) (hlink : Cond.methodLink own index yX4_addMember ∈ kALL) (hroom : 4 + 1 ≤ fr ∧ 8 + (1 + 11) + 82 ≤ lo) (h0 : n ≤ (gR G).cells ∧ k ≤ (gR G).slots) (hcat : (st.map fun v => v.category).sum ≤ 8) (hdg : decode cc pc = .ok (.invokevirtual index, 3)) (kk : J l D G n k (cuW tA g (aS s (oAddMember s).2) sn s3 (aH v s (oAddMember s).2) kp) lv (pc + 3) (.int r :: st)) : J l D G n k (cuW tA g s sn s3 v kp) lv pc (.ref g.1 :: st) := by
  subst hr
  refine j_lperm (ps_a _ _ _ _ _ _) ?_
  refine j_cxV X (As := []) (c_X4_addMember l D tA g.1 g.2.1 g.2.2.1 g.2.2.2.1 g.2.2.2.2.1 g.2.2.2.2.2.1 kp s g.2.2.2.2.2.2 v  hw hv.1 hv.2.1 hv.2.2) cd_X4_addMember hlink 0 rfl rfl rfl (by simp only [List.map_append, st_fst, hs_fst] <;> rfl) hroom h0 rfl hcat hdg ?_
  exact j_lperm (ps_a _ _ _ _ _ _).symm kk
theorem q_setWind (X : kX D tA G cc nL own fr lo) {g : Ad} {s sn s3 : Sg} {v : Hs} {kp : Bool} {index : Nat} {x1 x2 : Int32} {r : Int32} (hw : Wf s) (hv : HOk v) (hr : (oSetWind s x1 x2).1 = r) (hlink : Cond.methodLink own index yX4_setWind ∈ kALL) (hroom : 4 + 1 ≤ fr ∧ 8 + (4 + 11) + 82 ≤ lo) (h0 : n ≤ (gR G).cells ∧ k ≤ (gR G).slots) (hcat : (st.map fun v => v.category).sum ≤ 8) (hdg : decode cc pc = .ok (.invokevirtual index, 3)) (kk : J l D G n k (cuW tA g (aS s (oSetWind s x1 x2).2) sn s3 (aH v s (oSetWind s x1 x2).2) kp) lv (pc + 3) (.int r :: st)) : J l D G n k (cuW tA g s sn s3 v kp) lv pc (.int x2 :: .int x1 :: .ref g.1 :: st) := by
  subst hr
  refine j_lperm (ps_a _ _ _ _ _ _) ?_
  refine j_cxV X (As := [.int x1, .int x2]) (c_X4_setWind l D tA g.1 g.2.1 g.2.2.1 g.2.2.2.1 g.2.2.2.2.1 g.2.2.2.2.2.1 kp s g.2.2.2.2.2.2 v x1 x2 hw hv.1 hv.2.1 hv.2.2) cd_X4_setWind hlink 0 rfl rfl rfl (by simp only [List.map_append, st_fst, hs_fst] <;> rfl) hroom h0 rfl hcat hdg ?_
  exact j_lperm (ps_a _ _ _ _ _ _).symm kk
theorem q_book (X : kX D tA G cc nL own fr lo) {g : Ad} {s sn s3 : Sg} {v : Hs} {kp : Bool} {index : Nat} {x1 x2 x3 x4 x5 : Int32} {r : Int32} (hw : Wf s) (hv : HOk v) (hr : (oBook s x1 x2 x3 x4 x5).1 = r) (hlink : Cond.methodLink own index yX4_book ∈ kALL) (hroom : 4 + 1 ≤ fr ∧ 8 + (7 + 11) + 82 ≤ lo) (h0 : n ≤ (gR G).cells ∧ k ≤ (gR G).slots) (hcat : (st.map fun v => v.category).sum ≤ 8) (hdg : decode cc pc = .ok (.invokevirtual index, 3)) (kk : J l D G n k (cuW tA g (aS s (oBook s x1 x2 x3 x4 x5).2) sn s3 (aH v s (oBook s x1 x2 x3 x4 x5).2) kp) lv (pc + 3) (.int r :: st)) : J l D G n k (cuW tA g s sn s3 v kp) lv pc (.int x5 :: .int x4 :: .int x3 :: .int x2 :: .int x1 :: .ref g.1 :: st) := by
  subst hr
  refine j_lperm (ps_a _ _ _ _ _ _) ?_
  refine j_cxV X (As := [.int x1, .int x2, .int x3, .int x4, .int x5]) (c_X4_book l D tA g.1 g.2.1 g.2.2.1 g.2.2.2.1 g.2.2.2.2.1 g.2.2.2.2.2.1 kp s g.2.2.2.2.2.2 v x1 x2 x3 x4 x5 hw hv.1 hv.2.1 hv.2.2) cd_X4_book hlink 0 rfl rfl rfl (by simp only [List.map_append, st_fst, hs_fst] <;> rfl) hroom h0 rfl hcat hdg ?_
  exact j_lperm (ps_a _ _ _ _ _ _).symm kk
theorem q_cancel (X : kX D tA G cc nL own fr lo) {g : Ad} {s sn s3 : Sg} {v : Hs} {kp : Bool} {index : Nat} {x1 : Int32} {r : Int32} (hw : Wf s) (hv : HOk v) (hr : (oCancel s x1).1 = r) (hlink : Cond.methodLink own index yX4_cancel ∈ kALL) (hroom : 4 + 1 ≤ fr ∧ 8 + (3 + 11) + 82 ≤ lo) (h0 : n ≤ (gR G).cells ∧ k ≤ (gR G).slots) (hcat : (st.map fun v => v.category).sum ≤ 8) (hdg : decode cc pc = .ok (.invokevirtual index, 3)) (kk : J l D G n k (cuW tA g (aS s (oCancel s x1).2) sn s3 (aH v s (oCancel s x1).2) kp) lv (pc + 3) (.int r :: st)) : J l D G n k (cuW tA g s sn s3 v kp) lv pc (.int x1 :: .ref g.1 :: st) := by
  subst hr
  refine j_lperm (ps_a _ _ _ _ _ _) ?_
  refine j_cxV X (As := [.int x1]) (c_X4_cancel l D tA g.1 g.2.1 g.2.2.1 g.2.2.2.1 g.2.2.2.2.1 g.2.2.2.2.2.1 kp s g.2.2.2.2.2.2 v x1 hw hv.1 hv.2.1 hv.2.2) cd_X4_cancel hlink 0 rfl rfl rfl (by simp only [List.map_append, st_fst, hs_fst] <;> rfl) hroom h0 rfl hcat hdg ?_
  exact j_lperm (ps_a _ _ _ _ _ _).symm kk
theorem q_swap (X : kX D tA G cc nL own fr lo) {g : Ad} {s sn s3 : Sg} {v : Hs} {kp : Bool} {index : Nat} {x1 x2 : Int32} {r : Int32} (hw : Wf s) (hv : HOk v) (hr : (oSwap s x1 x2).1 = r) (hlink : Cond.methodLink own index yX4_swap ∈ kALL) (hroom : 4 + 1 ≤ fr ∧ 8 + (7 + 11) + 82 ≤ lo) (h0 : n ≤ (gR G).cells ∧ k ≤ (gR G).slots) (hcat : (st.map fun v => v.category).sum ≤ 8) (hdg : decode cc pc = .ok (.invokevirtual index, 3)) (kk : J l D G n k (cuW tA g (aS s (oSwap s x1 x2).2) sn s3 (aH v s (oSwap s x1 x2).2) kp) lv (pc + 3) (.int r :: st)) : J l D G n k (cuW tA g s sn s3 v kp) lv pc (.int x2 :: .int x1 :: .ref g.1 :: st) := by
  subst hr
  refine j_lperm (ps_a _ _ _ _ _ _) ?_
  refine j_cxV X (As := [.int x1, .int x2]) (c_X4_swap l D tA g.1 g.2.1 g.2.2.1 g.2.2.2.1 g.2.2.2.2.1 g.2.2.2.2.2.1 kp s g.2.2.2.2.2.2 v x1 x2 hw hv.1 hv.2.1 hv.2.2) cd_X4_swap hlink 0 rfl rfl rfl (by simp only [List.map_append, st_fst, hs_fst] <;> rfl) hroom h0 rfl hcat hdg ?_
  exact j_lperm (ps_a _ _ _ _ _ _).symm kk
theorem q_order (X : kX D tA G cc nL own fr lo) {g : Ad} {s sn s3 : Sg} {v : Hs} {kp : Bool} {index : Nat} {x1 x2 x3 x4 x5 : Int32} {r : Int32} (hw : Wf s) (hv : HOk v) (hr : (oOrder s x1 x2 x3 x4 x5).1 = r) (hlink : Cond.methodLink own index yX4_order ∈ kALL) (hroom : 4 + 1 ≤ fr ∧ 8 + (6 + 11) + 82 ≤ lo) (h0 : n ≤ (gR G).cells ∧ k ≤ (gR G).slots) (hcat : (st.map fun v => v.category).sum ≤ 8) (hdg : decode cc pc = .ok (.invokevirtual index, 3)) (kk : J l D G n k (cuW tA g (aS s (oOrder s x1 x2 x3 x4 x5).2) sn s3 (aH v s (oOrder s x1 x2 x3 x4 x5).2) kp) lv (pc + 3) (.int r :: st)) : J l D G n k (cuW tA g s sn s3 v kp) lv pc (.int x5 :: .int x4 :: .int x3 :: .int x2 :: .int x1 :: .ref g.1 :: st) := by
  subst hr
  refine j_lperm (ps_a _ _ _ _ _ _) ?_
  refine j_cxV X (As := [.int x1, .int x2, .int x3, .int x4, .int x5]) (c_X4_order l D tA g.1 g.2.1 g.2.2.1 g.2.2.2.1 g.2.2.2.2.1 g.2.2.2.2.2.1 kp s g.2.2.2.2.2.2 v x1 x2 x3 x4 x5 hw hv.1 hv.2.1 hv.2.2) cd_X4_order hlink 0 rfl rfl rfl (by simp only [List.map_append, st_fst, hs_fst] <;> rfl) hroom h0 rfl hcat hdg ?_
  exact j_lperm (ps_a _ _ _ _ _ _).symm kk
theorem q_takeBack (X : kX D tA G cc nL own fr lo) {g : Ad} {s sn s3 : Sg} {v : Hs} {kp : Bool} {index : Nat} {x1 : Int32} {r : Int32} (hw : Wf s) (hv : HOk v) (hr : (oTakeBack s x1).1 = r) (hlink : Cond.methodLink own index yX4_takeBack ∈ kALL) (hroom : 4 + 1 ≤ fr ∧ 8 + (2 + 11) + 82 ≤ lo) (h0 : n ≤ (gR G).cells ∧ k ≤ (gR G).slots) (hcat : (st.map fun v => v.category).sum ≤ 8) (hdg : decode cc pc = .ok (.invokevirtual index, 3)) (kk : J l D G n k (cuW tA g (aS s (oTakeBack s x1).2) sn s3 (aH v s (oTakeBack s x1).2) kp) lv (pc + 3) (.int r :: st)) : J l D G n k (cuW tA g s sn s3 v kp) lv pc (.int x1 :: .ref g.1 :: st) := by
  subst hr
  refine j_lperm (ps_a _ _ _ _ _ _) ?_
  refine j_cxV X (As := [.int x1]) (c_X4_takeBack l D tA g.1 g.2.1 g.2.2.1 g.2.2.2.1 g.2.2.2.2.1 g.2.2.2.2.2.1 kp s g.2.2.2.2.2.2 v x1 hw hv.1 hv.2.1 hv.2.2) cd_X4_takeBack hlink 0 rfl rfl rfl (by simp only [List.map_append, st_fst, hs_fst] <;> rfl) hroom h0 rfl hcat hdg ?_
  exact j_lperm (ps_a _ _ _ _ _ _).symm kk
theorem q_pass (X : kX D tA G cc nL own fr lo) {g : Ad} {s sn s3 : Sg} {v : Hs} {kp : Bool} {index : Nat} {x1 : Int32} {r : Int32} (hw : Wf s) (hv : HOk v) (hr : (oPass s x1).1 = r) (hlink : Cond.methodLink own index yX4_pass ∈ kALL) (hroom : 6 + 1 ≤ fr ∧ 8 + (4 + 11) + 139 ≤ lo) (h0 : n ≤ (gR G).cells ∧ k ≤ (gR G).slots) (hcat : (st.map fun v => v.category).sum ≤ 8) (hdg : decode cc pc = .ok (.invokevirtual index, 3)) (kk : J l D G n k (cuW tA g (aS s (oPass s x1).2) sn s3 (aH v s (oPass s x1).2) kp) lv (pc + 3) (.int r :: st)) : J l D G n k (cuW tA g s sn s3 v kp) lv pc (.int x1 :: .ref g.1 :: st) := by
  subst hr
  refine j_lperm (ps_a _ _ _ _ _ _) ?_
  refine j_cxV X (As := [.int x1]) (c_X4_pass l D tA g.1 g.2.1 g.2.2.1 g.2.2.2.1 g.2.2.2.2.1 g.2.2.2.2.2.1 kp s g.2.2.2.2.2.2 v x1 hw hv.1 hv.2.1 hv.2.2) cd_X4_pass hlink 0 rfl rfl rfl (by simp only [List.map_append, st_fst, hs_fst] <;> rfl) hroom h0 rfl hcat hdg ?_
  exact j_lperm (ps_a _ _ _ _ _ _).symm kk
theorem q_undo (X : kX D tA G cc nL own fr lo) {g : Ad} {s sn s3 : Sg} {v : Hs} {kp : Bool} {index : Nat} {r : Int32} (hw : Wf s) (hv : HOk v) (hr : (if v.2.2 = 0 then (-5) else nI (v.2.2 - 1)) = r) (hlink : Cond.methodLink own index yX4_undo ∈ kALL) (hroom : 4 + 1 ≤ fr ∧ 8 + (1 + 11) + 83 ≤ lo) (h0 : n ≤ (gR G).cells ∧ k ≤ (gR G).slots) (hcat : (st.map fun v => v.category).sum ≤ 8) (hdg : decode cc pc = .ok (.invokevirtual index, 3)) (kk : J l D G n k (cuW tA g (if v.2.2 = 0 then s else v.1 (hLast v)) sn s3 (if v.2.2 = 0 then v else hPop v) kp) lv (pc + 3) (.int r :: st)) : J l D G n k (cuW tA g s sn s3 v kp) lv pc (.ref g.1 :: st) := by
  subst hr
  refine j_lperm (ps_a _ _ _ _ _ _) ?_
  refine j_cxV X (As := []) (c_X4_undo l D tA g.1 g.2.1 g.2.2.1 g.2.2.2.1 g.2.2.2.2.1 g.2.2.2.2.2.1 kp s g.2.2.2.2.2.2 v hw hv.1 hv.2.1 hv.2.2) cd_X4_undo hlink 0 rfl rfl rfl (by simp only [List.map_append, st_fst, hs_fst] <;> rfl) hroom h0 rfl hcat hdg ?_
  exact j_lperm (ps_a _ _ _ _ _ _).symm kk
theorem q_keep (X : kX D tA G cc nL own fr lo) {g : Ad} {s sn s3 : Sg} {v : Hs} {kp : Bool} {index : Nat} {r : Int32} (hw : Wf s) (hwn : Wf sn) (hr : nI (sN s) = r) (hlink : Cond.methodLink own index yX4_keep ∈ kALL) (hroom : 3 + 1 ≤ fr ∧ 8 + (1 + 11) + 60 ≤ lo) (h0 : n ≤ (gR G).cells ∧ k ≤ (gR G).slots) (hcat : (st.map fun v => v.category).sum ≤ 8) (hdg : decode cc pc = .ok (.invokevirtual index, 3)) (kk : J l D G n k (cuW tA g s s s3 v true) lv (pc + 3) (.int r :: st)) : J l D G n k (cuW tA g s sn s3 v kp) lv pc (.ref g.1 :: st) := by
  subst hr
  refine j_lperm (ps_f _ _ _ _ _ _) ?_
  refine j_cxV X (As := []) (c_X4_keep l D tA g.1 g.2.1 g.2.2.1 g.2.2.2.1 g.2.2.2.2.1 g.2.2.2.2.2.1 kp s sn hw hwn) cd_X4_keep hlink 0 rfl rfl rfl (by simp only [List.map_append, st_fst] <;> rfl) hroom h0 rfl hcat hdg ?_
  exact j_lperm (ps_f _ _ _ _ _ _).symm kk
theorem q_restore (X : kX D tA G cc nL own fr lo) {g : Ad} {s sn s3 : Sg} {v : Hs} {kp : Bool} {index : Nat} {r : Int32} (hw : Wf s) (hv : HOk v) (hwn : Wf sn) (hr : (oRestore s sn kp).1 = r) (hlink : Cond.methodLink own index yX4_restore ∈ kALL) (hroom : 4 + 1 ≤ fr ∧ 8 + (1 + 11) + 82 ≤ lo) (h0 : n ≤ (gR G).cells ∧ k ≤ (gR G).slots) (hcat : (st.map fun v => v.category).sum ≤ 8) (hdg : decode cc pc = .ok (.invokevirtual index, 3)) (kk : J l D G n k (cuW tA g (aS s (oRestore s sn kp).2) sn s3 (aH v s (oRestore s sn kp).2) kp) lv (pc + 3) (.int r :: st)) : J l D G n k (cuW tA g s sn s3 v kp) lv pc (.ref g.1 :: st) := by
  subst hr
  refine j_lperm (ps_g _ _ _ _ _ _) ?_
  refine j_cxV X (As := []) (c_X4_restore l D tA g.1 g.2.1 g.2.2.1 g.2.2.2.1 g.2.2.2.2.1 g.2.2.2.2.2.1 kp s sn g.2.2.2.2.2.2 v hw hv.1 hv.2.1 hv.2.2 hwn) cd_X4_restore hlink 0 rfl rfl rfl (by simp only [List.map_append, st_fst, hs_fst] <;> rfl) hroom h0 rfl hcat hdg ?_
  exact j_lperm (ps_g _ _ _ _ _ _).symm kk
theorem q_willBear (X : kX D tA G cc nL own fr lo) {g : Ad} {s sn s3 : Sg} {v : Hs} {kp : Bool} {index : Nat} {x1 x2 x3 : Int32} {r : Int32} (hw : Wf s) (hw3 : Wf s3) (hr : (oWill s x1 x2 x3).1 = r) (hlink : Cond.methodLink own index yX4_willBear ∈ kALL) (hroom : 5 + 1 ≤ fr ∧ 8 + (4 + 11) + 117 ≤ lo) (h0 : n ≤ (gR G).cells ∧ k ≤ (gR G).slots) (hcat : (st.map fun v => v.category).sum ≤ 8) (hdg : decode cc pc = .ok (.invokevirtual index, 3)) (kk : J l D G n k (cuW tA g s sn (aS s3 (oWill s x1 x2 x3).2) v kp) lv (pc + 3) (.int r :: st)) : J l D G n k (cuW tA g s sn s3 v kp) lv pc (.int x3 :: .int x2 :: .int x1 :: .ref g.1 :: st) := by
  subst hr
  refine j_lperm (ps_h _ _ _ _ _ _) ?_
  refine j_cxV X (As := [.int x1, .int x2, .int x3]) (c_X4_willBear l D tA g.1 g.2.1 g.2.2.1 g.2.2.2.1 g.2.2.2.2.1 g.2.2.2.2.2.1 kp s s3 x1 x2 x3 hw hw3) cd_X4_willBear hlink 0 rfl rfl rfl (by simp only [List.map_append, st_fst] <;> rfl) hroom h0 rfl hcat hdg ?_
  exact j_lperm (ps_h _ _ _ _ _ _).symm kk
theorem q_fate (X : kX D tA G cc nL own fr lo) {g : Ad} {s sn s3 : Sg} {v : Hs} {kp : Bool} {index : Nat} {x1 : Int32} {r : Int32} (hw : Wf s) (hw3 : Wf s3) (hr : (oFate s x1).1 = r) (hlink : Cond.methodLink own index yX4_fate ∈ kALL) (hroom : 5 + 1 ≤ fr ∧ 8 + (2 + 11) + 117 ≤ lo) (h0 : n ≤ (gR G).cells ∧ k ≤ (gR G).slots) (hcat : (st.map fun v => v.category).sum ≤ 8) (hdg : decode cc pc = .ok (.invokevirtual index, 3)) (kk : J l D G n k (cuW tA g s sn (aS s3 (oFate s x1).2) v kp) lv (pc + 3) (.int r :: st)) : J l D G n k (cuW tA g s sn s3 v kp) lv pc (.int x1 :: .ref g.1 :: st) := by
  subst hr
  refine j_lperm (ps_h _ _ _ _ _ _) ?_
  refine j_cxV X (As := [.int x1]) (c_X4_fate l D tA g.1 g.2.1 g.2.2.1 g.2.2.2.1 g.2.2.2.2.1 g.2.2.2.2.2.1 kp s s3 x1 hw hw3) cd_X4_fate hlink 0 rfl rfl rfl (by simp only [List.map_append, st_fst] <;> rfl) hroom h0 rfl hcat hdg ?_
  exact j_lperm (ps_h _ _ _ _ _ _).symm kk
end
