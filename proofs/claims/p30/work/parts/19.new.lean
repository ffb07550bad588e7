def kQz (D : va_G) {S : Type} (Pr : S → Prop) (w' : S → va_W) (A : Nat → Prop) : Array Value → State → Outcome → State → Prop := fun _ st oc t => (∃ u : S, Pr u ∧ oc = .returned none ∧ va_P D vwCl (w' u) t.heap ∧ va_D A (w' u)) ∧ va_F A st t
def Kz (l : Launch) (D : va_G) (tA : Nat → ClassId) (y : MethodName) (cc : ByteArray) (nL fr lo mc ms : Nat) (av : List Value) (w : va_W) {S : Type} (Pr : S → Prop) (w' : S → va_W) : Prop :=
  ∀ sz : Nat, Met l y (.code y cc nL none :: kALL) ({ frames := fr, cells := mc, slots := ms, locals := lo }) (va_Pc av (fun U => U.heap.size = sz ∧ va_P D vwCl w U.heap ∧ kK D tA U ∧ va_D (fun _ => True) w)) (kQz D Pr w' (va_A w sz)) mc ms (va_A w sz)
def kEz (l : Launch) (D : va_G) (G : kCx) (cc : ByteArray) (mc ms : Nat) {S : Type} (Pr : S → Prop) (w' : S → va_W) : Prop := ∀ (u : S) (lv : List (Nat × Value)) (pc : Nat), Pr u → decode cc pc = .ok (.return_, 1) → J l D G mc ms (w' u) lv pc []
theorem kz_void {l : Launch} {D : va_G} {tA : Nat → ClassId} {y : MethodName} {cc : ByteArray} {nL fr lo mc ms : Nat} {av : List Value} {w : va_W} {S : Type} {Pr : S → Prop} {w' : S → va_W} (hy : plainName y.cls = true) (hi : y.name = "<init>") (hn : (lg_sl av).length ≤ nL)
    (body : ∀ G : kCx, kX D tA G cc nL y.cls fr lo → (mc ≤ (gR G).cells ∧ ms ≤ (gR G).slots) → (gh G).name = "<init>" → kEz l D G cc mc ms Pr w' → J l D G 0 0 w (lv_args 0 av) 0 []) : Kz l D tA y cc nL fr lo mc ms av w Pr w' := by
  intro sz
  refine Met.ofW (cc := cc) (maxL := nL) (ret := none) hy rfl ?_
  intro p e s m args below meth c s₁ B hml hv
  obtain ⟨rfl, hsz, hP, hK, hD0⟩ := hv
  subst hsz
  have hts : ∀ w ∈ kALL, w.before av.toArray s = true := fun w hw => atoms_spec B.pre w (List.mem_cons_of_mem _ hw)
  have hown : s.vm.findClass y.cls = some m.cls := findClass_of_methodNamed B.named
  have hD := hD0.self (sz := s.heap.size)
  have hl := lv_entry av (n := nL) hn
  have hname : meth.name = "<init>" := (name_of_methodNamed B.named B.method).1.trans hi
  rw [lg_entry_eq]
  refine body (p, e, _, s, m, av.toArray, below, meth, c, _, va_A w s.heap.size) ⟨B.exec, B.bytes, hml, hown, hts, hK, fun q h => Or.inr h, Nat.le_refl _, Nat.le_refl _⟩ ⟨Nat.le_refl _, Nat.le_refl _⟩ hname ?_ s.heap [] _ hP hD va_S.rf (by show lv_has _ c.maxLocals _; rw [hml]; exact hl)
  intro u lv pc hu hdg H locs ls hP1 hD1 hS1 hl1
  exact W.vret B.exec B.bytes B.returns (fun t ht hW => ⟨⟨u, hu, rfl, by rw [ht]; exact hP1, hD1⟩, hS1.F ht⟩) hS1.2.2 hdg B.notSynchronized
section
variable {l : Launch} {D : va_G} {tA : Nat → ClassId} {G : kCx} {cc : ByteArray} {nL : Nat} {own : String} {fr lo n k : Nat} {w : va_W} {lv : List (Nat × Value)} {pc : Nat} {st : List Value}
theorem j_endVz {mc ms : Nat} {S : Type} {Pr : S → Prop} {w' : S → va_W} {w0 : va_W} (E : kEz l D G cc mc ms Pr w') (hdg : decode cc pc = .ok (.return_, 1)) (u : S) (hu : Pr u) (hw : w' u = w0) : J l D G mc ms w0 lv pc [] := by
  subst hw; exact E u lv pc hu hdg
theorem j_wd (n' k' : Nat) (h1 : n ≤ n') (h2 : k ≤ k') (kk : J l D G n' k' w lv pc st) : J l D G n k w lv pc st := fun H locs ls hP hD hS hl => W.widen h1 h2 (kk H locs ls hP hD hS hl)
theorem j_obj (X : kX D tA G cc nL own fr lo) {idx a : Nat} (hlink : Cond.methodLink own idx Lib.objectInit ∈ kALL) (hroom : 1 ≤ fr ∧ 12 ≤ lo) (hdg : decode cc pc = .ok (.invokespecial idx, 3)) (kk : J l D G n k w lv (pc + 3) []) : J l D G n k w lv pc [.ref a] := by
  intro H locs ls hP hD hS hl
  have hts := X.2.2.2.2.1
  have hR := X.2.2.2.2.2.2.2
  refine W.objInit X.1 X.2.1 X.2.2.2.1 (hts _ hlink) (hts _ wk_obj) (hts _ wc_obj) rfl hl.1 rfl hdg (Nat.le_trans hroom.1 hR.1) (Nat.le_trans (show _ ≤ 12 from Nat.le_of_ble_eq_true rfl) (Nat.le_trans hroom.2 hR.2)) ?_
  exact W.eq (g2 := F0 (gm G) (pc + 3) ls []) rfl (kk H locs ls hP hD hS hl)
theorem j_new (X : kX D tA G cc nL own fr lo) {C : String} {T : u_T} {N ci index : Nat} {fs : List Value} (hin : ∀ w ∈ u_ws C T N, w ∈ kALL) (ty0 : Nat → FieldType) (hty : ∀ k, k < N → parseFieldDescriptor (T k).2.2.1 = some (ty0 k)) (hcl : Cond.classLink own index C ∈ kALL) (hinst : Cond.instantiable C N ∈ kALL) (hini : Cond.initialized C ∈ kALL) (hc : vwCl[ci]? = some (C, T, N)) (hfs : ∀ j, j < N → defaultValue (ty0 j) = vp_V fs j) (hroom : n + 1 ≤ (gR G).cells ∧ k + N ≤ (gR G).slots) (hdg : decode cc pc = .ok (.new index, 3))
    (kk : ∀ q, J l D G (n + 1) (k + N) (w ++ [(q, .inr (ci, fs))]) lv (pc + 3) (.ref q :: st)) : J l D G n k w lv pc st :=
  fun H locs ls hP hD hS hl => va_new (D := D) (cl := vwCl) (ws := w) (tys := kTY tA) X.1 X.2.1 X.2.2.2.2.1 hin ty0 hty X.2.2.2.1 (X.2.2.2.2.1 _ hcl) (X.2.2.2.2.1 _ hinst) (X.2.2.2.2.1 _ hini) X.2.2.2.2.2.1.1 hP hD hS X.2.2.2.2.2.2.1 hc hfs hroom.1 hroom.2 hdg (fun q H1 hP1 hD1 hS1 => kk q H1 locs ls hP1 hD1 hS1 hl)
theorem j_newi (X : kX D tA G cc nL own fr lo) {N : Nat} (hN : N < 65536) (hroom : n + 1 ≤ (gR G).cells ∧ k + N ≤ (gR G).slots) (hdg : decode cc pc = .ok (.newarray .int, 2))
    (kk : ∀ q, J l D G (n + 1) (k + N) (w ++ [(q, .inl (tA 0, N, .inl (nF (fun _ => 0))))]) lv (pc + 2) (.ref q :: st)) : J l D G n k w lv pc (.int (nI N) :: st) :=
  fun H locs ls hP hD hS hl => va_newa (D := D) (cl := vwCl) (ws := w) (tys := kTY tA) (atype := .int) (ty := .int) (a0 := (N, .inl (nF (fun _ => 0)))) X.1 X.2.1 (X.2.2.2.2.1 _ wa_int) rfl X.2.2.2.2.2.1.1 hP hD hS X.2.2.2.2.2.2.1 (fun _ => rfl) (nI_pos (by omega)) (nI_clamp (by omega)) (show N * 4 ≤ 536870912 by omega) hroom.1 hroom.2 hdg (fun q cA H1 hK1 hP1 hD1 hS1 => by
    have e : cA = tA 0 := Option.some.inj ((show (gs G).vm.findClass _ = some cA from (hK1.2 3 (cA, .int) rfl).2).symm.trans (hK1.2 0 (tA 0, .int) rfl).2)
    subst e
    exact kk q H1 locs ls hP1 hD1 hS1 hl)
theorem j_newc (X : kX D tA G cc nL own fr lo) {N : Nat} (hN : N < 65536) (hroom : n + 1 ≤ (gR G).cells ∧ k + N ≤ (gR G).slots) (hdg : decode cc pc = .ok (.newarray .char, 2))
    (kk : ∀ q, J l D G (n + 1) (k + N) (w ++ [(q, .inl (tA 1, N, .inl (nF (fun _ => 0))))]) lv (pc + 2) (.ref q :: st)) : J l D G n k w lv pc (.int (nI N) :: st) :=
  fun H locs ls hP hD hS hl => va_newa (D := D) (cl := vwCl) (ws := w) (tys := kTY tA) (atype := .char) (ty := .char) (a0 := (N, .inl (nF (fun _ => 0)))) X.1 X.2.1 (X.2.2.2.2.1 _ wa_char) rfl X.2.2.2.2.2.1.1 hP hD hS X.2.2.2.2.2.2.1 (fun _ => rfl) (nI_pos (by omega)) (nI_clamp (by omega)) (show N * 2 ≤ 536870912 by omega) hroom.1 hroom.2 hdg (fun q cA H1 hK1 hP1 hD1 hS1 => by
    have e : cA = tA 1 := Option.some.inj ((show (gs G).vm.findClass _ = some cA from (hK1.2 3 (cA, .char) rfl).2).symm.trans (hK1.2 1 (tA 1, .char) rfl).2)
    subst e
    exact kk q H1 locs ls hP1 hD1 hS1 hl)
theorem j_newq (X : kX D tA G cc nL own fr lo) {N index : Nat} (hcl : Cond.classLink own index "BallastClub$State" ∈ kALL) (hN : N < 65536) (hroom : n + 1 ≤ (gR G).cells ∧ k + N ≤ (gR G).slots) (hdg : decode cc pc = .ok (.anewarray index, 3))
    (kk : ∀ q, J l D G (n + 1) (k + N) (w ++ [(q, .inl (tA 2, N, .inr (.inr (.inr (.inr (fun _ => none))))))]) lv (pc + 3) (.ref q :: st)) : J l D G n k w lv pc (.int (nI N) :: st) :=
  fun H locs ls hP hD hS hl => va_newq (D := D) (cl := vwCl) (ws := w) (tys := kTY tA) X.1 X.2.1 X.2.2.2.1 (X.2.2.2.2.1 _ hcl) X.2.2.2.2.2.1.2.2.2 X.2.2.2.2.2.1.1 hP hD hS X.2.2.2.2.2.2.1 (nI_pos (by omega)) (nI_clamp (by omega)) (by omega) hroom.1 hroom.2 hdg (fun q cA H1 hK1 hP1 hD1 hS1 => by
    obtain ⟨_, _, _, _, _, h1⟩ := (hK1.2 3 (cA, .object "BallastClub$State") rfl).2
    obtain ⟨_, _, _, _, _, h2⟩ := (hK1.2 2 (tA 2, .object "BallastClub$State") rfl).2
    have e : cA = tA 2 := Option.some.inj (h1.symm.trans h2)
    subst e
    exact kk q H1 locs ls hP1 hD1 hS1 hl)
theorem j_putF (X : kX D tA G cc nL own fr lo) (hnm9 : (gh G).name = "<init>") {C : String} {T : u_T} {N ci index a : Nat} (hin : ∀ w ∈ u_ws C T N, w ∈ kALL) (ty0 : Nat → FieldType) (hty : ∀ k, k < N → parseFieldDescriptor (T k).2.2.1 = some (ty0 k)) (hnm : ∀ a, a < N → ∀ b, b < N → a ≠ b → (T a).2.1 ≠ (T b).2.1) (q0 : Nat) {fs : List Value} (he : w[q0]? = some (a, .inr (ci, fs))) (hc : vwCl[ci]? = some (C, T, N)) (k0 : Nat) (hk : k0 < N) (hlink : Cond.fieldLink own index (T k0).1 (T k0).2.1 (T k0).2.2.1 ∈ kALL) (hfin : (T k0).2.2.2 = true) (hdecl : (T k0).1 = own) {v : Value} (hn : narrow (ty0 k0) v = v) (hfit : fits (ty0 k0) v = true) (hl0 : k0 < fs.length) {w' : va_W} (hw : w.set q0 (a, .inr (ci, fs.set k0 v)) = w') (hdg : decode cc pc = .ok (.putfield index, 3)) (kk : J l D G n k w' lv (pc + 3) st) : J l D G n k w lv pc (v :: .ref a :: st) :=
  fun H locs ls hP hD hS hl => va_putF (D := D) (cl := vwCl) (ws := w) (tys := kTY tA) X.1 X.2.1 X.2.2.2.2.1 hin ty0 hty hnm X.2.2.2.1 X.2.2.2.2.2.1.1 hP hD hS q0 he hc k0 hk (X.2.2.2.2.1 _ hlink) (fun _ h => h) hfin hnm9 hdecl (hty k0 hk) hn hfit hl0 hdg (fun H1 locs1 hP1 hD1 hS1 => kk H1 locs1 ls (hw ▸ hP1) (hw ▸ hD1) hS1 hl)
end
section
variable {p : Program} {l : Launch} {e : Env} {R : Room} {s : State} {m : MethodId} {args : Array Value} {below : List Frame} {meth : Method} {c : Code} {H : Heap} {locs : List Loc} {cells slots : Nat} {Q : State → Prop}
theorem k_callz {pc mc ms : Nat} {ls : Array Slot} {rest st0 : List Value} {a : Array Value} {A0 A1 : Nat → Prop} {H0 : Heap} {free : Addr → Prop} {D : va_G} {S : Type} {Pr : S → Prop} {w1 : S → va_W} (hr : va_Run p l e R s m args below meth c H locs cells slots mc ms (F0 m pc ls st0) rest (kQz D Pr w1 A1 a) free) (hS : va_S A0 H0 H locs) (hA : ∀ q, q < H.size → A1 q → A0 q) (hf : ∀ q, free q → A0 q)
    (kk : ∀ (u : S) (H1 : Heap) (locs1 : List Loc), Pr u → va_P D vwCl (w1 u) H1 → va_D A1 (w1 u) → (∀ q : Nat, q < H.size → ¬ A1 q → H1[q]? = H[q]?) → va_S A0 H0 H1 locs1 → W p l e R s m args below meth c H1 locs1 (cells + mc) (slots + ms) Q (F0 m (pc + 3) ls rest)) : W p l e R s m args below meth c H locs cells slots Q (F0 m pc ls st0) := by
  intro T hT X
  obtain ⟨v, st₀, t, T', L, h0, X', hL, e1, e2, ⟨⟨u, hu, hv, hb, hd⟩, hz, hk⟩, st⟩ := hr T hT X
  cases hv
  rw [h0] at hz hk
  obtain ⟨t2, a1, b1⟩ := kk u T'.heap (locs ++ L) hu (by rw [e1]; exact hb) hd (fun q h1 h2 => by rw [e1]; exact hk q h1 h2)
    ⟨Nat.le_trans hS.1 (by rw [e1]; exact hz), fun q h1 h2 => by rw [e1, hk q (Nat.lt_of_lt_of_le h1 hS.1) (fun z => h2 (hA q (Nat.lt_of_lt_of_le h1 hS.1) z))]; exact hS.2.1 q h1 h2, fun q hq => by
      rcases List.mem_append.mp hq with h | h
      · exact hS.2.2 q h
      · exact hf _ (hL q h)⟩ T' rfl X'
  exact ⟨t2, st t2 a1, b1⟩
end
theorem nd_range : ∀ (n s : Nat), va_nd (List.range' s n) = true
  | 0, _ => rfl
  | n + 1, s => by
    show va_nd (s :: List.range' (s + 1) n) = true
    simp only [va_nd, Bool.and_eq_true, decide_eq_true_eq]
    refine ⟨fun h => ?_, nd_range n (s + 1)⟩
    have := (List.mem_range'_1.mp h).1
    omega
theorem range_get {w0 : va_W} {x : Nat × va_E} : (List.range' 0 w0.length).map (fun i => (w0 ++ [x])[i]?) = w0.map some := by
  refine List.ext_getElem (by rw [List.length_map, List.length_map, List.length_range']) (fun i h1 h2 => ?_)
  have hi : i < w0.length := by rw [List.length_map] at h2; exact h2
  rw [List.getElem_map, List.getElem_map, List.getElem_range', Nat.zero_add, Nat.one_mul, List.getElem?_append_left hi, List.getElem?_eq_getElem hi]
theorem last_get {w0 : va_W} {x : Nat × va_E} : [w0.length].map (fun i => (w0 ++ [x])[i]?) = [x].map some := by
  show [(w0 ++ [x])[w0.length]?] = [some x]
  rw [List.getElem?_append_right (Nat.le_refl _), Nat.sub_self]; rfl
theorem j_callI {l : Launch} {D : va_G} {tA : Nat → ClassId} {G : kCx} {cc : ByteArray} {nL : Nat} {own : String} {fr lo n k : Nat} {lv : List (Nat × Value)} {pc : Nat} {st : List Value} (X : kX D tA G cc nL own fr lo) {y : MethodName} {bytes : ByteArray} {maxL frc loc mc ms index b ci : Nat} {fs As : List Value} {S : Type} {Pr : S → Prop} {wf : S → va_W} {w0 : va_W} {stk : List Value}
    (hM : Kz l D tA y bytes maxL frc loc mc ms (.ref b :: As) [(b, .inr (ci, fs))] Pr wf) (hcode : Cond.code y bytes maxL none ∈ kALL) (hini : Cond.initialized y.cls ∈ kALL) (hinst : Cond.instanceMethod y ∈ kALL) (hlink : Cond.methodLink own index y ∈ kALL) (hi : y.name = "<init>")
    (hd : y.cls ≠ "java/lang/invoke/MethodHandle" ∧ y.cls ≠ "java/lang/invoke/VarHandle" ∧ (parseMethodDescriptor y.desc).map (fun d => d.parameters.length) = some As.length)
    (hroom : frc + 1 ≤ fr ∧ 8 + (maxL + 11) + loc ≤ lo) (h0 : n + mc ≤ (gR G).cells ∧ k + ms ≤ (gR G).slots) (hstk : stk = As.reverse ++ .ref b :: st) (hcat : (st.map fun v => v.category).sum ≤ 8) (hdg : decode cc pc = .ok (.invokespecial index, 3))
    (kk : ∀ u, Pr u → J l D G (n + mc) (k + ms) (w0 ++ wf u) lv (pc + 3) st) : J l D G n k (w0 ++ [(b, .inr (ci, fs))]) lv pc stk := by
  subst hstk
  intro H locs ls hP hD hS hl
  obtain ⟨hx, hb, hml, hown, hts, hK, hA, hR⟩ := X
  have hpre := kPre (av := .ref b :: As) hK hP hD [w0.length] last_get rfl
  refine k_callz (va_runI (As := As) (rest := st) (nL := (gc G).maxLocals) (own := own) (Ts := kALL) (bytes := bytes) (maxL := maxL) ⟨hx, hb, rfl, hown, hts⟩ (hM H.size) (cwI As.length hts (kGood hcode) rfl rfl rfl (hts _ hini) (hts _ hlink) (hts _ hinst) hi hd ⟨Nat.le_trans hroom.1 hR.1, Nat.le_trans hroom.2 hR.2⟩) hpre rfl rfl hl.1 rfl (lv_room hcat) hdg h0) hS (fun q _ h => kFree hD hS hA [w0.length] last_get q h) (kFree hD hS hA [w0.length] last_get) (fun u H1 locs1 hu hP1 hD1 hk1 hS1 => ?_)
  have hj := va_join (wr := w0) hP hD [w0.length] (List.range' 0 w0.length) last_get range_get (nd_range _ _) (fun i hi hc => by
    have h1 := (List.mem_range'_1.mp hi).2
    have h2 := List.mem_singleton.mp hc
    omega) hk1 (kFree hD hS hA [w0.length] last_get) hP1 hD1
  exact kk u hu H1 locs1 ls hj.1 hj.2 hS1 hl
