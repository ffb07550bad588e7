def kQy (D : va_G) {S : Type} (Pr : S → Prop) (res : S → Option Value) (w' : S → va_W) (A : Nat → Prop) : Array Value → State → Outcome → State → Prop := fun _ st oc t => (∃ u : S, Pr u ∧ oc = .returned (res u) ∧ va_P D vwCl (w' u) t.heap) ∧ va_F A st t
def Ky (l : Launch) (D : va_G) (tA : Nat → ClassId) (y : MethodName) (cc : ByteArray) (nL : Nat) (ret : Option FieldType) (fr lo : Nat) (av : List Value) (w : va_W) {S : Type} (Pr : S → Prop) (res : S → Option Value) (w' : S → va_W) : Prop :=
  ∀ sz : Nat, Met l y (.code y cc nL ret :: kALL) ({ frames := fr, cells := 0, slots := 0, locals := lo }) (va_Pc av (fun U => U.heap.size = sz ∧ va_P D vwCl w U.heap ∧ kK D tA U ∧ va_D (fun _ => True) w)) (kQy D Pr res w' (va_A w sz)) 0 0 (va_A w sz)
def kEy (l : Launch) (D : va_G) (G : kCx) (cc : ByteArray) (ins : Instr) {S : Type} (Pr : S → Prop) (res : S → Option Value) (w : S → va_W) : Prop := ∀ (u : S) (lv : List (Nat × Value)) (pc : Nat), Pr u → decode cc pc = .ok (ins, 1) → J l D G 0 0 (w u) lv pc (res u).toList
theorem ky_body {l : Launch} {D : va_G} {tA : Nat → ClassId} {y : MethodName} {cc : ByteArray} {nL : Nat} {ret : Option FieldType} {fr lo : Nat} {av : List Value} {w : va_W} {S : Type} {Pr : S → Prop} {res : S → Option Value} {w' : S → va_W} (ins : Instr) (hy : plainName y.cls = true) (hn : (lg_sl av).length ≤ nL)
    (hE : ∀ (p : Program) (e : Env) (R : Room) (s : State) (m : MethodId) (args : Array Value) (below : List Frame) (meth : Method) (c : Code) (A : Nat → Prop), p.tables.exec = Jvm.exec → c.code = cc → meth.sig.returnType = ret → meth.locks = false → ∀ (u : S) (H : Heap) (locs : List Loc) (ls : Array Slot) (pc : Nat), Pr u → decode cc pc = .ok (ins, 1) → va_P D vwCl (w' u) H → va_S A s.heap H locs → W p l e R s m args below meth c H locs 0 0 (MQ below (kQy D Pr res w' A) args s 0 0 A) (F0 m pc ls (res u).toList))
    (body : ∀ G : kCx, kX D tA G cc nL y.cls fr lo → kEy l D G cc ins Pr res w' → J l D G 0 0 w (lv_args 0 av) 0 []) : Ky l D tA y cc nL ret fr lo av w Pr res w' := by
  intro sz
  refine Met.ofW (cc := cc) (maxL := nL) (ret := ret) hy rfl ?_
  intro p e s m args below meth c s₁ B hml hv
  obtain ⟨rfl, hsz, hP, hK, hD0⟩ := hv
  subst hsz
  have hts : ∀ w ∈ kALL, w.before av.toArray s = true := fun w hw => atoms_spec B.pre w (List.mem_cons_of_mem _ hw)
  have hown : s.vm.findClass y.cls = some m.cls := findClass_of_methodNamed B.named
  have hD := hD0.self (sz := s.heap.size)
  have hl := lv_entry av (n := nL) hn
  rw [lg_entry_eq]
  refine body (p, e, _, s, m, av.toArray, below, meth, c, _, va_A w s.heap.size) ⟨B.exec, B.bytes, hml, hown, hts, hK, fun q h => Or.inr h, Nat.le_refl _, Nat.le_refl _⟩ ?_ s.heap [] _ hP hD va_S.rf (by show lv_has _ c.maxLocals _; rw [hml]; exact hl)
  intro u lv pc hu hdg H locs ls hP1 hD1 hS1 hl1
  exact hE p e _ s m av.toArray below meth c (va_A w s.heap.size) B.exec B.bytes B.returns B.notSynchronized u H locs ls pc hu hdg hP1 hS1
section
variable {l : Launch} {D : va_G} {tA : Nat → ClassId} {y : MethodName} {cc : ByteArray} {nL fr lo : Nat} {av : List Value} {w : va_W} {S : Type} {Pr : S → Prop} {w' : S → va_W}
theorem ky_int {r : S → Int32} (hy : plainName y.cls = true) (hn : (lg_sl av).length ≤ nL)
    (body : ∀ G : kCx, kX D tA G cc nL y.cls fr lo → kEy l D G cc .ireturn Pr (fun u => some (.int (r u))) w' → J l D G 0 0 w (lv_args 0 av) 0 []) : Ky l D tA y cc nL (some .int) fr lo av w Pr (fun u => some (.int (r u))) w' :=
  ky_body .ireturn hy hn (fun p e R s m args below meth c A hx hb hr hlk u H locs ls pc hu hdg hP hS => W.iret hx hb hr (fun t ht hW => ⟨⟨u, hu, rfl, by rw [ht]; exact hP⟩, hS.F ht⟩) hS.2.2 hdg hlk) body
theorem ky_bool {r : S → Bool} (hy : plainName y.cls = true) (hn : (lg_sl av).length ≤ nL)
    (body : ∀ G : kCx, kX D tA G cc nL y.cls fr lo → kEy l D G cc .ireturn Pr (fun u => some (.int (bI (r u)))) w' → J l D G 0 0 w (lv_args 0 av) 0 []) : Ky l D tA y cc nL (some .boolean) fr lo av w Pr (fun u => some (.int (bI (r u)))) w' :=
  ky_body .ireturn hy hn (fun p e R s m args below meth c A hx hb hr hlk u H locs ls pc hu hdg hP hS => W.zret hx hb hr (bI_narrow (r u)) (fun t ht hW => ⟨⟨u, hu, rfl, by rw [ht]; exact hP⟩, hS.F ht⟩) hS.2.2 hdg hlk) body
end
section
variable {l : Launch} {D : va_G} {G : kCx} {cc : ByteArray} {S : Type} {Pr : S → Prop} {w : S → va_W} {w0 : va_W} {lv : List (Nat × Value)} {pc : Nat}
theorem j_endIy {r : S → Int32} {v : Int32} (E : kEy l D G cc .ireturn Pr (fun u => some (.int (r u))) w) (hdg : decode cc pc = .ok (.ireturn, 1)) (u : S) (hu : Pr u) (hr : r u = v) (hw : w u = w0) : J l D G 0 0 w0 lv pc [.int v] := by
  subst hr; subst hw; exact E u lv pc hu hdg
theorem j_ws {n k : Nat} {w1 w2 : va_W} {st : List Value} (h : w1 = w2) (kk : J l D G n k w2 lv pc st) : J l D G n k w1 lv pc st := h ▸ kk
end
section
variable {p : Program} {l : Launch} {e : Env} {R : Room} {s : State} {m : MethodId} {args : Array Value} {below : List Frame} {meth : Method} {c : Code} {H : Heap} {locs : List Loc} {cells slots : Nat} {Q : State → Prop}
theorem k_cally {pc : Nat} {ls : Array Slot} {rest st0 : List Value} {a : Array Value} {A0 A1 : Nat → Prop} {H0 : Heap} {free : Addr → Prop} {D : va_G} {S : Type} {Pr : S → Prop} {res : S → Option Value} {w1 : S → va_W} (hr : va_Run p l e R s m args below meth c H locs cells slots 0 0 (F0 m pc ls st0) rest (kQy D Pr res w1 A1 a) free) (hS : va_S A0 H0 H locs) (hA : ∀ q, q < H.size → A1 q → A0 q) (hf : ∀ q, free q → A0 q)
    (kk : ∀ (u : S) (H1 : Heap) (locs1 : List Loc), Pr u → va_P D vwCl (w1 u) H1 → (∀ q : Nat, q < H.size → ¬ A1 q → H1[q]? = H[q]?) → va_S A0 H0 H1 locs1 → W p l e R s m args below meth c H1 locs1 cells slots Q (F0 m (pc + 3) ls ((res u).toList ++ rest))) : W p l e R s m args below meth c H locs cells slots Q (F0 m pc ls st0) := by
  intro T hT X
  obtain ⟨v, st₀, t, T', L, h0, X', hL, e1, e2, ⟨⟨u, hu, hv, hb⟩, hz, hk⟩, st⟩ := hr T hT X
  cases hv
  rw [h0] at hz hk
  obtain ⟨t2, a1, b1⟩ := kk u T'.heap (locs ++ L) hu (by rw [e1]; exact hb) (fun q h1 h2 => by rw [e1]; exact hk q h1 h2)
    ⟨Nat.le_trans hS.1 (by rw [e1]; exact hz), fun q h1 h2 => by rw [e1, hk q (Nat.lt_of_lt_of_le h1 hS.1) (fun z => h2 (hA q (Nat.lt_of_lt_of_le h1 hS.1) z))]; exact hS.2.1 q h1 h2, fun q hq => by
      rcases List.mem_append.mp hq with h | h
      · exact hS.2.2 q h
      · exact hf _ (hL q h)⟩ T' rfl X'
  exact ⟨t2, st t2 a1, b1⟩
end
theorem j_callVy {l : Launch} {D : va_G} {tA : Nat → ClassId} {G : kCx} {cc : ByteArray} {nL : Nat} {own : String} {fr lo n k : Nat} {w : va_W} {lv : List (Nat × Value)} {pc : Nat} {st : List Value} (X : kX D tA G cc nL own fr lo) {y : MethodName} {bytes : ByteArray} {maxL : Nat} {ret : Option FieldType} {frc loc index b : Nat} {As : List Value} {wc : va_W} {S : Type} {Pr : S → Prop} {res : S → Option Value} {wf w' : S → va_W} {stk : List Value}
    (hM : Ky l D tA y bytes maxL ret frc loc (.ref b :: As) wc Pr res wf) (hcd : kCardV y bytes maxL ret As.length) (hlink : Cond.methodLink own index y ∈ kALL)
    (q0 : Nat) {ci : Nat} {fs : List Value} {r : vw_C} (he : w[q0]? = some (b, .inr (ci, fs))) (hcl : vwCl[ci]? = some r) (hrc : r.1 = y.cls) (is : List Nat) (hC : is.map (fun i => w[i]?) = wc.map some) (hn : va_nd is = true) (hfc : ∀ u, (wf u).map Prod.fst = wc.map Prod.fst) (hw : ∀ u, kPlug w is (wf u) = w' u)
    (hroom : frc + 1 ≤ fr ∧ 8 + (maxL + 11) + loc ≤ lo) (h0 : n ≤ (gR G).cells ∧ k ≤ (gR G).slots) (hstk : stk = As.reverse ++ .ref b :: st) (hcat : (st.map fun v => v.category).sum ≤ 8) (hdg : decode cc pc = .ok (.invokevirtual index, 3))
    (kk : ∀ u, Pr u → J l D G n k (w' u) lv (pc + 3) ((res u).toList ++ st)) : J l D G n k w lv pc stk := by
  subst hstk
  intro H locs ls hP hD hS hl
  obtain ⟨hx, hb, hml, hown, hts, hK, hA, hR⟩ := X
  obtain ⟨⟨hcode, hini, hd⟩, hinst, hsel⟩ := hcd
  have hpre := kPre (av := .ref b :: As) hK hP hD is hC hn
  refine k_cally (va_runV (As := As) (rest := st) (nL := (gc G).maxLocals) (C := y.cls) (own := own) (Ts := kALL) (bytes := bytes) (maxL := maxL) (ret := ret) ⟨hx, hb, rfl, hown, hts⟩ (hM H.size) (cwV As.length hts (kGoodApp (fun z hz => ?_) (kGood hcode)) rfl rfl rfl ⟨rfl, hd⟩ ⟨Nat.le_trans hroom.1 hR.1, Nat.le_trans hroom.2 hR.2⟩) ⟨hpre.1, ?_, hpre.2⟩ rfl rfl hl.1 rfl (lv_room hcat) hdg h0) hS (fun q _ h => kFree hD hS hA is hC q h) (kFree hD hS hA is hC) (fun u H1 locs1 hu hP1 hk1 hS1 => ?_)
  · rcases List.mem_cons.mp hz with rfl | hz
    · exact ⟨hlink, good_of_word (kALL_good _ hlink)⟩
    rcases List.mem_cons.mp hz with rfl | hz
    · exact ⟨hinst, good_of_word (kALL_good _ hinst)⟩
    rcases List.mem_cons.mp hz with rfl | hz
    · exact ⟨hsel, good_of_word (kALL_good _ hsel)⟩
    rcases List.mem_cons.mp hz with rfl | hz
    · exact ⟨hini, good_of_word (kALL_good _ hini)⟩
    · cases hz
  · have := va_recv hK.1 hP hcl he
    rw [hrc] at this
    exact this
  · exact kk u hu H1 locs1 ls (hw u ▸ kP_plug hP hD hC hn (by simpa using congrArg List.length (hfc u)) hk1 hP1) (kD_same hD (hw u ▸ kPlug_fst hC hn (hfc u))) hS1 hl
