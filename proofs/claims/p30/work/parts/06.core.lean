theorem kGoodApp {big a b : List Cond} (ha : GoodIn big a) (hb : GoodIn big b) : GoodIn big (a ++ b) := fun w h => (List.mem_append.mp h).elim (ha w) (hb w)
/-! A judgement over pure data: from any machine that stands at pc with the locals lv, the stack st and the cells w, the goal of the walk is reached. -/
def nF (f : Nat → Nat) : Nat → Int32 := fun j => nI (f j)
def bI : Bool → Int32
  | true => 1
  | false => 0
theorem bI_t {b : Bool} (h : b = true) : bI b = 1 := by rw [h]; rfl
theorem bI_f {b : Bool} (h : b = false) : bI b = 0 := by rw [h]; rfl
theorem bI_0 (b : Bool) : bI b = 0 ↔ b = false := by
  cases b
  · exact ⟨fun _ => rfl, fun _ => rfl⟩
  · exact ⟨fun h => absurd h (by decide), fun h => absurd h (by decide)⟩
theorem bI_n0 (b : Bool) : (¬ bI b = 0) ↔ b = true := by
  rw [bI_0]; cases b <;> simp
theorem upd_nF (f : Nat → Nat) (i v : Nat) : upd (nF f) i (nI v) = nF (va_up f i v) := by
  funext j
  by_cases h : j = i
  · subst h; simp [upd, nF, va_up]
  · simp [upd, nF, va_up, h]
def kTY (tA : Nat → ClassId) : List (ClassId × FieldType) := [(tA 0, .int), (tA 1, .char), (tA 2, .object "BallastClub$State")]
abbrev kN1 : Cond := .methodLinkNest "BallastClub$State" 62 yX4_isHalfDay "BallastClub"
abbrev kN2 : Cond := .methodLinkNest "BallastClub$State" 102 yX4_limitFor "BallastClub"
def kK (D : va_G) (tA : Nat → ClassId) (U : State) : Prop := va_K D vwCl (kTY tA) U ∧ va_Nw kN1 U ∧ va_Nw kN2 U ∧ va_AO "BallastClub$State" U
theorem kK.warm {D : va_G} {tA : Nat → ClassId} {s U : State} (hW : s.WarmedH U.vm) (h : kK D tA s) : kK D tA U :=
  ⟨va_K.moved hW.alike h.1, va_Nw.warmM hW h.2.1, va_Nw.warmM hW h.2.2.1, va_AO.moved hW.alike h.2.2.2⟩
theorem kK.same {D : va_G} {tA : Nat → ClassId} {u U : State} (e : u.vm = U.vm) (h : kK D tA u) : kK D tA U :=
  ⟨va_K.moved (by rw [e]; exact Vm.Alike.refl _) h.1, va_Nw.same rfl e h.2.1, va_Nw.same rfl e h.2.2.1, va_AO.moved (by rw [e]; exact Vm.Alike.refl _) h.2.2.2⟩
/-- a method's end: this answer, these cells -/
def kQ (D : va_G) (res : Option Value) (w' : va_W) (A : Nat → Prop) : Array Value → State → Outcome → State → Prop := fun _ st oc t => (oc = .returned res ∧ va_P D vwCl w' t.heap) ∧ va_F A st t
/-- a method's contract: on the cells w, with these arguments, it returns res and leaves the cells w' -/
def Kx (l : Launch) (D : va_G) (tA : Nat → ClassId) (y : MethodName) (cc : ByteArray) (nL : Nat) (ret : Option FieldType) (fr lo : Nat) (av : List Value) (w : va_W) (res : Option Value) (w' : va_W) : Prop :=
  ∀ sz : Nat, Met l y (.code y cc nL ret :: kALL) ({ frames := fr, cells := 0, slots := 0, locals := lo }) (va_Pc av (fun U => U.heap.size = sz ∧ va_P D vwCl w U.heap ∧ kK D tA U ∧ va_D (fun _ => True) w)) (kQ D res w' (va_A w sz)) 0 0 (va_A w sz)
/-- what stays the same while a body is walked -/
abbrev kCx : Type := Program × Env × Room × State × MethodId × Array Value × List Frame × Method × Code × (State → Prop) × (Nat → Prop)
abbrev gp (G : kCx) : Program := G.1
abbrev ge (G : kCx) : Env := G.2.1
abbrev gR (G : kCx) : Room := G.2.2.1
abbrev gs (G : kCx) : State := G.2.2.2.1
abbrev gm (G : kCx) : MethodId := G.2.2.2.2.1
abbrev ga (G : kCx) : Array Value := G.2.2.2.2.2.1
abbrev gb (G : kCx) : List Frame := G.2.2.2.2.2.2.1
abbrev gh (G : kCx) : Method := G.2.2.2.2.2.2.2.1
abbrev gc (G : kCx) : Code := G.2.2.2.2.2.2.2.2.1
abbrev gQ (G : kCx) : State → Prop := G.2.2.2.2.2.2.2.2.2.1
abbrev gA (G : kCx) : Nat → Prop := G.2.2.2.2.2.2.2.2.2.2
def J (l : Launch) (D : va_G) (G : kCx) (n k : Nat) (w : va_W) (lv : List (Nat × Value)) (pc : Nat) (st : List Value) : Prop :=
  ∀ (H : Heap) (locs : List Loc) (ls : Array Slot), va_P D vwCl w H → va_D (gA G) w → va_S (gA G) (gs G).heap H locs → lv_has ls (gc G).maxLocals lv → W (gp G) l (ge G) (gR G) (gs G) (gm G) (ga G) (gb G) (gh G) (gc G) H locs n k (gQ G) (F0 (gm G) pc ls st)
def kX (D : va_G) (tA : Nat → ClassId) (G : kCx) (cc : ByteArray) (nL : Nat) (own : String) (fr lo : Nat) : Prop :=
  (gp G).tables.exec = Jvm.exec ∧ (gc G).code = cc ∧ (gc G).maxLocals = nL ∧ (gs G).vm.findClass own = some (gm G).cls ∧ (∀ w ∈ kALL, w.before (ga G) (gs G) = true) ∧ kK D tA (gs G) ∧ (∀ q, (gs G).heap.size ≤ q → gA G q) ∧ (fr ≤ (gR G).frames ∧ lo ≤ (gR G).locals)
/-- the cells of a callee put back at their places -/
def kPlug : va_W → List Nat → va_W → va_W
  | w, i :: is, x :: xs => kPlug (w.set i x) is xs
  | w, _, _ => w
theorem kPlug_out : ∀ (is : List Nat) (xs w : va_W) (k : Nat), k ∉ is → (kPlug w is xs)[k]? = w[k]?
  | [], xs, w, k, _ => by cases xs <;> rfl
  | i :: is, [], w, k, _ => rfl
  | i :: is, x :: xs, w, k, h => by
    have h1 : k ≠ i := fun e => h (e ▸ List.mem_cons_self)
    have h2 : k ∉ is := fun e => h (List.mem_cons_of_mem _ e)
    show (kPlug (w.set i x) is xs)[k]? = _
    rw [kPlug_out is xs (w.set i x) k h2, List.getElem?_set_ne (Ne.symm h1)]
theorem kPlug_in : ∀ (is : List Nat) (xs w : va_W) (j k : Nat), va_nd is = true → is[j]? = some k → k < w.length → is.length = xs.length → (kPlug w is xs)[k]? = xs[j]?
  | [], xs, w, j, k, _, h, _, _ => by simp at h
  | i :: is, [], w, j, k, _, _, _, hl => by simp at hl
  | i :: is, x :: xs, w, j, k, hn, h, hk, hl => by
    simp only [va_nd, Bool.and_eq_true, decide_eq_true_eq] at hn
    show (kPlug (w.set i x) is xs)[k]? = _
    cases j with
    | zero =>
      rw [List.getElem?_cons_zero] at h
      cases h
      rw [kPlug_out is xs (w.set i x) i hn.1, List.getElem?_set_self hk, List.getElem?_cons_zero]
    | succ j =>
      rw [List.getElem?_cons_succ] at h ⊢
      exact kPlug_in is xs (w.set i x) j k hn.2 h (by rw [List.length_set]; exact hk) (by simpa using hl)
theorem kD_same {A : Nat → Prop} {w w' : va_W} (h : va_D A w) (e : w'.map Prod.fst = w.map Prod.fst) : va_D A w' := by
  have key : ∀ (k : Nat) (q : Nat × va_E), w'[k]? = some q → ∃ p, w[k]? = some p ∧ p.1 = q.1 := by
    intro k q hk
    have h1 : (w'.map Prod.fst)[k]? = some q.1 := by rw [List.getElem?_map, hk]; rfl
    rw [e, List.getElem?_map] at h1
    cases hp : w[k]? with
    | none => rw [hp] at h1; cases h1
    | some p => rw [hp] at h1; exact ⟨p, rfl, Option.some.inj h1⟩
  refine ⟨fun i j p q hi hj hpq => ?_, fun k q hk => ?_⟩
  · obtain ⟨p', a1, a2⟩ := key i p hi
    obtain ⟨q', b1, b2⟩ := key j q hj
    exact h.1 i j p' q' a1 b1 (by rw [a2, b2]; exact hpq)
  · obtain ⟨p, a1, a2⟩ := key k q hk
    rw [← a2]
    exact h.2 k p a1
theorem kPlug_fst {w wc wc' : va_W} {is : List Nat} (hC : is.map (fun i => w[i]?) = wc.map some) (hn : va_nd is = true) (hf : wc'.map Prod.fst = wc.map Prod.fst) : (kPlug w is wc').map Prod.fst = w.map Prod.fst := by
  have hl : wc'.length = wc.length := by simpa using congrArg List.length hf
  have hlen : is.length = wc.length := by have := congrArg List.length hC; simpa using this
  apply List.ext_getElem?
  intro k
  rw [List.getElem?_map, List.getElem?_map]
  by_cases hin : k ∈ is
  · obtain ⟨j, hj⟩ := List.getElem?_of_mem hin
    have hjl : j < wc.length := by rw [← hlen]; exact (List.getElem?_eq_some_iff.mp hj).1
    have h1 : (is.map (fun i => w[i]?))[j]? = (wc.map some)[j]? := by rw [hC]
    rw [List.getElem?_map, List.getElem?_map, hj, List.getElem?_eq_getElem hjl] at h1
    have h2 : w[k]? = some wc[j] := Option.some.inj h1
    have h3 : (wc'.map Prod.fst)[j]? = (wc.map Prod.fst)[j]? := by rw [hf]
    rw [List.getElem?_map, List.getElem?_map, List.getElem?_eq_getElem hjl] at h3
    rw [kPlug_in is wc' w j k hn hj (List.getElem?_eq_some_iff.mp h2).1 (by rw [hlen, hl]), h2]
    exact h3
  · rw [kPlug_out is wc' w k hin]
theorem kP_read {D : va_G} {A : Nat → Prop} {w wc : va_W} {is : List Nat} {H H1 : Heap} (hP : va_P D vwCl w H) (hD : va_D A w) (hC : is.map (fun i => w[i]?) = wc.map some)
    (hk : ∀ q : Nat, q < H.size → ¬ va_A wc H.size q → H1[q]? = H[q]?) (hP1 : va_P D vwCl wc H1) : va_P D vwCl w H1 := by
  have at' : ∀ (j : Nat) (q : Nat × va_E), wc[j]? = some q → ∃ i, is[j]? = some i ∧ w[i]? = some q := by
    intro k q hq
    have h1 : (is.map (fun i => w[i]?))[k]? = some (some q) := by rw [hC, List.getElem?_map, hq]; rfl
    rw [List.getElem?_map] at h1
    cases hi : is[k]? with
    | none => rw [hi] at h1; cases h1
    | some i => rw [hi] at h1; exact ⟨i, rfl, Option.some.inj h1⟩
  intro k q hkq
  by_cases hin : ∃ (j : Nat) (e : va_E), wc[j]? = some (q.1, e)
  · obtain ⟨j, e, h⟩ := hin
    obtain ⟨i, h1, h2⟩ := at' j (q.1, e) h
    have hki := hD.1 k i q (q.1, e) hkq h2 rfl
    subst hki
    rw [hkq] at h2
    rw [← Option.some.inj h2] at h
    exact hP1 j _ h
  · refine (hP k q hkq).kept (hk q.1 (hP k q hkq).lt (fun h => ?_))
    rcases h with ⟨j, e, h⟩ | h
    · exact hin ⟨j, e, h⟩
    · exact absurd (hP k q hkq).lt (by omega)
theorem kSub {D : va_G} {w wc : va_W} {H : Heap} (hP : va_P D vwCl w H) {is : List Nat} (hC : is.map (fun i => w[i]?) = wc.map some) : va_P D vwCl wc H := by
  intro k q hq
  have h1 : (is.map (fun i => w[i]?))[k]? = some (some q) := by rw [hC, List.getElem?_map, hq]; rfl
  rw [List.getElem?_map] at h1
  cases hi : is[k]? with
  | none => rw [hi] at h1; cases h1
  | some i => rw [hi] at h1; exact hP i q (Option.some.inj h1)
theorem kP_block {D : va_G} {A : Nat → Prop} {w wc wc' wr w' : va_W} {is js ks : List Nat} {H H1 : Heap} (hP : va_P D vwCl w H) (hD : va_D A w) (hC : is.map (fun i => w[i]?) = wc.map some) (hR : js.map (fun i => w[i]?) = wr.map some) (hn : va_nd (is ++ js) = true) (hf : wc'.map Prod.fst = wc.map Prod.fst) (hB : ks.map (fun i => (wc' ++ wr)[i]?) = w'.map some) (hnk : va_nd ks = true)
    (hk : ∀ q : Nat, q < H.size → ¬ va_A wc H.size q → H1[q]? = H[q]?) (hP1 : va_P D vwCl wc' H1) : va_P D vwCl w' H1 ∧ va_D A w' := by
  have hD2 : va_D A (wc ++ wr) := hD.sub (is ++ js) hn (by rw [List.map_append, List.map_append, hC, hR])
  have hPr : va_P D vwCl wr H1 := by
    intro k q hq
    have hq0 := kSub hP hR k q hq
    refine hq0.kept (hk q.1 hq0.lt (fun h => ?_))
    rcases h with ⟨j, e, h⟩ | h
    · have e1 : (wc ++ wr)[wc.length + k]? = some q := by rw [List.getElem?_append_right (by omega), Nat.add_sub_cancel_left]; exact hq
      have hj : j < wc.length := (List.getElem?_eq_some_iff.mp h).1
      have e2 : (wc ++ wr)[j]? = some (q.1, e) := by rw [List.getElem?_append_left hj]; exact h
      have := hD2.1 (wc.length + k) j q (q.1, e) e1 e2 rfl
      omega
    · exact absurd hq0.lt (by omega)
  have hD3 : va_D A (wc' ++ wr) := kD_same hD2 (by rw [List.map_append, List.map_append, hf])
  exact ⟨kSub (hP1.app hPr) hB, hD3.sub ks hnk hB⟩
theorem fst_app {A A' B B' : va_W} (h1 : A'.map Prod.fst = A.map Prod.fst) (h2 : B'.map Prod.fst = B.map Prod.fst) : (A' ++ B').map Prod.fst = (A ++ B).map Prod.fst := by
  rw [List.map_append, List.map_append, h1, h2]
theorem kP_plug {D : va_G} {A : Nat → Prop} {w wc wc' : va_W} {is : List Nat} {H H1 : Heap} (hP : va_P D vwCl w H) (hD : va_D A w) (hC : is.map (fun i => w[i]?) = wc.map some) (hn : va_nd is = true) (hl : wc'.length = wc.length)
    (hk : ∀ q : Nat, q < H.size → ¬ va_A wc H.size q → H1[q]? = H[q]?) (hP1 : va_P D vwCl wc' H1) : va_P D vwCl (kPlug w is wc') H1 := by
  have hlen : is.length = wc.length := by have := congrArg List.length hC; simpa using this
  have at' : ∀ (j : Nat) (q : Nat × va_E), wc[j]? = some q → ∃ i, is[j]? = some i ∧ w[i]? = some q := by
    intro k q hq
    have h1 : (is.map (fun i => w[i]?))[k]? = some (some q) := by rw [hC, List.getElem?_map, hq]; rfl
    rw [List.getElem?_map] at h1
    cases hi : is[k]? with
    | none => rw [hi] at h1; cases h1
    | some i => rw [hi] at h1; exact ⟨i, rfl, Option.some.inj h1⟩
  intro k q hkq
  by_cases hin : k ∈ is
  · obtain ⟨j, hj⟩ := List.getElem?_of_mem hin
    have hjl : j < wc.length := by rw [← hlen]; exact (List.getElem?_eq_some_iff.mp hj).1
    obtain ⟨i, h1, h2⟩ := at' j wc[j] (List.getElem?_eq_getElem hjl)
    rw [hj] at h1
    cases h1
    rw [kPlug_in is wc' w j k hn hj (List.getElem?_eq_some_iff.mp h2).1 (by rw [hlen, hl])] at hkq
    exact hP1 j q hkq
  · rw [kPlug_out is wc' w k hin] at hkq
    refine (hP k q hkq).kept (hk q.1 (hP k q hkq).lt (fun h => ?_))
    rcases h with ⟨j, e, h⟩ | h
    · obtain ⟨i, h1, h2⟩ := at' j (q.1, e) h
      have := hD.1 k i q (q.1, e) hkq h2 rfl
      subst this
      exact hin (List.mem_of_getElem? h1)
    · exact absurd (hP k q hkq).lt (by omega)

section
variable {l : Launch} {D : va_G} {tA : Nat → ClassId} {G : kCx} {cc : ByteArray} {nL : Nat} {own : String} {fr lo n k : Nat} {w : va_W} {lv : List (Nat × Value)} {pc : Nat} {st : List Value}
theorem j_iconst (X : kX D tA G cc nL own fr lo) {i : Int} {v : Int32} (hdg : decode cc pc = .ok (.iconst i, 1)) (hv : Int32.ofInt i = v) (kk : J l D G n k w lv (pc + 1) (.int v :: st)) : J l D G n k w lv pc st :=
  fun H locs ls hP hD hS hl => lv_iconst X.1 X.2.1 hdg hv (kk H locs ls hP hD hS hl)
theorem j_bipush (X : kX D tA G cc nL own fr lo) {i : Int} {v : Int32} (hdg : decode cc pc = .ok (.bipush i, 2)) (hv : (Int8.ofInt i).toInt32 = v) (kk : J l D G n k w lv (pc + 2) (.int v :: st)) : J l D G n k w lv pc st :=
  fun H locs ls hP hD hS hl => lv_bipush X.1 X.2.1 hdg hv (kk H locs ls hP hD hS hl)
theorem j_sipush (X : kX D tA G cc nL own fr lo) {i : Int} {v : Int32} (hdg : decode cc pc = .ok (.sipush i, 3)) (hv : (Int16.ofInt i).toInt32 = v) (kk : J l D G n k w lv (pc + 3) (.int v :: st)) : J l D G n k w lv pc st :=
  fun H locs ls hP hD hS hl => lv_sipush X.1 X.2.1 hdg hv (kk H locs ls hP hD hS hl)
theorem j_iload_n (X : kX D tA G cc nL own fr lo) {kk0 : Fin 4} {i : Nat} {x : Int32} (hdg : decode cc pc = .ok (.iload_n kk0, 1)) (hi : (kk0 : Nat) = i) {q : Nat} (hk : lv[q]? = some (i, .int x)) (kk : J l D G n k w lv (pc + 1) (.int x :: st)) : J l D G n k w lv pc st :=
  fun H locs ls hP hD hS hl => lv_iload_n X.1 X.2.1 hdg hi (lv_at hl q hk) (kk H locs ls hP hD hS hl)
theorem j_iload (X : kX D tA G cc nL own fr lo) {i : Nat} {x : Int32} (hdg : decode cc pc = .ok (.iload i, 2)) {q : Nat} (hk : lv[q]? = some (i, .int x)) (kk : J l D G n k w lv (pc + 2) (.int x :: st)) : J l D G n k w lv pc st :=
  fun H locs ls hP hD hS hl => lv_iload X.1 X.2.1 hdg (lv_at hl q hk) (kk H locs ls hP hD hS hl)
theorem j_aload_n (X : kX D tA G cc nL own fr lo) {kk0 : Fin 4} {i : Nat} {x : Nat} (hdg : decode cc pc = .ok (.aload_n kk0, 1)) (hi : (kk0 : Nat) = i) {q : Nat} (hk : lv[q]? = some (i, .ref x)) (kk : J l D G n k w lv (pc + 1) (.ref x :: st)) : J l D G n k w lv pc st :=
  fun H locs ls hP hD hS hl => lv_aload_n X.1 X.2.1 hdg hi (lv_at hl q hk) (kk H locs ls hP hD hS hl)
theorem j_aload (X : kX D tA G cc nL own fr lo) {i : Nat} {x : Nat} (hdg : decode cc pc = .ok (.aload i, 2)) {q : Nat} (hk : lv[q]? = some (i, .ref x)) (kk : J l D G n k w lv (pc + 2) (.ref x :: st)) : J l D G n k w lv pc st :=
  fun H locs ls hP hD hS hl => lv_aload X.1 X.2.1 hdg (lv_at hl q hk) (kk H locs ls hP hD hS hl)
theorem j_istore_n (X : kX D tA G cc nL own fr lo) {kk0 : Fin 4} {i : Nat} {x : Int32} {lv' : List (Nat × Value)} (hdg : decode cc pc = .ok (.istore_n kk0, 1)) (hi : (kk0 : Nat) = i) (hn : i < nL) (hl' : (i, Value.int x) :: lv.filter (fun q => !(q.1 == i) && !(q.1 + 1 == i && q.2.category == 2)) = lv') (kk : J l D G n k w lv' (pc + 1) st) : J l D G n k w lv pc (.int x :: st) :=
  fun H locs ls hP hD hS hl => lv_istore_n X.1 X.2.1 hdg hi hl (by rw [X.2.2.1]; exact hn) hl' (fun ls hl => kk H locs ls hP hD hS hl)
theorem j_istore (X : kX D tA G cc nL own fr lo) {i : Nat} {x : Int32} {lv' : List (Nat × Value)} (hdg : decode cc pc = .ok (.istore i, 2)) (hn : i < nL) (hl' : (i, Value.int x) :: lv.filter (fun q => !(q.1 == i) && !(q.1 + 1 == i && q.2.category == 2)) = lv') (kk : J l D G n k w lv' (pc + 2) st) : J l D G n k w lv pc (.int x :: st) :=
  fun H locs ls hP hD hS hl => lv_istore X.1 X.2.1 hdg hl (by rw [X.2.2.1]; exact hn) hl' (fun ls hl => kk H locs ls hP hD hS hl)
theorem j_astore_n (X : kX D tA G cc nL own fr lo) {kk0 : Fin 4} {i : Nat} {x : Nat} {lv' : List (Nat × Value)} (hdg : decode cc pc = .ok (.astore_n kk0, 1)) (hi : (kk0 : Nat) = i) (hn : i < nL) (hl' : (i, Value.ref x) :: lv.filter (fun q => !(q.1 == i) && !(q.1 + 1 == i && q.2.category == 2)) = lv') (kk : J l D G n k w lv' (pc + 1) st) : J l D G n k w lv pc (.ref x :: st) :=
  fun H locs ls hP hD hS hl => lv_astore_n X.1 X.2.1 hdg hi hl (by rw [X.2.2.1]; exact hn) hl' (fun ls hl => kk H locs ls hP hD hS hl)
theorem j_astore (X : kX D tA G cc nL own fr lo) {i : Nat} {x : Nat} {lv' : List (Nat × Value)} (hdg : decode cc pc = .ok (.astore i, 2)) (hn : i < nL) (hl' : (i, Value.ref x) :: lv.filter (fun q => !(q.1 == i) && !(q.1 + 1 == i && q.2.category == 2)) = lv') (kk : J l D G n k w lv' (pc + 2) st) : J l D G n k w lv pc (.ref x :: st) :=
  fun H locs ls hP hD hS hl => lv_astore X.1 X.2.1 hdg hl (by rw [X.2.2.1]; exact hn) hl' (fun ls hl => kk H locs ls hP hD hS hl)
theorem j_iinc (X : kX D tA G cc nL own fr lo) {i : Nat} {j : Int} {x v : Int32} {lv' : List (Nat × Value)} (hdg : decode cc pc = .ok (.iinc i j, 3)) {q : Nat} (hk : lv[q]? = some (i, .int x)) (hv : x + Int32.ofInt j = v) (hn : i < nL) (hl' : (i, Value.int v) :: lv.filter (fun q => !(q.1 == i) && !(q.1 + 1 == i && q.2.category == 2)) = lv') (kk : J l D G n k w lv' (pc + 3) st) : J l D G n k w lv pc st :=
  fun H locs ls hP hD hS hl => lv_iinc X.1 X.2.1 hdg hl hk hv (by rw [X.2.2.1]; exact hn) hl' (fun ls hl => kk H locs ls hP hD hS hl)
theorem j_lv (X : kX D tA G cc nL own fr lo) (ks : List Nat) {lv' : List (Nat × Value)} (hl' : lv_pick lv ks = lv') (kk : J l D G n k w lv' pc st) : J l D G n k w lv pc st :=
  fun H locs ls hP hD hS hl => kk H locs ls hP hD hS (lv_sub hl ks hl')
theorem j_iadd (X : kX D tA G cc nL own fr lo) {x y v : Int32} (hdg : decode cc pc = .ok (.iadd, 1)) (hv : x + y = v) (kk : J l D G n k w lv (pc + 1) (.int v :: st)) : J l D G n k w lv pc (.int y :: .int x :: st) :=
  fun H locs ls hP hD hS hl => lv_iadd X.1 X.2.1 hdg (by rw [hv]; exact kk H locs ls hP hD hS hl)
theorem j_isub (X : kX D tA G cc nL own fr lo) {x y v : Int32} (hdg : decode cc pc = .ok (.isub, 1)) (hv : x - y = v) (kk : J l D G n k w lv (pc + 1) (.int v :: st)) : J l D G n k w lv pc (.int y :: .int x :: st) :=
  fun H locs ls hP hD hS hl => lv_isub X.1 X.2.1 hdg (by rw [hv]; exact kk H locs ls hP hD hS hl)
theorem j_imul (X : kX D tA G cc nL own fr lo) {x y v : Int32} (hdg : decode cc pc = .ok (.imul, 1)) (hv : x * y = v) (kk : J l D G n k w lv (pc + 1) (.int v :: st)) : J l D G n k w lv pc (.int y :: .int x :: st) :=
  fun H locs ls hP hD hS hl => lv_imul X.1 X.2.1 hdg (by rw [hv]; exact kk H locs ls hP hD hS hl)
theorem j_idiv (X : kX D tA G cc nL own fr lo) {x y v : Int32} (hdg : decode cc pc = .ok (.idiv, 1)) (hne : ¬ y = 0) (hv : x / y = v) (kk : J l D G n k w lv (pc + 1) (.int v :: st)) : J l D G n k w lv pc (.int y :: .int x :: st) :=
  fun H locs ls hP hD hS hl => lv_idiv X.1 X.2.1 hdg hne (by rw [hv]; exact kk H locs ls hP hD hS hl)
theorem j_irem (X : kX D tA G cc nL own fr lo) {x y v : Int32} (hdg : decode cc pc = .ok (.irem, 1)) (hne : ¬ y = 0) (hv : x - x / y * y = v) (kk : J l D G n k w lv (pc + 1) (.int v :: st)) : J l D G n k w lv pc (.int y :: .int x :: st) :=
  fun H locs ls hP hD hS hl => lv_irem X.1 X.2.1 hdg hne (by rw [hv]; exact kk H locs ls hP hD hS hl)
theorem j_ineg (X : kX D tA G cc nL own fr lo) {x v : Int32} (hdg : decode cc pc = .ok (.ineg, 1)) (hv : -x = v) (kk : J l D G n k w lv (pc + 1) (.int v :: st)) : J l D G n k w lv pc (.int x :: st) :=
  by
  subst hv
  exact fun H locs ls hP hD hS hl => lv_ineg X.1 X.2.1 hdg (kk H locs ls hP hD hS hl)
theorem j_iand (X : kX D tA G cc nL own fr lo) {x y v : Int32} (hdg : decode cc pc = .ok (.iand, 1)) (hv : x &&& y = v) (kk : J l D G n k w lv (pc + 1) (.int v :: st)) : J l D G n k w lv pc (.int y :: .int x :: st) :=
  fun H locs ls hP hD hS hl => lv_iand X.1 X.2.1 hdg (by rw [hv]; exact kk H locs ls hP hD hS hl)
theorem j_i2c (X : kX D tA G cc nL own fr lo) {x v : Int32} (hdg : decode cc pc = .ok (.i2c, 1)) (hv : (x.toUInt32 % 65536).toInt32 = v) (kk : J l D G n k w lv (pc + 1) (.int v :: st)) : J l D G n k w lv pc (.int x :: st) :=
  fun H locs ls hP hD hS hl => lv_i2c X.1 X.2.1 hdg hv (kk H locs ls hP hD hS hl)
theorem j_dup (X : kX D tA G cc nL own fr lo) {va : Value} (hdg : decode cc pc = .ok (.dup, 1)) (hva : va.category = 1) (kk : J l D G n k w lv (pc + 1) (va :: va :: st)) : J l D G n k w lv pc (va :: st) :=
  fun H locs ls hP hD hS hl => lv_dup X.1 X.2.1 hdg hva (kk H locs ls hP hD hS hl)
theorem j_pop (X : kX D tA G cc nL own fr lo) {va : Value} (hdg : decode cc pc = .ok (.pop, 1)) (hva : va.category = 1) (kk : J l D G n k w lv (pc + 1) st) : J l D G n k w lv pc (va :: st) :=
  fun H locs ls hP hD hS hl => lv_pop X.1 X.2.1 hdg hva (kk H locs ls hP hD hS hl)
theorem j_dup2 (X : kX D tA G cc nL own fr lo) {va vb : Value} (hdg : decode cc pc = .ok (.dup2, 1)) (hva : va.category = 1) (hvb : vb.category = 1) (kk : J l D G n k w lv (pc + 1) (va :: vb :: va :: vb :: st)) : J l D G n k w lv pc (va :: vb :: st) :=
  fun H locs ls hP hD hS hl => lv_dup2_11 X.1 X.2.1 hdg hva hvb (kk H locs ls hP hD hS hl)
theorem j_if_eq (X : kX D tA G cc nL own fr lo) {x : Int32} {off : Int} {tgt : Nat} {P : Prop} (hdg : decode cc pc = .ok (.ifCond .eq off, 3)) (ht : (pc : Int) + off = (tgt : Int)) (hP : (x = 0) ↔ P) (k1 : P → J l D G n k w lv tgt st) (k2 : ¬ P → J l D G n k w lv (pc + 3) st) : J l D G n k w lv pc (.int x :: st) :=
  fun H locs ls hP1 hD hS hl => lv_if_eq X.1 X.2.1 hdg ht (fun h => k1 (hP.mp h) H locs ls hP1 hD hS hl) (fun h => k2 (fun q => h (hP.mpr q)) H locs ls hP1 hD hS hl)
theorem j_if_eq_t (X : kX D tA G cc nL own fr lo) {x : Int32} {off : Int} {tgt : Nat} (hdg : decode cc pc = .ok (.ifCond .eq off, 3)) (ht : (pc : Int) + off = (tgt : Int)) (hP : x = 0) (k1 : J l D G n k w lv tgt st) : J l D G n k w lv pc (.int x :: st) :=
  fun H locs ls hP1 hD hS hl => lv_if_eq X.1 X.2.1 hdg ht (fun _ => k1 H locs ls hP1 hD hS hl) (fun h => absurd hP h)
theorem j_if_eq_f (X : kX D tA G cc nL own fr lo) {x : Int32} {off : Int} {tgt : Nat} (hdg : decode cc pc = .ok (.ifCond .eq off, 3)) (ht : (pc : Int) + off = (tgt : Int)) (hP : ¬ (x = 0)) (k2 : J l D G n k w lv (pc + 3) st) : J l D G n k w lv pc (.int x :: st) :=
  fun H locs ls hP1 hD hS hl => lv_if_eq X.1 X.2.1 hdg ht (fun h => absurd h hP) (fun _ => k2 H locs ls hP1 hD hS hl)
theorem j_icmp_eq (X : kX D tA G cc nL own fr lo) {x y : Int32} {off : Int} {tgt : Nat} {P : Prop} (hdg : decode cc pc = .ok (.if_icmp .eq off, 3)) (ht : (pc : Int) + off = (tgt : Int)) (hP : (x = y) ↔ P) (k1 : P → J l D G n k w lv tgt st) (k2 : ¬ P → J l D G n k w lv (pc + 3) st) : J l D G n k w lv pc (.int y :: .int x :: st) :=
  fun H locs ls hP1 hD hS hl => lv_icmp_eq X.1 X.2.1 hdg ht (fun h => k1 (hP.mp h) H locs ls hP1 hD hS hl) (fun h => k2 (fun q => h (hP.mpr q)) H locs ls hP1 hD hS hl)
theorem j_icmp_eq_t (X : kX D tA G cc nL own fr lo) {x y : Int32} {off : Int} {tgt : Nat} (hdg : decode cc pc = .ok (.if_icmp .eq off, 3)) (ht : (pc : Int) + off = (tgt : Int)) (hP : x = y) (k1 : J l D G n k w lv tgt st) : J l D G n k w lv pc (.int y :: .int x :: st) :=
  fun H locs ls hP1 hD hS hl => lv_icmp_eq X.1 X.2.1 hdg ht (fun _ => k1 H locs ls hP1 hD hS hl) (fun h => absurd hP h)
theorem j_icmp_eq_f (X : kX D tA G cc nL own fr lo) {x y : Int32} {off : Int} {tgt : Nat} (hdg : decode cc pc = .ok (.if_icmp .eq off, 3)) (ht : (pc : Int) + off = (tgt : Int)) (hP : ¬ (x = y)) (k2 : J l D G n k w lv (pc + 3) st) : J l D G n k w lv pc (.int y :: .int x :: st) :=
  fun H locs ls hP1 hD hS hl => lv_icmp_eq X.1 X.2.1 hdg ht (fun h => absurd h hP) (fun _ => k2 H locs ls hP1 hD hS hl)
theorem j_if_ne (X : kX D tA G cc nL own fr lo) {x : Int32} {off : Int} {tgt : Nat} {P : Prop} (hdg : decode cc pc = .ok (.ifCond .ne off, 3)) (ht : (pc : Int) + off = (tgt : Int)) (hP : (¬ x = 0) ↔ P) (k1 : P → J l D G n k w lv tgt st) (k2 : ¬ P → J l D G n k w lv (pc + 3) st) : J l D G n k w lv pc (.int x :: st) :=
  fun H locs ls hP1 hD hS hl => lv_if_ne X.1 X.2.1 hdg ht (fun h => k1 (hP.mp h) H locs ls hP1 hD hS hl) (fun h => k2 (fun q => hP.mpr q h) H locs ls hP1 hD hS hl)
theorem j_if_ne_t (X : kX D tA G cc nL own fr lo) {x : Int32} {off : Int} {tgt : Nat} (hdg : decode cc pc = .ok (.ifCond .ne off, 3)) (ht : (pc : Int) + off = (tgt : Int)) (hP : ¬ x = 0) (k1 : J l D G n k w lv tgt st) : J l D G n k w lv pc (.int x :: st) :=
  fun H locs ls hP1 hD hS hl => lv_if_ne X.1 X.2.1 hdg ht (fun _ => k1 H locs ls hP1 hD hS hl) (fun h => absurd h hP)
theorem j_if_ne_f (X : kX D tA G cc nL own fr lo) {x : Int32} {off : Int} {tgt : Nat} (hdg : decode cc pc = .ok (.ifCond .ne off, 3)) (ht : (pc : Int) + off = (tgt : Int)) (hP : ¬ (¬ x = 0)) (k2 : J l D G n k w lv (pc + 3) st) : J l D G n k w lv pc (.int x :: st) :=
  fun H locs ls hP1 hD hS hl => lv_if_ne X.1 X.2.1 hdg ht (fun h => absurd h hP) (fun _ => k2 H locs ls hP1 hD hS hl)
theorem j_icmp_ne (X : kX D tA G cc nL own fr lo) {x y : Int32} {off : Int} {tgt : Nat} {P : Prop} (hdg : decode cc pc = .ok (.if_icmp .ne off, 3)) (ht : (pc : Int) + off = (tgt : Int)) (hP : (¬ x = y) ↔ P) (k1 : P → J l D G n k w lv tgt st) (k2 : ¬ P → J l D G n k w lv (pc + 3) st) : J l D G n k w lv pc (.int y :: .int x :: st) :=
  fun H locs ls hP1 hD hS hl => lv_icmp_ne X.1 X.2.1 hdg ht (fun h => k1 (hP.mp h) H locs ls hP1 hD hS hl) (fun h => k2 (fun q => hP.mpr q h) H locs ls hP1 hD hS hl)
theorem j_icmp_ne_t (X : kX D tA G cc nL own fr lo) {x y : Int32} {off : Int} {tgt : Nat} (hdg : decode cc pc = .ok (.if_icmp .ne off, 3)) (ht : (pc : Int) + off = (tgt : Int)) (hP : ¬ x = y) (k1 : J l D G n k w lv tgt st) : J l D G n k w lv pc (.int y :: .int x :: st) :=
  fun H locs ls hP1 hD hS hl => lv_icmp_ne X.1 X.2.1 hdg ht (fun _ => k1 H locs ls hP1 hD hS hl) (fun h => absurd h hP)
theorem j_icmp_ne_f (X : kX D tA G cc nL own fr lo) {x y : Int32} {off : Int} {tgt : Nat} (hdg : decode cc pc = .ok (.if_icmp .ne off, 3)) (ht : (pc : Int) + off = (tgt : Int)) (hP : ¬ (¬ x = y)) (k2 : J l D G n k w lv (pc + 3) st) : J l D G n k w lv pc (.int y :: .int x :: st) :=
  fun H locs ls hP1 hD hS hl => lv_icmp_ne X.1 X.2.1 hdg ht (fun h => absurd h hP) (fun _ => k2 H locs ls hP1 hD hS hl)
theorem j_if_lt (X : kX D tA G cc nL own fr lo) {x : Int32} {off : Int} {tgt : Nat} {P : Prop} (hdg : decode cc pc = .ok (.ifCond .lt off, 3)) (ht : (pc : Int) + off = (tgt : Int)) (hP : (x < 0) ↔ P) (k1 : P → J l D G n k w lv tgt st) (k2 : ¬ P → J l D G n k w lv (pc + 3) st) : J l D G n k w lv pc (.int x :: st) :=
  fun H locs ls hP1 hD hS hl => lv_if_lt X.1 X.2.1 hdg ht (fun h => k1 (hP.mp h) H locs ls hP1 hD hS hl) (fun h => k2 (fun q => h (hP.mpr q)) H locs ls hP1 hD hS hl)
theorem j_if_lt_t (X : kX D tA G cc nL own fr lo) {x : Int32} {off : Int} {tgt : Nat} (hdg : decode cc pc = .ok (.ifCond .lt off, 3)) (ht : (pc : Int) + off = (tgt : Int)) (hP : x < 0) (k1 : J l D G n k w lv tgt st) : J l D G n k w lv pc (.int x :: st) :=
  fun H locs ls hP1 hD hS hl => lv_if_lt X.1 X.2.1 hdg ht (fun _ => k1 H locs ls hP1 hD hS hl) (fun h => absurd hP h)
theorem j_if_lt_f (X : kX D tA G cc nL own fr lo) {x : Int32} {off : Int} {tgt : Nat} (hdg : decode cc pc = .ok (.ifCond .lt off, 3)) (ht : (pc : Int) + off = (tgt : Int)) (hP : ¬ (x < 0)) (k2 : J l D G n k w lv (pc + 3) st) : J l D G n k w lv pc (.int x :: st) :=
  fun H locs ls hP1 hD hS hl => lv_if_lt X.1 X.2.1 hdg ht (fun h => absurd h hP) (fun _ => k2 H locs ls hP1 hD hS hl)
theorem j_icmp_lt (X : kX D tA G cc nL own fr lo) {x y : Int32} {off : Int} {tgt : Nat} {P : Prop} (hdg : decode cc pc = .ok (.if_icmp .lt off, 3)) (ht : (pc : Int) + off = (tgt : Int)) (hP : (x < y) ↔ P) (k1 : P → J l D G n k w lv tgt st) (k2 : ¬ P → J l D G n k w lv (pc + 3) st) : J l D G n k w lv pc (.int y :: .int x :: st) :=
  fun H locs ls hP1 hD hS hl => lv_icmp_lt X.1 X.2.1 hdg ht (fun h => k1 (hP.mp h) H locs ls hP1 hD hS hl) (fun h => k2 (fun q => h (hP.mpr q)) H locs ls hP1 hD hS hl)
theorem j_icmp_lt_t (X : kX D tA G cc nL own fr lo) {x y : Int32} {off : Int} {tgt : Nat} (hdg : decode cc pc = .ok (.if_icmp .lt off, 3)) (ht : (pc : Int) + off = (tgt : Int)) (hP : x < y) (k1 : J l D G n k w lv tgt st) : J l D G n k w lv pc (.int y :: .int x :: st) :=
  fun H locs ls hP1 hD hS hl => lv_icmp_lt X.1 X.2.1 hdg ht (fun _ => k1 H locs ls hP1 hD hS hl) (fun h => absurd hP h)
theorem j_icmp_lt_f (X : kX D tA G cc nL own fr lo) {x y : Int32} {off : Int} {tgt : Nat} (hdg : decode cc pc = .ok (.if_icmp .lt off, 3)) (ht : (pc : Int) + off = (tgt : Int)) (hP : ¬ (x < y)) (k2 : J l D G n k w lv (pc + 3) st) : J l D G n k w lv pc (.int y :: .int x :: st) :=
  fun H locs ls hP1 hD hS hl => lv_icmp_lt X.1 X.2.1 hdg ht (fun h => absurd h hP) (fun _ => k2 H locs ls hP1 hD hS hl)
theorem j_if_ge (X : kX D tA G cc nL own fr lo) {x : Int32} {off : Int} {tgt : Nat} {P : Prop} (hdg : decode cc pc = .ok (.ifCond .ge off, 3)) (ht : (pc : Int) + off = (tgt : Int)) (hP : (0 ≤ x) ↔ P) (k1 : P → J l D G n k w lv tgt st) (k2 : ¬ P → J l D G n k w lv (pc + 3) st) : J l D G n k w lv pc (.int x :: st) :=
  fun H locs ls hP1 hD hS hl => lv_if_ge X.1 X.2.1 hdg ht (fun h => k1 (hP.mp h) H locs ls hP1 hD hS hl) (fun h => k2 (fun q => h (hP.mpr q)) H locs ls hP1 hD hS hl)
theorem j_if_ge_t (X : kX D tA G cc nL own fr lo) {x : Int32} {off : Int} {tgt : Nat} (hdg : decode cc pc = .ok (.ifCond .ge off, 3)) (ht : (pc : Int) + off = (tgt : Int)) (hP : 0 ≤ x) (k1 : J l D G n k w lv tgt st) : J l D G n k w lv pc (.int x :: st) :=
  fun H locs ls hP1 hD hS hl => lv_if_ge X.1 X.2.1 hdg ht (fun _ => k1 H locs ls hP1 hD hS hl) (fun h => absurd hP h)
theorem j_if_ge_f (X : kX D tA G cc nL own fr lo) {x : Int32} {off : Int} {tgt : Nat} (hdg : decode cc pc = .ok (.ifCond .ge off, 3)) (ht : (pc : Int) + off = (tgt : Int)) (hP : ¬ (0 ≤ x)) (k2 : J l D G n k w lv (pc + 3) st) : J l D G n k w lv pc (.int x :: st) :=
  fun H locs ls hP1 hD hS hl => lv_if_ge X.1 X.2.1 hdg ht (fun h => absurd h hP) (fun _ => k2 H locs ls hP1 hD hS hl)
theorem j_icmp_ge (X : kX D tA G cc nL own fr lo) {x y : Int32} {off : Int} {tgt : Nat} {P : Prop} (hdg : decode cc pc = .ok (.if_icmp .ge off, 3)) (ht : (pc : Int) + off = (tgt : Int)) (hP : (y ≤ x) ↔ P) (k1 : P → J l D G n k w lv tgt st) (k2 : ¬ P → J l D G n k w lv (pc + 3) st) : J l D G n k w lv pc (.int y :: .int x :: st) :=
  fun H locs ls hP1 hD hS hl => lv_icmp_ge X.1 X.2.1 hdg ht (fun h => k1 (hP.mp h) H locs ls hP1 hD hS hl) (fun h => k2 (fun q => h (hP.mpr q)) H locs ls hP1 hD hS hl)
theorem j_icmp_ge_t (X : kX D tA G cc nL own fr lo) {x y : Int32} {off : Int} {tgt : Nat} (hdg : decode cc pc = .ok (.if_icmp .ge off, 3)) (ht : (pc : Int) + off = (tgt : Int)) (hP : y ≤ x) (k1 : J l D G n k w lv tgt st) : J l D G n k w lv pc (.int y :: .int x :: st) :=
  fun H locs ls hP1 hD hS hl => lv_icmp_ge X.1 X.2.1 hdg ht (fun _ => k1 H locs ls hP1 hD hS hl) (fun h => absurd hP h)
theorem j_icmp_ge_f (X : kX D tA G cc nL own fr lo) {x y : Int32} {off : Int} {tgt : Nat} (hdg : decode cc pc = .ok (.if_icmp .ge off, 3)) (ht : (pc : Int) + off = (tgt : Int)) (hP : ¬ (y ≤ x)) (k2 : J l D G n k w lv (pc + 3) st) : J l D G n k w lv pc (.int y :: .int x :: st) :=
  fun H locs ls hP1 hD hS hl => lv_icmp_ge X.1 X.2.1 hdg ht (fun h => absurd h hP) (fun _ => k2 H locs ls hP1 hD hS hl)
theorem j_if_gt (X : kX D tA G cc nL own fr lo) {x : Int32} {off : Int} {tgt : Nat} {P : Prop} (hdg : decode cc pc = .ok (.ifCond .gt off, 3)) (ht : (pc : Int) + off = (tgt : Int)) (hP : (0 < x) ↔ P) (k1 : P → J l D G n k w lv tgt st) (k2 : ¬ P → J l D G n k w lv (pc + 3) st) : J l D G n k w lv pc (.int x :: st) :=
  fun H locs ls hP1 hD hS hl => lv_if_gt X.1 X.2.1 hdg ht (fun h => k1 (hP.mp h) H locs ls hP1 hD hS hl) (fun h => k2 (fun q => h (hP.mpr q)) H locs ls hP1 hD hS hl)
theorem j_if_gt_t (X : kX D tA G cc nL own fr lo) {x : Int32} {off : Int} {tgt : Nat} (hdg : decode cc pc = .ok (.ifCond .gt off, 3)) (ht : (pc : Int) + off = (tgt : Int)) (hP : 0 < x) (k1 : J l D G n k w lv tgt st) : J l D G n k w lv pc (.int x :: st) :=
  fun H locs ls hP1 hD hS hl => lv_if_gt X.1 X.2.1 hdg ht (fun _ => k1 H locs ls hP1 hD hS hl) (fun h => absurd hP h)
theorem j_if_gt_f (X : kX D tA G cc nL own fr lo) {x : Int32} {off : Int} {tgt : Nat} (hdg : decode cc pc = .ok (.ifCond .gt off, 3)) (ht : (pc : Int) + off = (tgt : Int)) (hP : ¬ (0 < x)) (k2 : J l D G n k w lv (pc + 3) st) : J l D G n k w lv pc (.int x :: st) :=
  fun H locs ls hP1 hD hS hl => lv_if_gt X.1 X.2.1 hdg ht (fun h => absurd h hP) (fun _ => k2 H locs ls hP1 hD hS hl)
theorem j_icmp_gt (X : kX D tA G cc nL own fr lo) {x y : Int32} {off : Int} {tgt : Nat} {P : Prop} (hdg : decode cc pc = .ok (.if_icmp .gt off, 3)) (ht : (pc : Int) + off = (tgt : Int)) (hP : (y < x) ↔ P) (k1 : P → J l D G n k w lv tgt st) (k2 : ¬ P → J l D G n k w lv (pc + 3) st) : J l D G n k w lv pc (.int y :: .int x :: st) :=
  fun H locs ls hP1 hD hS hl => lv_icmp_gt X.1 X.2.1 hdg ht (fun h => k1 (hP.mp h) H locs ls hP1 hD hS hl) (fun h => k2 (fun q => h (hP.mpr q)) H locs ls hP1 hD hS hl)
theorem j_icmp_gt_t (X : kX D tA G cc nL own fr lo) {x y : Int32} {off : Int} {tgt : Nat} (hdg : decode cc pc = .ok (.if_icmp .gt off, 3)) (ht : (pc : Int) + off = (tgt : Int)) (hP : y < x) (k1 : J l D G n k w lv tgt st) : J l D G n k w lv pc (.int y :: .int x :: st) :=
  fun H locs ls hP1 hD hS hl => lv_icmp_gt X.1 X.2.1 hdg ht (fun _ => k1 H locs ls hP1 hD hS hl) (fun h => absurd hP h)
theorem j_icmp_gt_f (X : kX D tA G cc nL own fr lo) {x y : Int32} {off : Int} {tgt : Nat} (hdg : decode cc pc = .ok (.if_icmp .gt off, 3)) (ht : (pc : Int) + off = (tgt : Int)) (hP : ¬ (y < x)) (k2 : J l D G n k w lv (pc + 3) st) : J l D G n k w lv pc (.int y :: .int x :: st) :=
  fun H locs ls hP1 hD hS hl => lv_icmp_gt X.1 X.2.1 hdg ht (fun h => absurd h hP) (fun _ => k2 H locs ls hP1 hD hS hl)
theorem j_if_le (X : kX D tA G cc nL own fr lo) {x : Int32} {off : Int} {tgt : Nat} {P : Prop} (hdg : decode cc pc = .ok (.ifCond .le off, 3)) (ht : (pc : Int) + off = (tgt : Int)) (hP : (x ≤ 0) ↔ P) (k1 : P → J l D G n k w lv tgt st) (k2 : ¬ P → J l D G n k w lv (pc + 3) st) : J l D G n k w lv pc (.int x :: st) :=
  fun H locs ls hP1 hD hS hl => lv_if_le X.1 X.2.1 hdg ht (fun h => k1 (hP.mp h) H locs ls hP1 hD hS hl) (fun h => k2 (fun q => h (hP.mpr q)) H locs ls hP1 hD hS hl)
theorem j_if_le_t (X : kX D tA G cc nL own fr lo) {x : Int32} {off : Int} {tgt : Nat} (hdg : decode cc pc = .ok (.ifCond .le off, 3)) (ht : (pc : Int) + off = (tgt : Int)) (hP : x ≤ 0) (k1 : J l D G n k w lv tgt st) : J l D G n k w lv pc (.int x :: st) :=
  fun H locs ls hP1 hD hS hl => lv_if_le X.1 X.2.1 hdg ht (fun _ => k1 H locs ls hP1 hD hS hl) (fun h => absurd hP h)
theorem j_if_le_f (X : kX D tA G cc nL own fr lo) {x : Int32} {off : Int} {tgt : Nat} (hdg : decode cc pc = .ok (.ifCond .le off, 3)) (ht : (pc : Int) + off = (tgt : Int)) (hP : ¬ (x ≤ 0)) (k2 : J l D G n k w lv (pc + 3) st) : J l D G n k w lv pc (.int x :: st) :=
  fun H locs ls hP1 hD hS hl => lv_if_le X.1 X.2.1 hdg ht (fun h => absurd h hP) (fun _ => k2 H locs ls hP1 hD hS hl)
theorem j_icmp_le (X : kX D tA G cc nL own fr lo) {x y : Int32} {off : Int} {tgt : Nat} {P : Prop} (hdg : decode cc pc = .ok (.if_icmp .le off, 3)) (ht : (pc : Int) + off = (tgt : Int)) (hP : (x ≤ y) ↔ P) (k1 : P → J l D G n k w lv tgt st) (k2 : ¬ P → J l D G n k w lv (pc + 3) st) : J l D G n k w lv pc (.int y :: .int x :: st) :=
  fun H locs ls hP1 hD hS hl => lv_icmp_le X.1 X.2.1 hdg ht (fun h => k1 (hP.mp h) H locs ls hP1 hD hS hl) (fun h => k2 (fun q => h (hP.mpr q)) H locs ls hP1 hD hS hl)
theorem j_icmp_le_t (X : kX D tA G cc nL own fr lo) {x y : Int32} {off : Int} {tgt : Nat} (hdg : decode cc pc = .ok (.if_icmp .le off, 3)) (ht : (pc : Int) + off = (tgt : Int)) (hP : x ≤ y) (k1 : J l D G n k w lv tgt st) : J l D G n k w lv pc (.int y :: .int x :: st) :=
  fun H locs ls hP1 hD hS hl => lv_icmp_le X.1 X.2.1 hdg ht (fun _ => k1 H locs ls hP1 hD hS hl) (fun h => absurd hP h)
theorem j_icmp_le_f (X : kX D tA G cc nL own fr lo) {x y : Int32} {off : Int} {tgt : Nat} (hdg : decode cc pc = .ok (.if_icmp .le off, 3)) (ht : (pc : Int) + off = (tgt : Int)) (hP : ¬ (x ≤ y)) (k2 : J l D G n k w lv (pc + 3) st) : J l D G n k w lv pc (.int y :: .int x :: st) :=
  fun H locs ls hP1 hD hS hl => lv_icmp_le X.1 X.2.1 hdg ht (fun h => absurd h hP) (fun _ => k2 H locs ls hP1 hD hS hl)
theorem j_goto (X : kX D tA G cc nL own fr lo) {off : Int} {tgt : Nat} (hdg : decode cc pc = .ok (.goto off, 3)) (ht : (pc : Int) + off = (tgt : Int)) (kk : J l D G n k w lv tgt st) : J l D G n k w lv pc st :=
  fun H locs ls hP hD hS hl => lv_goto X.1 X.2.1 hdg ht (kk H locs ls hP hD hS hl)
theorem j_ifnonnull (X : kX D tA G cc nL own fr lo) {x : Nat} {off : Int} {tgt : Nat} (hdg : decode cc pc = .ok (.ifnonnull off, 3)) (ht : (pc : Int) + off = (tgt : Int)) (kk : J l D G n k w lv tgt st) : J l D G n k w lv pc (.ref x :: st) :=
  fun H locs ls hP hD hS hl => lv_ifnonnull X.1 X.2.1 hdg ht (kk H locs ls hP hD hS hl)
theorem j_swOut (X : kX D tA G cc nL own fr lo) {dflt lo9 hi : Int} {offs : Array Int} {len : Nat} {x : Int32} {tgt : Nat} (hdg : decode cc pc = .ok (.tableswitch dflt lo9 hi offs, len)) (h : x.toInt < lo9 ∨ hi < x.toInt) (ht : (pc : Int) + dflt = (tgt : Int)) (kk : J l D G n k w lv tgt st) : J l D G n k w lv pc (.int x :: st) :=
  fun H locs ls hP hD hS hl => lv_tableOut X.1 X.2.1 hdg h ht (kk H locs ls hP hD hS hl)
theorem j_swIn (X : kX D tA G cc nL own fr lo) {dflt lo9 hi : Int} {offs : Array Int} {len : Nat} {x : Int32} {off : Int} {tgt : Nat} (hdg : decode cc pc = .ok (.tableswitch dflt lo9 hi offs, len)) (h1 : ¬ x.toInt < lo9) (h2 : ¬ hi < x.toInt) (ho : offs[(x.toInt - lo9).toNat]? = some off) (ht : (pc : Int) + off = (tgt : Int)) (kk : J l D G n k w lv tgt st) : J l D G n k w lv pc (.int x :: st) :=
  fun H locs ls hP hD hS hl => lv_tableIn X.1 X.2.1 hdg h1 h2 ho ht (kk H locs ls hP hD hS hl)
theorem kT (X : kX D tA G cc nL own fr lo) (t0 : Nat) : va_K D vwCl (kTY tA) (gs G) := X.2.2.2.2.2.1.1
theorem j_get (X : kX D tA G cc nL own fr lo) {C : String} {T : u_T} {N ci index a : Nat} (hin : ∀ w ∈ u_ws C T N, w ∈ kALL) (q0 : Nat) {fs : List Value} (he : w[q0]? = some (a, .inr (ci, fs))) (hc : vwCl[ci]? = some (C, T, N)) (k0 : Nat) (hk : k0 < N) (hlink : Cond.fieldLink own index (T k0).1 (T k0).2.1 (T k0).2.2.1 ∈ kALL) {v : Value} (hv : fs[k0]? = some v) (hdg : decode cc pc = .ok (.getfield index, 3)) (kk : J l D G n k w lv (pc + 3) (v :: st)) : J l D G n k w lv pc (.ref a :: st) :=
  fun H locs ls hP hD hS hl => va_get (D := D) (cl := vwCl) (ws := w) (tys := kTY tA) X.1 X.2.1 X.2.2.2.2.1 hin X.2.2.2.1 X.2.2.2.2.2.1.1 hP q0 he hc k0 hk (X.2.2.2.2.1 _ hlink) (fun _ h => h) hv hdg (kk H locs ls hP hD hS hl)
theorem j_put (X : kX D tA G cc nL own fr lo) {C : String} {T : u_T} {N ci index a : Nat} (hin : ∀ w ∈ u_ws C T N, w ∈ kALL) (ty0 : Nat → FieldType) (hty : ∀ k, k < N → parseFieldDescriptor (T k).2.2.1 = some (ty0 k)) (hnm : ∀ a, a < N → ∀ b, b < N → a ≠ b → (T a).2.1 ≠ (T b).2.1) (q0 : Nat) {fs : List Value} (he : w[q0]? = some (a, .inr (ci, fs))) (hc : vwCl[ci]? = some (C, T, N)) (k0 : Nat) (hk : k0 < N) (hlink : Cond.fieldLink own index (T k0).1 (T k0).2.1 (T k0).2.2.1 ∈ kALL) (hfin : (T k0).2.2.2 = false) {v : Value} (hn : narrow (ty0 k0) v = v) (hfit : fits (ty0 k0) v = true) (hl0 : k0 < fs.length) {w' : va_W} (hw : w.set q0 (a, .inr (ci, fs.set k0 v)) = w') (hdg : decode cc pc = .ok (.putfield index, 3)) (kk : J l D G n k w' lv (pc + 3) st) : J l D G n k w lv pc (v :: .ref a :: st) :=
  fun H locs ls hP hD hS hl => va_put (D := D) (cl := vwCl) (ws := w) (tys := kTY tA) X.1 X.2.1 X.2.2.2.2.1 hin ty0 hty hnm X.2.2.2.1 X.2.2.2.2.2.1.1 hP hD hS q0 he hc k0 hk (X.2.2.2.2.1 _ hlink) (fun _ h => h) hfin (hty k0 hk) hn hfit hl0 hdg (fun H1 locs1 hP1 hD1 hS1 => kk H1 locs1 ls (hw ▸ hP1) (hw ▸ hD1) hS1 hl)
theorem j_iald (X : kX D tA G cc nL own fr lo) (q0 : Nat) {a N i : Nat} {f : Nat → Nat} (he : w[q0]? = some (a, .inl (tA 0, N, .inl (nF f)))) (hi : i < N) (hN : N < 65536) (hdg : decode cc pc = .ok (.iaload, 1)) (kk : J l D G n k w lv (pc + 1) (.int (nI (f i)) :: st)) : J l D G n k w lv pc (.int (nI i) :: .ref a :: st) :=
  fun H locs ls hP hD hS hl => va_iald (D := D) (cl := vwCl) (ws := w) (tys := kTY tA) X.1 X.2.1 X.2.2.2.2.2.1.1 hP q0 0 he rfl (vp_in_nI hi (by omega)) hdg (by rw [nI_clamp (by omega)]; exact kk H locs ls hP hD hS hl)
theorem j_cald (X : kX D tA G cc nL own fr lo) (q0 : Nat) {a N i : Nat} {f : Nat → Nat} (he : w[q0]? = some (a, .inl (tA 1, N, .inl (nF f)))) (hi : i < N) (hN : N < 65536) (hdg : decode cc pc = .ok (.caload, 1)) (kk : J l D G n k w lv (pc + 1) (.int (nI (f i)) :: st)) : J l D G n k w lv pc (.int (nI i) :: .ref a :: st) :=
  fun H locs ls hP hD hS hl => va_cald (D := D) (cl := vwCl) (ws := w) (tys := kTY tA) X.1 X.2.1 X.2.2.2.2.2.1.1 hP q0 1 he rfl (vp_in_nI hi (by omega)) hdg (by rw [nI_clamp (by omega)]; exact kk H locs ls hP hD hS hl)
theorem j_iast (X : kX D tA G cc nL own fr lo) (q0 : Nat) {a N i v : Nat} {f : Nat → Nat} (he : w[q0]? = some (a, .inl (tA 0, N, .inl (nF f)))) (hi : i < N) (hN : N < 65536) {w' : va_W} (hw : w.set q0 (a, .inl (tA 0, N, .inl (nF (va_up f i v)))) = w') (hdg : decode cc pc = .ok (.iastore, 1)) (kk : J l D G n k w' lv (pc + 1) st) : J l D G n k w lv pc (.int (nI v) :: .int (nI i) :: .ref a :: st) :=
  fun H locs ls hP hD hS hl => va_iast (D := D) (cl := vwCl) (ws := w) (tys := kTY tA) X.1 X.2.1 X.2.2.2.2.2.1.1 hP hD hS q0 0 he rfl (vp_in_nI hi (by omega)) hdg (fun H1 locs1 hP1 hD1 hS1 => by
    rw [nI_clamp (by omega), upd_nF, hw] at hP1 hD1
    exact kk H1 locs1 ls hP1 hD1 hS1 hl)
theorem j_alen (X : kX D tA G cc nL own fr lo) (q0 : Nat) (t0 : Nat) {a N : Nat} {cA : ClassId} {ty : FieldType} {x : (Nat → Int32) ⊕ (Nat → Int64) ⊕ (Nat → UInt32) ⊕ (Nat → UInt64) ⊕ (Nat → Option Nat)} (he : w[q0]? = some (a, .inl (cA, N, x))) (ht : (kTY tA)[t0]? = some (cA, ty)) (hdg : decode cc pc = .ok (.arraylength, 1)) (kk : J l D G n k w lv (pc + 1) (.int (nI N) :: st)) : J l D G n k w lv pc (.ref a :: st) :=
  fun H locs ls hP hD hS hl => va_alen (D := D) (cl := vwCl) (ws := w) (tys := kTY tA) X.1 X.2.1 X.2.2.2.2.2.1.1 hP q0 t0 he ht (v := nI N) rfl hdg (kk H locs ls hP hD hS hl)
theorem j_mmax (X : kX D tA G cc nL own fr lo) {index : Nat} {x y v : Int32} (hlink : Cond.methodLink own index Lib.Math.max.name ∈ kALL) (hfr : 1 ≤ fr) (hlo : (st.map fun v => v.category).sum + 13 ≤ lo) (h0 : n ≤ (gR G).cells ∧ k ≤ (gR G).slots) (hv : (if x < y then y else x) = v) (hdg : decode cc pc = .ok (.invokestatic index, 3)) (kk : J l D G n k w lv (pc + 3) (.int v :: st)) : J l D G n k w lv pc (.int y :: .int x :: st) :=
  fun H locs ls hP hD hS hl => va_mmax X.1 X.2.1 hl.1.symm X.2.2.2.1 (X.2.2.2.2.1 _ hlink) (X.2.2.2.2.1 _ wt_max) (X.2.2.2.2.1 _ wi_J9) (X.2.2.2.2.1 _ wc_max) (Nat.le_trans hfr X.2.2.2.2.2.2.2.1) (Nat.le_trans hlo X.2.2.2.2.2.2.2.2) h0.1 h0.2 hdg (by rw [hv]; exact kk H locs ls hP hD hS hl)
theorem j_mmin (X : kX D tA G cc nL own fr lo) {index : Nat} {x y v : Int32} (hlink : Cond.methodLink own index Lib.Math.min.name ∈ kALL) (hfr : 1 ≤ fr) (hlo : (st.map fun v => v.category).sum + 13 ≤ lo) (h0 : n ≤ (gR G).cells ∧ k ≤ (gR G).slots) (hv : (if y < x then y else x) = v) (hdg : decode cc pc = .ok (.invokestatic index, 3)) (kk : J l D G n k w lv (pc + 3) (.int v :: st)) : J l D G n k w lv pc (.int y :: .int x :: st) :=
  fun H locs ls hP hD hS hl => va_mmin X.1 X.2.1 hl.1.symm X.2.2.2.1 (X.2.2.2.2.1 _ hlink) (X.2.2.2.2.1 _ wt_min) (X.2.2.2.2.1 _ wi_J9) (X.2.2.2.2.1 _ wc_min) (Nat.le_trans hfr X.2.2.2.2.2.2.2.1) (Nat.le_trans hlo X.2.2.2.2.2.2.2.2) h0.1 h0.2 hdg (by rw [hv]; exact kk H locs ls hP hD hS hl)
end
/-- what a walk must come to: the end of its method, with this answer and these cells -/
def kE (l : Launch) (D : va_G) (G : kCx) (cc : ByteArray) (ins : Instr) (res : Option Value) (w : va_W) : Prop := ∀ (lv : List (Nat × Value)) (pc : Nat), decode cc pc = .ok (ins, 1) → J l D G 0 0 w lv pc res.toList
theorem j_end {l : Launch} {D : va_G} {G : kCx} {cc : ByteArray} {ins : Instr} {res : Option Value} {w w0 : va_W} {lv : List (Nat × Value)} {pc : Nat} {st : List Value} (E : kE l D G cc ins res w) (hdg : decode cc pc = .ok (ins, 1)) (hr : res.toList = st) (hw : w = w0) : J l D G 0 0 w0 lv pc st := by
  subst hr
  subst hw
  exact E lv pc hdg
theorem kx_body {l : Launch} {D : va_G} {tA : Nat → ClassId} {y : MethodName} {cc : ByteArray} {nL : Nat} {ret : Option FieldType} {fr lo : Nat} {av : List Value} {w : va_W} {res : Option Value} {w' : va_W} (ins : Instr) (hy : plainName y.cls = true) (hn : (lg_sl av).length ≤ nL)
    (hE : ∀ (p : Program) (e : Env) (R : Room) (s : State) (m : MethodId) (args : Array Value) (below : List Frame) (meth : Method) (c : Code) (A : Nat → Prop), p.tables.exec = Jvm.exec → c.code = cc → meth.sig.returnType = ret → meth.locks = false → ∀ (H : Heap) (locs : List Loc) (ls : Array Slot) (pc : Nat), decode cc pc = .ok (ins, 1) → va_P D vwCl w' H → va_S A s.heap H locs → W p l e R s m args below meth c H locs 0 0 (MQ below (kQ D res w' A) args s 0 0 A) (F0 m pc ls res.toList))
    (body : ∀ G : kCx, kX D tA G cc nL y.cls fr lo → kE l D G cc ins res w' → J l D G 0 0 w (lv_args 0 av) 0 []) : Kx l D tA y cc nL ret fr lo av w res w' := by
  intro sz
  refine Met.ofW (cc := cc) (maxL := nL) (ret := ret) hy rfl ?_
  intro p e s m args below meth c s₁ B hml hv
  obtain ⟨rfl, hsz, hP, hK, hD0⟩ := hv
  subst hsz
  have hts : ∀ w ∈ kALL, w.before av.toArray s = true := fun w hw => atoms_spec B.pre w (List.mem_cons_of_mem _ hw)
  have hown : s.vm.findClass y.cls = some m.cls := findClass_of_methodNamed B.named
  have hD := hD0.self (sz := s.heap.size)
  have hl := lv_entry av (n := nL) hn
  rw [lg_entry_eq]
  refine body (p, e, _, s, m, av.toArray, below, meth, c, _, va_A w s.heap.size) ⟨B.exec, B.bytes, hml, hown, hts, hK, fun q h => Or.inr h, Nat.le_refl _, Nat.le_refl _⟩ ?_ s.heap [] _ hP hD va_S.rf (by show lv_has _ c.maxLocals _; rw [hml]; exact hl)
  intro lv pc hdg H locs ls hP1 hD1 hS1 hl1
  exact hE p e _ s m av.toArray below meth c (va_A w s.heap.size) B.exec B.bytes B.returns B.notSynchronized H locs ls pc hdg hP1 hS1
theorem kx_int {l : Launch} {D : va_G} {tA : Nat → ClassId} {y : MethodName} {cc : ByteArray} {nL : Nat} {fr lo : Nat} {av : List Value} {w : va_W} {r : Int32} {w' : va_W} (hy : plainName y.cls = true) (hn : (lg_sl av).length ≤ nL)
    (body : ∀ G : kCx, kX D tA G cc nL y.cls fr lo → kE l D G cc .ireturn (some (.int r)) w' → J l D G 0 0 w (lv_args 0 av) 0 []) : Kx l D tA y cc nL (some .int) fr lo av w (some (.int r)) w' :=
  kx_body .ireturn hy hn (fun p e R s m args below meth c A hx hb hr hlk H locs ls pc hdg hP hS => W.iret hx hb hr (fun t ht hW => ⟨⟨rfl, by rw [ht]; exact hP⟩, hS.F ht⟩) hS.2.2 hdg hlk) body
theorem bI_narrow (b : Bool) : narrow .boolean (.int (bI b)) = .int (bI b) := by cases b <;> rfl
theorem kx_bool {l : Launch} {D : va_G} {tA : Nat → ClassId} {y : MethodName} {cc : ByteArray} {nL : Nat} {fr lo : Nat} {av : List Value} {w : va_W} {r : Bool} {w' : va_W} (hy : plainName y.cls = true) (hn : (lg_sl av).length ≤ nL)
    (body : ∀ G : kCx, kX D tA G cc nL y.cls fr lo → kE l D G cc .ireturn (some (.int (bI r))) w' → J l D G 0 0 w (lv_args 0 av) 0 []) : Kx l D tA y cc nL (some .boolean) fr lo av w (some (.int (bI r))) w' :=
  kx_body .ireturn hy hn (fun p e R s m args below meth c A hx hb hr hlk H locs ls pc hdg hP hS => W.zret hx hb hr (bI_narrow r) (fun t ht hW => ⟨⟨rfl, by rw [ht]; exact hP⟩, hS.F ht⟩) hS.2.2 hdg hlk) body
theorem kx_void {l : Launch} {D : va_G} {tA : Nat → ClassId} {y : MethodName} {cc : ByteArray} {nL : Nat} {fr lo : Nat} {av : List Value} {w : va_W} {w' : va_W} (hy : plainName y.cls = true) (hn : (lg_sl av).length ≤ nL)
    (body : ∀ G : kCx, kX D tA G cc nL y.cls fr lo → kE l D G cc .return_ none w' → J l D G 0 0 w (lv_args 0 av) 0 []) : Kx l D tA y cc nL none fr lo av w none w' :=
  kx_body .return_ hy hn (fun p e R s m args below meth c A hx hb hr hlk H locs ls pc hdg hP hS => W.vret hx hb hr (fun t ht hW => ⟨⟨rfl, by rw [ht]; exact hP⟩, hS.F ht⟩) hS.2.2 hdg hlk) body
theorem kx_ref {l : Launch} {D : va_G} {tA : Nat → ClassId} {y : MethodName} {cc : ByteArray} {nL : Nat} {C : String} {fr lo : Nat} {av : List Value} {w : va_W} {a : Nat} {w' : va_W} (hy : plainName y.cls = true) (hn : (lg_sl av).length ≤ nL)
    (body : ∀ G : kCx, kX D tA G cc nL y.cls fr lo → kE l D G cc .areturn (some (.ref a)) w' → J l D G 0 0 w (lv_args 0 av) 0 []) : Kx l D tA y cc nL (some (.object C)) fr lo av w (some (.ref a)) w' :=
  kx_body .areturn hy hn (fun p e R s m args below meth c A hx hb hr hlk H locs ls pc hdg hP hS => W.aret hx hb hr (Or.inl ⟨_, rfl⟩) (Or.inr ⟨_, rfl⟩) (fun t ht hW => ⟨⟨rfl, by rw [ht]; exact hP⟩, hS.F ht⟩) hS.2.2 hdg hlk) body

section
variable {p : Program} {l : Launch} {e : Env} {R : Room} {s : State} {m : MethodId} {args : Array Value} {below : List Frame} {meth : Method} {c : Code} {H : Heap} {locs : List Loc} {cells slots : Nat} {Q : State → Prop}
theorem k_call {pc : Nat} {ls : Array Slot} {rest st0 : List Value} {a : Array Value} {A0 A1 : Nat → Prop} {H0 : Heap} {free : Addr → Prop} {D : va_G} {res : Option Value} {w1 : va_W} (hr : va_Run p l e R s m args below meth c H locs cells slots 0 0 (F0 m pc ls st0) rest (kQ D res w1 A1 a) free) (hS : va_S A0 H0 H locs) (hA : ∀ q, q < H.size → A1 q → A0 q) (hf : ∀ q, free q → A0 q)
    (kk : ∀ (H1 : Heap) (locs1 : List Loc), va_P D vwCl w1 H1 → (∀ q : Nat, q < H.size → ¬ A1 q → H1[q]? = H[q]?) → va_S A0 H0 H1 locs1 → W p l e R s m args below meth c H1 locs1 cells slots Q (F0 m (pc + 3) ls (res.toList ++ rest))) : W p l e R s m args below meth c H locs cells slots Q (F0 m pc ls st0) := by
  intro T hT X
  obtain ⟨v, st₀, t, T', L, h0, X', hL, e1, e2, ⟨⟨hv, hb⟩, hz, hk⟩, st⟩ := hr T hT X
  cases hv
  rw [h0] at hz hk
  obtain ⟨t2, a1, b1⟩ := kk T'.heap (locs ++ L) (by rw [e1]; exact hb) (fun q h1 h2 => by rw [e1]; exact hk q h1 h2)
    ⟨Nat.le_trans hS.1 (by rw [e1]; exact hz), fun q h1 h2 => by rw [e1, hk q (Nat.lt_of_lt_of_le h1 hS.1) (fun z => h2 (hA q (Nat.lt_of_lt_of_le h1 hS.1) z))]; exact hS.2.1 q h1 h2, fun q hq => by
      rcases List.mem_append.mp hq with h | h
      · exact hS.2.2 q h
      · exact hf _ (hL q h)⟩ T' rfl X'
  exact ⟨t2, st t2 a1, b1⟩
end
/-- what the tables say of a method that is called on an object; and of a static one -/
def kCard (y : MethodName) (bytes : ByteArray) (maxL : Nat) (ret : Option FieldType) (n : Nat) : Prop := Cond.code y bytes maxL ret ∈ kALL ∧ Cond.initialized y.cls ∈ kALL ∧ (y.cls ≠ "java/lang/invoke/MethodHandle" ∧ y.cls ≠ "java/lang/invoke/VarHandle" ∧ (parseMethodDescriptor y.desc).map (fun d => d.parameters.length) = some n)
def kCardV (y : MethodName) (bytes : ByteArray) (maxL : Nat) (ret : Option FieldType) (n : Nat) : Prop := kCard y bytes maxL ret n ∧ Cond.instanceMethod y ∈ kALL ∧ Cond.selects y.cls y y ∈ kALL
def kCardS (y : MethodName) (bytes : ByteArray) (maxL : Nat) (ret : Option FieldType) (n : Nat) : Prop := kCard y bytes maxL ret n ∧ Cond.static y ∈ kALL
section
variable {l : Launch} {D : va_G} {tA : Nat → ClassId} {G : kCx} {cc : ByteArray} {nL : Nat} {own : String} {fr lo n k : Nat} {w : va_W} {lv : List (Nat × Value)} {pc : Nat} {st : List Value}
theorem kFree {A0 : Nat → Prop} {w wc : va_W} {H0 H : Heap} {locs : List Loc} (hD : va_D A0 w) (hS : va_S A0 H0 H locs) (hA : ∀ q, H0.size ≤ q → A0 q) (is : List Nat) (hC : is.map (fun i => w[i]?) = wc.map some) : ∀ q, va_A wc H.size q → A0 q := va_free hD hS hA is hC
theorem kPre {s : State} {H : Heap} {w wc : va_W} {A : Nat → Prop} {av : List Value} (hK : kK D tA s) (hP : va_P D vwCl w H) (hD : va_D A w) (is : List Nat) (hC : is.map (fun i => w[i]?) = wc.map some) (hn : va_nd is = true) :
    FrameBlind (va_Pc av (fun U => U.heap.size = H.size ∧ va_P D vwCl wc U.heap ∧ kK D tA U ∧ va_D (fun _ => True) wc)) ∧ ∀ U : State, U.heap = H → s.WarmedH U.vm → va_Pc av (fun U => U.heap.size = H.size ∧ va_P D vwCl wc U.heap ∧ kK D tA U ∧ va_D (fun _ => True) wc) av.toArray U := by
  refine ⟨fun a U g mk q => ?_, fun U hU hW => ⟨rfl, by rw [hU], ?_, hK.warm hW, (hD.sub is hn hC).weaken (fun _ _ _ _ => trivial)⟩⟩
  · obtain ⟨q0, q1, qP, qK, qD⟩ := q
    exact ⟨q0, q1, qP, kK.same (u := U) (U := U.calling g mk a) rfl qK, qD⟩
  · rw [hU]
    refine hP.sub is ?_
    have : ∀ (is : List Nat) (wc : va_W), is.map (fun i => w[i]?) = wc.map some → is.filterMap (fun i => w[i]?) = wc := by
      intro is
      induction is with
      | nil => intro wc h; cases wc with
        | nil => rfl
        | cons x xs => simp at h
      | cons i is ih => intro wc h; cases wc with
        | nil => simp at h
        | cons x xs =>
          simp only [List.map_cons, List.cons.injEq] at h
          rw [List.filterMap_cons, h.1]
          show x :: _ = _
          rw [ih xs h.2]
    exact this is wc hC
theorem j_callV (X : kX D tA G cc nL own fr lo) {y : MethodName} {bytes : ByteArray} {maxL : Nat} {ret : Option FieldType} {frc loc index b : Nat} {As : List Value} {wc wc' w' : va_W} {res : Option Value} {stk : List Value}
    (hM : Kx l D tA y bytes maxL ret frc loc (.ref b :: As) wc res wc') (hcd : kCardV y bytes maxL ret As.length) (hlink : Cond.methodLink own index y ∈ kALL)
    (q0 : Nat) {ci : Nat} {fs : List Value} {r : vw_C} (he : w[q0]? = some (b, .inr (ci, fs))) (hcl : vwCl[ci]? = some r) (hrc : r.1 = y.cls) (is : List Nat) (hC : is.map (fun i => w[i]?) = wc.map some) (hn : va_nd is = true) (hfc : wc'.map Prod.fst = wc.map Prod.fst) (hw : kPlug w is wc' = w')
    (hroom : frc + 1 ≤ fr ∧ 8 + (maxL + 11) + loc ≤ lo) (h0 : n ≤ (gR G).cells ∧ k ≤ (gR G).slots) (hstk : stk = As.reverse ++ .ref b :: st) (hcat : (st.map fun v => v.category).sum ≤ 8) (hdg : decode cc pc = .ok (.invokevirtual index, 3))
    (kk : J l D G n k w' lv (pc + 3) (res.toList ++ st)) : J l D G n k w lv pc stk := by
  subst hstk
  intro H locs ls hP hD hS hl
  obtain ⟨hx, hb, hml, hown, hts, hK, hA, hR⟩ := X
  obtain ⟨⟨hcode, hini, hd⟩, hinst, hsel⟩ := hcd
  have hpre := kPre (av := .ref b :: As) hK hP hD is hC hn
  refine k_call (va_runV (As := As) (rest := st) (nL := (gc G).maxLocals) (C := y.cls) (own := own) (Ts := kALL) (bytes := bytes) (maxL := maxL) (ret := ret) ⟨hx, hb, rfl, hown, hts⟩ (hM H.size) (cwV As.length hts (kGoodApp (fun z hz => ?_) (kGood hcode)) rfl rfl rfl ⟨rfl, hd⟩ ⟨Nat.le_trans hroom.1 hR.1, Nat.le_trans hroom.2 hR.2⟩) ⟨hpre.1, ?_, hpre.2⟩ rfl rfl hl.1 rfl (lv_room hcat) hdg h0) hS (fun q _ h => kFree hD hS hA is hC q h) (kFree hD hS hA is hC) (fun H1 locs1 hP1 hk1 hS1 => ?_)
  · rcases List.mem_cons.mp hz with rfl | hz
    · exact ⟨hlink, good_of_word (kALL_good _ hlink)⟩
    rcases List.mem_cons.mp hz with rfl | hz
    · exact ⟨hinst, good_of_word (kALL_good _ hinst)⟩
    rcases List.mem_cons.mp hz with rfl | hz
    · exact ⟨hsel, good_of_word (kALL_good _ hsel)⟩
    rcases List.mem_cons.mp hz with rfl | hz
    · exact ⟨hini, good_of_word (kALL_good _ hini)⟩
    · cases hz
  · have := va_recv hK.1 hP hcl he
    rw [hrc] at this
    exact this
  · exact kk H1 locs1 ls (hw ▸ kP_plug hP hD hC hn (by simpa using congrArg List.length hfc) hk1 hP1) (kD_same hD (hw ▸ kPlug_fst hC hn hfc)) hS1 hl
theorem j_callVR (X : kX D tA G cc nL own fr lo) {y : MethodName} {bytes : ByteArray} {maxL : Nat} {ret : Option FieldType} {frc loc index b : Nat} {As : List Value} {wc : va_W} {res : Option Value} {stk : List Value}
    (hM : Kx l D tA y bytes maxL ret frc loc (.ref b :: As) wc res wc) (hcd : kCardV y bytes maxL ret As.length) (hlink : Cond.methodLink own index y ∈ kALL)
    (q0 : Nat) {ci : Nat} {fs : List Value} {r : vw_C} (he : w[q0]? = some (b, .inr (ci, fs))) (hcl : vwCl[ci]? = some r) (hrc : r.1 = y.cls) (is : List Nat) (hC : is.map (fun i => w[i]?) = wc.map some) (hn : va_nd is = true)
    (hroom : frc + 1 ≤ fr ∧ 8 + (maxL + 11) + loc ≤ lo) (h0 : n ≤ (gR G).cells ∧ k ≤ (gR G).slots) (hstk : stk = As.reverse ++ .ref b :: st) (hcat : (st.map fun v => v.category).sum ≤ 8) (hdg : decode cc pc = .ok (.invokevirtual index, 3))
    (kk : J l D G n k w lv (pc + 3) (res.toList ++ st)) : J l D G n k w lv pc stk := by
  subst hstk
  intro H locs ls hP hD hS hl
  obtain ⟨hx, hb, hml, hown, hts, hK, hA, hR⟩ := X
  obtain ⟨⟨hcode, hini, hd⟩, hinst, hsel⟩ := hcd
  have hpre := kPre (av := .ref b :: As) hK hP hD is hC hn
  refine k_call (va_runV (As := As) (rest := st) (nL := (gc G).maxLocals) (C := y.cls) (own := own) (Ts := kALL) (bytes := bytes) (maxL := maxL) (ret := ret) ⟨hx, hb, rfl, hown, hts⟩ (hM H.size) (cwV As.length hts (kGoodApp (fun z hz => ?_) (kGood hcode)) rfl rfl rfl ⟨rfl, hd⟩ ⟨Nat.le_trans hroom.1 hR.1, Nat.le_trans hroom.2 hR.2⟩) ⟨hpre.1, ?_, hpre.2⟩ rfl rfl hl.1 rfl (lv_room hcat) hdg h0) hS (fun q _ h => kFree hD hS hA is hC q h) (kFree hD hS hA is hC) (fun H1 locs1 hP1 hk1 hS1 => ?_)
  · rcases List.mem_cons.mp hz with rfl | hz
    · exact ⟨hlink, good_of_word (kALL_good _ hlink)⟩
    rcases List.mem_cons.mp hz with rfl | hz
    · exact ⟨hinst, good_of_word (kALL_good _ hinst)⟩
    rcases List.mem_cons.mp hz with rfl | hz
    · exact ⟨hsel, good_of_word (kALL_good _ hsel)⟩
    rcases List.mem_cons.mp hz with rfl | hz
    · exact ⟨hini, good_of_word (kALL_good _ hini)⟩
    · cases hz
  · have := va_recv hK.1 hP hcl he
    rw [hrc] at this
    exact this
  · exact kk H1 locs1 ls (kP_read hP hD hC hk1 hP1) hD hS1 hl
theorem j_callVB (X : kX D tA G cc nL own fr lo) {y : MethodName} {bytes : ByteArray} {maxL : Nat} {ret : Option FieldType} {frc loc index b : Nat} {As : List Value} {wc wc' wr w' : va_W} {res : Option Value} {stk : List Value}
    (hM : Kx l D tA y bytes maxL ret frc loc (.ref b :: As) wc res wc') (hcd : kCardV y bytes maxL ret As.length) (hlink : Cond.methodLink own index y ∈ kALL)
    (q0 : Nat) {ci : Nat} {fs : List Value} {r : vw_C} (he : w[q0]? = some (b, .inr (ci, fs))) (hcl : vwCl[ci]? = some r) (hrc : r.1 = y.cls) (is : List Nat) (hC : is.map (fun i => w[i]?) = wc.map some) (hn : va_nd is = true) (js : List Nat) (hRr : js.map (fun i => w[i]?) = wr.map some) (hn2 : va_nd (is ++ js) = true) (hfc : wc'.map Prod.fst = wc.map Prod.fst) (ks : List Nat) (hB : ks.map (fun i => (wc' ++ wr)[i]?) = w'.map some) (hnk : va_nd ks = true)
    (hroom : frc + 1 ≤ fr ∧ 8 + (maxL + 11) + loc ≤ lo) (h0 : n ≤ (gR G).cells ∧ k ≤ (gR G).slots) (hstk : stk = As.reverse ++ .ref b :: st) (hcat : (st.map fun v => v.category).sum ≤ 8) (hdg : decode cc pc = .ok (.invokevirtual index, 3))
    (kk : J l D G n k w' lv (pc + 3) (res.toList ++ st)) : J l D G n k w lv pc stk := by
  subst hstk
  intro H locs ls hP hD hS hl
  obtain ⟨hx, hb, hml, hown, hts, hK, hA, hR⟩ := X
  obtain ⟨⟨hcode, hini, hd⟩, hinst, hsel⟩ := hcd
  have hpre := kPre (av := .ref b :: As) hK hP hD is hC hn
  refine k_call (va_runV (As := As) (rest := st) (nL := (gc G).maxLocals) (C := y.cls) (own := own) (Ts := kALL) (bytes := bytes) (maxL := maxL) (ret := ret) ⟨hx, hb, rfl, hown, hts⟩ (hM H.size) (cwV As.length hts (kGoodApp (fun z hz => ?_) (kGood hcode)) rfl rfl rfl ⟨rfl, hd⟩ ⟨Nat.le_trans hroom.1 hR.1, Nat.le_trans hroom.2 hR.2⟩) ⟨hpre.1, ?_, hpre.2⟩ rfl rfl hl.1 rfl (lv_room hcat) hdg h0) hS (fun q _ h => kFree hD hS hA is hC q h) (kFree hD hS hA is hC) (fun H1 locs1 hP1 hk1 hS1 => ?_)
  · rcases List.mem_cons.mp hz with rfl | hz
    · exact ⟨hlink, good_of_word (kALL_good _ hlink)⟩
    rcases List.mem_cons.mp hz with rfl | hz
    · exact ⟨hinst, good_of_word (kALL_good _ hinst)⟩
    rcases List.mem_cons.mp hz with rfl | hz
    · exact ⟨hsel, good_of_word (kALL_good _ hsel)⟩
    rcases List.mem_cons.mp hz with rfl | hz
    · exact ⟨hini, good_of_word (kALL_good _ hini)⟩
    · cases hz
  · have := va_recv hK.1 hP hcl he
    rw [hrc] at this
    exact this
  · exact kk H1 locs1 ls (kP_block hP hD hC hRr hn2 hfc hB hnk hk1 hP1).1 (kP_block hP hD hC hRr hn2 hfc hB hnk hk1 hP1).2 hS1 hl
theorem j_callS (X : kX D tA G cc nL own fr lo) {y : MethodName} {bytes : ByteArray} {maxL : Nat} {ret : Option FieldType} {frc loc index : Nat} {As : List Value} {wc wc' w' : va_W} {res : Option Value} {stk : List Value}
    (hM : Kx l D tA y bytes maxL ret frc loc As wc res wc') (hcd : kCardS y bytes maxL ret As.length) (hlink : Cond.methodLink own index y ∈ kALL) (hcls : y.cls = own)
    (is : List Nat) (hC : is.map (fun i => w[i]?) = wc.map some) (hn : va_nd is = true) (hfc : wc'.map Prod.fst = wc.map Prod.fst) (hw : kPlug w is wc' = w')
    (hroom : frc + 1 ≤ fr ∧ 8 + (maxL + 11) + loc ≤ lo) (h0 : n ≤ (gR G).cells ∧ k ≤ (gR G).slots) (hstk : stk = As.reverse ++ st) (hcat : (st.map fun v => v.category).sum ≤ 8) (hdg : decode cc pc = .ok (.invokestatic index, 3))
    (kk : J l D G n k w' lv (pc + 3) (res.toList ++ st)) : J l D G n k w lv pc stk := by
  subst hstk
  subst hcls
  intro H locs ls hP hD hS hl
  obtain ⟨hx, hb, hml, hown, hts, hK, hA, hR⟩ := X
  obtain ⟨⟨hcode, hini, hd⟩, hst⟩ := hcd
  have hpre := kPre (av := As) hK hP hD is hC hn
  refine k_call (va_runS (As := As) (rest := st) (nL := (gc G).maxLocals) (own := y.cls) (Ts := kALL) (bytes := bytes) (maxL := maxL) (ret := ret) ⟨hx, hb, rfl, hown, hts⟩ (hM H.size) (cwS As.length hts (kGoodApp (fun z hz => ?_) (kGood hcode)) rfl rfl rfl ⟨rfl, hd⟩ ⟨Nat.le_trans hroom.1 hR.1, Nat.le_trans hroom.2 hR.2⟩) hpre rfl rfl hl.1 rfl (lv_room hcat) hdg h0) hS (fun q _ h => kFree hD hS hA is hC q h) (kFree hD hS hA is hC) (fun H1 locs1 hP1 hk1 hS1 => ?_)
  · rcases List.mem_cons.mp hz with rfl | hz
    · exact ⟨hlink, good_of_word (kALL_good _ hlink)⟩
    rcases List.mem_cons.mp hz with rfl | hz
    · exact ⟨hst, good_of_word (kALL_good _ hst)⟩
    rcases List.mem_cons.mp hz with rfl | hz
    · exact ⟨hini, good_of_word (kALL_good _ hini)⟩
    · cases hz
  · exact kk H1 locs1 ls (hw ▸ kP_plug hP hD hC hn (by simpa using congrArg List.length hfc) hk1 hP1) (kD_same hD (hw ▸ kPlug_fst hC hn hfc)) hS1 hl
theorem j_callSR (X : kX D tA G cc nL own fr lo) {y : MethodName} {bytes : ByteArray} {maxL : Nat} {ret : Option FieldType} {frc loc index : Nat} {As : List Value} {wc : va_W} {res : Option Value} {stk : List Value}
    (hM : Kx l D tA y bytes maxL ret frc loc As wc res wc) (hcd : kCardS y bytes maxL ret As.length) (hlink : Cond.methodLink own index y ∈ kALL) (hcls : y.cls = own)
    (is : List Nat) (hC : is.map (fun i => w[i]?) = wc.map some) (hn : va_nd is = true)
    (hroom : frc + 1 ≤ fr ∧ 8 + (maxL + 11) + loc ≤ lo) (h0 : n ≤ (gR G).cells ∧ k ≤ (gR G).slots) (hstk : stk = As.reverse ++ st) (hcat : (st.map fun v => v.category).sum ≤ 8) (hdg : decode cc pc = .ok (.invokestatic index, 3))
    (kk : J l D G n k w lv (pc + 3) (res.toList ++ st)) : J l D G n k w lv pc stk := by
  subst hstk
  subst hcls
  intro H locs ls hP hD hS hl
  obtain ⟨hx, hb, hml, hown, hts, hK, hA, hR⟩ := X
  obtain ⟨⟨hcode, hini, hd⟩, hst⟩ := hcd
  have hpre := kPre (av := As) hK hP hD is hC hn
  refine k_call (va_runS (As := As) (rest := st) (nL := (gc G).maxLocals) (own := y.cls) (Ts := kALL) (bytes := bytes) (maxL := maxL) (ret := ret) ⟨hx, hb, rfl, hown, hts⟩ (hM H.size) (cwS As.length hts (kGoodApp (fun z hz => ?_) (kGood hcode)) rfl rfl rfl ⟨rfl, hd⟩ ⟨Nat.le_trans hroom.1 hR.1, Nat.le_trans hroom.2 hR.2⟩) hpre rfl rfl hl.1 rfl (lv_room hcat) hdg h0) hS (fun q _ h => kFree hD hS hA is hC q h) (kFree hD hS hA is hC) (fun H1 locs1 hP1 hk1 hS1 => ?_)
  · rcases List.mem_cons.mp hz with rfl | hz
    · exact ⟨hlink, good_of_word (kALL_good _ hlink)⟩
    rcases List.mem_cons.mp hz with rfl | hz
    · exact ⟨hst, good_of_word (kALL_good _ hst)⟩
    rcases List.mem_cons.mp hz with rfl | hz
    · exact ⟨hini, good_of_word (kALL_good _ hini)⟩
    · cases hz
  · exact kk H1 locs1 ls (kP_read hP hD hC hk1 hP1) hD hS1 hl
theorem j_callSB (X : kX D tA G cc nL own fr lo) {y : MethodName} {bytes : ByteArray} {maxL : Nat} {ret : Option FieldType} {frc loc index : Nat} {As : List Value} {wc wc' wr w' : va_W} {res : Option Value} {stk : List Value}
    (hM : Kx l D tA y bytes maxL ret frc loc As wc res wc') (hcd : kCardS y bytes maxL ret As.length) (hlink : Cond.methodLink own index y ∈ kALL) (hcls : y.cls = own)
    (is : List Nat) (hC : is.map (fun i => w[i]?) = wc.map some) (hn : va_nd is = true) (js : List Nat) (hRr : js.map (fun i => w[i]?) = wr.map some) (hn2 : va_nd (is ++ js) = true) (hfc : wc'.map Prod.fst = wc.map Prod.fst) (ks : List Nat) (hB : ks.map (fun i => (wc' ++ wr)[i]?) = w'.map some) (hnk : va_nd ks = true)
    (hroom : frc + 1 ≤ fr ∧ 8 + (maxL + 11) + loc ≤ lo) (h0 : n ≤ (gR G).cells ∧ k ≤ (gR G).slots) (hstk : stk = As.reverse ++ st) (hcat : (st.map fun v => v.category).sum ≤ 8) (hdg : decode cc pc = .ok (.invokestatic index, 3))
    (kk : J l D G n k w' lv (pc + 3) (res.toList ++ st)) : J l D G n k w lv pc stk := by
  subst hstk
  subst hcls
  intro H locs ls hP hD hS hl
  obtain ⟨hx, hb, hml, hown, hts, hK, hA, hR⟩ := X
  obtain ⟨⟨hcode, hini, hd⟩, hst⟩ := hcd
  have hpre := kPre (av := As) hK hP hD is hC hn
  refine k_call (va_runS (As := As) (rest := st) (nL := (gc G).maxLocals) (own := y.cls) (Ts := kALL) (bytes := bytes) (maxL := maxL) (ret := ret) ⟨hx, hb, rfl, hown, hts⟩ (hM H.size) (cwS As.length hts (kGoodApp (fun z hz => ?_) (kGood hcode)) rfl rfl rfl ⟨rfl, hd⟩ ⟨Nat.le_trans hroom.1 hR.1, Nat.le_trans hroom.2 hR.2⟩) hpre rfl rfl hl.1 rfl (lv_room hcat) hdg h0) hS (fun q _ h => kFree hD hS hA is hC q h) (kFree hD hS hA is hC) (fun H1 locs1 hP1 hk1 hS1 => ?_)
  · rcases List.mem_cons.mp hz with rfl | hz
    · exact ⟨hlink, good_of_word (kALL_good _ hlink)⟩
    rcases List.mem_cons.mp hz with rfl | hz
    · exact ⟨hst, good_of_word (kALL_good _ hst)⟩
    rcases List.mem_cons.mp hz with rfl | hz
    · exact ⟨hini, good_of_word (kALL_good _ hini)⟩
    · cases hz
  · exact kk H1 locs1 ls (kP_block hP hD hC hRr hn2 hfc hB hnk hk1 hP1).1 (kP_block hP hD hC hRr hn2 hfc hB hnk hk1 hP1).2 hS1 hl
theorem j_callN (X : kX D tA G cc nL own fr lo) {y : MethodName} {bytes : ByteArray} {maxL : Nat} {ret : Option FieldType} {frc loc index : Nat} {host : String} {As : List Value} {wc wc' w' : va_W} {res : Option Value} {stk : List Value}
    (hM : Kx l D tA y bytes maxL ret frc loc As wc res wc') (hcd : kCardS y bytes maxL ret As.length) (hlink : va_Nw (.methodLinkNest own index y host) (gs G))
    (is : List Nat) (hC : is.map (fun i => w[i]?) = wc.map some) (hn : va_nd is = true) (hfc : wc'.map Prod.fst = wc.map Prod.fst) (hw : kPlug w is wc' = w')
    (hroom : frc + 1 ≤ fr ∧ 8 + (maxL + 11) + loc ≤ lo) (h0 : n ≤ (gR G).cells ∧ k ≤ (gR G).slots) (hstk : stk = As.reverse ++ st) (hcat : (st.map fun v => v.category).sum ≤ 8) (hdg : decode cc pc = .ok (.invokestatic index, 3))
    (kk : J l D G n k w' lv (pc + 3) (res.toList ++ st)) : J l D G n k w lv pc stk := by
  subst hstk
  intro H locs ls hP hD hS hl
  obtain ⟨hx, hb, hml, hown, hts, hK, hA, hR⟩ := X
  obtain ⟨⟨hcode, hini, hd⟩, hst⟩ := hcd
  have hpre := kPre (av := As) hK hP hD is hC hn
  refine k_call (va_runSN (As := As) (rest := st) (nL := (gc G).maxLocals) (own := own) (Ts := kALL) (bytes := bytes) (maxL := maxL) (ret := ret) ⟨hx, hb, rfl, hown, hts⟩ (hM H.size) ⟨va_cnB As.length hts (kGood hcode) rfl rfl rfl hlink (hts _ hini) hd ⟨Nat.le_trans hroom.1 hR.1, Nat.le_trans hroom.2 hR.2⟩, hts _ hst, trivial⟩ hpre rfl rfl hl.1 rfl (lv_room hcat) hdg h0) hS (fun q _ h => kFree hD hS hA is hC q h) (kFree hD hS hA is hC) (fun H1 locs1 hP1 hk1 hS1 => ?_)
  exact kk H1 locs1 ls (hw ▸ kP_plug hP hD hC hn (by simpa using congrArg List.length hfc) hk1 hP1) (kD_same hD (hw ▸ kPlug_fst hC hn hfc)) hS1 hl
theorem j_callNR (X : kX D tA G cc nL own fr lo) {y : MethodName} {bytes : ByteArray} {maxL : Nat} {ret : Option FieldType} {frc loc index : Nat} {host : String} {As : List Value} {wc : va_W} {res : Option Value} {stk : List Value}
    (hM : Kx l D tA y bytes maxL ret frc loc As wc res wc) (hcd : kCardS y bytes maxL ret As.length) (hlink : va_Nw (.methodLinkNest own index y host) (gs G))
    (is : List Nat) (hC : is.map (fun i => w[i]?) = wc.map some) (hn : va_nd is = true)
    (hroom : frc + 1 ≤ fr ∧ 8 + (maxL + 11) + loc ≤ lo) (h0 : n ≤ (gR G).cells ∧ k ≤ (gR G).slots) (hstk : stk = As.reverse ++ st) (hcat : (st.map fun v => v.category).sum ≤ 8) (hdg : decode cc pc = .ok (.invokestatic index, 3))
    (kk : J l D G n k w lv (pc + 3) (res.toList ++ st)) : J l D G n k w lv pc stk := by
  subst hstk
  intro H locs ls hP hD hS hl
  obtain ⟨hx, hb, hml, hown, hts, hK, hA, hR⟩ := X
  obtain ⟨⟨hcode, hini, hd⟩, hst⟩ := hcd
  have hpre := kPre (av := As) hK hP hD is hC hn
  refine k_call (va_runSN (As := As) (rest := st) (nL := (gc G).maxLocals) (own := own) (Ts := kALL) (bytes := bytes) (maxL := maxL) (ret := ret) ⟨hx, hb, rfl, hown, hts⟩ (hM H.size) ⟨va_cnB As.length hts (kGood hcode) rfl rfl rfl hlink (hts _ hini) hd ⟨Nat.le_trans hroom.1 hR.1, Nat.le_trans hroom.2 hR.2⟩, hts _ hst, trivial⟩ hpre rfl rfl hl.1 rfl (lv_room hcat) hdg h0) hS (fun q _ h => kFree hD hS hA is hC q h) (kFree hD hS hA is hC) (fun H1 locs1 hP1 hk1 hS1 => ?_)
  exact kk H1 locs1 ls (kP_read hP hD hC hk1 hP1) hD hS1 hl
theorem j_callNB (X : kX D tA G cc nL own fr lo) {y : MethodName} {bytes : ByteArray} {maxL : Nat} {ret : Option FieldType} {frc loc index : Nat} {host : String} {As : List Value} {wc wc' wr w' : va_W} {res : Option Value} {stk : List Value}
    (hM : Kx l D tA y bytes maxL ret frc loc As wc res wc') (hcd : kCardS y bytes maxL ret As.length) (hlink : va_Nw (.methodLinkNest own index y host) (gs G))
    (is : List Nat) (hC : is.map (fun i => w[i]?) = wc.map some) (hn : va_nd is = true) (js : List Nat) (hRr : js.map (fun i => w[i]?) = wr.map some) (hn2 : va_nd (is ++ js) = true) (hfc : wc'.map Prod.fst = wc.map Prod.fst) (ks : List Nat) (hB : ks.map (fun i => (wc' ++ wr)[i]?) = w'.map some) (hnk : va_nd ks = true)
    (hroom : frc + 1 ≤ fr ∧ 8 + (maxL + 11) + loc ≤ lo) (h0 : n ≤ (gR G).cells ∧ k ≤ (gR G).slots) (hstk : stk = As.reverse ++ st) (hcat : (st.map fun v => v.category).sum ≤ 8) (hdg : decode cc pc = .ok (.invokestatic index, 3))
    (kk : J l D G n k w' lv (pc + 3) (res.toList ++ st)) : J l D G n k w lv pc stk := by
  subst hstk
  intro H locs ls hP hD hS hl
  obtain ⟨hx, hb, hml, hown, hts, hK, hA, hR⟩ := X
  obtain ⟨⟨hcode, hini, hd⟩, hst⟩ := hcd
  have hpre := kPre (av := As) hK hP hD is hC hn
  refine k_call (va_runSN (As := As) (rest := st) (nL := (gc G).maxLocals) (own := own) (Ts := kALL) (bytes := bytes) (maxL := maxL) (ret := ret) ⟨hx, hb, rfl, hown, hts⟩ (hM H.size) ⟨va_cnB As.length hts (kGood hcode) rfl rfl rfl hlink (hts _ hini) hd ⟨Nat.le_trans hroom.1 hR.1, Nat.le_trans hroom.2 hR.2⟩, hts _ hst, trivial⟩ hpre rfl rfl hl.1 rfl (lv_room hcat) hdg h0) hS (fun q _ h => kFree hD hS hA is hC q h) (kFree hD hS hA is hC) (fun H1 locs1 hP1 hk1 hS1 => ?_)
  exact kk H1 locs1 ls (kP_block hP hD hC hRr hn2 hfc hB hnk hk1 hP1).1 (kP_block hP hD hC hRr hn2 hfc hB hnk hk1 hP1).2 hS1 hl
end

