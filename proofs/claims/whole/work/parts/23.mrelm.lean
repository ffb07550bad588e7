/-! the whole of the reference's row: the present, the ring, what is kept -/
def OKs (s : Sg) : Prop := Wf s ∧ (∀ q, q < (sV s).1 → sN s ≤ tGet 5 (sV s) q 4) ∧ (∀ b, b < (sB s).1 → tGet 8 (sB s) b 5 = 0 → sN s ≤ tGet 8 (sB s) b 2)
def shf (R : Nat → Nat) (a : Nat) : Nat → Nat := fun i => R (a + i)
def hIx (v : Hs) (j : Nat) : Nat := (v.2.1 + 4 - v.2.2 + j) % 4
def RelM (s sn : Sg) (v : Hs) (kp : Bool) (R : Nat → Nat) : Prop :=
  RB s R ∧ OKs s ∧ v.2.1 < 4 ∧ v.2.2 ≤ 4 ∧ (∀ j, j < v.2.2 → RB (v.1 (hIx v j)) (shf R (535 + 535 * j)) ∧ OKs (v.1 (hIx v j))) ∧ (kp = true → RB sn (shf R 2675) ∧ OKs sn)
section
variable {s s' sn : Sg} {v : Hs} {kp : Bool} {R R' : Nat → Nat}
theorem RelM.low (h : RelM s sn v kp R) (h0 : RB s R') (e : ∀ j, 535 ≤ j → j < 3210 → R' j = R j) : RelM s sn v kp R' := by
  obtain ⟨h1, h2, h3, h4, h5, h6⟩ := h
  refine ⟨h0, h2, h3, h4, fun j hj => ⟨?_, (h5 j hj).2⟩, fun q => ⟨?_, (h6 q).2⟩⟩
  · exact RB.same (h5 j hj).1 (h5 j hj).2.1 (fun i hi => e _ (by omega) (by omega))
  · exact RB.same (h6 q).1 (h6 q).2.1 (fun i hi => e _ (by omega) (by omega))
theorem push_sz : (hPush v s).2.2 = min (v.2.2 + 1) 4 := rfl
theorem recN_sz (h4 : v.2.2 ≤ 4) : recN v.2.2 = (hPush v s).2.2 := by
  rw [push_sz]; unfold recN
  by_cases q : v.2.2 = 4
  · rw [if_pos q]; omega
  · rw [if_neg q]; omega
theorem RelM.rec0 (h : RelM s sn v kp R) : RB s (recR R v.2.2) := by
  refine RB.same h.1 h.2.1.1 (fun j hj => ?_)
  have := h.2.2.2.1
  unfold recR
  by_cases q : v.2.2 = 4
  · rw [if_pos q]; unfold cpR shR; rw [if_neg (by omega), if_neg (by omega)]
  · rw [if_neg q]; unfold cpR; rw [if_neg (by omega)]
theorem RelM.act (h : RelM s sn v kp R) (hO : Out (recR R v.2.2) R') (hB : RB s' R') (hk : OKs s') : RelM s' sn (hPush v s) kp R' := by
  obtain ⟨h1, h2, h3, h4, h5, h6⟩ := h
  refine ⟨hB, hk, Nat.mod_lt _ (by decide), by rw [push_sz]; omega, fun j hj => ?_, fun q => ⟨?_, (h6 q).2⟩⟩
  · rw [push_sz] at hj
    by_cases q : v.2.2 = 4
    · have er : recR R v.2.2 = cpR (shR R 4) 0 (535 + 535 * 3) 535 := by unfold recR; rw [if_pos q]
      rw [er] at hO
      by_cases z : j = 3
      · have e : (hPush v s).1 (hIx (hPush v s) j) = s := by
          show va_up v.1 v.2.1 s (((v.2.1 + 1) % 4 + 4 - min (v.2.2 + 1) 4 + j) % 4) = s
          rw [show ((v.2.1 + 1) % 4 + 4 - min (v.2.2 + 1) 4 + j) % 4 = v.2.1 by omega, up_same]
        rw [e]
        refine ⟨RB.same h1 h2.1 (fun i hi => ?_), h2⟩
        show R' (535 + 535 * j + i) = R i
        rw [hO _ (by omega)]
        unfold cpR
        rw [if_pos (by omega), show 535 + 535 * j + i - (535 + 535 * 3) + 0 = i by omega]
        unfold shR
        rw [if_neg (by omega)]
      · have e : (hPush v s).1 (hIx (hPush v s) j) = v.1 (hIx v (j + 1)) := by
          show va_up v.1 v.2.1 s (((v.2.1 + 1) % 4 + 4 - min (v.2.2 + 1) 4 + j) % 4) = v.1 ((v.2.1 + 4 - v.2.2 + (j + 1)) % 4)
          rw [show ((v.2.1 + 1) % 4 + 4 - min (v.2.2 + 1) 4 + j) % 4 = (v.2.1 + 4 - v.2.2 + (j + 1)) % 4 by omega, up_ne _ _ (by omega)]
        rw [e]
        refine ⟨RB.same (h5 (j + 1) (by omega)).1 (h5 (j + 1) (by omega)).2.1 (fun i hi => ?_), (h5 (j + 1) (by omega)).2⟩
        show R' (535 + 535 * j + i) = R (535 + 535 * (j + 1) + i)
        rw [hO _ (by omega)]
        unfold cpR
        rw [if_neg (by omega)]
        unfold shR
        rw [if_pos (by omega)]
        exact congrArg R (by omega)
    · have er : recR R v.2.2 = cpR R 0 (535 + 535 * v.2.2) 535 := by unfold recR; rw [if_neg q]
      rw [er] at hO
      by_cases z : j = v.2.2
      · have e : (hPush v s).1 (hIx (hPush v s) j) = s := by
          show va_up v.1 v.2.1 s (((v.2.1 + 1) % 4 + 4 - min (v.2.2 + 1) 4 + j) % 4) = s
          rw [show ((v.2.1 + 1) % 4 + 4 - min (v.2.2 + 1) 4 + j) % 4 = v.2.1 by omega, up_same]
        rw [e]
        refine ⟨RB.same h1 h2.1 (fun i hi => ?_), h2⟩
        show R' (535 + 535 * j + i) = R i
        rw [hO _ (by omega)]
        unfold cpR
        rw [if_pos (by omega), z]
        exact congrArg R (by omega)
      · have e : (hPush v s).1 (hIx (hPush v s) j) = v.1 (hIx v j) := by
          show va_up v.1 v.2.1 s (((v.2.1 + 1) % 4 + 4 - min (v.2.2 + 1) 4 + j) % 4) = v.1 ((v.2.1 + 4 - v.2.2 + j) % 4)
          rw [show ((v.2.1 + 1) % 4 + 4 - min (v.2.2 + 1) 4 + j) % 4 = (v.2.1 + 4 - v.2.2 + j) % 4 by omega, up_ne _ _ (by omega)]
        rw [e]
        refine ⟨RB.same (h5 j (by omega)).1 (h5 j (by omega)).2.1 (fun i hi => ?_), (h5 j (by omega)).2⟩
        show R' (535 + 535 * j + i) = R (535 + 535 * j + i)
        rw [hO _ (by omega)]
        unfold cpR
        rw [if_neg (by omega)]
  · refine RB.same (h6 q).1 (h6 q).2.1 (fun i hi => ?_)
    show R' (2675 + i) = R (2675 + i)
    rw [hO _ (by omega)]
    unfold recR
    by_cases z : v.2.2 = 4
    · rw [if_pos z]; unfold cpR shR; rw [if_neg (by omega), if_neg (by omega)]
    · rw [if_neg z]; unfold cpR; rw [if_neg (by omega)]
theorem RelM.pop (h : RelM s sn v kp R) (hp : 0 < v.2.2) : RelM (v.1 (hLast v)) sn (hPop v) kp (cpR R (535 + 535 * (v.2.2 - 1)) 0 535) := by
  obtain ⟨h1, h2, h3, h4, h5, h6⟩ := h
  have el : hLast v = hIx v (v.2.2 - 1) := by unfold hLast hIx; omega
  have hl := h5 (v.2.2 - 1) (by omega)
  rw [el]
  refine ⟨RB.same hl.1 hl.2.1 (fun i hi => ?_), hl.2, Nat.mod_lt _ (by decide), by show v.2.2 - 1 ≤ 4; omega, fun j hj => ?_, fun q => ⟨?_, (h6 q).2⟩⟩
  · unfold cpR shf
    rw [if_pos (by omega)]
    exact congrArg R (by omega)
  · have hj : j < v.2.2 - 1 := hj
    have e : hIx (hPop v) j = hIx v j := by
      show ((v.2.1 + 4 - 1) % 4 + 4 - (v.2.2 - 1) + j) % 4 = (v.2.1 + 4 - v.2.2 + j) % 4
      omega
    rw [e]
    refine ⟨RB.same (h5 j (by omega)).1 (h5 j (by omega)).2.1 (fun i hi => ?_), (h5 j (by omega)).2⟩
    show cpR R _ 0 535 (535 + 535 * j + i) = R (535 + 535 * j + i)
    unfold cpR
    rw [if_neg (by omega)]
  · refine RB.same (h6 q).1 (h6 q).2.1 (fun i hi => ?_)
    show cpR R _ 0 535 (2675 + i) = R (2675 + i)
    unfold cpR
    rw [if_neg (by omega)]
theorem RelM.keep (h : RelM s sn v kp R) : RelM s s v true (cpR R 0 2675 535) := by
  obtain ⟨h1, h2, h3, h4, h5, h6⟩ := h
  refine ⟨RB.same h1 h2.1 (fun i hi => ?_), h2, h3, h4, fun j hj => ⟨RB.same (h5 j hj).1 (h5 j hj).2.1 (fun i hi => ?_), (h5 j hj).2⟩, fun _ => ⟨RB.same h1 h2.1 (fun i hi => ?_), h2⟩⟩
  · unfold cpR; rw [if_neg (by omega)]
  · show cpR R 0 2675 535 (535 + 535 * j + i) = R (535 + 535 * j + i)
    unfold cpR; rw [if_neg (by omega)]
  · show cpR R 0 2675 535 (2675 + i) = R i
    unfold cpR; rw [if_pos (by omega)]; exact congrArg R (by omega)
theorem RelM.rest (h : RelM s sn v kp R) (hk : kp = true) : RelM sn sn (hPush v s) kp (cpR (recR R v.2.2) 2675 0 535) := by
  have h6 := h.2.2.2.2.2 hk
  have h4 := h.2.2.2.1
  refine RelM.act h (fun j hj => ?_) (RB.same h6.1 h6.2.1 (fun i hi => ?_)) h6.2
  · unfold cpR; rw [if_neg (by omega)]
  · show cpR (recR R v.2.2) 2675 0 535 i = R (2675 + i)
    unfold cpR
    rw [if_pos (by omega)]
    unfold recR
    by_cases z : v.2.2 = 4
    · rw [if_pos z]; unfold cpR shR; rw [if_neg (by omega), if_neg (by omega)]; exact congrArg R (by omega)
    · rw [if_neg z]; unfold cpR; rw [if_neg (by omega)]; exact congrArg R (by omega)
end
theorem cnt_zero {p : Nat → Bool} : ∀ n, (∀ r, r < n → p r = false) → cntN p n = 0
  | 0, _ => rfl
  | n + 1, h => by rw [cntN, cnt_zero n (fun r hr => h r (by omega)), h n (by omega)]; rfl
section
variable {s : Sg} {R R' : Nat → Nat}
theorem RB.addM (h : RB s R) (hw : Wf s) {st bl : Nat} (hm : (sM s).1 < 5) (e : ∀ j, j ≠ 1 → (j < 9 + 4 * (sM s).1 ∨ 9 + 4 * (sM s).1 + 4 ≤ j) → R' j = R j) (e1 : R' 1 = (sM s).1 + 1) (a0 : R' (9 + 4 * (sM s).1 + 0) = st) (a1 : R' (9 + 4 * (sM s).1 + 1) = bl) (a2 : R' (9 + 4 * (sM s).1 + 2) = 0) (a3 : R' (9 + 4 * (sM s).1 + 3) = 0) : RB (pMach s st bl) R' := by
  have hn := hw.n
  refine ⟨⟨(e _ (by omega) (by omega)).trans h.n0, e1, (e _ (by omega) (by omega)).trans h.n2, (e _ (by omega) (by omega)).trans h.n3, (e _ (by omega) (by omega)).trans h.n4, (e _ (by omega) (by omega)).trans h.n5, (e _ (by omega) (by omega)).trans h.n6, (e _ (by omega) (by omega)).trans h.n7, (e _ (by omega) (by omega)).trans h.n8⟩, fun m hm => ?_, fun p hp c hc => (e _ (by omega) (by omega)).trans (h.p hp hc), fun b hb c hc => (e _ (by omega) (by omega)).trans (h.b hb hc), fun v hv c hc => (e _ (by omega) (by omega)).trans (h.v hv hc), fun t ht => (e _ (by omega) (by omega)).trans (h.w ht)⟩
  have hm2 : m < (sM s).1 + 1 := hm
  show _ = tGet 3 (tSet 3 (tSet 3 (tSet 3 (tAdd 3 (sM s)) (sM s).1 0 st) (sM s).1 1 bl) (sM s).1 2 NN) m 0 ∧ _ = tGet 3 (tSet 3 (tSet 3 (tSet 3 (tAdd 3 (sM s)) (sM s).1 0 st) (sM s).1 1 bl) (sM s).1 2 NN) m 1 ∧ _ = enc (tGet 3 (tSet 3 (tSet 3 (tSet 3 (tAdd 3 (sM s)) (sM s).1 0 st) (sM s).1 1 bl) (sM s).1 2 NN) m 2) ∧ _ = cB s 1 m 1
  by_cases q : m = (sM s).1
  · subst q
    rw [get_set_c (by decide) (by decide) (by decide), get_set_c (by decide) (by decide) (by decide), get_set_s (by decide), get_set_c (by decide) (by decide) (by decide), get_set_s (by decide), get_set_s (by decide)]
    refine ⟨a0, a1, a2.trans ?_, a3.trans (cnt_zero _ (fun r hr => decide_eq_false (fun z => ?_))).symm⟩
    · unfold enc; rw [if_pos rfl]
    · have := (hw.b hr).2.1; omega
  · have hm3 : m < (sM s).1 := by omega
    have g : ∀ c, c < 3 → tGet 3 (tSet 3 (tSet 3 (tSet 3 (tAdd 3 (sM s)) (sM s).1 0 st) (sM s).1 1 bl) (sM s).1 2 NN) m c = tGet 3 (sM s) m c := fun c hc => by
      rw [get_set_r (by decide) hc q, get_set_r (by decide) hc q, get_set_r (by decide) hc q, get_add_o hm3 hc]
    rw [g 0 (by decide), g 1 (by decide), g 2 (by decide), e _ (by omega) (by omega), e _ (by omega) (by omega), e _ (by omega) (by omega), e _ (by omega) (by omega)]
    exact h.2.1 m hm3
theorem RB.addP (h : RB s R) (hw : Wf s) (hp : (sP s).1 < 8) (e : ∀ j, j ≠ 2 → (j < 29 + 2 * (sP s).1 ∨ 29 + 2 * (sP s).1 + 2 ≤ j) → R' j = R j) (e1 : R' 2 = (sP s).1 + 1) (a0 : R' (29 + 2 * (sP s).1 + 0) = 0) (a1 : R' (29 + 2 * (sP s).1 + 1) = 0) : RB (uP s (tAdd 2 (sP s))) R' := by
  have hn := hw.n
  refine ⟨⟨(e _ (by omega) (by omega)).trans h.n0, (e _ (by omega) (by omega)).trans h.n1, e1, (e _ (by omega) (by omega)).trans h.n3, (e _ (by omega) (by omega)).trans h.n4, (e _ (by omega) (by omega)).trans h.n5, (e _ (by omega) (by omega)).trans h.n6, (e _ (by omega) (by omega)).trans (h.n7.trans ?_), (e _ (by omega) (by omega)).trans h.n8⟩, fun m hm => ?_, fun p hp c hc => ?_, fun b hb c hc => (e _ (by omega) (by omega)).trans (h.b hb hc), fun v hv c hc => (e _ (by omega) (by omega)).trans (h.v hv hc), fun t ht => (e _ (by omega) (by omega)).trans (h.w ht)⟩
  · show _ = sumN (fun r => tGet 2 (tAdd 2 (sP s)) r 1) ((sP s).1 + 1)
    rw [sumN, get_add_n (by decide), Nat.add_zero]
    exact sum_eq _ (fun r hr => (get_add_o hr (by decide)).symm)
  · have hm : m < (sM s).1 := hm
    rw [e _ (by omega) (by omega), e _ (by omega) (by omega), e _ (by omega) (by omega), e _ (by omega) (by omega)]
    exact h.2.1 m hm
  · have hp2 : p < (sP s).1 + 1 := hp
    show _ = tGet 2 (tAdd 2 (sP s)) p c
    by_cases q : p = (sP s).1
    · subst q
      rw [get_add_n hc]
      rcases (show c = 0 ∨ c = 1 by omega) with rfl | rfl
      · exact a0
      · exact a1
    · rw [get_add_o (by omega) hc, e _ (by omega) (by omega)]
      exact h.p (by omega) hc
theorem RB.addV (h : RB s R) (hw : Wf s) {p fr to mu t : Nat} (hv : (sV s).1 < 10) (e : ∀ j, j ≠ 4 → (j < 285 + 5 * (sV s).1 ∨ 285 + 5 * (sV s).1 + 5 ≤ j) → R' j = R j) (e1 : R' 4 = (sV s).1 + 1) (a0 : R' (285 + 5 * (sV s).1 + 0) = p) (a1 : R' (285 + 5 * (sV s).1 + 1) = fr) (a2 : R' (285 + 5 * (sV s).1 + 2) = to) (a3 : R' (285 + 5 * (sV s).1 + 3) = mu) (a4 : R' (285 + 5 * (sV s).1 + 4) = t) : RB (pMove s p fr to mu t) R' := by
  have hn := hw.n
  refine ⟨⟨(e _ (by omega) (by omega)).trans h.n0, (e _ (by omega) (by omega)).trans h.n1, (e _ (by omega) (by omega)).trans h.n2, (e _ (by omega) (by omega)).trans h.n3, e1, (e _ (by omega) (by omega)).trans h.n5, (e _ (by omega) (by omega)).trans h.n6, (e _ (by omega) (by omega)).trans h.n7, (e _ (by omega) (by omega)).trans h.n8⟩, fun m hm => ?_, fun p hp c hc => (e _ (by have : p < (sP s).1 := hp; omega) (by have : p < (sP s).1 := hp; omega)).trans (h.p hp hc), fun b hb c hc => (e _ (by have : b < (sB s).1 := hb; omega) (by have : b < (sB s).1 := hb; omega)).trans (h.b hb hc), fun v hv c hc => ?_, fun t ht => (e _ (by omega) (by omega)).trans (h.w ht)⟩
  · have hm : m < (sM s).1 := hm
    rw [e _ (by omega) (by omega), e _ (by omega) (by omega), e _ (by omega) (by omega), e _ (by omega) (by omega)]
    exact h.2.1 m hm
  · have hv2 : v < (sV s).1 + 1 := hv
    show _ = tGet 5 (tSet 5 (tSet 5 (tSet 5 (tSet 5 (tSet 5 (tAdd 5 (sV s)) (sV s).1 0 p) (sV s).1 1 fr) (sV s).1 2 to) (sV s).1 3 mu) (sV s).1 4 t) v c
    by_cases q : v = (sV s).1
    · subst q
      rcases (show c = 0 ∨ c = 1 ∨ c = 2 ∨ c = 3 ∨ c = 4 by omega) with rfl | rfl | rfl | rfl | rfl
      · rw [get_set_c (by decide) (by decide) (by decide), get_set_c (by decide) (by decide) (by decide), get_set_c (by decide) (by decide) (by decide), get_set_c (by decide) (by decide) (by decide), get_set_s (by decide)]; exact a0
      · rw [get_set_c (by decide) (by decide) (by decide), get_set_c (by decide) (by decide) (by decide), get_set_c (by decide) (by decide) (by decide), get_set_s (by decide)]; exact a1
      · rw [get_set_c (by decide) (by decide) (by decide), get_set_c (by decide) (by decide) (by decide), get_set_s (by decide)]; exact a2
      · rw [get_set_c (by decide) (by decide) (by decide), get_set_s (by decide)]; exact a3
      · rw [get_set_s (by decide)]; exact a4
    · rw [get_set_r (by decide) hc q, get_set_r (by decide) hc q, get_set_r (by decide) hc q, get_set_r (by decide) hc q, get_set_r (by decide) hc q, get_add_o (by omega) hc, e _ (by omega) (by omega)]
      exact h.v (by omega) hc
theorem RB.addB (h : RB s R) (hw : Wf s) {p ld r m t : Nat} (hb : (sB s).1 < 30) (hmm : m < (sM s).1) (e : ∀ j, j ≠ 3 → (j < 45 + 8 * (sB s).1 ∨ 45 + 8 * (sB s).1 + 8 ≤ j) → R' j = R j) (e1 : R' 3 = (sB s).1 + 1) (a0 : R' (45 + 8 * (sB s).1 + 0) = p) (a1 : R' (45 + 8 * (sB s).1 + 1) = m) (a2 : R' (45 + 8 * (sB s).1 + 2) = t) (a3 : R' (45 + 8 * (sB s).1 + 3) = ld) (a4 : R' (45 + 8 * (sB s).1 + 4) = r) (a5 : R' (45 + 8 * (sB s).1 + 5) = 0) (a6 : R' (45 + 8 * (sB s).1 + 6) = sW s t) (a7 : R' (45 + 8 * (sB s).1 + 7) = 0) : RB (placeS (pBook s p ld r) (sB s).1 m t) R' := by
  have hn := hw.n
  have go : ∀ b c, b < (sB s).1 → c < 8 → tGet 8 (sB (placeS (pBook s p ld r) (sB s).1 m t)) b c = tGet 8 (sB s) b c := fun b c hb2 hc => by
    have q : b ≠ (sB s).1 := by omega
    show tGet 8 (tSet 8 (tSet 8 (tSet 8 (tSet 8 (tSet 8 (tSet 8 (tSet 8 (tAdd 8 (sB s)) (sB s).1 0 p) (sB s).1 3 ld) (sB s).1 4 r) (sB s).1 5 0) (sB s).1 1 m) (sB s).1 2 t) (sB s).1 6 (sW s t)) b c = _
    rw [get_set_r (by decide) hc q, get_set_r (by decide) hc q, get_set_r (by decide) hc q, get_set_r (by decide) hc q, get_set_r (by decide) hc q, get_set_r (by decide) hc q, get_set_r (by decide) hc q, get_add_o hb2 hc]
  have gn : ∀ c, c < 8 → R' (45 + 8 * (sB s).1 + c) = tGet 8 (sB (placeS (pBook s p ld r) (sB s).1 m t)) (sB s).1 c := fun c hc => by
    show _ = tGet 8 (tSet 8 (tSet 8 (tSet 8 (tSet 8 (tSet 8 (tSet 8 (tSet 8 (tAdd 8 (sB s)) (sB s).1 0 p) (sB s).1 3 ld) (sB s).1 4 r) (sB s).1 5 0) (sB s).1 1 m) (sB s).1 2 t) (sB s).1 6 (sW s t)) (sB s).1 c
    simp only [get_set (cols := 8) (show 6 < 8 by decide) hc, get_set (cols := 8) (show 2 < 8 by decide) hc, get_set (cols := 8) (show 1 < 8 by decide) hc, get_set (cols := 8) (show 5 < 8 by decide) hc, get_set (cols := 8) (show 4 < 8 by decide) hc, get_set (cols := 8) (show 3 < 8 by decide) hc, get_set (cols := 8) (show 0 < 8 by decide) hc, true_and, get_add_n hc]
    rcases (show c = 0 ∨ c = 1 ∨ c = 2 ∨ c = 3 ∨ c = 4 ∨ c = 5 ∨ c = 6 ∨ c = 7 by omega) with rfl | rfl | rfl | rfl | rfl | rfl | rfl | rfl
    · exact a0
    · exact a1
    · exact a2
    · exact a3
    · exact a4
    · exact a5
    · exact a6
    · exact a7
  refine ⟨⟨(e _ (by omega) (by omega)).trans h.n0, (e _ (by omega) (by omega)).trans h.n1, (e _ (by omega) (by omega)).trans h.n2, e1, (e _ (by omega) (by omega)).trans h.n4, (e _ (by omega) (by omega)).trans h.n5, (e _ (by omega) (by omega)).trans h.n6, (e _ (by omega) (by omega)).trans h.n7, (e _ (by omega) (by omega)).trans h.n8⟩, fun i hi => ?_, fun p hp c hc => (e _ (by have : p < (sP s).1 := hp; omega) (by have : p < (sP s).1 := hp; omega)).trans (h.p hp hc), fun b hb c hc => ?_, fun v hv c hc => (e _ (by have : v < (sV s).1 := hv; omega) (by have : v < (sV s).1 := hv; omega)).trans (h.v hv hc), fun t ht => (e _ (by omega) (by omega)).trans (h.w ht)⟩
  · have hi : i < (sM s).1 := hi
    refine ⟨(e _ (by omega) (by omega)).trans (h.m0 hi), (e _ (by omega) (by omega)).trans (h.m1 hi), (e _ (by omega) (by omega)).trans (h.m2 hi), (e _ (by omega) (by omega)).trans ((h.m3 hi).trans ?_)⟩
    show cntN _ (sB s).1 = cntN _ ((sB s).1 + 1)
    rw [cntN]
    have e5 : tGet 8 (sB (placeS (pBook s p ld r) (sB s).1 m t)) (sB s).1 5 = 0 := (gn 5 (by decide)).symm.trans a5
    rw [decide_eq_false (fun z => by rw [e5] at z; exact absurd z.2 (by decide))]
    refine (cnt_eq _ (fun q hq => ?_)).trans (Nat.add_zero _).symm
    rw [go q 1 hq (by decide), go q 5 hq (by decide)]
  · have hb2 : b < (sB s).1 + 1 := hb
    by_cases q : b = (sB s).1
    · subst q; exact gn c hc
    · rw [go b c (by omega) hc, e _ (by omega) (by omega)]
      exact h.b (by omega) hc
end
