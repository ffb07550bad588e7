/-! what a write into the reference's row does to the state that it says -/
def Out (R R' : Nat → Nat) : Prop := ∀ j, 535 ≤ j → R' j = R j
theorem Out.rf {R : Nat → Nat} : Out R R := fun _ _ => rfl
theorem Out.tr {R R1 R2 : Nat → Nat} (h : Out R R1) (h2 : Out R1 R2) : Out R R2 := fun j hj => (h2 j hj).trans (h j hj)
theorem Out.up {R R1 : Nat → Nat} (h : Out R R1) {i v : Nat} (hi : i < 535) : Out R (va_up R1 i v) := fun j hj => by rw [up_ne _ _ (by omega)]; exact h j hj
def mfs (m : Nat → Nat) (st : Nat) (kp : Bool) (len : Nat) (wt : Option Nat) (ft ps : Nat) (f1 f2 : Int32) : List Value := [.int (nI st), .int (bI kp), .ref (m 2), .int (nI len), .int (rO wt), .int (nI ft), .int (nI ps), .int f1, .int f2]
theorem sum_eq {f g : Nat → Nat} : ∀ n, (∀ r, r < n → f r = g r) → sumN f n = sumN g n
  | 0, _ => rfl
  | n + 1, h => by rw [sumN, sumN, sum_eq n (fun r hr => h r (by omega)), h n (by omega)]
theorem sum_one {f g : Nat → Nat} {b d : Nat} : ∀ n, b < n → (∀ r, r < n → r ≠ b → f r = g r) → f b = g b + d → sumN f n = sumN g n + d
  | 0, hb, _, _ => absurd hb (Nat.not_lt_zero _)
  | n + 1, hb, h, e => by
    rw [sumN, sumN]
    by_cases q : b = n
    · subst q
      rw [sum_eq b (fun r hr => h r (by omega) (by omega)), e]; omega
    · rw [sum_one n (by omega) (fun r hr => h r (by omega)) e, h n (by omega) (by omega)]; omega
theorem cnt_eq {p q : Nat → Bool} : ∀ n, (∀ r, r < n → p r = q r) → cntN p n = cntN q n
  | 0, _ => rfl
  | n + 1, h => by rw [cntN, cntN, cnt_eq n (fun r hr => h r (by omega)), h n (by omega)]
theorem cnt_one {p q : Nat → Bool} {b : Nat} : ∀ n, b < n → (∀ r, r < n → r ≠ b → p r = q r) → p b = true → q b = false → cntN p n = cntN q n + 1
  | 0, hb, _, _, _ => absurd hb (Nat.not_lt_zero _)
  | n + 1, hb, h, e1, e2 => by
    rw [cntN, cntN]
    by_cases z : b = n
    · subst z
      rw [cnt_eq b (fun r hr => h r (by omega) (by omega)), e1, e2]; simp
    · rw [cnt_one n (by omega) (fun r hr => h r (by omega)) e1 e2, h n (by omega) (by omega)]; omega
theorem cB_set {s : Sg} {b c v : Nat} (hc : c < 8) (hb : (c ≠ 1 ∧ c ≠ 5) ∨ (tGet 8 (sB s) b 5 ≠ 1 ∧ (c = 5 → v ≠ 1))) (m : Nat) : cB (uB s (tSet 8 (sB s) b c v)) 1 m 1 = cB s 1 m 1 := by
  refine cnt_eq _ (fun r hr => ?_)
  show decide (tGet 8 (tSet 8 (sB s) b c v) r 1 = m ∧ tGet 8 (tSet 8 (sB s) b c v) r 5 = 1) = decide (tGet 8 (sB s) r 1 = m ∧ tGet 8 (sB s) r 5 = 1)
  rw [get_set hc (by decide), get_set hc (by decide), decide_eq_decide]
  by_cases hrb : r = b
  · subst hrb
    rcases hb with h | ⟨h1, h2⟩
    · rw [if_neg (fun q => h.1 q.2.symm), if_neg (fun q => h.2 q.2.symm)]
    · by_cases h5 : c = 5
      · subst h5
        rw [if_neg (by omega), if_pos ⟨rfl, rfl⟩]
        exact ⟨fun q => absurd q.2 (h2 rfl), fun q => absurd q.2 h1⟩
      · rw [if_neg (show ¬ (r = r ∧ 5 = c) by omega)]
        exact ⟨fun q => absurd q.2 h1, fun q => absurd q.2 h1⟩
  · rw [if_neg (fun q => hrb q.1), if_neg (fun q => hrb q.1)]
section
variable {s : Sg} {R : Nat → Nat} {i v : Nat}
theorem RB.k9 (h : RB s R) (hi : 9 ≤ i) : va_up R i v 0 = sN s ∧ va_up R i v 1 = (sM s).1 ∧ va_up R i v 2 = (sP s).1 ∧ va_up R i v 3 = (sB s).1 ∧ va_up R i v 4 = (sV s).1 ∧ va_up R i v 5 = sD s ∧ va_up R i v 6 = sF s ∧ va_up R i v 7 = sumN (fun r => tGet 2 (sP s) r 1) (sP s).1 ∧ va_up R i v 8 = sX s := by
  refine ⟨?_, ?_, ?_, ?_, ?_, ?_, ?_, ?_, ?_⟩ <;> rw [up_ne _ _ (by omega)]
  · exact h.n0
  · exact h.n1
  · exact h.n2
  · exact h.n3
  · exact h.n4
  · exact h.n5
  · exact h.n6
  · exact h.n7
  · exact h.n8
theorem RB.kM (h : RB s R) (hi : i < 9 ∨ 29 ≤ i) (hn : (sM s).1 ≤ 5) : ∀ m, m < (sM s).1 → va_up R i v (9 + 4 * m + 0) = tGet 3 (sM s) m 0 ∧ va_up R i v (9 + 4 * m + 1) = tGet 3 (sM s) m 1 ∧ va_up R i v (9 + 4 * m + 2) = enc (tGet 3 (sM s) m 2) ∧ va_up R i v (9 + 4 * m + 3) = cB s 1 m 1 := by
  intro m hm
  rw [up_ne _ _ (by omega), up_ne _ _ (by omega), up_ne _ _ (by omega), up_ne _ _ (by omega)]
  exact h.2.1 m hm
theorem RB.kP (h : RB s R) (hi : i < 29 ∨ 45 ≤ i) (hn : (sP s).1 ≤ 8) : ∀ p, p < (sP s).1 → ∀ c, c < 2 → va_up R i v (29 + 2 * p + c) = tGet 2 (sP s) p c := by
  intro p hp c hc
  rw [up_ne _ _ (by omega)]
  exact h.p hp hc
theorem RB.kB (h : RB s R) (hi : i < 45 ∨ 285 ≤ i) (hn : (sB s).1 ≤ 30) : ∀ b, b < (sB s).1 → ∀ c, c < 8 → va_up R i v (45 + 8 * b + c) = tGet 8 (sB s) b c := by
  intro b hb c hc
  rw [up_ne _ _ (by omega)]
  exact h.b hb hc
theorem RB.kV (h : RB s R) (hi : i < 285 ∨ 335 ≤ i) (hn : (sV s).1 ≤ 10) : ∀ q, q < (sV s).1 → ∀ c, c < 5 → va_up R i v (285 + 5 * q + c) = tGet 5 (sV s) q c := by
  intro q hq c hc
  rw [up_ne _ _ (by omega)]
  exact h.v hq hc
theorem RB.kW (h : RB s R) (hi : i < 335 ∨ 535 ≤ i) : ∀ t, t < 200 → va_up R i v (335 + t) = sW s t := by
  intro t ht
  rw [up_ne _ _ (by omega)]
  exact h.w ht
theorem RB.setP0 (h : RB s R) (hw : Wf s) {p : Nat} (hp : p < (sP s).1) : RB (uP s (tSet 2 (sP s) p 0 v)) (va_up R (29 + 2 * p + 0) v) := by
  have hn := hw.n
  have h9 := h.k9 (i := 29 + 2 * p + 0) (v := v) (by omega)
  refine ⟨⟨h9.1, h9.2.1, h9.2.2.1, h9.2.2.2.1, h9.2.2.2.2.1, h9.2.2.2.2.2.1, h9.2.2.2.2.2.2.1, h9.2.2.2.2.2.2.2.1.trans (sum_eq _ (fun r hr => (get_set_c (by decide) (by decide) (by decide)).symm)), h9.2.2.2.2.2.2.2.2⟩, h.kM (by omega) hn.1, fun p' hp' c hc => ?_, h.kB (by omega) hn.2.2.1, h.kV (by omega) hn.2.2.2.1, h.kW (by omega)⟩
  have hp' : p' < (sP s).1 := hp'
  show _ = tGet 2 (tSet 2 (sP s) p 0 v) p' c
  rw [get_set (by decide) hc]
  by_cases q : p' = p ∧ c = 0
  · rw [if_pos q, q.1, q.2, up_same]
  · rw [if_neg q, up_ne _ _ (by omega)]
    exact h.p hp' hc
theorem RB.pay (h : RB s R) (hw : Wf s) {p c : Nat} (hp : p < (sP s).1) : RB (payS s p c) (va_up R (29 + 2 * p + 0) (tGet 2 (sP s) p 0 + c)) := h.setP0 hw hp
theorem RB.setB (h : RB s R) (hw : Wf s) {b c : Nat} (hb : b < (sB s).1) (hc : c < 8) (hd : (c ≠ 1 ∧ c ≠ 5) ∨ (tGet 8 (sB s) b 5 ≠ 1 ∧ (c = 5 → v ≠ 1))) : RB (uB s (tSet 8 (sB s) b c v)) (va_up R (45 + 8 * b + c) v) := by
  have hn := hw.n
  refine ⟨h.k9 (by omega), fun m hm => ?_, h.kP (by omega) hn.2.1, fun b' hb' c' hc' => ?_, h.kV (by omega) hn.2.2.2.1, h.kW (by omega)⟩
  · have h1 := h.kM (i := 45 + 8 * b + c) (v := v) (by omega) hn.1 m hm
    exact ⟨h1.1, h1.2.1, h1.2.2.1, h1.2.2.2.trans (cB_set hc hd m).symm⟩
  · have hb' : b' < (sB s).1 := hb'
    show _ = tGet 8 (tSet 8 (sB s) b c v) b' c'
    rw [get_set hc hc']
    by_cases q : b' = b ∧ c' = c
    · rw [if_pos q, q.1, q.2, up_same]
    · rw [if_neg q, up_ne _ _ (by omega)]
      exact h.b hb' hc'
theorem RB.setM (h : RB s R) (hw : Wf s) {m c : Nat} (hm : m < (sM s).1) (hc : c < 2) : RB (uM s (tSet 3 (sM s) m c v)) (va_up R (9 + 4 * m + c) v) := by
  have hn := hw.n
  refine ⟨h.k9 (by omega), fun m' hm' => ?_, h.kP (by omega) hn.2.1, h.kB (by omega) hn.2.2.1, h.kV (by omega) hn.2.2.2.1, h.kW (by omega)⟩
  have hm' : m' < (sM s).1 := hm'
  show _ = tGet 3 (tSet 3 (sM s) m c v) m' 0 ∧ _ = tGet 3 (tSet 3 (sM s) m c v) m' 1 ∧ _ = enc (tGet 3 (tSet 3 (sM s) m c v) m' 2) ∧ _
  rw [get_set (by omega) (by decide), get_set (by omega) (by decide), get_set_c (by omega) (by decide) (by omega)]
  refine ⟨?_, ?_, (up_ne _ _ (by omega)).trans (h.m2 hm'), (up_ne _ _ (by omega)).trans (h.m3 hm')⟩
  · by_cases q : m' = m ∧ 0 = c
    · rw [if_pos q, q.1, ← q.2, up_same]
    · rw [if_neg q, up_ne _ _ (by omega)]; exact h.m0 hm'
  · by_cases q : m' = m ∧ 1 = c
    · rw [if_pos q, q.1, ← q.2, up_same]
    · rw [if_neg q, up_ne _ _ (by omega)]; exact h.m1 hm'
theorem RB.setM2 (h : RB s R) (hw : Wf s) {m : Nat} (hm : m < (sM s).1) : RB (uM s (tSet 3 (sM s) m 2 v)) (va_up R (9 + 4 * m + 2) (enc v)) := by
  have hn := hw.n
  refine ⟨h.k9 (by omega), fun m' hm' => ?_, h.kP (by omega) hn.2.1, h.kB (by omega) hn.2.2.1, h.kV (by omega) hn.2.2.2.1, h.kW (by omega)⟩
  have hm' : m' < (sM s).1 := hm'
  show _ = tGet 3 (tSet 3 (sM s) m 2 v) m' 0 ∧ _ = tGet 3 (tSet 3 (sM s) m 2 v) m' 1 ∧ _ = enc (tGet 3 (tSet 3 (sM s) m 2 v) m' 2) ∧ _
  rw [get_set_c (by decide) (by decide) (by decide), get_set_c (by decide) (by decide) (by decide), get_set (by decide) (by decide)]
  refine ⟨(up_ne _ _ (by omega)).trans (h.m0 hm'), (up_ne _ _ (by omega)).trans (h.m1 hm'), ?_, (up_ne _ _ (by omega)).trans (h.m3 hm')⟩
  by_cases q : m' = m ∧ 2 = 2
  · rw [if_pos q, q.1, up_same]
  · rw [if_neg q, up_ne _ _ (by omega)]; exact h.m2 hm'
theorem RB.setW (h : RB s R) (hw : Wf s) {t : Nat} (ht : t < 200) : RB (uW s (va_up (sW s) t v)) (va_up R (335 + t) v) := by
  have hn := hw.n
  refine ⟨h.k9 (by omega), h.kM (by omega) hn.1, h.kP (by omega) hn.2.1, h.kB (by omega) hn.2.2.1, h.kV (by omega) hn.2.2.2.1, fun t' ht' => ?_⟩
  show _ = va_up (sW s) t v t'
  by_cases q : t' = t
  · rw [q, up_same, up_same]
  · rw [up_ne _ _ (by omega), up_ne _ _ q]; exact h.w ht'
theorem RB.lowN (h : RB s R) (hw : Wf s) : RB (uN s v) (va_up R 0 v) := by
  have hn := hw.n
  exact ⟨⟨up_same _ _ _, (up_ne _ _ (by omega)).trans h.n1, (up_ne _ _ (by omega)).trans h.n2, (up_ne _ _ (by omega)).trans h.n3, (up_ne _ _ (by omega)).trans h.n4, (up_ne _ _ (by omega)).trans h.n5, (up_ne _ _ (by omega)).trans h.n6, (up_ne _ _ (by omega)).trans h.n7, (up_ne _ _ (by omega)).trans h.n8⟩, h.kM (by omega) hn.1, h.kP (by omega) hn.2.1, h.kB (by omega) hn.2.2.1, h.kV (by omega) hn.2.2.2.1, h.kW (by omega)⟩
theorem RB.lowD (h : RB s R) (hw : Wf s) : RB (uD s v) (va_up R 5 v) := by
  have hn := hw.n
  exact ⟨⟨(up_ne _ _ (by omega)).trans h.n0, (up_ne _ _ (by omega)).trans h.n1, (up_ne _ _ (by omega)).trans h.n2, (up_ne _ _ (by omega)).trans h.n3, (up_ne _ _ (by omega)).trans h.n4, up_same _ _ _, (up_ne _ _ (by omega)).trans h.n6, (up_ne _ _ (by omega)).trans h.n7, (up_ne _ _ (by omega)).trans h.n8⟩, h.kM (by omega) hn.1, h.kP (by omega) hn.2.1, h.kB (by omega) hn.2.2.1, h.kV (by omega) hn.2.2.2.1, h.kW (by omega)⟩
theorem RB.lowF (h : RB s R) (hw : Wf s) : RB (uF s v) (va_up R 6 v) := by
  have hn := hw.n
  exact ⟨⟨(up_ne _ _ (by omega)).trans h.n0, (up_ne _ _ (by omega)).trans h.n1, (up_ne _ _ (by omega)).trans h.n2, (up_ne _ _ (by omega)).trans h.n3, (up_ne _ _ (by omega)).trans h.n4, (up_ne _ _ (by omega)).trans h.n5, up_same _ _ _, (up_ne _ _ (by omega)).trans h.n7, (up_ne _ _ (by omega)).trans h.n8⟩, h.kM (by omega) hn.1, h.kP (by omega) hn.2.1, h.kB (by omega) hn.2.2.1, h.kV (by omega) hn.2.2.2.1, h.kW (by omega)⟩
theorem RB.lowX (h : RB s R) (hw : Wf s) : RB (uX s v) (va_up R 8 v) := by
  have hn := hw.n
  exact ⟨⟨(up_ne _ _ (by omega)).trans h.n0, (up_ne _ _ (by omega)).trans h.n1, (up_ne _ _ (by omega)).trans h.n2, (up_ne _ _ (by omega)).trans h.n3, (up_ne _ _ (by omega)).trans h.n4, (up_ne _ _ (by omega)).trans h.n5, (up_ne _ _ (by omega)).trans h.n6, (up_ne _ _ (by omega)).trans h.n7, up_same _ _ _⟩, h.kM (by omega) hn.1, h.kP (by omega) hn.2.1, h.kB (by omega) hn.2.2.1, h.kV (by omega) hn.2.2.2.1, h.kW (by omega)⟩
/-- a standby that a member caused: both counts -/
theorem RB.caus (h : RB s R) (hw : Wf s) {p : Nat} (hp : p < (sP s).1) : RB (uP s (tSet 2 (sP s) p 1 (tGet 2 (sP s) p 1 + 1))) (va_up (va_up R 7 (R 7 + 1)) (29 + 2 * p + 1) (tGet 2 (sP s) p 1 + 1)) := by
  have hn := hw.n
  have e : ∀ j, j ≠ 7 → j ≠ 29 + 2 * p + 1 → va_up (va_up R 7 (R 7 + 1)) (29 + 2 * p + 1) (tGet 2 (sP s) p 1 + 1) j = R j := fun j h1 h2 => by rw [up_ne _ _ h2, up_ne _ _ h1]
  refine ⟨⟨(e _ (by omega) (by omega)).trans h.n0, (e _ (by omega) (by omega)).trans h.n1, (e _ (by omega) (by omega)).trans h.n2, (e _ (by omega) (by omega)).trans h.n3, (e _ (by omega) (by omega)).trans h.n4, (e _ (by omega) (by omega)).trans h.n5, (e _ (by omega) (by omega)).trans h.n6, ?_, (e _ (by omega) (by omega)).trans h.n8⟩, fun m hm => ?_, fun p' hp' c hc => ?_, fun b hb c hc => ?_, fun q hq c hc => ?_, fun t ht => ?_⟩
  · rw [up_ne _ _ (by omega), up_same, h.n7]
    refine (sum_one (b := p) _ hp (fun r hr hne => ?_) ?_).symm
    · exact get_set_r (by decide) (by decide) hne
    · exact get_set_s (by decide)
  · have hm : m < (sM s).1 := hm
    rw [e _ (by omega) (by omega), e _ (by omega) (by omega), e _ (by omega) (by omega), e _ (by omega) (by omega)]
    exact h.2.1 m hm
  · have hp' : p' < (sP s).1 := hp'
    show _ = tGet 2 (tSet 2 (sP s) p 1 (tGet 2 (sP s) p 1 + 1)) p' c
    rw [get_set (by decide) hc]
    by_cases q : p' = p ∧ c = 1
    · rw [if_pos q, q.1, q.2, up_same]
    · rw [if_neg q, e _ (by omega) (by omega)]
      exact h.p hp' hc
  · rw [e _ (by have : b < (sB s).1 := hb; omega) (by have : b < (sB s).1 := hb; omega)]; exact h.b hb hc
  · rw [e _ (by have : q < (sV s).1 := hq; omega) (by have : q < (sV s).1 := hq; omega)]; exact h.v hq hc
  · rw [e _ (by omega) (by omega)]; exact h.w ht
end
theorem enc_n {v : Nat} (h : v < 8) : enc v = v + 1 := by
  unfold enc NN; rw [if_neg (by omega)]
/-- a row that agrees below 535 says the same -/
theorem RB.same {s : Sg} {R R' : Nat → Nat} (h : RB s R) (hw : Wf s) (e : ∀ j, j < 535 → R' j = R j) : RB s R' := by
  have hn := hw.n
  refine ⟨⟨(e _ (by omega)).trans h.n0, (e _ (by omega)).trans h.n1, (e _ (by omega)).trans h.n2, (e _ (by omega)).trans h.n3, (e _ (by omega)).trans h.n4, (e _ (by omega)).trans h.n5, (e _ (by omega)).trans h.n6, (e _ (by omega)).trans h.n7, (e _ (by omega)).trans h.n8⟩, fun m hm => ?_, fun p hp c hc => (e _ (by omega)).trans (h.p hp hc), fun b hb c hc => (e _ (by omega)).trans (h.b hb hc), fun v hv c hc => (e _ (by omega)).trans (h.v hv hc), fun t ht => (e _ (by omega)).trans (h.w ht)⟩
  rw [e _ (by omega), e _ (by omega), e _ (by omega), e _ (by omega)]
  exact h.2.1 m hm
