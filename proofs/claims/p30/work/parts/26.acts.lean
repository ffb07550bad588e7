/-! what each act keeps -/
/-- a call's answer and the state behind it: refused, or an act that keeps all -/
def Nx (bl : Nat) (s : Sg) (o : Rs) : Prop := (o.2 = none ∧ o.1.toInt < 0) ∨ ∃ s', o.2 = some s' ∧ 0 ≤ o.1.toInt ∧ Iv bl s' ∧ (sM s').1 = (sM s).1 ∧ (sP s).1 ≤ (sP s').1
theorem Nx.no {bl : Nat} {s : Sg} {x : Int32} (h : x.toInt < 0) : Nx bl s (x, none) := Or.inl ⟨rfl, h⟩
theorem nI_ge0 {a : Nat} (h : a < 2 ^ 31) : 0 ≤ (nI a).toInt := by rw [nI_toInt h]; omega
section
variable {bl : Nat} {s : Sg}
theorem nx_addMember (h : Iv bl s) : Nx bl s (oAddMember s) := by
  unfold oAddMember
  split
  · next q =>
    refine Or.inr ⟨_, rfl, nI_ge0 (by omega), ⟨h.1.memb q, h.2.1, h.2.2.1, ?_, h.2.2.2.2⟩, rfl, Nat.le_succ _⟩
    have e0 : sPaid (uP s (tAdd 2 (sP s))) = sPaid s := tSum_add (by decide)
    have e1 : sCaus (uP s (tAdd 2 (sP s))) = sCaus s := tSum_add (by decide)
    obtain ⟨a1, a2, a3⟩ := h.2.2.2.1
    unfold Acc
    rw [e0, e1]
    exact ⟨a1, a2, a3⟩
  · exact Nx.no (by decide)
theorem nx_setWind (h : Iv bl s) (t w : Int32) : Nx bl s (oSetWind s t w) := by
  unfold oSetWind
  split
  · split
    · next q1 q2 =>
      split
      · exact Nx.no (by decide)
      · obtain ⟨k, hk, rfl⟩ := toCome_t q1
        obtain ⟨j, hj, rfl⟩ := isW_t (by decide) (by decide) q2
        have hw := h.1.1.w (i := k) hk.2
        rw [tn_nI (k := k) (by omega), tn_nI (k := j) (by omega)]
        refine Or.inr ⟨_, rfl, nI_ge0 (by omega), ⟨h.1.wind hj.2, h.2.1, h.2.2.1, h.2.2.2.1, h.2.2.2.2⟩, rfl, Nat.le_refl _⟩
    · exact Nx.no (by decide)
  · exact Nx.no (by decide)
theorem nx_book (h : Iv bl s) (p m t ld r : Int32) : Nx bl s (oBook s p m t ld r) := by
  unfold oBook
  split
  · split
    · split
      · split
        · next q1 q2 q3 q4 =>
          obtain ⟨p, hp, rfl⟩ := inR_t q1.1
          obtain ⟨m, hm, rfl⟩ := inR_t q1.2.1
          obtain ⟨t, ht, rfl⟩ := toCome_t q1.2.2
          obtain ⟨ld, r, hlr, rfl, rfl⟩ := isLft_t q2
          have hN := h.1.1.n
          rw [tn_nI (k := p) (by omega), tn_nI (k := m) (by omega), tn_nI (k := t) (by omega), tn_nI (k := ld) (by omega), tn_nI (k := r) (by omega)]
          rw [tn_nI (k := m) (by omega), tn_nI (k := t) (by omega), tn_nI (k := ld) (by omega), tn_nI (k := r) (by omega)] at q3
          have q3 := (of_decide_eq_true q3).2
          have go : ∀ b c, b < (sB s).1 → c < 8 → tGet 8 (sB (placeS (pBook s p ld r) (sB s).1 m t)) b c = tGet 8 (sB s) b c := fun b c hb2 hc => by
            have q : b ≠ (sB s).1 := by omega
            show tGet 8 (tSet 8 (tSet 8 (tSet 8 (tSet 8 (tSet 8 (tSet 8 (tSet 8 (tAdd 8 (sB s)) (sB s).1 0 p) (sB s).1 3 ld) (sB s).1 4 r) (sB s).1 5 0) (sB s).1 1 m) (sB s).1 2 t) (sB s).1 6 (sW s t)) b c = _
            rw [get_set_r (by decide) hc q, get_set_r (by decide) hc q, get_set_r (by decide) hc q, get_set_r (by decide) hc q, get_set_r (by decide) hc q, get_set_r (by decide) hc q, get_set_r (by decide) hc q, get_add_o hb2 hc]
          have g1 : tGet 8 (sB (placeS (pBook s p ld r) (sB s).1 m t)) (sB s).1 1 = m := by rw [plc_get (by decide), if_neg (by omega), if_neg (by omega), if_pos ⟨rfl, rfl⟩]
          have g2 : tGet 8 (sB (placeS (pBook s p ld r) (sB s).1 m t)) (sB s).1 2 = t := by rw [plc_get (by decide), if_neg (by omega), if_pos ⟨rfl, rfl⟩]
          refine Or.inr ⟨_, rfl, nI_ge0 (by omega), ⟨h.1.book hp ⟨hlr.1, hlr.2.1⟩ ⟨hlr.2.2.1, hlr.2.2.2⟩ hm ht q4, ?_, h.2.2.1, ?_, h.2.2.2.2⟩, rfl, Nat.le_refl _⟩
          · refine h.2.1.new (b := (sB s).1) (m := m) (t := t) (fun r hr hrb => ?_) (fun r hr _ c hc => go r c hr hc) g1 g2 (fun r hr _ h5 h1 => bk_no q3 hr h5 h1)
            have hr : r < (sB s).1 + 1 := hr
            omega
          · have eW : sWait (placeS (pBook s p ld r) (sB s).1 m t) = sWait s := by
              show tSum 8 7 (tSet 8 (tSet 8 (tSet 8 (tSet 8 (tSet 8 (tSet 8 (tSet 8 (tAdd 8 (sB s)) (sB s).1 0 p) (sB s).1 3 ld) (sB s).1 4 r) (sB s).1 5 0) (sB s).1 1 m) (sB s).1 2 t) (sB s).1 6 (sW s t)) = _
              rw [tSum_o (by decide) (by decide) (by decide), tSum_o (by decide) (by decide) (by decide), tSum_o (by decide) (by decide) (by decide), tSum_o (by decide) (by decide) (by decide), tSum_o (by decide) (by decide) (by decide), tSum_o (by decide) (by decide) (by decide), tSum_o (by decide) (by decide) (by decide), tSum_add (by decide)]; rfl
            have eT : ∀ w, ¬ 0 = w → cT (placeS (pBook s p ld r) (sB s).1 m t) w = cT s w := fun w hw0 => by
              show tCnt 8 5 w (tSet 8 (tSet 8 (tSet 8 (tSet 8 (tSet 8 (tSet 8 (tSet 8 (tAdd 8 (sB s)) (sB s).1 0 p) (sB s).1 3 ld) (sB s).1 4 r) (sB s).1 5 0) (sB s).1 1 m) (sB s).1 2 t) (sB s).1 6 (sW s t)) = _
              rw [tCnt_o (by decide) (by decide) (by decide), tCnt_o (by decide) (by decide) (by decide), tCnt_o (by decide) (by decide) (by decide)]
              have a : tCnt 8 5 w (tSet 8 (tSet 8 (tSet 8 (tSet 8 (tAdd 8 (sB s)) (sB s).1 0 p) (sB s).1 3 ld) (sB s).1 4 r) (sB s).1 5 0) + bn (decide (tGet 8 (tSet 8 (tSet 8 (tSet 8 (tAdd 8 (sB s)) (sB s).1 0 p) (sB s).1 3 ld) (sB s).1 4 r) (sB s).1 5 = w)) = tCnt 8 5 w (tSet 8 (tSet 8 (tSet 8 (tAdd 8 (sB s)) (sB s).1 0 p) (sB s).1 3 ld) (sB s).1 4 r) + bn (decide (0 = w)) := tCnt_s (by decide) (Nat.lt_succ_self _)
              have t0 : tCnt 8 5 w (tSet 8 (tSet 8 (tSet 8 (tAdd 8 (sB s)) (sB s).1 0 p) (sB s).1 3 ld) (sB s).1 4 r) = tCnt 8 5 w (sB s) + bn (decide (0 = w)) := by
                rw [tCnt_o (by decide) (by decide) (by decide), tCnt_o (by decide) (by decide) (by decide), tCnt_o (by decide) (by decide) (by decide), tCnt_add (by decide)]
              rw [get_set_c (by decide) (by decide) (by decide), get_set_c (by decide) (by decide) (by decide), get_set_c (by decide) (by decide) (by decide), get_add_n (by decide), t0, bn_d0 hw0] at a
              exact a
            obtain ⟨a1, a2, a3⟩ := h.2.2.2.1
            unfold Acc
            rw [eW, eT 1 (by decide), eT 3 (by decide)]
            exact ⟨a1, a2, a3⟩
        · exact Nx.no (by decide)
      · exact Nx.no (by decide)
    · exact Nx.no (by decide)
  · exact Nx.no (by decide)
theorem nx_cancel (h : Iv bl s) (b : Int32) : Nx bl s (oCancel s b) := by
  unfold oCancel
  split
  · split
    · next q1 q2 =>
      obtain ⟨b, hb, rfl⟩ := inR_t q1
      have hN := h.1.1.n
      rw [tn_nI (k := b) (by omega)] at q2 ⊢
      have hc : coin s b ≤ 4 := by unfold coin; split <;> omega
      refine Or.inr ⟨_, rfl, nI_ge0 (by omega), ⟨h.1.can, ?_, h.2.2.1, ?_, h.2.2.2.2⟩, rfl, Nat.le_refl _⟩
      · refine h.2.1.gone (b := b) rfl (fun r hr c hc => get_set_r (by decide) hc hr) ?_
        show ¬ tGet 8 (tSet 8 (sB s) b 5 3) b 5 = 0
        rw [get_set_s (by decide)]; decide
      · have pp := pay_paid (s := s) (p := tGet 8 (sB s) b 0) (c := coin s b) (h.1.1.b hb).1
        have t1 : tCnt 8 5 1 (tSet 8 (sB s) b 5 3) + bn (decide (tGet 8 (sB s) b 5 = 1)) = tCnt 8 5 1 (sB s) + bn (decide (3 = 1)) := tCnt_s (by decide) hb
        have t3 : tCnt 8 5 3 (tSet 8 (sB s) b 5 3) + bn (decide (tGet 8 (sB s) b 5 = 3)) = tCnt 8 5 3 (sB s) + bn (decide (3 = 3)) := tCnt_s (by decide) hb
        rw [q2] at t1 t3
        have t1 : cT (canS s b) 1 = cT s 1 := t1
        have t3 : cT (canS s b) 3 = cT s 3 + 1 := t3
        have eW : sWait (canS s b) = sWait s := tSum_o (by decide) (by decide) (by decide)
        have eP : sPaid (canS s b) = sPaid s + coin s b := pp.1
        have eC : sCaus (canS s b) = sCaus s := pp.2
        obtain ⟨a1, a2, a3⟩ := h.2.2.2.1
        unfold Acc
        rw [t1, t3, eW, eP, eC]
        refine ⟨a1, ?_, ?_⟩
        · show 30 * cT s 1 + 8 * sCaus s + 5 * (sD s + sF s) ≤ sPaid s + coin s b
          omega
        · show sPaid s + coin s b ≤ 1190 * sN s + 4 * (cT s 3 + 1)
          omega
    · exact Nx.no (by decide)
  · exact Nx.no (by decide)
theorem plc_W {b m t : Nat} : sWait (placeS s b m t) = sWait s := by
  show tSum 8 7 (tSet 8 (tSet 8 (tSet 8 (sB s) b 1 m) b 2 t) b 6 (sW s t)) = _
  rw [tSum_o (by decide) (by decide) (by decide), tSum_o (by decide) (by decide) (by decide), tSum_o (by decide) (by decide) (by decide)]; rfl
theorem plc_T {b m t w : Nat} : cT (placeS s b m t) w = cT s w := by
  show tCnt 8 5 w (tSet 8 (tSet 8 (tSet 8 (sB s) b 1 m) b 2 t) b 6 (sW s t)) = _
  rw [tCnt_o (by decide) (by decide) (by decide), tCnt_o (by decide) (by decide) (by decide), tCnt_o (by decide) (by decide) (by decide)]; rfl
theorem swp_get {b c r z : Nat} (hz : z < 8) (h6 : z ≠ 6) (hbc : b ≠ c) : tGet 8 (sB (swpS s b c)) r z = if r = b ∧ z = 1 then tGet 8 (sB s) c 1 else if r = b ∧ z = 2 then tGet 8 (sB s) c 2 else if r = c ∧ z = 1 then tGet 8 (sB s) b 1 else if r = c ∧ z = 2 then tGet 8 (sB s) b 2 else tGet 8 (sB s) r z := by
  unfold swpS
  rw [plc_get hz, plc_get hz]
  by_cases rb : r = b
  · have rc : r ≠ c := fun q => hbc (rb.symm.trans q)
    rw [if_neg (fun q => h6 q.2), if_neg (fun q => rc q.1), if_neg (fun q => rc q.1), if_neg (fun q => h6 q.2)]
    by_cases z1 : z = 1
    · rw [if_neg (by omega), if_pos ⟨rb, z1⟩, if_pos ⟨rb, z1⟩]
    · by_cases z2 : z = 2
      · rw [if_pos ⟨rb, z2⟩, if_neg (by omega), if_pos ⟨rb, z2⟩]
      · rw [if_neg (fun q => z2 q.2), if_neg (fun q => z1 q.2), if_neg (fun q => z1 q.2), if_neg (fun q => z2 q.2), if_neg (fun q => rc q.1), if_neg (fun q => rc q.1)]
  · rw [if_neg (fun q => h6 q.2)]
    by_cases rc : r = c
    · by_cases z1 : z = 1
      · rw [if_neg (by omega), if_pos ⟨rc, z1⟩, if_neg (fun q => rb q.1), if_neg (fun q => rb q.1), if_pos ⟨rc, z1⟩]
      · by_cases z2 : z = 2
        · rw [if_pos ⟨rc, z2⟩, if_neg (fun q => rb q.1), if_neg (fun q => rb q.1), if_neg (by omega), if_pos ⟨rc, z2⟩]
        · rw [if_neg (fun q => z2 q.2), if_neg (fun q => z1 q.2), if_neg (fun q => rb q.1), if_neg (fun q => rb q.1), if_neg (fun q => rb q.1), if_neg (fun q => rb q.1), if_neg (fun q => rb q.1), if_neg (fun q => z1 q.2), if_neg (fun q => z2 q.2)]
    · rw [if_neg (fun q => rc q.1), if_neg (fun q => rc q.1), if_neg (fun q => rb q.1), if_neg (fun q => rb q.1), if_neg (fun q => rb q.1), if_neg (fun q => rb q.1), if_neg (fun q => rb q.1), if_neg (fun q => rc q.1), if_neg (fun q => rc q.1)]
theorem Uq.swp (h : Uq s) {b c : Nat} (hb : b < (sB s).1) (hc : c < (sB s).1) (hbc : b ≠ c) (h5b : tGet 8 (sB s) b 5 = 0) (h5c : tGet 8 (sB s) c 5 = 0) : Uq (swpS s b c) := by
  -- the row whose place r has now
  have key : ∀ r, r < (sB s).1 → ∃ q, q < (sB s).1 ∧ tGet 8 (sB (swpS s b c)) r 1 = tGet 8 (sB s) q 1 ∧ tGet 8 (sB (swpS s b c)) r 2 = tGet 8 (sB s) q 2 ∧ (tGet 8 (sB s) r 5 = 0 → tGet 8 (sB s) q 5 = 0) ∧ ((r = b ∧ q = c) ∨ (r = c ∧ q = b) ∨ (r ≠ b ∧ r ≠ c ∧ q = r)) := fun r hr => by
    by_cases rb : r = b
    · refine ⟨c, hc, ?_, ?_, fun _ => h5c, Or.inl ⟨rb, rfl⟩⟩
      · rw [swp_get (by decide) (by decide) hbc, if_pos ⟨rb, rfl⟩]
      · rw [swp_get (by decide) (by decide) hbc, if_neg (by omega), if_pos ⟨rb, rfl⟩]
    · by_cases rc : r = c
      · refine ⟨b, hb, ?_, ?_, fun _ => h5b, Or.inr (Or.inl ⟨rc, rfl⟩)⟩
        · rw [swp_get (by decide) (by decide) hbc, if_neg (fun q => rb q.1), if_neg (fun q => rb q.1), if_pos ⟨rc, rfl⟩]
        · rw [swp_get (by decide) (by decide) hbc, if_neg (fun q => rb q.1), if_neg (fun q => rb q.1), if_neg (by omega), if_pos ⟨rc, rfl⟩]
      · refine ⟨r, hr, ?_, ?_, fun q => q, Or.inr (Or.inr ⟨rb, rc, rfl⟩)⟩
        · rw [swp_get (by decide) (by decide) hbc, if_neg (fun q => rb q.1), if_neg (fun q => rb q.1), if_neg (fun q => rc q.1), if_neg (fun q => rc q.1)]
        · rw [swp_get (by decide) (by decide) hbc, if_neg (fun q => rb q.1), if_neg (fun q => rb q.1), if_neg (fun q => rc q.1), if_neg (fun q => rc q.1)]
  have g5 : ∀ r, tGet 8 (sB (swpS s b c)) r 5 = tGet 8 (sB s) r 5 := fun r => by
    rw [swp_get (by decide) (by decide) hbc, if_neg (by omega), if_neg (by omega), if_neg (by omega), if_neg (by omega)]
  intro x y hx hy hx5 hy5 h1 h2
  have hx : x < (sB s).1 := hx
  have hy : y < (sB s).1 := hy
  rw [g5] at hx5 hy5
  obtain ⟨x', lx, x1, x2, x5, x6⟩ := key x hx
  obtain ⟨y', ly, y1, y2, y5, y6⟩ := key y hy
  have e := h x' y' lx ly (x5 hx5) (y5 hy5) (by rw [← x1, ← y1]; exact h1) (by rw [← x2, ← y2]; exact h2)
  omega
theorem nx_swap (h : Iv bl s) (b c : Int32) : Nx bl s (oSwap s b c) := by
  unfold oSwap
  split
  · split
    · exact Nx.no (by decide)
    · split
      · split
        · next q1 q2 q3 q4 =>
          obtain ⟨b, hb, rfl⟩ := inR_t q1.1
          obtain ⟨c, hc, rfl⟩ := inR_t q1.2
          have hN := h.1.1.n
          rw [tn_nI (k := b) (by omega), tn_nI (k := c) (by omega)] at q2 q3 ⊢
          have := (h.1.1.b hc).2.2.1
          refine Or.inr ⟨_, rfl, nI_ge0 (by omega), ⟨h.1.swp hb hc q3.1 q3.2, h.2.1.swp hb hc q2 q3.1 q3.2, h.2.2.1, ?_, h.2.2.2.2⟩, rfl, Nat.le_refl _⟩
          have eW : sWait (swpS s b c) = sWait s := plc_W.trans plc_W
          have eT : ∀ w, cT (swpS s b c) w = cT s w := fun w => plc_T.trans plc_T
          obtain ⟨a1, a2, a3⟩ := h.2.2.2.1
          unfold Acc
          rw [eW, eT 1, eT 3]
          exact ⟨a1, a2, a3⟩
        · exact Nx.no (by decide)
      · exact Nx.no (by decide)
  · exact Nx.no (by decide)
theorem nx_order (h : Iv bl s) (p fr to mu t : Int32) : Nx bl s (oOrder s p fr to mu t) := by
  unfold oOrder
  split
  · split
    · split
      · next q1 q2 q3 =>
        obtain ⟨p, hp, rfl⟩ := inR_t q1.1
        obtain ⟨fr, hf, rfl⟩ := inR_t q1.2.1
        obtain ⟨to, ht, rfl⟩ := inR_t q1.2.2.1
        obtain ⟨t, htt, rfl⟩ := toCome_t q1.2.2.2
        obtain ⟨mu, hm, rfl⟩ := isW_t (by decide) (by decide) q2.1
        have hN := h.1.1.n
        have q2 := q2.2
        rw [tn_nI (k := p) (by omega), tn_nI (k := fr) (by omega), tn_nI (k := to) (by omega), tn_nI (k := mu) (by omega), tn_nI (k := t) (by omega)]
        rw [tn_nI (k := fr) (by omega), tn_nI (k := to) (by omega)] at q2
        refine Or.inr ⟨_, rfl, nI_ge0 (by omega), ⟨h.1.move hp hf ht hm htt q3, h.2.1, ?_, h.2.2.2.1, h.2.2.2.2⟩, rfl, Nat.le_refl _⟩
        intro v hv
        have hv : v < (sV s).1 + 1 := hv
        show ¬ tGet 5 (tSet 5 (tSet 5 (tSet 5 (tSet 5 (tSet 5 (tAdd 5 (sV s)) (sV s).1 0 p) (sV s).1 1 fr) (sV s).1 2 to) (sV s).1 3 mu) (sV s).1 4 t) v 1 = tGet 5 (tSet 5 (tSet 5 (tSet 5 (tSet 5 (tSet 5 (tAdd 5 (sV s)) (sV s).1 0 p) (sV s).1 1 fr) (sV s).1 2 to) (sV s).1 3 mu) (sV s).1 4 t) v 2
        by_cases q : v = (sV s).1
        · rw [q]
          rw [get_set_c (by decide) (by decide) (by decide), get_set_c (by decide) (by decide) (by decide), get_set_c (by decide) (by decide) (by decide), get_set_s (by decide), get_set_c (by decide) (by decide) (by decide), get_set_c (by decide) (by decide) (by decide), get_set_s (by decide)]
          exact q2
        · have go : ∀ c, c < 5 → tGet 5 (tSet 5 (tSet 5 (tSet 5 (tSet 5 (tSet 5 (tAdd 5 (sV s)) (sV s).1 0 p) (sV s).1 1 fr) (sV s).1 2 to) (sV s).1 3 mu) (sV s).1 4 t) v c = tGet 5 (sV s) v c := fun c hc => by
            rw [get_set_r (by decide) hc q, get_set_r (by decide) hc q, get_set_r (by decide) hc q, get_set_r (by decide) hc q, get_set_r (by decide) hc q, get_add_o (by omega) hc]
          rw [go 1 (by decide), go 2 (by decide)]
          exact h.2.2.1 v (by omega)
      · exact Nx.no (by decide)
    · exact Nx.no (by decide)
  · exact Nx.no (by decide)
theorem nx_takeBack (h : Iv bl s) (v : Int32) : Nx bl s (oTakeBack s v) := by
  unfold oTakeBack
  split
  · next q =>
    obtain ⟨v, hv, rfl⟩ := inR_t q
    have hN := h.1.1.n
    rw [tn_nI (k := v) (by omega)]
    refine Or.inr ⟨_, rfl, nI_ge0 (by omega), ⟨h.1.del, h.2.1, ?_, h.2.2.2.1, h.2.2.2.2⟩, rfl, Nat.le_refl _⟩
    intro r hr
    have hr : r < (sV s).1 - 1 := hr
    show ¬ tGet 5 (tDel 5 (sV s) v) r 1 = tGet 5 (tDel 5 (sV s) v) r 2
    rw [get_del hr (by decide), get_del hr (by decide)]
    split
    · exact h.2.2.1 _ (by omega)
    · exact h.2.2.1 _ (by omega)
  · exact Nx.no (by decide)
theorem psB_cnt (s : Sg) : ∀ n, (psB n s).2 ≤ n
  | 0 => Nat.le_refl _
  | n + 1 => by
    have i := psB_cnt s n
    show (stpB (psB n s) n).2 ≤ n + 1
    unfold stpB
    split
    · split
      · show (psB n s).2 ≤ n + 1; omega
      · show (psB n s).2 + 1 ≤ n + 1; omega
    · omega
theorem pas_cnt {s : Sg} (hw : Wf s) : ∀ i, sN s + i < 200 → (pasN i s).2 ≤ 30 * i
  | 0, _ => Nat.le_refl _
  | i + 1, hi => by
    have a := pas_cnt hw i (by omega)
    have b := psB_cnt (clo 10 (pasN i s).1 (sN (pasN i s).1)) (sB (clo 10 (pasN i s).1 (sN (pasN i s).1))).1
    have c : (sB (clo 10 (pasN i s).1 (sN (pasN i s).1))).1 ≤ 30 := by
      rw [(clo_B 10 _ _).1]; exact (hw.pas i (by omega)).1.n.2.2.1
    show (pasN i s).2 + (psB (sB (clo 10 (pasN i s).1 (sN (pasN i s).1))).1 (clo 10 (pasN i s).1 (sN (pasN i s).1))).2 ≤ _
    omega
theorem nx_pass (h : Iv bl s) (n : Int32) : Nx bl s (oPass s n) := by
  unfold oPass
  split
  · split
    · next q1 q2 =>
      obtain ⟨k, hk, rfl⟩ := isW_t (by decide) (by decide) q1
      rw [tn_nI (k := k) (by omega)] at q2 ⊢
      obtain ⟨i, -, m, p⟩ := h.pas k q2
      have c := pas_cnt h.1.1 k q2
      exact Or.inr ⟨_, rfl, nI_ge0 (by omega), i, m, by rw [p]; exact Nat.le_refl _⟩
    · exact Nx.no (by decide)
  · exact Nx.no (by decide)
end
