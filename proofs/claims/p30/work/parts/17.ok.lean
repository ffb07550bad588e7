theorem okM_mono {a a' c v : Nat} (h1 : a ≤ a') (hc : c < 3) (h : okM a c v) : okM a' c v := by
  rcases (show c = 0 ∨ c = 1 ∨ c = 2 by omega) with rfl | rfl | rfl
  · exact h
  · exact h
  · exact h.elim Or.inl (fun q => Or.inr (Nat.lt_of_lt_of_le q h1))
theorem okB_mono {a a' b b' c v : Nat} (h1 : a ≤ a') (h2 : b ≤ b') (hc : c < 8) (h : okB a b c v) : okB a' b' c v := by
  rcases (show c = 0 ∨ c = 1 ∨ c = 2 ∨ c = 3 ∨ c = 4 ∨ c = 5 ∨ c = 6 ∨ c = 7 by omega) with rfl | rfl | rfl | rfl | rfl | rfl | rfl | rfl
  · exact Nat.lt_of_lt_of_le h h1
  · exact Nat.lt_of_lt_of_le h h2
  all_goals exact h
theorem okV_mono {a a' b b' c v : Nat} (h1 : a ≤ a') (h2 : b ≤ b') (hc : c < 5) (h : okV a b c v) : okV a' b' c v := by
  rcases (show c = 0 ∨ c = 1 ∨ c = 2 ∨ c = 3 ∨ c = 4 by omega) with rfl | rfl | rfl | rfl | rfl
  · exact Nat.lt_of_lt_of_le h h1
  · exact Nat.lt_of_lt_of_le h h2
  · exact Nat.lt_of_lt_of_le h h2
  all_goals exact h
theorem OKs.mach {s : Sg} (h : OKs s) {st bl : Nat} (h1 : 10 ≤ st ∧ st ≤ 200) (h2 : bl ≤ 12) (hm : (sM s).1 < 5) : OKs (pMach s st bl) := by
  obtain ⟨hw, hv, hb⟩ := h
  refine ⟨⟨⟨by show (sM s).1 + 1 ≤ 5; omega, fun r hr c hc => ?_⟩, hw.2.1, hw.2.2.1.imp (fun c v hc q => okB_mono (Nat.le_refl _) (Nat.le_succ _) hc q), hw.2.2.2.1.imp (fun c v hc q => okV_mono (Nat.le_refl _) (Nat.le_succ _) hc q), hw.2.2.2.2.1, hw.2.2.2.2.2⟩, hv, hb⟩
  have hr : r < (sM s).1 + 1 := hr
  show okM _ c (tGet 3 (tSet 3 (tSet 3 (tSet 3 (tAdd 3 (sM s)) (sM s).1 0 st) (sM s).1 1 bl) (sM s).1 2 NN) r c)
  by_cases q : r = (sM s).1
  · subst q
    rcases (show c = 0 ∨ c = 1 ∨ c = 2 by omega) with rfl | rfl | rfl
    · rw [get_set_c (by decide) (by decide) (by decide), get_set_c (by decide) (by decide) (by decide), get_set_s (by decide)]; exact h1
    · rw [get_set_c (by decide) (by decide) (by decide), get_set_s (by decide)]; exact h2
    · rw [get_set_s (by decide)]; exact Or.inl rfl
  · rw [get_set_r (by decide) hc q, get_set_r (by decide) hc q, get_set_r (by decide) hc q, get_add_o (by omega) hc]
    exact hw.1.2 r (by omega) c hc
theorem OKs.memb {s : Sg} (h : OKs s) (hp : (sP s).1 < 8) : OKs (uP s (tAdd 2 (sP s))) := by
  obtain ⟨hw, hv, hb⟩ := h
  exact ⟨⟨hw.1.imp (fun c v hc q => okM_mono (Nat.le_succ _) hc q), by show (sP s).1 + 1 ≤ 8; omega, hw.2.2.1.imp (fun c v hc q => okB_mono (Nat.le_succ _) (Nat.le_refl _) hc q), hw.2.2.2.1.imp (fun c v hc q => okV_mono (Nat.le_succ _) (Nat.le_refl _) hc q), hw.2.2.2.2.1, hw.2.2.2.2.2⟩, hv, hb⟩
theorem OKs.wind {s : Sg} (h : OKs s) {t w : Nat} (hw9 : w ≤ 99) : OKs (uW s (va_up (sW s) t w)) := by
  obtain ⟨hw, hv, hb⟩ := h
  refine ⟨⟨hw.1, hw.2.1, hw.2.2.1, hw.2.2.2.1, fun i hi => ?_, hw.2.2.2.2.2⟩, hv, hb⟩
  show va_up (sW s) t w i ≤ 99
  by_cases q : i = t
  · rw [q, up_same]; exact hw9
  · rw [up_ne _ _ q]; exact hw.w hi
/-- a booking's row, place by place -/
theorem plc_get {s : Sg} {b m t r c : Nat} (hc : c < 8) : tGet 8 (sB (placeS s b m t)) r c = if r = b ∧ c = 6 then sW s t else if r = b ∧ c = 2 then t else if r = b ∧ c = 1 then m else tGet 8 (sB s) r c := by
  show tGet 8 (tSet 8 (tSet 8 (tSet 8 (sB s) b 1 m) b 2 t) b 6 (sW s t)) r c = _
  rw [get_set (by decide) hc, get_set (by decide) hc, get_set (by decide) hc]
theorem OKs.place {s : Sg} (h : OKs s) {b m t : Nat} (hm : m < (sM s).1) (ht : sN s ≤ t ∧ t < 200) : OKs (placeS s b m t) := by
  obtain ⟨hw, hv, hb⟩ := h
  refine ⟨hw.place hm ht.2, hv, fun r hr h5 => ?_⟩
  have hr : r < (sB s).1 := hr
  rw [plc_get (by decide)] at h5 ⊢
  rw [if_neg (by omega), if_neg (by omega), if_neg (by omega)] at h5
  rw [if_neg (by omega)]
  by_cases q : r = b
  · rw [if_pos ⟨q, rfl⟩]; exact ht.1
  · rw [if_neg (fun z => q z.1), if_neg (by omega)]; exact hb r hr h5
theorem OKs.book {s : Sg} (h : OKs s) {p ld r m t : Nat} (hp : p < (sP s).1) (hl : 1 ≤ ld ∧ ld ≤ 2000) (hr9 : 2 ≤ r ∧ r ≤ 60) (hm : m < (sM s).1) (ht : sN s ≤ t ∧ t < 200) (hn : (sB s).1 < 30) : OKs (placeS (pBook s p ld r) (sB s).1 m t) := by
  obtain ⟨hw, hv, hb⟩ := h
  have go : ∀ b c, b < (sB s).1 → c < 8 → tGet 8 (sB (placeS (pBook s p ld r) (sB s).1 m t)) b c = tGet 8 (sB s) b c := fun b c hb2 hc => by
    have q : b ≠ (sB s).1 := by omega
    show tGet 8 (tSet 8 (tSet 8 (tSet 8 (tSet 8 (tSet 8 (tSet 8 (tSet 8 (tAdd 8 (sB s)) (sB s).1 0 p) (sB s).1 3 ld) (sB s).1 4 r) (sB s).1 5 0) (sB s).1 1 m) (sB s).1 2 t) (sB s).1 6 (sW s t)) b c = _
    rw [get_set_r (by decide) hc q, get_set_r (by decide) hc q, get_set_r (by decide) hc q, get_set_r (by decide) hc q, get_set_r (by decide) hc q, get_set_r (by decide) hc q, get_set_r (by decide) hc q, get_add_o hb2 hc]
  have gn : ∀ c, c < 8 → tGet 8 (sB (placeS (pBook s p ld r) (sB s).1 m t)) (sB s).1 c = if c = 6 then sW s t else if c = 2 then t else if c = 1 then m else if c = 5 then 0 else if c = 4 then r else if c = 3 then ld else if c = 0 then p else 0 := fun c hc => by
    show tGet 8 (tSet 8 (tSet 8 (tSet 8 (tSet 8 (tSet 8 (tSet 8 (tSet 8 (tAdd 8 (sB s)) (sB s).1 0 p) (sB s).1 3 ld) (sB s).1 4 r) (sB s).1 5 0) (sB s).1 1 m) (sB s).1 2 t) (sB s).1 6 (sW s t)) (sB s).1 c = _
    simp only [get_set (cols := 8) (show 6 < 8 by decide) hc, get_set (cols := 8) (show 2 < 8 by decide) hc, get_set (cols := 8) (show 1 < 8 by decide) hc, get_set (cols := 8) (show 5 < 8 by decide) hc, get_set (cols := 8) (show 4 < 8 by decide) hc, get_set (cols := 8) (show 3 < 8 by decide) hc, get_set (cols := 8) (show 0 < 8 by decide) hc, true_and, get_add_n hc]
  refine ⟨⟨hw.1, hw.2.1, ⟨by show (sB s).1 + 1 ≤ 30; omega, fun b hb2 c hc => ?_⟩, hw.2.2.2.1, hw.2.2.2.2.1, hw.2.2.2.2.2⟩, hv, fun b hb2 h5 => ?_⟩
  · have hb2 : b < (sB s).1 + 1 := hb2
    by_cases q : b = (sB s).1
    · rw [q, gn c hc]
      rcases (show c = 0 ∨ c = 1 ∨ c = 2 ∨ c = 3 ∨ c = 4 ∨ c = 5 ∨ c = 6 ∨ c = 7 by omega) with rfl | rfl | rfl | rfl | rfl | rfl | rfl | rfl
      · exact hp
      · exact hm
      · exact ht.2
      · exact hl
      · exact hr9
      · exact (show 0 ≤ 3 by decide)
      · exact hw.w ht.2
      · trivial
    · rw [go b c (by omega) hc]; exact hw.2.2.1.2 b (by omega) c hc
  · have hb2 : b < (sB s).1 + 1 := hb2
    by_cases q : b = (sB s).1
    · rw [q, gn 2 (by decide)]; exact ht.1
    · rw [go b 5 (by omega) (by decide)] at h5
      rw [go b 2 (by omega) (by decide)]; exact hb b (by omega) h5
theorem OKs.setB {s : Sg} (h : OKs s) {b c v : Nat} (hc : c < 8) (hv : okB (sP s).1 (sM s).1 c v) (hc2 : c ≠ 2) (h5 : c = 5 → v ≠ 0) : OKs (uB s (tSet 8 (sB s) b c v)) := by
  obtain ⟨hw, hv0, hb⟩ := h
  refine ⟨hw.setB hc hv, hv0, fun r hr h5r => ?_⟩
  have hr : r < (sB s).1 := hr
  have h5r : tGet 8 (tSet 8 (sB s) b c v) r 5 = 0 := h5r
  show sN s ≤ tGet 8 (tSet 8 (sB s) b c v) r 2
  rw [get_set_c hc (by decide) (fun q => hc2 q.symm)]
  rw [get_set hc (by decide)] at h5r
  by_cases q : r = b ∧ 5 = c
  · rw [if_pos q] at h5r; exact absurd h5r (h5 q.2.symm)
  · rw [if_neg q] at h5r; exact hb r hr h5r
theorem OKs.pay {s : Sg} (h : OKs s) {p c : Nat} : OKs (payS s p c) := ⟨h.1.pay, h.2⟩
theorem OKs.can {s : Sg} (h : OKs s) {b : Nat} : OKs (canS s b) := OKs.setB (OKs.pay h) (c := 5) (v := 3) (by decide) (show 3 ≤ 3 by decide) (by decide) (fun _ => by decide)
theorem OKs.swp {s : Sg} (h : OKs s) {b c : Nat} (hb : b < (sB s).1) (hc : c < (sB s).1) (h5b : tGet 8 (sB s) b 5 = 0) (h5c : tGet 8 (sB s) c 5 = 0) : OKs (swpS s b c) := by
  have hb0 := h.1.b hb
  have hc0 := h.1.b hc
  exact OKs.place (OKs.place h hc0.2.1 ⟨h.2.2 c hc h5c, hc0.2.2.1⟩) (show tGet 8 (sB s) b 1 < (sM s).1 from hb0.2.1) ⟨h.2.2 b hb h5b, hb0.2.2.1⟩
theorem OKs.move {s : Sg} (h : OKs s) {p fr to mu t : Nat} (hp : p < (sP s).1) (hf : fr < (sM s).1) (hto : to < (sM s).1) (hm : 1 ≤ mu ∧ mu ≤ 12) (ht : sN s ≤ t ∧ t < 200) (hn : (sV s).1 < 10) : OKs (pMove s p fr to mu t) := by
  obtain ⟨hw, hv, hb⟩ := h
  have go : ∀ b c, b < (sV s).1 → c < 5 → tGet 5 (sV (pMove s p fr to mu t)) b c = tGet 5 (sV s) b c := fun b c hb2 hc => by
    have q : b ≠ (sV s).1 := by omega
    show tGet 5 (tSet 5 (tSet 5 (tSet 5 (tSet 5 (tSet 5 (tAdd 5 (sV s)) (sV s).1 0 p) (sV s).1 1 fr) (sV s).1 2 to) (sV s).1 3 mu) (sV s).1 4 t) b c = _
    rw [get_set_r (by decide) hc q, get_set_r (by decide) hc q, get_set_r (by decide) hc q, get_set_r (by decide) hc q, get_set_r (by decide) hc q, get_add_o hb2 hc]
  have gn : ∀ c, c < 5 → tGet 5 (sV (pMove s p fr to mu t)) (sV s).1 c = if c = 4 then t else if c = 3 then mu else if c = 2 then to else if c = 1 then fr else if c = 0 then p else 0 := fun c hc => by
    show tGet 5 (tSet 5 (tSet 5 (tSet 5 (tSet 5 (tSet 5 (tAdd 5 (sV s)) (sV s).1 0 p) (sV s).1 1 fr) (sV s).1 2 to) (sV s).1 3 mu) (sV s).1 4 t) (sV s).1 c = _
    simp only [get_set (cols := 5) (show 4 < 5 by decide) hc, get_set (cols := 5) (show 2 < 5 by decide) hc, get_set (cols := 5) (show 1 < 5 by decide) hc, get_set (cols := 5) (show 3 < 5 by decide) hc, get_set (cols := 5) (show 0 < 5 by decide) hc, true_and, get_add_n hc]
  refine ⟨⟨hw.1, hw.2.1, hw.2.2.1, ⟨by show (sV s).1 + 1 ≤ 10; omega, fun b hb2 c hc => ?_⟩, hw.2.2.2.2.1, hw.2.2.2.2.2⟩, fun b hb2 => ?_, hb⟩
  · have hb2 : b < (sV s).1 + 1 := hb2
    by_cases q : b = (sV s).1
    · rw [q, gn c hc]
      rcases (show c = 0 ∨ c = 1 ∨ c = 2 ∨ c = 3 ∨ c = 4 by omega) with rfl | rfl | rfl | rfl | rfl
      · exact hp
      · exact hf
      · exact hto
      · exact hm
      · exact ht.2
    · rw [go b c (by omega) hc]; exact hw.2.2.2.1.2 b (by omega) c hc
  · have hb2 : b < (sV s).1 + 1 := hb2
    by_cases q : b = (sV s).1
    · rw [q, gn 4 (by decide)]; exact ht.1
    · rw [go b 4 (by omega) (by decide)]; exact hv b (by omega)
theorem OKs.del {s : Sg} (h : OKs s) {v : Nat} : OKs (uV s (tDel 5 (sV s) v)) :=
  ⟨⟨h.1.1, h.1.2.1, h.1.2.2.1, h.1.2.2.2.1.del, h.1.2.2.2.2.1, h.1.2.2.2.2.2⟩, del_ge h.2.1, h.2.2⟩
theorem nxA_min {V : Tb} {t : Nat} : ∀ n, (nxA V t n).1 = none → ∀ v, v < n → t + 1 ≤ tGet 5 V v 4
  | 0, _, v, hv => absurd hv (Nat.not_lt_zero _)
  | n + 1, h, v, hv => by
    rw [nxA] at h
    by_cases q : tGet 5 V n 4 < (nxA V t n).2
    · rw [if_pos q] at h; cases h
    · rw [if_neg q] at h
      have e : ∀ k, (nxA V t k).1 = none → (nxA V t k).2 = t + 1 := by
        intro k
        induction k with
        | zero => intro _; rfl
        | succ k ih =>
          intro hk
          rw [nxA] at hk ⊢
          by_cases z : tGet 5 V k 4 < (nxA V t k).2
          · rw [if_pos z] at hk; cases hk
          · rw [if_neg z] at hk ⊢; exact ih hk
      have e1 := e n h
      by_cases z : v = n
      · subst z; omega
      · exact nxA_min n h v (by omega)
theorem clo_clear : ∀ (n : Nat) (s : Sg) (t : Nat), (sV s).1 ≤ n → ∀ v, v < (sV (clo n s t)).1 → t + 1 ≤ tGet 5 (sV (clo n s t)) v 4
  | 0, s, t, hn, v, hv => by have hv : v < (sV s).1 := hv; omega
  | n + 1, s, t, hn, v, hv => by
    cases e : nxt (sV s) t with
    | none => rw [clo_none e] at hv ⊢; exact nxA_min _ e v hv
    | some q =>
      rw [clo_some e] at hv ⊢
      have hq := nxt_lt e
      exact clo_clear n (clM s q) t (by rw [(clM_B s q).2.2.2.1]; show (sV s).1 - 1 ≤ n; omega) v hv
/-- what a step does to the bookings: other rows stay, and its own stands later, or is not booked -/
theorem cau_sB {s : Sg} {b : Nat} : sB (cauS s b) = sB s := (cau_B s b).1
theorem lif_row {s : Sg} {b : Nat} (hN : sN s ≤ 199) : (∀ r, r ≠ b → ∀ c, c < 8 → tGet 8 (sB (lifS s b)) r c = tGet 8 (sB s) r c) ∧ (tGet 8 (sB (lifS s b)) b 5 = 0 → sN s + 1 ≤ tGet 8 (sB (lifS s b)) b 2) := by
  by_cases hm : must s b = true
  · have e : lifS s b = cryS (incB (cauS s b) b) b := if_pos hm
    rw [e]
    have eB : sB (incB (cauS s b) b) = tSet 8 (sB s) b 7 (tGet 8 (sB s) b 7 + 1) := by
      show tSet 8 (sB (cauS s b)) b 7 (tGet 8 (sB (cauS s b)) b 7 + 1) = _
      rw [cau_sB]
    have eN : sN (incB (cauS s b) b) = sN s := (cau_B s b).2.1
    unfold cryS
    cases hf : fre (sB (incB (cauS s b) b)) (tGet 8 (sB (incB (cauS s b) b)) b 1) (min (sN (incB (cauS s b) b) + 9) 199 - sN (incB (cauS s b) b)) (sN (incB (cauS s b) b) + 1) with
    | none =>
      show (∀ r, r ≠ b → ∀ c, c < 8 → tGet 8 (tSet 8 (sB (incB (cauS s b) b)) b 5 2) r c = _) ∧ (tGet 8 (tSet 8 (sB (incB (cauS s b) b)) b 5 2) b 5 = 0 → _)
      refine ⟨fun r hr c hc => ?_, fun q => ?_⟩
      · rw [get_set_r (by decide) hc hr, eB, get_set_r (by decide) hc hr]
      · rw [get_set_s (by decide)] at q; exact absurd q (by decide)
    | some i =>
      have hi := fre_in _ _ _ hf
      refine ⟨fun r hr c hc => ?_, fun _ => ?_⟩
      · show tGet 8 (sB (placeS _ b _ i)) r c = _
        rw [plc_get hc, if_neg (fun z => hr z.1), if_neg (fun z => hr z.1), if_neg (fun z => hr z.1), eB, get_set_r (by decide) hc hr]
      · show _ ≤ tGet 8 (sB (placeS _ b _ i)) b 2
        rw [plc_get (by decide), if_neg (by omega), if_pos ⟨rfl, rfl⟩]
        omega
  · have e : lifS s b = lftS s b := if_neg hm
    rw [e]
    show (∀ r, r ≠ b → ∀ c, c < 8 → tGet 8 (tSet 8 (sB s) b 5 1) r c = _) ∧ (tGet 8 (tSet 8 (sB s) b 5 1) b 5 = 0 → _)
    refine ⟨fun r hr c hc => get_set_r (by decide) hc hr, fun q => ?_⟩
    rw [get_set_s (by decide)] at q; exact absurd q (by decide)
theorem psB_row {s : Sg} (hN : sN s ≤ 199) (hb : ∀ b, b < (sB s).1 → tGet 8 (sB s) b 5 = 0 → sN s ≤ tGet 8 (sB s) b 2) : ∀ n, n ≤ (sB s).1 → (∀ r, r < (sB s).1 → n ≤ r → ∀ c, c < 8 → tGet 8 (sB (psB n s).1) r c = tGet 8 (sB s) r c) ∧ (∀ r, r < n → tGet 8 (sB (psB n s).1) r 5 = 0 → sN s + 1 ≤ tGet 8 (sB (psB n s).1) r 2)
  | 0, _ => ⟨fun _ _ _ _ _ => rfl, fun r hr => absurd hr (Nat.not_lt_zero _)⟩
  | n + 1, hn => by
    obtain ⟨i1, i2⟩ := psB_row hN hb n (by omega)
    have eN := (psB_B s n).2.1
    by_cases q : isNow (psB n s).1 n
    · have hl := lif_row (s := (psB n s).1) (b := n) (by rw [eN]; exact hN)
      rw [psB_t q]
      refine ⟨fun r hr hnr c hc => ?_, fun r hr h5 => ?_⟩
      · rw [hl.1 r (by omega) c hc]; exact i1 r hr (by omega) c hc
      · by_cases z : r = n
        · subst z; rw [← eN]; exact hl.2 h5
        · rw [hl.1 r z 5 (by decide)] at h5
          rw [hl.1 r z 2 (by decide)]; exact i2 r (by omega) h5
    · rw [psB_f q]
      refine ⟨fun r hr hnr c hc => i1 r hr (by omega) c hc, fun r hr h5 => ?_⟩
      by_cases z : r = n
      · subst z
        have g2 := i1 r (by omega) (Nat.le_refl _) 2 (by decide)
        have g5 := i1 r (by omega) (Nat.le_refl _) 5 (by decide)
        have h0 := hb r (by omega) (by rw [← g5]; exact h5)
        have : ¬ tGet 8 (sB (psB r s).1) r 2 = sN (psB r s).1 := fun z => q ⟨h5, z⟩
        rw [eN] at this
        omega
      · exact i2 r (by omega) h5
theorem psH_inv {s : Sg} (h : OKs s) : (∀ q, q < (sV (psH s).1).1 → sN s + 1 ≤ tGet 5 (sV (psH s).1) q 4) ∧ (∀ b, b < (sB (psH s).1).1 → tGet 8 (sB (psH s).1) b 5 = 0 → sN s + 1 ≤ tGet 8 (sB (psH s).1) b 2) ∧ sN (psH s).1 = sN s + 1 := by
  have hn := h.1.n
  have c1 := clo_B 10 s (sN s)
  have p1 := psB_B (clo 10 s (sN s)) (sB (clo 10 s (sN s))).1
  refine ⟨fun q hq => ?_, fun b hb h5 => ?_, ?_⟩
  · have e : sV (psH s).1 = sV (clo 10 s (sN s)) := p1.2.2.2.2
    rw [e] at hq ⊢
    exact clo_clear 10 s (sN s) hn.2.2.2.1 q hq
  · have hb : b < (sB (psC s).1).1 := hb
    have hb2 : b < (sB (clo 10 s (sN s))).1 := by rw [← p1.1]; exact hb
    have := (psB_row (s := clo 10 s (sN s)) (by rw [c1.2.1]; exact hn.2.2.2.2) (fun r hr h5 => by rw [c1.1] at hr h5 ⊢; rw [c1.2.1]; exact h.2.2 r hr h5) (sB (clo 10 s (sN s))).1 (Nat.le_refl _)).2 b hb2 h5
    rw [c1.2.1] at this
    exact this
  · show sN (psC s).1 + 1 = _
    rw [psC_N]
theorem OKs.xpsH {s : Sg} (h : OKs s) (hn : sN s < 199) : OKs (psH s).1 := by
  have i := psH_inv h
  exact ⟨h.1.xpsH hn, fun q hq => by rw [i.2.2]; exact i.1 q hq, fun b hb h5 => by rw [i.2.2]; exact i.2.1 b hb h5⟩
theorem OKs.pas {s : Sg} (h : OKs s) : ∀ i, sN s + i < 200 → OKs (pasN i s).1 ∧ sN (pasN i s).1 = sN s + i
  | 0, _ => ⟨h, rfl⟩
  | i + 1, hi => by
    have h1 := OKs.pas h i (by omega)
    exact ⟨OKs.xpsH h1.1 (by rw [h1.2]; omega), by show sN (psH (pasN i s).1).1 = _; rw [(psH_inv h1.1).2.2, h1.2]; omega⟩
