/-! a booking of the half day that passes -/
theorem caus_P {s : Sg} {b p : Nat} (hp : p < (sP s).1) (e : caus s b = some p) : sPaid (cauS s b) = sPaid s + 8 ∧ sCaus (cauS s b) = sCaus s + 1 ∧ sX (cauS s b) = sX s ∧ sD (cauS s b) = sD s ∧ sF (cauS s b) = sF s := by
  have e0 : cauS s b = payS (uP s (tSet 2 (sP s) p 1 (tGet 2 (sP s) p 1 + 1))) p 8 := by unfold cauS; rw [e]
  have q := pay_paid (s := uP s (tSet 2 (sP s) p 1 (tGet 2 (sP s) p 1 + 1))) (p := p) (c := 8) hp
  have h : tSum 2 1 (tSet 2 (sP s) p 1 (tGet 2 (sP s) p 1 + 1)) + tGet 2 (sP s) p 1 = tSum 2 1 (sP s) + (tGet 2 (sP s) p 1 + 1) := tSum_s (by decide) hp
  rw [e0, q.1, q.2]
  refine ⟨?_, ?_, rfl, rfl, rfl⟩
  · show tSum 2 0 (tSet 2 (sP s) p 1 (tGet 2 (sP s) p 1 + 1)) + 8 = _
    rw [tSum_o (by decide) (by decide) (by decide)]; rfl
  · show tSum 2 1 (tSet 2 (sP s) p 1 (tGet 2 (sP s) p 1 + 1)) = tSum 2 1 (sP s) + 1
    omega
theorem caus_X {s : Sg} {b : Nat} (e : caus s b = none) : sPaid (cauS s b) = sPaid s ∧ sCaus (cauS s b) = sCaus s ∧ sX (cauS s b) = sX s + 1 ∧ sD (cauS s b) = sD s ∧ sF (cauS s b) = sF s := by
  have e0 : cauS s b = uX s (sX s + 1) := by unfold cauS; rw [e]
  rw [e0]
  exact ⟨rfl, rfl, rfl, rfl, rfl⟩
/-- what the carrying over does to the counts -/
theorem cry_cnt {s : Sg} {b : Nat} (hb : b < (sB s).1) (h5 : tGet 8 (sB s) b 5 = 0) : sWait (cryS s b) = sWait s ∧ cT (cryS s b) 1 = cT s 1 ∧ cT (cryS s b) 3 = cT s 3 ∧ sP (cryS s b) = sP s ∧ sX (cryS s b) = sX s ∧ sD (cryS s b) = sD s ∧ sF (cryS s b) = sF s := by
  unfold cryS
  cases fre (sB s) (tGet 8 (sB s) b 1) (min (sN s + 9) 199 - sN s) (sN s + 1) with
  | none =>
    refine ⟨tSum_o (by decide) (by decide) (by decide), ?_, ?_, rfl, rfl, rfl, rfl⟩
    · have h : tCnt 8 5 1 (tSet 8 (sB s) b 5 2) + bn (decide (tGet 8 (sB s) b 5 = 1)) = tCnt 8 5 1 (sB s) + bn (decide (2 = 1)) := tCnt_s (by decide) hb
      rw [h5] at h
      exact h
    · have h : tCnt 8 5 3 (tSet 8 (sB s) b 5 2) + bn (decide (tGet 8 (sB s) b 5 = 3)) = tCnt 8 5 3 (sB s) + bn (decide (2 = 3)) := tCnt_s (by decide) hb
      rw [h5] at h
      exact h
  | some t =>
    refine ⟨?_, ?_, ?_, rfl, rfl, rfl, rfl⟩
    · show tSum 8 7 (tSet 8 (tSet 8 (tSet 8 (sB s) b 1 _) b 2 t) b 6 (sW s t)) = _
      rw [tSum_o (by decide) (by decide) (by decide), tSum_o (by decide) (by decide) (by decide), tSum_o (by decide) (by decide) (by decide)]; rfl
    · show tCnt 8 5 1 (tSet 8 (tSet 8 (tSet 8 (sB s) b 1 _) b 2 t) b 6 (sW s t)) = _
      rw [tCnt_o (by decide) (by decide) (by decide), tCnt_o (by decide) (by decide) (by decide), tCnt_o (by decide) (by decide) (by decide)]; rfl
    · show tCnt 8 5 3 (tSet 8 (tSet 8 (tSet 8 (sB s) b 1 _) b 2 t) b 6 (sW s t)) = _
      rw [tCnt_o (by decide) (by decide) (by decide), tCnt_o (by decide) (by decide) (by decide), tCnt_o (by decide) (by decide) (by decide)]; rfl
theorem inc_get {s : Sg} {b r c : Nat} (hc : c < 8) (h7 : c ≠ 7) : tGet 8 (sB (incB s b)) r c = tGet 8 (sB s) r c := get_set_c (by decide) hc h7
theorem inc_7 {s : Sg} {b : Nat} : tGet 8 (sB (incB s b)) b 7 = tGet 8 (sB s) b 7 + 1 := get_set_s (by decide)
theorem Acc.stb {K : Nat} {s : Sg} (h : Acc K s) (hw : Wf s) {b : Nat} (hb : b < (sB s).1) (h5 : tGet 8 (sB s) b 5 = 0) : Acc (K + 30) (stbS s b) := by
  obtain ⟨h1, h2, h3⟩ := h
  have eB : sB (cauS s b) = sB s := (cau_B s b).1
  have hb2 : b < (sB (incB (cauS s b) b)).1 := by show b < (sB (cauS s b)).1; rw [eB]; exact hb
  have h52 : tGet 8 (sB (incB (cauS s b) b)) b 5 = 0 := by rw [inc_get (by decide) (by decide), eB]; exact h5
  obtain ⟨c1, c2, c3, c4, c5, c6, c7⟩ := cry_cnt hb2 h52
  have w : tSum 8 7 (tSet 8 (sB (cauS s b)) b 7 (tGet 8 (sB (cauS s b)) b 7 + 1)) + tGet 8 (sB (cauS s b)) b 7 = tSum 8 7 (sB (cauS s b)) + (tGet 8 (sB (cauS s b)) b 7 + 1) := tSum_s (by decide) (by rw [eB]; exact hb)
  have w2 : sWait (incB (cauS s b) b) = sWait s + 1 := by
    show tSum 8 7 (tSet 8 (sB (cauS s b)) b 7 (tGet 8 (sB (cauS s b)) b 7 + 1)) = tSum 8 7 (sB s) + 1
    rw [eB] at w ⊢
    omega
  have t1 : ∀ w, cT (incB (cauS s b) b) w = cT s w := fun w => by
    show tCnt 8 5 w (tSet 8 (sB (cauS s b)) b 7 _) = _
    rw [tCnt_o (by decide) (by decide) (by decide), eB]; rfl
  have t1a := t1 1
  have t1b := t1 3
  have eP : sPaid (stbS s b) = sPaid (cauS s b) ∧ sCaus (stbS s b) = sCaus (cauS s b) := ⟨congrArg (tSum 2 0) c4, congrArg (tSum 2 1) c4⟩
  have eW : sWait (stbS s b) = sWait s + 1 := c1.trans w2
  have eX : sX (stbS s b) = sX (cauS s b) := c5
  have eD : sD (stbS s b) = sD (cauS s b) := c6
  have eF : sF (stbS s b) = sF (cauS s b) := c7
  have e1 : cT (stbS s b) 1 = cT s 1 := c2.trans t1a
  have e3 : cT (stbS s b) 3 = cT s 3 := c3.trans t1b
  unfold Acc
  rw [eP.1, eP.2, eW, eX, eD, eF, e1, e3]
  cases e : caus s b with
  | none =>
    obtain ⟨x1, x2, x3, x4, x5⟩ := caus_X e
    rw [x1, x2, x3, x4, x5]
    exact ⟨by omega, by omega, by omega⟩
  | some p =>
    obtain ⟨x1, x2, x3, x4, x5⟩ := caus_P (caus_lt hw hb e) e
    rw [x1, x2, x3, x4, x5]
    exact ⟨by omega, by omega, by omega⟩
theorem Acc.lft {K : Nat} {s : Sg} (h : Acc K s) (hw : Wf s) {b : Nat} (hb : b < (sB s).1) (h5 : tGet 8 (sB s) b 5 = 0) : Acc (K + 30) (lftS s b) := by
  obtain ⟨h1, h2, h3⟩ := h
  have hp : tGet 8 (tSet 8 (sB s) b 5 1) b 0 < (sP s).1 := by rw [get_set_c (by decide) (by decide) (by decide)]; exact (hw.b hb).1
  have q := pay_paid (s := uB s (tSet 8 (sB s) b 5 1)) (p := tGet 8 (tSet 8 (sB s) b 5 1) b 0) (c := 30) hp
  have a1 : tCnt 8 5 1 (tSet 8 (sB s) b 5 1) + bn (decide (tGet 8 (sB s) b 5 = 1)) = tCnt 8 5 1 (sB s) + bn (decide (1 = 1)) := tCnt_s (by decide) hb
  have a3 : tCnt 8 5 3 (tSet 8 (sB s) b 5 1) + bn (decide (tGet 8 (sB s) b 5 = 3)) = tCnt 8 5 3 (sB s) + bn (decide (1 = 3)) := tCnt_s (by decide) hb
  rw [h5] at a1 a3
  have a1 : cT (lftS s b) 1 = cT s 1 + 1 := a1
  have a3 : cT (lftS s b) 3 = cT s 3 := a3
  have eW : sWait (lftS s b) = sWait s := tSum_o (by decide) (by decide) (by decide)
  have eP : sPaid (lftS s b) = sPaid s + 30 := q.1
  have eC : sCaus (lftS s b) = sCaus s := q.2
  have eX : sX (lftS s b) = sX s := rfl
  have eD : sD (lftS s b) = sD s := rfl
  have eF : sF (lftS s b) = sF s := rfl
  unfold Acc
  rw [eW, eP, eC, eX, eD, eF, a1, a3]
  exact ⟨by omega, by omega, by omega⟩
theorem Acc.lif {K : Nat} {s : Sg} (h : Acc K s) (hw : Wf s) {b : Nat} (hb : b < (sB s).1) (h5 : tGet 8 (sB s) b 5 = 0) : Acc (K + 30) (lifS s b) := by
  unfold lifS
  split
  · exact h.stb hw hb h5
  · exact h.lft hw hb h5
theorem Acc.xpsB {K : Nat} {s : Sg} (h : Acc K s) (hw : Wf s) : ∀ n, n ≤ (sB s).1 → Acc (K + 30 * n) (psB n s).1
  | 0, _ => h
  | n + 1, hn => by
    have i := Acc.xpsB h hw n (by omega)
    by_cases q : isNow (psB n s).1 n
    · rw [psB_t q]
      exact (i.lif (hw.xpsB n (by omega)) (by rw [(psB_B s n).1]; omega) q.1).mono (by omega)
    · rw [psB_f q]; exact i.mono (by omega)
theorem Acc.xpsH {s : Sg} (h : Acc (1190 * sN s) s) (hw : Wf s) : Acc (1190 * sN (psH s).1) (psH s).1 ∧ sBlk (psH s).1 = sBlk s := by
  have hn := hw.n
  have i := Acc.xclo 10 h hw (sN s)
  have j := i.1.xpsB (hw.xclo 10 (sN s)) (sB (clo 10 s (sN s))).1 (Nat.le_refl _)
  have e1 : (sB (clo 10 s (sN s))).1 = (sB s).1 := by rw [(clo_B 10 s (sN s)).1]
  have e2 : sN (psH s).1 = sN s + 1 := by show sN (psC s).1 + 1 = _; rw [psC_N]
  have j2 : Acc (1190 * sN s + 29 * 10 + 30 * (sB (clo 10 s (sN s))).1) (psH s).1 := j
  refine ⟨j2.mono (by rw [e1, e2]; omega), ?_⟩
  show tSum 3 1 (sM (psH s).1) = _
  rw [(psH_MV s).1]
  exact i.2
/-- the other rows stay, the own one is not booked or stands where it was free -/
theorem lif_self {s : Sg} {b : Nat} (h5 : tGet 8 (sB s) b 5 = 0) :
    (must s b = true → (tGet 8 (sB (lifS s b)) b 5 = 2 ∨ (tGet 8 (sB (lifS s b)) b 5 = 0 ∧ tGet 8 (sB (lifS s b)) b 1 = tGet 8 (sB s) b 1 ∧ bkF (sB (incB (cauS s b) b)) (tGet 8 (sB s) b 1) (tGet 8 (sB (lifS s b)) b 2) = none)) ∧ tGet 8 (sB (lifS s b)) b 7 = tGet 8 (sB s) b 7 + 1 ∧ (tGet 8 (sB (lifS s b)) b 2 = tGet 8 (sB s) b 2 ∨ sN s < tGet 8 (sB (lifS s b)) b 2)) ∧
    (¬ must s b = true → tGet 8 (sB (lifS s b)) b 5 = 1 ∧ tGet 8 (sB (lifS s b)) b 7 = tGet 8 (sB s) b 7 ∧ tGet 8 (sB (lifS s b)) b 2 = tGet 8 (sB s) b 2) := by
  refine ⟨fun hm => ?_, fun hm => ?_⟩
  · have e : lifS s b = cryS (incB (cauS s b) b) b := if_pos hm
    have eB : sB (cauS s b) = sB s := (cau_B s b).1
    have eN : sN (incB (cauS s b) b) = sN s := (cau_B s b).2.1
    have g : ∀ c, c < 8 → c ≠ 7 → tGet 8 (sB (incB (cauS s b) b)) b c = tGet 8 (sB s) b c := fun c hc h7 => by rw [inc_get hc h7, eB]
    have g7 : tGet 8 (sB (incB (cauS s b) b)) b 7 = tGet 8 (sB s) b 7 + 1 := by rw [inc_7, eB]
    rw [e]
    unfold cryS
    cases hf : fre (sB (incB (cauS s b) b)) (tGet 8 (sB (incB (cauS s b) b)) b 1) (min (sN (incB (cauS s b) b) + 9) 199 - sN (incB (cauS s b) b)) (sN (incB (cauS s b) b) + 1) with
    | none =>
      show (tGet 8 (tSet 8 (sB (incB (cauS s b) b)) b 5 2) b 5 = 2 ∨ _) ∧ tGet 8 (tSet 8 (sB (incB (cauS s b) b)) b 5 2) b 7 = _ ∧ (tGet 8 (tSet 8 (sB (incB (cauS s b) b)) b 5 2) b 2 = _ ∨ _)
      refine ⟨Or.inl (get_set_s (by decide)), ?_, Or.inl ?_⟩
      · rw [get_set_c (by decide) (by decide) (by decide)]; exact g7
      · rw [get_set_c (by decide) (by decide) (by decide)]; exact g 2 (by decide) (by decide)
    | some t =>
      have ht := fre_in _ _ _ hf
      have hn := fre_no _ _ _ hf
      rw [g 1 (by decide) (by decide)] at hn
      show (tGet 8 (sB (placeS (incB (cauS s b) b) b (tGet 8 (sB (incB (cauS s b) b)) b 1) t)) b 5 = 2 ∨ (tGet 8 (sB (placeS (incB (cauS s b) b) b (tGet 8 (sB (incB (cauS s b) b)) b 1) t)) b 5 = 0 ∧ tGet 8 (sB (placeS (incB (cauS s b) b) b (tGet 8 (sB (incB (cauS s b) b)) b 1) t)) b 1 = _ ∧ bkF _ _ (tGet 8 (sB (placeS (incB (cauS s b) b) b (tGet 8 (sB (incB (cauS s b) b)) b 1) t)) b 2) = none)) ∧ tGet 8 (sB (placeS (incB (cauS s b) b) b (tGet 8 (sB (incB (cauS s b) b)) b 1) t)) b 7 = _ ∧ (_ ∨ sN s < tGet 8 (sB (placeS (incB (cauS s b) b) b (tGet 8 (sB (incB (cauS s b) b)) b 1) t)) b 2)
      have e2 : tGet 8 (sB (placeS (incB (cauS s b) b) b (tGet 8 (sB (incB (cauS s b) b)) b 1) t)) b 2 = t := by rw [plc_get (by decide), if_neg (by omega), if_pos ⟨rfl, rfl⟩]
      refine ⟨Or.inr ⟨?_, ?_, by rw [e2]; exact hn⟩, ?_, Or.inr (by rw [e2]; omega)⟩
      · rw [plc_get (by decide), if_neg (by omega), if_neg (by omega), if_neg (by omega), g 5 (by decide) (by decide)]; exact h5
      · rw [plc_get (by decide), if_neg (by omega), if_neg (by omega), if_pos ⟨rfl, rfl⟩]; exact g 1 (by decide) (by decide)
      · rw [plc_get (by decide), if_neg (by omega), if_neg (by omega), if_neg (by omega)]; exact g7
  · have e : lifS s b = lftS s b := if_neg hm
    rw [e]
    refine ⟨get_set_s (by decide), get_set_c (by decide) (by decide) (by decide), get_set_c (by decide) (by decide) (by decide)⟩
theorem lif_N (s : Sg) (b : Nat) : (sB (lifS s b)).1 = (sB s).1 ∧ sN (lifS s b) = sN s := by
  unfold lifS
  split
  · exact ⟨(stb_B s b).1, (stb_B s b).2.1⟩
  · exact ⟨rfl, rfl⟩
theorem Uq.lif {s : Sg} (h : Uq s) (hN : sN s ≤ 199) {b : Nat} (hb : b < (sB s).1) (h5 : tGet 8 (sB s) b 5 = 0) : Uq (lifS s b) := by
  have ro := (lif_row (s := s) (b := b) hN).1
  have hn := (lif_N s b).1
  have ls := lif_self h5
  have gone : ¬ tGet 8 (sB (lifS s b)) b 5 = 0 → Uq (lifS s b) := fun q => h.gone hn ro q
  by_cases hm : must s b = true
  · rcases (ls.1 hm).1 with q | ⟨q5, q1, q2⟩
    · exact gone (by rw [q]; decide)
    · refine h.new (b := b) (m := tGet 8 (sB s) b 1) (t := tGet 8 (sB (lifS s b)) b 2) (fun r hr _ => by rw [← hn]; exact hr) (fun r _ hr => ro r hr) q1 rfl (fun r hr hrb hr5 hr1 => ?_)
      have eB : sB (cauS s b) = sB s := (cau_B s b).1
      have g : ∀ c, c < 8 → c ≠ 7 → tGet 8 (sB (incB (cauS s b) b)) r c = tGet 8 (sB s) r c := fun c hc h7 => by rw [inc_get hc h7, eB]
      have := bk_no q2 (r := r) (by show r < (sB (cauS s b)).1; rw [eB]; exact hr) (by rw [g 5 (by decide) (by decide)]; exact hr5) (by rw [g 1 (by decide) (by decide)]; exact hr1)
      rw [g 2 (by decide) (by decide)] at this
      exact this
  · exact gone (by rw [(ls.2 hm).1]; decide)
theorem Uq.xpsB {s : Sg} (h : Uq s) (hN : sN s ≤ 199) : ∀ n, n ≤ (sB s).1 → Uq (psB n s).1
  | 0, _ => h
  | n + 1, hn => by
    have i := Uq.xpsB h hN n (by omega)
    by_cases q : isNow (psB n s).1 n
    · rw [psB_t q]
      exact i.lif (by rw [(psB_B s n).2.1]; exact hN) (by rw [(psB_B s n).1]; omega) q.1
    · rw [psB_f q]; exact i
theorem Uq.xpsH {s : Sg} (h : Uq s) (hN : sN s ≤ 199) : Uq (psH s).1 := by
  have c := clo_B 10 s (sN s)
  exact Uq.xpsB (h.same c.1) (by rw [c.2.1]; exact hN) (sB (clo 10 s (sN s))).1 (Nat.le_refl _)
theorem Mv.xpsH {s : Sg} (h : Mv s) : Mv (psH s).1 := by
  have i := Mv.xclo 10 h (sN s)
  intro v hv
  rw [(psH_MV s).2.1] at hv ⊢
  exact i v hv
theorem clo_MP : ∀ (n : Nat) (s : Sg) (t : Nat), (sM (clo n s t)).1 = (sM s).1 ∧ (sP (clo n s t)).1 = (sP s).1
  | 0, s, t => ⟨rfl, rfl⟩
  | n + 1, s, t => by
    cases e : nxt (sV s) t with
    | none => rw [clo_none e]; exact ⟨rfl, rfl⟩
    | some v =>
      rw [clo_some e]
      have i := clo_MP n (clM s v) t
      have j := clM_M s v
      exact ⟨i.1.trans j.1, i.2.trans j.2⟩
theorem cry_P (s : Sg) (b : Nat) : sP (cryS s b) = sP s := by
  unfold cryS
  cases fre (sB s) (tGet 8 (sB s) b 1) (min (sN s + 9) 199 - sN s) (sN s + 1) <;> rfl
theorem lif_P (s : Sg) (b : Nat) : (sP (lifS s b)).1 = (sP s).1 := by
  unfold lifS
  split
  · show (sP (cryS (incB (cauS s b) b) b)).1 = _
    rw [cry_P]
    show (sP (cauS s b)).1 = _
    unfold cauS
    cases caus s b <;> rfl
  · rfl
theorem psB_P (s : Sg) : ∀ n, (sP (psB n s).1).1 = (sP s).1
  | 0 => rfl
  | n + 1 => by
    by_cases q : isNow (psB n s).1 n
    · rw [psB_t q, lif_P]; exact psB_P s n
    · rw [psB_f q]; exact psB_P s n
theorem psH_MP (s : Sg) : (sM (psH s).1).1 = (sM s).1 ∧ (sP (psH s).1).1 = (sP s).1 := by
  refine ⟨by rw [(psH_MV s).1]; exact (clo_MP 10 s (sN s)).1, ?_⟩
  exact (psB_P (clo 10 s (sN s)) (sB (clo 10 s (sN s))).1).trans (clo_MP 10 s (sN s)).2
theorem Iv.xpsH {bl : Nat} {s : Sg} (h : Iv bl s) (hn : sN s < 199) : Iv bl (psH s).1 := by
  obtain ⟨h1, h2, h3, h4, h5⟩ := h
  have a := h4.xpsH h1.1
  exact ⟨h1.xpsH hn, h2.xpsH (by omega), h3.xpsH, a.1, a.2.trans h5⟩
theorem Iv.pas {bl : Nat} {s : Sg} (h : Iv bl s) : ∀ i, sN s + i < 200 → Iv bl (pasN i s).1 ∧ sN (pasN i s).1 = sN s + i ∧ (sM (pasN i s).1).1 = (sM s).1 ∧ (sP (pasN i s).1).1 = (sP s).1
  | 0, _ => ⟨h, rfl, rfl, rfl⟩
  | i + 1, hi => by
    obtain ⟨a, b, c, d⟩ := Iv.pas h i (by omega)
    have m := psH_MP (pasN i s).1
    exact ⟨a.xpsH (by omega), by show sN (psH (pasN i s).1).1 = _; rw [(psH_inv a.1).2.2, b]; omega, m.1.trans c, m.2.trans d⟩
