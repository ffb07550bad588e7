/-! what is foretold, found and added up -/
theorem pas_MV {s : Sg} (hok : OKs s) {h : Nat} (hh : h < 200) : ∀ k, sN s + k ≤ h → sM (clo 10 (pasN k s).1 h) = sM (clo 10 s h)
  | 0, _ => rfl
  | k + 1, hk => by
    have i2 := pas_MV hok hh k (by omega)
    have hp := hok.pas k (by omega)
    have mv := psH_MV (pasN k s).1
    have m1 := clo_MV 10 (s := (psH (pasN k s).1).1) (s' := clo 10 (pasN k s).1 (sN (pasN k s).1)) mv.1 mv.2.1 h
    show sM (clo 10 (psH (pasN k s).1).1 h) = _
    rw [m1.1, clo_clo (by rw [hp.2]; omega) 10 _ hp.1.1.n.2.2.2.1]
    exact i2
/-- the machines behind some half days are those behind the moves up to the last of them -/
theorem will_true {s : Sg} (hok : OKs s) {k : Nat} (hk : sN s + k < 199) : sM (pasN (k + 1) s).1 = sM (clo 10 s (sN s + k)) := by
  have hp := hok.pas k (by omega)
  have e : sM (pasN (k + 1) s).1 = sM (clo 10 (pasN k s).1 (sN (pasN k s).1)) := (psH_MV (pasN k s).1).1
  rw [e, hp.2]
  exact pas_MV hok (by omega) k (Nat.le_refl _)
/-- a booking's row, from its turn to the half day's end -/
theorem psB_row2 {s : Sg} (hN : sN s ≤ 199) {b : Nat} (h : isNow (psB b s).1 b) : ∀ n, b < n → ∀ c, c < 8 → tGet 8 (sB (psB n s).1) b c = tGet 8 (sB (lifS (psB b s).1 b)) b c
  | 0, hb, _, _ => absurd hb (Nat.not_lt_zero _)
  | n + 1, hb, c, hc => by
    by_cases z : n = b
    · subst z
      rw [psB_t h]
    · have i := psB_row2 hN h n (by omega) c hc
      by_cases q : isNow (psB n s).1 n
      · rw [psB_t q, (lif_row (s := (psB n s).1) (b := n) (by rw [(psB_B s n).2.1]; exact hN)).1 b (fun w => z w.symm) c hc]
        exact i
      · rw [psB_f q]; exact i
theorem fate_true {s : Sg} (hok : OKs s) {b h : Nat} (hb : b < (sB s).1) (e5 : tGet 8 (sB s) b 5 = 0) (e2 : tGet 8 (sB s) b 2 = h) {k : Nat} (hk : sN s + k = h) (hh : h < 199) :
    (tGet 8 (sB (pasN (k + 1) s).1) b 5 = 1 ↔ fatN (clo 10 s h) b = 0) ∧ tGet 8 (sB (pasN (k + 1) s).1) b 7 = tGet 8 (sB s) b 7 + (if fatN (clo 10 s h) b = 0 then 0 else 1) ∧ h ≤ tGet 8 (sB (pasN (k + 1) s).1) b 2 := by
  obtain ⟨i1, i2, i3, i4⟩ := pasN_far hok hb e2 (by omega) k (by omega)
  have hp := hok.pas k (by omega)
  have eN : sN (pasN k s).1 = h := by rw [hp.2]; exact hk
  have c := clo_B 10 (pasN k s).1 h
  have c0 := clo_B 10 s h
  have rw0 := psB_row (s := clo 10 (pasN k s).1 h) (by rw [c.2.1, eN]; omega) (fun r hr h5 => by rw [c.1] at hr h5 ⊢; rw [c.2.1]; exact hp.1.2.2 r hr h5) b (by rw [c.1, i4]; omega)
  have row : ∀ z, z < 8 → tGet 8 (sB (psB b (clo 10 (pasN k s).1 h)).1) b z = tGet 8 (sB s) b z := fun z hz => by
    rw [rw0.1 b (by rw [c.1, i4]; omega) (Nat.le_refl _) z hz, c.1]; exact i1 z hz
  have pb := psB_B (clo 10 (pasN k s).1 h) b
  have now : isNow (psB b (clo 10 (pasN k s).1 h)).1 b := ⟨by rw [row 5 (by decide)]; exact e5, by rw [row 2 (by decide), e2, pb.2.1, c.2.1, eN]⟩
  have ef : fatN (psB b (clo 10 (pasN k s).1 h)).1 b = fatN (clo 10 s h) b := by
    refine fatN_eq (pb.2.2.1.trans i2) ((pb.2.2.2.1.trans c.2.2.1).trans (i3.trans c0.2.2.1.symm)) (fun z hz => ?_)
    rw [row z hz, c0.1]
  have er : ∀ z, z < 8 → tGet 8 (sB (pasN (k + 1) s).1) b z = tGet 8 (sB (lifS (psB b (clo 10 (pasN k s).1 h)).1 b)) b z := fun z hz => by
    have := psB_row2 (s := clo 10 (pasN k s).1 h) (by rw [c.2.1, eN]; omega) now (sB (clo 10 (pasN k s).1 h)).1 (by rw [c.1, i4]; exact hb) z hz
    rw [← this]
    show tGet 8 (sB (psB (sB (clo 10 (pasN k s).1 (sN (pasN k s).1))).1 (clo 10 (pasN k s).1 (sN (pasN k s).1))).1) b z = _
    rw [eN]
  have ls := lif_self now.1
  rw [er 5 (by decide), er 7 (by decide), er 2 (by decide), ← ef]
  by_cases hm : must (psB b (clo 10 (pasN k s).1 h)).1 b = true
  · have hf : ¬ fatN (psB b (clo 10 (pasN k s).1 h)).1 b = 0 := by
      unfold fatN
      rw [if_pos hm]
      split <;> decide
    obtain ⟨l5, l7, l2⟩ := ls.1 hm
    refine ⟨⟨fun q => ?_, fun q => absurd q hf⟩, ?_, ?_⟩
    · rcases l5 with l5 | l5
      · rw [l5] at q; exact absurd q (by decide)
      · rw [l5.1] at q; exact absurd q (by decide)
    · rw [if_neg hf, l7, row 7 (by decide)]
    · rw [row 2 (by decide), e2] at l2
      have : sN (psB b (clo 10 (pasN k s).1 h)).1 = h := by rw [pb.2.1, c.2.1, eN]
      omega
  · have hf : fatN (psB b (clo 10 (pasN k s).1 h)).1 b = 0 := by
      unfold fatN
      rw [if_neg hm]
    obtain ⟨l5, l7, l2⟩ := ls.2 hm
    refine ⟨⟨fun _ => hf, fun _ => l5⟩, ?_, ?_⟩
    · rw [if_pos hf, l7, row 7 (by decide)]; rfl
    · rw [l2, row 2 (by decide), e2]; exact Nat.le_refl _
/-! what the machines, members and bookings add up to -/
section
variable {s : Sg}
theorem add_M (hw : Wf s) (st : Nat) : sumN (fun m => cB s 1 m st) (sM s).1 = cT s st := by
  have h := cnt_split (fun r => tGet 8 (sB s) r 1) (fun r => decide (tGet 8 (sB s) r 5 = st)) (sM s).1 (sB s).1 (fun r hr => (hw.b hr).2.1)
  refine Eq.trans (sum_eq _ (fun m _ => cnt_eq _ (fun r _ => ?_))) h
  exact Bool.decide_and _ _
theorem add_V (hw : Wf s) (c : Nat) (hc : c = 1 ∨ c = 2) : sumN (fun m => cV s c m) (sM s).1 = (sV s).1 := by
  have h := cnt_split (fun r => tGet 5 (sV s) r c) (fun _ => true) (sM s).1 (sV s).1 (fun r hr => by
    rcases hc with rfl | rfl
    · exact (hw.v hr).2.1
    · exact (hw.v hr).2.2.1)
  rw [cnt_all (p := fun _ => true) (sV s).1 (fun _ _ => rfl)] at h
  refine Eq.trans (sum_eq _ (fun m _ => cnt_eq _ (fun r _ => ?_))) h
  exact (Bool.and_true _).symm
theorem add_O (hw : Wf s) : sumN (fun p => cV s 0 p) (sP s).1 = (sV s).1 := by
  have h := cnt_split (fun r => tGet 5 (sV s) r 0) (fun _ => true) (sP s).1 (sV s).1 (fun r hr => (hw.v hr).1)
  rw [cnt_all (p := fun _ => true) (sV s).1 (fun _ _ => rfl)] at h
  refine Eq.trans (sum_eq _ (fun m _ => cnt_eq _ (fun r _ => ?_))) h
  exact (Bool.and_true _).symm
theorem add_T (hw : Wf s) : cT s 0 + cT s 1 + cT s 2 + cT s 3 = (sB s).1 := by
  have h := cnt_split (fun r => tGet 8 (sB s) r 5) (fun _ => true) 4 (sB s).1 (fun r hr => by
    have := (hw.b hr).2.2.2.2.2.1
    show tGet 8 (sB s) r 5 < 4
    omega)
  rw [cnt_all (p := fun _ => true) (sB s).1 (fun _ _ => rfl)] at h
  have e : ∀ m, cntN (fun r => decide (tGet 8 (sB s) r 5 = m) && true) (sB s).1 = cT s m := fun m => cnt_eq _ (fun r _ => Bool.and_true _)
  have h : 0 + cntN (fun r => decide (tGet 8 (sB s) r 5 = 0) && true) (sB s).1 + cntN (fun r => decide (tGet 8 (sB s) r 5 = 1) && true) (sB s).1 + cntN (fun r => decide (tGet 8 (sB s) r 5 = 2) && true) (sB s).1 + cntN (fun r => decide (tGet 8 (sB s) r 5 = 3) && true) (sB s).1 = (sB s).1 := h
  rw [e, e, e, e] at h
  omega
theorem cT_le (hw : Wf s) (w : Nat) : cT s w ≤ 30 := Nat.le_trans (cnt_le _) hw.n.2.2.1
/-- a booked one is the one that is found at its place; another one is not -/
theorem bk_is (h : Uq s) {b : Nat} (hb : b < (sB s).1) : (bkF (sB s) (tGet 8 (sB s) b 1) (tGet 8 (sB s) b 2) = some b) ↔ tGet 8 (sB s) b 5 = 0 := by
  constructor
  · intro e
    have := (fnd_lt _ e).2
    exact (of_decide_eq_true this).1
  · intro h5
    cases e : bkF (sB s) (tGet 8 (sB s) b 1) (tGet 8 (sB s) b 2) with
    | none => exact absurd rfl (bk_no e hb h5 rfl)
    | some c =>
      have hc := fnd_lt _ e
      have q := of_decide_eq_true hc.2
      rw [h b c hb hc.1 h5 q.1 q.2.1.symm q.2.2.symm]
theorem brn_mono {M : Tb} {m : Nat} : brn M m 60 ≤ brn M m 2 ∧ brn M m 2 ≤ 10 * tGet 3 M m 0 := by
  unfold brn
  have h : (tGet 3 M m 0 * 100 + tGet 3 M m 1 * 150) / max 60 2 ≤ (tGet 3 M m 0 * 100 + tGet 3 M m 1 * 150) / max 2 2 := by
    show _ / 60 ≤ _ / 2
    omega
  have h2 : (tGet 3 M m 0 * 100 + tGet 3 M m 1 * 150) / max 60 2 = (tGet 3 M m 0 * 100 + tGet 3 M m 1 * 150) / 60 := rfl
  have h3 : (tGet 3 M m 0 * 100 + tGet 3 M m 1 * 150) / max 2 2 = (tGet 3 M m 0 * 100 + tGet 3 M m 1 * 150) / 2 := rfl
  rw [h2, h3] at h ⊢
  omega
/-- what is paid, bounded: no sum of the law runs over -/
theorem paid_le {bl : Nat} (h : Iv bl s) : 30 * cT s 1 + 8 * sCaus s + 5 * (sD s + sF s) ≤ sPaid s ∧ sPaid s ≤ 250000 := by
  have a := h.2.2.2.1.2
  have b := cT_le h.1.1 3
  have c := h.1.1.n
  exact ⟨a.1, by omega⟩
end
