theorem nxA_up {V : Tb} {t h : Nat} (ht : t ≤ h) : ∀ n, (∀ v, (nxA V t n).1 = some v → nxA V h n = nxA V t n) ∧ ((nxA V t n).1 = none → (nxA V t n).2 = t + 1 ∧ t + 1 ≤ (nxA V h n).2)
  | 0 => ⟨fun v e => by simp [nxA] at e, fun _ => ⟨rfl, by show t + 1 ≤ h + 1; omega⟩⟩
  | n + 1 => by
    obtain ⟨i1, i2⟩ := nxA_up ht n
    cases e : (nxA V t n).1 with
    | some w =>
      have e1 := i1 w e
      rw [nxA, nxA, e1]
      refine ⟨fun v _ => rfl, fun z => ?_⟩
      by_cases q : tGet 5 V n 4 < (nxA V t n).2
      · rw [if_pos q] at z; cases z
      · rw [if_neg q, e] at z; cases z
    | none =>
      have e2 := i2 e
      rw [nxA, nxA]
      by_cases q : tGet 5 V n 4 < (nxA V t n).2
      · rw [if_pos q, if_pos (by omega)]
        exact ⟨fun v _ => rfl, fun z => by cases z⟩
      · rw [if_neg q]
        refine ⟨fun v z => (by rw [e] at z; cases z), fun _ => ⟨e2.1, ?_⟩⟩
        by_cases q2 : tGet 5 V n 4 < (nxA V h n).2
        · rw [if_pos q2]; show t + 1 ≤ tGet 5 V n 4; omega
        · rw [if_neg q2]; exact e2.2
theorem nxt_up {V : Tb} {t h v : Nat} (ht : t ≤ h) (e : nxt V t = some v) : nxt V h = some v := by
  unfold nxt at e ⊢
  rw [(nxA_up ht V.1).1 v e]; exact e
/-- the closing of a half day, and then of a later one -/
theorem clo_clo {t h : Nat} (ht : t ≤ h) : ∀ (n : Nat) (s : Sg), (sV s).1 ≤ 10 → clo 10 (clo n s t) h = clo 10 s h
  | 0, _, _ => rfl
  | n + 1, s, hn => by
    cases e : nxt (sV s) t with
    | none => rw [clo_none e]
    | some v =>
      rw [clo_some e, clo_clo ht n (clM s v) (by rw [(clM_B s v).2.2.2.1]; show (sV s).1 - 1 ≤ 10; omega)]
      exact clo_step hn (nxt_up ht e)
theorem clM_MV {s s' : Sg} (hM : sM s = sM s') (hV : sV s = sV s') (v : Nat) : sM (clM s v) = sM (clM s' v) ∧ sV (clM s v) = sV (clM s' v) := by
  refine ⟨?_, by rw [(clM_B s v).2.2.2.1, (clM_B s' v).2.2.2.1, hV]⟩
  unfold clM
  rw [hM, hV]
  split
  · exact hM
  · rfl
theorem clo_MV : ∀ (n : Nat) {s s' : Sg} (_ : sM s = sM s') (_ : sV s = sV s') (t : Nat), sM (clo n s t) = sM (clo n s' t) ∧ sV (clo n s t) = sV (clo n s' t)
  | 0, s, s', hM, hV, t => ⟨hM, hV⟩
  | n + 1, s, s', hM, hV, t => by
    cases e : nxt (sV s) t with
    | none => rw [clo_none e, clo_none (by rw [← hV]; exact e)]; exact ⟨hM, hV⟩
    | some v =>
      have e' : nxt (sV s') t = some v := by rw [← hV]; exact e
      rw [clo_some e, clo_some e']
      have := clM_MV hM hV v
      exact clo_MV n this.1 this.2 t
theorem psH_MV (s : Sg) : sM (psH s).1 = sM (clo 10 s (sN s)) ∧ sV (psH s).1 = sV (clo 10 s (sN s)) ∧ sW (psH s).1 = sW s ∧ (sB (psH s).1).1 = (sB s).1 := by
  have p := psB_B (clo 10 s (sN s)) (sB (clo 10 s (sN s))).1
  have c := clo_B 10 s (sN s)
  exact ⟨p.2.2.1, p.2.2.2.2, p.2.2.2.1.trans c.2.2.1, p.1.trans (by rw [c.1])⟩
theorem psB_keep {s : Sg} {r : Nat} (hN : sN s ≤ 199) (h : ¬ tGet 8 (sB s) r 2 = sN s) : ∀ n, ∀ c, c < 8 → tGet 8 (sB (psB n s).1) r c = tGet 8 (sB s) r c
  | 0, _, _ => rfl
  | n + 1, c, hc => by
    have i := psB_keep hN h n
    have eN := (psB_B s n).2.1
    by_cases q : isNow (psB n s).1 n
    · rw [psB_t q]
      by_cases z : r = n
      · subst z
        exact absurd (by rw [← i 2 (by decide), ← eN]; exact q.2) h
      · rw [(lif_row (s := (psB n s).1) (b := n) (by rw [eN]; exact hN)).1 r z c hc]; exact i c hc
    · rw [psB_f q]; exact i c hc
theorem pasN_far {s : Sg} (hok : OKs s) {b h : Nat} (hb : b < (sB s).1) (e2 : tGet 8 (sB s) b 2 = h) (hh : h < 200) : ∀ k, sN s + k ≤ h → (∀ c, c < 8 → tGet 8 (sB (pasN k s).1) b c = tGet 8 (sB s) b c) ∧ sM (clo 10 (pasN k s).1 h) = sM (clo 10 s h) ∧ sW (pasN k s).1 = sW s ∧ (sB (pasN k s).1).1 = (sB s).1
  | 0, _ => ⟨fun _ _ => rfl, rfl, rfl, rfl⟩
  | k + 1, hk => by
    obtain ⟨i1, i2, i3, i4⟩ := pasN_far hok hb e2 hh k (by omega)
    have hp := hok.pas k (by omega)
    have mv := psH_MV (pasN k s).1
    have c := clo_B 10 (pasN k s).1 (sN (pasN k s).1)
    refine ⟨fun z hz => ?_, ?_, mv.2.2.1.trans i3, mv.2.2.2.trans i4⟩
    · have kp := psB_keep (s := clo 10 (pasN k s).1 (sN (pasN k s).1)) (r := b) (by rw [c.2.1, hp.2]; omega) (by rw [c.1, c.2.1, i1 2 (by decide), e2, hp.2]; omega) (sB (clo 10 (pasN k s).1 (sN (pasN k s).1))).1 z hz
      exact kp.trans (by rw [c.1]; exact i1 z hz)
    · have m1 := clo_MV 10 (s := (psH (pasN k s).1).1) (s' := clo 10 (pasN k s).1 (sN (pasN k s).1)) mv.1 mv.2.1 h
      show sM (clo 10 (psH (pasN k s).1).1 h) = _
      rw [m1.1, clo_clo (by rw [hp.2]; omega) 10 _ hp.1.1.n.2.2.2.1]
      exact i2
theorem fatN_eq {s s' : Sg} {b : Nat} (hM : sM s = sM s') (hW : sW s = sW s') (hB : ∀ c, c < 8 → tGet 8 (sB s) b c = tGet 8 (sB s') b c) : fatN s b = fatN s' b := by
  have h0 := hB 0 (by decide)
  have h1 := hB 1 (by decide)
  have h2 := hB 2 (by decide)
  have h3 := hB 3 (by decide)
  have h4 := hB 4 (by decide)
  have h6 := hB 6 (by decide)
  have e1 : ∀ m, brsB s m b = brsB s' m b := fun m => by unfold brsB; rw [hM, h3, h4]
  have e2 : limO (sB s) b = limO (sB s') b := by unfold limO; rw [h3, h4]
  have e3 : must s b = must s' b := by unfold must; rw [e2, h1, h2, hW, e1]
  have e4 : caus s b = caus s' b := by unfold caus; rw [e2, h0, h1, h6, hM, e1]
  unfold fatN
  rw [e3, e4]
theorem fatP_at {s : Sg} {b ft : Nat} (h : isNow (psB b s).1 b) : ∀ n, b < n → fatP (some b) s ft n = fatN (psB b s).1 b
  | 0, hb => absurd hb (Nat.not_lt_zero _)
  | n + 1, hb => by
    by_cases z : n = b
    · subst z
      rw [fatP_t h]
      exact if_pos rfl
    · have i := fatP_at h n (by omega) (ft := ft)
      by_cases q : isNow (psB n s).1 n
      · rw [fatP_t q]
        exact (if_neg (fun w => z (by cases w; rfl))).trans i
      · rw [fatP_f q]; exact i
/-- the fate field behind the half day of the booking -/
theorem fatP_end {s : Sg} (hok : OKs s) {b h ft : Nat} (hb : b < (sB s).1) (e5 : tGet 8 (sB s) b 5 = 0) (e2 : tGet 8 (sB s) b 2 = h) (hh : h < 200) {k : Nat} (hk : sN s + k = h) : fatP (some b) (clo 10 (pasN k s).1 (sN (pasN k s).1)) ft (sB (clo 10 (pasN k s).1 (sN (pasN k s).1))).1 = fatN (clo 10 s h) b := by
  obtain ⟨i1, i2, i3, i4⟩ := pasN_far hok hb e2 hh k (by omega)
  have hp := hok.pas k (by omega)
  have eN : sN (pasN k s).1 = h := by rw [hp.2]; exact hk
  rw [eN]
  have c := clo_B 10 (pasN k s).1 h
  have c0 := clo_B 10 s h
  have rw0 := psB_row (s := clo 10 (pasN k s).1 h) (by rw [c.2.1, eN]; omega) (fun r hr h5 => by rw [c.1] at hr h5 ⊢; rw [c.2.1]; exact hp.1.2.2 r hr h5) b (by rw [c.1, i4]; omega)
  have row : ∀ z, z < 8 → tGet 8 (sB (psB b (clo 10 (pasN k s).1 h)).1) b z = tGet 8 (sB s) b z := fun z hz => by
    rw [rw0.1 b (by rw [c.1, i4]; omega) (Nat.le_refl _) z hz, c.1]; exact i1 z hz
  have pb := psB_B (clo 10 (pasN k s).1 h) b
  have now : isNow (psB b (clo 10 (pasN k s).1 h)).1 b := ⟨by rw [row 5 (by decide)]; exact e5, by rw [row 2 (by decide), e2, pb.2.1, c.2.1, eN]⟩
  rw [fatP_at now _ (by rw [c.1, i4]; exact hb)]
  refine fatN_eq (pb.2.2.1.trans i2) ((pb.2.2.2.1.trans c.2.2.1).trans (i3.trans c0.2.2.1.symm)) (fun z hz => ?_)
  rw [row z hz, c0.1]
abbrev Rw : Type := Nat × Nat × Nat × Nat
def exB (B : Nat → Nat) (r : Rw) : Nat → Nat := if r.2.2.1 ≤ B r.1 ∧ B r.2.1 + r.2.2.1 ≤ 12 then va_up (va_up B r.1 (B r.1 - r.2.2.1)) r.2.1 (va_up B r.1 (B r.1 - r.2.2.1) r.2.1 + r.2.2.1) else B
def rwV (V : Tb) (v : Nat) : Rw := (tGet 5 V v 1, tGet 5 V v 2, tGet 5 V v 3, tGet 5 V v 4)
def blk (s : Sg) : Nat → Nat := fun i => tGet 3 (sM s) i 1
/-- one move, carried -/
theorem carS_blk {s : Sg} {v : Nat} : blk (carS s v) = exB (blk s) (rwV (sV s) v) ∧ (∀ i, tGet 3 (sM (carS s v)) i 0 = tGet 3 (sM s) i 0) ∧ sV (carS s v) = sV s ∧ sN (carS s v) = sN s := by
  refine ⟨?_, fun i => ?_, rfl, rfl⟩
  · funext i
    show tGet 3 (carM s v _) i 1 = exB (blk s) (rwV (sV s) v) i
    unfold exB
    by_cases q : canM s v = true
    · have q2 := q
      simp only [canM, decide_eq_true_eq] at q2
      rw [if_pos q, if_pos (show (rwV (sV s) v).2.2.1 ≤ blk s (rwV (sV s) v).1 ∧ blk s (rwV (sV s) v).2.1 + (rwV (sV s) v).2.2.1 ≤ 12 from q2)]
      unfold carM
      rw [get_set (by decide) (by decide)]
      show _ = va_up _ (tGet 5 (sV s) v 2) _ i
      by_cases z : i = tGet 5 (sV s) v 2
      · rw [if_pos ⟨z, rfl⟩, z, up_same, get_set (by decide) (by decide)]
        show _ = va_up (blk s) (tGet 5 (sV s) v 1) _ (tGet 5 (sV s) v 2) + _
        by_cases y : tGet 5 (sV s) v 2 = tGet 5 (sV s) v 1
        · rw [if_pos ⟨y, rfl⟩, y, up_same]; rfl
        · rw [if_neg (fun w => y w.1), up_ne _ _ y]; rfl
      · rw [if_neg (fun w => z w.1), up_ne _ _ z, get_set (by decide) (by decide)]
        show _ = va_up (blk s) (tGet 5 (sV s) v 1) _ i
        by_cases y : i = tGet 5 (sV s) v 1
        · rw [if_pos ⟨y, rfl⟩, y, up_same]; rfl
        · rw [if_neg (fun w => y w.1), up_ne _ _ y]; rfl
    · have q2 := q
      simp only [canM, decide_eq_true_eq] at q2
      rw [if_neg q, carM_0, if_neg (show ¬ ((rwV (sV s) v).2.2.1 ≤ blk s (rwV (sV s) v).1 ∧ blk s (rwV (sV s) v).2.1 + (rwV (sV s) v).2.2.1 ≤ 12) from q2)]
      rfl
  · show tGet 3 (carM s v _) i 0 = _
    unfold carM
    rw [get_set_c (by decide) (by decide) (by decide), get_set_c (by decide) (by decide) (by decide)]
theorem clM_blk {s : Sg} {v : Nat} : blk (clM s v) = exB (blk s) (rwV (sV s) v) ∧ (∀ i, tGet 3 (sM (clM s v)) i 0 = tGet 3 (sM s) i 0) := by
  have h := carS_blk (s := s) (v := v)
  rw [← mv_eq]
  have e : sM (uV (mvD s v) (tDel 5 (sV (mvD s v)) v)) = tSet 3 (sM (carS s v)) (tGet 5 (sV s) v 1) 2 (if canM s v = true then tGet 5 (sV s) v 0 else tGet 3 (sM (mvA s v)) (tGet 5 (sV s) v 1) 2) := rfl
  refine ⟨?_, fun i => ?_⟩
  · rw [← h.1]
    funext i
    show tGet 3 (sM (uV (mvD s v) _)) i 1 = tGet 3 (sM (carS s v)) i 1
    rw [e, get_set_c (by decide) (by decide) (by decide)]
  · rw [e, get_set_c (by decide) (by decide) (by decide)]; exact h.2.1 i
