/-! the blocks that will stand: moves in their order, seen as a list -/
abbrev Rw : Type := Nat × Nat × Nat × Nat
def exB (B : Nat → Nat) (r : Rw) : Nat → Nat := if r.2.2.1 ≤ B r.1 ∧ B r.2.1 + r.2.2.1 ≤ 12 then va_up (va_up B r.1 (B r.1 - r.2.2.1)) r.2.1 (va_up B r.1 (B r.1 - r.2.2.1) r.2.1 + r.2.2.1) else B
def rwV (V : Tb) (v : Nat) : Rw := (tGet 5 V v 1, tGet 5 V v 2, tGet 5 V v 3, tGet 5 V v 4)
def rws (V : Tb) : List Rw := (List.range V.1).map (rwV V)
def blk (s : Sg) : Nat → Nat := fun i => tGet 3 (sM s) i 1
def exT (B : Nat → Nat) (L : List Rw) (t : Nat) : Nat → Nat := (L.filter (fun r => decide (r.2.2.2 = t))).foldl exB B
def exTs (B : Nat → Nat) (L : List Rw) (t : Nat) : Nat → (Nat → Nat)
  | 0 => B
  | n + 1 => exT (exTs B L t n) L (t + n)
theorem rws_len {V : Tb} : (rws V).length = V.1 := by unfold rws; rw [List.length_map, List.length_range]
theorem rws_get {V : Tb} {v : Nat} (hv : v < (rws V).length) : (rws V)[v] = rwV V v := by
  simp only [rws, List.getElem_map, List.getElem_range]
theorem rws_del {V : Tb} {v : Nat} (hv : v < V.1) : rws (tDel 5 V v) = (rws V).eraseIdx v := by
  refine List.ext_getElem ?_ (fun j h1 h2 => ?_)
  · rw [rws_len, List.length_eraseIdx, rws_len, if_pos hv]; rfl
  · have hj : j < V.1 - 1 := by rw [rws_len] at h1; exact h1
    rw [rws_get, List.getElem_eraseIdx]
    have g : ∀ c, c < 5 → tGet 5 (tDel 5 V v) j c = if v ≤ j then tGet 5 V (j + 1) c else tGet 5 V j c := fun c hc => get_del hj hc
    by_cases q : j < v
    · rw [dif_pos q, rws_get]
      unfold rwV
      rw [g 1 (by decide), g 2 (by decide), g 3 (by decide), g 4 (by decide), if_neg (by omega), if_neg (by omega), if_neg (by omega), if_neg (by omega)]
    · rw [dif_neg q, rws_get]
      unfold rwV
      rw [g 1 (by decide), g 2 (by decide), g 3 (by decide), g 4 (by decide), if_pos (by omega), if_pos (by omega), if_pos (by omega), if_pos (by omega)]
/-- a list, cut where a row goes -/
theorem cut_at {α : Type} (L : List α) {v : Nat} (hv : v < L.length) : L = L.take v ++ L[v] :: L.drop (v + 1) := by
  rw [List.getElem_cons_drop, List.take_append_drop]
theorem fil_o {α : Type} {p : α → Bool} (L : List α) {v : Nat} (hv : v < L.length) (h : p L[v] = false) : (L.eraseIdx v).filter p = L.filter p := by
  have e := cut_at L hv
  rw [List.eraseIdx_eq_take_drop_succ, List.filter_append]
  conv => rhs; rw [e, List.filter_append, List.filter_cons, if_neg (by rw [h]; decide)]
theorem fil_a {α : Type} {p : α → Bool} (L : List α) {v : Nat} (hv : v < L.length) (h : p L[v] = true) (hf : ∀ q (hq : q < L.length), q < v → p L[q] = false) : L.filter p = L[v] :: (L.eraseIdx v).filter p := by
  have e := cut_at L hv
  have e0 : (L.take v).filter p = [] := by
    rw [List.filter_eq_nil_iff]
    intro a ha
    obtain ⟨i, hi, rfl⟩ := List.getElem_of_mem ha
    rw [List.length_take] at hi
    rw [List.getElem_take, hf i (by omega) (by omega)]
    decide
  rw [List.eraseIdx_eq_take_drop_succ, List.filter_append, e0, List.nil_append]
  conv => lhs; rw [e, List.filter_append, e0, List.nil_append, List.filter_cons, if_pos h]
theorem exTs_none {B : Nat → Nat} {L : List Rw} {t : Nat} : ∀ n, (∀ r ∈ L, t + n ≤ r.2.2.2) → exTs B L t n = B
  | 0, _ => rfl
  | n + 1, h => by
    rw [exTs, exTs_none n (fun r hr => by have := h r hr; omega), exT]
    have e : L.filter (fun r => decide (r.2.2.2 = t + n)) = [] := by
      rw [List.filter_eq_nil_iff]
      intro r hr
      have := h r hr
      simp only [decide_eq_true_eq]
      omega
    rw [e]; rfl
theorem exTs_cut {B : Nat → Nat} {L : List Rw} {t v : Nat} (hv : v < L.length) (hmin : ∀ q (hq : q < L.length), L[v].2.2.2 ≤ L[q].2.2.2 ∧ (q < v → L[v].2.2.2 < L[q].2.2.2)) (ht : t ≤ L[v].2.2.2) : ∀ n, L[v].2.2.2 < t + n → exTs (exB B L[v]) (L.eraseIdx v) t n = exTs B L t n
  | 0, h => by omega
  | n + 1, h => by
    have hall : ∀ r ∈ L, L[v].2.2.2 ≤ r.2.2.2 := fun r hr => by
      obtain ⟨i, hi, rfl⟩ := List.getElem_of_mem hr
      exact (hmin i hi).1
    by_cases q : L[v].2.2.2 = t + n
    · have hE : ∀ r ∈ L.eraseIdx v, t + n ≤ r.2.2.2 := fun r hr => by have := hall r (List.mem_of_mem_eraseIdx hr); omega
      rw [exTs, exTs, exTs_none n hE, exTs_none n (fun r hr => by have := hall r hr; omega), exT, exT]
      rw [fil_a (p := fun r => decide (r.2.2.2 = t + n)) L hv (decide_eq_true q) (fun j hj hlt => decide_eq_false (fun w => by have := (hmin j hj).2 hlt; omega))]
      rfl
    · rw [exTs, exTs, exTs_cut hv hmin ht n (by omega), exT, exT, fil_o (p := fun r => decide (r.2.2.2 = t + n)) L hv (decide_eq_false q)]
/-- one move, carried -/
theorem carS_blk {s : Sg} {v : Nat} : blk (carS s v) = exB (blk s) (rwV (sV s) v) ∧ (∀ i, tGet 3 (sM (carS s v)) i 0 = tGet 3 (sM s) i 0) ∧ sV (carS s v) = sV s ∧ sN (carS s v) = sN s := by
  refine ⟨?_, fun i => ?_, rfl, rfl⟩
  · funext i
    show tGet 3 (carM s v _) i 1 = exB (blk s) (rwV (sV s) v) i
    unfold exB
    by_cases q : canM s v = true
    · have q2 := q
      simp only [canM, decide_eq_true_eq] at q2
      rw [if_pos q, if_pos (show (rwV (sV s) v).2.2.1 ≤ blk s (rwV (sV s) v).1 ∧ blk s (rwV (sV s) v).2.1 + (rwV (sV s) v).2.2.1 ≤ 12 from q2)]
      unfold carM
      rw [get_set (by decide) (by decide)]
      show _ = va_up _ (tGet 5 (sV s) v 2) _ i
      by_cases z : i = tGet 5 (sV s) v 2
      · rw [if_pos ⟨z, rfl⟩, z, up_same, get_set (by decide) (by decide)]
        show _ = va_up (blk s) (tGet 5 (sV s) v 1) _ (tGet 5 (sV s) v 2) + _
        by_cases y : tGet 5 (sV s) v 2 = tGet 5 (sV s) v 1
        · rw [if_pos ⟨y, rfl⟩, y, up_same]; rfl
        · rw [if_neg (fun w => y w.1), up_ne _ _ y]; rfl
      · rw [if_neg (fun w => z w.1), up_ne _ _ z, get_set (by decide) (by decide)]
        show _ = va_up (blk s) (tGet 5 (sV s) v 1) _ i
        by_cases y : i = tGet 5 (sV s) v 1
        · rw [if_pos ⟨y, rfl⟩, y, up_same]; rfl
        · rw [if_neg (fun w => y w.1), up_ne _ _ y]; rfl
    · have q2 := q
      simp only [canM, decide_eq_true_eq] at q2
      rw [if_neg q, carM_0, if_neg (show ¬ ((rwV (sV s) v).2.2.1 ≤ blk s (rwV (sV s) v).1 ∧ blk s (rwV (sV s) v).2.1 + (rwV (sV s) v).2.2.1 ≤ 12) from q2)]
      rfl
  · show tGet 3 (carM s v _) i 0 = _
    unfold carM
    rw [get_set_c (by decide) (by decide) (by decide), get_set_c (by decide) (by decide) (by decide)]
theorem clM_blk {s : Sg} {v : Nat} : blk (clM s v) = exB (blk s) (rwV (sV s) v) ∧ (∀ i, tGet 3 (sM (clM s v)) i 0 = tGet 3 (sM s) i 0) := by
  have h := carS_blk (s := s) (v := v)
  rw [← mv_eq]
  have e : sM (uV (mvD s v) (tDel 5 (sV (mvD s v)) v)) = tSet 3 (sM (carS s v)) (tGet 5 (sV s) v 1) 2 (if canM s v = true then tGet 5 (sV s) v 0 else tGet 3 (sM (mvA s v)) (tGet 5 (sV s) v 1) 2) := rfl
  refine ⟨?_, fun i => ?_⟩
  · rw [← h.1]
    funext i
    show tGet 3 (sM (uV (mvD s v) _)) i 1 = tGet 3 (sM (carS s v)) i 1
    rw [e, get_set_c (by decide) (by decide) (by decide)]
  · rw [e, get_set_c (by decide) (by decide) (by decide)]; exact h.2.1 i
theorem clo_blk : ∀ (n : Nat) (s : Sg) (t h : Nat), (sV s).1 ≤ n → t ≤ h + 1 → (∀ q, q < (sV s).1 → t ≤ tGet 5 (sV s) q 4) → blk (clo n s h) = exTs (blk s) (rws (sV s)) t (h + 1 - t) ∧ (∀ i, tGet 3 (sM (clo n s h)) i 0 = tGet 3 (sM s) i 0)
  | 0, s, t, h, hn, ht, hg => by
    have e : rws (sV s) = [] := List.eq_nil_of_length_eq_zero (by rw [rws_len]; omega)
    refine ⟨?_, fun i => rfl⟩
    rw [e, exTs_none _ (fun r hr => by cases hr)]; rfl
  | n + 1, s, t, h, hn, ht, hg => by
    cases e : nxt (sV s) h with
    | none =>
      rw [clo_none e]
      refine ⟨?_, fun i => rfl⟩
      rw [exTs_none]
      intro r hr
      obtain ⟨i, hi, rfl⟩ := List.getElem_of_mem hr
      rw [rws_get]
      have := nxA_min _ e i (by rw [rws_len] at hi; exact hi)
      show t + (h + 1 - t) ≤ tGet 5 (sV s) i 4
      omega
    | some v =>
      rw [clo_some e]
      have hx := nxA_some _ v e
      have hV : sV (clM s v) = tDel 5 (sV s) v := (clM_B s v).2.2.2.1
      have ih := clo_blk n (clM s v) t h (by rw [hV]; show (sV s).1 - 1 ≤ n; omega) ht (by rw [hV]; exact del_ge hg)
      have hb := clM_blk (s := s) (v := v)
      have hvl : v < (rws (sV s)).length := by rw [rws_len]; exact hx.1
      refine ⟨?_, fun i => (ih.2 i).trans (hb.2 i)⟩
      rw [ih.1, hb.1, hV, rws_del hx.1, ← rws_get hvl]
      refine exTs_cut hvl (fun q hq => ?_) ?_ _ ?_
      · rw [rws_get, rws_get]
        exact hx.2.2.2 q (by rw [rws_len] at hq; exact hq)
      · rw [rws_get]; exact hg v hx.1
      · rw [rws_get]
        show tGet 5 (sV s) v 4 < _
        have := hx.2.2.1
        omega
/-- the reference's way: the moves of a half day in their order, none closed -/
def kwV (t : Nat) (s : Sg) : Nat → Sg
  | 0 => s
  | v + 1 => if tGet 5 (sV s) v 4 = t then carS (kwV t s v) v else kwV t s v
def kwT (s : Sg) : Nat → Sg
  | 0 => s
  | n + 1 => kwV (sN s + n) (kwT s n) (sV s).1
theorem kwV_B {t : Nat} {s : Sg} : ∀ v, sV (kwV t s v) = sV s ∧ sN (kwV t s v) = sN s ∧ (sM (kwV t s v)).1 = (sM s).1 ∧ sB (kwV t s v) = sB s ∧ (∀ i, tGet 3 (sM (kwV t s v)) i 0 = tGet 3 (sM s) i 0) ∧ blk (kwV t s v) = (((rws (sV s)).take v).filter (fun r => decide (r.2.2.2 = t))).foldl exB (blk s) ∨ (sV s).1 < v
  | 0 => Or.inl ⟨rfl, rfl, rfl, rfl, fun _ => rfl, rfl⟩
  | v + 1 => by
    rcases Nat.lt_or_ge v (sV s).1 with hv | hv
    · rcases kwV_B (t := t) (s := s) v with i | i
      · refine Or.inl ?_
        have hvl : v < (rws (sV s)).length := by rw [rws_len]; exact hv
        have et : (rws (sV s)).take (v + 1) = (rws (sV s)).take v ++ [rwV (sV s) v] := by
          rw [List.take_succ_eq_append_getElem hvl, rws_get]
        rw [kwV]
        by_cases q : tGet 5 (sV s) v 4 = t
        · rw [if_pos q]
          have hc := carS_blk (s := kwV t s v) (v := v)
          refine ⟨hc.2.2.1.trans i.1, hc.2.2.2.trans i.2.1, ?_, i.2.2.2.1, fun j => (hc.2.1 j).trans (i.2.2.2.2.1 j), ?_⟩
          · exact i.2.2.1
          · rw [hc.1, i.2.2.2.2.2, i.1, et, List.filter_append, List.foldl_append]
            have : [rwV (sV s) v].filter (fun r => decide (r.2.2.2 = t)) = [rwV (sV s) v] := by
              rw [List.filter_cons, if_pos (show decide ((rwV (sV s) v).2.2.2 = t) = true from decide_eq_true q)]; rfl
            rw [this]; rfl
        · rw [if_neg q]
          refine ⟨i.1, i.2.1, i.2.2.1, i.2.2.2.1, i.2.2.2.2.1, ?_⟩
          rw [i.2.2.2.2.2, et, List.filter_append, List.foldl_append]
          have : [rwV (sV s) v].filter (fun r => decide (r.2.2.2 = t)) = [] := by
            rw [List.filter_cons, if_neg (by simp only [decide_eq_true_eq]; exact q)]; rfl
          rw [this]; rfl
      · omega
    · exact Or.inr (by omega)
theorem kwV_all {t : Nat} {s : Sg} {v : Nat} (hv : v ≤ (sV s).1) : sV (kwV t s v) = sV s ∧ sN (kwV t s v) = sN s ∧ (sM (kwV t s v)).1 = (sM s).1 ∧ sB (kwV t s v) = sB s ∧ (∀ i, tGet 3 (sM (kwV t s v)) i 0 = tGet 3 (sM s) i 0) ∧ blk (kwV t s v) = (((rws (sV s)).take v).filter (fun r => decide (r.2.2.2 = t))).foldl exB (blk s) :=
  (kwV_B v).elim id (fun q => by omega)
theorem kwT_B {s : Sg} : ∀ n, sV (kwT s n) = sV s ∧ sN (kwT s n) = sN s ∧ (sM (kwT s n)).1 = (sM s).1 ∧ sB (kwT s n) = sB s ∧ (∀ i, tGet 3 (sM (kwT s n)) i 0 = tGet 3 (sM s) i 0) ∧ blk (kwT s n) = exTs (blk s) (rws (sV s)) (sN s) n
  | 0 => ⟨rfl, rfl, rfl, rfl, fun _ => rfl, rfl⟩
  | n + 1 => by
    have i := kwT_B (s := s) n
    have j := kwV_all (t := sN s + n) (s := kwT s n) (v := (sV s).1) (by rw [i.1]; exact Nat.le_refl _)
    rw [kwT]
    refine ⟨j.1.trans i.1, j.2.1.trans i.2.1, j.2.2.1.trans i.2.2.1, j.2.2.2.1.trans i.2.2.2.1, fun q => (j.2.2.2.2.1 q).trans (i.2.2.2.2.1 q), ?_⟩
    rw [j.2.2.2.2.2, i.1, i.2.2.2.2.2, List.take_of_length_le (by rw [rws_len]; exact Nat.le_refl _)]
    rfl
theorem cw_brn {s : Sg} (hok : OKs s) {h m r : Nat} (hh : sN s ≤ h) : brn (sM (clo 10 s h)) m r = brn (sM (kwT s (h + 1 - sN s))) m r := by
  have a := clo_blk 10 s (sN s) h hok.1.n.2.2.2.1 (by omega) hok.2.1
  have b := kwT_B (s := s) (h + 1 - sN s)
  have e1 : tGet 3 (sM (clo 10 s h)) m 1 = tGet 3 (sM (kwT s (h + 1 - sN s))) m 1 := congrFun (a.1.trans b.2.2.2.2.2.symm) m
  have e0 : tGet 3 (sM (clo 10 s h)) m 0 = tGet 3 (sM (kwT s (h + 1 - sN s))) m 0 := (a.2 m).trans (b.2.2.2.2.1 m).symm
  unfold brn
  rw [e0, e1]
theorem Wf.xkwV {t : Nat} {s : Sg} (h : Wf s) : ∀ v, v ≤ (sV s).1 → Wf (kwV t s v)
  | 0, _ => h
  | v + 1, hv => by
    have i := Wf.xkwV (t := t) h v (by omega)
    rw [kwV]
    split
    · exact i.car (by rw [(kwV_all (by omega)).1]; omega)
    · exact i
theorem Wf.xkwT {s : Sg} (h : Wf s) : ∀ n, Wf (kwT s n)
  | 0 => h
  | n + 1 => by
    have i := Wf.xkwT h n
    rw [kwT]
    exact i.xkwV _ (by rw [(kwT_B n).1]; exact Nat.le_refl _)
