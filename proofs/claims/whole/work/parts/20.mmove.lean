theorem tSet_same {cols r c : Nat} {t : Tb} : tSet cols t r c (tGet cols t r c) = t := by
  show (t.1, va_up t.2 (r * cols + c) (t.2 (r * cols + c))) = t
  have : va_up t.2 (r * cols + c) (t.2 (r * cols + c)) = t.2 := by
    funext j
    by_cases h : j = r * cols + c
    · rw [h, up_same]
    · rw [up_ne _ _ h]
  rw [this]
theorem carM_0 {s : Sg} {v : Nat} : carM s v 0 = sM s := by
  unfold carM
  rw [Nat.sub_zero, tSet_same, Nat.add_zero, tSet_same]
theorem Wf.car {s : Sg} (h : Wf s) {v : Nat} (hv : v < (sV s).1) : Wf (carS s v) := by
  have hv0 := h.v hv
  have hf := h.m hv0.2.1
  unfold carS
  by_cases q : canM s v = true
  · rw [if_pos q]
    simp only [canM, decide_eq_true_eq] at q
    refine ⟨WfT.set (WfT.set h.1 (by decide) (show _ ≤ 12 by omega)) (by decide) (show _ ≤ 12 from ?_), h.2.1, h.2.2.1, h.2.2.2.1, h.2.2.2.2.1, h.2.2.2.2.2⟩
    rw [get_set (by decide) (by decide)]
    split <;> omega
  · rw [if_neg q, carM_0]
    exact h
theorem Wf.setM2 {s : Sg} (h : Wf s) {m v : Nat} (hv : v = NN ∨ v < (sP s).1) : Wf (uM s (tSet 3 (sM s) m 2 v)) := ⟨h.1.set (by decide) hv, h.2.1, h.2.2.1, h.2.2.2.1, h.2.2.2.2.1, h.2.2.2.2.2⟩
/-- what the reference does to one move, done and not done -/
def mvA (s : Sg) (v : Nat) : Sg := payS (carS s v) (tGet 5 (sV s) v 0) (if canM s v = true then 5 + 2 * tGet 5 (sV s) v 3 else 5)
def mvB (s : Sg) (v : Nat) : Sg := uM (mvA s v) (tSet 3 (sM (mvA s v)) (tGet 5 (sV s) v 1) 2 (if canM s v = true then tGet 5 (sV s) v 0 else tGet 3 (sM (mvA s v)) (tGet 5 (sV s) v 1) 2))
def mvC (s : Sg) (v : Nat) : Sg := uD (mvB s v) (sD (mvB s v) + (if canM s v = true then 1 else 0))
def mvD (s : Sg) (v : Nat) : Sg := uF (mvC s v) (sF (mvC s v) + (if canM s v = true then 0 else 1))
theorem mv_eq {s : Sg} {v : Nat} : uV (mvD s v) (tDel 5 (sV (mvD s v)) v) = clM s v := by
  unfold clM
  by_cases q : canM s v = true
  · have q2 := q
    simp only [canM, decide_eq_true_eq] at q2
    rw [if_neg (by omega)]
    unfold mvD mvC mvB mvA carS
    simp only [if_pos q]
    rfl
  · have q2 := q
    simp only [canM, decide_eq_true_eq] at q2
    rw [if_pos (by omega)]
    unfold mvD mvC mvB mvA carS
    simp only [if_neg q, carM_0, tSet_same]
    rfl
theorem mvA_wf {s : Sg} (h : Wf s) {v : Nat} (hv : v < (sV s).1) : Wf (mvA s v) := Wf.pay (h.car hv)
theorem mvB_wf {s : Sg} (h : Wf s) {v : Nat} (hv : v < (sV s).1) : Wf (mvB s v) := by
  refine (mvA_wf h hv).setM2 ?_
  by_cases q : canM s v = true
  · rw [if_pos q]; exact Or.inr (h.v hv).1
  · rw [if_neg q]; exact ((mvA_wf h hv).m (show tGet 5 (sV s) v 1 < (sM (mvA s v)).1 from (h.v hv).2.1)).2.2
theorem mvC_wf {s : Sg} (h : Wf s) {v : Nat} (hv : v < (sV s).1) : Wf (mvC s v) := mvB_wf h hv
theorem mvD_wf {s : Sg} (h : Wf s) {v : Nat} (hv : v < (sV s).1) : Wf (mvD s v) := mvB_wf h hv
theorem nxA_none {V : Tb} {t : Nat} : ∀ n, (∀ v, v < n → t + 1 ≤ tGet 5 V v 4) → nxA V t n = (none, t + 1)
  | 0, _ => rfl
  | n + 1, h => by
    rw [nxA, nxA_none n (fun v hv => h v (by omega)), if_neg (by have := h n (by omega); show ¬ tGet 5 V n 4 < t + 1; omega)]
theorem nxA_keep {V : Tb} {t v : Nat} : ∀ n, v < n → (∀ q, q < n → t ≤ tGet 5 V q 4) → tGet 5 V v 4 = t → (∀ q, q < v → tGet 5 V q 4 ≠ t) → nxA V t n = (some v, t)
  | 0, hv, _, _, _ => absurd hv (Nat.not_lt_zero _)
  | n + 1, hv, hg, he, hl => by
    by_cases q : v = n
    · subst q
      rw [nxA, nxA_none v (fun q hq => by have := hg q (by omega); have := hl q hq; omega), if_pos (by show tGet 5 V v 4 < t + 1; omega), he]
    · rw [nxA, nxA_keep n (by omega) (fun q hq => hg q (by omega)) he hl, if_neg (by have := hg n (by omega); show ¬ tGet 5 V n 4 < t; omega)]
theorem nxt_at {V : Tb} {t v : Nat} (hv : v < V.1) (hg : ∀ q, q < V.1 → t ≤ tGet 5 V q 4) (he : tGet 5 V v 4 = t) (hl : ∀ q, q < v → tGet 5 V q 4 ≠ t) : nxt V t = some v := by
  rw [nxt, nxA_keep V.1 hv hg he hl]
theorem nxt_no {V : Tb} {t : Nat} (h : ∀ v, v < V.1 → t + 1 ≤ tGet 5 V v 4) : nxt V t = none := by
  rw [nxt, nxA_none V.1 h]
/-- more rounds than open moves change nothing -/
theorem clo_more : ∀ (n : Nat) (s : Sg) (t : Nat), (sV s).1 ≤ n → ∀ k, clo (n + k) s t = clo n s t
  | 0, s, t, h, k => by
    have e : nxt (sV s) t = none := by
      cases q : nxt (sV s) t with
      | none => rfl
      | some v => have := nxt_lt q; omega
    rw [clo_none e, clo_none e]
  | n + 1, s, t, h, k => by
    cases q : nxt (sV s) t with
    | none => rw [clo_none q, clo_none q]
    | some v =>
      have hv := nxt_lt q
      rw [show n + 1 + k = (n + k) + 1 by omega, clo_some q, clo_some q]
      refine clo_more n (clM s v) t ?_ k
      rw [(clM_B s v).2.2.2.1]
      show (sV s).1 - 1 ≤ n
      omega
theorem clo_step {s : Sg} (hn : (sV s).1 ≤ 10) {t v : Nat} (e : nxt (sV s) t = some v) : clo 10 (clM s v) t = clo 10 s t := by
  have hv := nxt_lt e
  have h1 : (sV (clM s v)).1 ≤ 9 := by rw [(clM_B s v).2.2.2.1]; show (sV s).1 - 1 ≤ 9; omega
  rw [show (10 : Nat) = 9 + 1 from rfl, clo_some e]
  exact clo_more 9 (clM s v) t h1 1
theorem del_ge {V : Tb} {v t : Nat} (h : ∀ q, q < V.1 → t ≤ tGet 5 V q 4) : ∀ q, q < (tDel 5 V v).1 → t ≤ tGet 5 (tDel 5 V v) q 4 := by
  intro q hq
  have hq' : q < V.1 - 1 := hq
  rw [get_del hq' (by decide)]
  split
  · exact h _ (by omega)
  · exact h _ (by omega)
theorem del_lo {V : Tb} {v t : Nat} (hv : v < V.1) (h : ∀ q, q < v → tGet 5 V q 4 ≠ t) : ∀ q, q < v → q < (tDel 5 V v).1 → tGet 5 (tDel 5 V v) q 4 ≠ t := by
  intro q hq hq2
  rw [get_del hq2 (by decide), if_neg (by omega)]
  exact h q hq
theorem cd_X5_moveAll : kCardV yX5_moveAll cX5_moveAll 4 none 0 := ⟨⟨wc_X5_moveAll, wi_X5, by decide +kernel, by decide +kernel, rfl⟩, wk_X5_moveAll, ws_X5_moveAll⟩
set_option maxHeartbeats 4000000 in
set_option maxRecDepth 100000 in
theorem c_X5_moveAll (l : Launch) (D : va_G) (tA : Nat → ClassId) (m : Nat → Nat) (fs : List Value) (R : Nat → Nat) (s : Sg)  (hr : RB s R) (hw : Wf s) (hg : ∀ q, q < (sV s).1 → sN s ≤ tGet 5 (sV s) q 4) : Ky l D tA yX5_moveAll cX5_moveAll 4 none 2 46 [.ref (m 0)] (rW tA m fs R) (S := Nat → Nat) (fun R1 => RB (clo 10 s (sN s)) R1 ∧ Out R R1) (fun _ => none) (fun R1 => (rW tA m fs R1)) := by
  refine ky_void rfl (Nat.le_of_ble_eq_true rfl) (fun G X E => ?_)
  show J l D G 0 0 (rW tA m fs R) [(0, .ref (m 0))] 0 []
  have hn := hw.n
  refine j_iconst (pc := 0) X (v := (nI 0)) dX5_moveAll_0 (by decide) ?_
  refine j_istore_n (pc := 1) X (lv' := [(1, .int (nI 0)), (0, .ref (m 0))]) dX5_moveAll_1 rfl (by decide) rfl ?_
  have L_2 : ∀ (fu : Nat) (v : Nat) (R2 : Nat → Nat) (s2 : Sg), v ≤ (sV s2).1 → RB s2 R2 → Wf s2 → Out R R2 → (∀ q, q < (sV s2).1 → sN s ≤ tGet 5 (sV s2) q 4) → (∀ q, q < v → tGet 5 (sV s2) q 4 ≠ sN s) → sN s2 = sN s → clo 10 s2 (sN s) = clo 10 s (sN s) → (sV s2).1 - v < fu → J l D G 0 0 (rW tA m fs R2) [(0, .ref (m 0)), (1, .int (nI v))] 2 [] := by
    intro fu
    induction fu with
    | zero => intro v R2 s2 hv hr2 hw2 ho2 hg2 hl2 hN hc hfu; exact absurd hfu (Nat.not_lt_zero _)
    | succ fu ih_2 =>
      intro v R2 s2 hv hr2 hw2 ho2 hg2 hl2 hN hc hfu
      have hn2 := hw2.n
      refine j_iload_n (pc := 2) X dX5_moveAll_2 rfl (q := 1) rfl ?_
      refine j_aload_n (pc := 3) X dX5_moveAll_3 rfl (q := 0) rfl ?_
      refine j_get (pc := 4) X (C := RX5) (T := TX5) (N := 10) wz_X5 0 rfl rfl 0 (by decide) wf_X5_7 rfl dX5_moveAll_4 ?_
      refine j_iconst (pc := 7) X (v := (nI 4)) dX5_moveAll_7 (by decide) ?_
      refine j_iald (pc := 8) X 1 (i := 4) rfl (by omega) (by omega) dX5_moveAll_8 ?_
      refine j_top (v' := nI ((sV s2).1)) (congrArg nI (RB.n4 hr2)) ?_
      refine j_icmp_ge (pc := 9) X (tgt := 174) (P := ((sV s2).1) ≤ v) dX5_moveAll_9 (by decide) (nI_leI (by omega) (by omega)) (fun h9 => ?_) (fun h9 => ?_)
      · skip
        exact j_endVy (pc := 174) E dX5_moveAll_174 R2 (⟨by rw [← hc, clo_none (nxt_no (fun q hq => by have := hg2 q hq; have := hl2 q (by omega); omega))]; exact hr2, ho2⟩) rfl
      · skip
        have hm2 := hw2.v (show v < (sV s2).1 by omega)
        refine j_aload_n (pc := 12) X dX5_moveAll_12 rfl (q := 0) rfl ?_
        refine j_get (pc := 13) X (C := RX5) (T := TX5) (N := 10) wz_X5 0 rfl rfl 0 (by decide) wf_X5_7 rfl dX5_moveAll_13 ?_
        refine j_iload_n (pc := 16) X dX5_moveAll_16 rfl (q := 1) rfl ?_
        refine j_iconst (pc := 17) X (v := (nI 4)) dX5_moveAll_17 (by decide) ?_
        refine j_callSR (pc := 18) X (st := [.ref (m 1)])  (c_X5_ofMove l D tA v 4 ) cd_X5_ofMove wm_X5_88 rfl [] rfl rfl ⟨Nat.le_of_ble_eq_true rfl, Nat.le_of_ble_eq_true rfl⟩ ⟨Nat.zero_le _, Nat.zero_le _⟩ rfl (Nat.le_of_ble_eq_true rfl) dX5_moveAll_18 ?_
        refine j_iald (pc := 21) X 1 (i := (285 + 5 * v + 4)) rfl (by omega) (by omega) dX5_moveAll_21 ?_
        refine j_top (v' := nI (tGet 5 (sV s2) v 4)) (congrArg nI (RB.v hr2 (by omega) (by omega))) ?_
        refine j_aload_n (pc := 22) X dX5_moveAll_22 rfl (q := 0) rfl ?_
        refine j_get (pc := 23) X (C := RX5) (T := TX5) (N := 10) wz_X5 0 rfl rfl 0 (by decide) wf_X5_7 rfl dX5_moveAll_23 ?_
        refine j_iconst (pc := 26) X (v := (nI 0)) dX5_moveAll_26 (by decide) ?_
        refine j_iald (pc := 27) X 1 (i := 0) rfl (by omega) (by omega) dX5_moveAll_27 ?_
        refine j_top (v' := nI (sN s2)) (congrArg nI (RB.n0 hr2)) ?_
        refine j_icmp_ne (pc := 28) X (tgt := 168) (P := ¬ (tGet 5 (sV s2) v 4) = (sN s2)) dX5_moveAll_28 (by decide) (not_congr (nI_eq (by omega) (by omega))) (fun h28 => ?_) (fun h28 => ?_)
        · skip
          refine j_iinc (pc := 168) X (v := (nI (v + 1))) (lv' := [(1, .int (nI (v + 1))), (0, .ref (m 0))]) dX5_moveAll_168 (q := 1) rfl (nI_add _ _) (by decide) rfl ?_
          refine j_goto (pc := 171) X (tgt := 2) dX5_moveAll_171 (by decide) ?_
          refine j_lv X (lv' := [(0, .ref (m 0)), (1, .int (nI (v + 1)))]) [1, 0] rfl ?_
          exact ih_2 (v + 1) R2 s2 (by omega) hr2 hw2 ho2 hg2 (fun q hq => by rcases Nat.lt_or_ge q v with z | z; exact hl2 q z; rw [show q = v by omega, ← hN]; exact h28) hN hc (by omega)
        · skip
          refine j_aload_n (pc := 31) X dX5_moveAll_31 rfl (q := 0) rfl ?_
          refine j_iload_n (pc := 32) X dX5_moveAll_32 rfl (q := 1) rfl ?_
          refine j_callVy (pc := 33) X (st := []) (w' := fun R33 => (rW tA m fs R33)) (c_X5_carry l D tA m fs R2 s2 v hr2 hw2 (show v < (sV s2).1 by omega)) cd_X5_carry wm_X5_98 0 rfl rfl rfl [0, 1] rfl rfl (fun _ => rw_fst) (fun _ => rfl) ⟨Nat.le_of_ble_eq_true rfl, Nat.le_of_ble_eq_true rfl⟩ ⟨Nat.zero_le _, Nat.zero_le _⟩ rfl (Nat.le_of_ble_eq_true rfl) dX5_moveAll_33 (fun R33 hu33 => ?_)
          obtain ⟨hr33, ho33⟩ := hu33
          have hwa : Wf (carS s2 v) := hw2.car (show v < (sV s2).1 by omega)
          have hwA := mvA_wf hw2 (show v < (sV s2).1 by omega)
          have hwB := mvB_wf hw2 (show v < (sV s2).1 by omega)
          have hwC := mvC_wf hw2 (show v < (sV s2).1 by omega)
          have hwD := mvD_wf hw2 (show v < (sV s2).1 by omega)
          refine j_istore_n (pc := 36) X (lv' := [(2, .int (bI (canM s2 v))), (0, .ref (m 0)), (1, .int (nI v))]) dX5_moveAll_36 rfl (by decide) rfl ?_
          refine j_aload_n (pc := 37) X dX5_moveAll_37 rfl (q := 1) rfl ?_
          refine j_get (pc := 38) X (C := RX5) (T := TX5) (N := 10) wz_X5 0 rfl rfl 0 (by decide) wf_X5_7 rfl dX5_moveAll_38 ?_
          refine j_iload_n (pc := 41) X dX5_moveAll_41 rfl (q := 2) rfl ?_
          refine j_iconst (pc := 42) X (v := (nI 0)) dX5_moveAll_42 (by decide) ?_
          refine j_callSR (pc := 43) X (st := [.ref (m 1)])  (c_X5_ofMove l D tA v 0 ) cd_X5_ofMove wm_X5_88 rfl [] rfl rfl ⟨Nat.le_of_ble_eq_true rfl, Nat.le_of_ble_eq_true rfl⟩ ⟨Nat.zero_le _, Nat.zero_le _⟩ rfl (Nat.le_of_ble_eq_true rfl) dX5_moveAll_43 ?_
          refine j_iald (pc := 46) X 1 (i := (285 + 5 * v + 0)) rfl (by omega) (by omega) dX5_moveAll_46 ?_
          refine j_top (v' := nI (tGet 5 (sV (carS s2 v)) v 0)) (congrArg nI (RB.v hr33 (show v < (sV s2).1 by omega) (by omega))) ?_
          refine j_istore_n (pc := 47) X (lv' := [(3, .int (nI (tGet 5 (sV (carS s2 v)) v 0))), (2, .int (bI (canM s2 v))), (0, .ref (m 0)), (1, .int (nI v))]) dX5_moveAll_47 rfl (by decide) rfl ?_
          refine j_aload_n (pc := 48) X dX5_moveAll_48 rfl (q := 2) rfl ?_
          refine j_iload_n (pc := 49) X dX5_moveAll_49 rfl (q := 0) rfl ?_
          refine j_iload_n (pc := 50) X dX5_moveAll_50 rfl (q := 1) rfl ?_
          refine j_if_eq (pc := 51) X (tgt := 71) (P := (canM s2 v) = false) dX5_moveAll_51 (by decide) (bI_0 _) (fun h51 => ?_) (fun h51 => ?_)
          · skip
            refine j_iconst (pc := 71) X (v := (nI 5)) dX5_moveAll_71 (by decide) ?_
            refine j_callVy (pc := 72) X (st := []) (w' := fun R72 => (rW tA m fs R72)) (c_X5_pay l D tA m fs R33 (carS s2 v) (tGet 5 (sV (carS s2 v)) v 0) 5 hr33 hwa (show tGet 5 (sV s2) v 0 < (sP s2).1 from (hw2.v (show v < (sV s2).1 by omega)).1)) cd_X5_pay wm_X5_82 0 rfl rfl rfl [0, 1] rfl rfl (fun _ => rw_fst) (fun _ => rfl) ⟨Nat.le_of_ble_eq_true rfl, Nat.le_of_ble_eq_true rfl⟩ ⟨Nat.zero_le _, Nat.zero_le _⟩ rfl (Nat.le_of_ble_eq_true rfl) dX5_moveAll_72 (fun R72 hu72 => ?_)
            obtain ⟨hr72, ho72⟩ := hu72
            have hrA : RB (mvA s2 v) R72 := by have z := hr72; unfold mvA; rw [if_neg (nf5 h51)]; exact z
            refine j_aload_n (pc := 75) X dX5_moveAll_75 rfl (q := 2) rfl ?_
            refine j_get (pc := 76) X (C := RX5) (T := TX5) (N := 10) wz_X5 0 rfl rfl 0 (by decide) wf_X5_7 rfl dX5_moveAll_76 ?_
            refine j_aload_n (pc := 79) X dX5_moveAll_79 rfl (q := 2) rfl ?_
            refine j_get (pc := 80) X (C := RX5) (T := TX5) (N := 10) wz_X5 0 rfl rfl 0 (by decide) wf_X5_7 rfl dX5_moveAll_80 ?_
            refine j_iload_n (pc := 83) X dX5_moveAll_83 rfl (q := 3) rfl ?_
            refine j_iconst (pc := 84) X (v := (nI 1)) dX5_moveAll_84 (by decide) ?_
            refine j_callSR (pc := 85) X (st := [.ref (m 1), .ref (m 1)])  (c_X5_ofMove l D tA v 1 ) cd_X5_ofMove wm_X5_88 rfl [] rfl rfl ⟨Nat.le_of_ble_eq_true rfl, Nat.le_of_ble_eq_true rfl⟩ ⟨Nat.zero_le _, Nat.zero_le _⟩ rfl (Nat.le_of_ble_eq_true rfl) dX5_moveAll_85 ?_
            refine j_iald (pc := 88) X 1 (i := (285 + 5 * v + 1)) rfl (by omega) (by omega) dX5_moveAll_88 ?_
            refine j_top (v' := nI (tGet 5 (sV (mvA s2 v)) v 1)) (congrArg nI (RB.v hrA (show v < (sV s2).1 by omega) (by omega))) ?_
            refine j_top (v' := nI (tGet 5 (sV s2) v 1)) rfl ?_
            refine j_iconst (pc := 89) X (v := (nI 2)) dX5_moveAll_89 (by decide) ?_
            refine j_callSR (pc := 90) X (st := [.ref (m 1)])  (c_X5_of l D tA (tGet 5 (sV s2) v 1) 2 ) cd_X5_of wm_X5_38 rfl [] rfl rfl ⟨Nat.le_of_ble_eq_true rfl, Nat.le_of_ble_eq_true rfl⟩ ⟨Nat.zero_le _, Nat.zero_le _⟩ rfl (Nat.le_of_ble_eq_true rfl) dX5_moveAll_90 ?_
            refine j_iload_n (pc := 93) X dX5_moveAll_93 rfl (q := 1) rfl ?_
            refine j_if_eq_t (pc := 94) X (tgt := 103) dX5_moveAll_94 (by decide) ((bI_0 _).mpr h51) ?_
            refine j_aload_n (pc := 103) X dX5_moveAll_103 rfl (q := 2) rfl ?_
            refine j_get (pc := 104) X (C := RX5) (T := TX5) (N := 10) wz_X5 0 rfl rfl 0 (by decide) wf_X5_7 rfl dX5_moveAll_104 ?_
            refine j_aload_n (pc := 107) X dX5_moveAll_107 rfl (q := 2) rfl ?_
            refine j_get (pc := 108) X (C := RX5) (T := TX5) (N := 10) wz_X5 0 rfl rfl 0 (by decide) wf_X5_7 rfl dX5_moveAll_108 ?_
            refine j_iload_n (pc := 111) X dX5_moveAll_111 rfl (q := 3) rfl ?_
            refine j_iconst (pc := 112) X (v := (nI 1)) dX5_moveAll_112 (by decide) ?_
            refine j_callSR (pc := 113) X (st := [.ref (m 1), .ref (m 1), .int (nI (9 + 4 * (tGet 5 (sV s2) v 1) + 2)), .ref (m 1)])  (c_X5_ofMove l D tA v 1 ) cd_X5_ofMove wm_X5_88 rfl [] rfl rfl ⟨Nat.le_of_ble_eq_true rfl, Nat.le_of_ble_eq_true rfl⟩ ⟨Nat.zero_le _, Nat.zero_le _⟩ rfl (Nat.le_of_ble_eq_true rfl) dX5_moveAll_113 ?_
            refine j_iald (pc := 116) X 1 (i := (285 + 5 * v + 1)) rfl (by omega) (by omega) dX5_moveAll_116 ?_
            refine j_top (v' := nI (tGet 5 (sV (mvA s2 v)) v 1)) (congrArg nI (RB.v hrA (show v < (sV s2).1 by omega) (by omega))) ?_
            refine j_top (v' := nI (tGet 5 (sV s2) v 1)) rfl ?_
            refine j_iconst (pc := 117) X (v := (nI 2)) dX5_moveAll_117 (by decide) ?_
            refine j_callSR (pc := 118) X (st := [.ref (m 1), .int (nI (9 + 4 * (tGet 5 (sV s2) v 1) + 2)), .ref (m 1)])  (c_X5_of l D tA (tGet 5 (sV s2) v 1) 2 ) cd_X5_of wm_X5_38 rfl [] rfl rfl ⟨Nat.le_of_ble_eq_true rfl, Nat.le_of_ble_eq_true rfl⟩ ⟨Nat.zero_le _, Nat.zero_le _⟩ rfl (Nat.le_of_ble_eq_true rfl) dX5_moveAll_118 ?_
            refine j_iald (pc := 121) X 1 (i := (9 + 4 * (tGet 5 (sV s2) v 1) + 2)) rfl (by omega) (by omega) dX5_moveAll_121 ?_
            refine j_top (v' := nI (enc (tGet 3 (sM (mvA s2 v)) (tGet 5 (sV s2) v 1) 2))) (congrArg nI (RB.m2 hrA (show tGet 5 (sV s2) v 1 < (sM s2).1 from (hw2.v (show v < (sV s2).1 by omega)).2.1))) ?_
            refine j_iast (pc := 122) X 1 (i := (9 + 4 * (tGet 5 (sV s2) v 1) + 2)) (v := (enc (tGet 3 (sM (mvA s2 v)) (tGet 5 (sV s2) v 1) 2))) rfl (by have : tGet 5 (sV s2) v 1 < (sM s2).1 := hm2.2.1; show 9 + 4 * (tGet 5 (sV s2) v 1) + 2 < 3745; omega) (by omega) (w' := (rW tA m fs (va_up R72 (9 + 4 * (tGet 5 (sV s2) v 1) + 2) (enc (tGet 3 (sM (mvA s2 v)) (tGet 5 (sV s2) v 1) 2))))) rfl dX5_moveAll_122 ?_
            have hrB : RB (mvB s2 v) (va_up R72 (9 + 4 * (tGet 5 (sV s2) v 1) + 2) (enc (tGet 3 (sM (mvA s2 v)) (tGet 5 (sV s2) v 1) 2))) := by
                      have z := RB.setM2 (v := tGet 3 (sM (mvA s2 v)) (tGet 5 (sV s2) v 1) 2) hrA hwA (show tGet 5 (sV s2) v 1 < (sM s2).1 from (hw2.v (show v < (sV s2).1 by omega)).2.1)
                      unfold mvB; rw [if_neg (nf5 h51)]; exact z
            refine j_aload_n (pc := 123) X dX5_moveAll_123 rfl (q := 2) rfl ?_
            refine j_get (pc := 124) X (C := RX5) (T := TX5) (N := 10) wz_X5 0 rfl rfl 0 (by decide) wf_X5_7 rfl dX5_moveAll_124 ?_
            refine j_iconst (pc := 127) X (v := (nI 5)) dX5_moveAll_127 (by decide) ?_
            refine j_dup2 (pc := 128) X dX5_moveAll_128 rfl rfl ?_
            refine j_iald (pc := 129) X 1 (i := 5) rfl (by omega) (by omega) dX5_moveAll_129 ?_
            refine j_top (v' := nI (sD (mvB s2 v))) (congrArg nI (RB.n5 hrB)) ?_
            refine j_iload_n (pc := 130) X dX5_moveAll_130 rfl (q := 1) rfl ?_
            refine j_if_eq_t (pc := 131) X (tgt := 138) dX5_moveAll_131 (by decide) ((bI_0 _).mpr h51) ?_
            refine j_iconst (pc := 138) X (v := (nI 0)) dX5_moveAll_138 (by decide) ?_
            refine j_iadd (pc := 139) X (v := (nI ((sD (mvB s2 v)) + 0))) dX5_moveAll_139 (nI_add _ _) ?_
            refine j_iast (pc := 140) X 1 (i := 5) (v := ((sD (mvB s2 v)) + 0)) rfl (by omega) (by omega) (w' := (rW tA m fs (va_up (va_up R72 (9 + 4 * (tGet 5 (sV s2) v 1) + 2) (enc (tGet 3 (sM (mvA s2 v)) (tGet 5 (sV s2) v 1) 2))) 5 ((sD (mvB s2 v)) + 0)))) rfl dX5_moveAll_140 ?_
            have hrC : RB (mvC s2 v) (va_up (va_up R72 (9 + 4 * (tGet 5 (sV s2) v 1) + 2) (enc (tGet 3 (sM (mvA s2 v)) (tGet 5 (sV s2) v 1) 2))) 5 ((sD (mvB s2 v)) + 0)) := by have z := RB.lowD (v := sD (mvB s2 v) + 0) hrB hwB; unfold mvC; rw [if_neg (nf5 h51)]; exact z
            refine j_aload_n (pc := 141) X dX5_moveAll_141 rfl (q := 2) rfl ?_
            refine j_get (pc := 142) X (C := RX5) (T := TX5) (N := 10) wz_X5 0 rfl rfl 0 (by decide) wf_X5_7 rfl dX5_moveAll_142 ?_
            refine j_bipush (pc := 145) X (v := (nI 6)) dX5_moveAll_145 (by decide) ?_
            refine j_dup2 (pc := 147) X dX5_moveAll_147 rfl rfl ?_
            refine j_iald (pc := 148) X 1 (i := 6) rfl (by omega) (by omega) dX5_moveAll_148 ?_
            refine j_top (v' := nI (sF (mvC s2 v))) (congrArg nI (RB.n6 hrC)) ?_
            refine j_iload_n (pc := 149) X dX5_moveAll_149 rfl (q := 1) rfl ?_
            refine j_if_eq_t (pc := 150) X (tgt := 157) dX5_moveAll_150 (by decide) ((bI_0 _).mpr h51) ?_
            refine j_iconst (pc := 157) X (v := (nI 1)) dX5_moveAll_157 (by decide) ?_
            refine j_iadd (pc := 158) X (v := (nI ((sF (mvC s2 v)) + 1))) dX5_moveAll_158 (nI_add _ _) ?_
            refine j_iast (pc := 159) X 1 (i := 6) (v := ((sF (mvC s2 v)) + 1)) rfl (by omega) (by omega) (w' := (rW tA m fs (va_up (va_up (va_up R72 (9 + 4 * (tGet 5 (sV s2) v 1) + 2) (enc (tGet 3 (sM (mvA s2 v)) (tGet 5 (sV s2) v 1) 2))) 5 ((sD (mvB s2 v)) + 0)) 6 ((sF (mvC s2 v)) + 1)))) rfl dX5_moveAll_159 ?_
            have hrD : RB (mvD s2 v) (va_up (va_up (va_up R72 (9 + 4 * (tGet 5 (sV s2) v 1) + 2) (enc (tGet 3 (sM (mvA s2 v)) (tGet 5 (sV s2) v 1) 2))) 5 ((sD (mvB s2 v)) + 0)) 6 ((sF (mvC s2 v)) + 1)) := by have z := RB.lowF (v := sF (mvC s2 v) + 1) hrC hwC; unfold mvD; rw [if_neg (nf5 h51)]; exact z
            refine j_aload_n (pc := 160) X dX5_moveAll_160 rfl (q := 2) rfl ?_
            refine j_iload_n (pc := 161) X dX5_moveAll_161 rfl (q := 3) rfl ?_
            refine j_callVy (pc := 162) X (st := []) (w' := fun R162 => (rW tA m fs R162)) (c_X5_close l D tA m fs (va_up (va_up (va_up R72 (9 + 4 * (tGet 5 (sV s2) v 1) + 2) (enc (tGet 3 (sM (mvA s2 v)) (tGet 5 (sV s2) v 1) 2))) 5 ((sD (mvB s2 v)) + 0)) 6 ((sF (mvC s2 v)) + 1)) (mvD s2 v) v hrD hwD (show v < (sV s2).1 by omega)) cd_X5_close wm_X5_94 0 rfl rfl rfl [0, 1] rfl rfl (fun _ => rw_fst) (fun _ => rfl) ⟨Nat.le_of_ble_eq_true rfl, Nat.le_of_ble_eq_true rfl⟩ ⟨Nat.zero_le _, Nat.zero_le _⟩ rfl (Nat.le_of_ble_eq_true rfl) dX5_moveAll_162 (fun R162 hu162 => ?_)
            obtain ⟨hr162, ho162⟩ := hu162
            refine j_goto (pc := 165) X (tgt := 2) dX5_moveAll_165 (by decide) ?_
            have hdec : (sV (clM s2 v)).1 - v < (sV s2).1 - v := by rw [(clM_B s2 v).2.2.2.1]; show (sV s2).1 - 1 - v < _; omega
            refine j_lv X (lv' := [(0, .ref (m 0)), (1, .int (nI v))]) [2, 3] rfl ?_
            exact ih_2 v R162 (clM s2 v) (by rw [(clM_B s2 v).2.2.2.1]; show v ≤ (sV s2).1 - 1; omega) (mv_eq ▸ hr162) (hw2.xclM (show v < (sV s2).1 by omega)) (Out.tr (Out.up (Out.up (Out.up (Out.tr (Out.tr ho2 ho33) ho72) (by omega)) (by omega)) (by omega)) ho162) (by rw [(clM_B s2 v).2.2.2.1]; exact del_ge hg2) (by rw [(clM_B s2 v).2.2.2.1]; exact fun q hq => del_lo (show v < (sV s2).1 by omega) hl2 q hq (show q < (sV s2).1 - 1 by omega)) ((clM_B s2 v).2.1.trans hN) (by rw [clo_step hn2.2.2.2.1 (nxt_at (show v < (sV s2).1 by omega) hg2 (by have := Decidable.not_not.mp h28; omega) hl2)]; exact hc) (by omega)
          · skip
            refine j_iconst (pc := 54) X (v := (nI 5)) dX5_moveAll_54 (by decide) ?_
            refine j_iconst (pc := 55) X (v := (nI 2)) dX5_moveAll_55 (by decide) ?_
            refine j_aload_n (pc := 56) X dX5_moveAll_56 rfl (q := 2) rfl ?_
            refine j_get (pc := 57) X (C := RX5) (T := TX5) (N := 10) wz_X5 0 rfl rfl 0 (by decide) wf_X5_7 rfl dX5_moveAll_57 ?_
            refine j_iload_n (pc := 60) X dX5_moveAll_60 rfl (q := 3) rfl ?_
            refine j_iconst (pc := 61) X (v := (nI 3)) dX5_moveAll_61 (by decide) ?_
            refine j_callSR (pc := 62) X (st := [.ref (m 1), .int (nI 2), .int (nI 5), .int (nI (tGet 5 (sV (carS s2 v)) v 0)), .ref (m 0)])  (c_X5_ofMove l D tA v 3 ) cd_X5_ofMove wm_X5_88 rfl [] rfl rfl ⟨Nat.le_of_ble_eq_true rfl, Nat.le_of_ble_eq_true rfl⟩ ⟨Nat.zero_le _, Nat.zero_le _⟩ rfl (Nat.le_of_ble_eq_true rfl) dX5_moveAll_62 ?_
            refine j_iald (pc := 65) X 1 (i := (285 + 5 * v + 3)) rfl (by omega) (by omega) dX5_moveAll_65 ?_
            refine j_top (v' := nI (tGet 5 (sV (carS s2 v)) v 3)) (congrArg nI (RB.v hr33 (show v < (sV s2).1 by omega) (by omega))) ?_
            refine j_imul (pc := 66) X (v := (nI (2 * (tGet 5 (sV (carS s2 v)) v 3)))) dX5_moveAll_66 (pk_mul _ _) ?_
            refine j_iadd (pc := 67) X (v := (nI (5 + (2 * (tGet 5 (sV (carS s2 v)) v 3))))) dX5_moveAll_67 (nI_add _ _) ?_
            refine j_goto (pc := 68) X (tgt := 72) dX5_moveAll_68 (by decide) ?_
            refine j_callVy (pc := 72) X (st := []) (w' := fun R72 => (rW tA m fs R72)) (c_X5_pay l D tA m fs R33 (carS s2 v) (tGet 5 (sV (carS s2 v)) v 0) (5 + (2 * (tGet 5 (sV (carS s2 v)) v 3))) hr33 hwa (show tGet 5 (sV s2) v 0 < (sP s2).1 from (hw2.v (show v < (sV s2).1 by omega)).1)) cd_X5_pay wm_X5_82 0 rfl rfl rfl [0, 1] rfl rfl (fun _ => rw_fst) (fun _ => rfl) ⟨Nat.le_of_ble_eq_true rfl, Nat.le_of_ble_eq_true rfl⟩ ⟨Nat.zero_le _, Nat.zero_le _⟩ rfl (Nat.le_of_ble_eq_true rfl) dX5_moveAll_72 (fun R72 hu72 => ?_)
            obtain ⟨hr72, ho72⟩ := hu72
            have hrA : RB (mvA s2 v) R72 := by have z := hr72; unfold mvA; rw [if_pos (t5 h51)]; exact z
            refine j_aload_n (pc := 75) X dX5_moveAll_75 rfl (q := 2) rfl ?_
            refine j_get (pc := 76) X (C := RX5) (T := TX5) (N := 10) wz_X5 0 rfl rfl 0 (by decide) wf_X5_7 rfl dX5_moveAll_76 ?_
            refine j_aload_n (pc := 79) X dX5_moveAll_79 rfl (q := 2) rfl ?_
            refine j_get (pc := 80) X (C := RX5) (T := TX5) (N := 10) wz_X5 0 rfl rfl 0 (by decide) wf_X5_7 rfl dX5_moveAll_80 ?_
            refine j_iload_n (pc := 83) X dX5_moveAll_83 rfl (q := 3) rfl ?_
            refine j_iconst (pc := 84) X (v := (nI 1)) dX5_moveAll_84 (by decide) ?_
            refine j_callSR (pc := 85) X (st := [.ref (m 1), .ref (m 1)])  (c_X5_ofMove l D tA v 1 ) cd_X5_ofMove wm_X5_88 rfl [] rfl rfl ⟨Nat.le_of_ble_eq_true rfl, Nat.le_of_ble_eq_true rfl⟩ ⟨Nat.zero_le _, Nat.zero_le _⟩ rfl (Nat.le_of_ble_eq_true rfl) dX5_moveAll_85 ?_
            refine j_iald (pc := 88) X 1 (i := (285 + 5 * v + 1)) rfl (by omega) (by omega) dX5_moveAll_88 ?_
            refine j_top (v' := nI (tGet 5 (sV (mvA s2 v)) v 1)) (congrArg nI (RB.v hrA (show v < (sV s2).1 by omega) (by omega))) ?_
            refine j_top (v' := nI (tGet 5 (sV s2) v 1)) rfl ?_
            refine j_iconst (pc := 89) X (v := (nI 2)) dX5_moveAll_89 (by decide) ?_
            refine j_callSR (pc := 90) X (st := [.ref (m 1)])  (c_X5_of l D tA (tGet 5 (sV s2) v 1) 2 ) cd_X5_of wm_X5_38 rfl [] rfl rfl ⟨Nat.le_of_ble_eq_true rfl, Nat.le_of_ble_eq_true rfl⟩ ⟨Nat.zero_le _, Nat.zero_le _⟩ rfl (Nat.le_of_ble_eq_true rfl) dX5_moveAll_90 ?_
            refine j_iload_n (pc := 93) X dX5_moveAll_93 rfl (q := 1) rfl ?_
            refine j_if_eq_f (pc := 94) X (tgt := 103) dX5_moveAll_94 (by decide) (mt (bI_0 _).mp h51) ?_
            refine j_iload_n (pc := 97) X dX5_moveAll_97 rfl (q := 0) rfl ?_
            refine j_iconst (pc := 98) X (v := (nI 1)) dX5_moveAll_98 (by decide) ?_
            refine j_iadd (pc := 99) X (v := (nI ((tGet 5 (sV (carS s2 v)) v 0) + 1))) dX5_moveAll_99 (nI_add _ _) ?_
            refine j_goto (pc := 100) X (tgt := 122) dX5_moveAll_100 (by decide) ?_
            refine j_iast (pc := 122) X 1 (i := (9 + 4 * (tGet 5 (sV s2) v 1) + 2)) (v := ((tGet 5 (sV (carS s2 v)) v 0) + 1)) rfl (by have : tGet 5 (sV s2) v 1 < (sM s2).1 := hm2.2.1; show 9 + 4 * (tGet 5 (sV s2) v 1) + 2 < 3745; omega) (by omega) (w' := (rW tA m fs (va_up R72 (9 + 4 * (tGet 5 (sV s2) v 1) + 2) ((tGet 5 (sV (carS s2 v)) v 0) + 1)))) rfl dX5_moveAll_122 ?_
            have hrB : RB (mvB s2 v) (va_up R72 (9 + 4 * (tGet 5 (sV s2) v 1) + 2) ((tGet 5 (sV (carS s2 v)) v 0) + 1)) := by
                      have z := RB.setM2 (v := tGet 5 (sV s2) v 0) hrA hwA (show tGet 5 (sV s2) v 1 < (sM s2).1 from (hw2.v (show v < (sV s2).1 by omega)).2.1)
                      unfold mvB; rw [if_pos (t5 h51)]; rw [enc_n (Nat.lt_of_lt_of_le (show tGet 5 (sV s2) v 0 < (sP s2).1 from (hw2.v (show v < (sV s2).1 by omega)).1) hn2.2.1)] at z; exact z
            refine j_aload_n (pc := 123) X dX5_moveAll_123 rfl (q := 2) rfl ?_
            refine j_get (pc := 124) X (C := RX5) (T := TX5) (N := 10) wz_X5 0 rfl rfl 0 (by decide) wf_X5_7 rfl dX5_moveAll_124 ?_
            refine j_iconst (pc := 127) X (v := (nI 5)) dX5_moveAll_127 (by decide) ?_
            refine j_dup2 (pc := 128) X dX5_moveAll_128 rfl rfl ?_
            refine j_iald (pc := 129) X 1 (i := 5) rfl (by omega) (by omega) dX5_moveAll_129 ?_
            refine j_top (v' := nI (sD (mvB s2 v))) (congrArg nI (RB.n5 hrB)) ?_
            refine j_iload_n (pc := 130) X dX5_moveAll_130 rfl (q := 1) rfl ?_
            refine j_if_eq_f (pc := 131) X (tgt := 138) dX5_moveAll_131 (by decide) (mt (bI_0 _).mp h51) ?_
            refine j_iconst (pc := 134) X (v := (nI 1)) dX5_moveAll_134 (by decide) ?_
            refine j_goto (pc := 135) X (tgt := 139) dX5_moveAll_135 (by decide) ?_
            refine j_iadd (pc := 139) X (v := (nI ((sD (mvB s2 v)) + 1))) dX5_moveAll_139 (nI_add _ _) ?_
            refine j_iast (pc := 140) X 1 (i := 5) (v := ((sD (mvB s2 v)) + 1)) rfl (by omega) (by omega) (w' := (rW tA m fs (va_up (va_up R72 (9 + 4 * (tGet 5 (sV s2) v 1) + 2) ((tGet 5 (sV (carS s2 v)) v 0) + 1)) 5 ((sD (mvB s2 v)) + 1)))) rfl dX5_moveAll_140 ?_
            have hrC : RB (mvC s2 v) (va_up (va_up R72 (9 + 4 * (tGet 5 (sV s2) v 1) + 2) ((tGet 5 (sV (carS s2 v)) v 0) + 1)) 5 ((sD (mvB s2 v)) + 1)) := by have z := RB.lowD (v := sD (mvB s2 v) + 1) hrB hwB; unfold mvC; rw [if_pos (t5 h51)]; exact z
            refine j_aload_n (pc := 141) X dX5_moveAll_141 rfl (q := 2) rfl ?_
            refine j_get (pc := 142) X (C := RX5) (T := TX5) (N := 10) wz_X5 0 rfl rfl 0 (by decide) wf_X5_7 rfl dX5_moveAll_142 ?_
            refine j_bipush (pc := 145) X (v := (nI 6)) dX5_moveAll_145 (by decide) ?_
            refine j_dup2 (pc := 147) X dX5_moveAll_147 rfl rfl ?_
            refine j_iald (pc := 148) X 1 (i := 6) rfl (by omega) (by omega) dX5_moveAll_148 ?_
            refine j_top (v' := nI (sF (mvC s2 v))) (congrArg nI (RB.n6 hrC)) ?_
            refine j_iload_n (pc := 149) X dX5_moveAll_149 rfl (q := 1) rfl ?_
            refine j_if_eq_f (pc := 150) X (tgt := 157) dX5_moveAll_150 (by decide) (mt (bI_0 _).mp h51) ?_
            refine j_iconst (pc := 153) X (v := (nI 0)) dX5_moveAll_153 (by decide) ?_
            refine j_goto (pc := 154) X (tgt := 158) dX5_moveAll_154 (by decide) ?_
            refine j_iadd (pc := 158) X (v := (nI ((sF (mvC s2 v)) + 0))) dX5_moveAll_158 (nI_add _ _) ?_
            refine j_iast (pc := 159) X 1 (i := 6) (v := ((sF (mvC s2 v)) + 0)) rfl (by omega) (by omega) (w' := (rW tA m fs (va_up (va_up (va_up R72 (9 + 4 * (tGet 5 (sV s2) v 1) + 2) ((tGet 5 (sV (carS s2 v)) v 0) + 1)) 5 ((sD (mvB s2 v)) + 1)) 6 ((sF (mvC s2 v)) + 0)))) rfl dX5_moveAll_159 ?_
            have hrD : RB (mvD s2 v) (va_up (va_up (va_up R72 (9 + 4 * (tGet 5 (sV s2) v 1) + 2) ((tGet 5 (sV (carS s2 v)) v 0) + 1)) 5 ((sD (mvB s2 v)) + 1)) 6 ((sF (mvC s2 v)) + 0)) := by have z := RB.lowF (v := sF (mvC s2 v) + 0) hrC hwC; unfold mvD; rw [if_pos (t5 h51)]; exact z
            refine j_aload_n (pc := 160) X dX5_moveAll_160 rfl (q := 2) rfl ?_
            refine j_iload_n (pc := 161) X dX5_moveAll_161 rfl (q := 3) rfl ?_
            refine j_callVy (pc := 162) X (st := []) (w' := fun R162 => (rW tA m fs R162)) (c_X5_close l D tA m fs (va_up (va_up (va_up R72 (9 + 4 * (tGet 5 (sV s2) v 1) + 2) ((tGet 5 (sV (carS s2 v)) v 0) + 1)) 5 ((sD (mvB s2 v)) + 1)) 6 ((sF (mvC s2 v)) + 0)) (mvD s2 v) v hrD hwD (show v < (sV s2).1 by omega)) cd_X5_close wm_X5_94 0 rfl rfl rfl [0, 1] rfl rfl (fun _ => rw_fst) (fun _ => rfl) ⟨Nat.le_of_ble_eq_true rfl, Nat.le_of_ble_eq_true rfl⟩ ⟨Nat.zero_le _, Nat.zero_le _⟩ rfl (Nat.le_of_ble_eq_true rfl) dX5_moveAll_162 (fun R162 hu162 => ?_)
            obtain ⟨hr162, ho162⟩ := hu162
            refine j_goto (pc := 165) X (tgt := 2) dX5_moveAll_165 (by decide) ?_
            have hdec : (sV (clM s2 v)).1 - v < (sV s2).1 - v := by rw [(clM_B s2 v).2.2.2.1]; show (sV s2).1 - 1 - v < _; omega
            refine j_lv X (lv' := [(0, .ref (m 0)), (1, .int (nI v))]) [2, 3] rfl ?_
            exact ih_2 v R162 (clM s2 v) (by rw [(clM_B s2 v).2.2.2.1]; show v ≤ (sV s2).1 - 1; omega) (mv_eq ▸ hr162) (hw2.xclM (show v < (sV s2).1 by omega)) (Out.tr (Out.up (Out.up (Out.up (Out.tr (Out.tr ho2 ho33) ho72) (by omega)) (by omega)) (by omega)) ho162) (by rw [(clM_B s2 v).2.2.2.1]; exact del_ge hg2) (by rw [(clM_B s2 v).2.2.2.1]; exact fun q hq => del_lo (show v < (sV s2).1 by omega) hl2 q hq (show q < (sV s2).1 - 1 by omega)) ((clM_B s2 v).2.1.trans hN) (by rw [clo_step hn2.2.2.2.1 (nxt_at (show v < (sV s2).1 by omega) hg2 (by have := Decidable.not_not.mp h28; omega) hl2)]; exact hc) (by omega)
  refine j_lv X (lv' := [(0, .ref (m 0)), (1, .int (nI 0))]) [1, 0] rfl ?_
  exact L_2 _ 0 R s (Nat.zero_le _) hr hw Out.rf hg (fun q hq => absurd hq (Nat.not_lt_zero _)) rfl rfl (Nat.lt_succ_self _)
