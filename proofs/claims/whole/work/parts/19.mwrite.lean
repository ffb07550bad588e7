theorem cd_X5_pay : kCardV yX5_pay cX5_pay 3 none 2 := ⟨⟨wc_X5_pay, wi_X5, by decide +kernel, by decide +kernel, rfl⟩, wk_X5_pay, ws_X5_pay⟩
set_option maxHeartbeats 4000000 in
set_option maxRecDepth 100000 in
theorem c_X5_pay (l : Launch) (D : va_G) (tA : Nat → ClassId) (m : Nat → Nat) (fs : List Value) (R : Nat → Nat) (s : Sg) (p c : Nat) (hr : RB s R) (hw : Wf s) (hp : p < (sP s).1) : Ky l D tA yX5_pay cX5_pay 3 none 1 21 [.ref (m 0), .int (nI p), .int (nI c)] (rW tA m fs R) (S := Nat → Nat) (fun R1 => RB (payS s p c) R1 ∧ Out R R1) (fun _ => none) (fun R1 => (rW tA m fs R1)) := by
  refine ky_void rfl (Nat.le_of_ble_eq_true rfl) (fun G X E => ?_)
  show J l D G 0 0 (rW tA m fs R) [(0, .ref (m 0)), (1, .int (nI p)), (2, .int (nI c))] 0 []
  have hn := hw.n
  refine j_aload_n (pc := 0) X dX5_pay_0 rfl (q := 0) rfl ?_
  refine j_get (pc := 1) X (C := RX5) (T := TX5) (N := 10) wz_X5 0 rfl rfl 0 (by decide) wf_X5_7 rfl dX5_pay_1 ?_
  refine j_iload_n (pc := 4) X dX5_pay_4 rfl (q := 1) rfl ?_
  refine j_iconst (pc := 5) X (v := (nI 0)) dX5_pay_5 (by decide) ?_
  refine j_callSR (pc := 6) X (st := [.ref (m 1)])  (c_X5_ofMember l D tA p 0 ) cd_X5_ofMember wm_X5_42 rfl [] rfl rfl ⟨Nat.le_of_ble_eq_true rfl, Nat.le_of_ble_eq_true rfl⟩ ⟨Nat.zero_le _, Nat.zero_le _⟩ rfl (Nat.le_of_ble_eq_true rfl) dX5_pay_6 ?_
  refine j_dup2 (pc := 9) X dX5_pay_9 rfl rfl ?_
  refine j_iald (pc := 10) X 1 (i := (29 + 2 * p + 0)) rfl (by omega) (by omega) dX5_pay_10 ?_
  refine j_top (v' := nI (tGet 2 (sP s) p 0)) (congrArg nI (RB.p hr (by omega) (by omega))) ?_
  refine j_iload_n (pc := 11) X dX5_pay_11 rfl (q := 2) rfl ?_
  refine j_iadd (pc := 12) X (v := (nI ((tGet 2 (sP s) p 0) + c))) dX5_pay_12 (nI_add _ _) ?_
  refine j_iast (pc := 13) X 1 (i := (29 + 2 * p + 0)) (v := ((tGet 2 (sP s) p 0) + c)) rfl (by omega) (by omega) (w' := (rW tA m fs (va_up R (29 + 2 * p + 0) ((tGet 2 (sP s) p 0) + c)))) rfl dX5_pay_13 ?_
  exact j_endVy (pc := 14) E dX5_pay_14 (va_up R (29 + 2 * p + 0) (tGet 2 (sP s) p 0 + c)) (⟨hr.pay hw hp, Out.rf.up (by omega)⟩) rfl
theorem RB.give {s : Sg} {R : Nat → Nat} (h : RB s R) (hw : Wf s) {b i t : Nat} (hb : b < (sB s).1) (hi : i < (sM s).1) (ht : t < 200) (h5 : tGet 8 (sB s) b 5 ≠ 1) : RB (placeS s b i t) (va_up (va_up (va_up R (45 + 8 * b + 1) i) (45 + 8 * b + 2) t) (45 + 8 * b + 6) (sW s t)) := by
  have w1 := hw.setB (b := b) (c := 1) (v := i) (by decide) hi
  have h1 := h.setB (v := i) hw hb (c := 1) (by decide) (Or.inr ⟨h5, fun q => absurd q (by decide)⟩)
  have w2 := w1.setB (b := b) (c := 2) (v := t) (by decide) ht
  have h2 := h1.setB (v := t) w1 (b := b) hb (c := 2) (by decide) (Or.inl (by decide))
  exact h2.setB (v := sW s t) w2 (b := b) hb (c := 6) (by decide) (Or.inl (by decide))
theorem cd_X5_give : kCardV yX5_give cX5_give 4 none 3 := ⟨⟨wc_X5_give, wi_X5, by decide +kernel, by decide +kernel, rfl⟩, wk_X5_give, ws_X5_give⟩
set_option maxHeartbeats 4000000 in
set_option maxRecDepth 100000 in
theorem c_X5_give (l : Launch) (D : va_G) (tA : Nat → ClassId) (m : Nat → Nat) (fs : List Value) (R : Nat → Nat) (s : Sg) (b i t : Nat) (hr : RB s R) (hw : Wf s) (hb : b < (sB s).1) (hi : i < (sM s).1) (ht : t < 200) (h5 : tGet 8 (sB s) b 5 ≠ 1) : Ky l D tA yX5_give cX5_give 4 none 1 21 [.ref (m 0), .int (nI b), .int (nI i), .int (nI t)] (rW tA m fs R) (S := Nat → Nat) (fun R1 => RB (placeS s b i t) R1 ∧ Out R R1) (fun _ => none) (fun R1 => (rW tA m fs R1)) := by
  refine ky_void rfl (Nat.le_of_ble_eq_true rfl) (fun G X E => ?_)
  show J l D G 0 0 (rW tA m fs R) [(0, .ref (m 0)), (1, .int (nI b)), (2, .int (nI i)), (3, .int (nI t))] 0 []
  have hn := hw.n
  refine j_aload_n (pc := 0) X dX5_give_0 rfl (q := 0) rfl ?_
  refine j_get (pc := 1) X (C := RX5) (T := TX5) (N := 10) wz_X5 0 rfl rfl 0 (by decide) wf_X5_7 rfl dX5_give_1 ?_
  refine j_iload_n (pc := 4) X dX5_give_4 rfl (q := 1) rfl ?_
  refine j_iconst (pc := 5) X (v := (nI 1)) dX5_give_5 (by decide) ?_
  refine j_callSR (pc := 6) X (st := [.ref (m 1)])  (c_X5_ofBooking l D tA b 1 ) cd_X5_ofBooking wm_X5_53 rfl [] rfl rfl ⟨Nat.le_of_ble_eq_true rfl, Nat.le_of_ble_eq_true rfl⟩ ⟨Nat.zero_le _, Nat.zero_le _⟩ rfl (Nat.le_of_ble_eq_true rfl) dX5_give_6 ?_
  refine j_iload_n (pc := 9) X dX5_give_9 rfl (q := 2) rfl ?_
  refine j_iast (pc := 10) X 1 (i := (45 + 8 * b + 1)) (v := i) rfl (by omega) (by omega) (w' := (rW tA m fs (va_up R (45 + 8 * b + 1) i))) rfl dX5_give_10 ?_
  refine j_aload_n (pc := 11) X dX5_give_11 rfl (q := 0) rfl ?_
  refine j_get (pc := 12) X (C := RX5) (T := TX5) (N := 10) wz_X5 0 rfl rfl 0 (by decide) wf_X5_7 rfl dX5_give_12 ?_
  refine j_iload_n (pc := 15) X dX5_give_15 rfl (q := 1) rfl ?_
  refine j_iconst (pc := 16) X (v := (nI 2)) dX5_give_16 (by decide) ?_
  refine j_callSR (pc := 17) X (st := [.ref (m 1)])  (c_X5_ofBooking l D tA b 2 ) cd_X5_ofBooking wm_X5_53 rfl [] rfl rfl ⟨Nat.le_of_ble_eq_true rfl, Nat.le_of_ble_eq_true rfl⟩ ⟨Nat.zero_le _, Nat.zero_le _⟩ rfl (Nat.le_of_ble_eq_true rfl) dX5_give_17 ?_
  refine j_iload_n (pc := 20) X dX5_give_20 rfl (q := 3) rfl ?_
  refine j_iast (pc := 21) X 1 (i := (45 + 8 * b + 2)) (v := t) rfl (by omega) (by omega) (w' := (rW tA m fs (va_up (va_up R (45 + 8 * b + 1) i) (45 + 8 * b + 2) t))) rfl dX5_give_21 ?_
  refine j_aload_n (pc := 22) X dX5_give_22 rfl (q := 0) rfl ?_
  refine j_get (pc := 23) X (C := RX5) (T := TX5) (N := 10) wz_X5 0 rfl rfl 0 (by decide) wf_X5_7 rfl dX5_give_23 ?_
  refine j_iload_n (pc := 26) X dX5_give_26 rfl (q := 1) rfl ?_
  refine j_bipush (pc := 27) X (v := (nI 6)) dX5_give_27 (by decide) ?_
  refine j_callSR (pc := 29) X (st := [.ref (m 1)])  (c_X5_ofBooking l D tA b 6 ) cd_X5_ofBooking wm_X5_53 rfl [] rfl rfl ⟨Nat.le_of_ble_eq_true rfl, Nat.le_of_ble_eq_true rfl⟩ ⟨Nat.zero_le _, Nat.zero_le _⟩ rfl (Nat.le_of_ble_eq_true rfl) dX5_give_29 ?_
  refine j_aload_n (pc := 32) X dX5_give_32 rfl (q := 0) rfl ?_
  refine j_get (pc := 33) X (C := RX5) (T := TX5) (N := 10) wz_X5 0 rfl rfl 0 (by decide) wf_X5_7 rfl dX5_give_33 ?_
  refine j_sipush (pc := 36) X (v := (nI 335)) dX5_give_36 (by decide) ?_
  refine j_iload_n (pc := 39) X dX5_give_39 rfl (q := 3) rfl ?_
  refine j_iadd (pc := 40) X (v := (nI (335 + t))) dX5_give_40 (nI_add _ _) ?_
  refine j_iald (pc := 41) X 1 (i := (335 + t)) rfl (by omega) (by omega) dX5_give_41 ?_
  refine j_top (v' := nI (sW s t)) (by rw [up_ne _ _ (by omega), up_ne _ _ (by omega), hr.w ht]) ?_
  refine j_iast (pc := 42) X 1 (i := (45 + 8 * b + 6)) (v := (sW s t)) rfl (by omega) (by omega) (w' := (rW tA m fs (va_up (va_up (va_up R (45 + 8 * b + 1) i) (45 + 8 * b + 2) t) (45 + 8 * b + 6) (sW s t)))) rfl dX5_give_42 ?_
  exact j_endVy (pc := 43) E dX5_give_43 (va_up (va_up (va_up R (45 + 8 * b + 1) i) (45 + 8 * b + 2) t) (45 + 8 * b + 6) (sW s t)) (⟨hr.give hw hb hi ht h5, ((Out.rf.up (by omega)).up (by omega)).up (by omega)⟩) rfl
def clR (R : Nat → Nat) (v n k : Nat) : Nat → Nat := fun j => if j = 4 then n - 1 else if 285 + 5 * v + 0 ≤ j ∧ j < k then R (j + 5) else R j
theorem clR_0 {R : Nat → Nat} {v n : Nat} : va_up R 4 (n - 1) = clR R v n (285 + 5 * v + 0) := by
  funext j
  unfold clR
  by_cases q : j = 4
  · rw [if_pos q, q, up_same]
  · rw [if_neg q, up_ne _ _ q, if_neg (by omega)]
theorem clR_s {R : Nat → Nat} {v n k : Nat} (hk : 285 + 5 * v + 0 ≤ k) : va_up (clR R v n k) k (clR R v n k (k + 5)) = clR R v n (k + 1) := by
  funext j
  by_cases q : j = k
  · subst q
    rw [up_same]
    unfold clR
    rw [if_neg (by omega), if_neg (by omega), if_neg (by omega), if_pos (by omega)]
  · rw [up_ne _ _ q]
    unfold clR
    by_cases q4 : j = 4
    · rw [if_pos q4, if_pos q4]
    · rw [if_neg q4, if_neg q4]
      by_cases q5 : 285 + 5 * v + 0 ≤ j ∧ j < k
      · rw [if_pos q5, if_pos (by omega)]
      · rw [if_neg q5, if_neg (by omega)]
theorem RB.close {s : Sg} {R : Nat → Nat} (h : RB s R) (hw : Wf s) {v : Nat} (hv : v < (sV s).1) : RB (uV s (tDel 5 (sV s) v)) (clR R v (sV s).1 (285 + 5 * ((sV s).1 - 1) + 0)) ∧ Out R (clR R v (sV s).1 (285 + 5 * ((sV s).1 - 1) + 0)) := by
  have hn := hw.n
  have e : ∀ j, j ≠ 4 → (j < 285 ∨ 335 ≤ j) → clR R v (sV s).1 (285 + 5 * ((sV s).1 - 1) + 0) j = R j := fun j h1 h2 => by
    unfold clR; rw [if_neg h1, if_neg (by omega)]
  refine ⟨⟨⟨(e _ (by omega) (by omega)).trans h.n0, (e _ (by omega) (by omega)).trans h.n1, (e _ (by omega) (by omega)).trans h.n2, (e _ (by omega) (by omega)).trans h.n3, ?_, (e _ (by omega) (by omega)).trans h.n5, (e _ (by omega) (by omega)).trans h.n6, (e _ (by omega) (by omega)).trans h.n7, (e _ (by omega) (by omega)).trans h.n8⟩, fun i hi => ?_, fun p hp c hc => ?_, fun b hb c hc => ?_, fun q hq c hc => ?_, fun t ht => ?_⟩, fun j hj => e j (by omega) (by omega)⟩
  · show clR R v (sV s).1 _ 4 = (sV s).1 - 1
    unfold clR; rw [if_pos rfl]
  · have hi : i < (sM s).1 := hi
    rw [e _ (by omega) (by omega), e _ (by omega) (by omega), e _ (by omega) (by omega), e _ (by omega) (by omega)]
    exact h.2.1 i hi
  · have hp : p < (sP s).1 := hp
    rw [e _ (by omega) (by omega)]; exact h.p hp hc
  · have hb : b < (sB s).1 := hb
    rw [e _ (by omega) (by omega)]; exact h.b hb hc
  · have hq : q < (sV s).1 - 1 := hq
    show _ = tGet 5 (tDel 5 (sV s) v) q c
    rw [get_del hq hc]
    unfold clR
    rw [if_neg (by omega)]
    by_cases z : v ≤ q
    · rw [if_pos (by omega), if_pos z, show 285 + 5 * q + c + 5 = 285 + 5 * (q + 1) + c by omega]
      exact h.v (by omega) hc
    · rw [if_neg (by omega), if_neg z]
      exact h.v (by omega) hc
  · rw [e _ (by omega) (by omega)]; exact h.w ht
theorem clR_4 {R : Nat → Nat} {v n k : Nat} : clR R v n k 4 = n - 1 := by unfold clR; rw [if_pos rfl]
theorem cd_X5_close : kCardV yX5_close cX5_close 3 none 1 := ⟨⟨wc_X5_close, wi_X5, by decide +kernel, by decide +kernel, rfl⟩, wk_X5_close, ws_X5_close⟩
set_option maxHeartbeats 4000000 in
set_option maxRecDepth 100000 in
theorem c_X5_close (l : Launch) (D : va_G) (tA : Nat → ClassId) (m : Nat → Nat) (fs : List Value) (R : Nat → Nat) (s : Sg) (v : Nat) (hr : RB s R) (hw : Wf s) (hv : v < (sV s).1) : Ky l D tA yX5_close cX5_close 3 none 1 21 [.ref (m 0), .int (nI v)] (rW tA m fs R) (S := Nat → Nat) (fun R1 => RB (uV s (tDel 5 (sV s) v)) R1 ∧ Out R R1) (fun _ => none) (fun R1 => (rW tA m fs R1)) := by
  refine ky_void rfl (Nat.le_of_ble_eq_true rfl) (fun G X E => ?_)
  show J l D G 0 0 (rW tA m fs R) [(0, .ref (m 0)), (1, .int (nI v))] 0 []
  have hn := hw.n
  refine j_aload_n (pc := 0) X dX5_close_0 rfl (q := 0) rfl ?_
  refine j_get (pc := 1) X (C := RX5) (T := TX5) (N := 10) wz_X5 0 rfl rfl 0 (by decide) wf_X5_7 rfl dX5_close_1 ?_
  refine j_iconst (pc := 4) X (v := (nI 4)) dX5_close_4 (by decide) ?_
  refine j_dup2 (pc := 5) X dX5_close_5 rfl rfl ?_
  refine j_iald (pc := 6) X 1 (i := 4) rfl (by omega) (by omega) dX5_close_6 ?_
  refine j_top (v' := nI ((sV s).1)) (congrArg nI (RB.n4 hr)) ?_
  refine j_iconst (pc := 7) X (v := (nI 1)) dX5_close_7 (by decide) ?_
  refine j_isub (pc := 8) X (v := (nI (((sV s).1) - 1))) dX5_close_8 (pk_sub (by omega)) ?_
  refine j_iast (pc := 9) X 1 (i := 4) (v := (((sV s).1) - 1)) rfl (by omega) (by omega) (w' := (rW tA m fs (va_up R 4 ((sV s).1 - 1)))) rfl dX5_close_9 ?_
  refine j_iload_n (pc := 10) X dX5_close_10 rfl (q := 1) rfl ?_
  refine j_iconst (pc := 11) X (v := (nI 0)) dX5_close_11 (by decide) ?_
  refine j_callSR (pc := 12) X (st := [])  (c_X5_ofMove l D tA v 0 ) cd_X5_ofMove wm_X5_88 rfl [] rfl rfl ⟨Nat.le_of_ble_eq_true rfl, Nat.le_of_ble_eq_true rfl⟩ ⟨Nat.zero_le _, Nat.zero_le _⟩ rfl (Nat.le_of_ble_eq_true rfl) dX5_close_12 ?_
  refine j_istore_n (pc := 15) X (lv' := [(2, .int (nI (285 + 5 * v + 0))), (0, .ref (m 0)), (1, .int (nI v))]) dX5_close_15 rfl (by decide) rfl ?_
  have L_16 : ∀ (fu : Nat) (k : Nat), 285 + 5 * v + 0 ≤ k → k ≤ 285 + 5 * ((sV s).1 - 1) + 0 → 285 + 5 * ((sV s).1 - 1) + 0 - k < fu → J l D G 0 0 (rW tA m fs (clR R v (sV s).1 k)) [(0, .ref (m 0)), (1, .int (nI v)), (2, .int (nI k))] 16 [] := by
    intro fu
    induction fu with
    | zero => intro k hk1 hk2 hfu; exact absurd hfu (Nat.not_lt_zero _)
    | succ fu ih_16 =>
      intro k hk1 hk2 hfu
      refine j_iload_n (pc := 16) X dX5_close_16 rfl (q := 2) rfl ?_
      refine j_aload_n (pc := 17) X dX5_close_17 rfl (q := 0) rfl ?_
      refine j_get (pc := 18) X (C := RX5) (T := TX5) (N := 10) wz_X5 0 rfl rfl 0 (by decide) wf_X5_7 rfl dX5_close_18 ?_
      refine j_iconst (pc := 21) X (v := (nI 4)) dX5_close_21 (by decide) ?_
      refine j_iald (pc := 22) X 1 (i := 4) rfl (by omega) (by omega) dX5_close_22 ?_
      refine j_top (v' := nI ((sV s).1 - 1)) (congrArg nI clR_4) ?_
      refine j_iconst (pc := 23) X (v := (nI 0)) dX5_close_23 (by decide) ?_
      refine j_callSR (pc := 24) X (st := [.int (nI k)])  (c_X5_ofMove l D tA ((sV s).1 - 1) 0 ) cd_X5_ofMove wm_X5_88 rfl [] rfl rfl ⟨Nat.le_of_ble_eq_true rfl, Nat.le_of_ble_eq_true rfl⟩ ⟨Nat.zero_le _, Nat.zero_le _⟩ rfl (Nat.le_of_ble_eq_true rfl) dX5_close_24 ?_
      refine j_icmp_ge (pc := 27) X (tgt := 50) (P := (285 + 5 * ((sV s).1 - 1) + 0) ≤ k) dX5_close_27 (by decide) (nI_leI (by omega) (by omega)) (fun h27 => ?_) (fun h27 => ?_)
      · skip
        exact j_endVy (pc := 50) E dX5_close_50 (clR R v (sV s).1 (285 + 5 * ((sV s).1 - 1) + 0)) (hr.close hw hv) (by rw [show k = 285 + 5 * ((sV s).1 - 1) + 0 by omega])
      · skip
        refine j_aload_n (pc := 30) X dX5_close_30 rfl (q := 0) rfl ?_
        refine j_get (pc := 31) X (C := RX5) (T := TX5) (N := 10) wz_X5 0 rfl rfl 0 (by decide) wf_X5_7 rfl dX5_close_31 ?_
        refine j_iload_n (pc := 34) X dX5_close_34 rfl (q := 2) rfl ?_
        refine j_aload_n (pc := 35) X dX5_close_35 rfl (q := 0) rfl ?_
        refine j_get (pc := 36) X (C := RX5) (T := TX5) (N := 10) wz_X5 0 rfl rfl 0 (by decide) wf_X5_7 rfl dX5_close_36 ?_
        refine j_iload_n (pc := 39) X dX5_close_39 rfl (q := 2) rfl ?_
        refine j_iconst (pc := 40) X (v := (nI 5)) dX5_close_40 (by decide) ?_
        refine j_iadd (pc := 41) X (v := (nI (k + 5))) dX5_close_41 (nI_add _ _) ?_
        refine j_iald (pc := 42) X 1 (i := (k + 5)) rfl (by omega) (by omega) dX5_close_42 ?_
        refine j_iast (pc := 43) X 1 (i := k) (v := ((clR R v (sV s).1 k) (k + 5))) rfl (by omega) (by omega) (w' := (rW tA m fs (clR R v (sV s).1 (k + 1)))) (by rw [← clR_s (show 285 + 5 * v + 0 ≤ k by omega)]; rfl) dX5_close_43 ?_
        refine j_iinc (pc := 44) X (v := (nI (k + 1))) (lv' := [(2, .int (nI (k + 1))), (0, .ref (m 0)), (1, .int (nI v))]) dX5_close_44 (q := 2) rfl (nI_add _ _) (by decide) rfl ?_
        refine j_goto (pc := 47) X (tgt := 16) dX5_close_47 (by decide) ?_
        refine j_lv X (lv' := [(0, .ref (m 0)), (1, .int (nI v)), (2, .int (nI (k + 1)))]) [1, 2, 0] rfl ?_
        exact ih_16 (k + 1) (by omega) (by omega) (by omega)
  refine j_ws (w2 := rW tA m fs (clR R v (sV s).1 (285 + 5 * v + 0))) (by rw [clR_0 (v := v)]) ?_
  refine j_lv X (lv' := [(0, .ref (m 0)), (1, .int (nI v)), (2, .int (nI (285 + 5 * v + 0)))]) [1, 2, 0] rfl ?_
  exact L_16 _ (285 + 5 * v + 0) (Nat.le_refl _) (by omega) (Nat.lt_succ_self _)
def canM (s : Sg) (v : Nat) : Bool := decide (tGet 5 (sV s) v 3 ≤ tGet 3 (sM s) (tGet 5 (sV s) v 1) 1 ∧ tGet 3 (sM s) (tGet 5 (sV s) v 2) 1 + tGet 5 (sV s) v 3 ≤ 12)
def carM (s : Sg) (v mu : Nat) : Tb := tSet 3 (tSet 3 (sM s) (tGet 5 (sV s) v 1) 1 (tGet 3 (sM s) (tGet 5 (sV s) v 1) 1 - mu)) (tGet 5 (sV s) v 2) 1 (tGet 3 (tSet 3 (sM s) (tGet 5 (sV s) v 1) 1 (tGet 3 (sM s) (tGet 5 (sV s) v 1) 1 - mu)) (tGet 5 (sV s) v 2) 1 + mu)
def carS (s : Sg) (v : Nat) : Sg := uM s (carM s v (if canM s v = true then tGet 5 (sV s) v 3 else 0))
theorem RB.car {s : Sg} {R : Nat → Nat} (h : RB s R) (hw : Wf s) {v mu : Nat} (hv : v < (sV s).1) : RB (uM s (carM s v mu)) (va_up (va_up R (9 + 4 * tGet 5 (sV s) v 1 + 1) (tGet 3 (sM s) (tGet 5 (sV s) v 1) 1 - mu)) (9 + 4 * tGet 5 (sV s) v 2 + 1) (tGet 3 (tSet 3 (sM s) (tGet 5 (sV s) v 1) 1 (tGet 3 (sM s) (tGet 5 (sV s) v 1) 1 - mu)) (tGet 5 (sV s) v 2) 1 + mu)) := by
  have hv0 := hw.v hv
  have h1 := h.setM (v := tGet 3 (sM s) (tGet 5 (sV s) v 1) 1 - mu) hw hv0.2.1 (c := 1) (by decide)
  have w1 : Wf (uM s (tSet 3 (sM s) (tGet 5 (sV s) v 1) 1 (tGet 3 (sM s) (tGet 5 (sV s) v 1) 1 - mu))) := by
    have := hw.m hv0.2.1
    exact ⟨hw.1.set (by decide) (show _ ≤ 12 by omega), hw.2.1, hw.2.2.1, hw.2.2.2.1, hw.2.2.2.2.1, hw.2.2.2.2.2⟩
  exact h1.setM w1 (m := tGet 5 (sV s) v 2) hv0.2.2.1 (c := 1) (by decide)
theorem cd_X5_carry : kCardV yX5_carry cX5_carry 6 (some .boolean) 1 := ⟨⟨wc_X5_carry, wi_X5, by decide +kernel, by decide +kernel, rfl⟩, wk_X5_carry, ws_X5_carry⟩
set_option maxHeartbeats 4000000 in
set_option maxRecDepth 100000 in
theorem c_X5_carry (l : Launch) (D : va_G) (tA : Nat → ClassId) (m : Nat → Nat) (fs : List Value) (R : Nat → Nat) (s : Sg) (v : Nat) (hr : RB s R) (hw : Wf s) (hv : v < (sV s).1) : Ky l D tA yX5_carry cX5_carry 6 (some .boolean) 1 21 [.ref (m 0), .int (nI v)] (rW tA m fs R) (S := Nat → Nat) (fun R1 => RB (carS s v) R1 ∧ Out R R1) (fun R1 => some (.int (bI (canM s v)))) (fun R1 => (rW tA m fs R1)) := by
  refine ky_bool rfl (Nat.le_of_ble_eq_true rfl) (fun G X E => ?_)
  show J l D G 0 0 (rW tA m fs R) [(0, .ref (m 0)), (1, .int (nI v))] 0 []
  have hn := hw.n
  have hv0 := hw.v hv
  have hf0 := hw.m hv0.2.1
  have ht0 := hw.m hv0.2.2.1
  refine j_aload_n (pc := 0) X dX5_carry_0 rfl (q := 0) rfl ?_
  refine j_get (pc := 1) X (C := RX5) (T := TX5) (N := 10) wz_X5 0 rfl rfl 0 (by decide) wf_X5_7 rfl dX5_carry_1 ?_
  refine j_iload_n (pc := 4) X dX5_carry_4 rfl (q := 1) rfl ?_
  refine j_iconst (pc := 5) X (v := (nI 3)) dX5_carry_5 (by decide) ?_
  refine j_callSR (pc := 6) X (st := [.ref (m 1)])  (c_X5_ofMove l D tA v 3 ) cd_X5_ofMove wm_X5_88 rfl [] rfl rfl ⟨Nat.le_of_ble_eq_true rfl, Nat.le_of_ble_eq_true rfl⟩ ⟨Nat.zero_le _, Nat.zero_le _⟩ rfl (Nat.le_of_ble_eq_true rfl) dX5_carry_6 ?_
  refine j_iald (pc := 9) X 1 (i := (285 + 5 * v + 3)) rfl (by omega) (by omega) dX5_carry_9 ?_
  refine j_top (v' := nI (tGet 5 (sV s) v 3)) (congrArg nI (RB.v hr (by omega) (by omega))) ?_
  refine j_istore_n (pc := 10) X (lv' := [(2, .int (nI (tGet 5 (sV s) v 3))), (0, .ref (m 0)), (1, .int (nI v))]) dX5_carry_10 rfl (by decide) rfl ?_
  refine j_aload_n (pc := 11) X dX5_carry_11 rfl (q := 1) rfl ?_
  refine j_get (pc := 12) X (C := RX5) (T := TX5) (N := 10) wz_X5 0 rfl rfl 0 (by decide) wf_X5_7 rfl dX5_carry_12 ?_
  refine j_iload_n (pc := 15) X dX5_carry_15 rfl (q := 2) rfl ?_
  refine j_iconst (pc := 16) X (v := (nI 1)) dX5_carry_16 (by decide) ?_
  refine j_callSR (pc := 17) X (st := [.ref (m 1)])  (c_X5_ofMove l D tA v 1 ) cd_X5_ofMove wm_X5_88 rfl [] rfl rfl ⟨Nat.le_of_ble_eq_true rfl, Nat.le_of_ble_eq_true rfl⟩ ⟨Nat.zero_le _, Nat.zero_le _⟩ rfl (Nat.le_of_ble_eq_true rfl) dX5_carry_17 ?_
  refine j_iald (pc := 20) X 1 (i := (285 + 5 * v + 1)) rfl (by omega) (by omega) dX5_carry_20 ?_
  refine j_top (v' := nI (tGet 5 (sV s) v 1)) (congrArg nI (RB.v hr (by omega) (by omega))) ?_
  refine j_iconst (pc := 21) X (v := (nI 1)) dX5_carry_21 (by decide) ?_
  refine j_callSR (pc := 22) X (st := [])  (c_X5_of l D tA (tGet 5 (sV s) v 1) 1 ) cd_X5_of wm_X5_38 rfl [] rfl rfl ⟨Nat.le_of_ble_eq_true rfl, Nat.le_of_ble_eq_true rfl⟩ ⟨Nat.zero_le _, Nat.zero_le _⟩ rfl (Nat.le_of_ble_eq_true rfl) dX5_carry_22 ?_
  refine j_istore_n (pc := 25) X (lv' := [(3, .int (nI (9 + 4 * (tGet 5 (sV s) v 1) + 1))), (2, .int (nI (tGet 5 (sV s) v 3))), (0, .ref (m 0)), (1, .int (nI v))]) dX5_carry_25 rfl (by decide) rfl ?_
  refine j_aload_n (pc := 26) X dX5_carry_26 rfl (q := 2) rfl ?_
  refine j_get (pc := 27) X (C := RX5) (T := TX5) (N := 10) wz_X5 0 rfl rfl 0 (by decide) wf_X5_7 rfl dX5_carry_27 ?_
  refine j_iload_n (pc := 30) X dX5_carry_30 rfl (q := 3) rfl ?_
  refine j_iconst (pc := 31) X (v := (nI 2)) dX5_carry_31 (by decide) ?_
  refine j_callSR (pc := 32) X (st := [.ref (m 1)])  (c_X5_ofMove l D tA v 2 ) cd_X5_ofMove wm_X5_88 rfl [] rfl rfl ⟨Nat.le_of_ble_eq_true rfl, Nat.le_of_ble_eq_true rfl⟩ ⟨Nat.zero_le _, Nat.zero_le _⟩ rfl (Nat.le_of_ble_eq_true rfl) dX5_carry_32 ?_
  refine j_iald (pc := 35) X 1 (i := (285 + 5 * v + 2)) rfl (by omega) (by omega) dX5_carry_35 ?_
  refine j_top (v' := nI (tGet 5 (sV s) v 2)) (congrArg nI (RB.v hr (by omega) (by omega))) ?_
  refine j_iconst (pc := 36) X (v := (nI 1)) dX5_carry_36 (by decide) ?_
  refine j_callSR (pc := 37) X (st := [])  (c_X5_of l D tA (tGet 5 (sV s) v 2) 1 ) cd_X5_of wm_X5_38 rfl [] rfl rfl ⟨Nat.le_of_ble_eq_true rfl, Nat.le_of_ble_eq_true rfl⟩ ⟨Nat.zero_le _, Nat.zero_le _⟩ rfl (Nat.le_of_ble_eq_true rfl) dX5_carry_37 ?_
  refine j_istore (pc := 40) X (lv' := [(4, .int (nI (9 + 4 * (tGet 5 (sV s) v 2) + 1))), (3, .int (nI (9 + 4 * (tGet 5 (sV s) v 1) + 1))), (2, .int (nI (tGet 5 (sV s) v 3))), (0, .ref (m 0)), (1, .int (nI v))]) dX5_carry_40 (by decide) rfl ?_
  refine j_aload_n (pc := 42) X dX5_carry_42 rfl (q := 3) rfl ?_
  refine j_get (pc := 43) X (C := RX5) (T := TX5) (N := 10) wz_X5 0 rfl rfl 0 (by decide) wf_X5_7 rfl dX5_carry_43 ?_
  refine j_iload_n (pc := 46) X dX5_carry_46 rfl (q := 1) rfl ?_
  refine j_iald (pc := 47) X 1 (i := (9 + 4 * (tGet 5 (sV s) v 1) + 1)) rfl (by omega) (by omega) dX5_carry_47 ?_
  refine j_top (v' := nI (tGet 3 (sM s) (tGet 5 (sV s) v 1) 1)) (congrArg nI (RB.m1 hr (by omega))) ?_
  refine j_iload_n (pc := 48) X dX5_carry_48 rfl (q := 2) rfl ?_
  refine j_icmp_lt (pc := 49) X (tgt := 70) (P := (tGet 3 (sM s) (tGet 5 (sV s) v 1) 1) < (tGet 5 (sV s) v 3)) dX5_carry_49 (by decide) (nI_ltI (by omega) (by omega)) (fun h49 => ?_) (fun h49 => ?_)
  · skip
    refine j_iconst (pc := 70) X (v := (nI 0)) dX5_carry_70 (by decide) ?_
    refine j_istore (pc := 71) X (lv' := [(5, .int (nI 0)), (4, .int (nI (9 + 4 * (tGet 5 (sV s) v 2) + 1))), (3, .int (nI (9 + 4 * (tGet 5 (sV s) v 1) + 1))), (2, .int (nI (tGet 5 (sV s) v 3))), (0, .ref (m 0)), (1, .int (nI v))]) dX5_carry_71 (by decide) rfl ?_
    refine j_aload_n (pc := 73) X dX5_carry_73 rfl (q := 4) rfl ?_
    refine j_get (pc := 74) X (C := RX5) (T := TX5) (N := 10) wz_X5 0 rfl rfl 0 (by decide) wf_X5_7 rfl dX5_carry_74 ?_
    refine j_iload_n (pc := 77) X dX5_carry_77 rfl (q := 2) rfl ?_
    refine j_dup2 (pc := 78) X dX5_carry_78 rfl rfl ?_
    refine j_iald (pc := 79) X 1 (i := (9 + 4 * (tGet 5 (sV s) v 1) + 1)) rfl (by omega) (by omega) dX5_carry_79 ?_
    refine j_top (v' := nI (tGet 3 (sM s) (tGet 5 (sV s) v 1) 1)) (congrArg nI (RB.m1 hr (by omega))) ?_
    refine j_iload (pc := 80) X dX5_carry_80 (q := 0) rfl ?_
    refine j_if_eq_t (pc := 82) X (tgt := 89) dX5_carry_82 (by decide) nI_0 ?_
    refine j_iconst (pc := 89) X (v := (nI 0)) dX5_carry_89 (by decide) ?_
    refine j_isub (pc := 90) X (v := (nI ((tGet 3 (sM s) (tGet 5 (sV s) v 1) 1) - 0))) dX5_carry_90 (pk_sub (by omega)) ?_
    refine j_iast (pc := 91) X 1 (i := (9 + 4 * (tGet 5 (sV s) v 1) + 1)) (v := ((tGet 3 (sM s) (tGet 5 (sV s) v 1) 1) - 0)) rfl (by omega) (by omega) (w' := (rW tA m fs (va_up R (9 + 4 * (tGet 5 (sV s) v 1) + 1) ((tGet 3 (sM s) (tGet 5 (sV s) v 1) 1) - 0)))) rfl dX5_carry_91 ?_
    refine j_aload_n (pc := 92) X dX5_carry_92 rfl (q := 4) rfl ?_
    refine j_get (pc := 93) X (C := RX5) (T := TX5) (N := 10) wz_X5 0 rfl rfl 0 (by decide) wf_X5_7 rfl dX5_carry_93 ?_
    refine j_iload (pc := 96) X dX5_carry_96 (q := 1) rfl ?_
    refine j_dup2 (pc := 98) X dX5_carry_98 rfl rfl ?_
    refine j_iald (pc := 99) X 1 (i := (9 + 4 * (tGet 5 (sV s) v 2) + 1)) rfl (by omega) (by omega) dX5_carry_99 ?_
    refine j_top (v' := nI (tGet 3 (tSet 3 (sM s) (tGet 5 (sV s) v 1) 1 (tGet 3 (sM s) (tGet 5 (sV s) v 1) 1 - 0)) (tGet 5 (sV s) v 2) 1)) (congrArg nI (RB.m1 (hr.setM (v := tGet 3 (sM s) (tGet 5 (sV s) v 1) 1 - 0) hw hv0.2.1 (c := 1) (by decide)) hv0.2.2.1)) ?_
    refine j_iload (pc := 100) X dX5_carry_100 (q := 0) rfl ?_
    refine j_if_eq_t (pc := 102) X (tgt := 109) dX5_carry_102 (by decide) nI_0 ?_
    refine j_iconst (pc := 109) X (v := (nI 0)) dX5_carry_109 (by decide) ?_
    refine j_iadd (pc := 110) X (v := (nI ((tGet 3 (tSet 3 (sM s) (tGet 5 (sV s) v 1) 1 (tGet 3 (sM s) (tGet 5 (sV s) v 1) 1 - 0)) (tGet 5 (sV s) v 2) 1) + 0))) dX5_carry_110 (nI_add _ _) ?_
    refine j_iast (pc := 111) X 1 (i := (9 + 4 * (tGet 5 (sV s) v 2) + 1)) (v := ((tGet 3 (tSet 3 (sM s) (tGet 5 (sV s) v 1) 1 (tGet 3 (sM s) (tGet 5 (sV s) v 1) 1 - 0)) (tGet 5 (sV s) v 2) 1) + 0)) rfl (by omega) (by omega) (w' := (rW tA m fs (va_up (va_up R (9 + 4 * (tGet 5 (sV s) v 1) + 1) ((tGet 3 (sM s) (tGet 5 (sV s) v 1) 1) - 0)) (9 + 4 * (tGet 5 (sV s) v 2) + 1) ((tGet 3 (tSet 3 (sM s) (tGet 5 (sV s) v 1) 1 (tGet 3 (sM s) (tGet 5 (sV s) v 1) 1 - 0)) (tGet 5 (sV s) v 2) 1) + 0)))) rfl dX5_carry_111 ?_
    refine j_iload (pc := 112) X dX5_carry_112 (q := 0) rfl ?_
    have e : carS s v = uM s (carM s v 0) := by unfold carS; rw [if_neg (by simp only [canM, decide_eq_true_eq]; omega)]
    exact j_endIy (pc := 114) E dX5_carry_114 (va_up (va_up R (9 + 4 * (tGet 5 (sV s) v 1) + 1) ((tGet 3 (sM s) (tGet 5 (sV s) v 1) 1) - 0)) (9 + 4 * (tGet 5 (sV s) v 2) + 1) ((tGet 3 (tSet 3 (sM s) (tGet 5 (sV s) v 1) 1 (tGet 3 (sM s) (tGet 5 (sV s) v 1) 1 - 0)) (tGet 5 (sV s) v 2) 1) + 0)) (⟨by rw [e]; exact hr.car hw hv, (Out.rf.up (by omega)).up (by omega)⟩) (bI_f (by simp only [canM, decide_eq_false_iff_not]; omega)) rfl
  · skip
    refine j_aload_n (pc := 52) X dX5_carry_52 rfl (q := 3) rfl ?_
    refine j_get (pc := 53) X (C := RX5) (T := TX5) (N := 10) wz_X5 0 rfl rfl 0 (by decide) wf_X5_7 rfl dX5_carry_53 ?_
    refine j_iload (pc := 56) X dX5_carry_56 (q := 0) rfl ?_
    refine j_iald (pc := 58) X 1 (i := (9 + 4 * (tGet 5 (sV s) v 2) + 1)) rfl (by omega) (by omega) dX5_carry_58 ?_
    refine j_top (v' := nI (tGet 3 (sM s) (tGet 5 (sV s) v 2) 1)) (congrArg nI (RB.m1 hr (by omega))) ?_
    refine j_iload_n (pc := 59) X dX5_carry_59 rfl (q := 2) rfl ?_
    refine j_iadd (pc := 60) X (v := (nI ((tGet 3 (sM s) (tGet 5 (sV s) v 2) 1) + (tGet 5 (sV s) v 3)))) dX5_carry_60 (nI_add _ _) ?_
    refine j_bipush (pc := 61) X (v := (nI 12)) dX5_carry_61 (by decide) ?_
    refine j_icmp_gt (pc := 63) X (tgt := 70) (P := 12 < ((tGet 3 (sM s) (tGet 5 (sV s) v 2) 1) + (tGet 5 (sV s) v 3))) dX5_carry_63 (by decide) (nI_ltI (by omega) (by omega)) (fun h63 => ?_) (fun h63 => ?_)
    · skip
      refine j_iconst (pc := 70) X (v := (nI 0)) dX5_carry_70 (by decide) ?_
      refine j_istore (pc := 71) X (lv' := [(5, .int (nI 0)), (4, .int (nI (9 + 4 * (tGet 5 (sV s) v 2) + 1))), (3, .int (nI (9 + 4 * (tGet 5 (sV s) v 1) + 1))), (2, .int (nI (tGet 5 (sV s) v 3))), (0, .ref (m 0)), (1, .int (nI v))]) dX5_carry_71 (by decide) rfl ?_
      refine j_aload_n (pc := 73) X dX5_carry_73 rfl (q := 4) rfl ?_
      refine j_get (pc := 74) X (C := RX5) (T := TX5) (N := 10) wz_X5 0 rfl rfl 0 (by decide) wf_X5_7 rfl dX5_carry_74 ?_
      refine j_iload_n (pc := 77) X dX5_carry_77 rfl (q := 2) rfl ?_
      refine j_dup2 (pc := 78) X dX5_carry_78 rfl rfl ?_
      refine j_iald (pc := 79) X 1 (i := (9 + 4 * (tGet 5 (sV s) v 1) + 1)) rfl (by omega) (by omega) dX5_carry_79 ?_
      refine j_top (v' := nI (tGet 3 (sM s) (tGet 5 (sV s) v 1) 1)) (congrArg nI (RB.m1 hr (by omega))) ?_
      refine j_iload (pc := 80) X dX5_carry_80 (q := 0) rfl ?_
      refine j_if_eq_t (pc := 82) X (tgt := 89) dX5_carry_82 (by decide) nI_0 ?_
      refine j_iconst (pc := 89) X (v := (nI 0)) dX5_carry_89 (by decide) ?_
      refine j_isub (pc := 90) X (v := (nI ((tGet 3 (sM s) (tGet 5 (sV s) v 1) 1) - 0))) dX5_carry_90 (pk_sub (by omega)) ?_
      refine j_iast (pc := 91) X 1 (i := (9 + 4 * (tGet 5 (sV s) v 1) + 1)) (v := ((tGet 3 (sM s) (tGet 5 (sV s) v 1) 1) - 0)) rfl (by omega) (by omega) (w' := (rW tA m fs (va_up R (9 + 4 * (tGet 5 (sV s) v 1) + 1) ((tGet 3 (sM s) (tGet 5 (sV s) v 1) 1) - 0)))) rfl dX5_carry_91 ?_
      refine j_aload_n (pc := 92) X dX5_carry_92 rfl (q := 4) rfl ?_
      refine j_get (pc := 93) X (C := RX5) (T := TX5) (N := 10) wz_X5 0 rfl rfl 0 (by decide) wf_X5_7 rfl dX5_carry_93 ?_
      refine j_iload (pc := 96) X dX5_carry_96 (q := 1) rfl ?_
      refine j_dup2 (pc := 98) X dX5_carry_98 rfl rfl ?_
      refine j_iald (pc := 99) X 1 (i := (9 + 4 * (tGet 5 (sV s) v 2) + 1)) rfl (by omega) (by omega) dX5_carry_99 ?_
      refine j_top (v' := nI (tGet 3 (tSet 3 (sM s) (tGet 5 (sV s) v 1) 1 (tGet 3 (sM s) (tGet 5 (sV s) v 1) 1 - 0)) (tGet 5 (sV s) v 2) 1)) (congrArg nI (RB.m1 (hr.setM (v := tGet 3 (sM s) (tGet 5 (sV s) v 1) 1 - 0) hw hv0.2.1 (c := 1) (by decide)) hv0.2.2.1)) ?_
      refine j_iload (pc := 100) X dX5_carry_100 (q := 0) rfl ?_
      refine j_if_eq_t (pc := 102) X (tgt := 109) dX5_carry_102 (by decide) nI_0 ?_
      refine j_iconst (pc := 109) X (v := (nI 0)) dX5_carry_109 (by decide) ?_
      refine j_iadd (pc := 110) X (v := (nI ((tGet 3 (tSet 3 (sM s) (tGet 5 (sV s) v 1) 1 (tGet 3 (sM s) (tGet 5 (sV s) v 1) 1 - 0)) (tGet 5 (sV s) v 2) 1) + 0))) dX5_carry_110 (nI_add _ _) ?_
      refine j_iast (pc := 111) X 1 (i := (9 + 4 * (tGet 5 (sV s) v 2) + 1)) (v := ((tGet 3 (tSet 3 (sM s) (tGet 5 (sV s) v 1) 1 (tGet 3 (sM s) (tGet 5 (sV s) v 1) 1 - 0)) (tGet 5 (sV s) v 2) 1) + 0)) rfl (by omega) (by omega) (w' := (rW tA m fs (va_up (va_up R (9 + 4 * (tGet 5 (sV s) v 1) + 1) ((tGet 3 (sM s) (tGet 5 (sV s) v 1) 1) - 0)) (9 + 4 * (tGet 5 (sV s) v 2) + 1) ((tGet 3 (tSet 3 (sM s) (tGet 5 (sV s) v 1) 1 (tGet 3 (sM s) (tGet 5 (sV s) v 1) 1 - 0)) (tGet 5 (sV s) v 2) 1) + 0)))) rfl dX5_carry_111 ?_
      refine j_iload (pc := 112) X dX5_carry_112 (q := 0) rfl ?_
      have e : carS s v = uM s (carM s v 0) := by unfold carS; rw [if_neg (by simp only [canM, decide_eq_true_eq]; omega)]
      exact j_endIy (pc := 114) E dX5_carry_114 (va_up (va_up R (9 + 4 * (tGet 5 (sV s) v 1) + 1) ((tGet 3 (sM s) (tGet 5 (sV s) v 1) 1) - 0)) (9 + 4 * (tGet 5 (sV s) v 2) + 1) ((tGet 3 (tSet 3 (sM s) (tGet 5 (sV s) v 1) 1 (tGet 3 (sM s) (tGet 5 (sV s) v 1) 1 - 0)) (tGet 5 (sV s) v 2) 1) + 0)) (⟨by rw [e]; exact hr.car hw hv, (Out.rf.up (by omega)).up (by omega)⟩) (bI_f (by simp only [canM, decide_eq_false_iff_not]; omega)) rfl
    · skip
      refine j_iconst (pc := 66) X (v := (nI 1)) dX5_carry_66 (by decide) ?_
      refine j_goto (pc := 67) X (tgt := 71) dX5_carry_67 (by decide) ?_
      refine j_istore (pc := 71) X (lv' := [(5, .int (nI 1)), (4, .int (nI (9 + 4 * (tGet 5 (sV s) v 2) + 1))), (3, .int (nI (9 + 4 * (tGet 5 (sV s) v 1) + 1))), (2, .int (nI (tGet 5 (sV s) v 3))), (0, .ref (m 0)), (1, .int (nI v))]) dX5_carry_71 (by decide) rfl ?_
      refine j_aload_n (pc := 73) X dX5_carry_73 rfl (q := 4) rfl ?_
      refine j_get (pc := 74) X (C := RX5) (T := TX5) (N := 10) wz_X5 0 rfl rfl 0 (by decide) wf_X5_7 rfl dX5_carry_74 ?_
      refine j_iload_n (pc := 77) X dX5_carry_77 rfl (q := 2) rfl ?_
      refine j_dup2 (pc := 78) X dX5_carry_78 rfl rfl ?_
      refine j_iald (pc := 79) X 1 (i := (9 + 4 * (tGet 5 (sV s) v 1) + 1)) rfl (by omega) (by omega) dX5_carry_79 ?_
      refine j_top (v' := nI (tGet 3 (sM s) (tGet 5 (sV s) v 1) 1)) (congrArg nI (RB.m1 hr (by omega))) ?_
      refine j_iload (pc := 80) X dX5_carry_80 (q := 0) rfl ?_
      refine j_if_eq_f (pc := 82) X (tgt := 89) dX5_carry_82 (by decide) (nI_ne0 (n := 1) (by decide) (by decide)) ?_
      refine j_iload_n (pc := 85) X dX5_carry_85 rfl (q := 3) rfl ?_
      refine j_goto (pc := 86) X (tgt := 90) dX5_carry_86 (by decide) ?_
      refine j_isub (pc := 90) X (v := (nI ((tGet 3 (sM s) (tGet 5 (sV s) v 1) 1) - (tGet 5 (sV s) v 3)))) dX5_carry_90 (pk_sub (by omega)) ?_
      refine j_iast (pc := 91) X 1 (i := (9 + 4 * (tGet 5 (sV s) v 1) + 1)) (v := ((tGet 3 (sM s) (tGet 5 (sV s) v 1) 1) - (tGet 5 (sV s) v 3))) rfl (by omega) (by omega) (w' := (rW tA m fs (va_up R (9 + 4 * (tGet 5 (sV s) v 1) + 1) ((tGet 3 (sM s) (tGet 5 (sV s) v 1) 1) - (tGet 5 (sV s) v 3))))) rfl dX5_carry_91 ?_
      refine j_aload_n (pc := 92) X dX5_carry_92 rfl (q := 4) rfl ?_
      refine j_get (pc := 93) X (C := RX5) (T := TX5) (N := 10) wz_X5 0 rfl rfl 0 (by decide) wf_X5_7 rfl dX5_carry_93 ?_
      refine j_iload (pc := 96) X dX5_carry_96 (q := 1) rfl ?_
      refine j_dup2 (pc := 98) X dX5_carry_98 rfl rfl ?_
      refine j_iald (pc := 99) X 1 (i := (9 + 4 * (tGet 5 (sV s) v 2) + 1)) rfl (by omega) (by omega) dX5_carry_99 ?_
      refine j_top (v' := nI (tGet 3 (tSet 3 (sM s) (tGet 5 (sV s) v 1) 1 (tGet 3 (sM s) (tGet 5 (sV s) v 1) 1 - tGet 5 (sV s) v 3)) (tGet 5 (sV s) v 2) 1)) (congrArg nI (RB.m1 (hr.setM (v := tGet 3 (sM s) (tGet 5 (sV s) v 1) 1 - (tGet 5 (sV s) v 3)) hw hv0.2.1 (c := 1) (by decide)) hv0.2.2.1)) ?_
      refine j_iload (pc := 100) X dX5_carry_100 (q := 0) rfl ?_
      refine j_if_eq_f (pc := 102) X (tgt := 109) dX5_carry_102 (by decide) (nI_ne0 (n := 1) (by decide) (by decide)) ?_
      refine j_iload_n (pc := 105) X dX5_carry_105 rfl (q := 3) rfl ?_
      refine j_goto (pc := 106) X (tgt := 110) dX5_carry_106 (by decide) ?_
      refine j_iadd (pc := 110) X (v := (nI ((tGet 3 (tSet 3 (sM s) (tGet 5 (sV s) v 1) 1 (tGet 3 (sM s) (tGet 5 (sV s) v 1) 1 - tGet 5 (sV s) v 3)) (tGet 5 (sV s) v 2) 1) + (tGet 5 (sV s) v 3)))) dX5_carry_110 (nI_add _ _) ?_
      refine j_iast (pc := 111) X 1 (i := (9 + 4 * (tGet 5 (sV s) v 2) + 1)) (v := ((tGet 3 (tSet 3 (sM s) (tGet 5 (sV s) v 1) 1 (tGet 3 (sM s) (tGet 5 (sV s) v 1) 1 - tGet 5 (sV s) v 3)) (tGet 5 (sV s) v 2) 1) + (tGet 5 (sV s) v 3))) rfl (by omega) (by omega) (w' := (rW tA m fs (va_up (va_up R (9 + 4 * (tGet 5 (sV s) v 1) + 1) ((tGet 3 (sM s) (tGet 5 (sV s) v 1) 1) - (tGet 5 (sV s) v 3))) (9 + 4 * (tGet 5 (sV s) v 2) + 1) ((tGet 3 (tSet 3 (sM s) (tGet 5 (sV s) v 1) 1 (tGet 3 (sM s) (tGet 5 (sV s) v 1) 1 - tGet 5 (sV s) v 3)) (tGet 5 (sV s) v 2) 1) + (tGet 5 (sV s) v 3))))) rfl dX5_carry_111 ?_
      refine j_iload (pc := 112) X dX5_carry_112 (q := 0) rfl ?_
      have e : carS s v = uM s (carM s v (tGet 5 (sV s) v 3)) := by unfold carS; rw [if_pos (by simp only [canM, decide_eq_true_eq]; omega)]
      exact j_endIy (pc := 114) E dX5_carry_114 (va_up (va_up R (9 + 4 * (tGet 5 (sV s) v 1) + 1) ((tGet 3 (sM s) (tGet 5 (sV s) v 1) 1) - (tGet 5 (sV s) v 3))) (9 + 4 * (tGet 5 (sV s) v 2) + 1) ((tGet 3 (tSet 3 (sM s) (tGet 5 (sV s) v 1) 1 (tGet 3 (sM s) (tGet 5 (sV s) v 1) 1 - tGet 5 (sV s) v 3)) (tGet 5 (sV s) v 2) 1) + (tGet 5 (sV s) v 3))) (⟨by rw [e]; exact hr.car hw hv, (Out.rf.up (by omega)).up (by omega)⟩) (bI_t (by simp only [canM, decide_eq_true_eq]; omega)) rfl
