theorem rO_is {b : Nat} {wt : Option Nat} (hb : b < 2 ^ 31) (hw : ∀ q, wt = some q → q < 2 ^ 31) : nI b = rO wt ↔ wt = some b := by
  cases wt with
  | none =>
    refine ⟨fun h => absurd h ?_, fun h => by cases h⟩
    intro h
    have h2 : (nI b).toInt = (-5 : Int32).toInt := congrArg Int32.toInt h
    rw [nI_toInt hb, show (-5 : Int32).toInt = -5 by decide +kernel] at h2
    omega
  | some q =>
    show nI b = nI q ↔ _
    rw [nI_eq (by omega) (hw q rfl)]
    exact ⟨fun h => by rw [h], fun h => by cases h; rfl⟩
def ftS (wt : Option Nat) (b ft k : Nat) : Nat := if wt = some b then k else ft
def stX (s : Sg) : Sg := uX s (sX s + 1)
def stP (s : Sg) (p : Nat) : Sg := payS (uP s (tSet 2 (sP s) p 1 (tGet 2 (sP s) p 1 + 1))) p 8
theorem stP_wf {s : Sg} (h : Wf s) {p : Nat} : Wf (stP s p) := Wf.pay h.setP
theorem stX_wf {s : Sg} (h : Wf s) : Wf (stX s) := ⟨h.1, h.2.1, h.2.2.1, h.2.2.2.1, h.2.2.2.2.1, h.2.2.2.2.2⟩
theorem inc_5 {s : Sg} {b : Nat} (h : tGet 8 (sB s) b 5 ≠ 1) : tGet 8 (sB (incB s b)) b 5 ≠ 1 := by
  show tGet 8 (tSet 8 (sB s) b 7 _) b 5 ≠ 1
  rw [get_set_c (by decide) (by decide) (by decide)]; exact h
def frN (N k : Nat) : Nat := min (N + 9) 199 + 1 - (N + k)
theorem cry_some {s : Sg} {b h k : Nat} (hk : fre (sB s) (tGet 8 (sB s) b 1) (min (sN s + 9) 199 - sN s) (sN s + 1) = fre (sB s) (tGet 8 (sB s) b 1) (frN (sN s) k) h) (hh : sN s + k = h) (h1 : k ≤ 9) (h2 : h ≤ 199) (hf : bkF (sB s) (tGet 8 (sB s) b 1) h = none) : cryS s b = placeS s b (tGet 8 (sB s) b 1) h := by
  have e : frN (sN s) k = frN (sN s) (k + 1) + 1 := by unfold frN; omega
  unfold cryS
  rw [hk, e, fre, if_pos hf]
theorem cry_none {s : Sg} {b h k : Nat} (hk : fre (sB s) (tGet 8 (sB s) b 1) (min (sN s + 9) 199 - sN s) (sN s + 1) = fre (sB s) (tGet 8 (sB s) b 1) (frN (sN s) k) h) (h1 : 9 < k) : cryS s b = uB s (tSet 8 (sB s) b 5 2) := by
  have e : frN (sN s) k = 0 := by unfold frN; omega
  unfold cryS
  rw [hk, e]; rfl
theorem fre_next {B : Tb} {i N k : Nat} {o : Option Nat} (hk : o = fre B i (frN N k) (N + k)) (h : 199 < N + k ∨ (k ≤ 9 ∧ ¬ bkF B i (N + k) = none)) (hN : N ≤ 199) : o = fre B i (frN N (k + 1)) (N + (k + 1)) := by
  rw [hk]
  rcases Nat.lt_or_ge 199 (N + k) with q | q
  · have e1 : frN N k = 0 := by unfold frN; omega
    have e2 : frN N (k + 1) = 0 := by unfold frN; omega
    rw [e1, e2]; rfl
  · have h' := h.resolve_left (by omega)
    have e : frN N k = frN N (k + 1) + 1 := by unfold frN; omega
    rw [e, fre, if_neg h'.2]; rfl
theorem RB.lift {s : Sg} {R : Nat → Nat} (h : RB s R) (hw : Wf s) {b : Nat} (hb : b < (sB s).1) (h5 : tGet 8 (sB s) b 5 = 0) : RB (uB s (tSet 8 (sB s) b 5 1)) (va_up (va_up R (45 + 8 * b + 5) 1) (9 + 4 * tGet 8 (sB s) b 1 + 3) (cB s 1 (tGet 8 (sB s) b 1) 1 + 1)) := by
  have hn := hw.n
  have hb0 := hw.b hb
  have e : ∀ j, j ≠ 45 + 8 * b + 5 → j ≠ 9 + 4 * tGet 8 (sB s) b 1 + 3 → va_up (va_up R (45 + 8 * b + 5) 1) (9 + 4 * tGet 8 (sB s) b 1 + 3) (cB s 1 (tGet 8 (sB s) b 1) 1 + 1) j = R j := fun j h1 h2 => by rw [up_ne _ _ h2, up_ne _ _ h1]
  refine ⟨⟨(e _ (by omega) (by omega)).trans h.n0, (e _ (by omega) (by omega)).trans h.n1, (e _ (by omega) (by omega)).trans h.n2, (e _ (by omega) (by omega)).trans h.n3, (e _ (by omega) (by omega)).trans h.n4, (e _ (by omega) (by omega)).trans h.n5, (e _ (by omega) (by omega)).trans h.n6, (e _ (by omega) (by omega)).trans h.n7, (e _ (by omega) (by omega)).trans h.n8⟩, fun m hm => ?_, fun p hp c hc => ?_, fun b' hb' c hc => ?_, fun q hq c hc => ?_, fun t ht => ?_⟩
  · have hm : m < (sM s).1 := hm
    refine ⟨(e _ (by omega) (by omega)).trans (h.m0 hm), (e _ (by omega) (by omega)).trans (h.m1 hm), (e _ (by omega) (by omega)).trans (h.m2 hm), ?_⟩
    by_cases z : m = tGet 8 (sB s) b 1
    · subst z
      rw [up_same]
      refine (cnt_one (b := b) _ hb (fun r hr hne => ?_) ?_ ?_).symm
      · show decide (tGet 8 (tSet 8 (sB s) b 5 1) r 1 = _ ∧ tGet 8 (tSet 8 (sB s) b 5 1) r 5 = 1) = _
        rw [get_set_r (by decide) (by decide) hne, get_set_r (by decide) (by decide) hne]
      · show decide (tGet 8 (tSet 8 (sB s) b 5 1) b 1 = _ ∧ tGet 8 (tSet 8 (sB s) b 5 1) b 5 = 1) = true
        rw [get_set_c (by decide) (by decide) (by decide), get_set_s (by decide)]
        exact decide_eq_true ⟨rfl, rfl⟩
      · exact decide_eq_false (fun q => by rw [h5] at q; exact absurd q.2 (by decide))
    · rw [e _ (by omega) (by omega)]
      refine (h.m3 hm).trans (cnt_eq _ (fun r hr => ?_)).symm
      show decide (tGet 8 (tSet 8 (sB s) b 5 1) r 1 = m ∧ tGet 8 (tSet 8 (sB s) b 5 1) r 5 = 1) = _
      rw [get_set_c (by decide) (by decide) (by decide)]
      by_cases hrb : r = b
      · subst hrb
        rw [decide_eq_false (fun q => z q.1.symm), decide_eq_false (fun q => z q.1.symm)]
      · rw [get_set_r (by decide) (by decide) hrb]
  · have hp : p < (sP s).1 := hp
    rw [e _ (by omega) (by omega)]; exact h.p hp hc
  · have hb' : b' < (sB s).1 := hb'
    show _ = tGet 8 (tSet 8 (sB s) b 5 1) b' c
    rw [get_set (by decide) hc]
    by_cases q : b' = b ∧ c = 5
    · rw [if_pos q, q.1, q.2, up_ne _ _ (by omega), up_same]
    · rw [if_neg q, e _ (by omega) (by omega)]; exact h.b hb' hc
  · have hq : q < (sV s).1 := hq
    rw [e _ (by omega) (by omega)]; exact h.v hq hc
  · rw [e _ (by omega) (by omega)]; exact h.w ht
theorem cd_X5_standBy : kCardV yX5_standBy cX5_standBy 6 none 2 := ⟨⟨wc_X5_standBy, wi_X5, by decide +kernel, by decide +kernel, rfl⟩, wk_X5_standBy, ws_X5_standBy⟩
set_option maxHeartbeats 4000000 in
set_option maxRecDepth 100000 in
theorem c_X5_standBy1 (l : Launch) (D : va_G) (tA : Nat → ClassId) (m : Nat → Nat) (R : Nat → Nat) (s : Sg) (st : Nat) (kp : Bool) (len : Nat) (wt : Option Nat) (ft ps : Nat) (f1 f2 : Int32) (b p : Nat) (hr : RB s R) (hw : Wf s) (hwt : ∀ q, wt = some q → q < 2 ^ 31)  (hb : b < (sB s).1) (h5 : tGet 8 (sB s) b 5 = 0) (hp : p < (sP s).1) : Ky l D tA yX5_standBy cX5_standBy 6 none 2 44 [.ref (m 0), .int (nI b), .int (nI p)] (rW tA m (mfs m st kp len wt ft ps f1 f2) R) (S := Nat → Nat) (fun R1 => RB (cryS (incB (stP s p) b) b) R1 ∧ Out R R1) (fun _ => none) (fun R1 => (rW tA m (mfs m st kp len wt (ftS wt b ft 1) ps f1 f2) R1)) := by
  refine ky_void rfl (Nat.le_of_ble_eq_true rfl) (fun G X E => ?_)
  show J l D G 0 0 (rW tA m (mfs m st kp len wt ft ps f1 f2) R) [(0, .ref (m 0)), (1, .int (nI b)), (2, .int (nI p))] 0 []
  have hn := hw.n
  refine j_aload_n (pc := 0) X dX5_standBy_0 rfl (q := 0) rfl ?_
  refine j_get (pc := 1) X (C := RX5) (T := TX5) (N := 10) wz_X5 0 rfl rfl 0 (by decide) wf_X5_7 rfl dX5_standBy_1 ?_
  refine j_iload_n (pc := 4) X dX5_standBy_4 rfl (q := 2) rfl ?_
  refine j_if_ge_t (pc := 5) X (tgt := 13) dX5_standBy_5 (by decide) ((nC_ge0 (by omega)).mpr trivial) ?_
  refine j_bipush (pc := 13) X (v := (nI 7)) dX5_standBy_13 (by decide) ?_
  refine j_dup2 (pc := 15) X dX5_standBy_15 rfl rfl ?_
  refine j_iald (pc := 16) X 1 (i := 7) rfl (by omega) (by omega) dX5_standBy_16 ?_
  refine j_iconst (pc := 17) X (v := (nI 1)) dX5_standBy_17 (by decide) ?_
  refine j_iadd (pc := 18) X (v := (nI ((R 7) + 1))) dX5_standBy_18 (nI_add _ _) ?_
  refine j_iast (pc := 19) X 1 (i := 7) (v := ((R 7) + 1)) rfl (by omega) (by omega) (w' := (rW tA m (mfs m st kp len wt ft ps f1 f2) (va_up R 7 (R 7 + 1)))) rfl dX5_standBy_19 ?_
  refine j_iload_n (pc := 20) X dX5_standBy_20 rfl (q := 2) rfl ?_
  refine j_if_lt_f (pc := 21) X (tgt := 45) dX5_standBy_21 (by decide) (fun z => ((nC_lt0 (by omega)).mp z).elim) ?_
  refine j_aload_n (pc := 24) X dX5_standBy_24 rfl (q := 0) rfl ?_
  refine j_get (pc := 25) X (C := RX5) (T := TX5) (N := 10) wz_X5 0 rfl rfl 0 (by decide) wf_X5_7 rfl dX5_standBy_25 ?_
  refine j_iload_n (pc := 28) X dX5_standBy_28 rfl (q := 2) rfl ?_
  refine j_iconst (pc := 29) X (v := (nI 1)) dX5_standBy_29 (by decide) ?_
  refine j_callSR (pc := 30) X (st := [.ref (m 1)])  (c_X5_ofMember l D tA p 1 ) cd_X5_ofMember wm_X5_42 rfl [] rfl rfl ⟨Nat.le_of_ble_eq_true rfl, Nat.le_of_ble_eq_true rfl⟩ ⟨Nat.zero_le _, Nat.zero_le _⟩ rfl (Nat.le_of_ble_eq_true rfl) dX5_standBy_30 ?_
  refine j_dup2 (pc := 33) X dX5_standBy_33 rfl rfl ?_
  refine j_iald (pc := 34) X 1 (i := (29 + 2 * p + 1)) rfl (by omega) (by omega) dX5_standBy_34 ?_
  refine j_top (v' := nI (tGet 2 (sP s) p 1)) (by rw [up_ne _ _ (by omega), hr.p hp (by decide)]) ?_
  refine j_iconst (pc := 35) X (v := (nI 1)) dX5_standBy_35 (by decide) ?_
  refine j_iadd (pc := 36) X (v := (nI ((tGet 2 (sP s) p 1) + 1))) dX5_standBy_36 (nI_add _ _) ?_
  refine j_iast (pc := 37) X 1 (i := (29 + 2 * p + 1)) (v := ((tGet 2 (sP s) p 1) + 1)) rfl (by omega) (by omega) (w' := (rW tA m (mfs m st kp len wt ft ps f1 f2) (va_up (va_up R 7 (R 7 + 1)) (29 + 2 * p + 1) (tGet 2 (sP s) p 1 + 1)))) rfl dX5_standBy_37 ?_
  have hrA := hr.caus hw hp
  refine j_aload_n (pc := 38) X dX5_standBy_38 rfl (q := 0) rfl ?_
  refine j_iload_n (pc := 39) X dX5_standBy_39 rfl (q := 2) rfl ?_
  refine j_bipush (pc := 40) X (v := (nI 8)) dX5_standBy_40 (by decide) ?_
  refine j_callVy (pc := 42) X (st := []) (w' := fun R42 => (rW tA m (mfs m st kp len wt ft ps f1 f2) R42)) (c_X5_pay l D tA m (mfs m st kp len wt ft ps f1 f2) (va_up (va_up R 7 (R 7 + 1)) (29 + 2 * p + 1) (tGet 2 (sP s) p 1 + 1)) (uP s (tSet 2 (sP s) p 1 (tGet 2 (sP s) p 1 + 1))) p 8 hrA (Wf.setP hw) hp) cd_X5_pay wm_X5_82 0 rfl rfl rfl [0, 1] rfl rfl (fun _ => rw_fst) (fun _ => rfl) ⟨Nat.le_of_ble_eq_true rfl, Nat.le_of_ble_eq_true rfl⟩ ⟨Nat.zero_le _, Nat.zero_le _⟩ rfl (Nat.le_of_ble_eq_true rfl) dX5_standBy_42 (fun R42 hu42 => ?_)
  obtain ⟨hr42, ho42⟩ := hu42
  refine j_aload_n (pc := 45) X dX5_standBy_45 rfl (q := 0) rfl ?_
  refine j_get (pc := 46) X (C := RX5) (T := TX5) (N := 10) wz_X5 0 rfl rfl 0 (by decide) wf_X5_7 rfl dX5_standBy_46 ?_
  refine j_iload_n (pc := 49) X dX5_standBy_49 rfl (q := 1) rfl ?_
  refine j_bipush (pc := 50) X (v := (nI 7)) dX5_standBy_50 (by decide) ?_
  refine j_callSR (pc := 52) X (st := [.ref (m 1)])  (c_X5_ofBooking l D tA b 7 ) cd_X5_ofBooking wm_X5_53 rfl [] rfl rfl ⟨Nat.le_of_ble_eq_true rfl, Nat.le_of_ble_eq_true rfl⟩ ⟨Nat.zero_le _, Nat.zero_le _⟩ rfl (Nat.le_of_ble_eq_true rfl) dX5_standBy_52 ?_
  refine j_dup2 (pc := 55) X dX5_standBy_55 rfl rfl ?_
  refine j_iald (pc := 56) X 1 (i := (45 + 8 * b + 7)) rfl (by omega) (by omega) dX5_standBy_56 ?_
  refine j_top (v' := nI (tGet 8 (sB (payS (uP s (tSet 2 (sP s) p 1 (tGet 2 (sP s) p 1 + 1))) p 8)) b 7)) (congrArg nI (RB.b hr42 hb (by omega))) ?_
  refine j_iconst (pc := 57) X (v := (nI 1)) dX5_standBy_57 (by decide) ?_
  refine j_iadd (pc := 58) X (v := (nI ((tGet 8 (sB (payS (uP s (tSet 2 (sP s) p 1 (tGet 2 (sP s) p 1 + 1))) p 8)) b 7) + 1))) dX5_standBy_58 (nI_add _ _) ?_
  refine j_iast (pc := 59) X 1 (i := (45 + 8 * b + 7)) (v := ((tGet 8 (sB (payS (uP s (tSet 2 (sP s) p 1 (tGet 2 (sP s) p 1 + 1))) p 8)) b 7) + 1)) rfl (by omega) (by omega) (w' := (rW tA m (mfs m st kp len wt ft ps f1 f2) (va_up R42 (45 + 8 * b + 7) ((tGet 8 (sB (payS (uP s (tSet 2 (sP s) p 1 (tGet 2 (sP s) p 1 + 1))) p 8)) b 7) + 1)))) rfl dX5_standBy_59 ?_
  have hrB : RB (incB (stP s p) b) (va_up R42 (45 + 8 * b + 7) ((tGet 8 (sB (payS (uP s (tSet 2 (sP s) p 1 (tGet 2 (sP s) p 1 + 1))) p 8)) b 7) + 1)) := RB.setB hr42 (stP_wf hw) hb (by decide) (Or.inl (by decide))
  have hw2 : Wf (incB (stP s p) b) := Wf.inc (stP_wf hw)
  have hn2 := hw2.n
  have hb2 := hw2.b (b := b) hb
  have h52 : tGet 8 (sB (incB (stP s p) b)) b 5 ≠ 1 := inc_5 (by show tGet 8 (sB s) b 5 ≠ 1; omega)
  refine j_aload_n (pc := 60) X dX5_standBy_60 rfl (q := 0) rfl ?_
  refine j_iload_n (pc := 61) X dX5_standBy_61 rfl (q := 1) rfl ?_
  refine j_aload_n (pc := 62) X dX5_standBy_62 rfl (q := 0) rfl ?_
  refine j_get (pc := 63) X (C := RX5) (T := TX5) (N := 10) wz_X5 0 rfl rfl 5 (by decide) wf_X5_16 rfl dX5_standBy_63 ?_
  refine j_icmp_ne (pc := 66) X (tgt := 81) (P := ¬ wt = some b) dX5_standBy_66 (by decide) (not_congr (rO_is (by omega) hwt)) (fun h66 => ?_) (fun h66 => ?_)
  · skip
    refine j_aload_n (pc := 81) X dX5_standBy_81 rfl (q := 0) rfl ?_
    refine j_get (pc := 82) X (C := RX5) (T := TX5) (N := 10) wz_X5 0 rfl rfl 6 (by decide) wf_X5_101 rfl dX5_standBy_82 ?_
    refine j_top (v' := nI (ftS wt b ft 1)) (by rw [ftS, if_neg h66]) ?_
    refine j_put (pc := 85) X (C := RX5) (T := TX5) (N := 10) wz_X5 tyX5 tyX5_ok nmX5 0 rfl rfl 6 (by decide) wf_X5_101 rfl rfl rfl (Nat.le_of_ble_eq_true rfl) (w' := (rW tA m (mfs m st kp len wt (ftS wt b ft 1) ps f1 f2) (va_up R42 (45 + 8 * b + 7) ((tGet 8 (sB (payS (uP s (tSet 2 (sP s) p 1 (tGet 2 (sP s) p 1 + 1))) p 8)) b 7) + 1)))) rfl dX5_standBy_85 ?_
    refine j_aload_n (pc := 88) X dX5_standBy_88 rfl (q := 0) rfl ?_
    refine j_get (pc := 89) X (C := RX5) (T := TX5) (N := 10) wz_X5 0 rfl rfl 0 (by decide) wf_X5_7 rfl dX5_standBy_89 ?_
    refine j_iload_n (pc := 92) X dX5_standBy_92 rfl (q := 1) rfl ?_
    refine j_iconst (pc := 93) X (v := (nI 1)) dX5_standBy_93 (by decide) ?_
    refine j_callSR (pc := 94) X (st := [.ref (m 1)])  (c_X5_ofBooking l D tA b 1 ) cd_X5_ofBooking wm_X5_53 rfl [] rfl rfl ⟨Nat.le_of_ble_eq_true rfl, Nat.le_of_ble_eq_true rfl⟩ ⟨Nat.zero_le _, Nat.zero_le _⟩ rfl (Nat.le_of_ble_eq_true rfl) dX5_standBy_94 ?_
    refine j_iald (pc := 97) X 1 (i := (45 + 8 * b + 1)) rfl (by omega) (by omega) dX5_standBy_97 ?_
    refine j_top (v' := nI (tGet 8 (sB (incB (stP s p) b)) b 1)) (congrArg nI (RB.b hrB hb (by omega))) ?_
    refine j_istore_n (pc := 98) X (lv' := [(3, .int (nI (tGet 8 (sB (incB (stP s p) b)) b 1))), (0, .ref (m 0)), (1, .int (nI b)), (2, .int (nI p))]) dX5_standBy_98 rfl (by decide) rfl ?_
    refine j_iconst (pc := 99) X (v := (nI 1)) dX5_standBy_99 (by decide) ?_
    refine j_istore (pc := 100) X (lv' := [(4, .int (nI 1)), (3, .int (nI (tGet 8 (sB (incB (stP s p) b)) b 1))), (0, .ref (m 0)), (1, .int (nI b)), (2, .int (nI p))]) dX5_standBy_100 (by decide) rfl ?_
    have L_102 : ∀ (fu : Nat) (k : Nat), 1 ≤ k → k ≤ 10 → fre (sB (incB (stP s p) b)) (tGet 8 (sB (incB (stP s p) b)) b 1) (min (sN (incB (stP s p) b) + 9) 199 - sN (incB (stP s p) b)) (sN (incB (stP s p) b) + 1) = fre (sB (incB (stP s p) b)) (tGet 8 (sB (incB (stP s p) b)) b 1) (frN (sN (incB (stP s p) b)) k) (sN (incB (stP s p) b) + k) → 10 - k < fu → J l D G 0 0 (rW tA m (mfs m st kp len wt (ftS wt b ft 1) ps f1 f2) (va_up R42 (45 + 8 * b + 7) (tGet 8 (sB (stP s p)) b 7 + 1))) [(0, .ref (m 0)), (1, .int (nI b)), (2, .int (nI p)), (3, .int (nI (tGet 8 (sB (incB (stP s p) b)) b 1))), (4, .int (nI k))] 102 [] := by
      intro fu
      induction fu with
      | zero => intro k hk1 hk2 hk hfu; exact absurd hfu (Nat.not_lt_zero _)
      | succ fu ih_102 =>
        intro k hk1 hk2 hk hfu
        refine j_iload (pc := 102) X dX5_standBy_102 (q := 4) rfl ?_
        refine j_bipush (pc := 104) X (v := (nI 9)) dX5_standBy_104 (by decide) ?_
        refine j_icmp_gt (pc := 106) X (tgt := 155) (P := 9 < k) dX5_standBy_106 (by decide) (nI_ltI (by omega) (by omega)) (fun h106 => ?_) (fun h106 => ?_)
        · skip
          refine j_aload_n (pc := 155) X dX5_standBy_155 rfl (q := 0) rfl ?_
          refine j_get (pc := 156) X (C := RX5) (T := TX5) (N := 10) wz_X5 0 rfl rfl 0 (by decide) wf_X5_7 rfl dX5_standBy_156 ?_
          refine j_iload_n (pc := 159) X dX5_standBy_159 rfl (q := 1) rfl ?_
          refine j_iconst (pc := 160) X (v := (nI 5)) dX5_standBy_160 (by decide) ?_
          refine j_callSR (pc := 161) X (st := [.ref (m 1)])  (c_X5_ofBooking l D tA b 5 ) cd_X5_ofBooking wm_X5_53 rfl [] rfl rfl ⟨Nat.le_of_ble_eq_true rfl, Nat.le_of_ble_eq_true rfl⟩ ⟨Nat.zero_le _, Nat.zero_le _⟩ rfl (Nat.le_of_ble_eq_true rfl) dX5_standBy_161 ?_
          refine j_iconst (pc := 164) X (v := (nI 2)) dX5_standBy_164 (by decide) ?_
          refine j_iast (pc := 165) X 1 (i := (45 + 8 * b + 5)) (v := 2) rfl (by omega) (by omega) (w' := (rW tA m (mfs m st kp len wt (ftS wt b ft 1) ps f1 f2) (va_up (va_up R42 (45 + 8 * b + 7) (tGet 8 (sB (stP s p)) b 7 + 1)) (45 + 8 * b + 5) 2))) rfl dX5_standBy_165 ?_
          exact j_endVy (pc := 166) E dX5_standBy_166 (va_up (va_up R42 (45 + 8 * b + 7) (tGet 8 (sB (stP s p)) b 7 + 1)) (45 + 8 * b + 5) 2) (⟨by rw [cry_none hk (by omega)]; exact RB.setB hrB hw2 hb (by decide) (Or.inr ⟨h52, fun _ => by decide⟩), (Out.up (Out.up (Out.tr (Out.up (Out.up Out.rf (by omega)) (by omega)) ho42) (by omega)) (by omega))⟩) rfl
        · skip
          refine j_aload_n (pc := 109) X dX5_standBy_109 rfl (q := 0) rfl ?_
          refine j_get (pc := 110) X (C := RX5) (T := TX5) (N := 10) wz_X5 0 rfl rfl 0 (by decide) wf_X5_7 rfl dX5_standBy_110 ?_
          refine j_iconst (pc := 113) X (v := (nI 0)) dX5_standBy_113 (by decide) ?_
          refine j_iald (pc := 114) X 1 (i := 0) rfl (by omega) (by omega) dX5_standBy_114 ?_
          refine j_top (v' := nI (sN (incB (stP s p) b))) (congrArg nI (RB.n0 hrB)) ?_
          refine j_iload (pc := 115) X dX5_standBy_115 (q := 4) rfl ?_
          refine j_iadd (pc := 117) X (v := (nI ((sN (incB (stP s p) b)) + k))) dX5_standBy_117 (nI_add _ _) ?_
          refine j_istore (pc := 118) X (lv' := [(5, .int (nI ((sN (incB (stP s p) b)) + k))), (0, .ref (m 0)), (1, .int (nI b)), (2, .int (nI p)), (3, .int (nI (tGet 8 (sB (incB (stP s p) b)) b 1))), (4, .int (nI k))]) dX5_standBy_118 (by decide) rfl ?_
          refine j_iload (pc := 120) X dX5_standBy_120 (q := 0) rfl ?_
          refine j_sipush (pc := 122) X (v := (nI 199)) dX5_standBy_122 (by decide) ?_
          refine j_icmp_gt (pc := 125) X (tgt := 149) (P := 199 < ((sN (incB (stP s p) b)) + k)) dX5_standBy_125 (by decide) (nI_ltI (by omega) (by omega)) (fun h125 => ?_) (fun h125 => ?_)
          · skip
            refine j_iinc (pc := 149) X (v := (nI (k + 1))) (lv' := [(4, .int (nI (k + 1))), (5, .int (nI ((sN (incB (stP s p) b)) + k))), (0, .ref (m 0)), (1, .int (nI b)), (2, .int (nI p)), (3, .int (nI (tGet 8 (sB (incB (stP s p) b)) b 1)))]) dX5_standBy_149 (q := 5) rfl (nI_add _ _) (by decide) rfl ?_
            refine j_goto (pc := 152) X (tgt := 102) dX5_standBy_152 (by decide) ?_
            refine j_lv X (lv' := [(0, .ref (m 0)), (1, .int (nI b)), (2, .int (nI p)), (3, .int (nI (tGet 8 (sB (incB (stP s p) b)) b 1))), (4, .int (nI (k + 1)))]) [2, 3, 4, 5, 0] rfl ?_
            exact ih_102 (k + 1) (by omega) (by omega) (fre_next hk (Or.inl (by omega)) hn2.2.2.2.2) (by omega)
          · skip
            refine j_aload_n (pc := 128) X dX5_standBy_128 rfl (q := 1) rfl ?_
            refine j_iload_n (pc := 129) X dX5_standBy_129 rfl (q := 4) rfl ?_
            refine j_iload (pc := 130) X dX5_standBy_130 (q := 0) rfl ?_
            refine j_callVR (pc := 132) X (st := [])  (c_X5_bookingAt l D tA m (mfs m st kp len wt (ftS wt b ft 1) ps f1 f2) (va_up R42 (45 + 8 * b + 7) (tGet 8 (sB (stP s p)) b 7 + 1)) (incB (stP s p) b) (tGet 8 (sB (incB (stP s p) b)) b 1) ((sN (incB (stP s p) b)) + k) hrB hw2 (by have := hb2.2.1; omega) (by omega)) cd_X5_bookingAt wm_X5_69 0 rfl rfl rfl [0, 1] rfl rfl ⟨Nat.le_of_ble_eq_true rfl, Nat.le_of_ble_eq_true rfl⟩ ⟨Nat.zero_le _, Nat.zero_le _⟩ rfl (Nat.le_of_ble_eq_true rfl) dX5_standBy_132 ?_
            refine j_bipush (pc := 135) X (v := (-5)) dX5_standBy_135 (by decide) ?_
            refine j_icmp_ne (pc := 137) X (tgt := 149) (P := ¬ (bkF (sB (incB (stP s p) b)) (tGet 8 (sB (incB (stP s p) b)) b 1) ((sN (incB (stP s p) b)) + k)) = none) dX5_standBy_137 (by decide) (not_congr (rO_none (fun q hq => by have := bkF_lt hq; omega))) (fun h137 => ?_) (fun h137 => ?_)
            · skip
              refine j_iinc (pc := 149) X (v := (nI (k + 1))) (lv' := [(4, .int (nI (k + 1))), (5, .int (nI ((sN (incB (stP s p) b)) + k))), (0, .ref (m 0)), (1, .int (nI b)), (2, .int (nI p)), (3, .int (nI (tGet 8 (sB (incB (stP s p) b)) b 1)))]) dX5_standBy_149 (q := 5) rfl (nI_add _ _) (by decide) rfl ?_
              refine j_goto (pc := 152) X (tgt := 102) dX5_standBy_152 (by decide) ?_
              refine j_lv X (lv' := [(0, .ref (m 0)), (1, .int (nI b)), (2, .int (nI p)), (3, .int (nI (tGet 8 (sB (incB (stP s p) b)) b 1))), (4, .int (nI (k + 1)))]) [2, 3, 4, 5, 0] rfl ?_
              exact ih_102 (k + 1) (by omega) (by omega) (fre_next hk (Or.inr ⟨by omega, h137⟩) hn2.2.2.2.2) (by omega)
            · skip
              refine j_aload_n (pc := 140) X dX5_standBy_140 rfl (q := 1) rfl ?_
              refine j_iload_n (pc := 141) X dX5_standBy_141 rfl (q := 2) rfl ?_
              refine j_iload_n (pc := 142) X dX5_standBy_142 rfl (q := 4) rfl ?_
              refine j_iload (pc := 143) X dX5_standBy_143 (q := 0) rfl ?_
              refine j_callVy (pc := 145) X (st := []) (w' := fun R145 => (rW tA m (mfs m st kp len wt (ftS wt b ft 1) ps f1 f2) R145)) (c_X5_give l D tA m (mfs m st kp len wt (ftS wt b ft 1) ps f1 f2) (va_up R42 (45 + 8 * b + 7) (tGet 8 (sB (stP s p)) b 7 + 1)) (incB (stP s p) b) b (tGet 8 (sB (incB (stP s p) b)) b 1) ((sN (incB (stP s p) b)) + k) hrB hw2 hb hb2.2.1 (by omega) h52) cd_X5_give wm_X5_72 0 rfl rfl rfl [0, 1] rfl rfl (fun _ => rw_fst) (fun _ => rfl) ⟨Nat.le_of_ble_eq_true rfl, Nat.le_of_ble_eq_true rfl⟩ ⟨Nat.zero_le _, Nat.zero_le _⟩ rfl (Nat.le_of_ble_eq_true rfl) dX5_standBy_145 (fun R145 hu145 => ?_)
              obtain ⟨hr145, ho145⟩ := hu145
              exact j_endVy (pc := 148) E dX5_standBy_148 R145 (⟨by rw [cry_some hk rfl (by omega) (by omega) (Decidable.not_not.mp h137)]; exact hr145, (Out.tr (Out.up (Out.tr (Out.up (Out.up Out.rf (by omega)) (by omega)) ho42) (by omega)) ho145)⟩) rfl
    refine j_lv X (lv' := [(0, .ref (m 0)), (1, .int (nI b)), (2, .int (nI p)), (3, .int (nI (tGet 8 (sB (incB (stP s p) b)) b 1))), (4, .int (nI 1))]) [2, 3, 4, 1, 0] rfl ?_
    exact L_102 _ 1 (Nat.le_refl _) (by decide) (by rw [show frN (sN (incB (stP s p) b)) 1 = min (sN (incB (stP s p) b) + 9) 199 - sN (incB (stP s p) b) from by unfold frN; omega]) (Nat.lt_succ_self _)
  · skip
    refine j_iload_n (pc := 69) X dX5_standBy_69 rfl (q := 2) rfl ?_
    refine j_if_ge_t (pc := 70) X (tgt := 77) dX5_standBy_70 (by decide) ((nC_ge0 (by omega)).mpr trivial) ?_
    refine j_iconst (pc := 77) X (v := (nI 1)) dX5_standBy_77 (by decide) ?_
    refine j_goto (pc := 78) X (tgt := 85) dX5_standBy_78 (by decide) ?_
    refine j_top (v' := nI (ftS wt b ft 1)) (by rw [ftS, if_pos (Decidable.not_not.mp h66)]) ?_
    refine j_put (pc := 85) X (C := RX5) (T := TX5) (N := 10) wz_X5 tyX5 tyX5_ok nmX5 0 rfl rfl 6 (by decide) wf_X5_101 rfl rfl rfl (Nat.le_of_ble_eq_true rfl) (w' := (rW tA m (mfs m st kp len wt (ftS wt b ft 1) ps f1 f2) (va_up R42 (45 + 8 * b + 7) ((tGet 8 (sB (payS (uP s (tSet 2 (sP s) p 1 (tGet 2 (sP s) p 1 + 1))) p 8)) b 7) + 1)))) rfl dX5_standBy_85 ?_
    refine j_aload_n (pc := 88) X dX5_standBy_88 rfl (q := 0) rfl ?_
    refine j_get (pc := 89) X (C := RX5) (T := TX5) (N := 10) wz_X5 0 rfl rfl 0 (by decide) wf_X5_7 rfl dX5_standBy_89 ?_
    refine j_iload_n (pc := 92) X dX5_standBy_92 rfl (q := 1) rfl ?_
    refine j_iconst (pc := 93) X (v := (nI 1)) dX5_standBy_93 (by decide) ?_
    refine j_callSR (pc := 94) X (st := [.ref (m 1)])  (c_X5_ofBooking l D tA b 1 ) cd_X5_ofBooking wm_X5_53 rfl [] rfl rfl ⟨Nat.le_of_ble_eq_true rfl, Nat.le_of_ble_eq_true rfl⟩ ⟨Nat.zero_le _, Nat.zero_le _⟩ rfl (Nat.le_of_ble_eq_true rfl) dX5_standBy_94 ?_
    refine j_iald (pc := 97) X 1 (i := (45 + 8 * b + 1)) rfl (by omega) (by omega) dX5_standBy_97 ?_
    refine j_top (v' := nI (tGet 8 (sB (incB (stP s p) b)) b 1)) (congrArg nI (RB.b hrB hb (by omega))) ?_
    refine j_istore_n (pc := 98) X (lv' := [(3, .int (nI (tGet 8 (sB (incB (stP s p) b)) b 1))), (0, .ref (m 0)), (1, .int (nI b)), (2, .int (nI p))]) dX5_standBy_98 rfl (by decide) rfl ?_
    refine j_iconst (pc := 99) X (v := (nI 1)) dX5_standBy_99 (by decide) ?_
    refine j_istore (pc := 100) X (lv' := [(4, .int (nI 1)), (3, .int (nI (tGet 8 (sB (incB (stP s p) b)) b 1))), (0, .ref (m 0)), (1, .int (nI b)), (2, .int (nI p))]) dX5_standBy_100 (by decide) rfl ?_
    have L_102 : ∀ (fu : Nat) (k : Nat), 1 ≤ k → k ≤ 10 → fre (sB (incB (stP s p) b)) (tGet 8 (sB (incB (stP s p) b)) b 1) (min (sN (incB (stP s p) b) + 9) 199 - sN (incB (stP s p) b)) (sN (incB (stP s p) b) + 1) = fre (sB (incB (stP s p) b)) (tGet 8 (sB (incB (stP s p) b)) b 1) (frN (sN (incB (stP s p) b)) k) (sN (incB (stP s p) b) + k) → 10 - k < fu → J l D G 0 0 (rW tA m (mfs m st kp len wt (ftS wt b ft 1) ps f1 f2) (va_up R42 (45 + 8 * b + 7) (tGet 8 (sB (stP s p)) b 7 + 1))) [(0, .ref (m 0)), (1, .int (nI b)), (2, .int (nI p)), (3, .int (nI (tGet 8 (sB (incB (stP s p) b)) b 1))), (4, .int (nI k))] 102 [] := by
      intro fu
      induction fu with
      | zero => intro k hk1 hk2 hk hfu; exact absurd hfu (Nat.not_lt_zero _)
      | succ fu ih_102 =>
        intro k hk1 hk2 hk hfu
        refine j_iload (pc := 102) X dX5_standBy_102 (q := 4) rfl ?_
        refine j_bipush (pc := 104) X (v := (nI 9)) dX5_standBy_104 (by decide) ?_
        refine j_icmp_gt (pc := 106) X (tgt := 155) (P := 9 < k) dX5_standBy_106 (by decide) (nI_ltI (by omega) (by omega)) (fun h106 => ?_) (fun h106 => ?_)
        · skip
          refine j_aload_n (pc := 155) X dX5_standBy_155 rfl (q := 0) rfl ?_
          refine j_get (pc := 156) X (C := RX5) (T := TX5) (N := 10) wz_X5 0 rfl rfl 0 (by decide) wf_X5_7 rfl dX5_standBy_156 ?_
          refine j_iload_n (pc := 159) X dX5_standBy_159 rfl (q := 1) rfl ?_
          refine j_iconst (pc := 160) X (v := (nI 5)) dX5_standBy_160 (by decide) ?_
          refine j_callSR (pc := 161) X (st := [.ref (m 1)])  (c_X5_ofBooking l D tA b 5 ) cd_X5_ofBooking wm_X5_53 rfl [] rfl rfl ⟨Nat.le_of_ble_eq_true rfl, Nat.le_of_ble_eq_true rfl⟩ ⟨Nat.zero_le _, Nat.zero_le _⟩ rfl (Nat.le_of_ble_eq_true rfl) dX5_standBy_161 ?_
          refine j_iconst (pc := 164) X (v := (nI 2)) dX5_standBy_164 (by decide) ?_
          refine j_iast (pc := 165) X 1 (i := (45 + 8 * b + 5)) (v := 2) rfl (by omega) (by omega) (w' := (rW tA m (mfs m st kp len wt (ftS wt b ft 1) ps f1 f2) (va_up (va_up R42 (45 + 8 * b + 7) (tGet 8 (sB (stP s p)) b 7 + 1)) (45 + 8 * b + 5) 2))) rfl dX5_standBy_165 ?_
          exact j_endVy (pc := 166) E dX5_standBy_166 (va_up (va_up R42 (45 + 8 * b + 7) (tGet 8 (sB (stP s p)) b 7 + 1)) (45 + 8 * b + 5) 2) (⟨by rw [cry_none hk (by omega)]; exact RB.setB hrB hw2 hb (by decide) (Or.inr ⟨h52, fun _ => by decide⟩), (Out.up (Out.up (Out.tr (Out.up (Out.up Out.rf (by omega)) (by omega)) ho42) (by omega)) (by omega))⟩) rfl
        · skip
          refine j_aload_n (pc := 109) X dX5_standBy_109 rfl (q := 0) rfl ?_
          refine j_get (pc := 110) X (C := RX5) (T := TX5) (N := 10) wz_X5 0 rfl rfl 0 (by decide) wf_X5_7 rfl dX5_standBy_110 ?_
          refine j_iconst (pc := 113) X (v := (nI 0)) dX5_standBy_113 (by decide) ?_
          refine j_iald (pc := 114) X 1 (i := 0) rfl (by omega) (by omega) dX5_standBy_114 ?_
          refine j_top (v' := nI (sN (incB (stP s p) b))) (congrArg nI (RB.n0 hrB)) ?_
          refine j_iload (pc := 115) X dX5_standBy_115 (q := 4) rfl ?_
          refine j_iadd (pc := 117) X (v := (nI ((sN (incB (stP s p) b)) + k))) dX5_standBy_117 (nI_add _ _) ?_
          refine j_istore (pc := 118) X (lv' := [(5, .int (nI ((sN (incB (stP s p) b)) + k))), (0, .ref (m 0)), (1, .int (nI b)), (2, .int (nI p)), (3, .int (nI (tGet 8 (sB (incB (stP s p) b)) b 1))), (4, .int (nI k))]) dX5_standBy_118 (by decide) rfl ?_
          refine j_iload (pc := 120) X dX5_standBy_120 (q := 0) rfl ?_
          refine j_sipush (pc := 122) X (v := (nI 199)) dX5_standBy_122 (by decide) ?_
          refine j_icmp_gt (pc := 125) X (tgt := 149) (P := 199 < ((sN (incB (stP s p) b)) + k)) dX5_standBy_125 (by decide) (nI_ltI (by omega) (by omega)) (fun h125 => ?_) (fun h125 => ?_)
          · skip
            refine j_iinc (pc := 149) X (v := (nI (k + 1))) (lv' := [(4, .int (nI (k + 1))), (5, .int (nI ((sN (incB (stP s p) b)) + k))), (0, .ref (m 0)), (1, .int (nI b)), (2, .int (nI p)), (3, .int (nI (tGet 8 (sB (incB (stP s p) b)) b 1)))]) dX5_standBy_149 (q := 5) rfl (nI_add _ _) (by decide) rfl ?_
            refine j_goto (pc := 152) X (tgt := 102) dX5_standBy_152 (by decide) ?_
            refine j_lv X (lv' := [(0, .ref (m 0)), (1, .int (nI b)), (2, .int (nI p)), (3, .int (nI (tGet 8 (sB (incB (stP s p) b)) b 1))), (4, .int (nI (k + 1)))]) [2, 3, 4, 5, 0] rfl ?_
            exact ih_102 (k + 1) (by omega) (by omega) (fre_next hk (Or.inl (by omega)) hn2.2.2.2.2) (by omega)
          · skip
            refine j_aload_n (pc := 128) X dX5_standBy_128 rfl (q := 1) rfl ?_
            refine j_iload_n (pc := 129) X dX5_standBy_129 rfl (q := 4) rfl ?_
            refine j_iload (pc := 130) X dX5_standBy_130 (q := 0) rfl ?_
            refine j_callVR (pc := 132) X (st := [])  (c_X5_bookingAt l D tA m (mfs m st kp len wt (ftS wt b ft 1) ps f1 f2) (va_up R42 (45 + 8 * b + 7) (tGet 8 (sB (stP s p)) b 7 + 1)) (incB (stP s p) b) (tGet 8 (sB (incB (stP s p) b)) b 1) ((sN (incB (stP s p) b)) + k) hrB hw2 (by have := hb2.2.1; omega) (by omega)) cd_X5_bookingAt wm_X5_69 0 rfl rfl rfl [0, 1] rfl rfl ⟨Nat.le_of_ble_eq_true rfl, Nat.le_of_ble_eq_true rfl⟩ ⟨Nat.zero_le _, Nat.zero_le _⟩ rfl (Nat.le_of_ble_eq_true rfl) dX5_standBy_132 ?_
            refine j_bipush (pc := 135) X (v := (-5)) dX5_standBy_135 (by decide) ?_
            refine j_icmp_ne (pc := 137) X (tgt := 149) (P := ¬ (bkF (sB (incB (stP s p) b)) (tGet 8 (sB (incB (stP s p) b)) b 1) ((sN (incB (stP s p) b)) + k)) = none) dX5_standBy_137 (by decide) (not_congr (rO_none (fun q hq => by have := bkF_lt hq; omega))) (fun h137 => ?_) (fun h137 => ?_)
            · skip
              refine j_iinc (pc := 149) X (v := (nI (k + 1))) (lv' := [(4, .int (nI (k + 1))), (5, .int (nI ((sN (incB (stP s p) b)) + k))), (0, .ref (m 0)), (1, .int (nI b)), (2, .int (nI p)), (3, .int (nI (tGet 8 (sB (incB (stP s p) b)) b 1)))]) dX5_standBy_149 (q := 5) rfl (nI_add _ _) (by decide) rfl ?_
              refine j_goto (pc := 152) X (tgt := 102) dX5_standBy_152 (by decide) ?_
              refine j_lv X (lv' := [(0, .ref (m 0)), (1, .int (nI b)), (2, .int (nI p)), (3, .int (nI (tGet 8 (sB (incB (stP s p) b)) b 1))), (4, .int (nI (k + 1)))]) [2, 3, 4, 5, 0] rfl ?_
              exact ih_102 (k + 1) (by omega) (by omega) (fre_next hk (Or.inr ⟨by omega, h137⟩) hn2.2.2.2.2) (by omega)
            · skip
              refine j_aload_n (pc := 140) X dX5_standBy_140 rfl (q := 1) rfl ?_
              refine j_iload_n (pc := 141) X dX5_standBy_141 rfl (q := 2) rfl ?_
              refine j_iload_n (pc := 142) X dX5_standBy_142 rfl (q := 4) rfl ?_
              refine j_iload (pc := 143) X dX5_standBy_143 (q := 0) rfl ?_
              refine j_callVy (pc := 145) X (st := []) (w' := fun R145 => (rW tA m (mfs m st kp len wt (ftS wt b ft 1) ps f1 f2) R145)) (c_X5_give l D tA m (mfs m st kp len wt (ftS wt b ft 1) ps f1 f2) (va_up R42 (45 + 8 * b + 7) (tGet 8 (sB (stP s p)) b 7 + 1)) (incB (stP s p) b) b (tGet 8 (sB (incB (stP s p) b)) b 1) ((sN (incB (stP s p) b)) + k) hrB hw2 hb hb2.2.1 (by omega) h52) cd_X5_give wm_X5_72 0 rfl rfl rfl [0, 1] rfl rfl (fun _ => rw_fst) (fun _ => rfl) ⟨Nat.le_of_ble_eq_true rfl, Nat.le_of_ble_eq_true rfl⟩ ⟨Nat.zero_le _, Nat.zero_le _⟩ rfl (Nat.le_of_ble_eq_true rfl) dX5_standBy_145 (fun R145 hu145 => ?_)
              obtain ⟨hr145, ho145⟩ := hu145
              exact j_endVy (pc := 148) E dX5_standBy_148 R145 (⟨by rw [cry_some hk rfl (by omega) (by omega) (Decidable.not_not.mp h137)]; exact hr145, (Out.tr (Out.up (Out.tr (Out.up (Out.up Out.rf (by omega)) (by omega)) ho42) (by omega)) ho145)⟩) rfl
    refine j_lv X (lv' := [(0, .ref (m 0)), (1, .int (nI b)), (2, .int (nI p)), (3, .int (nI (tGet 8 (sB (incB (stP s p) b)) b 1))), (4, .int (nI 1))]) [2, 3, 4, 1, 0] rfl ?_
    exact L_102 _ 1 (Nat.le_refl _) (by decide) (by rw [show frN (sN (incB (stP s p) b)) 1 = min (sN (incB (stP s p) b) + 9) 199 - sN (incB (stP s p) b) from by unfold frN; omega]) (Nat.lt_succ_self _)
set_option maxHeartbeats 4000000 in
set_option maxRecDepth 100000 in
theorem c_X5_standBy0 (l : Launch) (D : va_G) (tA : Nat → ClassId) (m : Nat → Nat) (R : Nat → Nat) (s : Sg) (st : Nat) (kp : Bool) (len : Nat) (wt : Option Nat) (ft ps : Nat) (f1 f2 : Int32) (b : Nat) (who : Int32) (hr : RB s R) (hw : Wf s) (hwt : ∀ q, wt = some q → q < 2 ^ 31)  (hb : b < (sB s).1) (h5 : tGet 8 (sB s) b 5 = 0) (hneg : who.toInt < 0) : Ky l D tA yX5_standBy cX5_standBy 6 none 2 44 [.ref (m 0), .int (nI b), .int who] (rW tA m (mfs m st kp len wt ft ps f1 f2) R) (S := Nat → Nat) (fun R1 => RB (cryS (incB (stX s) b) b) R1 ∧ Out R R1) (fun _ => none) (fun R1 => (rW tA m (mfs m st kp len wt (ftS wt b ft 2) ps f1 f2) R1)) := by
  refine ky_void rfl (Nat.le_of_ble_eq_true rfl) (fun G X E => ?_)
  show J l D G 0 0 (rW tA m (mfs m st kp len wt ft ps f1 f2) R) [(0, .ref (m 0)), (1, .int (nI b)), (2, .int who)] 0 []
  have hn := hw.n
  refine j_aload_n (pc := 0) X dX5_standBy_0 rfl (q := 0) rfl ?_
  refine j_get (pc := 1) X (C := RX5) (T := TX5) (N := 10) wz_X5 0 rfl rfl 0 (by decide) wf_X5_7 rfl dX5_standBy_1 ?_
  refine j_iload_n (pc := 4) X dX5_standBy_4 rfl (q := 2) rfl ?_
  refine j_if_ge_f (pc := 5) X (tgt := 13) dX5_standBy_5 (by decide) (fun z => absurd ((iC_ge0 _).mp z) (by omega)) ?_
  refine j_bipush (pc := 8) X (v := (nI 8)) dX5_standBy_8 (by decide) ?_
  refine j_goto (pc := 10) X (tgt := 15) dX5_standBy_10 (by decide) ?_
  refine j_dup2 (pc := 15) X dX5_standBy_15 rfl rfl ?_
  refine j_iald (pc := 16) X 1 (i := 8) rfl (by omega) (by omega) dX5_standBy_16 ?_
  refine j_top (v' := nI (sX s)) (congrArg nI (RB.n8 hr)) ?_
  refine j_iconst (pc := 17) X (v := (nI 1)) dX5_standBy_17 (by decide) ?_
  refine j_iadd (pc := 18) X (v := (nI ((sX s) + 1))) dX5_standBy_18 (nI_add _ _) ?_
  refine j_iast (pc := 19) X 1 (i := 8) (v := ((sX s) + 1)) rfl (by omega) (by omega) (w' := (rW tA m (mfs m st kp len wt ft ps f1 f2) (va_up R 8 (sX s + 1)))) rfl dX5_standBy_19 ?_
  have hrA : RB (stX s) (va_up R 8 (sX s + 1)) := hr.lowX hw
  refine j_iload_n (pc := 20) X dX5_standBy_20 rfl (q := 2) rfl ?_
  refine j_if_lt_t (pc := 21) X (tgt := 45) dX5_standBy_21 (by decide) ((iC_lt0 _).mpr hneg) ?_
  refine j_aload_n (pc := 45) X dX5_standBy_45 rfl (q := 0) rfl ?_
  refine j_get (pc := 46) X (C := RX5) (T := TX5) (N := 10) wz_X5 0 rfl rfl 0 (by decide) wf_X5_7 rfl dX5_standBy_46 ?_
  refine j_iload_n (pc := 49) X dX5_standBy_49 rfl (q := 1) rfl ?_
  refine j_bipush (pc := 50) X (v := (nI 7)) dX5_standBy_50 (by decide) ?_
  refine j_callSR (pc := 52) X (st := [.ref (m 1)])  (c_X5_ofBooking l D tA b 7 ) cd_X5_ofBooking wm_X5_53 rfl [] rfl rfl ⟨Nat.le_of_ble_eq_true rfl, Nat.le_of_ble_eq_true rfl⟩ ⟨Nat.zero_le _, Nat.zero_le _⟩ rfl (Nat.le_of_ble_eq_true rfl) dX5_standBy_52 ?_
  refine j_dup2 (pc := 55) X dX5_standBy_55 rfl rfl ?_
  refine j_iald (pc := 56) X 1 (i := (45 + 8 * b + 7)) rfl (by omega) (by omega) dX5_standBy_56 ?_
  refine j_top (v' := nI (tGet 8 (sB (stX s)) b 7)) (congrArg nI (RB.b hrA hb (by omega))) ?_
  refine j_iconst (pc := 57) X (v := (nI 1)) dX5_standBy_57 (by decide) ?_
  refine j_iadd (pc := 58) X (v := (nI ((tGet 8 (sB (stX s)) b 7) + 1))) dX5_standBy_58 (nI_add _ _) ?_
  refine j_iast (pc := 59) X 1 (i := (45 + 8 * b + 7)) (v := ((tGet 8 (sB (stX s)) b 7) + 1)) rfl (by omega) (by omega) (w' := (rW tA m (mfs m st kp len wt ft ps f1 f2) (va_up (va_up R 8 (sX s + 1)) (45 + 8 * b + 7) ((tGet 8 (sB (stX s)) b 7) + 1)))) rfl dX5_standBy_59 ?_
  have hrB : RB (incB (stX s) b) (va_up (va_up R 8 (sX s + 1)) (45 + 8 * b + 7) ((tGet 8 (sB (stX s)) b 7) + 1)) := RB.setB hrA (stX_wf hw) hb (by decide) (Or.inl (by decide))
  have hw2 : Wf (incB (stX s) b) := Wf.inc (stX_wf hw)
  have hn2 := hw2.n
  have hb2 := hw2.b (b := b) hb
  have h52 : tGet 8 (sB (incB (stX s) b)) b 5 ≠ 1 := inc_5 (by show tGet 8 (sB s) b 5 ≠ 1; omega)
  refine j_aload_n (pc := 60) X dX5_standBy_60 rfl (q := 0) rfl ?_
  refine j_iload_n (pc := 61) X dX5_standBy_61 rfl (q := 1) rfl ?_
  refine j_aload_n (pc := 62) X dX5_standBy_62 rfl (q := 0) rfl ?_
  refine j_get (pc := 63) X (C := RX5) (T := TX5) (N := 10) wz_X5 0 rfl rfl 5 (by decide) wf_X5_16 rfl dX5_standBy_63 ?_
  refine j_icmp_ne (pc := 66) X (tgt := 81) (P := ¬ wt = some b) dX5_standBy_66 (by decide) (not_congr (rO_is (by omega) hwt)) (fun h66 => ?_) (fun h66 => ?_)
  · skip
    refine j_aload_n (pc := 81) X dX5_standBy_81 rfl (q := 0) rfl ?_
    refine j_get (pc := 82) X (C := RX5) (T := TX5) (N := 10) wz_X5 0 rfl rfl 6 (by decide) wf_X5_101 rfl dX5_standBy_82 ?_
    refine j_top (v' := nI (ftS wt b ft 2)) (by rw [ftS, if_neg h66]) ?_
    refine j_put (pc := 85) X (C := RX5) (T := TX5) (N := 10) wz_X5 tyX5 tyX5_ok nmX5 0 rfl rfl 6 (by decide) wf_X5_101 rfl rfl rfl (Nat.le_of_ble_eq_true rfl) (w' := (rW tA m (mfs m st kp len wt (ftS wt b ft 2) ps f1 f2) (va_up (va_up R 8 (sX s + 1)) (45 + 8 * b + 7) ((tGet 8 (sB (stX s)) b 7) + 1)))) rfl dX5_standBy_85 ?_
    refine j_aload_n (pc := 88) X dX5_standBy_88 rfl (q := 0) rfl ?_
    refine j_get (pc := 89) X (C := RX5) (T := TX5) (N := 10) wz_X5 0 rfl rfl 0 (by decide) wf_X5_7 rfl dX5_standBy_89 ?_
    refine j_iload_n (pc := 92) X dX5_standBy_92 rfl (q := 1) rfl ?_
    refine j_iconst (pc := 93) X (v := (nI 1)) dX5_standBy_93 (by decide) ?_
    refine j_callSR (pc := 94) X (st := [.ref (m 1)])  (c_X5_ofBooking l D tA b 1 ) cd_X5_ofBooking wm_X5_53 rfl [] rfl rfl ⟨Nat.le_of_ble_eq_true rfl, Nat.le_of_ble_eq_true rfl⟩ ⟨Nat.zero_le _, Nat.zero_le _⟩ rfl (Nat.le_of_ble_eq_true rfl) dX5_standBy_94 ?_
    refine j_iald (pc := 97) X 1 (i := (45 + 8 * b + 1)) rfl (by omega) (by omega) dX5_standBy_97 ?_
    refine j_top (v' := nI (tGet 8 (sB (incB (stX s) b)) b 1)) (congrArg nI (RB.b hrB hb (by omega))) ?_
    refine j_istore_n (pc := 98) X (lv' := [(3, .int (nI (tGet 8 (sB (incB (stX s) b)) b 1))), (0, .ref (m 0)), (1, .int (nI b)), (2, .int who)]) dX5_standBy_98 rfl (by decide) rfl ?_
    refine j_iconst (pc := 99) X (v := (nI 1)) dX5_standBy_99 (by decide) ?_
    refine j_istore (pc := 100) X (lv' := [(4, .int (nI 1)), (3, .int (nI (tGet 8 (sB (incB (stX s) b)) b 1))), (0, .ref (m 0)), (1, .int (nI b)), (2, .int who)]) dX5_standBy_100 (by decide) rfl ?_
    have L_102 : ∀ (fu : Nat) (k : Nat), 1 ≤ k → k ≤ 10 → fre (sB (incB (stX s) b)) (tGet 8 (sB (incB (stX s) b)) b 1) (min (sN (incB (stX s) b) + 9) 199 - sN (incB (stX s) b)) (sN (incB (stX s) b) + 1) = fre (sB (incB (stX s) b)) (tGet 8 (sB (incB (stX s) b)) b 1) (frN (sN (incB (stX s) b)) k) (sN (incB (stX s) b) + k) → 10 - k < fu → J l D G 0 0 (rW tA m (mfs m st kp len wt (ftS wt b ft 2) ps f1 f2) (va_up (va_up R 8 (sX s + 1)) (45 + 8 * b + 7) (tGet 8 (sB (stX s)) b 7 + 1))) [(0, .ref (m 0)), (1, .int (nI b)), (2, .int who), (3, .int (nI (tGet 8 (sB (incB (stX s) b)) b 1))), (4, .int (nI k))] 102 [] := by
      intro fu
      induction fu with
      | zero => intro k hk1 hk2 hk hfu; exact absurd hfu (Nat.not_lt_zero _)
      | succ fu ih_102 =>
        intro k hk1 hk2 hk hfu
        refine j_iload (pc := 102) X dX5_standBy_102 (q := 4) rfl ?_
        refine j_bipush (pc := 104) X (v := (nI 9)) dX5_standBy_104 (by decide) ?_
        refine j_icmp_gt (pc := 106) X (tgt := 155) (P := 9 < k) dX5_standBy_106 (by decide) (nI_ltI (by omega) (by omega)) (fun h106 => ?_) (fun h106 => ?_)
        · skip
          refine j_aload_n (pc := 155) X dX5_standBy_155 rfl (q := 0) rfl ?_
          refine j_get (pc := 156) X (C := RX5) (T := TX5) (N := 10) wz_X5 0 rfl rfl 0 (by decide) wf_X5_7 rfl dX5_standBy_156 ?_
          refine j_iload_n (pc := 159) X dX5_standBy_159 rfl (q := 1) rfl ?_
          refine j_iconst (pc := 160) X (v := (nI 5)) dX5_standBy_160 (by decide) ?_
          refine j_callSR (pc := 161) X (st := [.ref (m 1)])  (c_X5_ofBooking l D tA b 5 ) cd_X5_ofBooking wm_X5_53 rfl [] rfl rfl ⟨Nat.le_of_ble_eq_true rfl, Nat.le_of_ble_eq_true rfl⟩ ⟨Nat.zero_le _, Nat.zero_le _⟩ rfl (Nat.le_of_ble_eq_true rfl) dX5_standBy_161 ?_
          refine j_iconst (pc := 164) X (v := (nI 2)) dX5_standBy_164 (by decide) ?_
          refine j_iast (pc := 165) X 1 (i := (45 + 8 * b + 5)) (v := 2) rfl (by omega) (by omega) (w' := (rW tA m (mfs m st kp len wt (ftS wt b ft 2) ps f1 f2) (va_up (va_up (va_up R 8 (sX s + 1)) (45 + 8 * b + 7) (tGet 8 (sB (stX s)) b 7 + 1)) (45 + 8 * b + 5) 2))) rfl dX5_standBy_165 ?_
          exact j_endVy (pc := 166) E dX5_standBy_166 (va_up (va_up (va_up R 8 (sX s + 1)) (45 + 8 * b + 7) (tGet 8 (sB (stX s)) b 7 + 1)) (45 + 8 * b + 5) 2) (⟨by rw [cry_none hk (by omega)]; exact RB.setB hrB hw2 hb (by decide) (Or.inr ⟨h52, fun _ => by decide⟩), (Out.up (Out.up (Out.up Out.rf (by omega)) (by omega)) (by omega))⟩) rfl
        · skip
          refine j_aload_n (pc := 109) X dX5_standBy_109 rfl (q := 0) rfl ?_
          refine j_get (pc := 110) X (C := RX5) (T := TX5) (N := 10) wz_X5 0 rfl rfl 0 (by decide) wf_X5_7 rfl dX5_standBy_110 ?_
          refine j_iconst (pc := 113) X (v := (nI 0)) dX5_standBy_113 (by decide) ?_
          refine j_iald (pc := 114) X 1 (i := 0) rfl (by omega) (by omega) dX5_standBy_114 ?_
          refine j_top (v' := nI (sN (incB (stX s) b))) (congrArg nI (RB.n0 hrB)) ?_
          refine j_iload (pc := 115) X dX5_standBy_115 (q := 4) rfl ?_
          refine j_iadd (pc := 117) X (v := (nI ((sN (incB (stX s) b)) + k))) dX5_standBy_117 (nI_add _ _) ?_
          refine j_istore (pc := 118) X (lv' := [(5, .int (nI ((sN (incB (stX s) b)) + k))), (0, .ref (m 0)), (1, .int (nI b)), (2, .int who), (3, .int (nI (tGet 8 (sB (incB (stX s) b)) b 1))), (4, .int (nI k))]) dX5_standBy_118 (by decide) rfl ?_
          refine j_iload (pc := 120) X dX5_standBy_120 (q := 0) rfl ?_
          refine j_sipush (pc := 122) X (v := (nI 199)) dX5_standBy_122 (by decide) ?_
          refine j_icmp_gt (pc := 125) X (tgt := 149) (P := 199 < ((sN (incB (stX s) b)) + k)) dX5_standBy_125 (by decide) (nI_ltI (by omega) (by omega)) (fun h125 => ?_) (fun h125 => ?_)
          · skip
            refine j_iinc (pc := 149) X (v := (nI (k + 1))) (lv' := [(4, .int (nI (k + 1))), (5, .int (nI ((sN (incB (stX s) b)) + k))), (0, .ref (m 0)), (1, .int (nI b)), (2, .int who), (3, .int (nI (tGet 8 (sB (incB (stX s) b)) b 1)))]) dX5_standBy_149 (q := 5) rfl (nI_add _ _) (by decide) rfl ?_
            refine j_goto (pc := 152) X (tgt := 102) dX5_standBy_152 (by decide) ?_
            refine j_lv X (lv' := [(0, .ref (m 0)), (1, .int (nI b)), (2, .int who), (3, .int (nI (tGet 8 (sB (incB (stX s) b)) b 1))), (4, .int (nI (k + 1)))]) [2, 3, 4, 5, 0] rfl ?_
            exact ih_102 (k + 1) (by omega) (by omega) (fre_next hk (Or.inl (by omega)) hn2.2.2.2.2) (by omega)
          · skip
            refine j_aload_n (pc := 128) X dX5_standBy_128 rfl (q := 1) rfl ?_
            refine j_iload_n (pc := 129) X dX5_standBy_129 rfl (q := 4) rfl ?_
            refine j_iload (pc := 130) X dX5_standBy_130 (q := 0) rfl ?_
            refine j_callVR (pc := 132) X (st := [])  (c_X5_bookingAt l D tA m (mfs m st kp len wt (ftS wt b ft 2) ps f1 f2) (va_up (va_up R 8 (sX s + 1)) (45 + 8 * b + 7) (tGet 8 (sB (stX s)) b 7 + 1)) (incB (stX s) b) (tGet 8 (sB (incB (stX s) b)) b 1) ((sN (incB (stX s) b)) + k) hrB hw2 (by have := hb2.2.1; omega) (by omega)) cd_X5_bookingAt wm_X5_69 0 rfl rfl rfl [0, 1] rfl rfl ⟨Nat.le_of_ble_eq_true rfl, Nat.le_of_ble_eq_true rfl⟩ ⟨Nat.zero_le _, Nat.zero_le _⟩ rfl (Nat.le_of_ble_eq_true rfl) dX5_standBy_132 ?_
            refine j_bipush (pc := 135) X (v := (-5)) dX5_standBy_135 (by decide) ?_
            refine j_icmp_ne (pc := 137) X (tgt := 149) (P := ¬ (bkF (sB (incB (stX s) b)) (tGet 8 (sB (incB (stX s) b)) b 1) ((sN (incB (stX s) b)) + k)) = none) dX5_standBy_137 (by decide) (not_congr (rO_none (fun q hq => by have := bkF_lt hq; omega))) (fun h137 => ?_) (fun h137 => ?_)
            · skip
              refine j_iinc (pc := 149) X (v := (nI (k + 1))) (lv' := [(4, .int (nI (k + 1))), (5, .int (nI ((sN (incB (stX s) b)) + k))), (0, .ref (m 0)), (1, .int (nI b)), (2, .int who), (3, .int (nI (tGet 8 (sB (incB (stX s) b)) b 1)))]) dX5_standBy_149 (q := 5) rfl (nI_add _ _) (by decide) rfl ?_
              refine j_goto (pc := 152) X (tgt := 102) dX5_standBy_152 (by decide) ?_
              refine j_lv X (lv' := [(0, .ref (m 0)), (1, .int (nI b)), (2, .int who), (3, .int (nI (tGet 8 (sB (incB (stX s) b)) b 1))), (4, .int (nI (k + 1)))]) [2, 3, 4, 5, 0] rfl ?_
              exact ih_102 (k + 1) (by omega) (by omega) (fre_next hk (Or.inr ⟨by omega, h137⟩) hn2.2.2.2.2) (by omega)
            · skip
              refine j_aload_n (pc := 140) X dX5_standBy_140 rfl (q := 1) rfl ?_
              refine j_iload_n (pc := 141) X dX5_standBy_141 rfl (q := 2) rfl ?_
              refine j_iload_n (pc := 142) X dX5_standBy_142 rfl (q := 4) rfl ?_
              refine j_iload (pc := 143) X dX5_standBy_143 (q := 0) rfl ?_
              refine j_callVy (pc := 145) X (st := []) (w' := fun R145 => (rW tA m (mfs m st kp len wt (ftS wt b ft 2) ps f1 f2) R145)) (c_X5_give l D tA m (mfs m st kp len wt (ftS wt b ft 2) ps f1 f2) (va_up (va_up R 8 (sX s + 1)) (45 + 8 * b + 7) (tGet 8 (sB (stX s)) b 7 + 1)) (incB (stX s) b) b (tGet 8 (sB (incB (stX s) b)) b 1) ((sN (incB (stX s) b)) + k) hrB hw2 hb hb2.2.1 (by omega) h52) cd_X5_give wm_X5_72 0 rfl rfl rfl [0, 1] rfl rfl (fun _ => rw_fst) (fun _ => rfl) ⟨Nat.le_of_ble_eq_true rfl, Nat.le_of_ble_eq_true rfl⟩ ⟨Nat.zero_le _, Nat.zero_le _⟩ rfl (Nat.le_of_ble_eq_true rfl) dX5_standBy_145 (fun R145 hu145 => ?_)
              obtain ⟨hr145, ho145⟩ := hu145
              exact j_endVy (pc := 148) E dX5_standBy_148 R145 (⟨by rw [cry_some hk rfl (by omega) (by omega) (Decidable.not_not.mp h137)]; exact hr145, (Out.tr (Out.up (Out.up Out.rf (by omega)) (by omega)) ho145)⟩) rfl
    refine j_lv X (lv' := [(0, .ref (m 0)), (1, .int (nI b)), (2, .int who), (3, .int (nI (tGet 8 (sB (incB (stX s) b)) b 1))), (4, .int (nI 1))]) [2, 3, 4, 1, 0] rfl ?_
    exact L_102 _ 1 (Nat.le_refl _) (by decide) (by rw [show frN (sN (incB (stX s) b)) 1 = min (sN (incB (stX s) b) + 9) 199 - sN (incB (stX s) b) from by unfold frN; omega]) (Nat.lt_succ_self _)
  · skip
    refine j_iload_n (pc := 69) X dX5_standBy_69 rfl (q := 2) rfl ?_
    refine j_if_ge_f (pc := 70) X (tgt := 77) dX5_standBy_70 (by decide) (fun z => absurd ((iC_ge0 _).mp z) (by omega)) ?_
    refine j_iconst (pc := 73) X (v := (nI 2)) dX5_standBy_73 (by decide) ?_
    refine j_goto (pc := 74) X (tgt := 85) dX5_standBy_74 (by decide) ?_
    refine j_top (v' := nI (ftS wt b ft 2)) (by rw [ftS, if_pos (Decidable.not_not.mp h66)]) ?_
    refine j_put (pc := 85) X (C := RX5) (T := TX5) (N := 10) wz_X5 tyX5 tyX5_ok nmX5 0 rfl rfl 6 (by decide) wf_X5_101 rfl rfl rfl (Nat.le_of_ble_eq_true rfl) (w' := (rW tA m (mfs m st kp len wt (ftS wt b ft 2) ps f1 f2) (va_up (va_up R 8 (sX s + 1)) (45 + 8 * b + 7) ((tGet 8 (sB (stX s)) b 7) + 1)))) rfl dX5_standBy_85 ?_
    refine j_aload_n (pc := 88) X dX5_standBy_88 rfl (q := 0) rfl ?_
    refine j_get (pc := 89) X (C := RX5) (T := TX5) (N := 10) wz_X5 0 rfl rfl 0 (by decide) wf_X5_7 rfl dX5_standBy_89 ?_
    refine j_iload_n (pc := 92) X dX5_standBy_92 rfl (q := 1) rfl ?_
    refine j_iconst (pc := 93) X (v := (nI 1)) dX5_standBy_93 (by decide) ?_
    refine j_callSR (pc := 94) X (st := [.ref (m 1)])  (c_X5_ofBooking l D tA b 1 ) cd_X5_ofBooking wm_X5_53 rfl [] rfl rfl ⟨Nat.le_of_ble_eq_true rfl, Nat.le_of_ble_eq_true rfl⟩ ⟨Nat.zero_le _, Nat.zero_le _⟩ rfl (Nat.le_of_ble_eq_true rfl) dX5_standBy_94 ?_
    refine j_iald (pc := 97) X 1 (i := (45 + 8 * b + 1)) rfl (by omega) (by omega) dX5_standBy_97 ?_
    refine j_top (v' := nI (tGet 8 (sB (incB (stX s) b)) b 1)) (congrArg nI (RB.b hrB hb (by omega))) ?_
    refine j_istore_n (pc := 98) X (lv' := [(3, .int (nI (tGet 8 (sB (incB (stX s) b)) b 1))), (0, .ref (m 0)), (1, .int (nI b)), (2, .int who)]) dX5_standBy_98 rfl (by decide) rfl ?_
    refine j_iconst (pc := 99) X (v := (nI 1)) dX5_standBy_99 (by decide) ?_
    refine j_istore (pc := 100) X (lv' := [(4, .int (nI 1)), (3, .int (nI (tGet 8 (sB (incB (stX s) b)) b 1))), (0, .ref (m 0)), (1, .int (nI b)), (2, .int who)]) dX5_standBy_100 (by decide) rfl ?_
    have L_102 : ∀ (fu : Nat) (k : Nat), 1 ≤ k → k ≤ 10 → fre (sB (incB (stX s) b)) (tGet 8 (sB (incB (stX s) b)) b 1) (min (sN (incB (stX s) b) + 9) 199 - sN (incB (stX s) b)) (sN (incB (stX s) b) + 1) = fre (sB (incB (stX s) b)) (tGet 8 (sB (incB (stX s) b)) b 1) (frN (sN (incB (stX s) b)) k) (sN (incB (stX s) b) + k) → 10 - k < fu → J l D G 0 0 (rW tA m (mfs m st kp len wt (ftS wt b ft 2) ps f1 f2) (va_up (va_up R 8 (sX s + 1)) (45 + 8 * b + 7) (tGet 8 (sB (stX s)) b 7 + 1))) [(0, .ref (m 0)), (1, .int (nI b)), (2, .int who), (3, .int (nI (tGet 8 (sB (incB (stX s) b)) b 1))), (4, .int (nI k))] 102 [] := by
      intro fu
      induction fu with
      | zero => intro k hk1 hk2 hk hfu; exact absurd hfu (Nat.not_lt_zero _)
      | succ fu ih_102 =>
        intro k hk1 hk2 hk hfu
        refine j_iload (pc := 102) X dX5_standBy_102 (q := 4) rfl ?_
        refine j_bipush (pc := 104) X (v := (nI 9)) dX5_standBy_104 (by decide) ?_
        refine j_icmp_gt (pc := 106) X (tgt := 155) (P := 9 < k) dX5_standBy_106 (by decide) (nI_ltI (by omega) (by omega)) (fun h106 => ?_) (fun h106 => ?_)
        · skip
          refine j_aload_n (pc := 155) X dX5_standBy_155 rfl (q := 0) rfl ?_
          refine j_get (pc := 156) X (C := RX5) (T := TX5) (N := 10) wz_X5 0 rfl rfl 0 (by decide) wf_X5_7 rfl dX5_standBy_156 ?_
          refine j_iload_n (pc := 159) X dX5_standBy_159 rfl (q := 1) rfl ?_
          refine j_iconst (pc := 160) X (v := (nI 5)) dX5_standBy_160 (by decide) ?_
          refine j_callSR (pc := 161) X (st := [.ref (m 1)])  (c_X5_ofBooking l D tA b 5 ) cd_X5_ofBooking wm_X5_53 rfl [] rfl rfl ⟨Nat.le_of_ble_eq_true rfl, Nat.le_of_ble_eq_true rfl⟩ ⟨Nat.zero_le _, Nat.zero_le _⟩ rfl (Nat.le_of_ble_eq_true rfl) dX5_standBy_161 ?_
          refine j_iconst (pc := 164) X (v := (nI 2)) dX5_standBy_164 (by decide) ?_
          refine j_iast (pc := 165) X 1 (i := (45 + 8 * b + 5)) (v := 2) rfl (by omega) (by omega) (w' := (rW tA m (mfs m st kp len wt (ftS wt b ft 2) ps f1 f2) (va_up (va_up (va_up R 8 (sX s + 1)) (45 + 8 * b + 7) (tGet 8 (sB (stX s)) b 7 + 1)) (45 + 8 * b + 5) 2))) rfl dX5_standBy_165 ?_
          exact j_endVy (pc := 166) E dX5_standBy_166 (va_up (va_up (va_up R 8 (sX s + 1)) (45 + 8 * b + 7) (tGet 8 (sB (stX s)) b 7 + 1)) (45 + 8 * b + 5) 2) (⟨by rw [cry_none hk (by omega)]; exact RB.setB hrB hw2 hb (by decide) (Or.inr ⟨h52, fun _ => by decide⟩), (Out.up (Out.up (Out.up Out.rf (by omega)) (by omega)) (by omega))⟩) rfl
        · skip
          refine j_aload_n (pc := 109) X dX5_standBy_109 rfl (q := 0) rfl ?_
          refine j_get (pc := 110) X (C := RX5) (T := TX5) (N := 10) wz_X5 0 rfl rfl 0 (by decide) wf_X5_7 rfl dX5_standBy_110 ?_
          refine j_iconst (pc := 113) X (v := (nI 0)) dX5_standBy_113 (by decide) ?_
          refine j_iald (pc := 114) X 1 (i := 0) rfl (by omega) (by omega) dX5_standBy_114 ?_
          refine j_top (v' := nI (sN (incB (stX s) b))) (congrArg nI (RB.n0 hrB)) ?_
          refine j_iload (pc := 115) X dX5_standBy_115 (q := 4) rfl ?_
          refine j_iadd (pc := 117) X (v := (nI ((sN (incB (stX s) b)) + k))) dX5_standBy_117 (nI_add _ _) ?_
          refine j_istore (pc := 118) X (lv' := [(5, .int (nI ((sN (incB (stX s) b)) + k))), (0, .ref (m 0)), (1, .int (nI b)), (2, .int who), (3, .int (nI (tGet 8 (sB (incB (stX s) b)) b 1))), (4, .int (nI k))]) dX5_standBy_118 (by decide) rfl ?_
          refine j_iload (pc := 120) X dX5_standBy_120 (q := 0) rfl ?_
          refine j_sipush (pc := 122) X (v := (nI 199)) dX5_standBy_122 (by decide) ?_
          refine j_icmp_gt (pc := 125) X (tgt := 149) (P := 199 < ((sN (incB (stX s) b)) + k)) dX5_standBy_125 (by decide) (nI_ltI (by omega) (by omega)) (fun h125 => ?_) (fun h125 => ?_)
          · skip
            refine j_iinc (pc := 149) X (v := (nI (k + 1))) (lv' := [(4, .int (nI (k + 1))), (5, .int (nI ((sN (incB (stX s) b)) + k))), (0, .ref (m 0)), (1, .int (nI b)), (2, .int who), (3, .int (nI (tGet 8 (sB (incB (stX s) b)) b 1)))]) dX5_standBy_149 (q := 5) rfl (nI_add _ _) (by decide) rfl ?_
            refine j_goto (pc := 152) X (tgt := 102) dX5_standBy_152 (by decide) ?_
            refine j_lv X (lv' := [(0, .ref (m 0)), (1, .int (nI b)), (2, .int who), (3, .int (nI (tGet 8 (sB (incB (stX s) b)) b 1))), (4, .int (nI (k + 1)))]) [2, 3, 4, 5, 0] rfl ?_
            exact ih_102 (k + 1) (by omega) (by omega) (fre_next hk (Or.inl (by omega)) hn2.2.2.2.2) (by omega)
          · skip
            refine j_aload_n (pc := 128) X dX5_standBy_128 rfl (q := 1) rfl ?_
            refine j_iload_n (pc := 129) X dX5_standBy_129 rfl (q := 4) rfl ?_
            refine j_iload (pc := 130) X dX5_standBy_130 (q := 0) rfl ?_
            refine j_callVR (pc := 132) X (st := [])  (c_X5_bookingAt l D tA m (mfs m st kp len wt (ftS wt b ft 2) ps f1 f2) (va_up (va_up R 8 (sX s + 1)) (45 + 8 * b + 7) (tGet 8 (sB (stX s)) b 7 + 1)) (incB (stX s) b) (tGet 8 (sB (incB (stX s) b)) b 1) ((sN (incB (stX s) b)) + k) hrB hw2 (by have := hb2.2.1; omega) (by omega)) cd_X5_bookingAt wm_X5_69 0 rfl rfl rfl [0, 1] rfl rfl ⟨Nat.le_of_ble_eq_true rfl, Nat.le_of_ble_eq_true rfl⟩ ⟨Nat.zero_le _, Nat.zero_le _⟩ rfl (Nat.le_of_ble_eq_true rfl) dX5_standBy_132 ?_
            refine j_bipush (pc := 135) X (v := (-5)) dX5_standBy_135 (by decide) ?_
            refine j_icmp_ne (pc := 137) X (tgt := 149) (P := ¬ (bkF (sB (incB (stX s) b)) (tGet 8 (sB (incB (stX s) b)) b 1) ((sN (incB (stX s) b)) + k)) = none) dX5_standBy_137 (by decide) (not_congr (rO_none (fun q hq => by have := bkF_lt hq; omega))) (fun h137 => ?_) (fun h137 => ?_)
            · skip
              refine j_iinc (pc := 149) X (v := (nI (k + 1))) (lv' := [(4, .int (nI (k + 1))), (5, .int (nI ((sN (incB (stX s) b)) + k))), (0, .ref (m 0)), (1, .int (nI b)), (2, .int who), (3, .int (nI (tGet 8 (sB (incB (stX s) b)) b 1)))]) dX5_standBy_149 (q := 5) rfl (nI_add _ _) (by decide) rfl ?_
              refine j_goto (pc := 152) X (tgt := 102) dX5_standBy_152 (by decide) ?_
              refine j_lv X (lv' := [(0, .ref (m 0)), (1, .int (nI b)), (2, .int who), (3, .int (nI (tGet 8 (sB (incB (stX s) b)) b 1))), (4, .int (nI (k + 1)))]) [2, 3, 4, 5, 0] rfl ?_
              exact ih_102 (k + 1) (by omega) (by omega) (fre_next hk (Or.inr ⟨by omega, h137⟩) hn2.2.2.2.2) (by omega)
            · skip
              refine j_aload_n (pc := 140) X dX5_standBy_140 rfl (q := 1) rfl ?_
              refine j_iload_n (pc := 141) X dX5_standBy_141 rfl (q := 2) rfl ?_
              refine j_iload_n (pc := 142) X dX5_standBy_142 rfl (q := 4) rfl ?_
              refine j_iload (pc := 143) X dX5_standBy_143 (q := 0) rfl ?_
              refine j_callVy (pc := 145) X (st := []) (w' := fun R145 => (rW tA m (mfs m st kp len wt (ftS wt b ft 2) ps f1 f2) R145)) (c_X5_give l D tA m (mfs m st kp len wt (ftS wt b ft 2) ps f1 f2) (va_up (va_up R 8 (sX s + 1)) (45 + 8 * b + 7) (tGet 8 (sB (stX s)) b 7 + 1)) (incB (stX s) b) b (tGet 8 (sB (incB (stX s) b)) b 1) ((sN (incB (stX s) b)) + k) hrB hw2 hb hb2.2.1 (by omega) h52) cd_X5_give wm_X5_72 0 rfl rfl rfl [0, 1] rfl rfl (fun _ => rw_fst) (fun _ => rfl) ⟨Nat.le_of_ble_eq_true rfl, Nat.le_of_ble_eq_true rfl⟩ ⟨Nat.zero_le _, Nat.zero_le _⟩ rfl (Nat.le_of_ble_eq_true rfl) dX5_standBy_145 (fun R145 hu145 => ?_)
              obtain ⟨hr145, ho145⟩ := hu145
              exact j_endVy (pc := 148) E dX5_standBy_148 R145 (⟨by rw [cry_some hk rfl (by omega) (by omega) (Decidable.not_not.mp h137)]; exact hr145, (Out.tr (Out.up (Out.up Out.rf (by omega)) (by omega)) ho145)⟩) rfl
    refine j_lv X (lv' := [(0, .ref (m 0)), (1, .int (nI b)), (2, .int who), (3, .int (nI (tGet 8 (sB (incB (stX s) b)) b 1))), (4, .int (nI 1))]) [2, 3, 4, 1, 0] rfl ?_
    exact L_102 _ 1 (Nat.le_refl _) (by decide) (by rw [show frN (sN (incB (stX s) b)) 1 = min (sN (incB (stX s) b) + 9) 199 - sN (incB (stX s) b) from by unfold frN; omega]) (Nat.lt_succ_self _)
/-- what becomes of a booking whose half day it is -/
def lifS (s : Sg) (b : Nat) : Sg := if must s b = true then stbS s b else lftS s b
def cauO (s : Sg) : Option Nat → Sg
  | none => stX s
  | some p => stP s p
theorem cau_o {s : Sg} {b : Nat} {o : Option Nat} (hc : caus s b = o) : cauS s b = cauO s o := by
  unfold cauS
  rw [hc]
  cases o <;> rfl
theorem lif_c {s : Sg} {b : Nat} (h : must s b = true) {o : Option Nat} (hc : caus s b = o) : lifS s b = cryS (incB (cauO s o) b) b := by
  unfold lifS
  rw [if_pos h, stbS, cau_o hc]
theorem lif_l {s : Sg} {b : Nat} (h : must s b = false) : lifS s b = payS (uB s (tSet 8 (sB s) b 5 1)) (tGet 8 (sB s) b 0) 30 := by
  unfold lifS
  rw [if_neg (nf5 h), lftS, get_set_c (by decide) (by decide) (by decide)]
theorem fat_t {s : Sg} {b : Nat} (h : must s b = true) {o : Option Nat} (hc : caus s b = o) : fatN s b = if o = none then 2 else 1 := by
  unfold fatN
  rw [if_pos h, hc]
theorem fat_f {s : Sg} {b : Nat} (h : must s b = false) : fatN s b = 0 := by
  unfold fatN
  rw [if_neg (nf5 h)]
theorem cd_X5_lift : kCardV yX5_lift cX5_lift 7 none 1 := ⟨⟨wc_X5_lift, wi_X5, by decide +kernel, by decide +kernel, rfl⟩, wk_X5_lift, ws_X5_lift⟩
set_option maxHeartbeats 4000000 in
set_option maxRecDepth 100000 in
theorem c_X5_lift (l : Launch) (D : va_G) (tA : Nat → ClassId) (m : Nat → Nat) (R : Nat → Nat) (s : Sg) (st : Nat) (kp : Bool) (len : Nat) (wt : Option Nat) (ft ps : Nat) (f1 f2 : Int32) (b : Nat) (hr : RB s R) (hw : Wf s) (hwt : ∀ q, wt = some q → q < 2 ^ 31)  (hb : b < (sB s).1) (h5 : tGet 8 (sB s) b 5 = 0) (hd : tGet 8 (sB s) b 2 = sN s) : Ky l D tA yX5_lift cX5_lift 7 none 3 69 [.ref (m 0), .int (nI b)] (rW tA m (mfs m st kp len wt ft ps f1 f2) R) (S := Nat → Nat) (fun R1 => RB (lifS s b) R1 ∧ Out R R1) (fun _ => none) (fun R1 => (rW tA m (mfs m st kp len wt (ftS wt b ft (fatN s b)) ps f1 f2) R1)) := by
  refine ky_void rfl (Nat.le_of_ble_eq_true rfl) (fun G X E => ?_)
  show J l D G 0 0 (rW tA m (mfs m st kp len wt ft ps f1 f2) R) [(0, .ref (m 0)), (1, .int (nI b))] 0 []
  have hn := hw.n
  have hb0 := hw.b hb
  have hm0 := hw.m hb0.2.1
  have hw0 := hw.w hb0.2.2.1
  rw [hd] at hw0
  have hli := limN_le (tGet 8 (sB s) b 3) (tGet 8 (sB s) b 4)
  refine j_aload_n (pc := 0) X dX5_lift_0 rfl (q := 0) rfl ?_
  refine j_get (pc := 1) X (C := RX5) (T := TX5) (N := 10) wz_X5 0 rfl rfl 0 (by decide) wf_X5_7 rfl dX5_lift_1 ?_
  refine j_iload_n (pc := 4) X dX5_lift_4 rfl (q := 1) rfl ?_
  refine j_iconst (pc := 5) X (v := (nI 1)) dX5_lift_5 (by decide) ?_
  refine j_callSR (pc := 6) X (st := [.ref (m 1)])  (c_X5_ofBooking l D tA b 1 ) cd_X5_ofBooking wm_X5_53 rfl [] rfl rfl ⟨Nat.le_of_ble_eq_true rfl, Nat.le_of_ble_eq_true rfl⟩ ⟨Nat.zero_le _, Nat.zero_le _⟩ rfl (Nat.le_of_ble_eq_true rfl) dX5_lift_6 ?_
  refine j_iald (pc := 9) X 1 (i := (45 + 8 * b + 1)) rfl (by omega) (by omega) dX5_lift_9 ?_
  refine j_top (v' := nI (tGet 8 (sB s) b 1)) (congrArg nI (RB.b hr hb (by omega))) ?_
  refine j_istore_n (pc := 10) X (lv' := [(2, .int (nI (tGet 8 (sB s) b 1))), (0, .ref (m 0)), (1, .int (nI b))]) dX5_lift_10 rfl (by decide) rfl ?_
  refine j_aload_n (pc := 11) X dX5_lift_11 rfl (q := 1) rfl ?_
  refine j_get (pc := 12) X (C := RX5) (T := TX5) (N := 10) wz_X5 0 rfl rfl 0 (by decide) wf_X5_7 rfl dX5_lift_12 ?_
  refine j_iload_n (pc := 15) X dX5_lift_15 rfl (q := 2) rfl ?_
  refine j_iconst (pc := 16) X (v := (nI 3)) dX5_lift_16 (by decide) ?_
  refine j_callSR (pc := 17) X (st := [.ref (m 1)])  (c_X5_ofBooking l D tA b 3 ) cd_X5_ofBooking wm_X5_53 rfl [] rfl rfl ⟨Nat.le_of_ble_eq_true rfl, Nat.le_of_ble_eq_true rfl⟩ ⟨Nat.zero_le _, Nat.zero_le _⟩ rfl (Nat.le_of_ble_eq_true rfl) dX5_lift_17 ?_
  refine j_iald (pc := 20) X 1 (i := (45 + 8 * b + 3)) rfl (by omega) (by omega) dX5_lift_20 ?_
  refine j_top (v' := nI (tGet 8 (sB s) b 3)) (congrArg nI (RB.b hr hb (by omega))) ?_
  refine j_istore_n (pc := 21) X (lv' := [(3, .int (nI (tGet 8 (sB s) b 3))), (2, .int (nI (tGet 8 (sB s) b 1))), (0, .ref (m 0)), (1, .int (nI b))]) dX5_lift_21 rfl (by decide) rfl ?_
  refine j_aload_n (pc := 22) X dX5_lift_22 rfl (q := 2) rfl ?_
  refine j_get (pc := 23) X (C := RX5) (T := TX5) (N := 10) wz_X5 0 rfl rfl 0 (by decide) wf_X5_7 rfl dX5_lift_23 ?_
  refine j_iload_n (pc := 26) X dX5_lift_26 rfl (q := 3) rfl ?_
  refine j_iconst (pc := 27) X (v := (nI 4)) dX5_lift_27 (by decide) ?_
  refine j_callSR (pc := 28) X (st := [.ref (m 1)])  (c_X5_ofBooking l D tA b 4 ) cd_X5_ofBooking wm_X5_53 rfl [] rfl rfl ⟨Nat.le_of_ble_eq_true rfl, Nat.le_of_ble_eq_true rfl⟩ ⟨Nat.zero_le _, Nat.zero_le _⟩ rfl (Nat.le_of_ble_eq_true rfl) dX5_lift_28 ?_
  refine j_iald (pc := 31) X 1 (i := (45 + 8 * b + 4)) rfl (by omega) (by omega) dX5_lift_31 ?_
  refine j_top (v' := nI (tGet 8 (sB s) b 4)) (congrArg nI (RB.b hr (by omega) (by omega))) ?_
  refine j_istore (pc := 32) X (lv' := [(4, .int (nI (tGet 8 (sB s) b 4))), (3, .int (nI (tGet 8 (sB s) b 3))), (2, .int (nI (tGet 8 (sB s) b 1))), (0, .ref (m 0)), (1, .int (nI b))]) dX5_lift_32 (by decide) rfl ?_
  refine j_aload_n (pc := 34) X dX5_lift_34 rfl (q := 3) rfl ?_
  refine j_get (pc := 35) X (C := RX5) (T := TX5) (N := 10) wz_X5 0 rfl rfl 0 (by decide) wf_X5_7 rfl dX5_lift_35 ?_
  refine j_iload_n (pc := 38) X dX5_lift_38 rfl (q := 4) rfl ?_
  refine j_iconst (pc := 39) X (v := (nI 0)) dX5_lift_39 (by decide) ?_
  refine j_callSR (pc := 40) X (st := [.ref (m 1)])  (c_X5_ofBooking l D tA b 0 ) cd_X5_ofBooking wm_X5_53 rfl [] rfl rfl ⟨Nat.le_of_ble_eq_true rfl, Nat.le_of_ble_eq_true rfl⟩ ⟨Nat.zero_le _, Nat.zero_le _⟩ rfl (Nat.le_of_ble_eq_true rfl) dX5_lift_40 ?_
  refine j_iald (pc := 43) X 1 (i := (45 + 8 * b + 0)) rfl (by omega) (by omega) dX5_lift_43 ?_
  refine j_top (v' := nI (tGet 8 (sB s) b 0)) (congrArg nI (RB.b hr hb (by omega))) ?_
  refine j_istore (pc := 44) X (lv' := [(5, .int (nI (tGet 8 (sB s) b 0))), (4, .int (nI (tGet 8 (sB s) b 4))), (3, .int (nI (tGet 8 (sB s) b 3))), (2, .int (nI (tGet 8 (sB s) b 1))), (0, .ref (m 0)), (1, .int (nI b))]) dX5_lift_44 (by decide) rfl ?_
  refine j_iload_n (pc := 46) X dX5_lift_46 rfl (q := 2) rfl ?_
  refine j_iload (pc := 47) X dX5_lift_47 (q := 1) rfl ?_
  refine j_callSR (pc := 49) X (st := [])  (c_X5_limitOf l D tA (tGet 8 (sB s) b 3) (tGet 8 (sB s) b 4) (by omega) (by omega)) cd_X5_limitOf wm_X5_104 rfl [] rfl rfl ⟨Nat.le_of_ble_eq_true rfl, Nat.le_of_ble_eq_true rfl⟩ ⟨Nat.zero_le _, Nat.zero_le _⟩ rfl (Nat.le_of_ble_eq_true rfl) dX5_lift_49 ?_
  refine j_istore (pc := 52) X (lv' := [(6, .int (nI (limN (tGet 8 (sB s) b 3) (tGet 8 (sB s) b 4)))), (5, .int (nI (tGet 8 (sB s) b 0))), (4, .int (nI (tGet 8 (sB s) b 4))), (3, .int (nI (tGet 8 (sB s) b 3))), (2, .int (nI (tGet 8 (sB s) b 1))), (0, .ref (m 0)), (1, .int (nI b))]) dX5_lift_52 (by decide) rfl ?_
  refine j_aload_n (pc := 54) X dX5_lift_54 rfl (q := 5) rfl ?_
  refine j_iload_n (pc := 55) X dX5_lift_55 rfl (q := 4) rfl ?_
  refine j_iload_n (pc := 56) X dX5_lift_56 rfl (q := 3) rfl ?_
  refine j_iload (pc := 57) X dX5_lift_57 (q := 2) rfl ?_
  refine j_callVR (pc := 59) X (st := [])  (c_X5_canBear l D tA m (mfs m st kp len wt ft ps f1 f2) R s (tGet 8 (sB s) b 1) (tGet 8 (sB s) b 3) (tGet 8 (sB s) b 4) hr hw hb0.2.1 (by omega) (by omega)) cd_X5_canBear wm_X5_66 0 rfl rfl rfl [0, 1] rfl rfl ⟨Nat.le_of_ble_eq_true rfl, Nat.le_of_ble_eq_true rfl⟩ ⟨Nat.zero_le _, Nat.zero_le _⟩ rfl (Nat.le_of_ble_eq_true rfl) dX5_lift_59 ?_
  refine j_if_ne (pc := 62) X (tgt := 85) (P := (decide ((tGet 8 (sB s) b 3) ≤ brn (sM s) (tGet 8 (sB s) b 1) (tGet 8 (sB s) b 4))) = true) dX5_lift_62 (by decide) (bI_n0 _) (fun h62 => ?_) (fun h62 => ?_)
  · skip
    skip
    refine j_aload_n (pc := 85) X dX5_lift_85 rfl (q := 5) rfl ?_
    refine j_get (pc := 86) X (C := RX5) (T := TX5) (N := 10) wz_X5 0 rfl rfl 0 (by decide) wf_X5_7 rfl dX5_lift_86 ?_
    refine j_sipush (pc := 89) X (v := (nI 335)) dX5_lift_89 (by decide) ?_
    refine j_aload_n (pc := 92) X dX5_lift_92 rfl (q := 5) rfl ?_
    refine j_get (pc := 93) X (C := RX5) (T := TX5) (N := 10) wz_X5 0 rfl rfl 0 (by decide) wf_X5_7 rfl dX5_lift_93 ?_
    refine j_iconst (pc := 96) X (v := (nI 0)) dX5_lift_96 (by decide) ?_
    refine j_iald (pc := 97) X 1 (i := 0) rfl (by omega) (by omega) dX5_lift_97 ?_
    refine j_top (v' := nI (sN s)) (congrArg nI (RB.n0 hr)) ?_
    refine j_iadd (pc := 98) X (v := (nI (335 + (sN s)))) dX5_lift_98 (nI_add _ _) ?_
    refine j_iald (pc := 99) X 1 (i := (335 + (sN s))) rfl (by omega) (by omega) dX5_lift_99 ?_
    refine j_top (v' := nI (sW s (sN s))) (congrArg nI (RB.w hr (by omega))) ?_
    refine j_iload (pc := 100) X dX5_lift_100 (q := 0) rfl ?_
    refine j_icmp_le (pc := 102) X (tgt := 136) (P := (sW s (sN s)) ≤ (limN (tGet 8 (sB s) b 3) (tGet 8 (sB s) b 4))) dX5_lift_102 (by decide) (nI_leI (by omega) (by omega)) (fun h102 => ?_) (fun h102 => ?_)
    · skip
      refine j_aload_n (pc := 136) X dX5_lift_136 rfl (q := 5) rfl ?_
      refine j_get (pc := 137) X (C := RX5) (T := TX5) (N := 10) wz_X5 0 rfl rfl 0 (by decide) wf_X5_7 rfl dX5_lift_137 ?_
      refine j_iload_n (pc := 140) X dX5_lift_140 rfl (q := 6) rfl ?_
      refine j_iconst (pc := 141) X (v := (nI 5)) dX5_lift_141 (by decide) ?_
      refine j_callSR (pc := 142) X (st := [.ref (m 1)])  (c_X5_ofBooking l D tA b 5 ) cd_X5_ofBooking wm_X5_53 rfl [] rfl rfl ⟨Nat.le_of_ble_eq_true rfl, Nat.le_of_ble_eq_true rfl⟩ ⟨Nat.zero_le _, Nat.zero_le _⟩ rfl (Nat.le_of_ble_eq_true rfl) dX5_lift_142 ?_
      refine j_iconst (pc := 145) X (v := (nI 1)) dX5_lift_145 (by decide) ?_
      refine j_iast (pc := 146) X 1 (i := (45 + 8 * b + 5)) (v := 1) rfl (by omega) (by omega) (w' := (rW tA m (mfs m st kp len wt ft ps f1 f2) (va_up R (45 + 8 * b + 5) 1))) rfl dX5_lift_146 ?_
      refine j_aload_n (pc := 147) X dX5_lift_147 rfl (q := 5) rfl ?_
      refine j_get (pc := 148) X (C := RX5) (T := TX5) (N := 10) wz_X5 0 rfl rfl 0 (by decide) wf_X5_7 rfl dX5_lift_148 ?_
      refine j_iload_n (pc := 151) X dX5_lift_151 rfl (q := 4) rfl ?_
      refine j_iconst (pc := 152) X (v := (nI 3)) dX5_lift_152 (by decide) ?_
      refine j_callSR (pc := 153) X (st := [.ref (m 1)])  (c_X5_of l D tA (tGet 8 (sB s) b 1) 3 ) cd_X5_of wm_X5_38 rfl [] rfl rfl ⟨Nat.le_of_ble_eq_true rfl, Nat.le_of_ble_eq_true rfl⟩ ⟨Nat.zero_le _, Nat.zero_le _⟩ rfl (Nat.le_of_ble_eq_true rfl) dX5_lift_153 ?_
      refine j_dup2 (pc := 156) X dX5_lift_156 rfl rfl ?_
      refine j_iald (pc := 157) X 1 (i := (9 + 4 * (tGet 8 (sB s) b 1) + 3)) rfl (by omega) (by omega) dX5_lift_157 ?_
      refine j_top (v' := nI (cB s 1 (tGet 8 (sB s) b 1) 1)) (by rw [up_ne _ _ (by omega), hr.m3 hb0.2.1]) ?_
      refine j_iconst (pc := 158) X (v := (nI 1)) dX5_lift_158 (by decide) ?_
      refine j_iadd (pc := 159) X (v := (nI ((cB s 1 (tGet 8 (sB s) b 1) 1) + 1))) dX5_lift_159 (nI_add _ _) ?_
      refine j_iast (pc := 160) X 1 (i := (9 + 4 * (tGet 8 (sB s) b 1) + 3)) (v := ((cB s 1 (tGet 8 (sB s) b 1) 1) + 1)) rfl (by omega) (by omega) (w' := (rW tA m (mfs m st kp len wt ft ps f1 f2) (va_up (va_up R (45 + 8 * b + 5) 1) (9 + 4 * (tGet 8 (sB s) b 1) + 3) (cB s 1 (tGet 8 (sB s) b 1) 1 + 1)))) rfl dX5_lift_160 ?_
      have hrL := hr.lift hw hb h5
      have hwL : Wf (uB s (tSet 8 (sB s) b 5 1)) := hw.setB (by decide) (show 1 ≤ 3 by decide)
      refine j_aload_n (pc := 161) X dX5_lift_161 rfl (q := 5) rfl ?_
      refine j_iload (pc := 162) X dX5_lift_162 (q := 1) rfl ?_
      refine j_bipush (pc := 164) X (v := (nI 30)) dX5_lift_164 (by decide) ?_
      refine j_callVy (pc := 166) X (st := []) (w' := fun R166 => (rW tA m (mfs m st kp len wt ft ps f1 f2) R166)) (c_X5_pay l D tA m (mfs m st kp len wt ft ps f1 f2) (va_up (va_up R (45 + 8 * b + 5) 1) (9 + 4 * (tGet 8 (sB s) b 1) + 3) (cB s 1 (tGet 8 (sB s) b 1) 1 + 1)) (uB s (tSet 8 (sB s) b 5 1)) (tGet 8 (sB s) b 0) 30 hrL hwL hb0.1) cd_X5_pay wm_X5_82 0 rfl rfl rfl [0, 1] rfl rfl (fun _ => rw_fst) (fun _ => rfl) ⟨Nat.le_of_ble_eq_true rfl, Nat.le_of_ble_eq_true rfl⟩ ⟨Nat.zero_le _, Nat.zero_le _⟩ rfl (Nat.le_of_ble_eq_true rfl) dX5_lift_166 (fun R166 hu166 => ?_)
      obtain ⟨hr166, ho166⟩ := hu166
      refine j_aload_n (pc := 169) X dX5_lift_169 rfl (q := 5) rfl ?_
      refine j_iload_n (pc := 170) X dX5_lift_170 rfl (q := 6) rfl ?_
      refine j_aload_n (pc := 171) X dX5_lift_171 rfl (q := 5) rfl ?_
      refine j_get (pc := 172) X (C := RX5) (T := TX5) (N := 10) wz_X5 0 rfl rfl 5 (by decide) wf_X5_16 rfl dX5_lift_172 ?_
      refine j_icmp_ne (pc := 175) X (tgt := 182) (P := ¬ wt = some b) dX5_lift_175 (by decide) (not_congr (rO_is (by omega) hwt)) (fun h175 => ?_) (fun h175 => ?_)
      · skip
        refine j_aload_n (pc := 182) X dX5_lift_182 rfl (q := 5) rfl ?_
        refine j_get (pc := 183) X (C := RX5) (T := TX5) (N := 10) wz_X5 0 rfl rfl 6 (by decide) wf_X5_101 rfl dX5_lift_183 ?_
        refine j_top (v' := nI (ftS wt b ft 0)) (by rw [ftS, if_neg h175]) ?_
        refine j_put (pc := 186) X (C := RX5) (T := TX5) (N := 10) wz_X5 tyX5 tyX5_ok nmX5 0 rfl rfl 6 (by decide) wf_X5_101 rfl rfl rfl (Nat.le_of_ble_eq_true rfl) (w' := (rW tA m (mfs m st kp len wt (ftS wt b ft 0) ps f1 f2) R166)) rfl dX5_lift_186 ?_
        have hmu : must s b = false := by unfold must brsB; rw [hd]; exact decide_eq_false (fun q => q.elim (fun z => nf5 z h62) (fun z => absurd z (Nat.not_lt.mpr h102)))
        exact j_endVy (pc := 189) E dX5_lift_189 R166 (⟨by rw [lif_l hmu]; exact hr166, (Out.tr (Out.up (Out.up Out.rf (by omega)) (by omega)) ho166)⟩) (by rw [fat_f hmu])
      · skip
        refine j_iconst (pc := 178) X (v := (nI 0)) dX5_lift_178 (by decide) ?_
        refine j_goto (pc := 179) X (tgt := 186) dX5_lift_179 (by decide) ?_
        refine j_top (v' := nI (ftS wt b ft 0)) (by rw [ftS, if_pos (Decidable.not_not.mp h175)]) ?_
        refine j_put (pc := 186) X (C := RX5) (T := TX5) (N := 10) wz_X5 tyX5 tyX5_ok nmX5 0 rfl rfl 6 (by decide) wf_X5_101 rfl rfl rfl (Nat.le_of_ble_eq_true rfl) (w' := (rW tA m (mfs m st kp len wt (ftS wt b ft 0) ps f1 f2) R166)) rfl dX5_lift_186 ?_
        have hmu : must s b = false := by unfold must brsB; rw [hd]; exact decide_eq_false (fun q => q.elim (fun z => nf5 z h62) (fun z => absurd z (Nat.not_lt.mpr h102)))
        exact j_endVy (pc := 189) E dX5_lift_189 R166 (⟨by rw [lif_l hmu]; exact hr166, (Out.tr (Out.up (Out.up Out.rf (by omega)) (by omega)) ho166)⟩) (by rw [fat_f hmu])
    · skip
      refine j_aload_n (pc := 105) X dX5_lift_105 rfl (q := 5) rfl ?_
      refine j_iload_n (pc := 106) X dX5_lift_106 rfl (q := 6) rfl ?_
      refine j_aload_n (pc := 107) X dX5_lift_107 rfl (q := 5) rfl ?_
      refine j_get (pc := 108) X (C := RX5) (T := TX5) (N := 10) wz_X5 0 rfl rfl 0 (by decide) wf_X5_7 rfl dX5_lift_108 ?_
      refine j_iload_n (pc := 111) X dX5_lift_111 rfl (q := 6) rfl ?_
      refine j_bipush (pc := 112) X (v := (nI 6)) dX5_lift_112 (by decide) ?_
      refine j_callSR (pc := 114) X (st := [.ref (m 1), .int (nI b), .ref (m 0)])  (c_X5_ofBooking l D tA b 6 ) cd_X5_ofBooking wm_X5_53 rfl [] rfl rfl ⟨Nat.le_of_ble_eq_true rfl, Nat.le_of_ble_eq_true rfl⟩ ⟨Nat.zero_le _, Nat.zero_le _⟩ rfl (Nat.le_of_ble_eq_true rfl) dX5_lift_114 ?_
      refine j_iald (pc := 117) X 1 (i := (45 + 8 * b + 6)) rfl (by omega) (by omega) dX5_lift_117 ?_
      refine j_top (v' := nI (tGet 8 (sB s) b 6)) (congrArg nI (RB.b hr hb (by omega))) ?_
      refine j_iload (pc := 118) X dX5_lift_118 (q := 0) rfl ?_
      refine j_icmp_le (pc := 120) X (tgt := 128) (P := (tGet 8 (sB s) b 6) ≤ (limN (tGet 8 (sB s) b 3) (tGet 8 (sB s) b 4))) dX5_lift_120 (by decide) (nI_leI (by omega) (by omega)) (fun h120 => ?_) (fun h120 => ?_)
      · skip
        refine j_bipush (pc := 128) X (v := (-5)) dX5_lift_128 (by decide) ?_
        refine j_callVy (pc := 130) X (st := []) (w' := fun R130 => (rW tA m (mfs m st kp len wt (ftS wt b ft 2) ps f1 f2) R130)) (c_X5_standBy0 l D tA m R s st kp len wt ft ps f1 f2 b (-5) hr hw hwt hb h5 (by decide +kernel)) cd_X5_standBy wm_X5_107 0 rfl rfl rfl [0, 1] rfl rfl (fun _ => rw_fst) (fun _ => rfl) ⟨Nat.le_of_ble_eq_true rfl, Nat.le_of_ble_eq_true rfl⟩ ⟨Nat.zero_le _, Nat.zero_le _⟩ rfl (Nat.le_of_ble_eq_true rfl) dX5_lift_130 (fun R130 hu130 => ?_)
        obtain ⟨hr130, ho130⟩ := hu130
        refine j_goto (pc := 133) X (tgt := 189) dX5_lift_133 (by decide) ?_
        have hmu : must s b = true := by unfold must; rw [hd]; exact decide_eq_true (Or.inr (Nat.not_le.mp h102))
        have hca : caus s b = none := by unfold caus brsB; rw [if_pos h62]; exact if_neg (Nat.not_lt.mpr h120)
        exact j_endVy (pc := 189) E dX5_lift_189 R130 (⟨by rw [lif_c hmu hca]; exact hr130, (Out.tr Out.rf ho130)⟩) (by rw [fat_t hmu hca]; rfl)
      · skip
        refine j_iload (pc := 123) X dX5_lift_123 (q := 1) rfl ?_
        refine j_goto (pc := 125) X (tgt := 130) dX5_lift_125 (by decide) ?_
        refine j_callVy (pc := 130) X (st := []) (w' := fun R130 => (rW tA m (mfs m st kp len wt (ftS wt b ft 1) ps f1 f2) R130)) (c_X5_standBy1 l D tA m R s st kp len wt ft ps f1 f2 b (tGet 8 (sB s) b 0) hr hw hwt hb h5 hb0.1) cd_X5_standBy wm_X5_107 0 rfl rfl rfl [0, 1] rfl rfl (fun _ => rw_fst) (fun _ => rfl) ⟨Nat.le_of_ble_eq_true rfl, Nat.le_of_ble_eq_true rfl⟩ ⟨Nat.zero_le _, Nat.zero_le _⟩ rfl (Nat.le_of_ble_eq_true rfl) dX5_lift_130 (fun R130 hu130 => ?_)
        obtain ⟨hr130, ho130⟩ := hu130
        refine j_goto (pc := 133) X (tgt := 189) dX5_lift_133 (by decide) ?_
        have hmu : must s b = true := by unfold must; rw [hd]; exact decide_eq_true (Or.inr (Nat.not_le.mp h102))
        have hca : caus s b = some (tGet 8 (sB s) b 0) := by unfold caus brsB; rw [if_pos h62]; exact if_pos (Nat.not_le.mp h120)
        exact j_endVy (pc := 189) E dX5_lift_189 R130 (⟨by rw [lif_c hmu hca]; exact hr130, (Out.tr Out.rf ho130)⟩) (by rw [fat_t hmu hca]; rfl)
  · skip
    skip
    refine j_aload_n (pc := 65) X dX5_lift_65 rfl (q := 5) rfl ?_
    refine j_iload_n (pc := 66) X dX5_lift_66 rfl (q := 6) rfl ?_
    refine j_aload_n (pc := 67) X dX5_lift_67 rfl (q := 5) rfl ?_
    refine j_get (pc := 68) X (C := RX5) (T := TX5) (N := 10) wz_X5 0 rfl rfl 0 (by decide) wf_X5_7 rfl dX5_lift_68 ?_
    refine j_iload_n (pc := 71) X dX5_lift_71 rfl (q := 4) rfl ?_
    refine j_iconst (pc := 72) X (v := (nI 2)) dX5_lift_72 (by decide) ?_
    refine j_callSR (pc := 73) X (st := [.ref (m 1), .int (nI b), .ref (m 0)])  (c_X5_of l D tA (tGet 8 (sB s) b 1) 2 ) cd_X5_of wm_X5_38 rfl [] rfl rfl ⟨Nat.le_of_ble_eq_true rfl, Nat.le_of_ble_eq_true rfl⟩ ⟨Nat.zero_le _, Nat.zero_le _⟩ rfl (Nat.le_of_ble_eq_true rfl) dX5_lift_73 ?_
    refine j_iald (pc := 76) X 1 (i := (9 + 4 * (tGet 8 (sB s) b 1) + 2)) rfl (by omega) (by omega) dX5_lift_76 ?_
    refine j_top (v' := nI (enc (tGet 3 (sM s) (tGet 8 (sB s) b 1) 2))) (congrArg nI (RB.m2 hr hb0.2.1)) ?_
    refine j_iconst (pc := 77) X (v := (nI 1)) dX5_lift_77 (by decide) ?_
    refine j_isub (pc := 78) X (v := (nI (enc (tGet 3 (sM s) (tGet 8 (sB s) b 1) 2)) - nI 1)) dX5_lift_78 rfl ?_
    rcases Decidable.em (tGet 3 (sM s) (tGet 8 (sB s) b 1) 2 = NN) with hs79 | hs79
    · skip
      have hq : (nI (enc (tGet 3 (sM s) (tGet 8 (sB s) b 1) 2)) - nI 1).toInt < 0 := by rw [hs79]; decide +kernel
      refine j_callVy (pc := 79) X (st := []) (w' := fun R79 => (rW tA m (mfs m st kp len wt (ftS wt b ft 2) ps f1 f2) R79)) (c_X5_standBy0 l D tA m R s st kp len wt ft ps f1 f2 b (nI (enc (tGet 3 (sM s) (tGet 8 (sB s) b 1) 2)) - nI 1) hr hw hwt hb h5 hq) cd_X5_standBy wm_X5_107 0 rfl rfl rfl [0, 1] rfl rfl (fun _ => rw_fst) (fun _ => rfl) ⟨Nat.le_of_ble_eq_true rfl, Nat.le_of_ble_eq_true rfl⟩ ⟨Nat.zero_le _, Nat.zero_le _⟩ rfl (Nat.le_of_ble_eq_true rfl) dX5_lift_79 (fun R79 hu79 => ?_)
      obtain ⟨hr79, ho79⟩ := hu79
      refine j_goto (pc := 82) X (tgt := 189) dX5_lift_82 (by decide) ?_
      have hmu : must s b = true := by unfold must brsB; exact decide_eq_true (Or.inl (Bool.eq_false_iff.mpr h62))
      have hca : caus s b = none := by unfold caus brsB; rw [if_neg h62, noO, if_pos hs79]
      exact j_endVy (pc := 189) E dX5_lift_189 R79 (⟨by rw [lif_c hmu hca]; exact hr79, (Out.tr Out.rf ho79)⟩) (by rw [fat_t hmu hca]; rfl)
    · skip
      have hq9 : tGet 3 (sM s) (tGet 8 (sB s) b 1) 2 < (sP s).1 := hm0.2.2.resolve_left hs79
      refine j_top (v' := nI (tGet 3 (sM s) (tGet 8 (sB s) b 1) 2)) (by rw [enc_n (by omega), pk_sub (by omega)]; rfl) ?_
      refine j_callVy (pc := 79) X (st := []) (w' := fun R79 => (rW tA m (mfs m st kp len wt (ftS wt b ft 1) ps f1 f2) R79)) (c_X5_standBy1 l D tA m R s st kp len wt ft ps f1 f2 b (tGet 3 (sM s) (tGet 8 (sB s) b 1) 2) hr hw hwt hb h5 hq9) cd_X5_standBy wm_X5_107 0 rfl rfl rfl [0, 1] rfl rfl (fun _ => rw_fst) (fun _ => rfl) ⟨Nat.le_of_ble_eq_true rfl, Nat.le_of_ble_eq_true rfl⟩ ⟨Nat.zero_le _, Nat.zero_le _⟩ rfl (Nat.le_of_ble_eq_true rfl) dX5_lift_79 (fun R79 hu79 => ?_)
      obtain ⟨hr79, ho79⟩ := hu79
      refine j_goto (pc := 82) X (tgt := 189) dX5_lift_82 (by decide) ?_
      have hmu : must s b = true := by unfold must brsB; exact decide_eq_true (Or.inl (Bool.eq_false_iff.mpr h62))
      have hca : caus s b = some (tGet 3 (sM s) (tGet 8 (sB s) b 1) 2) := by unfold caus brsB; rw [if_neg h62, noO, if_neg hs79]
      exact j_endVy (pc := 189) E dX5_lift_189 R79 (⟨by rw [lif_c hmu hca]; exact hr79, (Out.tr Out.rf ho79)⟩) (by rw [fat_t hmu hca]; rfl)
abbrev isNow (s : Sg) (b : Nat) : Prop := tGet 8 (sB s) b 5 = 0 ∧ tGet 8 (sB s) b 2 = sN s
theorem psB_t {s : Sg} {n : Nat} (h : isNow (psB n s).1 n) : (psB (n + 1) s).1 = lifS (psB n s).1 n := by
  rw [psB, stpB, if_pos h]
  unfold lifS
  split <;> rfl
theorem psB_f {s : Sg} {n : Nat} (h : ¬ isNow (psB n s).1 n) : psB (n + 1) s = psB n s := by
  rw [psB, stpB, if_neg h]
def fatP (wt : Option Nat) (s : Sg) (ft : Nat) : Nat → Nat
  | 0 => ft
  | n + 1 => if isNow (psB n s).1 n then ftS wt n (fatP wt s ft n) (fatN (psB n s).1 n) else fatP wt s ft n
theorem fatP_t {wt : Option Nat} {s : Sg} {ft n : Nat} (h : isNow (psB n s).1 n) : fatP wt s ft (n + 1) = ftS wt n (fatP wt s ft n) (fatN (psB n s).1 n) := if_pos h
theorem fatP_f {wt : Option Nat} {s : Sg} {ft n : Nat} (h : ¬ isNow (psB n s).1 n) : fatP wt s ft (n + 1) = fatP wt s ft n := if_neg h
theorem cd_X5_passOne : kCardV yX5_passOne cX5_passOne 2 none 0 := ⟨⟨wc_X5_passOne, wi_X5, by decide +kernel, by decide +kernel, rfl⟩, wk_X5_passOne, ws_X5_passOne⟩
set_option maxHeartbeats 4000000 in
set_option maxRecDepth 100000 in
theorem c_X5_passOne (l : Launch) (D : va_G) (tA : Nat → ClassId) (m : Nat → Nat) (R : Nat → Nat) (s : Sg) (st : Nat) (kp : Bool) (len : Nat) (wt : Option Nat) (ft ps : Nat) (f1 f2 : Int32)  (hr : RB s R) (hw : Wf s) (hwt : ∀ q, wt = some q → q < 2 ^ 31)  (hg : ∀ q, q < (sV s).1 → sN s ≤ tGet 5 (sV s) q 4) : Ky l D tA yX5_passOne cX5_passOne 2 none 4 95 [.ref (m 0)] (rW tA m (mfs m st kp len wt ft ps f1 f2) R) (S := Nat → Nat) (fun R1 => RB ((psH s).1) R1 ∧ Out R R1) (fun _ => none) (fun R1 => (rW tA m (mfs m st kp len wt (fatP wt (clo 10 s (sN s)) ft (sB (clo 10 s (sN s))).1) ps f1 f2) R1)) := by
  refine ky_void rfl (Nat.le_of_ble_eq_true rfl) (fun G X E => ?_)
  show J l D G 0 0 (rW tA m (mfs m st kp len wt ft ps f1 f2) R) [(0, .ref (m 0))] 0 []
  have hn := hw.n
  refine j_aload_n (pc := 0) X dX5_passOne_0 rfl (q := 0) rfl ?_
  refine j_callVy (pc := 1) X (st := []) (w' := fun R1 => (rW tA m (mfs m st kp len wt ft ps f1 f2) R1)) (c_X5_moveAll l D tA m (mfs m st kp len wt ft ps f1 f2) R s hr hw hg) cd_X5_moveAll wm_X5_110 0 rfl rfl rfl [0, 1] rfl rfl (fun _ => rw_fst) (fun _ => rfl) ⟨Nat.le_of_ble_eq_true rfl, Nat.le_of_ble_eq_true rfl⟩ ⟨Nat.zero_le _, Nat.zero_le _⟩ rfl (Nat.le_of_ble_eq_true rfl) dX5_passOne_1 (fun R1 hu1 => ?_)
  obtain ⟨hr1, ho1⟩ := hu1
  have hwc : Wf (clo 10 s (sN s)) := Wf.xclo 10 hw (sN s)
  refine j_iconst (pc := 4) X (v := (nI 0)) dX5_passOne_4 (by decide) ?_
  refine j_istore_n (pc := 5) X (lv' := [(1, .int (nI 0)), (0, .ref (m 0))]) dX5_passOne_5 rfl (by decide) rfl ?_
  have L_6 : ∀ (fu : Nat) (j : Nat) (R2 : Nat → Nat), j ≤ (sB (clo 10 s (sN s))).1 → RB (psB j (clo 10 s (sN s))).1 R2 → Out R R2 → (sB (clo 10 s (sN s))).1 - j < fu → J l D G 0 0 (rW tA m (mfs m st kp len wt (fatP wt (clo 10 s (sN s)) ft j) ps f1 f2) R2) [(0, .ref (m 0)), (1, .int (nI j))] 6 [] := by
    intro fu
    induction fu with
    | zero => intro j R2 hj hr2 ho2 hfu; exact absurd hfu (Nat.not_lt_zero _)
    | succ fu ih_6 =>
      intro j R2 hj hr2 ho2 hfu
      have hw2 : Wf (psB j (clo 10 s (sN s))).1 := Wf.xpsB hwc j hj
      have hn2 := hw2.n
      have hbe := (psB_B (clo 10 s (sN s)) j).1
      refine j_iload_n (pc := 6) X dX5_passOne_6 rfl (q := 1) rfl ?_
      refine j_aload_n (pc := 7) X dX5_passOne_7 rfl (q := 0) rfl ?_
      refine j_get (pc := 8) X (C := RX5) (T := TX5) (N := 10) wz_X5 0 rfl rfl 0 (by decide) wf_X5_7 rfl dX5_passOne_8 ?_
      refine j_iconst (pc := 11) X (v := (nI 3)) dX5_passOne_11 (by decide) ?_
      refine j_iald (pc := 12) X 1 (i := 3) rfl (by omega) (by omega) dX5_passOne_12 ?_
      refine j_top (v' := nI ((sB ((psB j (clo 10 s (sN s))).1)).1)) (congrArg nI (RB.n3 hr2)) ?_
      refine j_icmp_ge (pc := 13) X (tgt := 54) (P := ((sB ((psB j (clo 10 s (sN s))).1)).1) ≤ j) dX5_passOne_13 (by decide) (nI_leI (by omega) (by omega)) (fun h13 => ?_) (fun h13 => ?_)
      · skip
        refine j_aload_n (pc := 54) X dX5_passOne_54 rfl (q := 0) rfl ?_
        refine j_get (pc := 55) X (C := RX5) (T := TX5) (N := 10) wz_X5 0 rfl rfl 0 (by decide) wf_X5_7 rfl dX5_passOne_55 ?_
        refine j_iconst (pc := 58) X (v := (nI 0)) dX5_passOne_58 (by decide) ?_
        refine j_dup2 (pc := 59) X dX5_passOne_59 rfl rfl ?_
        refine j_iald (pc := 60) X 1 (i := 0) rfl (by omega) (by omega) dX5_passOne_60 ?_
        refine j_top (v' := nI (sN ((psB j (clo 10 s (sN s))).1))) (congrArg nI (RB.n0 hr2)) ?_
        refine j_iconst (pc := 61) X (v := (nI 1)) dX5_passOne_61 (by decide) ?_
        refine j_iadd (pc := 62) X (v := (nI ((sN ((psB j (clo 10 s (sN s))).1)) + 1))) dX5_passOne_62 (nI_add _ _) ?_
        refine j_iast (pc := 63) X 1 (i := 0) (v := ((sN ((psB j (clo 10 s (sN s))).1)) + 1)) rfl (by omega) (by omega) (w' := (rW tA m (mfs m st kp len wt (fatP wt (clo 10 s (sN s)) ft j) ps f1 f2) (va_up R2 0 ((sN ((psB j (clo 10 s (sN s))).1)) + 1)))) rfl dX5_passOne_63 ?_
        have hje : (sB (clo 10 s (sN s))).1 = j := by rw [(psB_B (clo 10 s (sN s)) j).1] at h13; omega
        have hps : psH s = (uN (psB j (clo 10 s (sN s))).1 (sN (psB j (clo 10 s (sN s))).1 + 1), (psB j (clo 10 s (sN s))).2) := by unfold psH psC; rw [hje]
        exact j_endVy (pc := 64) E dX5_passOne_64 (va_up R2 0 ((sN ((psB j (clo 10 s (sN s))).1)) + 1)) (⟨by rw [hps]; exact RB.lowN hr2 hw2, (Out.up ho2 (by omega))⟩) (by rw [show (sB (clo 10 s (sN s))).1 = j from hje])
      · skip
        refine j_aload_n (pc := 16) X dX5_passOne_16 rfl (q := 0) rfl ?_
        refine j_iload_n (pc := 17) X dX5_passOne_17 rfl (q := 1) rfl ?_
        have hj2 := Nat.not_le.mp h13
        have hb2 := hw2.b hj2
        refine j_callVR (pc := 18) X (st := [])  (c_X5_isBooked l D tA m (mfs m st kp len wt (fatP wt (clo 10 s (sN s)) ft j) ps f1 f2) R2 ((psB j (clo 10 s (sN s))).1) j hr2 hw2 hj2) cd_X5_isBooked wm_X5_79 0 rfl rfl rfl [0, 1] rfl rfl ⟨Nat.le_of_ble_eq_true rfl, Nat.le_of_ble_eq_true rfl⟩ ⟨Nat.zero_le _, Nat.zero_le _⟩ rfl (Nat.le_of_ble_eq_true rfl) dX5_passOne_18 ?_
        refine j_if_eq (pc := 21) X (tgt := 48) (P := ¬ tGet 8 (sB (psB j (clo 10 s (sN s))).1) j 5 = 0) dX5_passOne_21 (by decide) ((bI_0 _).trans decide_eq_false_iff_not) (fun h21 => ?_) (fun h21 => ?_)
        · skip
          refine j_iinc (pc := 48) X (v := (nI (j + 1))) (lv' := [(1, .int (nI (j + 1))), (0, .ref (m 0))]) dX5_passOne_48 (q := 1) rfl (nI_add _ _) (by decide) rfl ?_
          refine j_goto (pc := 51) X (tgt := 6) dX5_passOne_51 (by decide) ?_
          have hno : ¬ isNow (psB j (clo 10 s (sN s))).1 j := fun q => h21 q.1
          refine j_ws (w2 := (rW tA m (mfs m st kp len wt (fatP wt (clo 10 s (sN s)) ft (j + 1)) ps f1 f2) R2)) (by rw [fatP_f hno]) ?_
          refine j_lv X (lv' := [(0, .ref (m 0)), (1, .int (nI (j + 1)))]) [1, 0] rfl ?_
          exact ih_6 (j + 1) R2 (by rw [(psB_B (clo 10 s (sN s)) j).1] at h13; omega) (by rw [psB_f hno]; exact hr2) ho2 (by omega)
        · skip
          refine j_aload_n (pc := 24) X dX5_passOne_24 rfl (q := 0) rfl ?_
          refine j_get (pc := 25) X (C := RX5) (T := TX5) (N := 10) wz_X5 0 rfl rfl 0 (by decide) wf_X5_7 rfl dX5_passOne_25 ?_
          refine j_iload_n (pc := 28) X dX5_passOne_28 rfl (q := 1) rfl ?_
          refine j_iconst (pc := 29) X (v := (nI 2)) dX5_passOne_29 (by decide) ?_
          refine j_callSR (pc := 30) X (st := [.ref (m 1)])  (c_X5_ofBooking l D tA j 2 ) cd_X5_ofBooking wm_X5_53 rfl [] rfl rfl ⟨Nat.le_of_ble_eq_true rfl, Nat.le_of_ble_eq_true rfl⟩ ⟨Nat.zero_le _, Nat.zero_le _⟩ rfl (Nat.le_of_ble_eq_true rfl) dX5_passOne_30 ?_
          refine j_iald (pc := 33) X 1 (i := (45 + 8 * j + 2)) rfl (by omega) (by omega) dX5_passOne_33 ?_
          refine j_top (v' := nI (tGet 8 (sB ((psB j (clo 10 s (sN s))).1)) j 2)) (congrArg nI (RB.b hr2 hj2 (by omega))) ?_
          refine j_aload_n (pc := 34) X dX5_passOne_34 rfl (q := 0) rfl ?_
          refine j_get (pc := 35) X (C := RX5) (T := TX5) (N := 10) wz_X5 0 rfl rfl 0 (by decide) wf_X5_7 rfl dX5_passOne_35 ?_
          refine j_iconst (pc := 38) X (v := (nI 0)) dX5_passOne_38 (by decide) ?_
          refine j_iald (pc := 39) X 1 (i := 0) rfl (by omega) (by omega) dX5_passOne_39 ?_
          refine j_top (v' := nI (sN ((psB j (clo 10 s (sN s))).1))) (congrArg nI (RB.n0 hr2)) ?_
          refine j_icmp_ne (pc := 40) X (tgt := 48) (P := ¬ (tGet 8 (sB ((psB j (clo 10 s (sN s))).1)) j 2) = (sN ((psB j (clo 10 s (sN s))).1))) dX5_passOne_40 (by decide) (not_congr (nI_eq (by omega) (by omega))) (fun h40 => ?_) (fun h40 => ?_)
          · skip
            refine j_iinc (pc := 48) X (v := (nI (j + 1))) (lv' := [(1, .int (nI (j + 1))), (0, .ref (m 0))]) dX5_passOne_48 (q := 1) rfl (nI_add _ _) (by decide) rfl ?_
            refine j_goto (pc := 51) X (tgt := 6) dX5_passOne_51 (by decide) ?_
            have hno : ¬ isNow (psB j (clo 10 s (sN s))).1 j := fun q => h40 q.2
            refine j_ws (w2 := (rW tA m (mfs m st kp len wt (fatP wt (clo 10 s (sN s)) ft (j + 1)) ps f1 f2) R2)) (by rw [fatP_f hno]) ?_
            refine j_lv X (lv' := [(0, .ref (m 0)), (1, .int (nI (j + 1)))]) [1, 0] rfl ?_
            exact ih_6 (j + 1) R2 (by rw [(psB_B (clo 10 s (sN s)) j).1] at h13; omega) (by rw [psB_f hno]; exact hr2) ho2 (by omega)
          · skip
            refine j_aload_n (pc := 43) X dX5_passOne_43 rfl (q := 0) rfl ?_
            refine j_iload_n (pc := 44) X dX5_passOne_44 rfl (q := 1) rfl ?_
            refine j_callVy (pc := 45) X (st := []) (w' := fun R45 => (rW tA m (mfs m st kp len wt (ftS wt j (fatP wt (clo 10 s (sN s)) ft j) (fatN ((psB j (clo 10 s (sN s))).1) j)) ps f1 f2) R45)) (c_X5_lift l D tA m R2 ((psB j (clo 10 s (sN s))).1) st kp len wt (fatP wt (clo 10 s (sN s)) ft j) ps f1 f2 j hr2 hw2 hwt hj2 (Decidable.not_not.mp h21) (Decidable.not_not.mp h40)) cd_X5_lift wm_X5_113 0 rfl rfl rfl [0, 1] rfl rfl (fun _ => rw_fst) (fun _ => rfl) ⟨Nat.le_of_ble_eq_true rfl, Nat.le_of_ble_eq_true rfl⟩ ⟨Nat.zero_le _, Nat.zero_le _⟩ rfl (Nat.le_of_ble_eq_true rfl) dX5_passOne_45 (fun R45 hu45 => ?_)
            obtain ⟨hr45, ho45⟩ := hu45
            refine j_iinc (pc := 48) X (v := (nI (j + 1))) (lv' := [(1, .int (nI (j + 1))), (0, .ref (m 0))]) dX5_passOne_48 (q := 1) rfl (nI_add _ _) (by decide) rfl ?_
            refine j_goto (pc := 51) X (tgt := 6) dX5_passOne_51 (by decide) ?_
            have hyes : isNow (psB j (clo 10 s (sN s))).1 j := ⟨Decidable.not_not.mp h21, Decidable.not_not.mp h40⟩
            refine j_ws (w2 := (rW tA m (mfs m st kp len wt (fatP wt (clo 10 s (sN s)) ft (j + 1)) ps f1 f2) R45)) (by rw [fatP_t hyes]) ?_
            refine j_lv X (lv' := [(0, .ref (m 0)), (1, .int (nI (j + 1)))]) [1, 0] rfl ?_
            exact ih_6 (j + 1) R45 (by rw [(psB_B (clo 10 s (sN s)) j).1] at h13; omega) (psB_t hyes ▸ hr45) (Out.tr ho2 ho45) (by omega)
  refine j_lv X (lv' := [(0, .ref (m 0)), (1, .int (nI 0))]) [1, 0] rfl ?_
  exact L_6 _ 0 R1 (Nat.zero_le _) hr1 ho1 (Nat.lt_succ_self _)
