/-- 535 numbers of the row are copied: so many are done -/
def cpR (R : Nat → Nat) (F T k : Nat) : Nat → Nat := fun j => if T ≤ j ∧ j < T + k then R (j - T + F) else R j
theorem cpR_0 {R : Nat → Nat} {F T : Nat} : cpR R F T 0 = R := by
  funext j; unfold cpR; rw [if_neg (by omega)]
theorem cpR_s {R : Nat → Nat} {F T k : Nat} (hk : k < 535) (hd : F + 535 ≤ T ∨ T + 535 ≤ F) : va_up (cpR R F T k) (T + k) (cpR R F T k (F + k)) = cpR R F T (k + 1) := by
  funext j
  by_cases q : j = T + k
  · subst q
    rw [up_same]
    unfold cpR
    rw [if_neg (by omega), if_pos (by omega), show T + k - T + F = F + k by omega]
  · rw [up_ne _ _ q]
    unfold cpR
    by_cases z : T ≤ j ∧ j < T + k
    · rw [if_pos z, if_pos (by omega)]
    · rw [if_neg z, if_neg (by omega)]
theorem cd_X5_copy : kCardV yX5_copy cX5_copy 4 none 2 := ⟨⟨wc_X5_copy, wi_X5, by decide +kernel, by decide +kernel, rfl⟩, wk_X5_copy, ws_X5_copy⟩
set_option maxHeartbeats 4000000 in
set_option maxRecDepth 100000 in
theorem c_X5_copy (l : Launch) (D : va_G) (tA : Nat → ClassId) (m : Nat → Nat) (fs : List Value) (R : Nat → Nat) (F T : Nat) (hF : F + 535 ≤ 3745) (hT : T + 535 ≤ 3745) (hd : F + 535 ≤ T ∨ T + 535 ≤ F) : Kx l D tA yX5_copy cX5_copy 4 none 0 0 [.ref (m 0), .int (nI F), .int (nI T)] (rW tA m fs R) none (rW tA m fs (cpR R F T 535)) := by
  refine kx_void rfl (Nat.le_of_ble_eq_true rfl) (fun G X E => ?_)
  show J l D G 0 0 (rW tA m fs R) [(0, .ref (m 0)), (1, .int (nI F)), (2, .int (nI T))] 0 []
  refine j_iconst (pc := 0) X (v := (nI 0)) dX5_copy_0 (by decide) ?_
  refine j_istore_n (pc := 1) X (lv' := [(3, .int (nI 0)), (0, .ref (m 0)), (1, .int (nI F)), (2, .int (nI T))]) dX5_copy_1 rfl (by decide) rfl ?_
  have L_2 : ∀ (fu : Nat) (k : Nat), k ≤ 535 → 535 - k < fu → J l D G 0 0 (rW tA m fs (cpR R F T k)) [(0, .ref (m 0)), (1, .int (nI F)), (2, .int (nI T)), (3, .int (nI k))] 2 [] := by
    intro fu
    induction fu with
    | zero => intro k hk hfu; exact absurd hfu (Nat.not_lt_zero _)
    | succ fu ih_2 =>
      intro k hk hfu
      refine j_iload_n (pc := 2) X dX5_copy_2 rfl (q := 3) rfl ?_
      refine j_sipush (pc := 3) X (v := (nI 535)) dX5_copy_3 (by decide) ?_
      refine j_icmp_ge (pc := 6) X (tgt := 31) (P := 535 ≤ k) dX5_copy_6 (by decide) (nI_leI (by omega) (by omega)) (fun h6 => ?_) (fun h6 => ?_)
      · skip
        exact j_endV (pc := 31) E dX5_copy_31 (by rw [show k = 535 by omega])
      · skip
        refine j_aload_n (pc := 9) X dX5_copy_9 rfl (q := 0) rfl ?_
        refine j_get (pc := 10) X (C := RX5) (T := TX5) (N := 10) wz_X5 0 rfl rfl 0 (by decide) wf_X5_7 rfl dX5_copy_10 ?_
        refine j_iload_n (pc := 13) X dX5_copy_13 rfl (q := 2) rfl ?_
        refine j_iload_n (pc := 14) X dX5_copy_14 rfl (q := 3) rfl ?_
        refine j_iadd (pc := 15) X (v := (nI (T + k))) dX5_copy_15 (nI_add _ _) ?_
        refine j_aload_n (pc := 16) X dX5_copy_16 rfl (q := 0) rfl ?_
        refine j_get (pc := 17) X (C := RX5) (T := TX5) (N := 10) wz_X5 0 rfl rfl 0 (by decide) wf_X5_7 rfl dX5_copy_17 ?_
        refine j_iload_n (pc := 20) X dX5_copy_20 rfl (q := 1) rfl ?_
        refine j_iload_n (pc := 21) X dX5_copy_21 rfl (q := 3) rfl ?_
        refine j_iadd (pc := 22) X (v := (nI (F + k))) dX5_copy_22 (nI_add _ _) ?_
        refine j_iald (pc := 23) X 1 (i := (F + k)) rfl (by omega) (by omega) dX5_copy_23 ?_
        refine j_iast (pc := 24) X 1 (i := (T + k)) (v := ((cpR R F T k) (F + k))) rfl (by omega) (by omega) (w' := (rW tA m fs (cpR R F T (k + 1)))) (by rw [← cpR_s (by omega) hd]; rfl) dX5_copy_24 ?_
        refine j_iinc (pc := 25) X (v := (nI (k + 1))) (lv' := [(3, .int (nI (k + 1))), (0, .ref (m 0)), (1, .int (nI F)), (2, .int (nI T))]) dX5_copy_25 (q := 3) rfl (nI_add _ _) (by decide) rfl ?_
        refine j_goto (pc := 28) X (tgt := 2) dX5_copy_28 (by decide) ?_
        refine j_lv X (lv' := [(0, .ref (m 0)), (1, .int (nI F)), (2, .int (nI T)), (3, .int (nI (k + 1)))]) [1, 2, 3, 0] rfl ?_
        exact ih_2 (k + 1) (by omega) (by omega)
  refine j_ws (w2 := (rW tA m fs (cpR R F T 0))) (by rw [cpR_0]) ?_
  refine j_lv X (lv' := [(0, .ref (m 0)), (1, .int (nI F)), (2, .int (nI T)), (3, .int (nI 0))]) [1, 2, 3, 0] rfl ?_
  exact L_2 _ 0 (Nat.zero_le _) (Nat.lt_succ_self _)
def shR (R : Nat → Nat) (k : Nat) : Nat → Nat := fun j => if 535 ≤ j ∧ j < 535 * k then R (j + 535) else R j
theorem shR_1 {R : Nat → Nat} : shR R 1 = R := by
  funext j; unfold shR; rw [if_neg (by omega)]
theorem shR_s {R : Nat → Nat} {k : Nat} (hk : 1 ≤ k) : cpR (shR R k) (535 + 535 * k) (535 * k) 535 = shR R (k + 1) := by
  funext j
  unfold cpR shR
  by_cases z : 535 * k ≤ j ∧ j < 535 * k + 535
  · rw [if_pos z, if_neg (by omega), if_pos (by omega), show j - 535 * k + (535 + 535 * k) = j + 535 by omega]
  · rw [if_neg z]
    by_cases y : 535 ≤ j ∧ j < 535 * k
    · rw [if_pos y, if_pos (by omega)]
    · rw [if_neg y, if_neg (by omega)]
def recR (R : Nat → Nat) (st : Nat) : Nat → Nat := if st = 4 then cpR (shR R 4) 0 (535 + 535 * 3) 535 else cpR R 0 (535 + 535 * st) 535
def recN (st : Nat) : Nat := if st = 4 then 4 else st + 1
theorem cd_X5_record : kCardV yX5_record cX5_record 2 none 0 := ⟨⟨wc_X5_record, wi_X5, by decide +kernel, by decide +kernel, rfl⟩, wk_X5_record, ws_X5_record⟩
set_option maxHeartbeats 4000000 in
set_option maxRecDepth 100000 in
theorem c_X5_record0 (l : Launch) (D : va_G) (tA : Nat → ClassId) (m : Nat → Nat) (R : Nat → Nat) (st : Nat) (kp : Bool) (len : Nat) (wt : Option Nat) (ft ps : Nat) (f1 f2 : Int32) (hst : st < 4) : Kx l D tA yX5_record cX5_record 2 none 1 23 [.ref (m 0)] (rW tA m (mfs m st kp len wt ft ps f1 f2) R) none (rW tA m (mfs m (st + 1) kp len wt ft ps f1 f2) (cpR R 0 (535 + 535 * st) 535)) := by
  refine kx_void rfl (Nat.le_of_ble_eq_true rfl) (fun G X E => ?_)
  show J l D G 0 0 (rW tA m (mfs m st kp len wt ft ps f1 f2) R) [(0, .ref (m 0))] 0 []
  refine j_aload_n (pc := 0) X dX5_record_0 rfl (q := 0) rfl ?_
  refine j_get (pc := 1) X (C := RX5) (T := TX5) (N := 10) wz_X5 0 rfl rfl 1 (by decide) wf_X5_24 rfl dX5_record_1 ?_
  refine j_iconst (pc := 4) X (v := (nI 4)) dX5_record_4 (by decide) ?_
  refine j_icmp_ne_t (pc := 5) X (tgt := 49) dX5_record_5 (by decide) (fun q => by have := (nI_eq (by omega) (by omega)).mp q; omega) ?_
  refine j_aload_n (pc := 49) X dX5_record_49 rfl (q := 0) rfl ?_
  refine j_iconst (pc := 50) X (v := (nI 0)) dX5_record_50 (by decide) ?_
  refine j_sipush (pc := 51) X (v := (nI 535)) dX5_record_51 (by decide) ?_
  refine j_sipush (pc := 54) X (v := (nI 535)) dX5_record_54 (by decide) ?_
  refine j_aload_n (pc := 57) X dX5_record_57 rfl (q := 0) rfl ?_
  refine j_get (pc := 58) X (C := RX5) (T := TX5) (N := 10) wz_X5 0 rfl rfl 1 (by decide) wf_X5_24 rfl dX5_record_58 ?_
  refine j_imul (pc := 61) X (v := (nI (535 * st))) dX5_record_61 (pk_mul _ _) ?_
  refine j_iadd (pc := 62) X (v := (nI (535 + (535 * st)))) dX5_record_62 (nI_add _ _) ?_
  refine j_callV (pc := 63) X (st := []) (w' := (rW tA m (mfs m st kp len wt ft ps f1 f2) (cpR R 0 (535 + (535 * st)) 535))) (c_X5_copy l D tA m (mfs m st kp len wt ft ps f1 f2) R 0 (535 + (535 * st)) (by omega) (by omega) (by omega)) cd_X5_copy wm_X5_27 0 rfl rfl rfl [0, 1] rfl rfl rw_fst rfl ⟨Nat.le_of_ble_eq_true rfl, Nat.le_of_ble_eq_true rfl⟩ ⟨Nat.zero_le _, Nat.zero_le _⟩ rfl (Nat.le_of_ble_eq_true rfl) dX5_record_63 ?_
  refine j_aload_n (pc := 66) X dX5_record_66 rfl (q := 0) rfl ?_
  refine j_dup (pc := 67) X dX5_record_67 rfl ?_
  refine j_get (pc := 68) X (C := RX5) (T := TX5) (N := 10) wz_X5 0 rfl rfl 1 (by decide) wf_X5_24 rfl dX5_record_68 ?_
  refine j_iconst (pc := 71) X (v := (nI 1)) dX5_record_71 (by decide) ?_
  refine j_iadd (pc := 72) X (v := (nI (st + 1))) dX5_record_72 (nI_add _ _) ?_
  refine j_put (pc := 73) X (C := RX5) (T := TX5) (N := 10) wz_X5 tyX5 tyX5_ok nmX5 0 rfl rfl 1 (by decide) wf_X5_24 rfl rfl rfl (Nat.le_of_ble_eq_true rfl) (w' := (rW tA m (mfs m (st + 1) kp len wt ft ps f1 f2) (cpR R 0 (535 + (535 * st)) 535))) rfl dX5_record_73 ?_
  exact j_endV (pc := 76) E dX5_record_76 rfl
set_option maxHeartbeats 4000000 in
set_option maxRecDepth 100000 in
theorem c_X5_record4 (l : Launch) (D : va_G) (tA : Nat → ClassId) (m : Nat → Nat) (R : Nat → Nat) (kp : Bool) (len : Nat) (wt : Option Nat) (ft ps : Nat) (f1 f2 : Int32)  : Kx l D tA yX5_record cX5_record 2 none 1 23 [.ref (m 0)] (rW tA m (mfs m 4 kp len wt ft ps f1 f2) R) none (rW tA m (mfs m 4 kp len wt ft ps f1 f2) (cpR (shR R 4) 0 (535 + 535 * 3) 535)) := by
  refine kx_void rfl (Nat.le_of_ble_eq_true rfl) (fun G X E => ?_)
  show J l D G 0 0 (rW tA m (mfs m 4 kp len wt ft ps f1 f2) R) [(0, .ref (m 0))] 0 []
  refine j_aload_n (pc := 0) X dX5_record_0 rfl (q := 0) rfl ?_
  refine j_get (pc := 1) X (C := RX5) (T := TX5) (N := 10) wz_X5 0 rfl rfl 1 (by decide) wf_X5_24 rfl dX5_record_1 ?_
  refine j_iconst (pc := 4) X (v := (nI 4)) dX5_record_4 (by decide) ?_
  refine j_icmp_ne_f (pc := 5) X (tgt := 49) dX5_record_5 (by decide) (fun q => q rfl) ?_
  refine j_iconst (pc := 8) X (v := (nI 1)) dX5_record_8 (by decide) ?_
  refine j_istore_n (pc := 9) X (lv' := [(1, .int (nI 1)), (0, .ref (m 0))]) dX5_record_9 rfl (by decide) rfl ?_
  have L_10 : ∀ (fu : Nat) (k : Nat), 1 ≤ k → k ≤ 4 → 4 - k < fu → J l D G 0 0 (rW tA m (mfs m 4 kp len wt ft ps f1 f2) (shR R k)) [(0, .ref (m 0)), (1, .int (nI k))] 10 [] := by
    intro fu
    induction fu with
    | zero => intro k hk1 hk2 hfu; exact absurd hfu (Nat.not_lt_zero _)
    | succ fu ih_10 =>
      intro k hk1 hk2 hfu
      refine j_iload_n (pc := 10) X dX5_record_10 rfl (q := 1) rfl ?_
      refine j_iconst (pc := 11) X (v := (nI 4)) dX5_record_11 (by decide) ?_
      refine j_icmp_ge (pc := 12) X (tgt := 39) (P := 4 ≤ k) dX5_record_12 (by decide) (nI_leI (by omega) (by omega)) (fun h12 => ?_) (fun h12 => ?_)
      · skip
        refine j_aload_n (pc := 39) X dX5_record_39 rfl (q := 0) rfl ?_
        refine j_dup (pc := 40) X dX5_record_40 rfl ?_
        refine j_get (pc := 41) X (C := RX5) (T := TX5) (N := 10) wz_X5 0 rfl rfl 1 (by decide) wf_X5_24 rfl dX5_record_41 ?_
        refine j_iconst (pc := 44) X (v := (nI 1)) dX5_record_44 (by decide) ?_
        refine j_isub (pc := 45) X (v := (nI 3)) dX5_record_45 (by decide +kernel) ?_
        refine j_put (pc := 46) X (C := RX5) (T := TX5) (N := 10) wz_X5 tyX5 tyX5_ok nmX5 0 rfl rfl 1 (by decide) wf_X5_24 rfl rfl rfl (Nat.le_of_ble_eq_true rfl) (w' := (rW tA m (mfs m 3 kp len wt ft ps f1 f2) (shR R k))) rfl dX5_record_46 ?_
        refine j_aload_n (pc := 49) X dX5_record_49 rfl (q := 0) rfl ?_
        refine j_iconst (pc := 50) X (v := (nI 0)) dX5_record_50 (by decide) ?_
        refine j_sipush (pc := 51) X (v := (nI 535)) dX5_record_51 (by decide) ?_
        refine j_sipush (pc := 54) X (v := (nI 535)) dX5_record_54 (by decide) ?_
        refine j_aload_n (pc := 57) X dX5_record_57 rfl (q := 0) rfl ?_
        refine j_get (pc := 58) X (C := RX5) (T := TX5) (N := 10) wz_X5 0 rfl rfl 1 (by decide) wf_X5_24 rfl dX5_record_58 ?_
        refine j_imul (pc := 61) X (v := (nI (535 * 3))) dX5_record_61 (pk_mul _ _) ?_
        refine j_iadd (pc := 62) X (v := (nI (535 + (535 * 3)))) dX5_record_62 (nI_add _ _) ?_
        refine j_callV (pc := 63) X (st := []) (w' := (rW tA m (mfs m 3 kp len wt ft ps f1 f2) (cpR (shR R k) 0 (535 + (535 * 3)) 535))) (c_X5_copy l D tA m (mfs m 3 kp len wt ft ps f1 f2) (shR R k) 0 (535 + (535 * 3)) (by omega) (by omega) (by omega)) cd_X5_copy wm_X5_27 0 rfl rfl rfl [0, 1] rfl rfl rw_fst rfl ⟨Nat.le_of_ble_eq_true rfl, Nat.le_of_ble_eq_true rfl⟩ ⟨Nat.zero_le _, Nat.zero_le _⟩ rfl (Nat.le_of_ble_eq_true rfl) dX5_record_63 ?_
        refine j_aload_n (pc := 66) X dX5_record_66 rfl (q := 0) rfl ?_
        refine j_dup (pc := 67) X dX5_record_67 rfl ?_
        refine j_get (pc := 68) X (C := RX5) (T := TX5) (N := 10) wz_X5 0 rfl rfl 1 (by decide) wf_X5_24 rfl dX5_record_68 ?_
        refine j_iconst (pc := 71) X (v := (nI 1)) dX5_record_71 (by decide) ?_
        refine j_iadd (pc := 72) X (v := (nI 4)) dX5_record_72 (by decide +kernel) ?_
        refine j_put (pc := 73) X (C := RX5) (T := TX5) (N := 10) wz_X5 tyX5 tyX5_ok nmX5 0 rfl rfl 1 (by decide) wf_X5_24 rfl rfl rfl (Nat.le_of_ble_eq_true rfl) (w' := (rW tA m (mfs m 4 kp len wt ft ps f1 f2) (cpR (shR R k) 0 (535 + (535 * 3)) 535))) rfl dX5_record_73 ?_
        exact j_endV (pc := 76) E dX5_record_76 (by rw [show k = 4 by omega])
      · skip
        refine j_aload_n (pc := 15) X dX5_record_15 rfl (q := 0) rfl ?_
        refine j_sipush (pc := 16) X (v := (nI 535)) dX5_record_16 (by decide) ?_
        refine j_sipush (pc := 19) X (v := (nI 535)) dX5_record_19 (by decide) ?_
        refine j_iload_n (pc := 22) X dX5_record_22 rfl (q := 1) rfl ?_
        refine j_imul (pc := 23) X (v := (nI (535 * k))) dX5_record_23 (pk_mul _ _) ?_
        refine j_iadd (pc := 24) X (v := (nI (535 + (535 * k)))) dX5_record_24 (nI_add _ _) ?_
        refine j_sipush (pc := 25) X (v := (nI 535)) dX5_record_25 (by decide) ?_
        refine j_iload_n (pc := 28) X dX5_record_28 rfl (q := 1) rfl ?_
        refine j_imul (pc := 29) X (v := (nI (535 * k))) dX5_record_29 (pk_mul _ _) ?_
        refine j_callV (pc := 30) X (st := []) (w' := (rW tA m (mfs m 4 kp len wt ft ps f1 f2) (cpR (shR R k) (535 + (535 * k)) (535 * k) 535))) (c_X5_copy l D tA m (mfs m 4 kp len wt ft ps f1 f2) (shR R k) (535 + (535 * k)) (535 * k) (by omega) (by omega) (by omega)) cd_X5_copy wm_X5_27 0 rfl rfl rfl [0, 1] rfl rfl rw_fst rfl ⟨Nat.le_of_ble_eq_true rfl, Nat.le_of_ble_eq_true rfl⟩ ⟨Nat.zero_le _, Nat.zero_le _⟩ rfl (Nat.le_of_ble_eq_true rfl) dX5_record_30 ?_
        refine j_ws (w2 := (rW tA m (mfs m 4 kp len wt ft ps f1 f2) (shR R (k + 1)))) (by rw [shR_s hk1]) ?_
        refine j_iinc (pc := 33) X (v := (nI (k + 1))) (lv' := [(1, .int (nI (k + 1))), (0, .ref (m 0))]) dX5_record_33 (q := 1) rfl (nI_add _ _) (by decide) rfl ?_
        refine j_goto (pc := 36) X (tgt := 10) dX5_record_36 (by decide) ?_
        refine j_lv X (lv' := [(0, .ref (m 0)), (1, .int (nI (k + 1)))]) [1, 0] rfl ?_
        exact ih_10 (k + 1) (by omega) (by omega) (by omega)
  refine j_ws (w2 := (rW tA m (mfs m 4 kp len wt ft ps f1 f2) (shR R 1))) (by rw [shR_1]) ?_
  refine j_lv X (lv' := [(0, .ref (m 0)), (1, .int (nI 1))]) [1, 0] rfl ?_
  exact L_10 _ 1 (Nat.le_refl _) (by decide) (Nat.lt_succ_self _)
theorem c_X5_record (l : Launch) (D : va_G) (tA : Nat → ClassId) (m : Nat → Nat) (R : Nat → Nat) (st : Nat) (kp : Bool) (len : Nat) (wt : Option Nat) (ft ps : Nat) (f1 f2 : Int32) (hst : st ≤ 4) : Kx l D tA yX5_record cX5_record 2 none 1 23 [.ref (m 0)] (rW tA m (mfs m st kp len wt ft ps f1 f2) R) none (rW tA m (mfs m (recN st) kp len wt ft ps f1 f2) (recR R st)) := by
  by_cases h : st = 4
  · subst h; exact c_X5_record4 l D tA m R kp len wt ft ps f1 f2
  · have z := c_X5_record0 l D tA m R st kp len wt ft ps f1 f2 (by omega)
    unfold recR recN
    rw [if_neg h, if_neg h]
    exact z
