theorem cd_X5_in : kCardS yX5_in cX5_in 3 (some .boolean) 3 := ⟨⟨wc_X5_in, wi_X5, by decide +kernel, by decide +kernel, rfl⟩, wt_X5_in⟩
set_option maxHeartbeats 4000000 in
set_option maxRecDepth 100000 in
theorem c_X5_in (l : Launch) (D : va_G) (tA : Nat → ClassId) (x a b : Int32)  : Kx l D tA yX5_in cX5_in 3 (some .boolean) 0 0 [.int x, .int a, .int b] ([] : va_W) (some (.int (bI (isW x a b)))) ([] : va_W) := by
  refine kx_bool rfl (Nat.le_of_ble_eq_true rfl) (fun G X E => ?_)
  show J l D G 0 0 ([] : va_W) [(0, .int x), (1, .int a), (2, .int b)] 0 []
  refine j_iload_n (pc := 0) X dX5_in_0 rfl (q := 0) rfl ?_
  refine j_iload_n (pc := 1) X dX5_in_1 rfl (q := 1) rfl ?_
  refine j_icmp_lt (pc := 2) X (tgt := 14) (P := x.toInt < a.toInt) dX5_in_2 (by decide) Int32.lt_iff_toInt_lt (fun h2 => ?_) (fun h2 => ?_)
  · skip
    refine j_iconst (pc := 14) X (v := (nI 0)) dX5_in_14 (by decide) ?_
    exact j_endI (pc := 15) E dX5_in_15 (bI_f (by simp only [isW, decide_eq_false_iff_not]; omega)) rfl
  · skip
    refine j_iload_n (pc := 5) X dX5_in_5 rfl (q := 0) rfl ?_
    refine j_iload_n (pc := 6) X dX5_in_6 rfl (q := 2) rfl ?_
    refine j_icmp_gt (pc := 7) X (tgt := 14) (P := b.toInt < x.toInt) dX5_in_7 (by decide) Int32.lt_iff_toInt_lt (fun h7 => ?_) (fun h7 => ?_)
    · skip
      refine j_iconst (pc := 14) X (v := (nI 0)) dX5_in_14 (by decide) ?_
      exact j_endI (pc := 15) E dX5_in_15 (bI_f (by simp only [isW, decide_eq_false_iff_not]; omega)) rfl
    · skip
      refine j_iconst (pc := 10) X (v := (nI 1)) dX5_in_10 (by decide) ?_
      refine j_goto (pc := 11) X (tgt := 15) dX5_in_11 (by decide) ?_
      exact j_endI (pc := 15) E dX5_in_15 (bI_t (by simp only [isW, decide_eq_true_eq]; omega)) rfl
theorem cd_X5_of : kCardS yX5_of cX5_of 2 (some .int) 2 := ⟨⟨wc_X5_of, wi_X5, by decide +kernel, by decide +kernel, rfl⟩, wt_X5_of⟩
set_option maxHeartbeats 4000000 in
set_option maxRecDepth 100000 in
theorem c_X5_of (l : Launch) (D : va_G) (tA : Nat → ClassId) (i c : Nat)  : Kx l D tA yX5_of cX5_of 2 (some .int) 0 0 [.int (nI i), .int (nI c)] ([] : va_W) (some (.int (nI (9 + 4 * i + c)))) ([] : va_W) := by
  refine kx_int rfl (Nat.le_of_ble_eq_true rfl) (fun G X E => ?_)
  show J l D G 0 0 ([] : va_W) [(0, .int (nI i)), (1, .int (nI c))] 0 []
  refine j_bipush (pc := 0) X (v := (nI 9)) dX5_of_0 (by decide) ?_
  refine j_iconst (pc := 2) X (v := (nI 4)) dX5_of_2 (by decide) ?_
  refine j_iload_n (pc := 3) X dX5_of_3 rfl (q := 0) rfl ?_
  refine j_imul (pc := 4) X (v := (nI (4 * i))) dX5_of_4 (pk_mul _ _) ?_
  refine j_iadd (pc := 5) X (v := (nI (9 + (4 * i)))) dX5_of_5 (nI_add _ _) ?_
  refine j_iload_n (pc := 6) X dX5_of_6 rfl (q := 1) rfl ?_
  refine j_iadd (pc := 7) X (v := (nI ((9 + (4 * i)) + c))) dX5_of_7 (nI_add _ _) ?_
  exact j_endI (pc := 8) E dX5_of_8 rfl rfl
theorem cd_X5_ofMember : kCardS yX5_ofMember cX5_ofMember 2 (some .int) 2 := ⟨⟨wc_X5_ofMember, wi_X5, by decide +kernel, by decide +kernel, rfl⟩, wt_X5_ofMember⟩
set_option maxHeartbeats 4000000 in
set_option maxRecDepth 100000 in
theorem c_X5_ofMember (l : Launch) (D : va_G) (tA : Nat → ClassId) (i c : Nat)  : Kx l D tA yX5_ofMember cX5_ofMember 2 (some .int) 0 0 [.int (nI i), .int (nI c)] ([] : va_W) (some (.int (nI (29 + 2 * i + c)))) ([] : va_W) := by
  refine kx_int rfl (Nat.le_of_ble_eq_true rfl) (fun G X E => ?_)
  show J l D G 0 0 ([] : va_W) [(0, .int (nI i)), (1, .int (nI c))] 0 []
  refine j_bipush (pc := 0) X (v := (nI 29)) dX5_ofMember_0 (by decide) ?_
  refine j_iconst (pc := 2) X (v := (nI 2)) dX5_ofMember_2 (by decide) ?_
  refine j_iload_n (pc := 3) X dX5_ofMember_3 rfl (q := 0) rfl ?_
  refine j_imul (pc := 4) X (v := (nI (2 * i))) dX5_ofMember_4 (pk_mul _ _) ?_
  refine j_iadd (pc := 5) X (v := (nI (29 + (2 * i)))) dX5_ofMember_5 (nI_add _ _) ?_
  refine j_iload_n (pc := 6) X dX5_ofMember_6 rfl (q := 1) rfl ?_
  refine j_iadd (pc := 7) X (v := (nI ((29 + (2 * i)) + c))) dX5_ofMember_7 (nI_add _ _) ?_
  exact j_endI (pc := 8) E dX5_ofMember_8 rfl rfl
theorem cd_X5_ofBooking : kCardS yX5_ofBooking cX5_ofBooking 2 (some .int) 2 := ⟨⟨wc_X5_ofBooking, wi_X5, by decide +kernel, by decide +kernel, rfl⟩, wt_X5_ofBooking⟩
set_option maxHeartbeats 4000000 in
set_option maxRecDepth 100000 in
theorem c_X5_ofBooking (l : Launch) (D : va_G) (tA : Nat → ClassId) (i c : Nat)  : Kx l D tA yX5_ofBooking cX5_ofBooking 2 (some .int) 0 0 [.int (nI i), .int (nI c)] ([] : va_W) (some (.int (nI (45 + 8 * i + c)))) ([] : va_W) := by
  refine kx_int rfl (Nat.le_of_ble_eq_true rfl) (fun G X E => ?_)
  show J l D G 0 0 ([] : va_W) [(0, .int (nI i)), (1, .int (nI c))] 0 []
  refine j_bipush (pc := 0) X (v := (nI 45)) dX5_ofBooking_0 (by decide) ?_
  refine j_bipush (pc := 2) X (v := (nI 8)) dX5_ofBooking_2 (by decide) ?_
  refine j_iload_n (pc := 4) X dX5_ofBooking_4 rfl (q := 0) rfl ?_
  refine j_imul (pc := 5) X (v := (nI (8 * i))) dX5_ofBooking_5 (pk_mul _ _) ?_
  refine j_iadd (pc := 6) X (v := (nI (45 + (8 * i)))) dX5_ofBooking_6 (nI_add _ _) ?_
  refine j_iload_n (pc := 7) X dX5_ofBooking_7 rfl (q := 1) rfl ?_
  refine j_iadd (pc := 8) X (v := (nI ((45 + (8 * i)) + c))) dX5_ofBooking_8 (nI_add _ _) ?_
  exact j_endI (pc := 9) E dX5_ofBooking_9 rfl rfl
theorem cd_X5_ofMove : kCardS yX5_ofMove cX5_ofMove 2 (some .int) 2 := ⟨⟨wc_X5_ofMove, wi_X5, by decide +kernel, by decide +kernel, rfl⟩, wt_X5_ofMove⟩
set_option maxHeartbeats 4000000 in
set_option maxRecDepth 100000 in
theorem c_X5_ofMove (l : Launch) (D : va_G) (tA : Nat → ClassId) (i c : Nat)  : Kx l D tA yX5_ofMove cX5_ofMove 2 (some .int) 0 0 [.int (nI i), .int (nI c)] ([] : va_W) (some (.int (nI (285 + 5 * i + c)))) ([] : va_W) := by
  refine kx_int rfl (Nat.le_of_ble_eq_true rfl) (fun G X E => ?_)
  show J l D G 0 0 ([] : va_W) [(0, .int (nI i)), (1, .int (nI c))] 0 []
  refine j_sipush (pc := 0) X (v := (nI 285)) dX5_ofMove_0 (by decide) ?_
  refine j_iconst (pc := 3) X (v := (nI 5)) dX5_ofMove_3 (by decide) ?_
  refine j_iload_n (pc := 4) X dX5_ofMove_4 rfl (q := 0) rfl ?_
  refine j_imul (pc := 5) X (v := (nI (5 * i))) dX5_ofMove_5 (pk_mul _ _) ?_
  refine j_iadd (pc := 6) X (v := (nI (285 + (5 * i)))) dX5_ofMove_6 (nI_add _ _) ?_
  refine j_iload_n (pc := 7) X dX5_ofMove_7 rfl (q := 1) rfl ?_
  refine j_iadd (pc := 8) X (v := (nI ((285 + (5 * i)) + c))) dX5_ofMove_8 (nI_add _ _) ?_
  exact j_endI (pc := 9) E dX5_ofMove_9 rfl rfl
theorem cd_X5_isLift : kCardS yX5_isLift cX5_isLift 2 (some .boolean) 2 := ⟨⟨wc_X5_isLift, wi_X5, by decide +kernel, by decide +kernel, rfl⟩, wt_X5_isLift⟩
set_option maxHeartbeats 4000000 in
set_option maxRecDepth 100000 in
theorem c_X5_isLift (l : Launch) (D : va_G) (tA : Nat → ClassId) (x r : Int32)  : Kx l D tA yX5_isLift cX5_isLift 2 (some .boolean) 1 22 [.int x, .int r] ([] : va_W) (some (.int (bI (isLft x r)))) ([] : va_W) := by
  refine kx_bool rfl (Nat.le_of_ble_eq_true rfl) (fun G X E => ?_)
  show J l D G 0 0 ([] : va_W) [(0, .int x), (1, .int r)] 0 []
  have e1 := nI_toInt (show 1 < 2 ^ 31 by decide)
  have e2 := nI_toInt (show 2000 < 2 ^ 31 by decide)
  have e3 := nI_toInt (show 2 < 2 ^ 31 by decide)
  have e4 := nI_toInt (show 60 < 2 ^ 31 by decide)
  refine j_iload_n (pc := 0) X dX5_isLift_0 rfl (q := 0) rfl ?_
  refine j_iconst (pc := 1) X (v := (nI 1)) dX5_isLift_1 (by decide) ?_
  refine j_sipush (pc := 2) X (v := (nI 2000)) dX5_isLift_2 (by decide) ?_
  refine j_callSR (pc := 5) X (st := [])  (c_X5_in l D tA x (nI 1) (nI 2000) ) cd_X5_in wm_X5_20 rfl [] rfl rfl ⟨Nat.le_of_ble_eq_true rfl, Nat.le_of_ble_eq_true rfl⟩ ⟨Nat.zero_le _, Nat.zero_le _⟩ rfl (Nat.le_of_ble_eq_true rfl) dX5_isLift_5 ?_
  refine j_if_eq (pc := 8) X (tgt := 25) (P := (isW x (nI 1) (nI 2000)) = false) dX5_isLift_8 (by decide) (bI_0 _) (fun h8 => ?_) (fun h8 => ?_)
  · skip
    refine j_iconst (pc := 25) X (v := (nI 0)) dX5_isLift_25 (by decide) ?_
    exact j_endI (pc := 26) E dX5_isLift_26 (bI_f (by have a1 := h8; simp only [isW, isLft, e1, e2, e3, e4, decide_eq_false_iff_not] at a1 ⊢; omega)) rfl
  · skip
    refine j_iload_n (pc := 11) X dX5_isLift_11 rfl (q := 1) rfl ?_
    refine j_iconst (pc := 12) X (v := (nI 2)) dX5_isLift_12 (by decide) ?_
    refine j_bipush (pc := 13) X (v := (nI 60)) dX5_isLift_13 (by decide) ?_
    refine j_callSR (pc := 15) X (st := [])  (c_X5_in l D tA r (nI 2) (nI 60) ) cd_X5_in wm_X5_20 rfl [] rfl rfl ⟨Nat.le_of_ble_eq_true rfl, Nat.le_of_ble_eq_true rfl⟩ ⟨Nat.zero_le _, Nat.zero_le _⟩ rfl (Nat.le_of_ble_eq_true rfl) dX5_isLift_15 ?_
    refine j_if_eq (pc := 18) X (tgt := 25) (P := (isW r (nI 2) (nI 60)) = false) dX5_isLift_18 (by decide) (bI_0 _) (fun h18 => ?_) (fun h18 => ?_)
    · skip
      refine j_iconst (pc := 25) X (v := (nI 0)) dX5_isLift_25 (by decide) ?_
      exact j_endI (pc := 26) E dX5_isLift_26 (bI_f (by have a1 := h18; simp only [isW, isLft, e1, e2, e3, e4, decide_eq_false_iff_not] at a1 ⊢; omega)) rfl
    · skip
      refine j_iconst (pc := 21) X (v := (nI 1)) dX5_isLift_21 (by decide) ?_
      refine j_goto (pc := 22) X (tgt := 26) dX5_isLift_22 (by decide) ?_
      exact j_endI (pc := 26) E dX5_isLift_26 (bI_t (by have a1 := t5 h8; have a2 := t5 h18; simp only [isW, isLft, e1, e2, e3, e4, decide_eq_true_eq] at a1 a2 ⊢; omega)) rfl
theorem cd_X5_bearsBy : kCardS yX5_bearsBy cX5_bearsBy 4 (some .int) 3 := ⟨⟨wc_X5_bearsBy, wi_X5, by decide +kernel, by decide +kernel, rfl⟩, wt_X5_bearsBy⟩
set_option maxHeartbeats 4000000 in
set_option maxRecDepth 100000 in
theorem c_X5_bearsBy (l : Launch) (D : va_G) (tA : Nat → ClassId) (st bl r : Nat) (hs : st ≤ 200) (hb : bl ≤ 12) (hr : 2 ≤ r ∧ r ≤ 60) : Kx l D tA yX5_bearsBy cX5_bearsBy 4 (some .int) 0 0 [.int (nI st), .int (nI bl), .int (nI r)] ([] : va_W) (some (.int (nI (min ((st * 100 + bl * 150) / r) (st * 10))))) ([] : va_W) := by
  refine kx_int rfl (Nat.le_of_ble_eq_true rfl) (fun G X E => ?_)
  show J l D G 0 0 ([] : va_W) [(0, .int (nI st)), (1, .int (nI bl)), (2, .int (nI r))] 0 []
  have hq : (st * 100 + bl * 150) / r ≤ st * 100 + bl * 150 := Nat.div_le_self _ _
  refine j_iload_n (pc := 0) X dX5_bearsBy_0 rfl (q := 0) rfl ?_
  refine j_bipush (pc := 1) X (v := (nI 100)) dX5_bearsBy_1 (by decide) ?_
  refine j_imul (pc := 3) X (v := (nI (st * 100))) dX5_bearsBy_3 (pk_mul _ _) ?_
  refine j_iload_n (pc := 4) X dX5_bearsBy_4 rfl (q := 1) rfl ?_
  refine j_sipush (pc := 5) X (v := (nI 150)) dX5_bearsBy_5 (by decide) ?_
  refine j_imul (pc := 8) X (v := (nI (bl * 150))) dX5_bearsBy_8 (pk_mul _ _) ?_
  refine j_iadd (pc := 9) X (v := (nI ((st * 100) + (bl * 150)))) dX5_bearsBy_9 (nI_add _ _) ?_
  refine j_iload_n (pc := 10) X dX5_bearsBy_10 rfl (q := 2) rfl ?_
  refine j_idiv (pc := 11) X (v := (nI ((st * 100 + bl * 150) / r))) dX5_bearsBy_11 (nI_ne0 (by omega) (by omega)) (pk_div (by omega) (by omega) (by omega)) ?_
  refine j_istore_n (pc := 12) X (lv' := [(3, .int (nI ((st * 100 + bl * 150) / r))), (0, .int (nI st)), (1, .int (nI bl)), (2, .int (nI r))]) dX5_bearsBy_12 rfl (by decide) rfl ?_
  refine j_iload_n (pc := 13) X dX5_bearsBy_13 rfl (q := 0) rfl ?_
  refine j_iload_n (pc := 14) X dX5_bearsBy_14 rfl (q := 1) rfl ?_
  refine j_bipush (pc := 15) X (v := (nI 10)) dX5_bearsBy_15 (by decide) ?_
  refine j_imul (pc := 17) X (v := (nI (st * 10))) dX5_bearsBy_17 (pk_mul _ _) ?_
  refine j_icmp_ge (pc := 18) X (tgt := 25) (P := (st * 10) ≤ ((st * 100 + bl * 150) / r)) dX5_bearsBy_18 (by decide) (nI_leI (by omega) (by omega)) (fun h18 => ?_) (fun h18 => ?_)
  · skip
    refine j_iload_n (pc := 25) X dX5_bearsBy_25 rfl (q := 1) rfl ?_
    refine j_bipush (pc := 26) X (v := (nI 10)) dX5_bearsBy_26 (by decide) ?_
    refine j_imul (pc := 28) X (v := (nI (st * 10))) dX5_bearsBy_28 (pk_mul _ _) ?_
    exact j_endI (pc := 29) E dX5_bearsBy_29 (by rw [Nat.min_eq_right h18]) rfl
  · skip
    refine j_iload_n (pc := 21) X dX5_bearsBy_21 rfl (q := 0) rfl ?_
    refine j_goto (pc := 22) X (tgt := 29) dX5_bearsBy_22 (by decide) ?_
    exact j_endI (pc := 29) E dX5_bearsBy_29 (by rw [Nat.min_eq_left (Nat.le_of_lt (Nat.not_le.mp h18))]) rfl
theorem lim_j {ld r : Nat} (hl : ld ≤ 2000) (hr : r ≤ 60) : (nI 60 - nI (ld / 20) - nI (r / 2)).toInt = (60 : Int) - ((ld / 20 : Nat) : Int) - ((r / 2 : Nat) : Int) := by
  have e1 : (nI 60 - nI (ld / 20)).toInt = (60 : Int) - ((ld / 20 : Nat) : Int) := by
    have := pk_sub_toInt (a := 60) (b := ld / 20) (by omega) (by omega)
    simpa using this
  have hb : (nI (r / 2)).toInt = ((r / 2 : Nat) : Int) := nI_toInt (by omega)
  rw [Int32.toInt_sub, e1, hb, Int.bmod_eq_of_le (by omega) (by omega)]
theorem cd_X5_limitOf : kCardS yX5_limitOf cX5_limitOf 3 (some .int) 2 := ⟨⟨wc_X5_limitOf, wi_X5, by decide +kernel, by decide +kernel, rfl⟩, wt_X5_limitOf⟩
set_option maxHeartbeats 4000000 in
set_option maxRecDepth 100000 in
theorem c_X5_limitOf (l : Launch) (D : va_G) (tA : Nat → ClassId) (ld r : Nat) (hl : ld ≤ 2000) (hr : r ≤ 60) : Kx l D tA yX5_limitOf cX5_limitOf 3 (some .int) 0 0 [.int (nI ld), .int (nI r)] ([] : va_W) (some (.int (nI (limN ld r)))) ([] : va_W) := by
  refine kx_int rfl (Nat.le_of_ble_eq_true rfl) (fun G X E => ?_)
  show J l D G 0 0 ([] : va_W) [(0, .int (nI ld)), (1, .int (nI r))] 0 []
  have hj := lim_j hl hr
  refine j_bipush (pc := 0) X (v := (nI 60)) dX5_limitOf_0 (by decide) ?_
  refine j_iload_n (pc := 2) X dX5_limitOf_2 rfl (q := 0) rfl ?_
  refine j_bipush (pc := 3) X (v := (nI 20)) dX5_limitOf_3 (by decide) ?_
  refine j_idiv (pc := 5) X (v := (nI (ld / 20))) dX5_limitOf_5 (nI_ne0 (by omega) (by omega)) (pk_div (by omega) (by omega) (by omega)) ?_
  refine j_isub (pc := 6) X (v := (nI 60 - nI (ld / 20))) dX5_limitOf_6 rfl ?_
  refine j_iload_n (pc := 7) X dX5_limitOf_7 rfl (q := 1) rfl ?_
  refine j_iconst (pc := 8) X (v := (nI 2)) dX5_limitOf_8 (by decide) ?_
  refine j_idiv (pc := 9) X (v := (nI (r / 2))) dX5_limitOf_9 (nI_ne0 (by omega) (by omega)) (pk_div (by omega) (by omega) (by omega)) ?_
  refine j_isub (pc := 10) X (v := (nI 60 - nI (ld / 20) - nI (r / 2))) dX5_limitOf_10 rfl ?_
  refine j_istore_n (pc := 11) X (lv' := [(2, .int (nI 60 - nI (ld / 20) - nI (r / 2))), (0, .int (nI ld)), (1, .int (nI r))]) dX5_limitOf_11 rfl (by decide) rfl ?_
  refine j_iload_n (pc := 12) X dX5_limitOf_12 rfl (q := 0) rfl ?_
  refine j_bipush (pc := 13) X (v := (nI 10)) dX5_limitOf_13 (by decide) ?_
  refine j_icmp_ge (pc := 15) X (tgt := 23) (P := ((10 : Nat) : Int) ≤ (nI 60 - nI (ld / 20) - nI (r / 2)).toInt) dX5_limitOf_15 (by decide) (iC_gen (by omega)) (fun h15 => ?_) (fun h15 => ?_)
  · skip
    refine j_iload_n (pc := 23) X dX5_limitOf_23 rfl (q := 0) rfl ?_
    exact j_endI (pc := 24) E dX5_limitOf_24 (by rw [limN, Nat.max_eq_right (by omega), ← Int32.toInt_inj, hj, nI_toInt (by omega)]; omega) rfl
  · skip
    refine j_bipush (pc := 18) X (v := (nI 10)) dX5_limitOf_18 (by decide) ?_
    refine j_goto (pc := 20) X (tgt := 24) dX5_limitOf_20 (by decide) ?_
    exact j_endI (pc := 24) E dX5_limitOf_24 (by rw [limN, Nat.max_eq_left (by omega)]) rfl
theorem cd_X5_isMachine : kCardV yX5_isMachine cX5_isMachine 2 (some .boolean) 1 := ⟨⟨wc_X5_isMachine, wi_X5, by decide +kernel, by decide +kernel, rfl⟩, wk_X5_isMachine, ws_X5_isMachine⟩
set_option maxHeartbeats 4000000 in
set_option maxRecDepth 100000 in
theorem c_X5_isMachine (l : Launch) (D : va_G) (tA : Nat → ClassId) (m : Nat → Nat) (fs : List Value) (R : Nat → Nat) (s : Sg) (x : Int32) (hr : RB s R) (hw : Wf s)  : Kx l D tA yX5_isMachine cX5_isMachine 2 (some .boolean) 1 22 [.ref (m 0), .int x] (rW tA m fs R) (some (.int (bI (inR x (sM s).1)))) (rW tA m fs R) := by
  refine kx_bool rfl (Nat.le_of_ble_eq_true rfl) (fun G X E => ?_)
  show J l D G 0 0 (rW tA m fs R) [(0, .ref (m 0)), (1, .int x)] 0 []
  have hn := hw.n
  refine j_iload_n (pc := 0) X dX5_isMachine_0 rfl (q := 1) rfl ?_
  refine j_iconst (pc := 1) X (v := (nI 0)) dX5_isMachine_1 (by decide) ?_
  refine j_aload_n (pc := 2) X dX5_isMachine_2 rfl (q := 0) rfl ?_
  refine j_get (pc := 3) X (C := RX5) (T := TX5) (N := 10) wz_X5 0 rfl rfl 0 (by decide) wf_X5_7 rfl dX5_isMachine_3 ?_
  refine j_iconst (pc := 6) X (v := (nI 1)) dX5_isMachine_6 (by decide) ?_
  refine j_iald (pc := 7) X 1 (i := 1) rfl (by omega) (by omega) dX5_isMachine_7 ?_
  refine j_top (v' := nI ((sM s).1)) (congrArg nI (RB.n1 hr)) ?_
  refine j_iconst (pc := 8) X (v := (nI 1)) dX5_isMachine_8 (by decide) ?_
  refine j_isub (pc := 9) X (v := ((nI ((sM s).1)) - (nI 1))) dX5_isMachine_9 rfl ?_
  refine j_callSR (pc := 10) X (st := [])  (c_X5_in l D tA x (nI 0) ((nI ((sM s).1)) - (nI 1)) ) cd_X5_in wm_X5_20 rfl [] rfl rfl ⟨Nat.le_of_ble_eq_true rfl, Nat.le_of_ble_eq_true rfl⟩ ⟨Nat.zero_le _, Nat.zero_le _⟩ rfl (Nat.le_of_ble_eq_true rfl) dX5_isMachine_10 ?_
  exact j_endI (pc := 13) E dX5_isMachine_13 (congrArg bI (isW_0 (by omega)).symm) rfl
theorem cd_X5_isMember : kCardV yX5_isMember cX5_isMember 2 (some .boolean) 1 := ⟨⟨wc_X5_isMember, wi_X5, by decide +kernel, by decide +kernel, rfl⟩, wk_X5_isMember, ws_X5_isMember⟩
set_option maxHeartbeats 4000000 in
set_option maxRecDepth 100000 in
theorem c_X5_isMember (l : Launch) (D : va_G) (tA : Nat → ClassId) (m : Nat → Nat) (fs : List Value) (R : Nat → Nat) (s : Sg) (x : Int32) (hr : RB s R) (hw : Wf s)  : Kx l D tA yX5_isMember cX5_isMember 2 (some .boolean) 1 22 [.ref (m 0), .int x] (rW tA m fs R) (some (.int (bI (inR x (sP s).1)))) (rW tA m fs R) := by
  refine kx_bool rfl (Nat.le_of_ble_eq_true rfl) (fun G X E => ?_)
  show J l D G 0 0 (rW tA m fs R) [(0, .ref (m 0)), (1, .int x)] 0 []
  have hn := hw.n
  refine j_iload_n (pc := 0) X dX5_isMember_0 rfl (q := 1) rfl ?_
  refine j_iconst (pc := 1) X (v := (nI 0)) dX5_isMember_1 (by decide) ?_
  refine j_aload_n (pc := 2) X dX5_isMember_2 rfl (q := 0) rfl ?_
  refine j_get (pc := 3) X (C := RX5) (T := TX5) (N := 10) wz_X5 0 rfl rfl 0 (by decide) wf_X5_7 rfl dX5_isMember_3 ?_
  refine j_iconst (pc := 6) X (v := (nI 2)) dX5_isMember_6 (by decide) ?_
  refine j_iald (pc := 7) X 1 (i := 2) rfl (by omega) (by omega) dX5_isMember_7 ?_
  refine j_top (v' := nI ((sP s).1)) (congrArg nI (RB.n2 hr)) ?_
  refine j_iconst (pc := 8) X (v := (nI 1)) dX5_isMember_8 (by decide) ?_
  refine j_isub (pc := 9) X (v := ((nI ((sP s).1)) - (nI 1))) dX5_isMember_9 rfl ?_
  refine j_callSR (pc := 10) X (st := [])  (c_X5_in l D tA x (nI 0) ((nI ((sP s).1)) - (nI 1)) ) cd_X5_in wm_X5_20 rfl [] rfl rfl ⟨Nat.le_of_ble_eq_true rfl, Nat.le_of_ble_eq_true rfl⟩ ⟨Nat.zero_le _, Nat.zero_le _⟩ rfl (Nat.le_of_ble_eq_true rfl) dX5_isMember_10 ?_
  exact j_endI (pc := 13) E dX5_isMember_13 (congrArg bI (isW_0 (by omega)).symm) rfl
theorem cd_X5_isBooking : kCardV yX5_isBooking cX5_isBooking 2 (some .boolean) 1 := ⟨⟨wc_X5_isBooking, wi_X5, by decide +kernel, by decide +kernel, rfl⟩, wk_X5_isBooking, ws_X5_isBooking⟩
set_option maxHeartbeats 4000000 in
set_option maxRecDepth 100000 in
theorem c_X5_isBooking (l : Launch) (D : va_G) (tA : Nat → ClassId) (m : Nat → Nat) (fs : List Value) (R : Nat → Nat) (s : Sg) (x : Int32) (hr : RB s R) (hw : Wf s)  : Kx l D tA yX5_isBooking cX5_isBooking 2 (some .boolean) 1 22 [.ref (m 0), .int x] (rW tA m fs R) (some (.int (bI (inR x (sB s).1)))) (rW tA m fs R) := by
  refine kx_bool rfl (Nat.le_of_ble_eq_true rfl) (fun G X E => ?_)
  show J l D G 0 0 (rW tA m fs R) [(0, .ref (m 0)), (1, .int x)] 0 []
  have hn := hw.n
  refine j_iload_n (pc := 0) X dX5_isBooking_0 rfl (q := 1) rfl ?_
  refine j_iconst (pc := 1) X (v := (nI 0)) dX5_isBooking_1 (by decide) ?_
  refine j_aload_n (pc := 2) X dX5_isBooking_2 rfl (q := 0) rfl ?_
  refine j_get (pc := 3) X (C := RX5) (T := TX5) (N := 10) wz_X5 0 rfl rfl 0 (by decide) wf_X5_7 rfl dX5_isBooking_3 ?_
  refine j_iconst (pc := 6) X (v := (nI 3)) dX5_isBooking_6 (by decide) ?_
  refine j_iald (pc := 7) X 1 (i := 3) rfl (by omega) (by omega) dX5_isBooking_7 ?_
  refine j_top (v' := nI ((sB s).1)) (congrArg nI (RB.n3 hr)) ?_
  refine j_iconst (pc := 8) X (v := (nI 1)) dX5_isBooking_8 (by decide) ?_
  refine j_isub (pc := 9) X (v := ((nI ((sB s).1)) - (nI 1))) dX5_isBooking_9 rfl ?_
  refine j_callSR (pc := 10) X (st := [])  (c_X5_in l D tA x (nI 0) ((nI ((sB s).1)) - (nI 1)) ) cd_X5_in wm_X5_20 rfl [] rfl rfl ⟨Nat.le_of_ble_eq_true rfl, Nat.le_of_ble_eq_true rfl⟩ ⟨Nat.zero_le _, Nat.zero_le _⟩ rfl (Nat.le_of_ble_eq_true rfl) dX5_isBooking_10 ?_
  exact j_endI (pc := 13) E dX5_isBooking_13 (congrArg bI (isW_0 (by omega)).symm) rfl
theorem cd_X5_isMove : kCardV yX5_isMove cX5_isMove 2 (some .boolean) 1 := ⟨⟨wc_X5_isMove, wi_X5, by decide +kernel, by decide +kernel, rfl⟩, wk_X5_isMove, ws_X5_isMove⟩
set_option maxHeartbeats 4000000 in
set_option maxRecDepth 100000 in
theorem c_X5_isMove (l : Launch) (D : va_G) (tA : Nat → ClassId) (m : Nat → Nat) (fs : List Value) (R : Nat → Nat) (s : Sg) (x : Int32) (hr : RB s R) (hw : Wf s)  : Kx l D tA yX5_isMove cX5_isMove 2 (some .boolean) 1 22 [.ref (m 0), .int x] (rW tA m fs R) (some (.int (bI (inR x (sV s).1)))) (rW tA m fs R) := by
  refine kx_bool rfl (Nat.le_of_ble_eq_true rfl) (fun G X E => ?_)
  show J l D G 0 0 (rW tA m fs R) [(0, .ref (m 0)), (1, .int x)] 0 []
  have hn := hw.n
  refine j_iload_n (pc := 0) X dX5_isMove_0 rfl (q := 1) rfl ?_
  refine j_iconst (pc := 1) X (v := (nI 0)) dX5_isMove_1 (by decide) ?_
  refine j_aload_n (pc := 2) X dX5_isMove_2 rfl (q := 0) rfl ?_
  refine j_get (pc := 3) X (C := RX5) (T := TX5) (N := 10) wz_X5 0 rfl rfl 0 (by decide) wf_X5_7 rfl dX5_isMove_3 ?_
  refine j_iconst (pc := 6) X (v := (nI 4)) dX5_isMove_6 (by decide) ?_
  refine j_iald (pc := 7) X 1 (i := 4) rfl (by omega) (by omega) dX5_isMove_7 ?_
  refine j_top (v' := nI ((sV s).1)) (congrArg nI (RB.n4 hr)) ?_
  refine j_iconst (pc := 8) X (v := (nI 1)) dX5_isMove_8 (by decide) ?_
  refine j_isub (pc := 9) X (v := ((nI ((sV s).1)) - (nI 1))) dX5_isMove_9 rfl ?_
  refine j_callSR (pc := 10) X (st := [])  (c_X5_in l D tA x (nI 0) ((nI ((sV s).1)) - (nI 1)) ) cd_X5_in wm_X5_20 rfl [] rfl rfl ⟨Nat.le_of_ble_eq_true rfl, Nat.le_of_ble_eq_true rfl⟩ ⟨Nat.zero_le _, Nat.zero_le _⟩ rfl (Nat.le_of_ble_eq_true rfl) dX5_isMove_10 ?_
  exact j_endI (pc := 13) E dX5_isMove_13 (congrArg bI (isW_0 (by omega)).symm) rfl
theorem cd_X5_isToCome : kCardV yX5_isToCome cX5_isToCome 2 (some .boolean) 1 := ⟨⟨wc_X5_isToCome, wi_X5, by decide +kernel, by decide +kernel, rfl⟩, wk_X5_isToCome, ws_X5_isToCome⟩
set_option maxHeartbeats 4000000 in
set_option maxRecDepth 100000 in
theorem c_X5_isToCome (l : Launch) (D : va_G) (tA : Nat → ClassId) (m : Nat → Nat) (fs : List Value) (R : Nat → Nat) (s : Sg) (x : Int32) (hr : RB s R) (hw : Wf s)  : Kx l D tA yX5_isToCome cX5_isToCome 2 (some .boolean) 1 22 [.ref (m 0), .int x] (rW tA m fs R) (some (.int (bI (toCome s x)))) (rW tA m fs R) := by
  refine kx_bool rfl (Nat.le_of_ble_eq_true rfl) (fun G X E => ?_)
  show J l D G 0 0 (rW tA m fs R) [(0, .ref (m 0)), (1, .int x)] 0 []
  have hn := hw.n
  refine j_iload_n (pc := 0) X dX5_isToCome_0 rfl (q := 1) rfl ?_
  refine j_aload_n (pc := 1) X dX5_isToCome_1 rfl (q := 0) rfl ?_
  refine j_get (pc := 2) X (C := RX5) (T := TX5) (N := 10) wz_X5 0 rfl rfl 0 (by decide) wf_X5_7 rfl dX5_isToCome_2 ?_
  refine j_iconst (pc := 5) X (v := (nI 0)) dX5_isToCome_5 (by decide) ?_
  refine j_iald (pc := 6) X 1 (i := 0) rfl (by omega) (by omega) dX5_isToCome_6 ?_
  refine j_top (v' := nI (sN s)) (congrArg nI (RB.n0 hr)) ?_
  refine j_sipush (pc := 7) X (v := (nI 199)) dX5_isToCome_7 (by decide) ?_
  refine j_callSR (pc := 10) X (st := [])  (c_X5_in l D tA x (nI (sN s)) (nI 199) ) cd_X5_in wm_X5_20 rfl [] rfl rfl ⟨Nat.le_of_ble_eq_true rfl, Nat.le_of_ble_eq_true rfl⟩ ⟨Nat.zero_le _, Nat.zero_le _⟩ rfl (Nat.le_of_ble_eq_true rfl) dX5_isToCome_10 ?_
  exact j_endI (pc := 13) E dX5_isToCome_13 (congrArg bI (isW_co (by omega)).symm) rfl
theorem cd_X5_canBear : kCardV yX5_canBear cX5_canBear 4 (some .boolean) 3 := ⟨⟨wc_X5_canBear, wi_X5, by decide +kernel, by decide +kernel, rfl⟩, wk_X5_canBear, ws_X5_canBear⟩
set_option maxHeartbeats 4000000 in
set_option maxRecDepth 100000 in
theorem c_X5_canBear (l : Launch) (D : va_G) (tA : Nat → ClassId) (m : Nat → Nat) (fs : List Value) (R : Nat → Nat) (s : Sg) (i ld r : Nat) (hr : RB s R) (hw : Wf s) (hi : i < (sM s).1) (hl : ld < 65536) (hq : 2 ≤ r ∧ r ≤ 60) : Kx l D tA yX5_canBear cX5_canBear 4 (some .boolean) 1 23 [.ref (m 0), .int (nI i), .int (nI ld), .int (nI r)] (rW tA m fs R) (some (.int (bI (decide (ld ≤ brn (sM s) i r))))) (rW tA m fs R) := by
  refine kx_bool rfl (Nat.le_of_ble_eq_true rfl) (fun G X E => ?_)
  show J l D G 0 0 (rW tA m fs R) [(0, .ref (m 0)), (1, .int (nI i)), (2, .int (nI ld)), (3, .int (nI r))] 0 []
  have hn := hw.n
  have hm0 := hw.m hi
  have hbr := brn_lt hw hi (r := r)
  have heq := brn_eq (M := sM s) (m := i) hq.1
  refine j_iload_n (pc := 0) X dX5_canBear_0 rfl (q := 2) rfl ?_
  refine j_aload_n (pc := 1) X dX5_canBear_1 rfl (q := 0) rfl ?_
  refine j_get (pc := 2) X (C := RX5) (T := TX5) (N := 10) wz_X5 0 rfl rfl 0 (by decide) wf_X5_7 rfl dX5_canBear_2 ?_
  refine j_iload_n (pc := 5) X dX5_canBear_5 rfl (q := 1) rfl ?_
  refine j_iconst (pc := 6) X (v := (nI 0)) dX5_canBear_6 (by decide) ?_
  refine j_callSR (pc := 7) X (st := [.ref (m 1), .int (nI ld)])  (c_X5_of l D tA i 0 ) cd_X5_of wm_X5_38 rfl [] rfl rfl ⟨Nat.le_of_ble_eq_true rfl, Nat.le_of_ble_eq_true rfl⟩ ⟨Nat.zero_le _, Nat.zero_le _⟩ rfl (Nat.le_of_ble_eq_true rfl) dX5_canBear_7 ?_
  refine j_iald (pc := 10) X 1 (i := (9 + 4 * i + 0)) rfl (by omega) (by omega) dX5_canBear_10 ?_
  refine j_top (v' := nI (tGet 3 (sM s) i 0)) (congrArg nI (RB.m0 hr (by omega))) ?_
  refine j_aload_n (pc := 11) X dX5_canBear_11 rfl (q := 0) rfl ?_
  refine j_get (pc := 12) X (C := RX5) (T := TX5) (N := 10) wz_X5 0 rfl rfl 0 (by decide) wf_X5_7 rfl dX5_canBear_12 ?_
  refine j_iload_n (pc := 15) X dX5_canBear_15 rfl (q := 1) rfl ?_
  refine j_iconst (pc := 16) X (v := (nI 1)) dX5_canBear_16 (by decide) ?_
  refine j_callSR (pc := 17) X (st := [.ref (m 1), .int (nI (tGet 3 (sM s) i 0)), .int (nI ld)])  (c_X5_of l D tA i 1 ) cd_X5_of wm_X5_38 rfl [] rfl rfl ⟨Nat.le_of_ble_eq_true rfl, Nat.le_of_ble_eq_true rfl⟩ ⟨Nat.zero_le _, Nat.zero_le _⟩ rfl (Nat.le_of_ble_eq_true rfl) dX5_canBear_17 ?_
  refine j_iald (pc := 20) X 1 (i := (9 + 4 * i + 1)) rfl (by omega) (by omega) dX5_canBear_20 ?_
  refine j_top (v' := nI (tGet 3 (sM s) i 1)) (congrArg nI (RB.m1 hr (by omega))) ?_
  refine j_iload_n (pc := 21) X dX5_canBear_21 rfl (q := 3) rfl ?_
  refine j_callSR (pc := 22) X (st := [.int (nI ld)])  (c_X5_bearsBy l D tA (tGet 3 (sM s) i 0) (tGet 3 (sM s) i 1) r hm0.1.2 hm0.2.1 hq) cd_X5_bearsBy wm_X5_49 rfl [] rfl rfl ⟨Nat.le_of_ble_eq_true rfl, Nat.le_of_ble_eq_true rfl⟩ ⟨Nat.zero_le _, Nat.zero_le _⟩ rfl (Nat.le_of_ble_eq_true rfl) dX5_canBear_22 ?_
  rw [← heq]
  refine j_icmp_gt (pc := 25) X (tgt := 32) (P := (brn (sM s) i r) < ld) dX5_canBear_25 (by decide) (nI_ltI (by omega) (by omega)) (fun h25 => ?_) (fun h25 => ?_)
  · skip
    refine j_iconst (pc := 32) X (v := (nI 0)) dX5_canBear_32 (by decide) ?_
    exact j_endI (pc := 33) E dX5_canBear_33 (bI_f (by simp only [decide_eq_false_iff_not]; omega)) rfl
  · skip
    refine j_iconst (pc := 28) X (v := (nI 1)) dX5_canBear_28 (by decide) ?_
    refine j_goto (pc := 29) X (tgt := 33) dX5_canBear_29 (by decide) ?_
    exact j_endI (pc := 33) E dX5_canBear_33 (bI_t (by simp only [decide_eq_true_eq]; omega)) rfl
theorem cd_X5_bookingAt : kCardV yX5_bookingAt cX5_bookingAt 4 (some .int) 2 := ⟨⟨wc_X5_bookingAt, wi_X5, by decide +kernel, by decide +kernel, rfl⟩, wk_X5_bookingAt, ws_X5_bookingAt⟩
set_option maxHeartbeats 4000000 in
set_option maxRecDepth 100000 in
theorem c_X5_bookingAt (l : Launch) (D : va_G) (tA : Nat → ClassId) (m : Nat → Nat) (fs : List Value) (R : Nat → Nat) (s : Sg) (i h : Nat) (hr : RB s R) (hw : Wf s) (hi : i < 2 ^ 31) (hh : h < 2 ^ 31) : Kx l D tA yX5_bookingAt cX5_bookingAt 4 (some .int) 1 21 [.ref (m 0), .int (nI i), .int (nI h)] (rW tA m fs R) (some (.int (rO (bkF (sB s) i h)))) (rW tA m fs R) := by
  refine kx_int rfl (Nat.le_of_ble_eq_true rfl) (fun G X E => ?_)
  show J l D G 0 0 (rW tA m fs R) [(0, .ref (m 0)), (1, .int (nI i)), (2, .int (nI h))] 0 []
  have hn := hw.n
  refine j_iconst (pc := 0) X (v := (nI 0)) dX5_bookingAt_0 (by decide) ?_
  refine j_istore_n (pc := 1) X (lv' := [(3, .int (nI 0)), (0, .ref (m 0)), (1, .int (nI i)), (2, .int (nI h))]) dX5_bookingAt_1 rfl (by decide) rfl ?_
  have L_2 : ∀ (fu : Nat) (j : Nat), j ≤ (sB s).1 → fndN (fun b => decide (tGet 8 (sB s) b 5 = 0 ∧ tGet 8 (sB s) b 1 = i ∧ tGet 8 (sB s) b 2 = h)) j = none → (sB s).1 - j < fu → J l D G 0 0 (rW tA m fs R) [(0, .ref (m 0)), (1, .int (nI i)), (2, .int (nI h)), (3, .int (nI j))] 2 [] := by
    intro fu
    induction fu with
    | zero => intro j hj hk hfu; exact absurd hfu (Nat.not_lt_zero _)
    | succ fu ih_2 =>
      intro j hj hk hfu
      refine j_iload_n (pc := 2) X dX5_bookingAt_2 rfl (q := 3) rfl ?_
      refine j_aload_n (pc := 3) X dX5_bookingAt_3 rfl (q := 0) rfl ?_
      refine j_get (pc := 4) X (C := RX5) (T := TX5) (N := 10) wz_X5 0 rfl rfl 0 (by decide) wf_X5_7 rfl dX5_bookingAt_4 ?_
      refine j_iconst (pc := 7) X (v := (nI 3)) dX5_bookingAt_7 (by decide) ?_
      refine j_iald (pc := 8) X 1 (i := 3) rfl (by omega) (by omega) dX5_bookingAt_8 ?_
      refine j_top (v' := nI ((sB s).1)) (congrArg nI (RB.n3 hr)) ?_
      refine j_icmp_ge (pc := 9) X (tgt := 61) (P := ((sB s).1) ≤ j) dX5_bookingAt_9 (by decide) (nI_leI (by omega) (by omega)) (fun h9 => ?_) (fun h9 => ?_)
      · skip
        refine j_bipush (pc := 61) X (v := (-5)) dX5_bookingAt_61 (by decide) ?_
        exact j_endI (pc := 63) E dX5_bookingAt_63 (by rw [bkF, ← show j = (sB s).1 by omega, hk]; rfl) rfl
      · skip
        have hb := hw.b (show j < (sB s).1 by omega)
        refine j_aload_n (pc := 12) X dX5_bookingAt_12 rfl (q := 0) rfl ?_
        refine j_get (pc := 13) X (C := RX5) (T := TX5) (N := 10) wz_X5 0 rfl rfl 0 (by decide) wf_X5_7 rfl dX5_bookingAt_13 ?_
        refine j_iload_n (pc := 16) X dX5_bookingAt_16 rfl (q := 3) rfl ?_
        refine j_iconst (pc := 17) X (v := (nI 5)) dX5_bookingAt_17 (by decide) ?_
        refine j_callSR (pc := 18) X (st := [.ref (m 1)])  (c_X5_ofBooking l D tA j 5 ) cd_X5_ofBooking wm_X5_53 rfl [] rfl rfl ⟨Nat.le_of_ble_eq_true rfl, Nat.le_of_ble_eq_true rfl⟩ ⟨Nat.zero_le _, Nat.zero_le _⟩ rfl (Nat.le_of_ble_eq_true rfl) dX5_bookingAt_18 ?_
        refine j_iald (pc := 21) X 1 (i := (45 + 8 * j + 5)) rfl (by omega) (by omega) dX5_bookingAt_21 ?_
        refine j_top (v' := nI (tGet 8 (sB s) j 5)) (congrArg nI (RB.b hr (by omega) (by omega))) ?_
        refine j_if_ne (pc := 22) X (tgt := 55) (P := ¬ (tGet 8 (sB s) j 5) = 0) dX5_bookingAt_22 (by decide) (not_congr (nC_eq0 (by omega))) (fun h22 => ?_) (fun h22 => ?_)
        · skip
          refine j_iinc (pc := 55) X (v := (nI (j + 1))) (lv' := [(3, .int (nI (j + 1))), (0, .ref (m 0)), (1, .int (nI i)), (2, .int (nI h))]) dX5_bookingAt_55 (q := 3) rfl (nI_add _ _) (by decide) rfl ?_
          refine j_goto (pc := 58) X (tgt := 2) dX5_bookingAt_58 (by decide) ?_
          refine j_lv X (lv' := [(0, .ref (m 0)), (1, .int (nI i)), (2, .int (nI h)), (3, .int (nI (j + 1)))]) [1, 2, 3, 0] rfl ?_
          exact ih_2 (j + 1) (by omega) (fnd_no hk (by simp only [decide_eq_true_eq]; exact fun q => h22 q.1)) (by omega)
        · skip
          refine j_aload_n (pc := 25) X dX5_bookingAt_25 rfl (q := 0) rfl ?_
          refine j_get (pc := 26) X (C := RX5) (T := TX5) (N := 10) wz_X5 0 rfl rfl 0 (by decide) wf_X5_7 rfl dX5_bookingAt_26 ?_
          refine j_iload_n (pc := 29) X dX5_bookingAt_29 rfl (q := 3) rfl ?_
          refine j_iconst (pc := 30) X (v := (nI 1)) dX5_bookingAt_30 (by decide) ?_
          refine j_callSR (pc := 31) X (st := [.ref (m 1)])  (c_X5_ofBooking l D tA j 1 ) cd_X5_ofBooking wm_X5_53 rfl [] rfl rfl ⟨Nat.le_of_ble_eq_true rfl, Nat.le_of_ble_eq_true rfl⟩ ⟨Nat.zero_le _, Nat.zero_le _⟩ rfl (Nat.le_of_ble_eq_true rfl) dX5_bookingAt_31 ?_
          refine j_iald (pc := 34) X 1 (i := (45 + 8 * j + 1)) rfl (by omega) (by omega) dX5_bookingAt_34 ?_
          refine j_top (v' := nI (tGet 8 (sB s) j 1)) (congrArg nI (RB.b hr (by omega) (by omega))) ?_
          refine j_iload_n (pc := 35) X dX5_bookingAt_35 rfl (q := 1) rfl ?_
          refine j_icmp_ne (pc := 36) X (tgt := 55) (P := ¬ (tGet 8 (sB s) j 1) = i) dX5_bookingAt_36 (by decide) (not_congr (nI_eq (by omega) (by omega))) (fun h36 => ?_) (fun h36 => ?_)
          · skip
            refine j_iinc (pc := 55) X (v := (nI (j + 1))) (lv' := [(3, .int (nI (j + 1))), (0, .ref (m 0)), (1, .int (nI i)), (2, .int (nI h))]) dX5_bookingAt_55 (q := 3) rfl (nI_add _ _) (by decide) rfl ?_
            refine j_goto (pc := 58) X (tgt := 2) dX5_bookingAt_58 (by decide) ?_
            refine j_lv X (lv' := [(0, .ref (m 0)), (1, .int (nI i)), (2, .int (nI h)), (3, .int (nI (j + 1)))]) [1, 2, 3, 0] rfl ?_
            exact ih_2 (j + 1) (by omega) (fnd_no hk (by simp only [decide_eq_true_eq]; exact fun q => h36 q.2.1)) (by omega)
          · skip
            refine j_aload_n (pc := 39) X dX5_bookingAt_39 rfl (q := 0) rfl ?_
            refine j_get (pc := 40) X (C := RX5) (T := TX5) (N := 10) wz_X5 0 rfl rfl 0 (by decide) wf_X5_7 rfl dX5_bookingAt_40 ?_
            refine j_iload_n (pc := 43) X dX5_bookingAt_43 rfl (q := 3) rfl ?_
            refine j_iconst (pc := 44) X (v := (nI 2)) dX5_bookingAt_44 (by decide) ?_
            refine j_callSR (pc := 45) X (st := [.ref (m 1)])  (c_X5_ofBooking l D tA j 2 ) cd_X5_ofBooking wm_X5_53 rfl [] rfl rfl ⟨Nat.le_of_ble_eq_true rfl, Nat.le_of_ble_eq_true rfl⟩ ⟨Nat.zero_le _, Nat.zero_le _⟩ rfl (Nat.le_of_ble_eq_true rfl) dX5_bookingAt_45 ?_
            refine j_iald (pc := 48) X 1 (i := (45 + 8 * j + 2)) rfl (by omega) (by omega) dX5_bookingAt_48 ?_
            refine j_top (v' := nI (tGet 8 (sB s) j 2)) (congrArg nI (RB.b hr (by omega) (by omega))) ?_
            refine j_iload_n (pc := 49) X dX5_bookingAt_49 rfl (q := 2) rfl ?_
            refine j_icmp_ne (pc := 50) X (tgt := 55) (P := ¬ (tGet 8 (sB s) j 2) = h) dX5_bookingAt_50 (by decide) (not_congr (nI_eq (by omega) (by omega))) (fun h50 => ?_) (fun h50 => ?_)
            · skip
              refine j_iinc (pc := 55) X (v := (nI (j + 1))) (lv' := [(3, .int (nI (j + 1))), (0, .ref (m 0)), (1, .int (nI i)), (2, .int (nI h))]) dX5_bookingAt_55 (q := 3) rfl (nI_add _ _) (by decide) rfl ?_
              refine j_goto (pc := 58) X (tgt := 2) dX5_bookingAt_58 (by decide) ?_
              refine j_lv X (lv' := [(0, .ref (m 0)), (1, .int (nI i)), (2, .int (nI h)), (3, .int (nI (j + 1)))]) [1, 2, 3, 0] rfl ?_
              exact ih_2 (j + 1) (by omega) (fnd_no hk (by simp only [decide_eq_true_eq]; exact fun q => h50 q.2.2)) (by omega)
            · skip
              refine j_iload_n (pc := 53) X dX5_bookingAt_53 rfl (q := 3) rfl ?_
              exact j_endI (pc := 54) E dX5_bookingAt_54 (by rw [bkF, fnd_up (fnd_at hk (by simp only [decide_eq_true_eq]; exact ⟨Decidable.not_not.mp h22, Decidable.not_not.mp h36, Decidable.not_not.mp h50⟩)) _ (by omega)]; rfl) rfl
  refine j_lv X (lv' := [(0, .ref (m 0)), (1, .int (nI i)), (2, .int (nI h)), (3, .int (nI 0))]) [1, 2, 3, 0] rfl ?_
  exact L_2 _ 0 (Nat.zero_le _) rfl (Nat.lt_succ_self _)
theorem cd_X5_isBooked : kCardV yX5_isBooked cX5_isBooked 2 (some .boolean) 1 := ⟨⟨wc_X5_isBooked, wi_X5, by decide +kernel, by decide +kernel, rfl⟩, wk_X5_isBooked, ws_X5_isBooked⟩
set_option maxHeartbeats 4000000 in
set_option maxRecDepth 100000 in
theorem c_X5_isBooked (l : Launch) (D : va_G) (tA : Nat → ClassId) (m : Nat → Nat) (fs : List Value) (R : Nat → Nat) (s : Sg) (b : Nat) (hr : RB s R) (hw : Wf s) (hb : b < (sB s).1) : Kx l D tA yX5_isBooked cX5_isBooked 2 (some .boolean) 1 21 [.ref (m 0), .int (nI b)] (rW tA m fs R) (some (.int (bI (decide (tGet 8 (sB s) b 5 = 0))))) (rW tA m fs R) := by
  refine kx_bool rfl (Nat.le_of_ble_eq_true rfl) (fun G X E => ?_)
  show J l D G 0 0 (rW tA m fs R) [(0, .ref (m 0)), (1, .int (nI b))] 0 []
  have hn := hw.n
  have hb0 := hw.b hb
  refine j_aload_n (pc := 0) X dX5_isBooked_0 rfl (q := 0) rfl ?_
  refine j_get (pc := 1) X (C := RX5) (T := TX5) (N := 10) wz_X5 0 rfl rfl 0 (by decide) wf_X5_7 rfl dX5_isBooked_1 ?_
  refine j_iload_n (pc := 4) X dX5_isBooked_4 rfl (q := 1) rfl ?_
  refine j_iconst (pc := 5) X (v := (nI 5)) dX5_isBooked_5 (by decide) ?_
  refine j_callSR (pc := 6) X (st := [.ref (m 1)])  (c_X5_ofBooking l D tA b 5 ) cd_X5_ofBooking wm_X5_53 rfl [] rfl rfl ⟨Nat.le_of_ble_eq_true rfl, Nat.le_of_ble_eq_true rfl⟩ ⟨Nat.zero_le _, Nat.zero_le _⟩ rfl (Nat.le_of_ble_eq_true rfl) dX5_isBooked_6 ?_
  refine j_iald (pc := 9) X 1 (i := (45 + 8 * b + 5)) rfl (by omega) (by omega) dX5_isBooked_9 ?_
  refine j_top (v' := nI (tGet 8 (sB s) b 5)) (congrArg nI (RB.b hr (by omega) (by omega))) ?_
  refine j_if_ne (pc := 10) X (tgt := 17) (P := ¬ (tGet 8 (sB s) b 5) = 0) dX5_isBooked_10 (by decide) (not_congr (nC_eq0 (by omega))) (fun h10 => ?_) (fun h10 => ?_)
  · skip
    refine j_iconst (pc := 17) X (v := (nI 0)) dX5_isBooked_17 (by decide) ?_
    exact j_endI (pc := 18) E dX5_isBooked_18 (bI_f (by simp only [decide_eq_false_iff_not]; omega)) rfl
  · skip
    refine j_iconst (pc := 13) X (v := (nI 1)) dX5_isBooked_13 (by decide) ?_
    refine j_goto (pc := 14) X (tgt := 18) dX5_isBooked_14 (by decide) ?_
    exact j_endI (pc := 18) E dX5_isBooked_18 (bI_t (by simp only [decide_eq_true_eq]; omega)) rfl
theorem cd_X5_canGet : kCardV yX5_canGet cX5_canGet 3 (some .boolean) 2 := ⟨⟨wc_X5_canGet, wi_X5, by decide +kernel, by decide +kernel, rfl⟩, wk_X5_canGet, ws_X5_canGet⟩
set_option maxHeartbeats 4000000 in
set_option maxRecDepth 100000 in
theorem c_X5_canGet (l : Launch) (D : va_G) (tA : Nat → ClassId) (m : Nat → Nat) (fs : List Value) (R : Nat → Nat) (s : Sg) (b c : Nat) (hr : RB s R) (hw : Wf s) (hb : b < (sB s).1) (hc : c < (sB s).1) : Kx l D tA yX5_canGet cX5_canGet 3 (some .boolean) 2 46 [.ref (m 0), .int (nI b), .int (nI c)] (rW tA m fs R) (some (.int (bI (decide (tGet 8 (sB s) b 5 = 0 ∧ brsB s (tGet 8 (sB s) c 1) b = true))))) (rW tA m fs R) := by
  refine kx_bool rfl (Nat.le_of_ble_eq_true rfl) (fun G X E => ?_)
  show J l D G 0 0 (rW tA m fs R) [(0, .ref (m 0)), (1, .int (nI b)), (2, .int (nI c))] 0 []
  have hn := hw.n
  have hb0 := hw.b hb
  have hc0 := hw.b hc
  refine j_aload_n (pc := 0) X dX5_canGet_0 rfl (q := 0) rfl ?_
  refine j_iload_n (pc := 1) X dX5_canGet_1 rfl (q := 1) rfl ?_
  refine j_callVR (pc := 2) X (st := [])  (c_X5_isBooked l D tA m fs R s b hr hw (by first | assumption | omega | decide)) cd_X5_isBooked wm_X5_79 0 rfl rfl rfl [0, 1] rfl rfl ⟨Nat.le_of_ble_eq_true rfl, Nat.le_of_ble_eq_true rfl⟩ ⟨Nat.zero_le _, Nat.zero_le _⟩ rfl (Nat.le_of_ble_eq_true rfl) dX5_canGet_2 ?_
  refine j_if_eq (pc := 5) X (tgt := 49) (P := (decide (tGet 8 (sB s) b 5 = 0)) = false) dX5_canGet_5 (by decide) (bI_0 _) (fun h5 => ?_) (fun h5 => ?_)
  · skip
    refine j_iconst (pc := 49) X (v := (nI 0)) dX5_canGet_49 (by decide) ?_
    exact j_endI (pc := 50) E dX5_canGet_50 (bI_f (by have a1 := h5; simp only [decide_eq_false_iff_not] at a1 ⊢; exact fun q => a1 q.1)) rfl
  · skip
    refine j_aload_n (pc := 8) X dX5_canGet_8 rfl (q := 0) rfl ?_
    refine j_aload_n (pc := 9) X dX5_canGet_9 rfl (q := 0) rfl ?_
    refine j_get (pc := 10) X (C := RX5) (T := TX5) (N := 10) wz_X5 0 rfl rfl 0 (by decide) wf_X5_7 rfl dX5_canGet_10 ?_
    refine j_iload_n (pc := 13) X dX5_canGet_13 rfl (q := 2) rfl ?_
    refine j_iconst (pc := 14) X (v := (nI 1)) dX5_canGet_14 (by decide) ?_
    refine j_callSR (pc := 15) X (st := [.ref (m 1), .ref (m 0)])  (c_X5_ofBooking l D tA c 1 ) cd_X5_ofBooking wm_X5_53 rfl [] rfl rfl ⟨Nat.le_of_ble_eq_true rfl, Nat.le_of_ble_eq_true rfl⟩ ⟨Nat.zero_le _, Nat.zero_le _⟩ rfl (Nat.le_of_ble_eq_true rfl) dX5_canGet_15 ?_
    refine j_iald (pc := 18) X 1 (i := (45 + 8 * c + 1)) rfl (by omega) (by omega) dX5_canGet_18 ?_
    refine j_top (v' := nI (tGet 8 (sB s) c 1)) (congrArg nI (RB.b hr (by omega) (by omega))) ?_
    refine j_aload_n (pc := 19) X dX5_canGet_19 rfl (q := 0) rfl ?_
    refine j_get (pc := 20) X (C := RX5) (T := TX5) (N := 10) wz_X5 0 rfl rfl 0 (by decide) wf_X5_7 rfl dX5_canGet_20 ?_
    refine j_iload_n (pc := 23) X dX5_canGet_23 rfl (q := 1) rfl ?_
    refine j_iconst (pc := 24) X (v := (nI 3)) dX5_canGet_24 (by decide) ?_
    refine j_callSR (pc := 25) X (st := [.ref (m 1), .int (nI (tGet 8 (sB s) c 1)), .ref (m 0)])  (c_X5_ofBooking l D tA b 3 ) cd_X5_ofBooking wm_X5_53 rfl [] rfl rfl ⟨Nat.le_of_ble_eq_true rfl, Nat.le_of_ble_eq_true rfl⟩ ⟨Nat.zero_le _, Nat.zero_le _⟩ rfl (Nat.le_of_ble_eq_true rfl) dX5_canGet_25 ?_
    refine j_iald (pc := 28) X 1 (i := (45 + 8 * b + 3)) rfl (by omega) (by omega) dX5_canGet_28 ?_
    refine j_top (v' := nI (tGet 8 (sB s) b 3)) (congrArg nI (RB.b hr (by omega) (by omega))) ?_
    refine j_aload_n (pc := 29) X dX5_canGet_29 rfl (q := 0) rfl ?_
    refine j_get (pc := 30) X (C := RX5) (T := TX5) (N := 10) wz_X5 0 rfl rfl 0 (by decide) wf_X5_7 rfl dX5_canGet_30 ?_
    refine j_iload_n (pc := 33) X dX5_canGet_33 rfl (q := 1) rfl ?_
    refine j_iconst (pc := 34) X (v := (nI 4)) dX5_canGet_34 (by decide) ?_
    refine j_callSR (pc := 35) X (st := [.ref (m 1), .int (nI (tGet 8 (sB s) b 3)), .int (nI (tGet 8 (sB s) c 1)), .ref (m 0)])  (c_X5_ofBooking l D tA b 4 ) cd_X5_ofBooking wm_X5_53 rfl [] rfl rfl ⟨Nat.le_of_ble_eq_true rfl, Nat.le_of_ble_eq_true rfl⟩ ⟨Nat.zero_le _, Nat.zero_le _⟩ rfl (Nat.le_of_ble_eq_true rfl) dX5_canGet_35 ?_
    refine j_iald (pc := 38) X 1 (i := (45 + 8 * b + 4)) rfl (by omega) (by omega) dX5_canGet_38 ?_
    refine j_top (v' := nI (tGet 8 (sB s) b 4)) (congrArg nI (RB.b hr (by omega) (by omega))) ?_
    refine j_callVR (pc := 39) X (st := [])  (c_X5_canBear l D tA m fs R s (tGet 8 (sB s) c 1) (tGet 8 (sB s) b 3) (tGet 8 (sB s) b 4) hr hw hc0.2.1 (by omega) hb0.2.2.2.2.1) cd_X5_canBear wm_X5_66 0 rfl rfl rfl [0, 1] rfl rfl ⟨Nat.le_of_ble_eq_true rfl, Nat.le_of_ble_eq_true rfl⟩ ⟨Nat.zero_le _, Nat.zero_le _⟩ rfl (Nat.le_of_ble_eq_true rfl) dX5_canGet_39 ?_
    refine j_if_eq (pc := 42) X (tgt := 49) (P := (decide ((tGet 8 (sB s) b 3) ≤ brn (sM s) (tGet 8 (sB s) c 1) (tGet 8 (sB s) b 4))) = false) dX5_canGet_42 (by decide) (bI_0 _) (fun h42 => ?_) (fun h42 => ?_)
    · skip
      refine j_iconst (pc := 49) X (v := (nI 0)) dX5_canGet_49 (by decide) ?_
      exact j_endI (pc := 50) E dX5_canGet_50 (bI_f (by have a1 := h42; simp only [brsB, decide_eq_false_iff_not, decide_eq_true_eq] at a1 ⊢; exact fun q => a1 q.2)) rfl
    · skip
      refine j_iconst (pc := 45) X (v := (nI 1)) dX5_canGet_45 (by decide) ?_
      refine j_goto (pc := 46) X (tgt := 50) dX5_canGet_46 (by decide) ?_
      exact j_endI (pc := 50) E dX5_canGet_50 (bI_t (by have a1 := t5 h5; have a2 := t5 h42; simp only [brsB, decide_eq_true_eq] at a1 a2 ⊢; exact ⟨a1, a2⟩)) rfl
theorem cd_X5_manyIn : kCardV yX5_manyIn cX5_manyIn 4 (some .int) 1 := ⟨⟨wc_X5_manyIn, wi_X5, by decide +kernel, by decide +kernel, rfl⟩, wk_X5_manyIn, ws_X5_manyIn⟩
set_option maxHeartbeats 4000000 in
set_option maxRecDepth 100000 in
theorem c_X5_manyIn (l : Launch) (D : va_G) (tA : Nat → ClassId) (m : Nat → Nat) (fs : List Value) (R : Nat → Nat) (s : Sg) (is : Nat) (hr : RB s R) (hw : Wf s) (his : is < 2 ^ 31) : Kx l D tA yX5_manyIn cX5_manyIn 4 (some .int) 1 21 [.ref (m 0), .int (nI is)] (rW tA m fs R) (some (.int (nI (cS s is)))) (rW tA m fs R) := by
  refine kx_int rfl (Nat.le_of_ble_eq_true rfl) (fun G X E => ?_)
  show J l D G 0 0 (rW tA m fs R) [(0, .ref (m 0)), (1, .int (nI is))] 0 []
  have hn := hw.n
  refine j_iconst (pc := 0) X (v := (nI 0)) dX5_manyIn_0 (by decide) ?_
  refine j_istore_n (pc := 1) X (lv' := [(2, .int (nI 0)), (0, .ref (m 0)), (1, .int (nI is))]) dX5_manyIn_1 rfl (by decide) rfl ?_
  refine j_iconst (pc := 2) X (v := (nI 0)) dX5_manyIn_2 (by decide) ?_
  refine j_istore_n (pc := 3) X (lv' := [(3, .int (nI 0)), (2, .int (nI 0)), (0, .ref (m 0)), (1, .int (nI is))]) dX5_manyIn_3 rfl (by decide) rfl ?_
  have L_4 : ∀ (fu : Nat) (j k : Nat), j ≤ (sB s).1 → k = cntN (fun r => decide (tGet 8 (sB s) r 5 = is)) j → (sB s).1 - j < fu → J l D G 0 0 (rW tA m fs R) [(0, .ref (m 0)), (1, .int (nI is)), (2, .int (nI k)), (3, .int (nI j))] 4 [] := by
    intro fu
    induction fu with
    | zero => intro j k hj hk hfu; exact absurd hfu (Nat.not_lt_zero _)
    | succ fu ih_4 =>
      intro j k hj hk hfu
      refine j_iload_n (pc := 4) X dX5_manyIn_4 rfl (q := 3) rfl ?_
      refine j_aload_n (pc := 5) X dX5_manyIn_5 rfl (q := 0) rfl ?_
      refine j_get (pc := 6) X (C := RX5) (T := TX5) (N := 10) wz_X5 0 rfl rfl 0 (by decide) wf_X5_7 rfl dX5_manyIn_6 ?_
      refine j_iconst (pc := 9) X (v := (nI 3)) dX5_manyIn_9 (by decide) ?_
      refine j_iald (pc := 10) X 1 (i := 3) rfl (by omega) (by omega) dX5_manyIn_10 ?_
      refine j_top (v' := nI ((sB s).1)) (congrArg nI (RB.n3 hr)) ?_
      refine j_icmp_ge (pc := 11) X (tgt := 42) (P := ((sB s).1) ≤ j) dX5_manyIn_11 (by decide) (nI_leI (by omega) (by omega)) (fun h11 => ?_) (fun h11 => ?_)
      · skip
        refine j_iload_n (pc := 42) X dX5_manyIn_42 rfl (q := 2) rfl ?_
        exact j_endI (pc := 43) E dX5_manyIn_43 (by rw [cS, hk, show j = (sB s).1 by omega]) rfl
      · skip
        have hb := hw.b (show j < (sB s).1 by omega)
        refine j_iload_n (pc := 14) X dX5_manyIn_14 rfl (q := 2) rfl ?_
        refine j_aload_n (pc := 15) X dX5_manyIn_15 rfl (q := 0) rfl ?_
        refine j_get (pc := 16) X (C := RX5) (T := TX5) (N := 10) wz_X5 0 rfl rfl 0 (by decide) wf_X5_7 rfl dX5_manyIn_16 ?_
        refine j_iload_n (pc := 19) X dX5_manyIn_19 rfl (q := 3) rfl ?_
        refine j_iconst (pc := 20) X (v := (nI 5)) dX5_manyIn_20 (by decide) ?_
        refine j_callSR (pc := 21) X (st := [.ref (m 1), .int (nI k)])  (c_X5_ofBooking l D tA j 5 ) cd_X5_ofBooking wm_X5_53 rfl [] rfl rfl ⟨Nat.le_of_ble_eq_true rfl, Nat.le_of_ble_eq_true rfl⟩ ⟨Nat.zero_le _, Nat.zero_le _⟩ rfl (Nat.le_of_ble_eq_true rfl) dX5_manyIn_21 ?_
        refine j_iald (pc := 24) X 1 (i := (45 + 8 * j + 5)) rfl (by omega) (by omega) dX5_manyIn_24 ?_
        refine j_top (v' := nI (tGet 8 (sB s) j 5)) (congrArg nI (RB.b hr (by omega) (by omega))) ?_
        refine j_iload_n (pc := 25) X dX5_manyIn_25 rfl (q := 1) rfl ?_
        refine j_icmp_ne (pc := 26) X (tgt := 33) (P := ¬ (tGet 8 (sB s) j 5) = is) dX5_manyIn_26 (by decide) (not_congr (nI_eq (by omega) (by omega))) (fun h26 => ?_) (fun h26 => ?_)
        · skip
          refine j_iconst (pc := 33) X (v := (nI 0)) dX5_manyIn_33 (by decide) ?_
          refine j_iadd (pc := 34) X (v := (nI (k + 0))) dX5_manyIn_34 (nI_add _ _) ?_
          refine j_istore_n (pc := 35) X (lv' := [(2, .int (nI (k + 0))), (0, .ref (m 0)), (1, .int (nI is)), (3, .int (nI j))]) dX5_manyIn_35 rfl (by decide) rfl ?_
          refine j_iinc (pc := 36) X (v := (nI (j + 1))) (lv' := [(3, .int (nI (j + 1))), (2, .int (nI (k + 0))), (0, .ref (m 0)), (1, .int (nI is))]) dX5_manyIn_36 (q := 3) rfl (nI_add _ _) (by decide) rfl ?_
          refine j_goto (pc := 39) X (tgt := 4) dX5_manyIn_39 (by decide) ?_
          refine j_lv X (lv' := [(0, .ref (m 0)), (1, .int (nI is)), (2, .int (nI (k + 0))), (3, .int (nI (j + 1)))]) [2, 3, 1, 0] rfl ?_
          exact ih_4 (j + 1) (k + 0) (by omega) (cnt_f hk (by simpa using h26)) (by omega)
        · skip
          refine j_iconst (pc := 29) X (v := (nI 1)) dX5_manyIn_29 (by decide) ?_
          refine j_goto (pc := 30) X (tgt := 34) dX5_manyIn_30 (by decide) ?_
          refine j_iadd (pc := 34) X (v := (nI (k + 1))) dX5_manyIn_34 (nI_add _ _) ?_
          refine j_istore_n (pc := 35) X (lv' := [(2, .int (nI (k + 1))), (0, .ref (m 0)), (1, .int (nI is)), (3, .int (nI j))]) dX5_manyIn_35 rfl (by decide) rfl ?_
          refine j_iinc (pc := 36) X (v := (nI (j + 1))) (lv' := [(3, .int (nI (j + 1))), (2, .int (nI (k + 1))), (0, .ref (m 0)), (1, .int (nI is))]) dX5_manyIn_36 (q := 3) rfl (nI_add _ _) (by decide) rfl ?_
          refine j_goto (pc := 39) X (tgt := 4) dX5_manyIn_39 (by decide) ?_
          refine j_lv X (lv' := [(0, .ref (m 0)), (1, .int (nI is)), (2, .int (nI (k + 1))), (3, .int (nI (j + 1)))]) [2, 3, 1, 0] rfl ?_
          exact ih_4 (j + 1) (k + 1) (by omega) (cnt_t hk (by simpa using h26)) (by omega)
  refine j_lv X (lv' := [(0, .ref (m 0)), (1, .int (nI is)), (2, .int (nI 0)), (3, .int (nI 0))]) [2, 3, 1, 0] rfl ?_
  exact L_4 _ 0 0 (Nat.zero_le _) rfl (Nat.lt_succ_self _)
theorem cd_X5_bookingsOf : kCardV yX5_bookingsOf cX5_bookingsOf 6 (some .int) 3 := ⟨⟨wc_X5_bookingsOf, wi_X5, by decide +kernel, by decide +kernel, rfl⟩, wk_X5_bookingsOf, ws_X5_bookingsOf⟩
set_option maxHeartbeats 4000000 in
set_option maxRecDepth 100000 in
theorem c_X5_bookingsOf (l : Launch) (D : va_G) (tA : Nat → ClassId) (m : Nat → Nat) (fs : List Value) (R : Nat → Nat) (s : Sg) (wh v is : Nat) (hr : RB s R) (hw : Wf s) (hwh : wh < 2) (hv : v < 2 ^ 31) (his : is < 2 ^ 31) : Kx l D tA yX5_bookingsOf cX5_bookingsOf 6 (some .int) 1 21 [.ref (m 0), .int (nI wh), .int (nI v), .int (nI is)] (rW tA m fs R) (some (.int (nI (cB s wh v is)))) (rW tA m fs R) := by
  refine kx_int rfl (Nat.le_of_ble_eq_true rfl) (fun G X E => ?_)
  show J l D G 0 0 (rW tA m fs R) [(0, .ref (m 0)), (1, .int (nI wh)), (2, .int (nI v)), (3, .int (nI is))] 0 []
  have hn := hw.n
  refine j_iconst (pc := 0) X (v := (nI 0)) dX5_bookingsOf_0 (by decide) ?_
  refine j_istore (pc := 1) X (lv' := [(4, .int (nI 0)), (0, .ref (m 0)), (1, .int (nI wh)), (2, .int (nI v)), (3, .int (nI is))]) dX5_bookingsOf_1 (by decide) rfl ?_
  refine j_iconst (pc := 3) X (v := (nI 0)) dX5_bookingsOf_3 (by decide) ?_
  refine j_istore (pc := 4) X (lv' := [(5, .int (nI 0)), (4, .int (nI 0)), (0, .ref (m 0)), (1, .int (nI wh)), (2, .int (nI v)), (3, .int (nI is))]) dX5_bookingsOf_4 (by decide) rfl ?_
  have L_6 : ∀ (fu : Nat) (j k : Nat), j ≤ (sB s).1 → k = cntN (fun r => decide (tGet 8 (sB s) r wh = v ∧ tGet 8 (sB s) r 5 = is)) j → (sB s).1 - j < fu → J l D G 0 0 (rW tA m fs R) [(0, .ref (m 0)), (1, .int (nI wh)), (2, .int (nI v)), (3, .int (nI is)), (4, .int (nI k)), (5, .int (nI j))] 6 [] := by
    intro fu
    induction fu with
    | zero => intro j k hj hk hfu; exact absurd hfu (Nat.not_lt_zero _)
    | succ fu ih_6 =>
      intro j k hj hk hfu
      refine j_iload (pc := 6) X dX5_bookingsOf_6 (q := 5) rfl ?_
      refine j_aload_n (pc := 8) X dX5_bookingsOf_8 rfl (q := 0) rfl ?_
      refine j_get (pc := 9) X (C := RX5) (T := TX5) (N := 10) wz_X5 0 rfl rfl 0 (by decide) wf_X5_7 rfl dX5_bookingsOf_9 ?_
      refine j_iconst (pc := 12) X (v := (nI 3)) dX5_bookingsOf_12 (by decide) ?_
      refine j_iald (pc := 13) X 1 (i := 3) rfl (by omega) (by omega) dX5_bookingsOf_13 ?_
      refine j_top (v' := nI ((sB s).1)) (congrArg nI (RB.n3 hr)) ?_
      refine j_icmp_ge (pc := 14) X (tgt := 63) (P := ((sB s).1) ≤ j) dX5_bookingsOf_14 (by decide) (nI_leI (by omega) (by omega)) (fun h14 => ?_) (fun h14 => ?_)
      · skip
        refine j_iload (pc := 63) X dX5_bookingsOf_63 (q := 4) rfl ?_
        exact j_endI (pc := 65) E dX5_bookingsOf_65 (by rw [cB, hk, show j = (sB s).1 by omega]) rfl
      · skip
        have hb := hw.b (show j < (sB s).1 by omega)
        have hb1 : tGet 8 (sB s) j wh < 2 ^ 31 := by rcases (show wh = 0 ∨ wh = 1 by omega) with rfl | rfl <;> omega
        refine j_iload (pc := 17) X dX5_bookingsOf_17 (q := 4) rfl ?_
        refine j_aload_n (pc := 19) X dX5_bookingsOf_19 rfl (q := 0) rfl ?_
        refine j_get (pc := 20) X (C := RX5) (T := TX5) (N := 10) wz_X5 0 rfl rfl 0 (by decide) wf_X5_7 rfl dX5_bookingsOf_20 ?_
        refine j_iload (pc := 23) X dX5_bookingsOf_23 (q := 5) rfl ?_
        refine j_iload_n (pc := 25) X dX5_bookingsOf_25 rfl (q := 1) rfl ?_
        refine j_callSR (pc := 26) X (st := [.ref (m 1), .int (nI k)])  (c_X5_ofBooking l D tA j wh ) cd_X5_ofBooking wm_X5_53 rfl [] rfl rfl ⟨Nat.le_of_ble_eq_true rfl, Nat.le_of_ble_eq_true rfl⟩ ⟨Nat.zero_le _, Nat.zero_le _⟩ rfl (Nat.le_of_ble_eq_true rfl) dX5_bookingsOf_26 ?_
        refine j_iald (pc := 29) X 1 (i := (45 + 8 * j + wh)) rfl (by omega) (by omega) dX5_bookingsOf_29 ?_
        refine j_top (v' := nI (tGet 8 (sB s) j wh)) (congrArg nI (RB.b hr (by omega) (by omega))) ?_
        refine j_iload_n (pc := 30) X dX5_bookingsOf_30 rfl (q := 2) rfl ?_
        refine j_icmp_ne (pc := 31) X (tgt := 53) (P := ¬ (tGet 8 (sB s) j wh) = v) dX5_bookingsOf_31 (by decide) (not_congr (nI_eq (by omega) (by omega))) (fun h31 => ?_) (fun h31 => ?_)
        · skip
          refine j_iconst (pc := 53) X (v := (nI 0)) dX5_bookingsOf_53 (by decide) ?_
          refine j_iadd (pc := 54) X (v := (nI (k + 0))) dX5_bookingsOf_54 (nI_add _ _) ?_
          refine j_istore (pc := 55) X (lv' := [(4, .int (nI (k + 0))), (0, .ref (m 0)), (1, .int (nI wh)), (2, .int (nI v)), (3, .int (nI is)), (5, .int (nI j))]) dX5_bookingsOf_55 (by decide) rfl ?_
          refine j_iinc (pc := 57) X (v := (nI (j + 1))) (lv' := [(5, .int (nI (j + 1))), (4, .int (nI (k + 0))), (0, .ref (m 0)), (1, .int (nI wh)), (2, .int (nI v)), (3, .int (nI is))]) dX5_bookingsOf_57 (q := 5) rfl (nI_add _ _) (by decide) rfl ?_
          refine j_goto (pc := 60) X (tgt := 6) dX5_bookingsOf_60 (by decide) ?_
          refine j_lv X (lv' := [(0, .ref (m 0)), (1, .int (nI wh)), (2, .int (nI v)), (3, .int (nI is)), (4, .int (nI (k + 0))), (5, .int (nI (j + 1)))]) [2, 3, 4, 5, 1, 0] rfl ?_
          exact ih_6 (j + 1) (k + 0) (by omega) (cnt_f hk (by simp only [decide_eq_true_eq]; exact fun q => h31 q.1)) (by omega)
        · skip
          refine j_aload_n (pc := 34) X dX5_bookingsOf_34 rfl (q := 0) rfl ?_
          refine j_get (pc := 35) X (C := RX5) (T := TX5) (N := 10) wz_X5 0 rfl rfl 0 (by decide) wf_X5_7 rfl dX5_bookingsOf_35 ?_
          refine j_iload (pc := 38) X dX5_bookingsOf_38 (q := 5) rfl ?_
          refine j_iconst (pc := 40) X (v := (nI 5)) dX5_bookingsOf_40 (by decide) ?_
          refine j_callSR (pc := 41) X (st := [.ref (m 1), .int (nI k)])  (c_X5_ofBooking l D tA j 5 ) cd_X5_ofBooking wm_X5_53 rfl [] rfl rfl ⟨Nat.le_of_ble_eq_true rfl, Nat.le_of_ble_eq_true rfl⟩ ⟨Nat.zero_le _, Nat.zero_le _⟩ rfl (Nat.le_of_ble_eq_true rfl) dX5_bookingsOf_41 ?_
          refine j_iald (pc := 44) X 1 (i := (45 + 8 * j + 5)) rfl (by omega) (by omega) dX5_bookingsOf_44 ?_
          refine j_top (v' := nI (tGet 8 (sB s) j 5)) (congrArg nI (RB.b hr (by omega) (by omega))) ?_
          refine j_iload_n (pc := 45) X dX5_bookingsOf_45 rfl (q := 3) rfl ?_
          refine j_icmp_ne (pc := 46) X (tgt := 53) (P := ¬ (tGet 8 (sB s) j 5) = is) dX5_bookingsOf_46 (by decide) (not_congr (nI_eq (by omega) (by omega))) (fun h46 => ?_) (fun h46 => ?_)
          · skip
            refine j_iconst (pc := 53) X (v := (nI 0)) dX5_bookingsOf_53 (by decide) ?_
            refine j_iadd (pc := 54) X (v := (nI (k + 0))) dX5_bookingsOf_54 (nI_add _ _) ?_
            refine j_istore (pc := 55) X (lv' := [(4, .int (nI (k + 0))), (0, .ref (m 0)), (1, .int (nI wh)), (2, .int (nI v)), (3, .int (nI is)), (5, .int (nI j))]) dX5_bookingsOf_55 (by decide) rfl ?_
            refine j_iinc (pc := 57) X (v := (nI (j + 1))) (lv' := [(5, .int (nI (j + 1))), (4, .int (nI (k + 0))), (0, .ref (m 0)), (1, .int (nI wh)), (2, .int (nI v)), (3, .int (nI is))]) dX5_bookingsOf_57 (q := 5) rfl (nI_add _ _) (by decide) rfl ?_
            refine j_goto (pc := 60) X (tgt := 6) dX5_bookingsOf_60 (by decide) ?_
            refine j_lv X (lv' := [(0, .ref (m 0)), (1, .int (nI wh)), (2, .int (nI v)), (3, .int (nI is)), (4, .int (nI (k + 0))), (5, .int (nI (j + 1)))]) [2, 3, 4, 5, 1, 0] rfl ?_
            exact ih_6 (j + 1) (k + 0) (by omega) (cnt_f hk (by simp only [decide_eq_true_eq]; exact fun q => h46 q.2)) (by omega)
          · skip
            refine j_iconst (pc := 49) X (v := (nI 1)) dX5_bookingsOf_49 (by decide) ?_
            refine j_goto (pc := 50) X (tgt := 54) dX5_bookingsOf_50 (by decide) ?_
            refine j_iadd (pc := 54) X (v := (nI (k + 1))) dX5_bookingsOf_54 (nI_add _ _) ?_
            refine j_istore (pc := 55) X (lv' := [(4, .int (nI (k + 1))), (0, .ref (m 0)), (1, .int (nI wh)), (2, .int (nI v)), (3, .int (nI is)), (5, .int (nI j))]) dX5_bookingsOf_55 (by decide) rfl ?_
            refine j_iinc (pc := 57) X (v := (nI (j + 1))) (lv' := [(5, .int (nI (j + 1))), (4, .int (nI (k + 1))), (0, .ref (m 0)), (1, .int (nI wh)), (2, .int (nI v)), (3, .int (nI is))]) dX5_bookingsOf_57 (q := 5) rfl (nI_add _ _) (by decide) rfl ?_
            refine j_goto (pc := 60) X (tgt := 6) dX5_bookingsOf_60 (by decide) ?_
            refine j_lv X (lv' := [(0, .ref (m 0)), (1, .int (nI wh)), (2, .int (nI v)), (3, .int (nI is)), (4, .int (nI (k + 1))), (5, .int (nI (j + 1)))]) [2, 3, 4, 5, 1, 0] rfl ?_
            exact ih_6 (j + 1) (k + 1) (by omega) (cnt_t hk (by simp only [decide_eq_true_eq]; exact ⟨Decidable.not_not.mp h31, Decidable.not_not.mp h46⟩)) (by omega)
  refine j_lv X (lv' := [(0, .ref (m 0)), (1, .int (nI wh)), (2, .int (nI v)), (3, .int (nI is)), (4, .int (nI 0)), (5, .int (nI 0))]) [2, 3, 4, 5, 1, 0] rfl ?_
  exact L_6 _ 0 0 (Nat.zero_le _) rfl (Nat.lt_succ_self _)
theorem cd_X5_movesOf : kCardV yX5_movesOf cX5_movesOf 5 (some .int) 2 := ⟨⟨wc_X5_movesOf, wi_X5, by decide +kernel, by decide +kernel, rfl⟩, wk_X5_movesOf, ws_X5_movesOf⟩
set_option maxHeartbeats 4000000 in
set_option maxRecDepth 100000 in
theorem c_X5_movesOf (l : Launch) (D : va_G) (tA : Nat → ClassId) (m : Nat → Nat) (fs : List Value) (R : Nat → Nat) (s : Sg) (wh v : Nat) (hr : RB s R) (hw : Wf s) (hwh : wh < 3) (hv : v < 2 ^ 31) : Kx l D tA yX5_movesOf cX5_movesOf 5 (some .int) 1 21 [.ref (m 0), .int (nI wh), .int (nI v)] (rW tA m fs R) (some (.int (nI (cV s wh v)))) (rW tA m fs R) := by
  refine kx_int rfl (Nat.le_of_ble_eq_true rfl) (fun G X E => ?_)
  show J l D G 0 0 (rW tA m fs R) [(0, .ref (m 0)), (1, .int (nI wh)), (2, .int (nI v))] 0 []
  have hn := hw.n
  refine j_iconst (pc := 0) X (v := (nI 0)) dX5_movesOf_0 (by decide) ?_
  refine j_istore_n (pc := 1) X (lv' := [(3, .int (nI 0)), (0, .ref (m 0)), (1, .int (nI wh)), (2, .int (nI v))]) dX5_movesOf_1 rfl (by decide) rfl ?_
  refine j_iconst (pc := 2) X (v := (nI 0)) dX5_movesOf_2 (by decide) ?_
  refine j_istore (pc := 3) X (lv' := [(4, .int (nI 0)), (3, .int (nI 0)), (0, .ref (m 0)), (1, .int (nI wh)), (2, .int (nI v))]) dX5_movesOf_3 (by decide) rfl ?_
  have L_5 : ∀ (fu : Nat) (j k : Nat), j ≤ (sV s).1 → k = cntN (fun r => decide (tGet 5 (sV s) r wh = v)) j → (sV s).1 - j < fu → J l D G 0 0 (rW tA m fs R) [(0, .ref (m 0)), (1, .int (nI wh)), (2, .int (nI v)), (3, .int (nI k)), (4, .int (nI j))] 5 [] := by
    intro fu
    induction fu with
    | zero => intro j k hj hk hfu; exact absurd hfu (Nat.not_lt_zero _)
    | succ fu ih_5 =>
      intro j k hj hk hfu
      refine j_iload (pc := 5) X dX5_movesOf_5 (q := 4) rfl ?_
      refine j_aload_n (pc := 7) X dX5_movesOf_7 rfl (q := 0) rfl ?_
      refine j_get (pc := 8) X (C := RX5) (T := TX5) (N := 10) wz_X5 0 rfl rfl 0 (by decide) wf_X5_7 rfl dX5_movesOf_8 ?_
      refine j_iconst (pc := 11) X (v := (nI 4)) dX5_movesOf_11 (by decide) ?_
      refine j_iald (pc := 12) X 1 (i := 4) rfl (by omega) (by omega) dX5_movesOf_12 ?_
      refine j_top (v' := nI ((sV s).1)) (congrArg nI (RB.n4 hr)) ?_
      refine j_icmp_ge (pc := 13) X (tgt := 45) (P := ((sV s).1) ≤ j) dX5_movesOf_13 (by decide) (nI_leI (by omega) (by omega)) (fun h13 => ?_) (fun h13 => ?_)
      · skip
        refine j_iload_n (pc := 45) X dX5_movesOf_45 rfl (q := 3) rfl ?_
        exact j_endI (pc := 46) E dX5_movesOf_46 (by rw [cV, hk, show j = (sV s).1 by omega]) rfl
      · skip
        have hb := hw.v (show j < (sV s).1 by omega)
        have hb1 : tGet 5 (sV s) j wh < 2 ^ 31 := by rcases (show wh = 0 ∨ wh = 1 ∨ wh = 2 by omega) with rfl | rfl | rfl <;> omega
        refine j_iload_n (pc := 16) X dX5_movesOf_16 rfl (q := 3) rfl ?_
        refine j_aload_n (pc := 17) X dX5_movesOf_17 rfl (q := 0) rfl ?_
        refine j_get (pc := 18) X (C := RX5) (T := TX5) (N := 10) wz_X5 0 rfl rfl 0 (by decide) wf_X5_7 rfl dX5_movesOf_18 ?_
        refine j_iload (pc := 21) X dX5_movesOf_21 (q := 4) rfl ?_
        refine j_iload_n (pc := 23) X dX5_movesOf_23 rfl (q := 1) rfl ?_
        refine j_callSR (pc := 24) X (st := [.ref (m 1), .int (nI k)])  (c_X5_ofMove l D tA j wh ) cd_X5_ofMove wm_X5_88 rfl [] rfl rfl ⟨Nat.le_of_ble_eq_true rfl, Nat.le_of_ble_eq_true rfl⟩ ⟨Nat.zero_le _, Nat.zero_le _⟩ rfl (Nat.le_of_ble_eq_true rfl) dX5_movesOf_24 ?_
        refine j_iald (pc := 27) X 1 (i := (285 + 5 * j + wh)) rfl (by omega) (by omega) dX5_movesOf_27 ?_
        refine j_top (v' := nI (tGet 5 (sV s) j wh)) (congrArg nI (RB.v hr (by omega) (by omega))) ?_
        refine j_iload_n (pc := 28) X dX5_movesOf_28 rfl (q := 2) rfl ?_
        refine j_icmp_ne (pc := 29) X (tgt := 36) (P := ¬ (tGet 5 (sV s) j wh) = v) dX5_movesOf_29 (by decide) (not_congr (nI_eq (by omega) (by omega))) (fun h29 => ?_) (fun h29 => ?_)
        · skip
          refine j_iconst (pc := 36) X (v := (nI 0)) dX5_movesOf_36 (by decide) ?_
          refine j_iadd (pc := 37) X (v := (nI (k + 0))) dX5_movesOf_37 (nI_add _ _) ?_
          refine j_istore_n (pc := 38) X (lv' := [(3, .int (nI (k + 0))), (0, .ref (m 0)), (1, .int (nI wh)), (2, .int (nI v)), (4, .int (nI j))]) dX5_movesOf_38 rfl (by decide) rfl ?_
          refine j_iinc (pc := 39) X (v := (nI (j + 1))) (lv' := [(4, .int (nI (j + 1))), (3, .int (nI (k + 0))), (0, .ref (m 0)), (1, .int (nI wh)), (2, .int (nI v))]) dX5_movesOf_39 (q := 4) rfl (nI_add _ _) (by decide) rfl ?_
          refine j_goto (pc := 42) X (tgt := 5) dX5_movesOf_42 (by decide) ?_
          refine j_lv X (lv' := [(0, .ref (m 0)), (1, .int (nI wh)), (2, .int (nI v)), (3, .int (nI (k + 0))), (4, .int (nI (j + 1)))]) [2, 3, 4, 1, 0] rfl ?_
          exact ih_5 (j + 1) (k + 0) (by omega) (cnt_f hk (by simpa using h29)) (by omega)
        · skip
          refine j_iconst (pc := 32) X (v := (nI 1)) dX5_movesOf_32 (by decide) ?_
          refine j_goto (pc := 33) X (tgt := 37) dX5_movesOf_33 (by decide) ?_
          refine j_iadd (pc := 37) X (v := (nI (k + 1))) dX5_movesOf_37 (nI_add _ _) ?_
          refine j_istore_n (pc := 38) X (lv' := [(3, .int (nI (k + 1))), (0, .ref (m 0)), (1, .int (nI wh)), (2, .int (nI v)), (4, .int (nI j))]) dX5_movesOf_38 rfl (by decide) rfl ?_
          refine j_iinc (pc := 39) X (v := (nI (j + 1))) (lv' := [(4, .int (nI (j + 1))), (3, .int (nI (k + 1))), (0, .ref (m 0)), (1, .int (nI wh)), (2, .int (nI v))]) dX5_movesOf_39 (q := 4) rfl (nI_add _ _) (by decide) rfl ?_
          refine j_goto (pc := 42) X (tgt := 5) dX5_movesOf_42 (by decide) ?_
          refine j_lv X (lv' := [(0, .ref (m 0)), (1, .int (nI wh)), (2, .int (nI v)), (3, .int (nI (k + 1))), (4, .int (nI (j + 1)))]) [2, 3, 4, 1, 0] rfl ?_
          exact ih_5 (j + 1) (k + 1) (by omega) (cnt_t hk (by simpa using h29)) (by omega)
  refine j_lv X (lv' := [(0, .ref (m 0)), (1, .int (nI wh)), (2, .int (nI v)), (3, .int (nI 0)), (4, .int (nI 0))]) [2, 3, 4, 1, 0] rfl ?_
  exact L_5 _ 0 0 (Nat.zero_le _) rfl (Nat.lt_succ_self _)
theorem cd_X5_allPaid : kCardV yX5_allPaid cX5_allPaid 3 (some .int) 0 := ⟨⟨wc_X5_allPaid, wi_X5, by decide +kernel, by decide +kernel, rfl⟩, wk_X5_allPaid, ws_X5_allPaid⟩
set_option maxHeartbeats 4000000 in
set_option maxRecDepth 100000 in
theorem c_X5_allPaid (l : Launch) (D : va_G) (tA : Nat → ClassId) (m : Nat → Nat) (fs : List Value) (R : Nat → Nat) (s : Sg)  (hr : RB s R) (hw : Wf s)  : Kx l D tA yX5_allPaid cX5_allPaid 3 (some .int) 1 21 [.ref (m 0)] (rW tA m fs R) (some (.int (nI (sumN (fun r => tGet 2 (sP s) r 0) (sP s).1)))) (rW tA m fs R) := by
  refine kx_int rfl (Nat.le_of_ble_eq_true rfl) (fun G X E => ?_)
  show J l D G 0 0 (rW tA m fs R) [(0, .ref (m 0))] 0 []
  have hn := hw.n
  refine j_iconst (pc := 0) X (v := (nI 0)) dX5_allPaid_0 (by decide) ?_
  refine j_istore_n (pc := 1) X (lv' := [(1, .int (nI 0)), (0, .ref (m 0))]) dX5_allPaid_1 rfl (by decide) rfl ?_
  refine j_iconst (pc := 2) X (v := (nI 0)) dX5_allPaid_2 (by decide) ?_
  refine j_istore_n (pc := 3) X (lv' := [(2, .int (nI 0)), (1, .int (nI 0)), (0, .ref (m 0))]) dX5_allPaid_3 rfl (by decide) rfl ?_
  have L_4 : ∀ (fu : Nat) (j k : Nat), j ≤ (sP s).1 → k = sumN (fun r => tGet 2 (sP s) r 0) j → (sP s).1 - j < fu → J l D G 0 0 (rW tA m fs R) [(0, .ref (m 0)), (1, .int (nI k)), (2, .int (nI j))] 4 [] := by
    intro fu
    induction fu with
    | zero => intro j k hj hk hfu; exact absurd hfu (Nat.not_lt_zero _)
    | succ fu ih_4 =>
      intro j k hj hk hfu
      refine j_iload_n (pc := 4) X dX5_allPaid_4 rfl (q := 2) rfl ?_
      refine j_aload_n (pc := 5) X dX5_allPaid_5 rfl (q := 0) rfl ?_
      refine j_get (pc := 6) X (C := RX5) (T := TX5) (N := 10) wz_X5 0 rfl rfl 0 (by decide) wf_X5_7 rfl dX5_allPaid_6 ?_
      refine j_iconst (pc := 9) X (v := (nI 2)) dX5_allPaid_9 (by decide) ?_
      refine j_iald (pc := 10) X 1 (i := 2) rfl (by omega) (by omega) dX5_allPaid_10 ?_
      refine j_top (v' := nI ((sP s).1)) (congrArg nI (RB.n2 hr)) ?_
      refine j_icmp_ge (pc := 11) X (tgt := 33) (P := ((sP s).1) ≤ j) dX5_allPaid_11 (by decide) (nI_leI (by omega) (by omega)) (fun h11 => ?_) (fun h11 => ?_)
      · skip
        refine j_iload_n (pc := 33) X dX5_allPaid_33 rfl (q := 1) rfl ?_
        exact j_endI (pc := 34) E dX5_allPaid_34 (by rw [hk, show j = (sP s).1 by omega]) rfl
      · skip
        refine j_iload_n (pc := 14) X dX5_allPaid_14 rfl (q := 1) rfl ?_
        refine j_aload_n (pc := 15) X dX5_allPaid_15 rfl (q := 0) rfl ?_
        refine j_get (pc := 16) X (C := RX5) (T := TX5) (N := 10) wz_X5 0 rfl rfl 0 (by decide) wf_X5_7 rfl dX5_allPaid_16 ?_
        refine j_iload_n (pc := 19) X dX5_allPaid_19 rfl (q := 2) rfl ?_
        refine j_iconst (pc := 20) X (v := (nI 0)) dX5_allPaid_20 (by decide) ?_
        refine j_callSR (pc := 21) X (st := [.ref (m 1), .int (nI k)])  (c_X5_ofMember l D tA j 0 ) cd_X5_ofMember wm_X5_42 rfl [] rfl rfl ⟨Nat.le_of_ble_eq_true rfl, Nat.le_of_ble_eq_true rfl⟩ ⟨Nat.zero_le _, Nat.zero_le _⟩ rfl (Nat.le_of_ble_eq_true rfl) dX5_allPaid_21 ?_
        refine j_iald (pc := 24) X 1 (i := (29 + 2 * j + 0)) rfl (by omega) (by omega) dX5_allPaid_24 ?_
        refine j_top (v' := nI (tGet 2 (sP s) j 0)) (congrArg nI (RB.p hr (by omega) (by omega))) ?_
        refine j_iadd (pc := 25) X (v := (nI (k + (tGet 2 (sP s) j 0)))) dX5_allPaid_25 (nI_add _ _) ?_
        refine j_istore_n (pc := 26) X (lv' := [(1, .int (nI (k + (tGet 2 (sP s) j 0)))), (0, .ref (m 0)), (2, .int (nI j))]) dX5_allPaid_26 rfl (by decide) rfl ?_
        refine j_iinc (pc := 27) X (v := (nI (j + 1))) (lv' := [(2, .int (nI (j + 1))), (1, .int (nI (k + (tGet 2 (sP s) j 0)))), (0, .ref (m 0))]) dX5_allPaid_27 (q := 2) rfl (nI_add _ _) (by decide) rfl ?_
        refine j_goto (pc := 30) X (tgt := 4) dX5_allPaid_30 (by decide) ?_
        refine j_lv X (lv' := [(0, .ref (m 0)), (1, .int (nI (k + (tGet 2 (sP s) j 0)))), (2, .int (nI (j + 1)))]) [2, 1, 0] rfl ?_
        exact ih_4 (j + 1) (k + (fun r => tGet 2 (sP s) r 0) j) (by omega) (by rw [hk]; rfl) (by omega)
  refine j_lv X (lv' := [(0, .ref (m 0)), (1, .int (nI 0)), (2, .int (nI 0))]) [2, 1, 0] rfl ?_
  exact L_4 _ 0 0 (Nat.zero_le _) rfl (Nat.lt_succ_self _)
theorem cd_X5_allBlocks : kCardV yX5_allBlocks cX5_allBlocks 3 (some .int) 0 := ⟨⟨wc_X5_allBlocks, wi_X5, by decide +kernel, by decide +kernel, rfl⟩, wk_X5_allBlocks, ws_X5_allBlocks⟩
set_option maxHeartbeats 4000000 in
set_option maxRecDepth 100000 in
theorem c_X5_allBlocks (l : Launch) (D : va_G) (tA : Nat → ClassId) (m : Nat → Nat) (fs : List Value) (R : Nat → Nat) (s : Sg)  (hr : RB s R) (hw : Wf s)  : Kx l D tA yX5_allBlocks cX5_allBlocks 3 (some .int) 1 21 [.ref (m 0)] (rW tA m fs R) (some (.int (nI (sumN (fun r => tGet 3 (sM s) r 1) (sM s).1)))) (rW tA m fs R) := by
  refine kx_int rfl (Nat.le_of_ble_eq_true rfl) (fun G X E => ?_)
  show J l D G 0 0 (rW tA m fs R) [(0, .ref (m 0))] 0 []
  have hn := hw.n
  refine j_iconst (pc := 0) X (v := (nI 0)) dX5_allBlocks_0 (by decide) ?_
  refine j_istore_n (pc := 1) X (lv' := [(1, .int (nI 0)), (0, .ref (m 0))]) dX5_allBlocks_1 rfl (by decide) rfl ?_
  refine j_iconst (pc := 2) X (v := (nI 0)) dX5_allBlocks_2 (by decide) ?_
  refine j_istore_n (pc := 3) X (lv' := [(2, .int (nI 0)), (1, .int (nI 0)), (0, .ref (m 0))]) dX5_allBlocks_3 rfl (by decide) rfl ?_
  have L_4 : ∀ (fu : Nat) (j k : Nat), j ≤ (sM s).1 → k = sumN (fun r => tGet 3 (sM s) r 1) j → (sM s).1 - j < fu → J l D G 0 0 (rW tA m fs R) [(0, .ref (m 0)), (1, .int (nI k)), (2, .int (nI j))] 4 [] := by
    intro fu
    induction fu with
    | zero => intro j k hj hk hfu; exact absurd hfu (Nat.not_lt_zero _)
    | succ fu ih_4 =>
      intro j k hj hk hfu
      refine j_iload_n (pc := 4) X dX5_allBlocks_4 rfl (q := 2) rfl ?_
      refine j_aload_n (pc := 5) X dX5_allBlocks_5 rfl (q := 0) rfl ?_
      refine j_get (pc := 6) X (C := RX5) (T := TX5) (N := 10) wz_X5 0 rfl rfl 0 (by decide) wf_X5_7 rfl dX5_allBlocks_6 ?_
      refine j_iconst (pc := 9) X (v := (nI 1)) dX5_allBlocks_9 (by decide) ?_
      refine j_iald (pc := 10) X 1 (i := 1) rfl (by omega) (by omega) dX5_allBlocks_10 ?_
      refine j_top (v' := nI ((sM s).1)) (congrArg nI (RB.n1 hr)) ?_
      refine j_icmp_ge (pc := 11) X (tgt := 33) (P := ((sM s).1) ≤ j) dX5_allBlocks_11 (by decide) (nI_leI (by omega) (by omega)) (fun h11 => ?_) (fun h11 => ?_)
      · skip
        refine j_iload_n (pc := 33) X dX5_allBlocks_33 rfl (q := 1) rfl ?_
        exact j_endI (pc := 34) E dX5_allBlocks_34 (by rw [hk, show j = (sM s).1 by omega]) rfl
      · skip
        refine j_iload_n (pc := 14) X dX5_allBlocks_14 rfl (q := 1) rfl ?_
        refine j_aload_n (pc := 15) X dX5_allBlocks_15 rfl (q := 0) rfl ?_
        refine j_get (pc := 16) X (C := RX5) (T := TX5) (N := 10) wz_X5 0 rfl rfl 0 (by decide) wf_X5_7 rfl dX5_allBlocks_16 ?_
        refine j_iload_n (pc := 19) X dX5_allBlocks_19 rfl (q := 2) rfl ?_
        refine j_iconst (pc := 20) X (v := (nI 1)) dX5_allBlocks_20 (by decide) ?_
        refine j_callSR (pc := 21) X (st := [.ref (m 1), .int (nI k)])  (c_X5_of l D tA j 1 ) cd_X5_of wm_X5_38 rfl [] rfl rfl ⟨Nat.le_of_ble_eq_true rfl, Nat.le_of_ble_eq_true rfl⟩ ⟨Nat.zero_le _, Nat.zero_le _⟩ rfl (Nat.le_of_ble_eq_true rfl) dX5_allBlocks_21 ?_
        refine j_iald (pc := 24) X 1 (i := (9 + 4 * j + 1)) rfl (by omega) (by omega) dX5_allBlocks_24 ?_
        refine j_top (v' := nI (tGet 3 (sM s) j 1)) (congrArg nI (RB.m1 hr (by omega))) ?_
        refine j_iadd (pc := 25) X (v := (nI (k + (tGet 3 (sM s) j 1)))) dX5_allBlocks_25 (nI_add _ _) ?_
        refine j_istore_n (pc := 26) X (lv' := [(1, .int (nI (k + (tGet 3 (sM s) j 1)))), (0, .ref (m 0)), (2, .int (nI j))]) dX5_allBlocks_26 rfl (by decide) rfl ?_
        refine j_iinc (pc := 27) X (v := (nI (j + 1))) (lv' := [(2, .int (nI (j + 1))), (1, .int (nI (k + (tGet 3 (sM s) j 1)))), (0, .ref (m 0))]) dX5_allBlocks_27 (q := 2) rfl (nI_add _ _) (by decide) rfl ?_
        refine j_goto (pc := 30) X (tgt := 4) dX5_allBlocks_30 (by decide) ?_
        refine j_lv X (lv' := [(0, .ref (m 0)), (1, .int (nI (k + (tGet 3 (sM s) j 1)))), (2, .int (nI (j + 1)))]) [2, 1, 0] rfl ?_
        exact ih_4 (j + 1) (k + (fun r => tGet 3 (sM s) r 1) j) (by omega) (by rw [hk]; rfl) (by omega)
  refine j_lv X (lv' := [(0, .ref (m 0)), (1, .int (nI 0)), (2, .int (nI 0))]) [2, 1, 0] rfl ?_
  exact L_4 _ 0 0 (Nat.zero_le _) rfl (Nat.lt_succ_self _)
