theorem nI_neg {a b : Nat} (h : b ≤ a) : nI a + -nI b = nI (a - b) := by rw [← Int32.sub_eq_add_neg]; exact pk_sub h
theorem clo_none {s : Sg} {h : Nat} (e : nxt (sV s) h = none) : ∀ n, clo n s h = s
  | 0 => rfl
  | n + 1 => by simp [clo, e]
theorem clo_some {s : Sg} {h v : Nat} (e : nxt (sV s) h = some v) (n : Nat) : clo (n + 1) s h = clo n (clM s v) h := by simp [clo, e]
def isW (x a b : Int32) : Bool := decide (a.toInt ≤ x.toInt ∧ x.toInt ≤ b.toInt)
def isRad (x : Int32) : Bool := decide (2 ≤ x.toInt ∧ x.toInt ≤ 60)
def isLft (x r : Int32) : Bool := decide ((1 ≤ x.toInt ∧ x.toInt ≤ 2000) ∧ 2 ≤ r.toInt ∧ r.toInt ≤ 60)
theorem t5 {x : Bool} (h : ¬ x = false) : x = true := by cases x <;> simp_all
theorem cd_X4_isWithin : kCardS yX4_isWithin cX4_isWithin 3 (some .boolean) 3 := ⟨⟨wc_X4_isWithin, wi_X4, by decide +kernel, by decide +kernel, rfl⟩, wt_X4_isWithin⟩
set_option maxHeartbeats 4000000 in
set_option maxRecDepth 100000 in
theorem c_X4_isWithin (l : Launch) (D : va_G) (tA : Nat → ClassId) (x a b : Int32)  : Kx l D tA yX4_isWithin cX4_isWithin 3 (some .boolean) 0 0 [.int x, .int a, .int b] ([] : va_W) (some (.int (bI (isW x a b)))) ([] : va_W) := by
  refine kx_bool rfl (Nat.le_of_ble_eq_true rfl) (fun G X E => ?_)
  show J l D G 0 0 ([] : va_W) [(0, .int x), (1, .int a), (2, .int b)] 0 []
  refine j_iload_n (pc := 0) X dX4_isWithin_0 rfl (q := 0) rfl ?_
  refine j_iload_n (pc := 1) X dX4_isWithin_1 rfl (q := 1) rfl ?_
  refine j_icmp_lt (pc := 2) X (tgt := 14) (P := x.toInt < a.toInt) dX4_isWithin_2 (by decide) Int32.lt_iff_toInt_lt (fun h2 => ?_) (fun h2 => ?_)
  · skip
    refine j_iconst (pc := 14) X (v := (nI 0)) dX4_isWithin_14 (by decide) ?_
    exact j_endI (pc := 15) E dX4_isWithin_15 (bI_f (by simp only [isW, decide_eq_false_iff_not]; omega)) rfl
  · skip
    refine j_iload_n (pc := 5) X dX4_isWithin_5 rfl (q := 0) rfl ?_
    refine j_iload_n (pc := 6) X dX4_isWithin_6 rfl (q := 2) rfl ?_
    refine j_icmp_gt (pc := 7) X (tgt := 14) (P := b.toInt < x.toInt) dX4_isWithin_7 (by decide) Int32.lt_iff_toInt_lt (fun h7 => ?_) (fun h7 => ?_)
    · skip
      refine j_iconst (pc := 14) X (v := (nI 0)) dX4_isWithin_14 (by decide) ?_
      exact j_endI (pc := 15) E dX4_isWithin_15 (bI_f (by simp only [isW, decide_eq_false_iff_not]; omega)) rfl
    · skip
      refine j_iconst (pc := 10) X (v := (nI 1)) dX4_isWithin_10 (by decide) ?_
      refine j_goto (pc := 11) X (tgt := 15) dX4_isWithin_11 (by decide) ?_
      exact j_endI (pc := 15) E dX4_isWithin_15 (bI_t (by simp only [isW, decide_eq_true_eq]; omega)) rfl
theorem cd_X4_isHalfDay : kCardS yX4_isHalfDay cX4_isHalfDay 1 (some .boolean) 1 := ⟨⟨wc_X4_isHalfDay, wi_X4, by decide +kernel, by decide +kernel, rfl⟩, wt_X4_isHalfDay⟩
set_option maxHeartbeats 4000000 in
set_option maxRecDepth 100000 in
theorem c_X4_isHalfDay (l : Launch) (D : va_G) (tA : Nat → ClassId) (x : Int32)  : Kx l D tA yX4_isHalfDay cX4_isHalfDay 1 (some .boolean) 1 22 [.int x] ([] : va_W) (some (.int (bI (inR x 200)))) ([] : va_W) := by
  refine kx_bool rfl (Nat.le_of_ble_eq_true rfl) (fun G X E => ?_)
  show J l D G 0 0 ([] : va_W) [(0, .int x)] 0 []
  refine j_iload_n (pc := 0) X dX4_isHalfDay_0 rfl (q := 0) rfl ?_
  refine j_iconst (pc := 1) X (v := (nI 0)) dX4_isHalfDay_1 (by decide) ?_
  refine j_sipush (pc := 2) X (v := (nI 199)) dX4_isHalfDay_2 (by decide) ?_
  refine j_callSR (pc := 5) X (st := [])  (c_X4_isWithin l D tA x (nI 0) (nI 199) ) cd_X4_isWithin wm_X4_40 rfl [] rfl rfl ⟨Nat.le_of_ble_eq_true rfl, Nat.le_of_ble_eq_true rfl⟩ ⟨Nat.zero_le _, Nat.zero_le _⟩ rfl (Nat.le_of_ble_eq_true rfl) dX4_isHalfDay_5 ?_
  exact j_endI (pc := 8) E dX4_isHalfDay_8 (congrArg bI (by have e1 := nI_toInt (show 199 < 2 ^ 31 by decide); have e0 := nI_toInt (show 0 < 2 ^ 31 by decide); simp only [inR, isW, e1, e0, decide_eq_decide]; omega)) rfl
theorem cd_X4_isRadius : kCardS yX4_isRadius cX4_isRadius 1 (some .boolean) 1 := ⟨⟨wc_X4_isRadius, wi_X4, by decide +kernel, by decide +kernel, rfl⟩, wt_X4_isRadius⟩
set_option maxHeartbeats 4000000 in
set_option maxRecDepth 100000 in
theorem c_X4_isRadius (l : Launch) (D : va_G) (tA : Nat → ClassId) (x : Int32)  : Kx l D tA yX4_isRadius cX4_isRadius 1 (some .boolean) 1 22 [.int x] ([] : va_W) (some (.int (bI (isRad x)))) ([] : va_W) := by
  refine kx_bool rfl (Nat.le_of_ble_eq_true rfl) (fun G X E => ?_)
  show J l D G 0 0 ([] : va_W) [(0, .int x)] 0 []
  refine j_iload_n (pc := 0) X dX4_isRadius_0 rfl (q := 0) rfl ?_
  refine j_iconst (pc := 1) X (v := (nI 2)) dX4_isRadius_1 (by decide) ?_
  refine j_bipush (pc := 2) X (v := (nI 60)) dX4_isRadius_2 (by decide) ?_
  refine j_callSR (pc := 4) X (st := [])  (c_X4_isWithin l D tA x (nI 2) (nI 60) ) cd_X4_isWithin wm_X4_40 rfl [] rfl rfl ⟨Nat.le_of_ble_eq_true rfl, Nat.le_of_ble_eq_true rfl⟩ ⟨Nat.zero_le _, Nat.zero_le _⟩ rfl (Nat.le_of_ble_eq_true rfl) dX4_isRadius_4 ?_
  exact j_endI (pc := 7) E dX4_isRadius_7 (congrArg bI (by have e1 := nI_toInt (show 60 < 2 ^ 31 by decide); have e0 := nI_toInt (show 2 < 2 ^ 31 by decide); simp only [isRad, isW, e1, e0, decide_eq_decide]; omega)) rfl
theorem cd_X4_isLift : kCardS yX4_isLift cX4_isLift 2 (some .boolean) 2 := ⟨⟨wc_X4_isLift, wi_X4, by decide +kernel, by decide +kernel, rfl⟩, wt_X4_isLift⟩
set_option maxHeartbeats 4000000 in
set_option maxRecDepth 100000 in
theorem c_X4_isLift (l : Launch) (D : va_G) (tA : Nat → ClassId) (x r : Int32)  : Kx l D tA yX4_isLift cX4_isLift 2 (some .boolean) 2 42 [.int x, .int r] ([] : va_W) (some (.int (bI (isLft x r)))) ([] : va_W) := by
  refine kx_bool rfl (Nat.le_of_ble_eq_true rfl) (fun G X E => ?_)
  show J l D G 0 0 ([] : va_W) [(0, .int x), (1, .int r)] 0 []
  have e1 := nI_toInt (show 1 < 2 ^ 31 by decide)
  have e2 := nI_toInt (show 2000 < 2 ^ 31 by decide)
  refine j_iload_n (pc := 0) X dX4_isLift_0 rfl (q := 0) rfl ?_
  refine j_iconst (pc := 1) X (v := (nI 1)) dX4_isLift_1 (by decide) ?_
  refine j_sipush (pc := 2) X (v := (nI 2000)) dX4_isLift_2 (by decide) ?_
  refine j_callSR (pc := 5) X (st := [])  (c_X4_isWithin l D tA x (nI 1) (nI 2000) ) cd_X4_isWithin wm_X4_40 rfl [] rfl rfl ⟨Nat.le_of_ble_eq_true rfl, Nat.le_of_ble_eq_true rfl⟩ ⟨Nat.zero_le _, Nat.zero_le _⟩ rfl (Nat.le_of_ble_eq_true rfl) dX4_isLift_5 ?_
  refine j_if_eq (pc := 8) X (tgt := 22) (P := (isW x (nI 1) (nI 2000)) = false) dX4_isLift_8 (by decide) (bI_0 _) (fun h8 => ?_) (fun h8 => ?_)
  · skip
    refine j_iconst (pc := 22) X (v := (nI 0)) dX4_isLift_22 (by decide) ?_
    exact j_endI (pc := 23) E dX4_isLift_23 (bI_f (by have a1 := h8; simp only [isW, isRad, isLft, e1, e2, decide_eq_false_iff_not] at a1 ⊢; omega)) rfl
  · skip
    refine j_iload_n (pc := 11) X dX4_isLift_11 rfl (q := 1) rfl ?_
    refine j_callSR (pc := 12) X (st := [])  (c_X4_isRadius l D tA r ) cd_X4_isRadius wm_X4_170 rfl [] rfl rfl ⟨Nat.le_of_ble_eq_true rfl, Nat.le_of_ble_eq_true rfl⟩ ⟨Nat.zero_le _, Nat.zero_le _⟩ rfl (Nat.le_of_ble_eq_true rfl) dX4_isLift_12 ?_
    refine j_if_eq (pc := 15) X (tgt := 22) (P := (isRad r) = false) dX4_isLift_15 (by decide) (bI_0 _) (fun h15 => ?_) (fun h15 => ?_)
    · skip
      refine j_iconst (pc := 22) X (v := (nI 0)) dX4_isLift_22 (by decide) ?_
      exact j_endI (pc := 23) E dX4_isLift_23 (bI_f (by have a1 := h15; simp only [isW, isRad, isLft, e1, e2, decide_eq_false_iff_not] at a1 ⊢; omega)) rfl
    · skip
      refine j_iconst (pc := 18) X (v := (nI 1)) dX4_isLift_18 (by decide) ?_
      refine j_goto (pc := 19) X (tgt := 23) dX4_isLift_19 (by decide) ?_
      exact j_endI (pc := 23) E dX4_isLift_23 (bI_t (by have a1 := t5 h8; have a2 := t5 h15; simp only [isW, isRad, isLft, e1, e2, decide_eq_true_eq] at a1 a2 ⊢; omega)) rfl
theorem cd_X4_limitFor : kCardS yX4_limitFor cX4_limitFor 2 (some .int) 2 := ⟨⟨wc_X4_limitFor, wi_X4, by decide +kernel, by decide +kernel, rfl⟩, wt_X4_limitFor⟩
set_option maxHeartbeats 4000000 in
set_option maxRecDepth 100000 in
theorem c_X4_limitFor (l : Launch) (D : va_G) (tA : Nat → ClassId) (ld r : Nat) (hl : ld ≤ 2000) (hr : r ≤ 60) : Kx l D tA yX4_limitFor cX4_limitFor 2 (some .int) 1 13 [.int (nI ld), .int (nI r)] ([] : va_W) (some (.int (nI (limN ld r)))) ([] : va_W) := by
  refine kx_int rfl (Nat.le_of_ble_eq_true rfl) (fun G X E => ?_)
  show J l D G 0 0 ([] : va_W) [(0, .int (nI ld)), (1, .int (nI r))] 0 []
  refine j_bipush (pc := 0) X (v := (nI 60)) dX4_limitFor_0 (by decide) ?_
  refine j_iload_n (pc := 2) X dX4_limitFor_2 rfl (q := 0) rfl ?_
  refine j_bipush (pc := 3) X (v := (nI 20)) dX4_limitFor_3 (by decide) ?_
  refine j_idiv (pc := 5) X (v := (nI (ld / 20))) dX4_limitFor_5 (nI_ne0 (by omega) (by omega)) (pk_div (by omega) (by omega) (by omega)) ?_
  refine j_isub (pc := 6) X (v := (nI 60 - nI (ld / 20))) dX4_limitFor_6 rfl ?_
  refine j_iload_n (pc := 7) X dX4_limitFor_7 rfl (q := 1) rfl ?_
  refine j_iconst (pc := 8) X (v := (nI 2)) dX4_limitFor_8 (by decide) ?_
  refine j_idiv (pc := 9) X (v := (nI (r / 2))) dX4_limitFor_9 (nI_ne0 (by omega) (by omega)) (pk_div (by omega) (by omega) (by omega)) ?_
  refine j_isub (pc := 10) X (v := (nI 60 - nI (ld / 20) - nI (r / 2))) dX4_limitFor_10 rfl ?_
  refine j_bipush (pc := 11) X (v := (nI 10)) dX4_limitFor_11 (by decide) ?_
  refine j_mmax (pc := 13) X wm_X4_216 (Nat.le_of_ble_eq_true rfl) (Nat.le_of_ble_eq_true rfl) ⟨Nat.zero_le _, Nat.zero_le _⟩ (v := (nI (limN ld r))) (lim_i hl hr) dX4_limitFor_13 ?_
  exact j_endI (pc := 16) E dX4_limitFor_16 rfl rfl
theorem cd_X1_isToCome : kCardV yX1_isToCome cX1_isToCome 2 (some .boolean) 1 := ⟨⟨wc_X1_isToCome, wi_X1, by decide +kernel, by decide +kernel, rfl⟩, wk_X1_isToCome, ws_X1_isToCome⟩
set_option maxHeartbeats 4000000 in
set_option maxRecDepth 100000 in
theorem c_X1_isToCome (l : Launch) (D : va_G) (tA : Nat → ClassId) (a : Nat → Nat) (s : Sg) (x : Int32) (hn : sN s ≤ 199) : Kx l D tA yX1_isToCome cX1_isToCome 2 (some .boolean) 2 42 [.ref (a 0), .int x] (stW tA a s) (some (.int (bI (toCome s x)))) (stW tA a s) := by
  refine kx_bool rfl (Nat.le_of_ble_eq_true rfl) (fun G X E => ?_)
  show J l D G 0 0 (stW tA a s) [(0, .ref (a 0)), (1, .int x)] 0 []
  refine j_iload_n (pc := 0) X dX1_isToCome_0 rfl (q := 1) rfl ?_
  refine j_aload_n (pc := 1) X dX1_isToCome_1 rfl (q := 0) rfl ?_
  refine j_get (pc := 2) X (C := RX1) (T := TX1) (N := 9) wz_X1 0 rfl rfl 5 (by decide) wf_X1_49 rfl dX1_isToCome_2 ?_
  refine j_icmp_lt (pc := 5) X (tgt := 19) (P := x.toInt < (((sN s) : Nat) : Int)) dX1_isToCome_5 (by decide) (iC_ltn (by omega)) (fun h5 => ?_) (fun h5 => ?_)
  · skip
    refine j_iconst (pc := 19) X (v := (nI 0)) dX1_isToCome_19 (by decide) ?_
    exact j_endI (pc := 20) E dX1_isToCome_20 (bI_f (by simp only [toCome, decide_eq_false_iff_not]; omega)) rfl
  · skip
    refine j_iload_n (pc := 8) X dX1_isToCome_8 rfl (q := 1) rfl ?_
    refine j_callNR (pc := 9) X (st := [])  (c_X4_isHalfDay l D tA x ) cd_X4_isHalfDay X.2.2.2.2.2.1.2.1 [] rfl rfl ⟨Nat.le_of_ble_eq_true rfl, Nat.le_of_ble_eq_true rfl⟩ ⟨Nat.zero_le _, Nat.zero_le _⟩ rfl (Nat.le_of_ble_eq_true rfl) dX1_isToCome_9 ?_
    refine j_if_eq (pc := 12) X (tgt := 19) (P := (inR x 200) = false) dX1_isToCome_12 (by decide) (bI_0 _) (fun h12 => ?_) (fun h12 => ?_)
    · skip
      refine j_iconst (pc := 19) X (v := (nI 0)) dX1_isToCome_19 (by decide) ?_
      exact j_endI (pc := 20) E dX1_isToCome_20 (bI_f (by have a1 := h12; simp only [inR, toCome, decide_eq_false_iff_not] at a1 ⊢; omega)) rfl
    · skip
      refine j_iconst (pc := 15) X (v := (nI 1)) dX1_isToCome_15 (by decide) ?_
      refine j_goto (pc := 16) X (tgt := 20) dX1_isToCome_16 (by decide) ?_
      exact j_endI (pc := 20) E dX1_isToCome_20 (bI_t (by have a1 := t5 h12; simp only [inR, toCome, decide_eq_true_eq] at a1 ⊢; omega)) rfl
theorem cd_X1_windAt : kCardV yX1_windAt cX1_windAt 2 (some .int) 1 := ⟨⟨wc_X1_windAt, wi_X1, by decide +kernel, by decide +kernel, rfl⟩, wk_X1_windAt, ws_X1_windAt⟩
set_option maxHeartbeats 4000000 in
set_option maxRecDepth 100000 in
theorem c_X1_windAt (l : Launch) (D : va_G) (tA : Nat → ClassId) (a : Nat → Nat) (s : Sg) (h : Nat) (hh : h < 200) : Kx l D tA yX1_windAt cX1_windAt 2 (some .int) 0 0 [.ref (a 0), .int (nI h)] (stW tA a s) (some (.int (nI (sW s h)))) (stW tA a s) := by
  refine kx_int rfl (Nat.le_of_ble_eq_true rfl) (fun G X E => ?_)
  show J l D G 0 0 (stW tA a s) [(0, .ref (a 0)), (1, .int (nI h))] 0 []
  refine j_iload_n (pc := 0) X dX1_windAt_0 rfl (q := 1) rfl ?_
  refine j_if_lt_f (pc := 1) X (tgt := 22) dX1_windAt_1 (by decide) (nI_pos (by omega)) ?_
  refine j_iload_n (pc := 4) X dX1_windAt_4 rfl (q := 1) rfl ?_
  refine j_aload_n (pc := 5) X dX1_windAt_5 rfl (q := 0) rfl ?_
  refine j_get (pc := 6) X (C := RX1) (T := TX1) (N := 9) wz_X1 0 rfl rfl 4 (by decide) wf_X1_29 rfl dX1_windAt_6 ?_
  refine j_alen (pc := 9) X 1 0 rfl rfl dX1_windAt_9 ?_
  refine j_icmp_ge_f (pc := 10) X (tgt := 22) dX1_windAt_10 (by decide) (nI_ge hh (by omega)) ?_
  refine j_aload_n (pc := 13) X dX1_windAt_13 rfl (q := 0) rfl ?_
  refine j_get (pc := 14) X (C := RX1) (T := TX1) (N := 9) wz_X1 0 rfl rfl 4 (by decide) wf_X1_29 rfl dX1_windAt_14 ?_
  refine j_iload_n (pc := 17) X dX1_windAt_17 rfl (q := 1) rfl ?_
  refine j_iald (pc := 18) X 1 (i := h) rfl (by omega) (by omega) dX1_windAt_18 ?_
  refine j_goto (pc := 19) X (tgt := 23) dX1_windAt_19 (by decide) ?_
  exact j_endI (pc := 23) E dX1_windAt_23 rfl rfl
theorem cd_X1_tellWind : kCardV yX1_tellWind cX1_tellWind 3 none 2 := ⟨⟨wc_X1_tellWind, wi_X1, by decide +kernel, by decide +kernel, rfl⟩, wk_X1_tellWind, ws_X1_tellWind⟩
set_option maxHeartbeats 4000000 in
set_option maxRecDepth 100000 in
theorem c_X1_tellWind (l : Launch) (D : va_G) (tA : Nat → ClassId) (a : Nat → Nat) (s : Sg) (h v : Nat) (hh : h < 200) : Kx l D tA yX1_tellWind cX1_tellWind 3 none 0 0 [.ref (a 0), .int (nI h), .int (nI v)] (stW tA a s) none (stW tA a (uW s (va_up (sW s) h v))) := by
  refine kx_void rfl (Nat.le_of_ble_eq_true rfl) (fun G X E => ?_)
  show J l D G 0 0 (stW tA a s) [(0, .ref (a 0)), (1, .int (nI h)), (2, .int (nI v))] 0 []
  refine j_iload_n (pc := 0) X dX1_tellWind_0 rfl (q := 1) rfl ?_
  refine j_if_lt_f (pc := 1) X (tgt := 20) dX1_tellWind_1 (by decide) (nI_pos (by omega)) ?_
  refine j_iload_n (pc := 4) X dX1_tellWind_4 rfl (q := 1) rfl ?_
  refine j_aload_n (pc := 5) X dX1_tellWind_5 rfl (q := 0) rfl ?_
  refine j_get (pc := 6) X (C := RX1) (T := TX1) (N := 9) wz_X1 0 rfl rfl 4 (by decide) wf_X1_29 rfl dX1_tellWind_6 ?_
  refine j_alen (pc := 9) X 1 0 rfl rfl dX1_tellWind_9 ?_
  refine j_icmp_ge_f (pc := 10) X (tgt := 20) dX1_tellWind_10 (by decide) (nI_ge hh (by omega)) ?_
  refine j_aload_n (pc := 13) X dX1_tellWind_13 rfl (q := 0) rfl ?_
  refine j_get (pc := 14) X (C := RX1) (T := TX1) (N := 9) wz_X1 0 rfl rfl 4 (by decide) wf_X1_29 rfl dX1_tellWind_14 ?_
  refine j_iload_n (pc := 17) X dX1_tellWind_17 rfl (q := 1) rfl ?_
  refine j_iload_n (pc := 18) X dX1_tellWind_18 rfl (q := 2) rfl ?_
  refine j_iast (pc := 19) X 1 (i := h) (v := v) rfl (by omega) (by omega) (w' := (stW tA a (uW s (va_up (sW s) h v)))) rfl dX1_tellWind_19 ?_
  exact j_endV (pc := 20) E dX1_tellWind_20 rfl
theorem cd_X1_putMachine : kCardV yX1_putMachine cX1_putMachine 4 (some .int) 2 := ⟨⟨wc_X1_putMachine, wi_X1, by decide +kernel, by decide +kernel, rfl⟩, wk_X1_putMachine, ws_X1_putMachine⟩
set_option maxHeartbeats 4000000 in
set_option maxRecDepth 100000 in
theorem c_X1_putMachine (l : Launch) (D : va_G) (tA : Nat → ClassId) (a : Nat → Nat) (s : Sg) (st bl : Nat) (hlt : (sM s).1 < 5) : Kx l D tA yX1_putMachine cX1_putMachine 4 (some .int) 2 46 [.ref (a 0), .int (nI st), .int (nI bl)] (stW tA a s) (some (.int (nI ((sM s).1)))) (stW tA a (pMach s st bl)) := by
  refine kx_int rfl (Nat.le_of_ble_eq_true rfl) (fun G X E => ?_)
  show J l D G 0 0 (stW tA a s) [(0, .ref (a 0)), (1, .int (nI st)), (2, .int (nI bl))] 0 []
  refine j_aload_n (pc := 0) X dX1_putMachine_0 rfl (q := 0) rfl ?_
  refine j_get (pc := 1) X (C := RX1) (T := TX1) (N := 9) wz_X1 0 rfl rfl 0 (by decide) wf_X1_14 rfl dX1_putMachine_1 ?_
  refine j_callV (pc := 4) X (st := []) (w' := (stW tA a (uM s (tAdd 3 (sM s))))) (c_X2_addRow l D tA (a 1) (a 6) 5 3 (sM s)  (by first | assumption | omega | decide) (by first | assumption | omega | decide) (by first | assumption | omega | decide) (by first | assumption | omega | decide) (by first | assumption | omega | decide)) cd_X2_addRow wm_X1_79 2 rfl rfl rfl [2, 3] rfl rfl (tb_fst.trans tb_fst.symm) rfl ⟨Nat.le_of_ble_eq_true rfl, Nat.le_of_ble_eq_true rfl⟩ ⟨Nat.zero_le _, Nat.zero_le _⟩ rfl (Nat.le_of_ble_eq_true rfl) dX1_putMachine_4 ?_
  refine j_istore_n (pc := 7) X (lv' := [(3, .int (nI ((sM s).1))), (0, .ref (a 0)), (1, .int (nI st)), (2, .int (nI bl))]) dX1_putMachine_7 rfl (by decide) rfl ?_
  refine j_aload_n (pc := 8) X dX1_putMachine_8 rfl (q := 1) rfl ?_
  refine j_get (pc := 9) X (C := RX1) (T := TX1) (N := 9) wz_X1 0 rfl rfl 0 (by decide) wf_X1_14 rfl dX1_putMachine_9 ?_
  refine j_iload_n (pc := 12) X dX1_putMachine_12 rfl (q := 0) rfl ?_
  refine j_iconst (pc := 13) X (v := (nI 0)) dX1_putMachine_13 (by decide) ?_
  refine j_iload_n (pc := 14) X dX1_putMachine_14 rfl (q := 2) rfl ?_
  refine j_callV (pc := 15) X (st := []) (w' := (stW tA a (uM s (tSet 3 (tAdd 3 (sM s)) ((sM s).1) 0 st)))) (c_X2_set l D tA (a 1) (a 6) 5 3 (tAdd 3 (sM s)) ((sM s).1) 0 st (by decide) (by decide) (show (sM s).1 + 1 ≤ 5 by omega) (show (sM s).1 < (sM s).1 + 1 by omega) (by decide) (by decide)) cd_X2_set wm_X1_82 2 rfl rfl rfl [2, 3] rfl rfl (tb_fst.trans tb_fst.symm) rfl ⟨Nat.le_of_ble_eq_true rfl, Nat.le_of_ble_eq_true rfl⟩ ⟨Nat.zero_le _, Nat.zero_le _⟩ rfl (Nat.le_of_ble_eq_true rfl) dX1_putMachine_15 ?_
  refine j_aload_n (pc := 18) X dX1_putMachine_18 rfl (q := 1) rfl ?_
  refine j_get (pc := 19) X (C := RX1) (T := TX1) (N := 9) wz_X1 0 rfl rfl 0 (by decide) wf_X1_14 rfl dX1_putMachine_19 ?_
  refine j_iload_n (pc := 22) X dX1_putMachine_22 rfl (q := 0) rfl ?_
  refine j_iconst (pc := 23) X (v := (nI 1)) dX1_putMachine_23 (by decide) ?_
  refine j_iload_n (pc := 24) X dX1_putMachine_24 rfl (q := 3) rfl ?_
  refine j_callV (pc := 25) X (st := []) (w' := (stW tA a (uM s (tSet 3 (tSet 3 (tAdd 3 (sM s)) ((sM s).1) 0 st) ((sM s).1) 1 bl)))) (c_X2_set l D tA (a 1) (a 6) 5 3 (tSet 3 (tAdd 3 (sM s)) ((sM s).1) 0 st) ((sM s).1) 1 bl (by decide) (by decide) (show (sM s).1 + 1 ≤ 5 by omega) (show (sM s).1 < (sM s).1 + 1 by omega) (by decide) (by decide)) cd_X2_set wm_X1_82 2 rfl rfl rfl [2, 3] rfl rfl (tb_fst.trans tb_fst.symm) rfl ⟨Nat.le_of_ble_eq_true rfl, Nat.le_of_ble_eq_true rfl⟩ ⟨Nat.zero_le _, Nat.zero_le _⟩ rfl (Nat.le_of_ble_eq_true rfl) dX1_putMachine_25 ?_
  refine j_aload_n (pc := 28) X dX1_putMachine_28 rfl (q := 1) rfl ?_
  refine j_get (pc := 29) X (C := RX1) (T := TX1) (N := 9) wz_X1 0 rfl rfl 0 (by decide) wf_X1_14 rfl dX1_putMachine_29 ?_
  refine j_iload_n (pc := 32) X dX1_putMachine_32 rfl (q := 0) rfl ?_
  refine j_iconst (pc := 33) X (v := (nI 2)) dX1_putMachine_33 (by decide) ?_
  refine j_bipush (pc := 34) X (v := (nI NN)) dX1_putMachine_34 (by decide +kernel) ?_
  refine j_callV (pc := 36) X (st := []) (w' := (stW tA a (uM s (tSet 3 (tSet 3 (tSet 3 (tAdd 3 (sM s)) ((sM s).1) 0 st) ((sM s).1) 1 bl) ((sM s).1) 2 NN)))) (c_X2_set l D tA (a 1) (a 6) 5 3 (tSet 3 (tSet 3 (tAdd 3 (sM s)) ((sM s).1) 0 st) ((sM s).1) 1 bl) ((sM s).1) 2 NN (by decide) (by decide) (show (sM s).1 + 1 ≤ 5 by omega) (show (sM s).1 < (sM s).1 + 1 by omega) (by decide) (by decide)) cd_X2_set wm_X1_82 2 rfl rfl rfl [2, 3] rfl rfl (tb_fst.trans tb_fst.symm) rfl ⟨Nat.le_of_ble_eq_true rfl, Nat.le_of_ble_eq_true rfl⟩ ⟨Nat.zero_le _, Nat.zero_le _⟩ rfl (Nat.le_of_ble_eq_true rfl) dX1_putMachine_36 ?_
  refine j_iload_n (pc := 39) X dX1_putMachine_39 rfl (q := 0) rfl ?_
  exact j_endI (pc := 40) E dX1_putMachine_40 rfl rfl
theorem cd_X1_putBooking : kCardV yX1_putBooking cX1_putBooking 5 (some .int) 3 := ⟨⟨wc_X1_putBooking, wi_X1, by decide +kernel, by decide +kernel, rfl⟩, wk_X1_putBooking, ws_X1_putBooking⟩
set_option maxHeartbeats 4000000 in
set_option maxRecDepth 100000 in
theorem c_X1_putBooking (l : Launch) (D : va_G) (tA : Nat → ClassId) (a : Nat → Nat) (s : Sg) (p ld r : Nat) (hlt : (sB s).1 < 30) : Kx l D tA yX1_putBooking cX1_putBooking 5 (some .int) 2 46 [.ref (a 0), .int (nI p), .int (nI ld), .int (nI r)] (stW tA a s) (some (.int (nI ((sB s).1)))) (stW tA a (pBook s p ld r)) := by
  refine kx_int rfl (Nat.le_of_ble_eq_true rfl) (fun G X E => ?_)
  show J l D G 0 0 (stW tA a s) [(0, .ref (a 0)), (1, .int (nI p)), (2, .int (nI ld)), (3, .int (nI r))] 0 []
  refine j_aload_n (pc := 0) X dX1_putBooking_0 rfl (q := 0) rfl ?_
  refine j_get (pc := 1) X (C := RX1) (T := TX1) (N := 9) wz_X1 0 rfl rfl 2 (by decide) wf_X1_23 rfl dX1_putBooking_1 ?_
  refine j_callV (pc := 4) X (st := []) (w' := (stW tA a (uB s (tAdd 8 (sB s))))) (c_X2_addRow l D tA (a 3) (a 8) 30 8 (sB s)  (by first | assumption | omega | decide) (by first | assumption | omega | decide) (by first | assumption | omega | decide) (by first | assumption | omega | decide) (by first | assumption | omega | decide)) cd_X2_addRow wm_X1_79 6 rfl rfl rfl [6, 7] rfl rfl (tb_fst.trans tb_fst.symm) rfl ⟨Nat.le_of_ble_eq_true rfl, Nat.le_of_ble_eq_true rfl⟩ ⟨Nat.zero_le _, Nat.zero_le _⟩ rfl (Nat.le_of_ble_eq_true rfl) dX1_putBooking_4 ?_
  refine j_istore (pc := 7) X (lv' := [(4, .int (nI ((sB s).1))), (0, .ref (a 0)), (1, .int (nI p)), (2, .int (nI ld)), (3, .int (nI r))]) dX1_putBooking_7 (by decide) rfl ?_
  refine j_aload_n (pc := 9) X dX1_putBooking_9 rfl (q := 1) rfl ?_
  refine j_get (pc := 10) X (C := RX1) (T := TX1) (N := 9) wz_X1 0 rfl rfl 2 (by decide) wf_X1_23 rfl dX1_putBooking_10 ?_
  refine j_iload (pc := 13) X dX1_putBooking_13 (q := 0) rfl ?_
  refine j_iconst (pc := 15) X (v := (nI 0)) dX1_putBooking_15 (by decide) ?_
  refine j_iload_n (pc := 16) X dX1_putBooking_16 rfl (q := 2) rfl ?_
  refine j_callV (pc := 17) X (st := []) (w' := (stW tA a (uB s (tSet 8 (tAdd 8 (sB s)) ((sB s).1) 0 p)))) (c_X2_set l D tA (a 3) (a 8) 30 8 (tAdd 8 (sB s)) ((sB s).1) 0 p (by decide) (by decide) (show (sB s).1 + 1 ≤ 30 by omega) (show (sB s).1 < (sB s).1 + 1 by omega) (by decide) (by decide)) cd_X2_set wm_X1_82 6 rfl rfl rfl [6, 7] rfl rfl (tb_fst.trans tb_fst.symm) rfl ⟨Nat.le_of_ble_eq_true rfl, Nat.le_of_ble_eq_true rfl⟩ ⟨Nat.zero_le _, Nat.zero_le _⟩ rfl (Nat.le_of_ble_eq_true rfl) dX1_putBooking_17 ?_
  refine j_aload_n (pc := 20) X dX1_putBooking_20 rfl (q := 1) rfl ?_
  refine j_get (pc := 21) X (C := RX1) (T := TX1) (N := 9) wz_X1 0 rfl rfl 2 (by decide) wf_X1_23 rfl dX1_putBooking_21 ?_
  refine j_iload (pc := 24) X dX1_putBooking_24 (q := 0) rfl ?_
  refine j_iconst (pc := 26) X (v := (nI 3)) dX1_putBooking_26 (by decide) ?_
  refine j_iload_n (pc := 27) X dX1_putBooking_27 rfl (q := 3) rfl ?_
  refine j_callV (pc := 28) X (st := []) (w' := (stW tA a (uB s (tSet 8 (tSet 8 (tAdd 8 (sB s)) ((sB s).1) 0 p) ((sB s).1) 3 ld)))) (c_X2_set l D tA (a 3) (a 8) 30 8 (tSet 8 (tAdd 8 (sB s)) ((sB s).1) 0 p) ((sB s).1) 3 ld (by decide) (by decide) (show (sB s).1 + 1 ≤ 30 by omega) (show (sB s).1 < (sB s).1 + 1 by omega) (by decide) (by decide)) cd_X2_set wm_X1_82 6 rfl rfl rfl [6, 7] rfl rfl (tb_fst.trans tb_fst.symm) rfl ⟨Nat.le_of_ble_eq_true rfl, Nat.le_of_ble_eq_true rfl⟩ ⟨Nat.zero_le _, Nat.zero_le _⟩ rfl (Nat.le_of_ble_eq_true rfl) dX1_putBooking_28 ?_
  refine j_aload_n (pc := 31) X dX1_putBooking_31 rfl (q := 1) rfl ?_
  refine j_get (pc := 32) X (C := RX1) (T := TX1) (N := 9) wz_X1 0 rfl rfl 2 (by decide) wf_X1_23 rfl dX1_putBooking_32 ?_
  refine j_iload (pc := 35) X dX1_putBooking_35 (q := 0) rfl ?_
  refine j_iconst (pc := 37) X (v := (nI 4)) dX1_putBooking_37 (by decide) ?_
  refine j_iload_n (pc := 38) X dX1_putBooking_38 rfl (q := 4) rfl ?_
  refine j_callV (pc := 39) X (st := []) (w' := (stW tA a (uB s (tSet 8 (tSet 8 (tSet 8 (tAdd 8 (sB s)) ((sB s).1) 0 p) ((sB s).1) 3 ld) ((sB s).1) 4 r)))) (c_X2_set l D tA (a 3) (a 8) 30 8 (tSet 8 (tSet 8 (tAdd 8 (sB s)) ((sB s).1) 0 p) ((sB s).1) 3 ld) ((sB s).1) 4 r (by decide) (by decide) (show (sB s).1 + 1 ≤ 30 by omega) (show (sB s).1 < (sB s).1 + 1 by omega) (by decide) (by decide)) cd_X2_set wm_X1_82 6 rfl rfl rfl [6, 7] rfl rfl (tb_fst.trans tb_fst.symm) rfl ⟨Nat.le_of_ble_eq_true rfl, Nat.le_of_ble_eq_true rfl⟩ ⟨Nat.zero_le _, Nat.zero_le _⟩ rfl (Nat.le_of_ble_eq_true rfl) dX1_putBooking_39 ?_
  refine j_aload_n (pc := 42) X dX1_putBooking_42 rfl (q := 1) rfl ?_
  refine j_get (pc := 43) X (C := RX1) (T := TX1) (N := 9) wz_X1 0 rfl rfl 2 (by decide) wf_X1_23 rfl dX1_putBooking_43 ?_
  refine j_iload (pc := 46) X dX1_putBooking_46 (q := 0) rfl ?_
  refine j_iconst (pc := 48) X (v := (nI 5)) dX1_putBooking_48 (by decide) ?_
  refine j_iconst (pc := 49) X (v := (nI 0)) dX1_putBooking_49 (by decide) ?_
  refine j_callV (pc := 50) X (st := []) (w' := (stW tA a (uB s (tSet 8 (tSet 8 (tSet 8 (tSet 8 (tAdd 8 (sB s)) ((sB s).1) 0 p) ((sB s).1) 3 ld) ((sB s).1) 4 r) ((sB s).1) 5 0)))) (c_X2_set l D tA (a 3) (a 8) 30 8 (tSet 8 (tSet 8 (tSet 8 (tAdd 8 (sB s)) ((sB s).1) 0 p) ((sB s).1) 3 ld) ((sB s).1) 4 r) ((sB s).1) 5 0 (by decide) (by decide) (show (sB s).1 + 1 ≤ 30 by omega) (show (sB s).1 < (sB s).1 + 1 by omega) (by decide) (by decide)) cd_X2_set wm_X1_82 6 rfl rfl rfl [6, 7] rfl rfl (tb_fst.trans tb_fst.symm) rfl ⟨Nat.le_of_ble_eq_true rfl, Nat.le_of_ble_eq_true rfl⟩ ⟨Nat.zero_le _, Nat.zero_le _⟩ rfl (Nat.le_of_ble_eq_true rfl) dX1_putBooking_50 ?_
  refine j_iload (pc := 53) X dX1_putBooking_53 (q := 0) rfl ?_
  exact j_endI (pc := 55) E dX1_putBooking_55 rfl rfl
theorem cd_X1_putMove : kCardV yX1_putMove cX1_putMove 7 (some .int) 5 := ⟨⟨wc_X1_putMove, wi_X1, by decide +kernel, by decide +kernel, rfl⟩, wk_X1_putMove, ws_X1_putMove⟩
set_option maxHeartbeats 4000000 in
set_option maxRecDepth 100000 in
theorem c_X1_putMove (l : Launch) (D : va_G) (tA : Nat → ClassId) (a : Nat → Nat) (s : Sg) (p fr to mu h : Nat) (hlt : (sV s).1 < 10) : Kx l D tA yX1_putMove cX1_putMove 7 (some .int) 2 46 [.ref (a 0), .int (nI p), .int (nI fr), .int (nI to), .int (nI mu), .int (nI h)] (stW tA a s) (some (.int (nI ((sV s).1)))) (stW tA a (pMove s p fr to mu h)) := by
  refine kx_int rfl (Nat.le_of_ble_eq_true rfl) (fun G X E => ?_)
  show J l D G 0 0 (stW tA a s) [(0, .ref (a 0)), (1, .int (nI p)), (2, .int (nI fr)), (3, .int (nI to)), (4, .int (nI mu)), (5, .int (nI h))] 0 []
  refine j_aload_n (pc := 0) X dX1_putMove_0 rfl (q := 0) rfl ?_
  refine j_get (pc := 1) X (C := RX1) (T := TX1) (N := 9) wz_X1 0 rfl rfl 3 (by decide) wf_X1_26 rfl dX1_putMove_1 ?_
  refine j_callV (pc := 4) X (st := []) (w' := (stW tA a (uV s (tAdd 5 (sV s))))) (c_X2_addRow l D tA (a 4) (a 9) 10 5 (sV s)  (by first | assumption | omega | decide) (by first | assumption | omega | decide) (by first | assumption | omega | decide) (by first | assumption | omega | decide) (by first | assumption | omega | decide)) cd_X2_addRow wm_X1_79 8 rfl rfl rfl [8, 9] rfl rfl (tb_fst.trans tb_fst.symm) rfl ⟨Nat.le_of_ble_eq_true rfl, Nat.le_of_ble_eq_true rfl⟩ ⟨Nat.zero_le _, Nat.zero_le _⟩ rfl (Nat.le_of_ble_eq_true rfl) dX1_putMove_4 ?_
  refine j_istore (pc := 7) X (lv' := [(6, .int (nI ((sV s).1))), (0, .ref (a 0)), (1, .int (nI p)), (2, .int (nI fr)), (3, .int (nI to)), (4, .int (nI mu)), (5, .int (nI h))]) dX1_putMove_7 (by decide) rfl ?_
  refine j_aload_n (pc := 9) X dX1_putMove_9 rfl (q := 1) rfl ?_
  refine j_get (pc := 10) X (C := RX1) (T := TX1) (N := 9) wz_X1 0 rfl rfl 3 (by decide) wf_X1_26 rfl dX1_putMove_10 ?_
  refine j_iload (pc := 13) X dX1_putMove_13 (q := 0) rfl ?_
  refine j_iconst (pc := 15) X (v := (nI 0)) dX1_putMove_15 (by decide) ?_
  refine j_iload_n (pc := 16) X dX1_putMove_16 rfl (q := 2) rfl ?_
  refine j_callV (pc := 17) X (st := []) (w' := (stW tA a (uV s (tSet 5 (tAdd 5 (sV s)) ((sV s).1) 0 p)))) (c_X2_set l D tA (a 4) (a 9) 10 5 (tAdd 5 (sV s)) ((sV s).1) 0 p (by decide) (by decide) (show (sV s).1 + 1 ≤ 10 by omega) (show (sV s).1 < (sV s).1 + 1 by omega) (by decide) (by decide)) cd_X2_set wm_X1_82 8 rfl rfl rfl [8, 9] rfl rfl (tb_fst.trans tb_fst.symm) rfl ⟨Nat.le_of_ble_eq_true rfl, Nat.le_of_ble_eq_true rfl⟩ ⟨Nat.zero_le _, Nat.zero_le _⟩ rfl (Nat.le_of_ble_eq_true rfl) dX1_putMove_17 ?_
  refine j_aload_n (pc := 20) X dX1_putMove_20 rfl (q := 1) rfl ?_
  refine j_get (pc := 21) X (C := RX1) (T := TX1) (N := 9) wz_X1 0 rfl rfl 3 (by decide) wf_X1_26 rfl dX1_putMove_21 ?_
  refine j_iload (pc := 24) X dX1_putMove_24 (q := 0) rfl ?_
  refine j_iconst (pc := 26) X (v := (nI 1)) dX1_putMove_26 (by decide) ?_
  refine j_iload_n (pc := 27) X dX1_putMove_27 rfl (q := 3) rfl ?_
  refine j_callV (pc := 28) X (st := []) (w' := (stW tA a (uV s (tSet 5 (tSet 5 (tAdd 5 (sV s)) ((sV s).1) 0 p) ((sV s).1) 1 fr)))) (c_X2_set l D tA (a 4) (a 9) 10 5 (tSet 5 (tAdd 5 (sV s)) ((sV s).1) 0 p) ((sV s).1) 1 fr (by decide) (by decide) (show (sV s).1 + 1 ≤ 10 by omega) (show (sV s).1 < (sV s).1 + 1 by omega) (by decide) (by decide)) cd_X2_set wm_X1_82 8 rfl rfl rfl [8, 9] rfl rfl (tb_fst.trans tb_fst.symm) rfl ⟨Nat.le_of_ble_eq_true rfl, Nat.le_of_ble_eq_true rfl⟩ ⟨Nat.zero_le _, Nat.zero_le _⟩ rfl (Nat.le_of_ble_eq_true rfl) dX1_putMove_28 ?_
  refine j_aload_n (pc := 31) X dX1_putMove_31 rfl (q := 1) rfl ?_
  refine j_get (pc := 32) X (C := RX1) (T := TX1) (N := 9) wz_X1 0 rfl rfl 3 (by decide) wf_X1_26 rfl dX1_putMove_32 ?_
  refine j_iload (pc := 35) X dX1_putMove_35 (q := 0) rfl ?_
  refine j_iconst (pc := 37) X (v := (nI 2)) dX1_putMove_37 (by decide) ?_
  refine j_iload_n (pc := 38) X dX1_putMove_38 rfl (q := 4) rfl ?_
  refine j_callV (pc := 39) X (st := []) (w' := (stW tA a (uV s (tSet 5 (tSet 5 (tSet 5 (tAdd 5 (sV s)) ((sV s).1) 0 p) ((sV s).1) 1 fr) ((sV s).1) 2 to)))) (c_X2_set l D tA (a 4) (a 9) 10 5 (tSet 5 (tSet 5 (tAdd 5 (sV s)) ((sV s).1) 0 p) ((sV s).1) 1 fr) ((sV s).1) 2 to (by decide) (by decide) (show (sV s).1 + 1 ≤ 10 by omega) (show (sV s).1 < (sV s).1 + 1 by omega) (by decide) (by decide)) cd_X2_set wm_X1_82 8 rfl rfl rfl [8, 9] rfl rfl (tb_fst.trans tb_fst.symm) rfl ⟨Nat.le_of_ble_eq_true rfl, Nat.le_of_ble_eq_true rfl⟩ ⟨Nat.zero_le _, Nat.zero_le _⟩ rfl (Nat.le_of_ble_eq_true rfl) dX1_putMove_39 ?_
  refine j_aload_n (pc := 42) X dX1_putMove_42 rfl (q := 1) rfl ?_
  refine j_get (pc := 43) X (C := RX1) (T := TX1) (N := 9) wz_X1 0 rfl rfl 3 (by decide) wf_X1_26 rfl dX1_putMove_43 ?_
  refine j_iload (pc := 46) X dX1_putMove_46 (q := 0) rfl ?_
  refine j_iconst (pc := 48) X (v := (nI 3)) dX1_putMove_48 (by decide) ?_
  refine j_iload (pc := 49) X dX1_putMove_49 (q := 5) rfl ?_
  refine j_callV (pc := 51) X (st := []) (w' := (stW tA a (uV s (tSet 5 (tSet 5 (tSet 5 (tSet 5 (tAdd 5 (sV s)) ((sV s).1) 0 p) ((sV s).1) 1 fr) ((sV s).1) 2 to) ((sV s).1) 3 mu)))) (c_X2_set l D tA (a 4) (a 9) 10 5 (tSet 5 (tSet 5 (tSet 5 (tAdd 5 (sV s)) ((sV s).1) 0 p) ((sV s).1) 1 fr) ((sV s).1) 2 to) ((sV s).1) 3 mu (by decide) (by decide) (show (sV s).1 + 1 ≤ 10 by omega) (show (sV s).1 < (sV s).1 + 1 by omega) (by decide) (by decide)) cd_X2_set wm_X1_82 8 rfl rfl rfl [8, 9] rfl rfl (tb_fst.trans tb_fst.symm) rfl ⟨Nat.le_of_ble_eq_true rfl, Nat.le_of_ble_eq_true rfl⟩ ⟨Nat.zero_le _, Nat.zero_le _⟩ rfl (Nat.le_of_ble_eq_true rfl) dX1_putMove_51 ?_
  refine j_aload_n (pc := 54) X dX1_putMove_54 rfl (q := 1) rfl ?_
  refine j_get (pc := 55) X (C := RX1) (T := TX1) (N := 9) wz_X1 0 rfl rfl 3 (by decide) wf_X1_26 rfl dX1_putMove_55 ?_
  refine j_iload (pc := 58) X dX1_putMove_58 (q := 0) rfl ?_
  refine j_iconst (pc := 60) X (v := (nI 4)) dX1_putMove_60 (by decide) ?_
  refine j_iload (pc := 61) X dX1_putMove_61 (q := 6) rfl ?_
  refine j_callV (pc := 63) X (st := []) (w' := (stW tA a (uV s (tSet 5 (tSet 5 (tSet 5 (tSet 5 (tSet 5 (tAdd 5 (sV s)) ((sV s).1) 0 p) ((sV s).1) 1 fr) ((sV s).1) 2 to) ((sV s).1) 3 mu) ((sV s).1) 4 h)))) (c_X2_set l D tA (a 4) (a 9) 10 5 (tSet 5 (tSet 5 (tSet 5 (tSet 5 (tAdd 5 (sV s)) ((sV s).1) 0 p) ((sV s).1) 1 fr) ((sV s).1) 2 to) ((sV s).1) 3 mu) ((sV s).1) 4 h (by decide) (by decide) (show (sV s).1 + 1 ≤ 10 by omega) (show (sV s).1 < (sV s).1 + 1 by omega) (by decide) (by decide)) cd_X2_set wm_X1_82 8 rfl rfl rfl [8, 9] rfl rfl (tb_fst.trans tb_fst.symm) rfl ⟨Nat.le_of_ble_eq_true rfl, Nat.le_of_ble_eq_true rfl⟩ ⟨Nat.zero_le _, Nat.zero_le _⟩ rfl (Nat.le_of_ble_eq_true rfl) dX1_putMove_63 ?_
  refine j_iload (pc := 66) X dX1_putMove_66 (q := 0) rfl ?_
  exact j_endI (pc := 68) E dX1_putMove_68 rfl rfl
theorem cd_X1_borneBy : kCardV yX1_borneBy cX1_borneBy 6 (some .int) 2 := ⟨⟨wc_X1_borneBy, wi_X1, by decide +kernel, by decide +kernel, rfl⟩, wk_X1_borneBy, ws_X1_borneBy⟩
set_option maxHeartbeats 4000000 in
set_option maxRecDepth 100000 in
theorem c_X1_borneBy (l : Launch) (D : va_G) (tA : Nat → ClassId) (a : Nat → Nat) (s : Sg) (m r : Nat) (hw : Wf s) (hm : m < (sM s).1) (hr : r ≤ 60) : Kx l D tA yX1_borneBy cX1_borneBy 6 (some .int) 1 23 [.ref (a 0), .int (nI m), .int (nI r)] (stW tA a s) (some (.int (nI (brn (sM s) m r)))) (stW tA a s) := by
  refine kx_int rfl (Nat.le_of_ble_eq_true rfl) (fun G X E => ?_)
  show J l D G 0 0 (stW tA a s) [(0, .ref (a 0)), (1, .int (nI m)), (2, .int (nI r))] 0 []
  have hn := hw.n
  have hm0 := hw.m hm
  refine j_aload_n (pc := 0) X dX1_borneBy_0 rfl (q := 0) rfl ?_
  refine j_get (pc := 1) X (C := RX1) (T := TX1) (N := 9) wz_X1 0 rfl rfl 0 (by decide) wf_X1_14 rfl dX1_borneBy_1 ?_
  refine j_iload_n (pc := 4) X dX1_borneBy_4 rfl (q := 1) rfl ?_
  refine j_iconst (pc := 5) X (v := (nI 0)) dX1_borneBy_5 (by decide) ?_
  refine j_callVR (pc := 6) X (st := [])  (c_X2_get l D tA (a 1) (a 6) 5 3 (sM s) m 0 (by first | assumption | omega | decide) (by first | assumption | omega | decide) (by first | assumption | omega | decide) (by first | assumption | omega | decide) (by first | assumption | omega | decide) (by first | assumption | omega | decide)) cd_X2_get wm_X1_70 2 rfl rfl rfl [2, 3] rfl rfl ⟨Nat.le_of_ble_eq_true rfl, Nat.le_of_ble_eq_true rfl⟩ ⟨Nat.zero_le _, Nat.zero_le _⟩ rfl (Nat.le_of_ble_eq_true rfl) dX1_borneBy_6 ?_
  refine j_istore_n (pc := 9) X (lv' := [(3, .int (nI (tGet 3 (sM s) m 0))), (0, .ref (a 0)), (1, .int (nI m)), (2, .int (nI r))]) dX1_borneBy_9 rfl (by decide) rfl ?_
  refine j_aload_n (pc := 10) X dX1_borneBy_10 rfl (q := 1) rfl ?_
  refine j_get (pc := 11) X (C := RX1) (T := TX1) (N := 9) wz_X1 0 rfl rfl 0 (by decide) wf_X1_14 rfl dX1_borneBy_11 ?_
  refine j_iload_n (pc := 14) X dX1_borneBy_14 rfl (q := 2) rfl ?_
  refine j_iconst (pc := 15) X (v := (nI 1)) dX1_borneBy_15 (by decide) ?_
  refine j_callVR (pc := 16) X (st := [])  (c_X2_get l D tA (a 1) (a 6) 5 3 (sM s) m 1 (by first | assumption | omega | decide) (by first | assumption | omega | decide) (by first | assumption | omega | decide) (by first | assumption | omega | decide) (by first | assumption | omega | decide) (by first | assumption | omega | decide)) cd_X2_get wm_X1_70 2 rfl rfl rfl [2, 3] rfl rfl ⟨Nat.le_of_ble_eq_true rfl, Nat.le_of_ble_eq_true rfl⟩ ⟨Nat.zero_le _, Nat.zero_le _⟩ rfl (Nat.le_of_ble_eq_true rfl) dX1_borneBy_16 ?_
  refine j_istore (pc := 19) X (lv' := [(4, .int (nI (tGet 3 (sM s) m 1))), (3, .int (nI (tGet 3 (sM s) m 0))), (0, .ref (a 0)), (1, .int (nI m)), (2, .int (nI r))]) dX1_borneBy_19 (by decide) rfl ?_
  refine j_iload_n (pc := 21) X dX1_borneBy_21 rfl (q := 1) rfl ?_
  refine j_bipush (pc := 22) X (v := (nI 100)) dX1_borneBy_22 (by decide) ?_
  refine j_imul (pc := 24) X (v := (nI ((tGet 3 (sM s) m 0) * 100))) dX1_borneBy_24 (pk_mul _ _) ?_
  refine j_iload (pc := 25) X dX1_borneBy_25 (q := 0) rfl ?_
  refine j_sipush (pc := 27) X (v := (nI 150)) dX1_borneBy_27 (by decide) ?_
  refine j_imul (pc := 30) X (v := (nI ((tGet 3 (sM s) m 1) * 150))) dX1_borneBy_30 (pk_mul _ _) ?_
  refine j_iadd (pc := 31) X (v := (nI (((tGet 3 (sM s) m 0) * 100) + ((tGet 3 (sM s) m 1) * 150)))) dX1_borneBy_31 (nI_add _ _) ?_
  refine j_iload_n (pc := 32) X dX1_borneBy_32 rfl (q := 4) rfl ?_
  refine j_iconst (pc := 33) X (v := (nI 2)) dX1_borneBy_33 (by decide) ?_
  refine j_mmax (pc := 34) X wm_X1_86 (Nat.le_of_ble_eq_true rfl) (Nat.le_of_ble_eq_true rfl) ⟨Nat.zero_le _, Nat.zero_le _⟩ (v := (nI (max r 2))) (nI_max (by omega) (by omega)) dX1_borneBy_34 ?_
  refine j_idiv (pc := 37) X (v := (nI ((((tGet 3 (sM s) m 0) * 100) + ((tGet 3 (sM s) m 1) * 150)) / (max r 2)))) dX1_borneBy_37 (nI_ne0 (by omega) (by omega)) (pk_div (by omega) (by omega) (by omega)) ?_
  refine j_istore (pc := 38) X (lv' := [(5, .int (nI ((((tGet 3 (sM s) m 0) * 100) + ((tGet 3 (sM s) m 1) * 150)) / (max r 2)))), (4, .int (nI (tGet 3 (sM s) m 1))), (3, .int (nI (tGet 3 (sM s) m 0))), (0, .ref (a 0)), (1, .int (nI m)), (2, .int (nI r))]) dX1_borneBy_38 (by decide) rfl ?_
  refine j_iload (pc := 40) X dX1_borneBy_40 (q := 0) rfl ?_
  refine j_iload_n (pc := 42) X dX1_borneBy_42 rfl (q := 2) rfl ?_
  refine j_bipush (pc := 43) X (v := (nI 10)) dX1_borneBy_43 (by decide) ?_
  refine j_imul (pc := 45) X (v := (nI ((tGet 3 (sM s) m 0) * 10))) dX1_borneBy_45 (pk_mul _ _) ?_
  refine j_mmin (pc := 46) X wm_X1_37 (Nat.le_of_ble_eq_true rfl) (Nat.le_of_ble_eq_true rfl) ⟨Nat.zero_le _, Nat.zero_le _⟩ (v := (nI (min ((((tGet 3 (sM s) m 0) * 100) + ((tGet 3 (sM s) m 1) * 150)) / (max r 2)) ((tGet 3 (sM s) m 0) * 10)))) (nI_min (Nat.lt_of_le_of_lt (Nat.div_le_self _ _) (by omega)) (by omega)) dX1_borneBy_46 ?_
  exact j_endI (pc := 49) E dX1_borneBy_49 rfl rfl
theorem cd_X1_bookingFor : kCardV yX1_bookingFor cX1_bookingFor 4 (some .int) 2 := ⟨⟨wc_X1_bookingFor, wi_X1, by decide +kernel, by decide +kernel, rfl⟩, wk_X1_bookingFor, ws_X1_bookingFor⟩
set_option maxHeartbeats 4000000 in
set_option maxRecDepth 100000 in
theorem c_X1_bookingFor (l : Launch) (D : va_G) (tA : Nat → ClassId) (a : Nat → Nat) (s : Sg) (m h : Nat) (hw : Wf s) (hm : m < 2 ^ 31) (hh : h < 2 ^ 31) : Kx l D tA yX1_bookingFor cX1_bookingFor 4 (some .int) 1 23 [.ref (a 0), .int (nI m), .int (nI h)] (stW tA a s) (some (.int (rO (bkF (sB s) m h)))) (stW tA a s) := by
  refine kx_int rfl (Nat.le_of_ble_eq_true rfl) (fun G X E => ?_)
  show J l D G 0 0 (stW tA a s) [(0, .ref (a 0)), (1, .int (nI m)), (2, .int (nI h))] 0 []
  have hn := hw.n
  refine j_iconst (pc := 0) X (v := (nI 0)) dX1_bookingFor_0 (by decide) ?_
  refine j_istore_n (pc := 1) X (lv' := [(3, .int (nI 0)), (0, .ref (a 0)), (1, .int (nI m)), (2, .int (nI h))]) dX1_bookingFor_1 rfl (by decide) rfl ?_
  have L_2 : ∀ (fu : Nat) (i : Nat), i ≤ (sB s).1 → fndN (fun b => decide (tGet 8 (sB s) b 5 = 0 ∧ tGet 8 (sB s) b 1 = m ∧ tGet 8 (sB s) b 2 = h)) i = none → (sB s).1 - i < fu → J l D G 0 0 (stW tA a s) [(0, .ref (a 0)), (1, .int (nI m)), (2, .int (nI h)), (3, .int (nI i))] 2 [] := by
    intro fu
    induction fu with
    | zero => intro i hi hk hfu; exact absurd hfu (Nat.not_lt_zero _)
    | succ fu ih_2 =>
      intro i hi hk hfu
      refine j_iload_n (pc := 2) X dX1_bookingFor_2 rfl (q := 3) rfl ?_
      refine j_aload_n (pc := 3) X dX1_bookingFor_3 rfl (q := 0) rfl ?_
      refine j_get (pc := 4) X (C := RX1) (T := TX1) (N := 9) wz_X1 0 rfl rfl 2 (by decide) wf_X1_23 rfl dX1_bookingFor_4 ?_
      refine j_callVR (pc := 7) X (st := [.int (nI i)])  (c_X2_size l D tA (a 3) (a 8) 30 8 (sB s)  ) cd_X2_size wm_X1_66 6 rfl rfl rfl [6, 7] rfl rfl ⟨Nat.le_of_ble_eq_true rfl, Nat.le_of_ble_eq_true rfl⟩ ⟨Nat.zero_le _, Nat.zero_le _⟩ rfl (Nat.le_of_ble_eq_true rfl) dX1_bookingFor_7 ?_
      refine j_icmp_ge (pc := 10) X (tgt := 59) (P := ((sB s).1) ≤ i) dX1_bookingFor_10 (by decide) (nI_leI (by omega) (by omega)) (fun h10 => ?_) (fun h10 => ?_)
      · skip
        refine j_bipush (pc := 59) X (v := (-5)) dX1_bookingFor_59 (by decide) ?_
        exact j_endI (pc := 61) E dX1_bookingFor_61 (by rw [bkF, ← show i = (sB s).1 by omega, hk]; rfl) rfl
      · skip
        refine j_aload_n (pc := 13) X dX1_bookingFor_13 rfl (q := 0) rfl ?_
        refine j_get (pc := 14) X (C := RX1) (T := TX1) (N := 9) wz_X1 0 rfl rfl 2 (by decide) wf_X1_23 rfl dX1_bookingFor_14 ?_
        refine j_iload_n (pc := 17) X dX1_bookingFor_17 rfl (q := 3) rfl ?_
        refine j_iconst (pc := 18) X (v := (nI 5)) dX1_bookingFor_18 (by decide) ?_
        have hb := hw.b (show i < (sB s).1 by omega)
        refine j_callVR (pc := 19) X (st := [])  (c_X2_get l D tA (a 3) (a 8) 30 8 (sB s) i 5 (by first | assumption | omega | decide) (by first | assumption | omega | decide) (by first | assumption | omega | decide) (by first | assumption | omega | decide) (by first | assumption | omega | decide) (by first | assumption | omega | decide)) cd_X2_get wm_X1_70 6 rfl rfl rfl [6, 7] rfl rfl ⟨Nat.le_of_ble_eq_true rfl, Nat.le_of_ble_eq_true rfl⟩ ⟨Nat.zero_le _, Nat.zero_le _⟩ rfl (Nat.le_of_ble_eq_true rfl) dX1_bookingFor_19 ?_
        refine j_if_ne (pc := 22) X (tgt := 53) (P := ¬ (tGet 8 (sB s) i 5) = 0) dX1_bookingFor_22 (by decide) (not_congr (nC_eq0 (by omega))) (fun h22 => ?_) (fun h22 => ?_)
        · skip
          refine j_iinc (pc := 53) X (v := (nI (i + 1))) (lv' := [(3, .int (nI (i + 1))), (0, .ref (a 0)), (1, .int (nI m)), (2, .int (nI h))]) dX1_bookingFor_53 (q := 3) rfl (nI_add _ _) (by decide) rfl ?_
          refine j_goto (pc := 56) X (tgt := 2) dX1_bookingFor_56 (by decide) ?_
          refine j_lv X (lv' := [(0, .ref (a 0)), (1, .int (nI m)), (2, .int (nI h)), (3, .int (nI (i + 1)))]) [1, 2, 3, 0] rfl ?_
          exact ih_2 (i + 1) (by omega) (fnd_no hk (by simp only [decide_eq_true_eq]; exact fun q => h22 q.1)) (by omega)
        · skip
          refine j_aload_n (pc := 25) X dX1_bookingFor_25 rfl (q := 0) rfl ?_
          refine j_get (pc := 26) X (C := RX1) (T := TX1) (N := 9) wz_X1 0 rfl rfl 2 (by decide) wf_X1_23 rfl dX1_bookingFor_26 ?_
          refine j_iload_n (pc := 29) X dX1_bookingFor_29 rfl (q := 3) rfl ?_
          refine j_iconst (pc := 30) X (v := (nI 1)) dX1_bookingFor_30 (by decide) ?_
          refine j_callVR (pc := 31) X (st := [])  (c_X2_get l D tA (a 3) (a 8) 30 8 (sB s) i 1 (by first | assumption | omega | decide) (by first | assumption | omega | decide) (by first | assumption | omega | decide) (by first | assumption | omega | decide) (by first | assumption | omega | decide) (by first | assumption | omega | decide)) cd_X2_get wm_X1_70 6 rfl rfl rfl [6, 7] rfl rfl ⟨Nat.le_of_ble_eq_true rfl, Nat.le_of_ble_eq_true rfl⟩ ⟨Nat.zero_le _, Nat.zero_le _⟩ rfl (Nat.le_of_ble_eq_true rfl) dX1_bookingFor_31 ?_
          refine j_iload_n (pc := 34) X dX1_bookingFor_34 rfl (q := 1) rfl ?_
          refine j_icmp_ne (pc := 35) X (tgt := 53) (P := ¬ (tGet 8 (sB s) i 1) = m) dX1_bookingFor_35 (by decide) (not_congr (nI_eq (by omega) (by omega))) (fun h35 => ?_) (fun h35 => ?_)
          · skip
            refine j_iinc (pc := 53) X (v := (nI (i + 1))) (lv' := [(3, .int (nI (i + 1))), (0, .ref (a 0)), (1, .int (nI m)), (2, .int (nI h))]) dX1_bookingFor_53 (q := 3) rfl (nI_add _ _) (by decide) rfl ?_
            refine j_goto (pc := 56) X (tgt := 2) dX1_bookingFor_56 (by decide) ?_
            refine j_lv X (lv' := [(0, .ref (a 0)), (1, .int (nI m)), (2, .int (nI h)), (3, .int (nI (i + 1)))]) [1, 2, 3, 0] rfl ?_
            exact ih_2 (i + 1) (by omega) (fnd_no hk (by simp only [decide_eq_true_eq]; exact fun q => h35 q.2.1)) (by omega)
          · skip
            refine j_aload_n (pc := 38) X dX1_bookingFor_38 rfl (q := 0) rfl ?_
            refine j_get (pc := 39) X (C := RX1) (T := TX1) (N := 9) wz_X1 0 rfl rfl 2 (by decide) wf_X1_23 rfl dX1_bookingFor_39 ?_
            refine j_iload_n (pc := 42) X dX1_bookingFor_42 rfl (q := 3) rfl ?_
            refine j_iconst (pc := 43) X (v := (nI 2)) dX1_bookingFor_43 (by decide) ?_
            refine j_callVR (pc := 44) X (st := [])  (c_X2_get l D tA (a 3) (a 8) 30 8 (sB s) i 2 (by first | assumption | omega | decide) (by first | assumption | omega | decide) (by first | assumption | omega | decide) (by first | assumption | omega | decide) (by first | assumption | omega | decide) (by first | assumption | omega | decide)) cd_X2_get wm_X1_70 6 rfl rfl rfl [6, 7] rfl rfl ⟨Nat.le_of_ble_eq_true rfl, Nat.le_of_ble_eq_true rfl⟩ ⟨Nat.zero_le _, Nat.zero_le _⟩ rfl (Nat.le_of_ble_eq_true rfl) dX1_bookingFor_44 ?_
            refine j_iload_n (pc := 47) X dX1_bookingFor_47 rfl (q := 2) rfl ?_
            refine j_icmp_ne (pc := 48) X (tgt := 53) (P := ¬ (tGet 8 (sB s) i 2) = h) dX1_bookingFor_48 (by decide) (not_congr (nI_eq (by omega) (by omega))) (fun h48 => ?_) (fun h48 => ?_)
            · skip
              refine j_iinc (pc := 53) X (v := (nI (i + 1))) (lv' := [(3, .int (nI (i + 1))), (0, .ref (a 0)), (1, .int (nI m)), (2, .int (nI h))]) dX1_bookingFor_53 (q := 3) rfl (nI_add _ _) (by decide) rfl ?_
              refine j_goto (pc := 56) X (tgt := 2) dX1_bookingFor_56 (by decide) ?_
              refine j_lv X (lv' := [(0, .ref (a 0)), (1, .int (nI m)), (2, .int (nI h)), (3, .int (nI (i + 1)))]) [1, 2, 3, 0] rfl ?_
              exact ih_2 (i + 1) (by omega) (fnd_no hk (by simp only [decide_eq_true_eq]; exact fun q => h48 q.2.2)) (by omega)
            · skip
              refine j_iload_n (pc := 51) X dX1_bookingFor_51 rfl (q := 3) rfl ?_
              exact j_endI (pc := 52) E dX1_bookingFor_52 (by rw [bkF, fnd_up (fnd_at hk (by simp only [decide_eq_true_eq]; exact ⟨Decidable.not_not.mp h22, Decidable.not_not.mp h35, Decidable.not_not.mp h48⟩)) _ (by omega)]; rfl) rfl
  refine j_lv X (lv' := [(0, .ref (a 0)), (1, .int (nI m)), (2, .int (nI h)), (3, .int (nI 0))]) [1, 2, 3, 0] rfl ?_
  exact L_2 _ 0 (Nat.zero_le _) rfl (Nat.lt_succ_self _)
theorem cd_X1_canTake : kCardV yX1_canTake cX1_canTake 5 (some .boolean) 4 := ⟨⟨wc_X1_canTake, wi_X1, by decide +kernel, by decide +kernel, rfl⟩, wk_X1_canTake, ws_X1_canTake⟩
set_option maxHeartbeats 4000000 in
set_option maxRecDepth 100000 in
theorem c_X1_canTake (l : Launch) (D : va_G) (tA : Nat → ClassId) (a : Nat → Nat) (s : Sg) (m h ld r : Nat) (hw : Wf s) (hm : m < (sM s).1) (hh : h < 2 ^ 31) (hl : ld < 2 ^ 31) (hr : r ≤ 60) : Kx l D tA yX1_canTake cX1_canTake 5 (some .boolean) 2 48 [.ref (a 0), .int (nI m), .int (nI h), .int (nI ld), .int (nI r)] (stW tA a s) (some (.int (bI (canT s m h ld r)))) (stW tA a s) := by
  refine kx_bool rfl (Nat.le_of_ble_eq_true rfl) (fun G X E => ?_)
  show J l D G 0 0 (stW tA a s) [(0, .ref (a 0)), (1, .int (nI m)), (2, .int (nI h)), (3, .int (nI ld)), (4, .int (nI r))] 0 []
  have hn := hw.n
  have hbr := brn_lt hw hm (r := r)
  refine j_iload_n (pc := 0) X dX1_canTake_0 rfl (q := 3) rfl ?_
  refine j_aload_n (pc := 1) X dX1_canTake_1 rfl (q := 0) rfl ?_
  refine j_iload_n (pc := 2) X dX1_canTake_2 rfl (q := 1) rfl ?_
  refine j_iload (pc := 3) X dX1_canTake_3 (q := 4) rfl ?_
  refine j_callVR (pc := 5) X (st := [.int (nI ld)])  (c_X1_borneBy l D tA a s m r (by first | assumption | omega | decide) (by first | assumption | omega | decide) (by first | assumption | omega | decide)) cd_X1_borneBy wm_X1_89 0 rfl rfl rfl [0, 1, 2, 3, 4, 5, 6, 7, 8, 9] rfl rfl ⟨Nat.le_of_ble_eq_true rfl, Nat.le_of_ble_eq_true rfl⟩ ⟨Nat.zero_le _, Nat.zero_le _⟩ rfl (Nat.le_of_ble_eq_true rfl) dX1_canTake_5 ?_
  refine j_icmp_gt (pc := 8) X (tgt := 26) (P := (brn (sM s) m r) < ld) dX1_canTake_8 (by decide) (nI_ltI (by omega) (by omega)) (fun h8 => ?_) (fun h8 => ?_)
  · skip
    refine j_iconst (pc := 26) X (v := (nI 0)) dX1_canTake_26 (by decide) ?_
    exact j_endI (pc := 27) E dX1_canTake_27 (bI_f (by simp only [canT, decide_eq_false_iff_not]; exact fun q => absurd q.1 (by omega))) rfl
  · skip
    refine j_aload_n (pc := 11) X dX1_canTake_11 rfl (q := 0) rfl ?_
    refine j_iload_n (pc := 12) X dX1_canTake_12 rfl (q := 1) rfl ?_
    refine j_iload_n (pc := 13) X dX1_canTake_13 rfl (q := 2) rfl ?_
    refine j_callVR (pc := 14) X (st := [])  (c_X1_bookingFor l D tA a s m h (by first | assumption | omega | decide) (by first | assumption | omega | decide) (by first | assumption | omega | decide)) cd_X1_bookingFor wm_X1_92 0 rfl rfl rfl [0, 1, 2, 3, 4, 5, 6, 7, 8, 9] rfl rfl ⟨Nat.le_of_ble_eq_true rfl, Nat.le_of_ble_eq_true rfl⟩ ⟨Nat.zero_le _, Nat.zero_le _⟩ rfl (Nat.le_of_ble_eq_true rfl) dX1_canTake_14 ?_
    refine j_bipush (pc := 17) X (v := (-5)) dX1_canTake_17 (by decide) ?_
    refine j_icmp_ne (pc := 19) X (tgt := 26) (P := ¬ (bkF (sB s) m h) = none) dX1_canTake_19 (by decide) (not_congr (rO_none (fun b e => by have := bkF_lt e; omega))) (fun h19 => ?_) (fun h19 => ?_)
    · skip
      refine j_iconst (pc := 26) X (v := (nI 0)) dX1_canTake_26 (by decide) ?_
      exact j_endI (pc := 27) E dX1_canTake_27 (bI_f (by simp only [canT, decide_eq_false_iff_not]; exact fun q => h19 q.2)) rfl
    · skip
      refine j_iconst (pc := 22) X (v := (nI 1)) dX1_canTake_22 (by decide) ?_
      refine j_goto (pc := 23) X (tgt := 27) dX1_canTake_23 (by decide) ?_
      exact j_endI (pc := 27) E dX1_canTake_27 (bI_t (by simp only [canT, decide_eq_true_eq]; exact ⟨by omega, Decidable.not_not.mp h19⟩)) rfl
theorem cd_X1_pay : kCardV yX1_pay cX1_pay 3 none 2 := ⟨⟨wc_X1_pay, wi_X1, by decide +kernel, by decide +kernel, rfl⟩, wk_X1_pay, ws_X1_pay⟩
set_option maxHeartbeats 4000000 in
set_option maxRecDepth 100000 in
theorem c_X1_pay (l : Launch) (D : va_G) (tA : Nat → ClassId) (a : Nat → Nat) (s : Sg) (p c : Nat) (hP : (sP s).1 ≤ 8) (hp : p < (sP s).1) : Kx l D tA yX1_pay cX1_pay 3 none 2 47 [.ref (a 0), .int (nI p), .int (nI c)] (stW tA a s) none (stW tA a (payS s p c)) := by
  refine kx_void rfl (Nat.le_of_ble_eq_true rfl) (fun G X E => ?_)
  show J l D G 0 0 (stW tA a s) [(0, .ref (a 0)), (1, .int (nI p)), (2, .int (nI c))] 0 []
  refine j_aload_n (pc := 0) X dX1_pay_0 rfl (q := 0) rfl ?_
  refine j_get (pc := 1) X (C := RX1) (T := TX1) (N := 9) wz_X1 0 rfl rfl 1 (by decide) wf_X1_20 rfl dX1_pay_1 ?_
  refine j_iload_n (pc := 4) X dX1_pay_4 rfl (q := 1) rfl ?_
  refine j_iconst (pc := 5) X (v := (nI 0)) dX1_pay_5 (by decide) ?_
  refine j_iload_n (pc := 6) X dX1_pay_6 rfl (q := 2) rfl ?_
  refine j_callV (pc := 7) X (st := []) (w' := (stW tA a (uP s (tSet 2 (sP s) p 0 (tGet 2 (sP s) p 0 + c))))) (c_X2_increase l D tA (a 2) (a 7) 8 2 (sP s) p 0 (nI c) (tGet 2 (sP s) p 0 + c) (by first | assumption | omega | decide) (by first | assumption | omega | decide) (by first | assumption | omega | decide) (by first | assumption | omega | decide) (by first | assumption | omega | decide) (by first | assumption | omega | decide) (nI_add _ _)) cd_X2_increase wm_X1_95 4 rfl rfl rfl [4, 5] rfl rfl (tb_fst.trans tb_fst.symm) rfl ⟨Nat.le_of_ble_eq_true rfl, Nat.le_of_ble_eq_true rfl⟩ ⟨Nat.zero_le _, Nat.zero_le _⟩ rfl (Nat.le_of_ble_eq_true rfl) dX1_pay_7 ?_
  exact j_endV (pc := 10) E dX1_pay_10 rfl
theorem cd_X1_place : kCardV yX1_place cX1_place 4 none 3 := ⟨⟨wc_X1_place, wi_X1, by decide +kernel, by decide +kernel, rfl⟩, wk_X1_place, ws_X1_place⟩
set_option maxHeartbeats 4000000 in
set_option maxRecDepth 100000 in
theorem c_X1_place (l : Launch) (D : va_G) (tA : Nat → ClassId) (a : Nat → Nat) (s : Sg) (b m h : Nat) (hB : (sB s).1 ≤ 30) (hb : b < (sB s).1) (hh : h < 200) : Kx l D tA yX1_place cX1_place 4 none 1 24 [.ref (a 0), .int (nI b), .int (nI m), .int (nI h)] (stW tA a s) none (stW tA a (placeS s b m h)) := by
  refine kx_void rfl (Nat.le_of_ble_eq_true rfl) (fun G X E => ?_)
  show J l D G 0 0 (stW tA a s) [(0, .ref (a 0)), (1, .int (nI b)), (2, .int (nI m)), (3, .int (nI h))] 0 []
  refine j_aload_n (pc := 0) X dX1_place_0 rfl (q := 0) rfl ?_
  refine j_get (pc := 1) X (C := RX1) (T := TX1) (N := 9) wz_X1 0 rfl rfl 2 (by decide) wf_X1_23 rfl dX1_place_1 ?_
  refine j_iload_n (pc := 4) X dX1_place_4 rfl (q := 1) rfl ?_
  refine j_iconst (pc := 5) X (v := (nI 1)) dX1_place_5 (by decide) ?_
  refine j_iload_n (pc := 6) X dX1_place_6 rfl (q := 2) rfl ?_
  refine j_callV (pc := 7) X (st := []) (w' := (stW tA a (uB s (tSet 8 (sB s) b 1 m)))) (c_X2_set l D tA (a 3) (a 8) 30 8 (sB s) b 1 m (by decide) (by decide) (show (sB s).1 ≤ 30 by omega) (show b < (sB s).1 by omega) (by decide) (by decide)) cd_X2_set wm_X1_82 6 rfl rfl rfl [6, 7] rfl rfl (tb_fst.trans tb_fst.symm) rfl ⟨Nat.le_of_ble_eq_true rfl, Nat.le_of_ble_eq_true rfl⟩ ⟨Nat.zero_le _, Nat.zero_le _⟩ rfl (Nat.le_of_ble_eq_true rfl) dX1_place_7 ?_
  refine j_aload_n (pc := 10) X dX1_place_10 rfl (q := 0) rfl ?_
  refine j_get (pc := 11) X (C := RX1) (T := TX1) (N := 9) wz_X1 0 rfl rfl 2 (by decide) wf_X1_23 rfl dX1_place_11 ?_
  refine j_iload_n (pc := 14) X dX1_place_14 rfl (q := 1) rfl ?_
  refine j_iconst (pc := 15) X (v := (nI 2)) dX1_place_15 (by decide) ?_
  refine j_iload_n (pc := 16) X dX1_place_16 rfl (q := 3) rfl ?_
  refine j_callV (pc := 17) X (st := []) (w' := (stW tA a (uB s (tSet 8 (tSet 8 (sB s) b 1 m) b 2 h)))) (c_X2_set l D tA (a 3) (a 8) 30 8 (tSet 8 (sB s) b 1 m) b 2 h (by decide) (by decide) (show (sB s).1 ≤ 30 by omega) (show b < (sB s).1 by omega) (by decide) (by decide)) cd_X2_set wm_X1_82 6 rfl rfl rfl [6, 7] rfl rfl (tb_fst.trans tb_fst.symm) rfl ⟨Nat.le_of_ble_eq_true rfl, Nat.le_of_ble_eq_true rfl⟩ ⟨Nat.zero_le _, Nat.zero_le _⟩ rfl (Nat.le_of_ble_eq_true rfl) dX1_place_17 ?_
  refine j_aload_n (pc := 20) X dX1_place_20 rfl (q := 0) rfl ?_
  refine j_get (pc := 21) X (C := RX1) (T := TX1) (N := 9) wz_X1 0 rfl rfl 2 (by decide) wf_X1_23 rfl dX1_place_21 ?_
  refine j_iload_n (pc := 24) X dX1_place_24 rfl (q := 1) rfl ?_
  refine j_bipush (pc := 25) X (v := (nI 6)) dX1_place_25 (by decide) ?_
  refine j_aload_n (pc := 27) X dX1_place_27 rfl (q := 0) rfl ?_
  refine j_iload_n (pc := 28) X dX1_place_28 rfl (q := 3) rfl ?_
  refine j_callVR (pc := 29) X (st := [.int (nI 6), .int (nI b), .ref (a 3)])  (c_X1_windAt l D tA a (uB s (tSet 8 (tSet 8 (sB s) b 1 m) b 2 h)) h (by first | assumption | omega | decide)) cd_X1_windAt wm_X1_98 0 rfl rfl rfl [0, 1, 2, 3, 4, 5, 6, 7, 8, 9] rfl rfl ⟨Nat.le_of_ble_eq_true rfl, Nat.le_of_ble_eq_true rfl⟩ ⟨Nat.zero_le _, Nat.zero_le _⟩ rfl (Nat.le_of_ble_eq_true rfl) dX1_place_29 ?_
  refine j_callV (pc := 32) X (st := []) (w' := (stW tA a (uB s (tSet 8 (tSet 8 (tSet 8 (sB s) b 1 m) b 2 h) b 6 ((sW s) h))))) (c_X2_set l D tA (a 3) (a 8) 30 8 (tSet 8 (tSet 8 (sB s) b 1 m) b 2 h) b 6 ((sW s) h) (by decide) (by decide) (show (sB s).1 ≤ 30 by omega) (show b < (sB s).1 by omega) (by decide) (by decide)) cd_X2_set wm_X1_82 6 rfl rfl rfl [6, 7] rfl rfl (tb_fst.trans tb_fst.symm) rfl ⟨Nat.le_of_ble_eq_true rfl, Nat.le_of_ble_eq_true rfl⟩ ⟨Nat.zero_le _, Nat.zero_le _⟩ rfl (Nat.le_of_ble_eq_true rfl) dX1_place_32 ?_
  exact j_endV (pc := 35) E dX1_place_35 rfl
theorem cd_X1_isBooked : kCardV yX1_isBooked cX1_isBooked 2 (some .boolean) 1 := ⟨⟨wc_X1_isBooked, wi_X1, by decide +kernel, by decide +kernel, rfl⟩, wk_X1_isBooked, ws_X1_isBooked⟩
set_option maxHeartbeats 4000000 in
set_option maxRecDepth 100000 in
theorem c_X1_isBooked (l : Launch) (D : va_G) (tA : Nat → ClassId) (a : Nat → Nat) (s : Sg) (b : Nat) (hw : Wf s) (hb : b < (sB s).1) : Kx l D tA yX1_isBooked cX1_isBooked 2 (some .boolean) 1 23 [.ref (a 0), .int (nI b)] (stW tA a s) (some (.int (bI (decide (tGet 8 (sB s) b 5 = 0))))) (stW tA a s) := by
  refine kx_bool rfl (Nat.le_of_ble_eq_true rfl) (fun G X E => ?_)
  show J l D G 0 0 (stW tA a s) [(0, .ref (a 0)), (1, .int (nI b))] 0 []
  have hn := hw.n
  have hb0 := hw.b hb
  refine j_aload_n (pc := 0) X dX1_isBooked_0 rfl (q := 0) rfl ?_
  refine j_get (pc := 1) X (C := RX1) (T := TX1) (N := 9) wz_X1 0 rfl rfl 2 (by decide) wf_X1_23 rfl dX1_isBooked_1 ?_
  refine j_iload_n (pc := 4) X dX1_isBooked_4 rfl (q := 1) rfl ?_
  refine j_iconst (pc := 5) X (v := (nI 5)) dX1_isBooked_5 (by decide) ?_
  refine j_callVR (pc := 6) X (st := [])  (c_X2_get l D tA (a 3) (a 8) 30 8 (sB s) b 5 (by first | assumption | omega | decide) (by first | assumption | omega | decide) (by first | assumption | omega | decide) (by first | assumption | omega | decide) (by first | assumption | omega | decide) (by first | assumption | omega | decide)) cd_X2_get wm_X1_70 6 rfl rfl rfl [6, 7] rfl rfl ⟨Nat.le_of_ble_eq_true rfl, Nat.le_of_ble_eq_true rfl⟩ ⟨Nat.zero_le _, Nat.zero_le _⟩ rfl (Nat.le_of_ble_eq_true rfl) dX1_isBooked_6 ?_
  refine j_if_ne (pc := 9) X (tgt := 16) (P := ¬ (tGet 8 (sB s) b 5) = 0) dX1_isBooked_9 (by decide) (not_congr (nC_eq0 (by omega))) (fun h9 => ?_) (fun h9 => ?_)
  · skip
    refine j_iconst (pc := 16) X (v := (nI 0)) dX1_isBooked_16 (by decide) ?_
    exact j_endI (pc := 17) E dX1_isBooked_17 (bI_f (by simp only [decide_eq_false_iff_not]; omega)) rfl
  · skip
    refine j_iconst (pc := 12) X (v := (nI 1)) dX1_isBooked_12 (by decide) ?_
    refine j_goto (pc := 13) X (tgt := 17) dX1_isBooked_13 (by decide) ?_
    exact j_endI (pc := 17) E dX1_isBooked_17 (bI_t (by simp only [decide_eq_true_eq]; omega)) rfl
theorem cd_X1_limitOf : kCardV yX1_limitOf cX1_limitOf 2 (some .int) 1 := ⟨⟨wc_X1_limitOf, wi_X1, by decide +kernel, by decide +kernel, rfl⟩, wk_X1_limitOf, ws_X1_limitOf⟩
set_option maxHeartbeats 4000000 in
set_option maxRecDepth 100000 in
theorem c_X1_limitOf (l : Launch) (D : va_G) (tA : Nat → ClassId) (a : Nat → Nat) (s : Sg) (b : Nat) (hw : Wf s) (hb : b < (sB s).1) : Kx l D tA yX1_limitOf cX1_limitOf 2 (some .int) 2 34 [.ref (a 0), .int (nI b)] (stW tA a s) (some (.int (nI (limO (sB s) b)))) (stW tA a s) := by
  refine kx_int rfl (Nat.le_of_ble_eq_true rfl) (fun G X E => ?_)
  show J l D G 0 0 (stW tA a s) [(0, .ref (a 0)), (1, .int (nI b))] 0 []
  have hn := hw.n
  have hb0 := hw.b hb
  refine j_aload_n (pc := 0) X dX1_limitOf_0 rfl (q := 0) rfl ?_
  refine j_get (pc := 1) X (C := RX1) (T := TX1) (N := 9) wz_X1 0 rfl rfl 2 (by decide) wf_X1_23 rfl dX1_limitOf_1 ?_
  refine j_iload_n (pc := 4) X dX1_limitOf_4 rfl (q := 1) rfl ?_
  refine j_iconst (pc := 5) X (v := (nI 3)) dX1_limitOf_5 (by decide) ?_
  refine j_callVR (pc := 6) X (st := [])  (c_X2_get l D tA (a 3) (a 8) 30 8 (sB s) b 3 (by first | assumption | omega | decide) (by first | assumption | omega | decide) (by first | assumption | omega | decide) (by first | assumption | omega | decide) (by first | assumption | omega | decide) (by first | assumption | omega | decide)) cd_X2_get wm_X1_70 6 rfl rfl rfl [6, 7] rfl rfl ⟨Nat.le_of_ble_eq_true rfl, Nat.le_of_ble_eq_true rfl⟩ ⟨Nat.zero_le _, Nat.zero_le _⟩ rfl (Nat.le_of_ble_eq_true rfl) dX1_limitOf_6 ?_
  refine j_aload_n (pc := 9) X dX1_limitOf_9 rfl (q := 0) rfl ?_
  refine j_get (pc := 10) X (C := RX1) (T := TX1) (N := 9) wz_X1 0 rfl rfl 2 (by decide) wf_X1_23 rfl dX1_limitOf_10 ?_
  refine j_iload_n (pc := 13) X dX1_limitOf_13 rfl (q := 1) rfl ?_
  refine j_iconst (pc := 14) X (v := (nI 4)) dX1_limitOf_14 (by decide) ?_
  refine j_callVR (pc := 15) X (st := [.int (nI (tGet 8 (sB s) b 3))])  (c_X2_get l D tA (a 3) (a 8) 30 8 (sB s) b 4 (by first | assumption | omega | decide) (by first | assumption | omega | decide) (by first | assumption | omega | decide) (by first | assumption | omega | decide) (by first | assumption | omega | decide) (by first | assumption | omega | decide)) cd_X2_get wm_X1_70 6 rfl rfl rfl [6, 7] rfl rfl ⟨Nat.le_of_ble_eq_true rfl, Nat.le_of_ble_eq_true rfl⟩ ⟨Nat.zero_le _, Nat.zero_le _⟩ rfl (Nat.le_of_ble_eq_true rfl) dX1_limitOf_15 ?_
  refine j_callNR (pc := 18) X (st := [])  (c_X4_limitFor l D tA (tGet 8 (sB s) b 3) (tGet 8 (sB s) b 4) (by first | assumption | omega | decide) (by first | assumption | omega | decide)) cd_X4_limitFor X.2.2.2.2.2.1.2.2.1 [] rfl rfl ⟨Nat.le_of_ble_eq_true rfl, Nat.le_of_ble_eq_true rfl⟩ ⟨Nat.zero_le _, Nat.zero_le _⟩ rfl (Nat.le_of_ble_eq_true rfl) dX1_limitOf_18 ?_
  exact j_endI (pc := 21) E dX1_limitOf_21 rfl rfl
theorem cd_X1_bearsLiftOf : kCardV yX1_bearsLiftOf cX1_bearsLiftOf 3 (some .boolean) 2 := ⟨⟨wc_X1_bearsLiftOf, wi_X1, by decide +kernel, by decide +kernel, rfl⟩, wk_X1_bearsLiftOf, ws_X1_bearsLiftOf⟩
set_option maxHeartbeats 4000000 in
set_option maxRecDepth 100000 in
theorem c_X1_bearsLiftOf (l : Launch) (D : va_G) (tA : Nat → ClassId) (a : Nat → Nat) (s : Sg) (m b : Nat) (hw : Wf s) (hm : m < (sM s).1) (hb : b < (sB s).1) : Kx l D tA yX1_bearsLiftOf cX1_bearsLiftOf 3 (some .boolean) 2 48 [.ref (a 0), .int (nI m), .int (nI b)] (stW tA a s) (some (.int (bI (brsB s m b)))) (stW tA a s) := by
  refine kx_bool rfl (Nat.le_of_ble_eq_true rfl) (fun G X E => ?_)
  show J l D G 0 0 (stW tA a s) [(0, .ref (a 0)), (1, .int (nI m)), (2, .int (nI b))] 0 []
  have hn := hw.n
  have hb0 := hw.b hb
  have hbr := brn_lt hw hm (r := tGet 8 (sB s) b 4)
  refine j_aload_n (pc := 0) X dX1_bearsLiftOf_0 rfl (q := 0) rfl ?_
  refine j_get (pc := 1) X (C := RX1) (T := TX1) (N := 9) wz_X1 0 rfl rfl 2 (by decide) wf_X1_23 rfl dX1_bearsLiftOf_1 ?_
  refine j_iload_n (pc := 4) X dX1_bearsLiftOf_4 rfl (q := 2) rfl ?_
  refine j_iconst (pc := 5) X (v := (nI 3)) dX1_bearsLiftOf_5 (by decide) ?_
  refine j_callVR (pc := 6) X (st := [])  (c_X2_get l D tA (a 3) (a 8) 30 8 (sB s) b 3 (by first | assumption | omega | decide) (by first | assumption | omega | decide) (by first | assumption | omega | decide) (by first | assumption | omega | decide) (by first | assumption | omega | decide) (by first | assumption | omega | decide)) cd_X2_get wm_X1_70 6 rfl rfl rfl [6, 7] rfl rfl ⟨Nat.le_of_ble_eq_true rfl, Nat.le_of_ble_eq_true rfl⟩ ⟨Nat.zero_le _, Nat.zero_le _⟩ rfl (Nat.le_of_ble_eq_true rfl) dX1_bearsLiftOf_6 ?_
  refine j_aload_n (pc := 9) X dX1_bearsLiftOf_9 rfl (q := 0) rfl ?_
  refine j_iload_n (pc := 10) X dX1_bearsLiftOf_10 rfl (q := 1) rfl ?_
  refine j_aload_n (pc := 11) X dX1_bearsLiftOf_11 rfl (q := 0) rfl ?_
  refine j_get (pc := 12) X (C := RX1) (T := TX1) (N := 9) wz_X1 0 rfl rfl 2 (by decide) wf_X1_23 rfl dX1_bearsLiftOf_12 ?_
  refine j_iload_n (pc := 15) X dX1_bearsLiftOf_15 rfl (q := 2) rfl ?_
  refine j_iconst (pc := 16) X (v := (nI 4)) dX1_bearsLiftOf_16 (by decide) ?_
  refine j_callVR (pc := 17) X (st := [.int (nI m), .ref (a 0), .int (nI (tGet 8 (sB s) b 3))])  (c_X2_get l D tA (a 3) (a 8) 30 8 (sB s) b 4 (by first | assumption | omega | decide) (by first | assumption | omega | decide) (by first | assumption | omega | decide) (by first | assumption | omega | decide) (by first | assumption | omega | decide) (by first | assumption | omega | decide)) cd_X2_get wm_X1_70 6 rfl rfl rfl [6, 7] rfl rfl ⟨Nat.le_of_ble_eq_true rfl, Nat.le_of_ble_eq_true rfl⟩ ⟨Nat.zero_le _, Nat.zero_le _⟩ rfl (Nat.le_of_ble_eq_true rfl) dX1_bearsLiftOf_17 ?_
  refine j_callVR (pc := 20) X (st := [.int (nI (tGet 8 (sB s) b 3))])  (c_X1_borneBy l D tA a s m (tGet 8 (sB s) b 4) (by first | assumption | omega | decide) (by first | assumption | omega | decide) (by first | assumption | omega | decide)) cd_X1_borneBy wm_X1_89 0 rfl rfl rfl [0, 1, 2, 3, 4, 5, 6, 7, 8, 9] rfl rfl ⟨Nat.le_of_ble_eq_true rfl, Nat.le_of_ble_eq_true rfl⟩ ⟨Nat.zero_le _, Nat.zero_le _⟩ rfl (Nat.le_of_ble_eq_true rfl) dX1_bearsLiftOf_20 ?_
  refine j_icmp_gt (pc := 23) X (tgt := 30) (P := (brn (sM s) m (tGet 8 (sB s) b 4)) < (tGet 8 (sB s) b 3)) dX1_bearsLiftOf_23 (by decide) (nI_ltI (by omega) (by omega)) (fun h23 => ?_) (fun h23 => ?_)
  · skip
    refine j_iconst (pc := 30) X (v := (nI 0)) dX1_bearsLiftOf_30 (by decide) ?_
    exact j_endI (pc := 31) E dX1_bearsLiftOf_31 (bI_f (by simp only [brsB, decide_eq_false_iff_not]; omega)) rfl
  · skip
    refine j_iconst (pc := 26) X (v := (nI 1)) dX1_bearsLiftOf_26 (by decide) ?_
    refine j_goto (pc := 27) X (tgt := 31) dX1_bearsLiftOf_27 (by decide) ?_
    exact j_endI (pc := 31) E dX1_bearsLiftOf_31 (bI_t (by simp only [brsB, decide_eq_true_eq]; omega)) rfl
theorem cd_X1_mustStandBy : kCardV yX1_mustStandBy cX1_mustStandBy 2 (some .boolean) 1 := ⟨⟨wc_X1_mustStandBy, wi_X1, by decide +kernel, by decide +kernel, rfl⟩, wk_X1_mustStandBy, ws_X1_mustStandBy⟩
set_option maxHeartbeats 4000000 in
set_option maxRecDepth 100000 in
theorem c_X1_mustStandBy (l : Launch) (D : va_G) (tA : Nat → ClassId) (a : Nat → Nat) (s : Sg) (b : Nat) (hw : Wf s) (hb : b < (sB s).1) : Kx l D tA yX1_mustStandBy cX1_mustStandBy 2 (some .boolean) 3 70 [.ref (a 0), .int (nI b)] (stW tA a s) (some (.int (bI (must s b)))) (stW tA a s) := by
  refine kx_bool rfl (Nat.le_of_ble_eq_true rfl) (fun G X E => ?_)
  show J l D G 0 0 (stW tA a s) [(0, .ref (a 0)), (1, .int (nI b))] 0 []
  have hn := hw.n
  have hb0 := hw.b hb
  have hli := limN_le (tGet 8 (sB s) b 3) (tGet 8 (sB s) b 4)
  have hli : limO (sB s) b ≤ 60 := hli
  have hwi := hw.w hb0.2.2.1
  refine j_aload_n (pc := 0) X dX1_mustStandBy_0 rfl (q := 0) rfl ?_
  refine j_aload_n (pc := 1) X dX1_mustStandBy_1 rfl (q := 0) rfl ?_
  refine j_get (pc := 2) X (C := RX1) (T := TX1) (N := 9) wz_X1 0 rfl rfl 2 (by decide) wf_X1_23 rfl dX1_mustStandBy_2 ?_
  refine j_iload_n (pc := 5) X dX1_mustStandBy_5 rfl (q := 1) rfl ?_
  refine j_iconst (pc := 6) X (v := (nI 1)) dX1_mustStandBy_6 (by decide) ?_
  refine j_callVR (pc := 7) X (st := [.ref (a 0)])  (c_X2_get l D tA (a 3) (a 8) 30 8 (sB s) b 1 (by first | assumption | omega | decide) (by first | assumption | omega | decide) (by first | assumption | omega | decide) (by first | assumption | omega | decide) (by first | assumption | omega | decide) (by first | assumption | omega | decide)) cd_X2_get wm_X1_70 6 rfl rfl rfl [6, 7] rfl rfl ⟨Nat.le_of_ble_eq_true rfl, Nat.le_of_ble_eq_true rfl⟩ ⟨Nat.zero_le _, Nat.zero_le _⟩ rfl (Nat.le_of_ble_eq_true rfl) dX1_mustStandBy_7 ?_
  refine j_iload_n (pc := 10) X dX1_mustStandBy_10 rfl (q := 1) rfl ?_
  refine j_callVR (pc := 11) X (st := [])  (c_X1_bearsLiftOf l D tA a s (tGet 8 (sB s) b 1) b (by first | assumption | omega | decide) (by first | assumption | omega | decide) (by first | assumption | omega | decide)) cd_X1_bearsLiftOf wm_X1_105 0 rfl rfl rfl [0, 1, 2, 3, 4, 5, 6, 7, 8, 9] rfl rfl ⟨Nat.le_of_ble_eq_true rfl, Nat.le_of_ble_eq_true rfl⟩ ⟨Nat.zero_le _, Nat.zero_le _⟩ rfl (Nat.le_of_ble_eq_true rfl) dX1_mustStandBy_11 ?_
  refine j_if_eq (pc := 14) X (tgt := 38) (P := (brsB s (tGet 8 (sB s) b 1) b) = false) dX1_mustStandBy_14 (by decide) (bI_0 _) (fun h14 => ?_) (fun h14 => ?_)
  · skip
    refine j_iconst (pc := 38) X (v := (nI 1)) dX1_mustStandBy_38 (by decide) ?_
    refine j_goto (pc := 39) X (tgt := 43) dX1_mustStandBy_39 (by decide) ?_
    exact j_endI (pc := 43) E dX1_mustStandBy_43 (bI_t (by simp only [must, decide_eq_true_eq]; exact Or.inl h14)) rfl
  · skip
    refine j_aload_n (pc := 17) X dX1_mustStandBy_17 rfl (q := 0) rfl ?_
    refine j_aload_n (pc := 18) X dX1_mustStandBy_18 rfl (q := 0) rfl ?_
    refine j_get (pc := 19) X (C := RX1) (T := TX1) (N := 9) wz_X1 0 rfl rfl 2 (by decide) wf_X1_23 rfl dX1_mustStandBy_19 ?_
    refine j_iload_n (pc := 22) X dX1_mustStandBy_22 rfl (q := 1) rfl ?_
    refine j_iconst (pc := 23) X (v := (nI 2)) dX1_mustStandBy_23 (by decide) ?_
    refine j_callVR (pc := 24) X (st := [.ref (a 0)])  (c_X2_get l D tA (a 3) (a 8) 30 8 (sB s) b 2 (by first | assumption | omega | decide) (by first | assumption | omega | decide) (by first | assumption | omega | decide) (by first | assumption | omega | decide) (by first | assumption | omega | decide) (by first | assumption | omega | decide)) cd_X2_get wm_X1_70 6 rfl rfl rfl [6, 7] rfl rfl ⟨Nat.le_of_ble_eq_true rfl, Nat.le_of_ble_eq_true rfl⟩ ⟨Nat.zero_le _, Nat.zero_le _⟩ rfl (Nat.le_of_ble_eq_true rfl) dX1_mustStandBy_24 ?_
    refine j_callVR (pc := 27) X (st := [])  (c_X1_windAt l D tA a s (tGet 8 (sB s) b 2) (by first | assumption | omega | decide)) cd_X1_windAt wm_X1_98 0 rfl rfl rfl [0, 1, 2, 3, 4, 5, 6, 7, 8, 9] rfl rfl ⟨Nat.le_of_ble_eq_true rfl, Nat.le_of_ble_eq_true rfl⟩ ⟨Nat.zero_le _, Nat.zero_le _⟩ rfl (Nat.le_of_ble_eq_true rfl) dX1_mustStandBy_27 ?_
    refine j_aload_n (pc := 30) X dX1_mustStandBy_30 rfl (q := 0) rfl ?_
    refine j_iload_n (pc := 31) X dX1_mustStandBy_31 rfl (q := 1) rfl ?_
    refine j_callVR (pc := 32) X (st := [.int (nI ((sW s) (tGet 8 (sB s) b 2)))])  (c_X1_limitOf l D tA a s b (by first | assumption | omega | decide) (by first | assumption | omega | decide)) cd_X1_limitOf wm_X1_109 0 rfl rfl rfl [0, 1, 2, 3, 4, 5, 6, 7, 8, 9] rfl rfl ⟨Nat.le_of_ble_eq_true rfl, Nat.le_of_ble_eq_true rfl⟩ ⟨Nat.zero_le _, Nat.zero_le _⟩ rfl (Nat.le_of_ble_eq_true rfl) dX1_mustStandBy_32 ?_
    refine j_icmp_le (pc := 35) X (tgt := 42) (P := ((sW s) (tGet 8 (sB s) b 2)) ≤ (limO (sB s) b)) dX1_mustStandBy_35 (by decide) (nI_leI (by omega) (by omega)) (fun h35 => ?_) (fun h35 => ?_)
    · skip
      refine j_iconst (pc := 42) X (v := (nI 0)) dX1_mustStandBy_42 (by decide) ?_
      exact j_endI (pc := 43) E dX1_mustStandBy_43 (bI_f (by simp only [must, decide_eq_false_iff_not]; exact fun q => q.elim (fun q => h14 q) (fun q => absurd q (by omega)))) rfl
    · skip
      refine j_iconst (pc := 38) X (v := (nI 1)) dX1_mustStandBy_38 (by decide) ?_
      refine j_goto (pc := 39) X (tgt := 43) dX1_mustStandBy_39 (by decide) ?_
      exact j_endI (pc := 43) E dX1_mustStandBy_43 (bI_t (by simp only [must, decide_eq_true_eq]; exact Or.inr (by omega))) rfl
theorem cd_X1_causerOf : kCardV yX1_causerOf cX1_causerOf 4 (some .int) 1 := ⟨⟨wc_X1_causerOf, wi_X1, by decide +kernel, by decide +kernel, rfl⟩, wk_X1_causerOf, ws_X1_causerOf⟩
set_option maxHeartbeats 4000000 in
set_option maxRecDepth 100000 in
theorem c_X1_causerOf (l : Launch) (D : va_G) (tA : Nat → ClassId) (a : Nat → Nat) (s : Sg) (b : Nat) (hw : Wf s) (hb : b < (sB s).1) : Kx l D tA yX1_causerOf cX1_causerOf 4 (some .int) 3 70 [.ref (a 0), .int (nI b)] (stW tA a s) (some (.int (rO (caus s b)))) (stW tA a s) := by
  refine kx_int rfl (Nat.le_of_ble_eq_true rfl) (fun G X E => ?_)
  show J l D G 0 0 (stW tA a s) [(0, .ref (a 0)), (1, .int (nI b))] 0 []
  have hn := hw.n
  have hb0 := hw.b hb
  have hli := limN_le (tGet 8 (sB s) b 3) (tGet 8 (sB s) b 4)
  have hli : limO (sB s) b ≤ 60 := hli
  refine j_aload_n (pc := 0) X dX1_causerOf_0 rfl (q := 0) rfl ?_
  refine j_get (pc := 1) X (C := RX1) (T := TX1) (N := 9) wz_X1 0 rfl rfl 2 (by decide) wf_X1_23 rfl dX1_causerOf_1 ?_
  refine j_iload_n (pc := 4) X dX1_causerOf_4 rfl (q := 1) rfl ?_
  refine j_iconst (pc := 5) X (v := (nI 1)) dX1_causerOf_5 (by decide) ?_
  refine j_callVR (pc := 6) X (st := [])  (c_X2_get l D tA (a 3) (a 8) 30 8 (sB s) b 1 (by first | assumption | omega | decide) (by first | assumption | omega | decide) (by first | assumption | omega | decide) (by first | assumption | omega | decide) (by first | assumption | omega | decide) (by first | assumption | omega | decide)) cd_X2_get wm_X1_70 6 rfl rfl rfl [6, 7] rfl rfl ⟨Nat.le_of_ble_eq_true rfl, Nat.le_of_ble_eq_true rfl⟩ ⟨Nat.zero_le _, Nat.zero_le _⟩ rfl (Nat.le_of_ble_eq_true rfl) dX1_causerOf_6 ?_
  refine j_istore_n (pc := 9) X (lv' := [(2, .int (nI (tGet 8 (sB s) b 1))), (0, .ref (a 0)), (1, .int (nI b))]) dX1_causerOf_9 rfl (by decide) rfl ?_
  refine j_aload_n (pc := 10) X dX1_causerOf_10 rfl (q := 1) rfl ?_
  refine j_iload_n (pc := 11) X dX1_causerOf_11 rfl (q := 0) rfl ?_
  refine j_iload_n (pc := 12) X dX1_causerOf_12 rfl (q := 2) rfl ?_
  refine j_callVR (pc := 13) X (st := [])  (c_X1_bearsLiftOf l D tA a s (tGet 8 (sB s) b 1) b (by first | assumption | omega | decide) (by first | assumption | omega | decide) (by first | assumption | omega | decide)) cd_X1_bearsLiftOf wm_X1_105 0 rfl rfl rfl [0, 1, 2, 3, 4, 5, 6, 7, 8, 9] rfl rfl ⟨Nat.le_of_ble_eq_true rfl, Nat.le_of_ble_eq_true rfl⟩ ⟨Nat.zero_le _, Nat.zero_le _⟩ rfl (Nat.le_of_ble_eq_true rfl) dX1_causerOf_13 ?_
  refine j_if_ne (pc := 16) X (tgt := 29) (P := (brsB s (tGet 8 (sB s) b 1) b) = true) dX1_causerOf_16 (by decide) (bI_n0 _) (fun h16 => ?_) (fun h16 => ?_)
  · skip
    refine j_aload_n (pc := 29) X dX1_causerOf_29 rfl (q := 1) rfl ?_
    refine j_get (pc := 30) X (C := RX1) (T := TX1) (N := 9) wz_X1 0 rfl rfl 2 (by decide) wf_X1_23 rfl dX1_causerOf_30 ?_
    refine j_iload_n (pc := 33) X dX1_causerOf_33 rfl (q := 2) rfl ?_
    refine j_bipush (pc := 34) X (v := (nI 6)) dX1_causerOf_34 (by decide) ?_
    refine j_callVR (pc := 36) X (st := [])  (c_X2_get l D tA (a 3) (a 8) 30 8 (sB s) b 6 (by first | assumption | omega | decide) (by first | assumption | omega | decide) (by first | assumption | omega | decide) (by first | assumption | omega | decide) (by first | assumption | omega | decide) (by first | assumption | omega | decide)) cd_X2_get wm_X1_70 6 rfl rfl rfl [6, 7] rfl rfl ⟨Nat.le_of_ble_eq_true rfl, Nat.le_of_ble_eq_true rfl⟩ ⟨Nat.zero_le _, Nat.zero_le _⟩ rfl (Nat.le_of_ble_eq_true rfl) dX1_causerOf_36 ?_
    refine j_aload_n (pc := 39) X dX1_causerOf_39 rfl (q := 1) rfl ?_
    refine j_iload_n (pc := 40) X dX1_causerOf_40 rfl (q := 2) rfl ?_
    refine j_callVR (pc := 41) X (st := [.int (nI (tGet 8 (sB s) b 6))])  (c_X1_limitOf l D tA a s b (by first | assumption | omega | decide) (by first | assumption | omega | decide)) cd_X1_limitOf wm_X1_109 0 rfl rfl rfl [0, 1, 2, 3, 4, 5, 6, 7, 8, 9] rfl rfl ⟨Nat.le_of_ble_eq_true rfl, Nat.le_of_ble_eq_true rfl⟩ ⟨Nat.zero_le _, Nat.zero_le _⟩ rfl (Nat.le_of_ble_eq_true rfl) dX1_causerOf_41 ?_
    refine j_icmp_le (pc := 44) X (tgt := 51) (P := (tGet 8 (sB s) b 6) ≤ (limO (sB s) b)) dX1_causerOf_44 (by decide) (nI_leI (by omega) (by omega)) (fun h44 => ?_) (fun h44 => ?_)
    · skip
      refine j_iconst (pc := 51) X (v := (nI 0)) dX1_causerOf_51 (by decide) ?_
      refine j_istore_n (pc := 52) X (lv' := [(3, .int (nI 0)), (2, .int (nI (tGet 8 (sB s) b 1))), (0, .ref (a 0)), (1, .int (nI b))]) dX1_causerOf_52 rfl (by decide) rfl ?_
      refine j_iload_n (pc := 53) X dX1_causerOf_53 rfl (q := 0) rfl ?_
      refine j_if_eq_t (pc := 54) X (tgt := 69) dX1_causerOf_54 (by decide) nI_0 ?_
      refine j_bipush (pc := 69) X (v := (-5)) dX1_causerOf_69 (by decide) ?_
      exact j_endI (pc := 71) E dX1_causerOf_71 (by rw [caus, if_pos h16, if_neg (by omega)]; rfl) rfl
    · skip
      refine j_iconst (pc := 47) X (v := (nI 1)) dX1_causerOf_47 (by decide) ?_
      refine j_goto (pc := 48) X (tgt := 52) dX1_causerOf_48 (by decide) ?_
      refine j_istore_n (pc := 52) X (lv' := [(3, .int (nI 1)), (2, .int (nI (tGet 8 (sB s) b 1))), (0, .ref (a 0)), (1, .int (nI b))]) dX1_causerOf_52 rfl (by decide) rfl ?_
      refine j_iload_n (pc := 53) X dX1_causerOf_53 rfl (q := 0) rfl ?_
      refine j_if_eq_f (pc := 54) X (tgt := 69) dX1_causerOf_54 (by decide) (nI_ne0 (n := 1) (by decide) (by decide)) ?_
      refine j_aload_n (pc := 57) X dX1_causerOf_57 rfl (q := 2) rfl ?_
      refine j_get (pc := 58) X (C := RX1) (T := TX1) (N := 9) wz_X1 0 rfl rfl 2 (by decide) wf_X1_23 rfl dX1_causerOf_58 ?_
      refine j_iload_n (pc := 61) X dX1_causerOf_61 rfl (q := 3) rfl ?_
      refine j_iconst (pc := 62) X (v := (nI 0)) dX1_causerOf_62 (by decide) ?_
      refine j_callVR (pc := 63) X (st := [])  (c_X2_get l D tA (a 3) (a 8) 30 8 (sB s) b 0 (by first | assumption | omega | decide) (by first | assumption | omega | decide) (by first | assumption | omega | decide) (by first | assumption | omega | decide) (by first | assumption | omega | decide) (by first | assumption | omega | decide)) cd_X2_get wm_X1_70 6 rfl rfl rfl [6, 7] rfl rfl ⟨Nat.le_of_ble_eq_true rfl, Nat.le_of_ble_eq_true rfl⟩ ⟨Nat.zero_le _, Nat.zero_le _⟩ rfl (Nat.le_of_ble_eq_true rfl) dX1_causerOf_63 ?_
      refine j_goto (pc := 66) X (tgt := 71) dX1_causerOf_66 (by decide) ?_
      exact j_endI (pc := 71) E dX1_causerOf_71 (by rw [caus, if_pos h16, if_pos (by omega)]; rfl) rfl
  · skip
    refine j_aload_n (pc := 19) X dX1_causerOf_19 rfl (q := 1) rfl ?_
    refine j_get (pc := 20) X (C := RX1) (T := TX1) (N := 9) wz_X1 0 rfl rfl 0 (by decide) wf_X1_14 rfl dX1_causerOf_20 ?_
    refine j_iload_n (pc := 23) X dX1_causerOf_23 rfl (q := 0) rfl ?_
    refine j_iconst (pc := 24) X (v := (nI 2)) dX1_causerOf_24 (by decide) ?_
    refine j_callVR (pc := 25) X (st := [])  (c_X2_get l D tA (a 1) (a 6) 5 3 (sM s) (tGet 8 (sB s) b 1) 2 (by first | assumption | omega | decide) (by first | assumption | omega | decide) (by first | assumption | omega | decide) (by first | assumption | omega | decide) (by first | assumption | omega | decide) (by first | assumption | omega | decide)) cd_X2_get wm_X1_70 2 rfl rfl rfl [2, 3] rfl rfl ⟨Nat.le_of_ble_eq_true rfl, Nat.le_of_ble_eq_true rfl⟩ ⟨Nat.zero_le _, Nat.zero_le _⟩ rfl (Nat.le_of_ble_eq_true rfl) dX1_causerOf_25 ?_
    exact j_endI (pc := 28) E dX1_causerOf_28 (by rw [caus, if_neg h16, rO_noO]) rfl
theorem cd_X1_nextMoveUpTo : kCardV yX1_nextMoveUpTo cX1_nextMoveUpTo 5 (some .int) 1 := ⟨⟨wc_X1_nextMoveUpTo, wi_X1, by decide +kernel, by decide +kernel, rfl⟩, wk_X1_nextMoveUpTo, ws_X1_nextMoveUpTo⟩
set_option maxHeartbeats 4000000 in
set_option maxRecDepth 100000 in
theorem c_X1_nextMoveUpTo (l : Launch) (D : va_G) (tA : Nat → ClassId) (a : Nat → Nat) (s : Sg) (h : Nat) (hw : Wf s) (hh : h < 65536) : Kx l D tA yX1_nextMoveUpTo cX1_nextMoveUpTo 5 (some .int) 1 23 [.ref (a 0), .int (nI h)] (stW tA a s) (some (.int (rO (nxt (sV s) h)))) (stW tA a s) := by
  refine kx_int rfl (Nat.le_of_ble_eq_true rfl) (fun G X E => ?_)
  show J l D G 0 0 (stW tA a s) [(0, .ref (a 0)), (1, .int (nI h))] 0 []
  have hn := hw.n
  refine j_bipush (pc := 0) X (v := (-5)) dX1_nextMoveUpTo_0 (by decide) ?_
  refine j_istore_n (pc := 2) X (lv' := [(2, .int (-5)), (0, .ref (a 0)), (1, .int (nI h))]) dX1_nextMoveUpTo_2 rfl (by decide) rfl ?_
  refine j_iload_n (pc := 3) X dX1_nextMoveUpTo_3 rfl (q := 2) rfl ?_
  refine j_iconst (pc := 4) X (v := (nI 1)) dX1_nextMoveUpTo_4 (by decide) ?_
  refine j_iadd (pc := 5) X (v := (nI (h + 1))) dX1_nextMoveUpTo_5 (nI_add _ _) ?_
  refine j_istore_n (pc := 6) X (lv' := [(3, .int (nI (h + 1))), (2, .int (-5)), (0, .ref (a 0)), (1, .int (nI h))]) dX1_nextMoveUpTo_6 rfl (by decide) rfl ?_
  refine j_iconst (pc := 7) X (v := (nI 0)) dX1_nextMoveUpTo_7 (by decide) ?_
  refine j_istore (pc := 8) X (lv' := [(4, .int (nI 0)), (3, .int (nI (h + 1))), (2, .int (-5)), (0, .ref (a 0)), (1, .int (nI h))]) dX1_nextMoveUpTo_8 (by decide) rfl ?_
  have L_10 : ∀ (fu : Nat) (i e : Nat) (ob : Option Nat), i ≤ (sV s).1 → (ob, e) = nxA (sV s) h i → (sV s).1 - i < fu → J l D G 0 0 (stW tA a s) [(0, .ref (a 0)), (1, .int (nI h)), (2, .int (rO ob)), (3, .int (nI e)), (4, .int (nI i))] 10 [] := by
    intro fu
    induction fu with
    | zero => intro i e ob hi ho hfu; exact absurd hfu (Nat.not_lt_zero _)
    | succ fu ih_10 =>
      intro i e ob hi ho hfu
      have he : e ≤ h + 1 := by have := nxA_le (sV s) h i; rw [← ho] at this; exact this
      refine j_iload (pc := 10) X dX1_nextMoveUpTo_10 (q := 4) rfl ?_
      refine j_aload_n (pc := 12) X dX1_nextMoveUpTo_12 rfl (q := 0) rfl ?_
      refine j_get (pc := 13) X (C := RX1) (T := TX1) (N := 9) wz_X1 0 rfl rfl 3 (by decide) wf_X1_26 rfl dX1_nextMoveUpTo_13 ?_
      refine j_callVR (pc := 16) X (st := [.int (nI i)])  (c_X2_size l D tA (a 4) (a 9) 10 5 (sV s)  ) cd_X2_size wm_X1_66 8 rfl rfl rfl [8, 9] rfl rfl ⟨Nat.le_of_ble_eq_true rfl, Nat.le_of_ble_eq_true rfl⟩ ⟨Nat.zero_le _, Nat.zero_le _⟩ rfl (Nat.le_of_ble_eq_true rfl) dX1_nextMoveUpTo_16 ?_
      refine j_icmp_ge (pc := 19) X (tgt := 56) (P := ((sV s).1) ≤ i) dX1_nextMoveUpTo_19 (by decide) (nI_leI (by omega) (by omega)) (fun h19 => ?_) (fun h19 => ?_)
      · skip
        refine j_iload_n (pc := 56) X dX1_nextMoveUpTo_56 rfl (q := 2) rfl ?_
        exact j_endI (pc := 57) E dX1_nextMoveUpTo_57 (by rw [nxt, ← show i = (sV s).1 by omega, ← ho]) rfl
      · skip
        refine j_aload_n (pc := 22) X dX1_nextMoveUpTo_22 rfl (q := 0) rfl ?_
        refine j_get (pc := 23) X (C := RX1) (T := TX1) (N := 9) wz_X1 0 rfl rfl 3 (by decide) wf_X1_26 rfl dX1_nextMoveUpTo_23 ?_
        refine j_iload (pc := 26) X dX1_nextMoveUpTo_26 (q := 4) rfl ?_
        refine j_iconst (pc := 28) X (v := (nI 4)) dX1_nextMoveUpTo_28 (by decide) ?_
        refine j_callVR (pc := 29) X (st := [])  (c_X2_get l D tA (a 4) (a 9) 10 5 (sV s) i 4 (by first | assumption | omega | decide) (by first | assumption | omega | decide) (by first | assumption | omega | decide) (by first | assumption | omega | decide) (by first | assumption | omega | decide) (by first | assumption | omega | decide)) cd_X2_get wm_X1_70 8 rfl rfl rfl [8, 9] rfl rfl ⟨Nat.le_of_ble_eq_true rfl, Nat.le_of_ble_eq_true rfl⟩ ⟨Nat.zero_le _, Nat.zero_le _⟩ rfl (Nat.le_of_ble_eq_true rfl) dX1_nextMoveUpTo_29 ?_
        have hv := hw.v (show i < (sV s).1 by omega)
        refine j_iload_n (pc := 32) X dX1_nextMoveUpTo_32 rfl (q := 3) rfl ?_
        refine j_icmp_ge (pc := 33) X (tgt := 50) (P := e ≤ (tGet 5 (sV s) i 4)) dX1_nextMoveUpTo_33 (by decide) (nI_leI (by omega) (by omega)) (fun h33 => ?_) (fun h33 => ?_)
        · skip
          refine j_iinc (pc := 50) X (v := (nI (i + 1))) (lv' := [(4, .int (nI (i + 1))), (0, .ref (a 0)), (1, .int (nI h)), (2, .int (rO ob)), (3, .int (nI e))]) dX1_nextMoveUpTo_50 (q := 4) rfl (nI_add _ _) (by decide) rfl ?_
          refine j_goto (pc := 53) X (tgt := 10) dX1_nextMoveUpTo_53 (by decide) ?_
          refine j_lv X (lv' := [(0, .ref (a 0)), (1, .int (nI h)), (2, .int (rO ob)), (3, .int (nI e)), (4, .int (nI (i + 1)))]) [1, 2, 3, 4, 0] rfl ?_
          exact ih_10 (i + 1) e ob (by omega) (by rw [nxA, if_neg (by rw [← ho]; exact Nat.not_lt.mpr h33)]; exact ho) (by omega)
        · skip
          refine j_iload (pc := 36) X dX1_nextMoveUpTo_36 (q := 4) rfl ?_
          refine j_istore_n (pc := 38) X (lv' := [(2, .int (nI i)), (0, .ref (a 0)), (1, .int (nI h)), (3, .int (nI e)), (4, .int (nI i))]) dX1_nextMoveUpTo_38 rfl (by decide) rfl ?_
          refine j_aload_n (pc := 39) X dX1_nextMoveUpTo_39 rfl (q := 1) rfl ?_
          refine j_get (pc := 40) X (C := RX1) (T := TX1) (N := 9) wz_X1 0 rfl rfl 3 (by decide) wf_X1_26 rfl dX1_nextMoveUpTo_40 ?_
          refine j_iload (pc := 43) X dX1_nextMoveUpTo_43 (q := 4) rfl ?_
          refine j_iconst (pc := 45) X (v := (nI 4)) dX1_nextMoveUpTo_45 (by decide) ?_
          refine j_callVR (pc := 46) X (st := [])  (c_X2_get l D tA (a 4) (a 9) 10 5 (sV s) i 4 (by first | assumption | omega | decide) (by first | assumption | omega | decide) (by first | assumption | omega | decide) (by first | assumption | omega | decide) (by first | assumption | omega | decide) (by first | assumption | omega | decide)) cd_X2_get wm_X1_70 8 rfl rfl rfl [8, 9] rfl rfl ⟨Nat.le_of_ble_eq_true rfl, Nat.le_of_ble_eq_true rfl⟩ ⟨Nat.zero_le _, Nat.zero_le _⟩ rfl (Nat.le_of_ble_eq_true rfl) dX1_nextMoveUpTo_46 ?_
          refine j_istore_n (pc := 49) X (lv' := [(3, .int (nI (tGet 5 (sV s) i 4))), (2, .int (nI i)), (0, .ref (a 0)), (1, .int (nI h)), (4, .int (nI i))]) dX1_nextMoveUpTo_49 rfl (by decide) rfl ?_
          refine j_iinc (pc := 50) X (v := (nI (i + 1))) (lv' := [(4, .int (nI (i + 1))), (3, .int (nI (tGet 5 (sV s) i 4))), (2, .int (nI i)), (0, .ref (a 0)), (1, .int (nI h))]) dX1_nextMoveUpTo_50 (q := 4) rfl (nI_add _ _) (by decide) rfl ?_
          refine j_goto (pc := 53) X (tgt := 10) dX1_nextMoveUpTo_53 (by decide) ?_
          refine j_lv X (lv' := [(0, .ref (a 0)), (1, .int (nI h)), (2, .int (nI i)), (3, .int (nI (tGet 5 (sV s) i 4))), (4, .int (nI (i + 1)))]) [3, 4, 2, 1, 0] rfl ?_
          exact ih_10 (i + 1) (tGet 5 (sV s) i 4) (some i) (by omega) (by rw [nxA, if_pos (by rw [← ho]; exact Nat.not_le.mp h33)]) (by omega)
  refine j_lv X (lv' := [(0, .ref (a 0)), (1, .int (nI h)), (2, .int (-5)), (3, .int (nI (h + 1))), (4, .int (nI 0))]) [3, 4, 2, 1, 0] rfl ?_
  exact L_10 _ 0 (h + 1) none (Nat.zero_le _) rfl (Nat.lt_succ_self _)
theorem cd_X1_closeMove : kCardV yX1_closeMove cX1_closeMove 6 none 1 := ⟨⟨wc_X1_closeMove, wi_X1, by decide +kernel, by decide +kernel, rfl⟩, wk_X1_closeMove, ws_X1_closeMove⟩
set_option maxHeartbeats 4000000 in
set_option maxRecDepth 100000 in
theorem c_X1_closeMove (l : Launch) (D : va_G) (tA : Nat → ClassId) (a : Nat → Nat) (s : Sg) (v : Nat) (hw : Wf s) (hv : v < (sV s).1) : Kx l D tA yX1_closeMove cX1_closeMove 6 none 3 69 [.ref (a 0), .int (nI v)] (stW tA a s) none (stW tA a (clM s v)) := by
  refine kx_void rfl (Nat.le_of_ble_eq_true rfl) (fun G X E => ?_)
  show J l D G 0 0 (stW tA a s) [(0, .ref (a 0)), (1, .int (nI v))] 0 []
  have hn := hw.n
  have hv0 := hw.v hv
  obtain ⟨hv0, hv1, hv2, hv3, hv4⟩ := hv0
  have hf0 := hw.m hv1
  have ht0 := hw.m hv2
  refine j_aload_n (pc := 0) X dX1_closeMove_0 rfl (q := 0) rfl ?_
  refine j_get (pc := 1) X (C := RX1) (T := TX1) (N := 9) wz_X1 0 rfl rfl 3 (by decide) wf_X1_26 rfl dX1_closeMove_1 ?_
  refine j_iload_n (pc := 4) X dX1_closeMove_4 rfl (q := 1) rfl ?_
  refine j_iconst (pc := 5) X (v := (nI 0)) dX1_closeMove_5 (by decide) ?_
  refine j_callVR (pc := 6) X (st := [])  (c_X2_get l D tA (a 4) (a 9) 10 5 (sV s) v 0 (by first | assumption | omega | decide) (by first | assumption | omega | decide) (by first | assumption | omega | decide) (by first | assumption | omega | decide) (by first | assumption | omega | decide) (by first | assumption | omega | decide)) cd_X2_get wm_X1_70 8 rfl rfl rfl [8, 9] rfl rfl ⟨Nat.le_of_ble_eq_true rfl, Nat.le_of_ble_eq_true rfl⟩ ⟨Nat.zero_le _, Nat.zero_le _⟩ rfl (Nat.le_of_ble_eq_true rfl) dX1_closeMove_6 ?_
  refine j_istore_n (pc := 9) X (lv' := [(2, .int (nI (tGet 5 (sV s) v 0))), (0, .ref (a 0)), (1, .int (nI v))]) dX1_closeMove_9 rfl (by decide) rfl ?_
  refine j_aload_n (pc := 10) X dX1_closeMove_10 rfl (q := 1) rfl ?_
  refine j_get (pc := 11) X (C := RX1) (T := TX1) (N := 9) wz_X1 0 rfl rfl 3 (by decide) wf_X1_26 rfl dX1_closeMove_11 ?_
  refine j_iload_n (pc := 14) X dX1_closeMove_14 rfl (q := 2) rfl ?_
  refine j_iconst (pc := 15) X (v := (nI 1)) dX1_closeMove_15 (by decide) ?_
  refine j_callVR (pc := 16) X (st := [])  (c_X2_get l D tA (a 4) (a 9) 10 5 (sV s) v 1 (by first | assumption | omega | decide) (by first | assumption | omega | decide) (by first | assumption | omega | decide) (by first | assumption | omega | decide) (by first | assumption | omega | decide) (by first | assumption | omega | decide)) cd_X2_get wm_X1_70 8 rfl rfl rfl [8, 9] rfl rfl ⟨Nat.le_of_ble_eq_true rfl, Nat.le_of_ble_eq_true rfl⟩ ⟨Nat.zero_le _, Nat.zero_le _⟩ rfl (Nat.le_of_ble_eq_true rfl) dX1_closeMove_16 ?_
  refine j_istore_n (pc := 19) X (lv' := [(3, .int (nI (tGet 5 (sV s) v 1))), (2, .int (nI (tGet 5 (sV s) v 0))), (0, .ref (a 0)), (1, .int (nI v))]) dX1_closeMove_19 rfl (by decide) rfl ?_
  refine j_aload_n (pc := 20) X dX1_closeMove_20 rfl (q := 2) rfl ?_
  refine j_get (pc := 21) X (C := RX1) (T := TX1) (N := 9) wz_X1 0 rfl rfl 3 (by decide) wf_X1_26 rfl dX1_closeMove_21 ?_
  refine j_iload_n (pc := 24) X dX1_closeMove_24 rfl (q := 3) rfl ?_
  refine j_iconst (pc := 25) X (v := (nI 2)) dX1_closeMove_25 (by decide) ?_
  refine j_callVR (pc := 26) X (st := [])  (c_X2_get l D tA (a 4) (a 9) 10 5 (sV s) v 2 (by first | assumption | omega | decide) (by first | assumption | omega | decide) (by first | assumption | omega | decide) (by first | assumption | omega | decide) (by first | assumption | omega | decide) (by first | assumption | omega | decide)) cd_X2_get wm_X1_70 8 rfl rfl rfl [8, 9] rfl rfl ⟨Nat.le_of_ble_eq_true rfl, Nat.le_of_ble_eq_true rfl⟩ ⟨Nat.zero_le _, Nat.zero_le _⟩ rfl (Nat.le_of_ble_eq_true rfl) dX1_closeMove_26 ?_
  refine j_istore (pc := 29) X (lv' := [(4, .int (nI (tGet 5 (sV s) v 2))), (3, .int (nI (tGet 5 (sV s) v 1))), (2, .int (nI (tGet 5 (sV s) v 0))), (0, .ref (a 0)), (1, .int (nI v))]) dX1_closeMove_29 (by decide) rfl ?_
  refine j_aload_n (pc := 31) X dX1_closeMove_31 rfl (q := 3) rfl ?_
  refine j_get (pc := 32) X (C := RX1) (T := TX1) (N := 9) wz_X1 0 rfl rfl 3 (by decide) wf_X1_26 rfl dX1_closeMove_32 ?_
  refine j_iload_n (pc := 35) X dX1_closeMove_35 rfl (q := 4) rfl ?_
  refine j_iconst (pc := 36) X (v := (nI 3)) dX1_closeMove_36 (by decide) ?_
  refine j_callVR (pc := 37) X (st := [])  (c_X2_get l D tA (a 4) (a 9) 10 5 (sV s) v 3 (by first | assumption | omega | decide) (by first | assumption | omega | decide) (by first | assumption | omega | decide) (by first | assumption | omega | decide) (by first | assumption | omega | decide) (by first | assumption | omega | decide)) cd_X2_get wm_X1_70 8 rfl rfl rfl [8, 9] rfl rfl ⟨Nat.le_of_ble_eq_true rfl, Nat.le_of_ble_eq_true rfl⟩ ⟨Nat.zero_le _, Nat.zero_le _⟩ rfl (Nat.le_of_ble_eq_true rfl) dX1_closeMove_37 ?_
  refine j_istore (pc := 40) X (lv' := [(5, .int (nI (tGet 5 (sV s) v 3))), (4, .int (nI (tGet 5 (sV s) v 2))), (3, .int (nI (tGet 5 (sV s) v 1))), (2, .int (nI (tGet 5 (sV s) v 0))), (0, .ref (a 0)), (1, .int (nI v))]) dX1_closeMove_40 (by decide) rfl ?_
  refine j_aload_n (pc := 42) X dX1_closeMove_42 rfl (q := 4) rfl ?_
  refine j_get (pc := 43) X (C := RX1) (T := TX1) (N := 9) wz_X1 0 rfl rfl 3 (by decide) wf_X1_26 rfl dX1_closeMove_43 ?_
  refine j_iload_n (pc := 46) X dX1_closeMove_46 rfl (q := 5) rfl ?_
  refine j_callV (pc := 47) X (st := []) (w' := (stW tA a (uV s (tDel 5 (sV s) v)))) (c_X2_removeRow l D tA (a 4) (a 9) 10 5 (sV s) v (by first | assumption | omega | decide) (by first | assumption | omega | decide) (by first | assumption | omega | decide) (by first | assumption | omega | decide) (by first | assumption | omega | decide)) cd_X2_removeRow wm_X1_119 8 rfl rfl rfl [8, 9] rfl rfl (tb_fst.trans tb_fst.symm) rfl ⟨Nat.le_of_ble_eq_true rfl, Nat.le_of_ble_eq_true rfl⟩ ⟨Nat.zero_le _, Nat.zero_le _⟩ rfl (Nat.le_of_ble_eq_true rfl) dX1_closeMove_47 ?_
  refine j_aload_n (pc := 50) X dX1_closeMove_50 rfl (q := 4) rfl ?_
  refine j_get (pc := 51) X (C := RX1) (T := TX1) (N := 9) wz_X1 0 rfl rfl 0 (by decide) wf_X1_14 rfl dX1_closeMove_51 ?_
  refine j_iload_n (pc := 54) X dX1_closeMove_54 rfl (q := 2) rfl ?_
  refine j_iconst (pc := 55) X (v := (nI 1)) dX1_closeMove_55 (by decide) ?_
  refine j_callVR (pc := 56) X (st := [])  (c_X2_get l D tA (a 1) (a 6) 5 3 (sM s) (tGet 5 (sV s) v 1) 1 (by decide) (by decide) (show (sM s).1 ≤ 5 by omega) (by assumption) (by decide) (by decide)) cd_X2_get wm_X1_70 2 rfl rfl rfl [2, 3] rfl rfl ⟨Nat.le_of_ble_eq_true rfl, Nat.le_of_ble_eq_true rfl⟩ ⟨Nat.zero_le _, Nat.zero_le _⟩ rfl (Nat.le_of_ble_eq_true rfl) dX1_closeMove_56 ?_
  refine j_iload (pc := 59) X dX1_closeMove_59 (q := 0) rfl ?_
  refine j_icmp_lt (pc := 61) X (tgt := 82) (P := (tGet 3 (sM s) (tGet 5 (sV s) v 1) 1) < (tGet 5 (sV s) v 3)) dX1_closeMove_61 (by decide) (nI_ltI (by omega) (by omega)) (fun h61 => ?_) (fun h61 => ?_)
  · skip
    refine j_aload_n (pc := 82) X dX1_closeMove_82 rfl (q := 4) rfl ?_
    refine j_iload_n (pc := 83) X dX1_closeMove_83 rfl (q := 3) rfl ?_
    refine j_iconst (pc := 84) X (v := (nI 5)) dX1_closeMove_84 (by decide) ?_
    refine j_callV (pc := 85) X (st := []) (w' := (stW tA a (payS (uV s (tDel 5 (sV s) v)) (tGet 5 (sV s) v 0) 5))) (c_X1_pay l D tA a (uV s (tDel 5 (sV s) v)) (tGet 5 (sV s) v 0) 5 (show (sP s).1 ≤ 8 by omega) hv0) cd_X1_pay wm_X1_122 0 rfl rfl rfl [0, 1, 2, 3, 4, 5, 6, 7, 8, 9] rfl rfl (st_fst.trans st_fst.symm) rfl ⟨Nat.le_of_ble_eq_true rfl, Nat.le_of_ble_eq_true rfl⟩ ⟨Nat.zero_le _, Nat.zero_le _⟩ rfl (Nat.le_of_ble_eq_true rfl) dX1_closeMove_85 ?_
    refine j_aload_n (pc := 88) X dX1_closeMove_88 rfl (q := 4) rfl ?_
    refine j_dup (pc := 89) X dX1_closeMove_89 rfl ?_
    refine j_get (pc := 90) X (C := RX1) (T := TX1) (N := 9) wz_X1 0 rfl rfl 7 (by decide) wf_X1_56 rfl dX1_closeMove_90 ?_
    refine j_iconst (pc := 93) X (v := (nI 1)) dX1_closeMove_93 (by decide) ?_
    refine j_iadd (pc := 94) X (v := (nI ((sF (payS (uV s (tDel 5 (sV s) v)) (tGet 5 (sV s) v 0) 5)) + 1))) dX1_closeMove_94 (nI_add _ _) ?_
    refine j_put (pc := 95) X (C := RX1) (T := TX1) (N := 9) wz_X1 tyX1 tyX1_ok nmX1 0 rfl rfl 7 (by decide) wf_X1_56 rfl rfl rfl (Nat.le_of_ble_eq_true rfl) (w' := (stW tA a (uF (payS (uV s (tDel 5 (sV s) v)) (tGet 5 (sV s) v 0) 5) ((sF (payS (uV s (tDel 5 (sV s) v)) (tGet 5 (sV s) v 0) 5)) + 1)))) rfl dX1_closeMove_95 ?_
    exact j_endV (pc := 98) E dX1_closeMove_98 (congrArg (stW tA a) (by rw [clM, if_pos (Or.inl h61)] <;> rfl))
  · skip
    refine j_aload_n (pc := 64) X dX1_closeMove_64 rfl (q := 4) rfl ?_
    refine j_get (pc := 65) X (C := RX1) (T := TX1) (N := 9) wz_X1 0 rfl rfl 0 (by decide) wf_X1_14 rfl dX1_closeMove_65 ?_
    refine j_iload (pc := 68) X dX1_closeMove_68 (q := 1) rfl ?_
    refine j_iconst (pc := 70) X (v := (nI 1)) dX1_closeMove_70 (by decide) ?_
    refine j_callVR (pc := 71) X (st := [])  (c_X2_get l D tA (a 1) (a 6) 5 3 (sM s) (tGet 5 (sV s) v 2) 1 (by decide) (by decide) (show (sM s).1 ≤ 5 by omega) (by assumption) (by decide) (by decide)) cd_X2_get wm_X1_70 2 rfl rfl rfl [2, 3] rfl rfl ⟨Nat.le_of_ble_eq_true rfl, Nat.le_of_ble_eq_true rfl⟩ ⟨Nat.zero_le _, Nat.zero_le _⟩ rfl (Nat.le_of_ble_eq_true rfl) dX1_closeMove_71 ?_
    refine j_iload (pc := 74) X dX1_closeMove_74 (q := 0) rfl ?_
    refine j_iadd (pc := 76) X (v := (nI ((tGet 3 (sM s) (tGet 5 (sV s) v 2) 1) + (tGet 5 (sV s) v 3)))) dX1_closeMove_76 (nI_add _ _) ?_
    refine j_bipush (pc := 77) X (v := (nI 12)) dX1_closeMove_77 (by decide) ?_
    refine j_icmp_le (pc := 79) X (tgt := 99) (P := ((tGet 3 (sM s) (tGet 5 (sV s) v 2) 1) + (tGet 5 (sV s) v 3)) ≤ 12) dX1_closeMove_79 (by decide) (nI_leI (by omega) (by omega)) (fun h79 => ?_) (fun h79 => ?_)
    · skip
      refine j_aload_n (pc := 99) X dX1_closeMove_99 rfl (q := 4) rfl ?_
      refine j_get (pc := 100) X (C := RX1) (T := TX1) (N := 9) wz_X1 0 rfl rfl 0 (by decide) wf_X1_14 rfl dX1_closeMove_100 ?_
      refine j_iload_n (pc := 103) X dX1_closeMove_103 rfl (q := 2) rfl ?_
      refine j_iconst (pc := 104) X (v := (nI 1)) dX1_closeMove_104 (by decide) ?_
      refine j_iload (pc := 105) X dX1_closeMove_105 (q := 0) rfl ?_
      refine j_ineg (pc := 107) X (v := (-nI (tGet 5 (sV s) v 3))) dX1_closeMove_107 rfl ?_
      refine j_callV (pc := 108) X (st := []) (w' := (stW tA a (uM (uV s (tDel 5 (sV s) v)) (tSet 3 (sM s) (tGet 5 (sV s) v 1) 1 (tGet 3 (sM s) (tGet 5 (sV s) v 1) 1 - tGet 5 (sV s) v 3))))) (c_X2_increase l D tA (a 1) (a 6) 5 3 (sM s) (tGet 5 (sV s) v 1) 1 (-nI (tGet 5 (sV s) v 3)) (tGet 3 (sM s) (tGet 5 (sV s) v 1) 1 - tGet 5 (sV s) v 3) (by decide) (by decide) (show (sM s).1 ≤ 5 by omega) (by assumption) (by decide) (by decide) (nI_neg (by omega))) cd_X2_increase wm_X1_95 2 rfl rfl rfl [2, 3] rfl rfl (tb_fst.trans tb_fst.symm) rfl ⟨Nat.le_of_ble_eq_true rfl, Nat.le_of_ble_eq_true rfl⟩ ⟨Nat.zero_le _, Nat.zero_le _⟩ rfl (Nat.le_of_ble_eq_true rfl) dX1_closeMove_108 ?_
      refine j_aload_n (pc := 111) X dX1_closeMove_111 rfl (q := 4) rfl ?_
      refine j_get (pc := 112) X (C := RX1) (T := TX1) (N := 9) wz_X1 0 rfl rfl 0 (by decide) wf_X1_14 rfl dX1_closeMove_112 ?_
      refine j_iload (pc := 115) X dX1_closeMove_115 (q := 1) rfl ?_
      refine j_iconst (pc := 117) X (v := (nI 1)) dX1_closeMove_117 (by decide) ?_
      refine j_iload (pc := 118) X dX1_closeMove_118 (q := 0) rfl ?_
      refine j_callV (pc := 120) X (st := []) (w' := (stW tA a (uM (uV s (tDel 5 (sV s) v)) (tSet 3 (tSet 3 (sM s) (tGet 5 (sV s) v 1) 1 (tGet 3 (sM s) (tGet 5 (sV s) v 1) 1 - tGet 5 (sV s) v 3)) (tGet 5 (sV s) v 2) 1 (tGet 3 (tSet 3 (sM s) (tGet 5 (sV s) v 1) 1 (tGet 3 (sM s) (tGet 5 (sV s) v 1) 1 - tGet 5 (sV s) v 3)) (tGet 5 (sV s) v 2) 1 + (tGet 5 (sV s) v 3)))))) (c_X2_increase l D tA (a 1) (a 6) 5 3 (tSet 3 (sM s) (tGet 5 (sV s) v 1) 1 (tGet 3 (sM s) (tGet 5 (sV s) v 1) 1 - tGet 5 (sV s) v 3)) (tGet 5 (sV s) v 2) 1 (nI (tGet 5 (sV s) v 3)) (tGet 3 (tSet 3 (sM s) (tGet 5 (sV s) v 1) 1 (tGet 3 (sM s) (tGet 5 (sV s) v 1) 1 - tGet 5 (sV s) v 3)) (tGet 5 (sV s) v 2) 1 + (tGet 5 (sV s) v 3)) (by decide) (by decide) (show (sM s).1 ≤ 5 by omega) (by assumption) (by decide) (by decide) (nI_add _ _)) cd_X2_increase wm_X1_95 2 rfl rfl rfl [2, 3] rfl rfl (tb_fst.trans tb_fst.symm) rfl ⟨Nat.le_of_ble_eq_true rfl, Nat.le_of_ble_eq_true rfl⟩ ⟨Nat.zero_le _, Nat.zero_le _⟩ rfl (Nat.le_of_ble_eq_true rfl) dX1_closeMove_120 ?_
      refine j_aload_n (pc := 123) X dX1_closeMove_123 rfl (q := 4) rfl ?_
      refine j_get (pc := 124) X (C := RX1) (T := TX1) (N := 9) wz_X1 0 rfl rfl 0 (by decide) wf_X1_14 rfl dX1_closeMove_124 ?_
      refine j_iload_n (pc := 127) X dX1_closeMove_127 rfl (q := 2) rfl ?_
      refine j_iconst (pc := 128) X (v := (nI 2)) dX1_closeMove_128 (by decide) ?_
      refine j_iload_n (pc := 129) X dX1_closeMove_129 rfl (q := 3) rfl ?_
      refine j_callV (pc := 130) X (st := []) (w' := (stW tA a (uM (uV s (tDel 5 (sV s) v)) (tSet 3 (tSet 3 (tSet 3 (sM s) (tGet 5 (sV s) v 1) 1 (tGet 3 (sM s) (tGet 5 (sV s) v 1) 1 - tGet 5 (sV s) v 3)) (tGet 5 (sV s) v 2) 1 (tGet 3 (tSet 3 (sM s) (tGet 5 (sV s) v 1) 1 (tGet 3 (sM s) (tGet 5 (sV s) v 1) 1 - tGet 5 (sV s) v 3)) (tGet 5 (sV s) v 2) 1 + (tGet 5 (sV s) v 3))) (tGet 5 (sV s) v 1) 2 (tGet 5 (sV s) v 0))))) (c_X2_set l D tA (a 1) (a 6) 5 3 (tSet 3 (tSet 3 (sM s) (tGet 5 (sV s) v 1) 1 (tGet 3 (sM s) (tGet 5 (sV s) v 1) 1 - tGet 5 (sV s) v 3)) (tGet 5 (sV s) v 2) 1 (tGet 3 (tSet 3 (sM s) (tGet 5 (sV s) v 1) 1 (tGet 3 (sM s) (tGet 5 (sV s) v 1) 1 - tGet 5 (sV s) v 3)) (tGet 5 (sV s) v 2) 1 + (tGet 5 (sV s) v 3))) (tGet 5 (sV s) v 1) 2 (tGet 5 (sV s) v 0) (by decide) (by decide) (show (sM s).1 ≤ 5 by omega) (by assumption) (by decide) (by decide)) cd_X2_set wm_X1_82 2 rfl rfl rfl [2, 3] rfl rfl (tb_fst.trans tb_fst.symm) rfl ⟨Nat.le_of_ble_eq_true rfl, Nat.le_of_ble_eq_true rfl⟩ ⟨Nat.zero_le _, Nat.zero_le _⟩ rfl (Nat.le_of_ble_eq_true rfl) dX1_closeMove_130 ?_
      refine j_aload_n (pc := 133) X dX1_closeMove_133 rfl (q := 4) rfl ?_
      refine j_iload_n (pc := 134) X dX1_closeMove_134 rfl (q := 3) rfl ?_
      refine j_iconst (pc := 135) X (v := (nI 5)) dX1_closeMove_135 (by decide) ?_
      refine j_iconst (pc := 136) X (v := (nI 2)) dX1_closeMove_136 (by decide) ?_
      refine j_iload (pc := 137) X dX1_closeMove_137 (q := 0) rfl ?_
      refine j_imul (pc := 139) X (v := (nI (2 * (tGet 5 (sV s) v 3)))) dX1_closeMove_139 (pk_mul _ _) ?_
      refine j_iadd (pc := 140) X (v := (nI (5 + (2 * (tGet 5 (sV s) v 3))))) dX1_closeMove_140 (nI_add _ _) ?_
      refine j_callV (pc := 141) X (st := []) (w' := (stW tA a (payS (uM (uV s (tDel 5 (sV s) v)) (tSet 3 (tSet 3 (tSet 3 (sM s) (tGet 5 (sV s) v 1) 1 (tGet 3 (sM s) (tGet 5 (sV s) v 1) 1 - tGet 5 (sV s) v 3)) (tGet 5 (sV s) v 2) 1 (tGet 3 (tSet 3 (sM s) (tGet 5 (sV s) v 1) 1 (tGet 3 (sM s) (tGet 5 (sV s) v 1) 1 - tGet 5 (sV s) v 3)) (tGet 5 (sV s) v 2) 1 + (tGet 5 (sV s) v 3))) (tGet 5 (sV s) v 1) 2 (tGet 5 (sV s) v 0))) (tGet 5 (sV s) v 0) (5 + (2 * (tGet 5 (sV s) v 3)))))) (c_X1_pay l D tA a (uM (uV s (tDel 5 (sV s) v)) (tSet 3 (tSet 3 (tSet 3 (sM s) (tGet 5 (sV s) v 1) 1 (tGet 3 (sM s) (tGet 5 (sV s) v 1) 1 - tGet 5 (sV s) v 3)) (tGet 5 (sV s) v 2) 1 (tGet 3 (tSet 3 (sM s) (tGet 5 (sV s) v 1) 1 (tGet 3 (sM s) (tGet 5 (sV s) v 1) 1 - tGet 5 (sV s) v 3)) (tGet 5 (sV s) v 2) 1 + (tGet 5 (sV s) v 3))) (tGet 5 (sV s) v 1) 2 (tGet 5 (sV s) v 0))) (tGet 5 (sV s) v 0) (5 + (2 * (tGet 5 (sV s) v 3))) (show (sP s).1 ≤ 8 by omega) hv0) cd_X1_pay wm_X1_122 0 rfl rfl rfl [0, 1, 2, 3, 4, 5, 6, 7, 8, 9] rfl rfl (st_fst.trans st_fst.symm) rfl ⟨Nat.le_of_ble_eq_true rfl, Nat.le_of_ble_eq_true rfl⟩ ⟨Nat.zero_le _, Nat.zero_le _⟩ rfl (Nat.le_of_ble_eq_true rfl) dX1_closeMove_141 ?_
      refine j_aload_n (pc := 144) X dX1_closeMove_144 rfl (q := 4) rfl ?_
      refine j_dup (pc := 145) X dX1_closeMove_145 rfl ?_
      refine j_get (pc := 146) X (C := RX1) (T := TX1) (N := 9) wz_X1 0 rfl rfl 6 (by decide) wf_X1_53 rfl dX1_closeMove_146 ?_
      refine j_iconst (pc := 149) X (v := (nI 1)) dX1_closeMove_149 (by decide) ?_
      refine j_iadd (pc := 150) X (v := (nI ((sD (payS (uM (uV s (tDel 5 (sV s) v)) (tSet 3 (tSet 3 (tSet 3 (sM s) (tGet 5 (sV s) v 1) 1 (tGet 3 (sM s) (tGet 5 (sV s) v 1) 1 - tGet 5 (sV s) v 3)) (tGet 5 (sV s) v 2) 1 (tGet 3 (tSet 3 (sM s) (tGet 5 (sV s) v 1) 1 (tGet 3 (sM s) (tGet 5 (sV s) v 1) 1 - tGet 5 (sV s) v 3)) (tGet 5 (sV s) v 2) 1 + (tGet 5 (sV s) v 3))) (tGet 5 (sV s) v 1) 2 (tGet 5 (sV s) v 0))) (tGet 5 (sV s) v 0) (5 + (2 * (tGet 5 (sV s) v 3))))) + 1))) dX1_closeMove_150 (nI_add _ _) ?_
      refine j_put (pc := 151) X (C := RX1) (T := TX1) (N := 9) wz_X1 tyX1 tyX1_ok nmX1 0 rfl rfl 6 (by decide) wf_X1_53 rfl rfl rfl (Nat.le_of_ble_eq_true rfl) (w' := (stW tA a (uD (payS (uM (uV s (tDel 5 (sV s) v)) (tSet 3 (tSet 3 (tSet 3 (sM s) (tGet 5 (sV s) v 1) 1 (tGet 3 (sM s) (tGet 5 (sV s) v 1) 1 - tGet 5 (sV s) v 3)) (tGet 5 (sV s) v 2) 1 (tGet 3 (tSet 3 (sM s) (tGet 5 (sV s) v 1) 1 (tGet 3 (sM s) (tGet 5 (sV s) v 1) 1 - tGet 5 (sV s) v 3)) (tGet 5 (sV s) v 2) 1 + (tGet 5 (sV s) v 3))) (tGet 5 (sV s) v 1) 2 (tGet 5 (sV s) v 0))) (tGet 5 (sV s) v 0) (5 + (2 * (tGet 5 (sV s) v 3)))) ((sD (payS (uM (uV s (tDel 5 (sV s) v)) (tSet 3 (tSet 3 (tSet 3 (sM s) (tGet 5 (sV s) v 1) 1 (tGet 3 (sM s) (tGet 5 (sV s) v 1) 1 - tGet 5 (sV s) v 3)) (tGet 5 (sV s) v 2) 1 (tGet 3 (tSet 3 (sM s) (tGet 5 (sV s) v 1) 1 (tGet 3 (sM s) (tGet 5 (sV s) v 1) 1 - tGet 5 (sV s) v 3)) (tGet 5 (sV s) v 2) 1 + (tGet 5 (sV s) v 3))) (tGet 5 (sV s) v 1) 2 (tGet 5 (sV s) v 0))) (tGet 5 (sV s) v 0) (5 + (2 * (tGet 5 (sV s) v 3))))) + 1)))) rfl dX1_closeMove_151 ?_
      exact j_endV (pc := 154) E dX1_closeMove_154 (congrArg (stW tA a) (by rw [clM, if_neg (by omega)] <;> rfl))
    · skip
      refine j_aload_n (pc := 82) X dX1_closeMove_82 rfl (q := 4) rfl ?_
      refine j_iload_n (pc := 83) X dX1_closeMove_83 rfl (q := 3) rfl ?_
      refine j_iconst (pc := 84) X (v := (nI 5)) dX1_closeMove_84 (by decide) ?_
      refine j_callV (pc := 85) X (st := []) (w' := (stW tA a (payS (uV s (tDel 5 (sV s) v)) (tGet 5 (sV s) v 0) 5))) (c_X1_pay l D tA a (uV s (tDel 5 (sV s) v)) (tGet 5 (sV s) v 0) 5 (show (sP s).1 ≤ 8 by omega) hv0) cd_X1_pay wm_X1_122 0 rfl rfl rfl [0, 1, 2, 3, 4, 5, 6, 7, 8, 9] rfl rfl (st_fst.trans st_fst.symm) rfl ⟨Nat.le_of_ble_eq_true rfl, Nat.le_of_ble_eq_true rfl⟩ ⟨Nat.zero_le _, Nat.zero_le _⟩ rfl (Nat.le_of_ble_eq_true rfl) dX1_closeMove_85 ?_
      refine j_aload_n (pc := 88) X dX1_closeMove_88 rfl (q := 4) rfl ?_
      refine j_dup (pc := 89) X dX1_closeMove_89 rfl ?_
      refine j_get (pc := 90) X (C := RX1) (T := TX1) (N := 9) wz_X1 0 rfl rfl 7 (by decide) wf_X1_56 rfl dX1_closeMove_90 ?_
      refine j_iconst (pc := 93) X (v := (nI 1)) dX1_closeMove_93 (by decide) ?_
      refine j_iadd (pc := 94) X (v := (nI ((sF (payS (uV s (tDel 5 (sV s) v)) (tGet 5 (sV s) v 0) 5)) + 1))) dX1_closeMove_94 (nI_add _ _) ?_
      refine j_put (pc := 95) X (C := RX1) (T := TX1) (N := 9) wz_X1 tyX1 tyX1_ok nmX1 0 rfl rfl 7 (by decide) wf_X1_56 rfl rfl rfl (Nat.le_of_ble_eq_true rfl) (w' := (stW tA a (uF (payS (uV s (tDel 5 (sV s) v)) (tGet 5 (sV s) v 0) 5) ((sF (payS (uV s (tDel 5 (sV s) v)) (tGet 5 (sV s) v 0) 5)) + 1)))) rfl dX1_closeMove_95 ?_
      exact j_endV (pc := 98) E dX1_closeMove_98 (congrArg (stW tA a) (by rw [clM, if_pos (Or.inr (by omega))] <;> rfl))
theorem cd_X1_closeMovesUpTo : kCardV yX1_closeMovesUpTo cX1_closeMovesUpTo 4 none 1 := ⟨⟨wc_X1_closeMovesUpTo, wi_X1, by decide +kernel, by decide +kernel, rfl⟩, wk_X1_closeMovesUpTo, ws_X1_closeMovesUpTo⟩
set_option maxHeartbeats 4000000 in
set_option maxRecDepth 100000 in
theorem c_X1_closeMovesUpTo (l : Launch) (D : va_G) (tA : Nat → ClassId) (a : Nat → Nat) (s : Sg) (h : Nat) (hw : Wf s) (hh : h < 65536) : Kx l D tA yX1_closeMovesUpTo cX1_closeMovesUpTo 4 none 4 94 [.ref (a 0), .int (nI h)] (stW tA a s) none (stW tA a (clo 10 s h)) := by
  refine kx_void rfl (Nat.le_of_ble_eq_true rfl) (fun G X E => ?_)
  show J l D G 0 0 (stW tA a s) [(0, .ref (a 0)), (1, .int (nI h))] 0 []
  refine j_iconst (pc := 0) X (v := (nI 0)) dX1_closeMovesUpTo_0 (by decide) ?_
  refine j_istore_n (pc := 1) X (lv' := [(2, .int (nI 0)), (0, .ref (a 0)), (1, .int (nI h))]) dX1_closeMovesUpTo_1 rfl (by decide) rfl ?_
  have L_2 : ∀ (fu : Nat) (i : Nat) (s2 : Sg), i ≤ 10 → clo (10 - i) s2 h = clo 10 s h → Wf s2 → 10 - i < fu → J l D G 0 0 (stW tA a s2) [(0, .ref (a 0)), (1, .int (nI h)), (2, .int (nI i))] 2 [] := by
    intro fu
    induction fu with
    | zero => intro i s2 hi hs hw2 hfu; exact absurd hfu (Nat.not_lt_zero _)
    | succ fu ih_2 =>
      intro i s2 hi hs hw2 hfu
      have hn := hw2.n
      refine j_iload_n (pc := 2) X dX1_closeMovesUpTo_2 rfl (q := 2) rfl ?_
      refine j_bipush (pc := 3) X (v := (nI 10)) dX1_closeMovesUpTo_3 (by decide) ?_
      refine j_icmp_ge (pc := 5) X (tgt := 32) (P := 10 ≤ i) dX1_closeMovesUpTo_5 (by decide) (nI_leI (by omega) (by omega)) (fun h5 => ?_) (fun h5 => ?_)
      · skip
        exact j_endV (pc := 32) E dX1_closeMovesUpTo_32 (congrArg (stW tA a) (by rw [← hs, show 10 - i = 0 by omega]; rfl))
      · skip
        refine j_aload_n (pc := 8) X dX1_closeMovesUpTo_8 rfl (q := 0) rfl ?_
        refine j_iload_n (pc := 9) X dX1_closeMovesUpTo_9 rfl (q := 1) rfl ?_
        refine j_callVR (pc := 10) X (st := [])  (c_X1_nextMoveUpTo l D tA a s2 h hw2 hh) cd_X1_nextMoveUpTo wm_X1_112 0 rfl rfl rfl [0, 1, 2, 3, 4, 5, 6, 7, 8, 9] rfl rfl ⟨Nat.le_of_ble_eq_true rfl, Nat.le_of_ble_eq_true rfl⟩ ⟨Nat.zero_le _, Nat.zero_le _⟩ rfl (Nat.le_of_ble_eq_true rfl) dX1_closeMovesUpTo_10 ?_
        refine j_istore_n (pc := 13) X (lv' := [(3, .int (rO (nxt (sV s2) h))), (0, .ref (a 0)), (1, .int (nI h)), (2, .int (nI i))]) dX1_closeMovesUpTo_13 rfl (by decide) rfl ?_
        refine j_iload_n (pc := 14) X dX1_closeMovesUpTo_14 rfl (q := 0) rfl ?_
        refine j_bipush (pc := 15) X (v := (-5)) dX1_closeMovesUpTo_15 (by decide) ?_
        refine j_icmp_ne (pc := 17) X (tgt := 21) (P := ¬ (nxt (sV s2) h) = none) dX1_closeMovesUpTo_17 (by decide) (not_congr (rO_none (fun b e => by have := nxt_lt e; omega))) (fun h17 => ?_) (fun h17 => ?_)
        · skip
          obtain ⟨v, hv⟩ := Option.ne_none_iff_exists'.mp h17
          rw [show rO (nxt (sV s2) h) = nI v from by rw [hv]; rfl]
          refine j_aload_n (pc := 21) X dX1_closeMovesUpTo_21 rfl (q := 1) rfl ?_
          refine j_iload_n (pc := 22) X dX1_closeMovesUpTo_22 rfl (q := 0) rfl ?_
          refine j_callV (pc := 23) X (st := []) (w' := (stW tA a (clM s2 v))) (c_X1_closeMove l D tA a s2 v hw2 (nxt_lt hv)) cd_X1_closeMove wm_X1_115 0 rfl rfl rfl [0, 1, 2, 3, 4, 5, 6, 7, 8, 9] rfl rfl (st_fst.trans st_fst.symm) rfl ⟨Nat.le_of_ble_eq_true rfl, Nat.le_of_ble_eq_true rfl⟩ ⟨Nat.zero_le _, Nat.zero_le _⟩ rfl (Nat.le_of_ble_eq_true rfl) dX1_closeMovesUpTo_23 ?_
          refine j_iinc (pc := 26) X (v := (nI (i + 1))) (lv' := [(2, .int (nI (i + 1))), (3, .int (nI v)), (0, .ref (a 0)), (1, .int (nI h))]) dX1_closeMovesUpTo_26 (q := 3) rfl (nI_add _ _) (by decide) rfl ?_
          refine j_goto (pc := 29) X (tgt := 2) dX1_closeMovesUpTo_29 (by decide) ?_
          refine j_lv X (lv' := [(0, .ref (a 0)), (1, .int (nI h)), (2, .int (nI (i + 1)))]) [2, 3, 0] rfl ?_
          exact ih_2 (i + 1) (clM s2 v) (by omega) (by rw [← hs, show 10 - i = (10 - (i + 1)) + 1 by omega, clo_some hv]) (hw2.xclM (nxt_lt hv)) (by omega)
        · skip
          exact j_endV (pc := 20) E dX1_closeMovesUpTo_20 (congrArg (stW tA a) (by rw [← hs, clo_none (Decidable.not_not.mp h17)]))
  refine j_lv X (lv' := [(0, .ref (a 0)), (1, .int (nI h)), (2, .int (nI 0))]) [1, 2, 0] rfl ?_
  exact L_2 _ 0 s (by omega) rfl hw (Nat.lt_succ_self _)
theorem cd_X1_lift : kCardV yX1_lift cX1_lift 2 none 1 := ⟨⟨wc_X1_lift, wi_X1, by decide +kernel, by decide +kernel, rfl⟩, wk_X1_lift, ws_X1_lift⟩
set_option maxHeartbeats 4000000 in
set_option maxRecDepth 100000 in
theorem c_X1_lift (l : Launch) (D : va_G) (tA : Nat → ClassId) (a : Nat → Nat) (s : Sg) (b : Nat) (hw : Wf s) (hb : b < (sB s).1) : Kx l D tA yX1_lift cX1_lift 2 none 3 69 [.ref (a 0), .int (nI b)] (stW tA a s) none (stW tA a (lftS s b)) := by
  refine kx_void rfl (Nat.le_of_ble_eq_true rfl) (fun G X E => ?_)
  show J l D G 0 0 (stW tA a s) [(0, .ref (a 0)), (1, .int (nI b))] 0 []
  have hn := hw.n
  have hb0 := hw.b hb
  refine j_aload_n (pc := 0) X dX1_lift_0 rfl (q := 0) rfl ?_
  refine j_get (pc := 1) X (C := RX1) (T := TX1) (N := 9) wz_X1 0 rfl rfl 2 (by decide) wf_X1_23 rfl dX1_lift_1 ?_
  refine j_iload_n (pc := 4) X dX1_lift_4 rfl (q := 1) rfl ?_
  refine j_iconst (pc := 5) X (v := (nI 5)) dX1_lift_5 (by decide) ?_
  refine j_iconst (pc := 6) X (v := (nI 1)) dX1_lift_6 (by decide) ?_
  refine j_callV (pc := 7) X (st := []) (w' := (stW tA a (uB s (tSet 8 (sB s) b 5 1)))) (c_X2_set l D tA (a 3) (a 8) 30 8 (sB s) b 5 1 (by decide) (by decide) (show (sB s).1 ≤ 30 by omega) (show b < (sB s).1 by omega) (by decide) (by decide)) cd_X2_set wm_X1_82 6 rfl rfl rfl [6, 7] rfl rfl (tb_fst.trans tb_fst.symm) rfl ⟨Nat.le_of_ble_eq_true rfl, Nat.le_of_ble_eq_true rfl⟩ ⟨Nat.zero_le _, Nat.zero_le _⟩ rfl (Nat.le_of_ble_eq_true rfl) dX1_lift_7 ?_
  refine j_aload_n (pc := 10) X dX1_lift_10 rfl (q := 0) rfl ?_
  refine j_aload_n (pc := 11) X dX1_lift_11 rfl (q := 0) rfl ?_
  refine j_get (pc := 12) X (C := RX1) (T := TX1) (N := 9) wz_X1 0 rfl rfl 2 (by decide) wf_X1_23 rfl dX1_lift_12 ?_
  refine j_iload_n (pc := 15) X dX1_lift_15 rfl (q := 1) rfl ?_
  refine j_iconst (pc := 16) X (v := (nI 0)) dX1_lift_16 (by decide) ?_
  refine j_callVR (pc := 17) X (st := [.ref (a 0)])  (c_X2_get l D tA (a 3) (a 8) 30 8 (tSet 8 (sB s) b 5 1) b 0 (by decide) (by decide) (show (sB s).1 ≤ 30 by omega) (show b < (sB s).1 by omega) (by decide) (by decide)) cd_X2_get wm_X1_70 6 rfl rfl rfl [6, 7] rfl rfl ⟨Nat.le_of_ble_eq_true rfl, Nat.le_of_ble_eq_true rfl⟩ ⟨Nat.zero_le _, Nat.zero_le _⟩ rfl (Nat.le_of_ble_eq_true rfl) dX1_lift_17 ?_
  refine j_bipush (pc := 20) X (v := (nI 30)) dX1_lift_20 (by decide) ?_
  refine j_callV (pc := 22) X (st := []) (w' := (stW tA a (payS (uB s (tSet 8 (sB s) b 5 1)) (tGet 8 (tSet 8 (sB s) b 5 1) b 0) 30))) (c_X1_pay l D tA a (uB s (tSet 8 (sB s) b 5 1)) (tGet 8 (tSet 8 (sB s) b 5 1) b 0) 30 (show (sP s).1 ≤ 8 by omega) (show tGet 8 (tSet 8 (sB s) b 5 1) b 0 < (sP s).1 by rw [get_set_c (by decide) (by decide) (by decide)]; omega)) cd_X1_pay wm_X1_122 0 rfl rfl rfl [0, 1, 2, 3, 4, 5, 6, 7, 8, 9] rfl rfl (st_fst.trans st_fst.symm) rfl ⟨Nat.le_of_ble_eq_true rfl, Nat.le_of_ble_eq_true rfl⟩ ⟨Nat.zero_le _, Nat.zero_le _⟩ rfl (Nat.le_of_ble_eq_true rfl) dX1_lift_22 ?_
  exact j_endV (pc := 25) E dX1_lift_25 rfl
theorem cd_X1_carryOver : kCardV yX1_carryOver cX1_carryOver 5 none 1 := ⟨⟨wc_X1_carryOver, wi_X1, by decide +kernel, by decide +kernel, rfl⟩, wk_X1_carryOver, ws_X1_carryOver⟩
set_option maxHeartbeats 4000000 in
set_option maxRecDepth 100000 in
theorem c_X1_carryOver (l : Launch) (D : va_G) (tA : Nat → ClassId) (a : Nat → Nat) (s : Sg) (b : Nat) (hw : Wf s) (hb : b < (sB s).1) : Kx l D tA yX1_carryOver cX1_carryOver 5 none 2 47 [.ref (a 0), .int (nI b)] (stW tA a s) none (stW tA a (cryS s b)) := by
  refine kx_void rfl (Nat.le_of_ble_eq_true rfl) (fun G X E => ?_)
  show J l D G 0 0 (stW tA a s) [(0, .ref (a 0)), (1, .int (nI b))] 0 []
  have hn := hw.n
  have hb0 := hw.b hb
  have hmm : min (sN s + 9) 199 ≤ 199 := Nat.min_le_right _ _
  refine j_aload_n (pc := 0) X dX1_carryOver_0 rfl (q := 0) rfl ?_
  refine j_get (pc := 1) X (C := RX1) (T := TX1) (N := 9) wz_X1 0 rfl rfl 2 (by decide) wf_X1_23 rfl dX1_carryOver_1 ?_
  refine j_iload_n (pc := 4) X dX1_carryOver_4 rfl (q := 1) rfl ?_
  refine j_iconst (pc := 5) X (v := (nI 1)) dX1_carryOver_5 (by decide) ?_
  refine j_callVR (pc := 6) X (st := [])  (c_X2_get l D tA (a 3) (a 8) 30 8 (sB s) b 1 (by first | assumption | omega | decide) (by first | assumption | omega | decide) (by first | assumption | omega | decide) (by first | assumption | omega | decide) (by first | assumption | omega | decide) (by first | assumption | omega | decide)) cd_X2_get wm_X1_70 6 rfl rfl rfl [6, 7] rfl rfl ⟨Nat.le_of_ble_eq_true rfl, Nat.le_of_ble_eq_true rfl⟩ ⟨Nat.zero_le _, Nat.zero_le _⟩ rfl (Nat.le_of_ble_eq_true rfl) dX1_carryOver_6 ?_
  refine j_istore_n (pc := 9) X (lv' := [(2, .int (nI (tGet 8 (sB s) b 1))), (0, .ref (a 0)), (1, .int (nI b))]) dX1_carryOver_9 rfl (by decide) rfl ?_
  refine j_aload_n (pc := 10) X dX1_carryOver_10 rfl (q := 1) rfl ?_
  refine j_get (pc := 11) X (C := RX1) (T := TX1) (N := 9) wz_X1 0 rfl rfl 5 (by decide) wf_X1_49 rfl dX1_carryOver_11 ?_
  refine j_bipush (pc := 14) X (v := (nI 9)) dX1_carryOver_14 (by decide) ?_
  refine j_iadd (pc := 16) X (v := (nI ((sN s) + 9))) dX1_carryOver_16 (nI_add _ _) ?_
  refine j_sipush (pc := 17) X (v := (nI 199)) dX1_carryOver_17 (by decide) ?_
  refine j_mmin (pc := 20) X wm_X1_37 (Nat.le_of_ble_eq_true rfl) (Nat.le_of_ble_eq_true rfl) ⟨Nat.zero_le _, Nat.zero_le _⟩ (v := (nI (min ((sN s) + 9) 199))) (nI_min (by omega) (by omega)) dX1_carryOver_20 ?_
  refine j_istore_n (pc := 23) X (lv' := [(3, .int (nI (min ((sN s) + 9) 199))), (2, .int (nI (tGet 8 (sB s) b 1))), (0, .ref (a 0)), (1, .int (nI b))]) dX1_carryOver_23 rfl (by decide) rfl ?_
  refine j_aload_n (pc := 24) X dX1_carryOver_24 rfl (q := 2) rfl ?_
  refine j_get (pc := 25) X (C := RX1) (T := TX1) (N := 9) wz_X1 0 rfl rfl 5 (by decide) wf_X1_49 rfl dX1_carryOver_25 ?_
  refine j_iconst (pc := 28) X (v := (nI 1)) dX1_carryOver_28 (by decide) ?_
  refine j_iadd (pc := 29) X (v := (nI ((sN s) + 1))) dX1_carryOver_29 (nI_add _ _) ?_
  refine j_istore (pc := 30) X (lv' := [(4, .int (nI ((sN s) + 1))), (3, .int (nI (min ((sN s) + 9) 199))), (2, .int (nI (tGet 8 (sB s) b 1))), (0, .ref (a 0)), (1, .int (nI b))]) dX1_carryOver_30 (by decide) rfl ?_
  have L_32 : ∀ (fu : Nat) (x : Nat), sN s + 1 ≤ x → x ≤ min (sN s + 9) 199 + 1 → fre (sB s) (tGet 8 (sB s) b 1) (min (sN s + 9) 199 + 1 - x) x = fre (sB s) (tGet 8 (sB s) b 1) (min (sN s + 9) 199 - sN s) (sN s + 1) → min (sN s + 9) 199 + 1 - x < fu → J l D G 0 0 (stW tA a s) [(0, .ref (a 0)), (1, .int (nI b)), (2, .int (nI (tGet 8 (sB s) b 1))), (3, .int (nI (min (sN s + 9) 199))), (4, .int (nI x))] 32 [] := by
    intro fu
    induction fu with
    | zero => intro x hx1 hx2 hk hfu; exact absurd hfu (Nat.not_lt_zero _)
    | succ fu ih_32 =>
      intro x hx1 hx2 hk hfu
      refine j_iload (pc := 32) X dX1_carryOver_32 (q := 4) rfl ?_
      refine j_iload_n (pc := 34) X dX1_carryOver_34 rfl (q := 3) rfl ?_
      refine j_icmp_gt (pc := 35) X (tgt := 65) (P := (min (sN s + 9) 199) < x) dX1_carryOver_35 (by decide) (nI_ltI (by omega) (by omega)) (fun h35 => ?_) (fun h35 => ?_)
      · skip
        refine j_aload_n (pc := 65) X dX1_carryOver_65 rfl (q := 0) rfl ?_
        refine j_get (pc := 66) X (C := RX1) (T := TX1) (N := 9) wz_X1 0 rfl rfl 2 (by decide) wf_X1_23 rfl dX1_carryOver_66 ?_
        refine j_iload_n (pc := 69) X dX1_carryOver_69 rfl (q := 1) rfl ?_
        refine j_iconst (pc := 70) X (v := (nI 5)) dX1_carryOver_70 (by decide) ?_
        refine j_iconst (pc := 71) X (v := (nI 2)) dX1_carryOver_71 (by decide) ?_
        refine j_callV (pc := 72) X (st := []) (w' := (stW tA a (uB s (tSet 8 (sB s) b 5 2)))) (c_X2_set l D tA (a 3) (a 8) 30 8 (sB s) b 5 2 (by first | assumption | omega | decide) (by first | assumption | omega | decide) (by first | assumption | omega | decide) (by first | assumption | omega | decide) (by first | assumption | omega | decide) (by first | assumption | omega | decide)) cd_X2_set wm_X1_82 6 rfl rfl rfl [6, 7] rfl rfl (tb_fst.trans tb_fst.symm) rfl ⟨Nat.le_of_ble_eq_true rfl, Nat.le_of_ble_eq_true rfl⟩ ⟨Nat.zero_le _, Nat.zero_le _⟩ rfl (Nat.le_of_ble_eq_true rfl) dX1_carryOver_72 ?_
        exact j_endV (pc := 75) E dX1_carryOver_75 (congrArg (stW tA a) (by rw [cryS, ← hk, show min (sN s + 9) 199 + 1 - x = 0 by omega]; rfl))
      · skip
        refine j_aload_n (pc := 38) X dX1_carryOver_38 rfl (q := 0) rfl ?_
        refine j_iload_n (pc := 39) X dX1_carryOver_39 rfl (q := 2) rfl ?_
        refine j_iload (pc := 40) X dX1_carryOver_40 (q := 4) rfl ?_
        refine j_callVR (pc := 42) X (st := [])  (c_X1_bookingFor l D tA a s (tGet 8 (sB s) b 1) x hw (by omega) (by omega)) cd_X1_bookingFor wm_X1_92 0 rfl rfl rfl [0, 1, 2, 3, 4, 5, 6, 7, 8, 9] rfl rfl ⟨Nat.le_of_ble_eq_true rfl, Nat.le_of_ble_eq_true rfl⟩ ⟨Nat.zero_le _, Nat.zero_le _⟩ rfl (Nat.le_of_ble_eq_true rfl) dX1_carryOver_42 ?_
        refine j_bipush (pc := 45) X (v := (-5)) dX1_carryOver_45 (by decide) ?_
        refine j_icmp_ne (pc := 47) X (tgt := 59) (P := ¬ (bkF (sB s) (tGet 8 (sB s) b 1) x) = none) dX1_carryOver_47 (by decide) (not_congr (rO_none (fun b e => by have := bkF_lt e; omega))) (fun h47 => ?_) (fun h47 => ?_)
        · skip
          refine j_iinc (pc := 59) X (v := (nI (x + 1))) (lv' := [(4, .int (nI (x + 1))), (0, .ref (a 0)), (1, .int (nI b)), (2, .int (nI (tGet 8 (sB s) b 1))), (3, .int (nI (min (sN s + 9) 199)))]) dX1_carryOver_59 (q := 4) rfl (nI_add _ _) (by decide) rfl ?_
          refine j_goto (pc := 62) X (tgt := 32) dX1_carryOver_62 (by decide) ?_
          refine j_lv X (lv' := [(0, .ref (a 0)), (1, .int (nI b)), (2, .int (nI (tGet 8 (sB s) b 1))), (3, .int (nI (min (sN s + 9) 199))), (4, .int (nI (x + 1)))]) [1, 2, 3, 4, 0] rfl ?_
          exact ih_32 (x + 1) (by omega) (by omega) (by rw [← hk, show min (sN s + 9) 199 + 1 - x = (min (sN s + 9) 199 + 1 - (x + 1)) + 1 by omega, fre, if_neg h47]) (by omega)
        · skip
          refine j_aload_n (pc := 50) X dX1_carryOver_50 rfl (q := 0) rfl ?_
          refine j_iload_n (pc := 51) X dX1_carryOver_51 rfl (q := 1) rfl ?_
          refine j_iload_n (pc := 52) X dX1_carryOver_52 rfl (q := 2) rfl ?_
          refine j_iload (pc := 53) X dX1_carryOver_53 (q := 4) rfl ?_
          refine j_callV (pc := 55) X (st := []) (w' := (stW tA a (placeS s b (tGet 8 (sB s) b 1) x))) (c_X1_place l D tA a s b (tGet 8 (sB s) b 1) x (show (sB s).1 ≤ 30 by omega) hb (by omega)) cd_X1_place wm_X1_146 0 rfl rfl rfl [0, 1, 2, 3, 4, 5, 6, 7, 8, 9] rfl rfl (st_fst.trans st_fst.symm) rfl ⟨Nat.le_of_ble_eq_true rfl, Nat.le_of_ble_eq_true rfl⟩ ⟨Nat.zero_le _, Nat.zero_le _⟩ rfl (Nat.le_of_ble_eq_true rfl) dX1_carryOver_55 ?_
          exact j_endV (pc := 58) E dX1_carryOver_58 (congrArg (stW tA a) (by rw [cryS, ← hk, show min (sN s + 9) 199 + 1 - x = (min (sN s + 9) 199 + 1 - (x + 1)) + 1 by omega, fre, if_pos (Decidable.not_not.mp h47)]))
  refine j_lv X (lv' := [(0, .ref (a 0)), (1, .int (nI b)), (2, .int (nI (tGet 8 (sB s) b 1))), (3, .int (nI (min ((sN s) + 9) 199))), (4, .int (nI ((sN s) + 1)))]) [3, 4, 2, 1, 0] rfl ?_
  exact L_32 _ (sN s + 1) (Nat.le_refl _) (by omega) (by congr 1; omega) (Nat.lt_succ_self _)
theorem cd_X1_standBy : kCardV yX1_standBy cX1_standBy 3 none 1 := ⟨⟨wc_X1_standBy, wi_X1, by decide +kernel, by decide +kernel, rfl⟩, wk_X1_standBy, ws_X1_standBy⟩
set_option maxHeartbeats 4000000 in
set_option maxRecDepth 100000 in
theorem c_X1_standBy (l : Launch) (D : va_G) (tA : Nat → ClassId) (a : Nat → Nat) (s : Sg) (b : Nat) (hw : Wf s) (hb : b < (sB s).1) : Kx l D tA yX1_standBy cX1_standBy 3 none 4 93 [.ref (a 0), .int (nI b)] (stW tA a s) none (stW tA a (stbS s b)) := by
  refine kx_void rfl (Nat.le_of_ble_eq_true rfl) (fun G X E => ?_)
  show J l D G 0 0 (stW tA a s) [(0, .ref (a 0)), (1, .int (nI b))] 0 []
  have hn := hw.n
  have hb0 := hw.b hb
  have hcB := cau_B s b
  have hcw : Wf (cauS s b) := hw.cau
  refine j_aload_n (pc := 0) X dX1_standBy_0 rfl (q := 0) rfl ?_
  refine j_iload_n (pc := 1) X dX1_standBy_1 rfl (q := 1) rfl ?_
  refine j_callVR (pc := 2) X (st := [])  (c_X1_causerOf l D tA a s b (by first | assumption | omega | decide) (by first | assumption | omega | decide)) cd_X1_causerOf wm_X1_140 0 rfl rfl rfl [0, 1, 2, 3, 4, 5, 6, 7, 8, 9] rfl rfl ⟨Nat.le_of_ble_eq_true rfl, Nat.le_of_ble_eq_true rfl⟩ ⟨Nat.zero_le _, Nat.zero_le _⟩ rfl (Nat.le_of_ble_eq_true rfl) dX1_standBy_2 ?_
  refine j_istore_n (pc := 5) X (lv' := [(2, .int (rO (caus s b))), (0, .ref (a 0)), (1, .int (nI b))]) dX1_standBy_5 rfl (by decide) rfl ?_
  refine j_iload_n (pc := 6) X dX1_standBy_6 rfl (q := 0) rfl ?_
  refine j_bipush (pc := 7) X (v := (-5)) dX1_standBy_7 (by decide) ?_
  refine j_icmp_ne (pc := 9) X (tgt := 25) (P := ¬ (caus s b) = none) dX1_standBy_9 (by decide) (not_congr (rO_none (fun p e => by have := caus_lt hw hb e; omega))) (fun h9 => ?_) (fun h9 => ?_)
  · skip
    obtain ⟨p, hp⟩ := Option.ne_none_iff_exists'.mp h9
    rw [show rO (caus s b) = nI p from by rw [hp]; rfl]
    have hpl := caus_lt hw hb hp
    refine j_aload_n (pc := 25) X dX1_standBy_25 rfl (q := 1) rfl ?_
    refine j_get (pc := 26) X (C := RX1) (T := TX1) (N := 9) wz_X1 0 rfl rfl 1 (by decide) wf_X1_20 rfl dX1_standBy_26 ?_
    refine j_iload_n (pc := 29) X dX1_standBy_29 rfl (q := 0) rfl ?_
    refine j_iconst (pc := 30) X (v := (nI 1)) dX1_standBy_30 (by decide) ?_
    refine j_iconst (pc := 31) X (v := (nI 1)) dX1_standBy_31 (by decide) ?_
    refine j_callV (pc := 32) X (st := []) (w' := (stW tA a (uP s (tSet 2 (sP s) p 1 (tGet 2 (sP s) p 1 + 1))))) (c_X2_increase l D tA (a 2) (a 7) 8 2 (sP s) p 1 (nI 1) (tGet 2 (sP s) p 1 + 1) (by first | assumption | omega | decide) (by first | assumption | omega | decide) (by first | assumption | omega | decide) (by first | assumption | omega | decide) (by first | assumption | omega | decide) (by first | assumption | omega | decide) (nI_add _ _)) cd_X2_increase wm_X1_95 4 rfl rfl rfl [4, 5] rfl rfl (tb_fst.trans tb_fst.symm) rfl ⟨Nat.le_of_ble_eq_true rfl, Nat.le_of_ble_eq_true rfl⟩ ⟨Nat.zero_le _, Nat.zero_le _⟩ rfl (Nat.le_of_ble_eq_true rfl) dX1_standBy_32 ?_
    refine j_aload_n (pc := 35) X dX1_standBy_35 rfl (q := 1) rfl ?_
    refine j_iload_n (pc := 36) X dX1_standBy_36 rfl (q := 0) rfl ?_
    refine j_bipush (pc := 37) X (v := (nI 8)) dX1_standBy_37 (by decide) ?_
    refine j_callV (pc := 39) X (st := []) (w' := (stW tA a (payS (uP s (tSet 2 (sP s) p 1 (tGet 2 (sP s) p 1 + 1))) p 8))) (c_X1_pay l D tA a (uP s (tSet 2 (sP s) p 1 (tGet 2 (sP s) p 1 + 1))) p 8 (show (sP s).1 ≤ 8 by omega) (show p < (sP s).1 from hpl)) cd_X1_pay wm_X1_122 0 rfl rfl rfl [0, 1, 2, 3, 4, 5, 6, 7, 8, 9] rfl rfl (st_fst.trans st_fst.symm) rfl ⟨Nat.le_of_ble_eq_true rfl, Nat.le_of_ble_eq_true rfl⟩ ⟨Nat.zero_le _, Nat.zero_le _⟩ rfl (Nat.le_of_ble_eq_true rfl) dX1_standBy_39 ?_
    rw [show payS (uP s (tSet 2 (sP s) p 1 (tGet 2 (sP s) p 1 + 1))) p 8 = cauS s b from by rw [cauS, hp]]
    refine j_aload_n (pc := 42) X dX1_standBy_42 rfl (q := 1) rfl ?_
    refine j_get (pc := 43) X (C := RX1) (T := TX1) (N := 9) wz_X1 0 rfl rfl 2 (by decide) wf_X1_23 rfl dX1_standBy_43 ?_
    refine j_iload_n (pc := 46) X dX1_standBy_46 rfl (q := 2) rfl ?_
    refine j_bipush (pc := 47) X (v := (nI 7)) dX1_standBy_47 (by decide) ?_
    refine j_iconst (pc := 49) X (v := (nI 1)) dX1_standBy_49 (by decide) ?_
    refine j_callV (pc := 50) X (st := []) (w' := (stW tA a (uB (cauS s b) (tSet 8 (sB (cauS s b)) b 7 (tGet 8 (sB (cauS s b)) b 7 + 1))))) (c_X2_increase l D tA (a 3) (a 8) 30 8 (sB (cauS s b)) b 7 (nI 1) (tGet 8 (sB (cauS s b)) b 7 + 1) (by decide) (by decide) (show (sB (cauS s b)).1 ≤ 30 by rw [hcB.1]; omega) (show b < (sB (cauS s b)).1 by rw [hcB.1]; exact hb) (by decide) (by decide) (nI_add _ _)) cd_X2_increase wm_X1_95 6 rfl rfl rfl [6, 7] rfl rfl (tb_fst.trans tb_fst.symm) rfl ⟨Nat.le_of_ble_eq_true rfl, Nat.le_of_ble_eq_true rfl⟩ ⟨Nat.zero_le _, Nat.zero_le _⟩ rfl (Nat.le_of_ble_eq_true rfl) dX1_standBy_50 ?_
    refine j_aload_n (pc := 53) X dX1_standBy_53 rfl (q := 1) rfl ?_
    refine j_iload_n (pc := 54) X dX1_standBy_54 rfl (q := 2) rfl ?_
    refine j_callV (pc := 55) X (st := []) (w' := (stW tA a (cryS (uB (cauS s b) (tSet 8 (sB (cauS s b)) b 7 (tGet 8 (sB (cauS s b)) b 7 + 1))) b))) (c_X1_carryOver l D tA a (uB (cauS s b) (tSet 8 (sB (cauS s b)) b 7 (tGet 8 (sB (cauS s b)) b 7 + 1))) b (Wf.inc hcw) (show b < (sB (cauS s b)).1 by rw [hcB.1]; exact hb)) cd_X1_carryOver wm_X1_143 0 rfl rfl rfl [0, 1, 2, 3, 4, 5, 6, 7, 8, 9] rfl rfl (st_fst.trans st_fst.symm) rfl ⟨Nat.le_of_ble_eq_true rfl, Nat.le_of_ble_eq_true rfl⟩ ⟨Nat.zero_le _, Nat.zero_le _⟩ rfl (Nat.le_of_ble_eq_true rfl) dX1_standBy_55 ?_
    exact j_endV (pc := 58) E dX1_standBy_58 rfl
  · skip
    refine j_aload_n (pc := 12) X dX1_standBy_12 rfl (q := 1) rfl ?_
    refine j_dup (pc := 13) X dX1_standBy_13 rfl ?_
    refine j_get (pc := 14) X (C := RX1) (T := TX1) (N := 9) wz_X1 0 rfl rfl 8 (by decide) wf_X1_59 rfl dX1_standBy_14 ?_
    refine j_iconst (pc := 17) X (v := (nI 1)) dX1_standBy_17 (by decide) ?_
    refine j_iadd (pc := 18) X (v := (nI ((sX s) + 1))) dX1_standBy_18 (nI_add _ _) ?_
    refine j_put (pc := 19) X (C := RX1) (T := TX1) (N := 9) wz_X1 tyX1 tyX1_ok nmX1 0 rfl rfl 8 (by decide) wf_X1_59 rfl rfl rfl (Nat.le_of_ble_eq_true rfl) (w' := (stW tA a (uX s ((sX s) + 1)))) rfl dX1_standBy_19 ?_
    refine j_goto (pc := 22) X (tgt := 42) dX1_standBy_22 (by decide) ?_
    rw [show uX s (sX s + 1) = cauS s b from by rw [cauS, Decidable.not_not.mp h9]]
    refine j_aload_n (pc := 42) X dX1_standBy_42 rfl (q := 1) rfl ?_
    refine j_get (pc := 43) X (C := RX1) (T := TX1) (N := 9) wz_X1 0 rfl rfl 2 (by decide) wf_X1_23 rfl dX1_standBy_43 ?_
    refine j_iload_n (pc := 46) X dX1_standBy_46 rfl (q := 2) rfl ?_
    refine j_bipush (pc := 47) X (v := (nI 7)) dX1_standBy_47 (by decide) ?_
    refine j_iconst (pc := 49) X (v := (nI 1)) dX1_standBy_49 (by decide) ?_
    refine j_callV (pc := 50) X (st := []) (w' := (stW tA a (uB (cauS s b) (tSet 8 (sB (cauS s b)) b 7 (tGet 8 (sB (cauS s b)) b 7 + 1))))) (c_X2_increase l D tA (a 3) (a 8) 30 8 (sB (cauS s b)) b 7 (nI 1) (tGet 8 (sB (cauS s b)) b 7 + 1) (by decide) (by decide) (show (sB (cauS s b)).1 ≤ 30 by rw [hcB.1]; omega) (show b < (sB (cauS s b)).1 by rw [hcB.1]; exact hb) (by decide) (by decide) (nI_add _ _)) cd_X2_increase wm_X1_95 6 rfl rfl rfl [6, 7] rfl rfl (tb_fst.trans tb_fst.symm) rfl ⟨Nat.le_of_ble_eq_true rfl, Nat.le_of_ble_eq_true rfl⟩ ⟨Nat.zero_le _, Nat.zero_le _⟩ rfl (Nat.le_of_ble_eq_true rfl) dX1_standBy_50 ?_
    refine j_aload_n (pc := 53) X dX1_standBy_53 rfl (q := 1) rfl ?_
    refine j_iload_n (pc := 54) X dX1_standBy_54 rfl (q := 2) rfl ?_
    refine j_callV (pc := 55) X (st := []) (w' := (stW tA a (cryS (uB (cauS s b) (tSet 8 (sB (cauS s b)) b 7 (tGet 8 (sB (cauS s b)) b 7 + 1))) b))) (c_X1_carryOver l D tA a (uB (cauS s b) (tSet 8 (sB (cauS s b)) b 7 (tGet 8 (sB (cauS s b)) b 7 + 1))) b (Wf.inc hcw) (show b < (sB (cauS s b)).1 by rw [hcB.1]; exact hb)) cd_X1_carryOver wm_X1_143 0 rfl rfl rfl [0, 1, 2, 3, 4, 5, 6, 7, 8, 9] rfl rfl (st_fst.trans st_fst.symm) rfl ⟨Nat.le_of_ble_eq_true rfl, Nat.le_of_ble_eq_true rfl⟩ ⟨Nat.zero_le _, Nat.zero_le _⟩ rfl (Nat.le_of_ble_eq_true rfl) dX1_standBy_55 ?_
    exact j_endV (pc := 58) E dX1_standBy_58 rfl
theorem stp_skip {s2 : Sg} {k i : Nat} (h : ¬ (tGet 8 (sB s2) i 5 = 0 ∧ tGet 8 (sB s2) i 2 = sN s2)) : stpB (s2, k) i = (s2, k) := by
  unfold stpB; exact if_neg h
theorem stp_stb {s2 : Sg} {k i : Nat} (h : tGet 8 (sB s2) i 5 = 0 ∧ tGet 8 (sB s2) i 2 = sN s2) (hm : must s2 i = true) : stpB (s2, k) i = (stbS s2 i, k) := by
  unfold stpB; rw [if_pos h, if_pos hm]
theorem stp_lft {s2 : Sg} {k i : Nat} (h : tGet 8 (sB s2) i 5 = 0 ∧ tGet 8 (sB s2) i 2 = sN s2) (hm : ¬ must s2 i = true) : stpB (s2, k) i = (lftS s2 i, k + 1) := by
  unfold stpB; rw [if_pos h, if_neg hm]
theorem cd_X1_passHalfDay : kCardV yX1_passHalfDay cX1_passHalfDay 3 (some .int) 0 := ⟨⟨wc_X1_passHalfDay, wi_X1, by decide +kernel, by decide +kernel, rfl⟩, wk_X1_passHalfDay, ws_X1_passHalfDay⟩
set_option maxHeartbeats 4000000 in
set_option maxRecDepth 100000 in
theorem c_X1_passHalfDay (l : Launch) (D : va_G) (tA : Nat → ClassId) (a : Nat → Nat) (s : Sg)  (hw : Wf s) : Kx l D tA yX1_passHalfDay cX1_passHalfDay 3 (some .int) 5 117 [.ref (a 0)] (stW tA a s) (some (.int (nI ((psH s).2)))) (stW tA a ((psH s).1)) := by
  refine kx_int rfl (Nat.le_of_ble_eq_true rfl) (fun G X E => ?_)
  show J l D G 0 0 (stW tA a s) [(0, .ref (a 0))] 0 []
  have hn := hw.n
  have hw1 : Wf (clo 10 s (sN s)) := Wf.xclo 10 hw (sN s)
  have hn1 := hw1.n
  refine j_aload_n (pc := 0) X dX1_passHalfDay_0 rfl (q := 0) rfl ?_
  refine j_aload_n (pc := 1) X dX1_passHalfDay_1 rfl (q := 0) rfl ?_
  refine j_get (pc := 2) X (C := RX1) (T := TX1) (N := 9) wz_X1 0 rfl rfl 5 (by decide) wf_X1_49 rfl dX1_passHalfDay_2 ?_
  refine j_callV (pc := 5) X (st := []) (w' := (stW tA a (clo 10 s (sN s)))) (c_X1_closeMovesUpTo l D tA a s (sN s) (by first | assumption | omega | decide) (by first | assumption | omega | decide)) cd_X1_closeMovesUpTo wm_X1_125 0 rfl rfl rfl [0, 1, 2, 3, 4, 5, 6, 7, 8, 9] rfl rfl (st_fst.trans st_fst.symm) rfl ⟨Nat.le_of_ble_eq_true rfl, Nat.le_of_ble_eq_true rfl⟩ ⟨Nat.zero_le _, Nat.zero_le _⟩ rfl (Nat.le_of_ble_eq_true rfl) dX1_passHalfDay_5 ?_
  refine j_iconst (pc := 8) X (v := (nI 0)) dX1_passHalfDay_8 (by decide) ?_
  refine j_istore_n (pc := 9) X (lv' := [(1, .int (nI 0)), (0, .ref (a 0))]) dX1_passHalfDay_9 rfl (by decide) rfl ?_
  refine j_iconst (pc := 10) X (v := (nI 0)) dX1_passHalfDay_10 (by decide) ?_
  refine j_istore_n (pc := 11) X (lv' := [(2, .int (nI 0)), (1, .int (nI 0)), (0, .ref (a 0))]) dX1_passHalfDay_11 rfl (by decide) rfl ?_
  have L_12 : ∀ (fu : Nat) (i : Nat) (s2 : Sg) (k : Nat), i ≤ (sB (clo 10 s (sN s))).1 → (s2, k) = psB i (clo 10 s (sN s)) → (sB (clo 10 s (sN s))).1 - i < fu → J l D G 0 0 (stW tA a s2) [(0, .ref (a 0)), (1, .int (nI k)), (2, .int (nI i))] 12 [] := by
    intro fu
    induction fu with
    | zero => intro i s2 k hi hq hfu; exact absurd hfu (Nat.not_lt_zero _)
    | succ fu ih_12 =>
      intro i s2 k hi hq hfu
      have hw2 : Wf s2 := by have := Wf.xpsB hw1 i hi; rw [← hq] at this; exact this
      have hn2 := hw2.n
      have hB2 : (sB s2).1 = (sB (clo 10 s (sN s))).1 := by have := (psB_B (clo 10 s (sN s)) i).1; rw [← hq] at this; exact this
      refine j_iload_n (pc := 12) X dX1_passHalfDay_12 rfl (q := 2) rfl ?_
      refine j_aload_n (pc := 13) X dX1_passHalfDay_13 rfl (q := 0) rfl ?_
      refine j_get (pc := 14) X (C := RX1) (T := TX1) (N := 9) wz_X1 0 rfl rfl 2 (by decide) wf_X1_23 rfl dX1_passHalfDay_14 ?_
      refine j_callVR (pc := 17) X (st := [.int (nI i)])  (c_X2_size l D tA (a 3) (a 8) 30 8 (sB s2)  ) cd_X2_size wm_X1_66 6 rfl rfl rfl [6, 7] rfl rfl ⟨Nat.le_of_ble_eq_true rfl, Nat.le_of_ble_eq_true rfl⟩ ⟨Nat.zero_le _, Nat.zero_le _⟩ rfl (Nat.le_of_ble_eq_true rfl) dX1_passHalfDay_17 ?_
      refine j_icmp_ge (pc := 20) X (tgt := 80) (P := ((sB s2).1) ≤ i) dX1_passHalfDay_20 (by decide) (nI_leI (by omega) (by omega)) (fun h20 => ?_) (fun h20 => ?_)
      · skip
        have hC : psC s = (s2, k) := by rw [psC, hq, show i = (sB (clo 10 s (sN s))).1 by omega]
        refine j_aload_n (pc := 80) X dX1_passHalfDay_80 rfl (q := 0) rfl ?_
        refine j_dup (pc := 81) X dX1_passHalfDay_81 rfl ?_
        refine j_get (pc := 82) X (C := RX1) (T := TX1) (N := 9) wz_X1 0 rfl rfl 5 (by decide) wf_X1_49 rfl dX1_passHalfDay_82 ?_
        refine j_iconst (pc := 85) X (v := (nI 1)) dX1_passHalfDay_85 (by decide) ?_
        refine j_iadd (pc := 86) X (v := (nI ((sN s2) + 1))) dX1_passHalfDay_86 (nI_add _ _) ?_
        refine j_put (pc := 87) X (C := RX1) (T := TX1) (N := 9) wz_X1 tyX1 tyX1_ok nmX1 0 rfl rfl 5 (by decide) wf_X1_49 rfl rfl rfl (Nat.le_of_ble_eq_true rfl) (w' := (stW tA a (uN s2 ((sN s2) + 1)))) rfl dX1_passHalfDay_87 ?_
        refine j_iload_n (pc := 90) X dX1_passHalfDay_90 rfl (q := 1) rfl ?_
        exact j_endI (pc := 91) E dX1_passHalfDay_91 (by rw [psH, hC]) (congrArg (stW tA a) (by rw [psH, hC] <;> rfl))
      · skip
        refine j_aload_n (pc := 23) X dX1_passHalfDay_23 rfl (q := 0) rfl ?_
        refine j_iload_n (pc := 24) X dX1_passHalfDay_24 rfl (q := 2) rfl ?_
        have hb2 := hw2.b (show i < (sB s2).1 by omega)
        refine j_callVR (pc := 25) X (st := [])  (c_X1_isBooked l D tA a s2 i hw2 (by omega)) cd_X1_isBooked wm_X1_128 0 rfl rfl rfl [0, 1, 2, 3, 4, 5, 6, 7, 8, 9] rfl rfl ⟨Nat.le_of_ble_eq_true rfl, Nat.le_of_ble_eq_true rfl⟩ ⟨Nat.zero_le _, Nat.zero_le _⟩ rfl (Nat.le_of_ble_eq_true rfl) dX1_passHalfDay_25 ?_
        refine j_if_eq (pc := 28) X (tgt := 74) (P := (decide (tGet 8 (sB s2) i 5 = 0)) = false) dX1_passHalfDay_28 (by decide) (bI_0 _) (fun h28 => ?_) (fun h28 => ?_)
        · skip
          refine j_iinc (pc := 74) X (v := (nI (i + 1))) (lv' := [(2, .int (nI (i + 1))), (0, .ref (a 0)), (1, .int (nI k))]) dX1_passHalfDay_74 (q := 2) rfl (nI_add _ _) (by decide) rfl ?_
          refine j_goto (pc := 77) X (tgt := 12) dX1_passHalfDay_77 (by decide) ?_
          refine j_lv X (lv' := [(0, .ref (a 0)), (1, .int (nI k)), (2, .int (nI (i + 1)))]) [1, 2, 0] rfl ?_
          exact ih_12 (i + 1) s2 k (by omega) (by rw [psB, ← hq, stp_skip (fun q => absurd q.1 (by simpa using h28))]) (by omega)
        · skip
          refine j_aload_n (pc := 31) X dX1_passHalfDay_31 rfl (q := 0) rfl ?_
          refine j_get (pc := 32) X (C := RX1) (T := TX1) (N := 9) wz_X1 0 rfl rfl 2 (by decide) wf_X1_23 rfl dX1_passHalfDay_32 ?_
          refine j_iload_n (pc := 35) X dX1_passHalfDay_35 rfl (q := 2) rfl ?_
          refine j_iconst (pc := 36) X (v := (nI 2)) dX1_passHalfDay_36 (by decide) ?_
          refine j_callVR (pc := 37) X (st := [])  (c_X2_get l D tA (a 3) (a 8) 30 8 (sB s2) i 2 (by first | assumption | omega | decide) (by first | assumption | omega | decide) (by first | assumption | omega | decide) (by first | assumption | omega | decide) (by first | assumption | omega | decide) (by first | assumption | omega | decide)) cd_X2_get wm_X1_70 6 rfl rfl rfl [6, 7] rfl rfl ⟨Nat.le_of_ble_eq_true rfl, Nat.le_of_ble_eq_true rfl⟩ ⟨Nat.zero_le _, Nat.zero_le _⟩ rfl (Nat.le_of_ble_eq_true rfl) dX1_passHalfDay_37 ?_
          refine j_aload_n (pc := 40) X dX1_passHalfDay_40 rfl (q := 0) rfl ?_
          refine j_get (pc := 41) X (C := RX1) (T := TX1) (N := 9) wz_X1 0 rfl rfl 5 (by decide) wf_X1_49 rfl dX1_passHalfDay_41 ?_
          refine j_icmp_eq (pc := 44) X (tgt := 50) (P := (tGet 8 (sB s2) i 2) = (sN s2)) dX1_passHalfDay_44 (by decide) (nI_eq (by omega) (by omega)) (fun h44 => ?_) (fun h44 => ?_)
          · skip
            refine j_aload_n (pc := 50) X dX1_passHalfDay_50 rfl (q := 0) rfl ?_
            refine j_iload_n (pc := 51) X dX1_passHalfDay_51 rfl (q := 2) rfl ?_
            refine j_callVR (pc := 52) X (st := [])  (c_X1_mustStandBy l D tA a s2 i hw2 (by omega)) cd_X1_mustStandBy wm_X1_131 0 rfl rfl rfl [0, 1, 2, 3, 4, 5, 6, 7, 8, 9] rfl rfl ⟨Nat.le_of_ble_eq_true rfl, Nat.le_of_ble_eq_true rfl⟩ ⟨Nat.zero_le _, Nat.zero_le _⟩ rfl (Nat.le_of_ble_eq_true rfl) dX1_passHalfDay_52 ?_
            refine j_if_eq (pc := 55) X (tgt := 66) (P := (must s2 i) = false) dX1_passHalfDay_55 (by decide) (bI_0 _) (fun h55 => ?_) (fun h55 => ?_)
            · skip
              refine j_aload_n (pc := 66) X dX1_passHalfDay_66 rfl (q := 0) rfl ?_
              refine j_iload_n (pc := 67) X dX1_passHalfDay_67 rfl (q := 2) rfl ?_
              refine j_callV (pc := 68) X (st := []) (w' := (stW tA a (lftS s2 i))) (c_X1_lift l D tA a s2 i hw2 (by omega)) cd_X1_lift wm_X1_137 0 rfl rfl rfl [0, 1, 2, 3, 4, 5, 6, 7, 8, 9] rfl rfl (st_fst.trans st_fst.symm) rfl ⟨Nat.le_of_ble_eq_true rfl, Nat.le_of_ble_eq_true rfl⟩ ⟨Nat.zero_le _, Nat.zero_le _⟩ rfl (Nat.le_of_ble_eq_true rfl) dX1_passHalfDay_68 ?_
              refine j_iinc (pc := 71) X (v := (nI (k + 1))) (lv' := [(1, .int (nI (k + 1))), (0, .ref (a 0)), (2, .int (nI i))]) dX1_passHalfDay_71 (q := 1) rfl (nI_add _ _) (by decide) rfl ?_
              refine j_iinc (pc := 74) X (v := (nI (i + 1))) (lv' := [(2, .int (nI (i + 1))), (1, .int (nI (k + 1))), (0, .ref (a 0))]) dX1_passHalfDay_74 (q := 2) rfl (nI_add _ _) (by decide) rfl ?_
              refine j_goto (pc := 77) X (tgt := 12) dX1_passHalfDay_77 (by decide) ?_
              refine j_lv X (lv' := [(0, .ref (a 0)), (1, .int (nI (k + 1))), (2, .int (nI (i + 1)))]) [2, 1, 0] rfl ?_
              exact ih_12 (i + 1) (lftS s2 i) (k + 1) (by omega) (by rw [psB, ← hq, stp_lft ⟨by simpa using h28, h44⟩ (by rw [h55]; decide)]) (by omega)
            · skip
              refine j_aload_n (pc := 58) X dX1_passHalfDay_58 rfl (q := 0) rfl ?_
              refine j_iload_n (pc := 59) X dX1_passHalfDay_59 rfl (q := 2) rfl ?_
              refine j_callV (pc := 60) X (st := []) (w' := (stW tA a (stbS s2 i))) (c_X1_standBy l D tA a s2 i hw2 (by omega)) cd_X1_standBy wm_X1_134 0 rfl rfl rfl [0, 1, 2, 3, 4, 5, 6, 7, 8, 9] rfl rfl (st_fst.trans st_fst.symm) rfl ⟨Nat.le_of_ble_eq_true rfl, Nat.le_of_ble_eq_true rfl⟩ ⟨Nat.zero_le _, Nat.zero_le _⟩ rfl (Nat.le_of_ble_eq_true rfl) dX1_passHalfDay_60 ?_
              refine j_goto (pc := 63) X (tgt := 74) dX1_passHalfDay_63 (by decide) ?_
              refine j_iinc (pc := 74) X (v := (nI (i + 1))) (lv' := [(2, .int (nI (i + 1))), (0, .ref (a 0)), (1, .int (nI k))]) dX1_passHalfDay_74 (q := 2) rfl (nI_add _ _) (by decide) rfl ?_
              refine j_goto (pc := 77) X (tgt := 12) dX1_passHalfDay_77 (by decide) ?_
              refine j_lv X (lv' := [(0, .ref (a 0)), (1, .int (nI k)), (2, .int (nI (i + 1)))]) [1, 2, 0] rfl ?_
              exact ih_12 (i + 1) (stbS s2 i) k (by omega) (by rw [psB, ← hq, stp_stb ⟨by simpa using h28, h44⟩ (t5 h55)]) (by omega)
          · skip
            refine j_goto (pc := 47) X (tgt := 74) dX1_passHalfDay_47 (by decide) ?_
            refine j_iinc (pc := 74) X (v := (nI (i + 1))) (lv' := [(2, .int (nI (i + 1))), (0, .ref (a 0)), (1, .int (nI k))]) dX1_passHalfDay_74 (q := 2) rfl (nI_add _ _) (by decide) rfl ?_
            refine j_goto (pc := 77) X (tgt := 12) dX1_passHalfDay_77 (by decide) ?_
            refine j_lv X (lv' := [(0, .ref (a 0)), (1, .int (nI k)), (2, .int (nI (i + 1)))]) [1, 2, 0] rfl ?_
            exact ih_12 (i + 1) s2 k (by omega) (by rw [psB, ← hq, stp_skip (fun q => h44 q.2)]) (by omega)
  refine j_lv X (lv' := [(0, .ref (a 0)), (1, .int (nI 0)), (2, .int (nI 0))]) [2, 1, 0] rfl ?_
  exact L_12 _ 0 (clo 10 s (sN s)) 0 (Nat.zero_le _) rfl (Nat.lt_succ_self _)
