theorem cd_X5_bears : kCardV yX5_bears cX5_bears 3 (some .int) 2 := ⟨⟨wc_X5_bears, wi_X5, by decide +kernel, by decide +kernel, rfl⟩, wk_X5_bears, ws_X5_bears⟩
set_option maxHeartbeats 4000000 in
set_option maxRecDepth 100000 in
theorem c_X5_bears (l : Launch) (D : va_G) (tA : Nat → ClassId) (m : Nat → Nat) (x : MX) (s sn : Sg) (v : Hs) (kp : Bool) (len : Nat) (m0 r0 : Int32) (hrel : RelM s sn v kp x.1) : Kx l D tA yX5_bears cX5_bears 3 (some .int) 2 43 [.ref (m 0), .int m0, .int r0] (mW tA m v.2.2 kp len x) (some (.int (oBears s m0 r0))) (mW tA m v.2.2 kp len x) := by
  refine kx_int rfl (Nat.le_of_ble_eq_true rfl) (fun G X E => ?_)
  show J l D G 0 0 (mW tA m v.2.2 kp len x) [(0, .ref (m 0)), (1, .int m0), (2, .int r0)] 0 []
  have hr := hrel.1
  have hok := hrel.2.1
  have hw := hok.1
  have hn := hw.n
  have hsz := hrel.2.2.2.1
  refine j_aload_n (pc := 0) X dX5_bears_0 rfl (q := 0) rfl ?_
  refine j_iload_n (pc := 1) X dX5_bears_1 rfl (q := 1) rfl ?_
  refine j_callVR (pc := 2) X (st := [])  (c_X5_isMachine l D tA m (mfs m v.2.2 kp len none x.2.1 x.2.2.1 x.2.2.2.1 x.2.2.2.2) x.1 s m0 hr hw ) cd_X5_isMachine wm_X5_59 0 rfl rfl rfl [0, 1] rfl rfl ⟨Nat.le_of_ble_eq_true rfl, Nat.le_of_ble_eq_true rfl⟩ ⟨Nat.zero_le _, Nat.zero_le _⟩ rfl (Nat.le_of_ble_eq_true rfl) dX5_bears_2 ?_
  refine j_if_ne (pc := 5) X (tgt := 10) (P := (inR m0 (sM s).1) = true) dX5_bears_5 (by decide) (bI_n0 _) (fun h5 => ?_) (fun h5 => ?_)
  · skip
    skip
    obtain ⟨mm, hc5, rfl⟩ := inR_t h5
    have emm : tn (nI mm) = mm := tn_nI (by omega)
    have hm0 := hw.m hc5
    refine j_iload_n (pc := 10) X dX5_bears_10 rfl (q := 2) rfl ?_
    refine j_iconst (pc := 11) X (v := (nI 2)) dX5_bears_11 (by decide) ?_
    refine j_bipush (pc := 12) X (v := (nI 60)) dX5_bears_12 (by decide) ?_
    refine j_callSR (pc := 14) X (st := [])  (c_X5_in l D tA r0 (nI 2) (nI 60) ) cd_X5_in wm_X5_20 rfl [] rfl rfl ⟨Nat.le_of_ble_eq_true rfl, Nat.le_of_ble_eq_true rfl⟩ ⟨Nat.zero_le _, Nat.zero_le _⟩ rfl (Nat.le_of_ble_eq_true rfl) dX5_bears_14 ?_
    rw [isW_ra]
    refine j_if_eq (pc := 17) X (tgt := 47) (P := (isRad r0) = false) dX5_bears_17 (by decide) (bI_0 _) (fun h17 => ?_) (fun h17 => ?_)
    · skip
      have h17 := nf5 h17
      refine j_bipush (pc := 47) X (v := (-2)) dX5_bears_47 (by decide) ?_
      have e : oBears s (nI mm) r0 = (-2) := by unfold oBears; simp only [emm]; rw [if_pos h5, if_neg h17] <;> rfl
      exact j_endI (pc := 49) E dX5_bears_49 (by rw [e]) rfl
    · skip
      have h17 := t5 h17
      obtain ⟨rr, hc17, rfl⟩ := isRad_t h17
      have err : tn (nI rr) = rr := tn_nI (by omega)
      refine j_aload_n (pc := 20) X dX5_bears_20 rfl (q := 0) rfl ?_
      refine j_get (pc := 21) X (C := RX5) (T := TX5) (N := 10) wz_X5 0 rfl rfl 0 (by decide) wf_X5_7 rfl dX5_bears_21 ?_
      refine j_iload_n (pc := 24) X dX5_bears_24 rfl (q := 1) rfl ?_
      refine j_iconst (pc := 25) X (v := (nI 0)) dX5_bears_25 (by decide) ?_
      refine j_callSR (pc := 26) X (st := [.ref (m 1)])  (c_X5_of l D tA mm 0 ) cd_X5_of wm_X5_38 rfl [] rfl rfl ⟨Nat.le_of_ble_eq_true rfl, Nat.le_of_ble_eq_true rfl⟩ ⟨Nat.zero_le _, Nat.zero_le _⟩ rfl (Nat.le_of_ble_eq_true rfl) dX5_bears_26 ?_
      refine j_iald (pc := 29) X 1 (i := (9 + 4 * mm + 0)) rfl (by omega) (by omega) dX5_bears_29 ?_
      refine j_top (v' := nI (tGet 3 (sM s) mm 0)) (congrArg nI (RB.m0 hr hc5)) ?_
      refine j_aload_n (pc := 30) X dX5_bears_30 rfl (q := 0) rfl ?_
      refine j_get (pc := 31) X (C := RX5) (T := TX5) (N := 10) wz_X5 0 rfl rfl 0 (by decide) wf_X5_7 rfl dX5_bears_31 ?_
      refine j_iload_n (pc := 34) X dX5_bears_34 rfl (q := 1) rfl ?_
      refine j_iconst (pc := 35) X (v := (nI 1)) dX5_bears_35 (by decide) ?_
      refine j_callSR (pc := 36) X (st := [.ref (m 1), .int (nI (tGet 3 (sM s) mm 0))])  (c_X5_of l D tA mm 1 ) cd_X5_of wm_X5_38 rfl [] rfl rfl ⟨Nat.le_of_ble_eq_true rfl, Nat.le_of_ble_eq_true rfl⟩ ⟨Nat.zero_le _, Nat.zero_le _⟩ rfl (Nat.le_of_ble_eq_true rfl) dX5_bears_36 ?_
      refine j_iald (pc := 39) X 1 (i := (9 + 4 * mm + 1)) rfl (by omega) (by omega) dX5_bears_39 ?_
      refine j_top (v' := nI (tGet 3 (sM s) mm 1)) (congrArg nI (RB.m1 hr hc5)) ?_
      refine j_iload_n (pc := 40) X dX5_bears_40 rfl (q := 2) rfl ?_
      refine j_callSR (pc := 41) X (st := [])  (c_X5_bearsBy l D tA (tGet 3 (sM s) mm 0) (tGet 3 (sM s) mm 1) rr hm0.1.2 hm0.2.1 (by omega)) cd_X5_bearsBy wm_X5_49 rfl [] rfl rfl ⟨Nat.le_of_ble_eq_true rfl, Nat.le_of_ble_eq_true rfl⟩ ⟨Nat.zero_le _, Nat.zero_le _⟩ rfl (Nat.le_of_ble_eq_true rfl) dX5_bears_41 ?_
      rw [← brn_eq (M := sM s) (m := mm) hc17.1]
      refine j_goto (pc := 44) X (tgt := 49) dX5_bears_44 (by decide) ?_
      have e : oBears s (nI mm) (nI rr) = (nI (brn (sM s) mm rr)) := by unfold oBears; simp only [emm, err]; rw [if_pos h5, if_pos h17] <;> rfl
      exact j_endI (pc := 49) E dX5_bears_49 (by rw [e]) rfl
  · skip
    skip
    refine j_iconst (pc := 8) X (v := (-1)) dX5_bears_8 (by decide) ?_
    have e : oBears s m0 r0 = (-1) := by unfold oBears; rw [if_neg h5] <;> rfl
    exact j_endI (pc := 9) E dX5_bears_9 (by rw [e]) rfl
theorem enc_0 {v : Nat} (h : enc v = 0) : v = NN := by
  unfold enc at h
  by_cases q : v = NN
  · exact q
  · rw [if_neg q] at h; omega
theorem enc_p {v : Nat} (h : ¬ enc v = 0) : enc v = v + 1 := by
  unfold enc at h ⊢
  by_cases q : v = NN
  · rw [if_pos q] at h; exact absurd rfl h
  · rw [if_neg q]
theorem enc_lt {v n : Nat} (h : v = NN ∨ v < n) : enc v ≤ n := by
  unfold enc
  by_cases q : v = NN
  · rw [if_pos q]; omega
  · rw [if_neg q]; omega
theorem cd_X5_machine : kCardV yX5_machine cX5_machine 3 (some .int) 2 := ⟨⟨wc_X5_machine, wi_X5, by decide +kernel, by decide +kernel, rfl⟩, wk_X5_machine, ws_X5_machine⟩
set_option maxHeartbeats 4000000 in
set_option maxRecDepth 100000 in
theorem c_X5_machine (l : Launch) (D : va_G) (tA : Nat → ClassId) (m : Nat → Nat) (x : MX) (s sn : Sg) (v : Hs) (kp : Bool) (len : Nat) (m0 w0 : Int32) (hrel : RelM s sn v kp x.1) : Kx l D tA yX5_machine cX5_machine 3 (some .int) 2 46 [.ref (m 0), .int m0, .int w0] (mW tA m v.2.2 kp len x) (some (.int (oMachine s m0 w0))) (mW tA m v.2.2 kp len x) := by
  refine kx_int rfl (Nat.le_of_ble_eq_true rfl) (fun G X E => ?_)
  show J l D G 0 0 (mW tA m v.2.2 kp len x) [(0, .ref (m 0)), (1, .int m0), (2, .int w0)] 0 []
  have hr := hrel.1
  have hok := hrel.2.1
  have hw := hok.1
  have hn := hw.n
  have hsz := hrel.2.2.2.1
  refine j_aload_n (pc := 0) X dX5_machine_0 rfl (q := 0) rfl ?_
  refine j_iload_n (pc := 1) X dX5_machine_1 rfl (q := 1) rfl ?_
  refine j_callVR (pc := 2) X (st := [])  (c_X5_isMachine l D tA m (mfs m v.2.2 kp len none x.2.1 x.2.2.1 x.2.2.2.1 x.2.2.2.2) x.1 s m0 hr hw ) cd_X5_isMachine wm_X5_59 0 rfl rfl rfl [0, 1] rfl rfl ⟨Nat.le_of_ble_eq_true rfl, Nat.le_of_ble_eq_true rfl⟩ ⟨Nat.zero_le _, Nat.zero_le _⟩ rfl (Nat.le_of_ble_eq_true rfl) dX5_machine_2 ?_
  refine j_if_ne (pc := 5) X (tgt := 10) (P := (inR m0 (sM s).1) = true) dX5_machine_5 (by decide) (bI_n0 _) (fun h5 => ?_) (fun h5 => ?_)
  · skip
    skip
    obtain ⟨mm, hc5, rfl⟩ := inR_t h5
    have emm : tn (nI mm) = mm := tn_nI (by omega)
    have hm0 := hw.m hc5
    have hen := enc_lt hm0.2.2
    refine j_iload_n (pc := 10) X dX5_machine_10 rfl (q := 2) rfl ?_
    rcases Decidable.em (w0.toInt < 0 ∨ 6 < w0.toInt) with hs | hs
    · refine j_swOut (pc := 11) X (tgt := 127) dX5_machine_11 hs (by decide) ?_
      refine j_bipush (pc := 127) X (v := (-2)) dX5_machine_127 (by decide) ?_
      have e : oMachine s (nI mm) w0 = (-2) := by unfold oMachine; simp only [emm]; rw [if_pos h5, if_neg (by omega), if_neg (by omega), if_neg (by omega), if_neg (by omega), if_neg (by omega), if_neg (by omega), if_neg (by omega)] <;> rfl
      exact j_endI (pc := 129) E dX5_machine_129 (by rw [e]) rfl
    have hs : w0.toInt = 0 ∨ w0.toInt = 1 ∨ w0.toInt = 2 ∨ w0.toInt = 3 ∨ w0.toInt = 4 ∨ w0.toInt = 5 ∨ w0.toInt = 6 := by omega
    rcases hs with hs | hs | hs | hs | hs | hs | hs
    · refine j_swIn (pc := 11) X (off := 41) (tgt := 52) dX5_machine_11 (by omega) (by omega) (by rw [hs]; rfl) (by decide) ?_
      obtain rfl : w0 = nI 0 := by rw [← Int32.toInt_inj, hs, nI_toInt (by decide)]; rfl
      refine j_aload_n (pc := 52) X dX5_machine_52 rfl (q := 0) rfl ?_
      refine j_get (pc := 53) X (C := RX5) (T := TX5) (N := 10) wz_X5 0 rfl rfl 0 (by decide) wf_X5_7 rfl dX5_machine_53 ?_
      refine j_iload_n (pc := 56) X dX5_machine_56 rfl (q := 1) rfl ?_
      refine j_iload_n (pc := 57) X dX5_machine_57 rfl (q := 2) rfl ?_
      refine j_callSR (pc := 58) X (st := [.ref (m 1)])  (c_X5_of l D tA mm 0 ) cd_X5_of wm_X5_38 rfl [] rfl rfl ⟨Nat.le_of_ble_eq_true rfl, Nat.le_of_ble_eq_true rfl⟩ ⟨Nat.zero_le _, Nat.zero_le _⟩ rfl (Nat.le_of_ble_eq_true rfl) dX5_machine_58 ?_
      refine j_iald (pc := 61) X 1 (i := (9 + 4 * mm + 0)) rfl (by omega) (by omega) dX5_machine_61 ?_
      refine j_top (v' := nI (tGet 3 (sM s) mm 0)) (congrArg nI (RB.m0 hr hc5)) ?_
      have e : oMachine s (nI mm) (nI 0) = (nI (tGet 3 (sM s) mm 0)) := by unfold oMachine; simp only [emm]; rw [if_pos h5, if_pos hs] <;> rfl
      exact j_endI (pc := 62) E dX5_machine_62 (by rw [e]) rfl
    · refine j_swIn (pc := 11) X (off := 41) (tgt := 52) dX5_machine_11 (by omega) (by omega) (by rw [hs]; rfl) (by decide) ?_
      obtain rfl : w0 = nI 1 := by rw [← Int32.toInt_inj, hs, nI_toInt (by decide)]; rfl
      refine j_aload_n (pc := 52) X dX5_machine_52 rfl (q := 0) rfl ?_
      refine j_get (pc := 53) X (C := RX5) (T := TX5) (N := 10) wz_X5 0 rfl rfl 0 (by decide) wf_X5_7 rfl dX5_machine_53 ?_
      refine j_iload_n (pc := 56) X dX5_machine_56 rfl (q := 1) rfl ?_
      refine j_iload_n (pc := 57) X dX5_machine_57 rfl (q := 2) rfl ?_
      refine j_callSR (pc := 58) X (st := [.ref (m 1)])  (c_X5_of l D tA mm 1 ) cd_X5_of wm_X5_38 rfl [] rfl rfl ⟨Nat.le_of_ble_eq_true rfl, Nat.le_of_ble_eq_true rfl⟩ ⟨Nat.zero_le _, Nat.zero_le _⟩ rfl (Nat.le_of_ble_eq_true rfl) dX5_machine_58 ?_
      refine j_iald (pc := 61) X 1 (i := (9 + 4 * mm + 1)) rfl (by omega) (by omega) dX5_machine_61 ?_
      refine j_top (v' := nI (tGet 3 (sM s) mm 1)) (congrArg nI (RB.m1 hr hc5)) ?_
      have e : oMachine s (nI mm) (nI 1) = (nI (tGet 3 (sM s) mm 1)) := by unfold oMachine; simp only [emm]; rw [if_pos h5, if_neg (by omega), if_pos hs] <;> rfl
      exact j_endI (pc := 62) E dX5_machine_62 (by rw [e]) rfl
    · refine j_swIn (pc := 11) X (off := 52) (tgt := 63) dX5_machine_11 (by omega) (by omega) (by rw [hs]; rfl) (by decide) ?_
      obtain rfl : w0 = nI 2 := by rw [← Int32.toInt_inj, hs, nI_toInt (by decide)]; rfl
      refine j_aload_n (pc := 63) X dX5_machine_63 rfl (q := 0) rfl ?_
      refine j_iconst (pc := 64) X (v := (nI 1)) dX5_machine_64 (by decide) ?_
      refine j_iload_n (pc := 65) X dX5_machine_65 rfl (q := 1) rfl ?_
      refine j_iconst (pc := 66) X (v := (nI 0)) dX5_machine_66 (by decide) ?_
      refine j_callVR (pc := 67) X (st := [])  (c_X5_bookingsOf l D tA m (mfs m v.2.2 kp len none x.2.1 x.2.2.1 x.2.2.2.1 x.2.2.2.2) x.1 s 1 mm 0 hr hw (by decide) (by omega) (by decide)) cd_X5_bookingsOf wm_X5_153 0 rfl rfl rfl [0, 1] rfl rfl ⟨Nat.le_of_ble_eq_true rfl, Nat.le_of_ble_eq_true rfl⟩ ⟨Nat.zero_le _, Nat.zero_le _⟩ rfl (Nat.le_of_ble_eq_true rfl) dX5_machine_67 ?_
      have e : oMachine s (nI mm) (nI 2) = (nI (cB s 1 mm 0)) := by unfold oMachine; simp only [emm]; rw [if_pos h5, if_neg (by omega), if_neg (by omega), if_pos hs] <;> rfl
      exact j_endI (pc := 70) E dX5_machine_70 (by rw [e]) rfl
    · refine j_swIn (pc := 11) X (off := 60) (tgt := 71) dX5_machine_11 (by omega) (by omega) (by rw [hs]; rfl) (by decide) ?_
      obtain rfl : w0 = nI 3 := by rw [← Int32.toInt_inj, hs, nI_toInt (by decide)]; rfl
      refine j_aload_n (pc := 71) X dX5_machine_71 rfl (q := 0) rfl ?_
      refine j_iconst (pc := 72) X (v := (nI 1)) dX5_machine_72 (by decide) ?_
      refine j_iload_n (pc := 73) X dX5_machine_73 rfl (q := 1) rfl ?_
      refine j_callVR (pc := 74) X (st := [])  (c_X5_movesOf l D tA m (mfs m v.2.2 kp len none x.2.1 x.2.2.1 x.2.2.2.1 x.2.2.2.2) x.1 s 1 mm hr hw (by decide) (by omega)) cd_X5_movesOf wm_X5_156 0 rfl rfl rfl [0, 1] rfl rfl ⟨Nat.le_of_ble_eq_true rfl, Nat.le_of_ble_eq_true rfl⟩ ⟨Nat.zero_le _, Nat.zero_le _⟩ rfl (Nat.le_of_ble_eq_true rfl) dX5_machine_74 ?_
      have e : oMachine s (nI mm) (nI 3) = (nI (cV s 1 mm)) := by unfold oMachine; simp only [emm]; rw [if_pos h5, if_neg (by omega), if_neg (by omega), if_neg (by omega), if_pos hs] <;> rfl
      exact j_endI (pc := 77) E dX5_machine_77 (by rw [e]) rfl
    · refine j_swIn (pc := 11) X (off := 67) (tgt := 78) dX5_machine_11 (by omega) (by omega) (by rw [hs]; rfl) (by decide) ?_
      obtain rfl : w0 = nI 4 := by rw [← Int32.toInt_inj, hs, nI_toInt (by decide)]; rfl
      refine j_aload_n (pc := 78) X dX5_machine_78 rfl (q := 0) rfl ?_
      refine j_iconst (pc := 79) X (v := (nI 2)) dX5_machine_79 (by decide) ?_
      refine j_iload_n (pc := 80) X dX5_machine_80 rfl (q := 1) rfl ?_
      refine j_callVR (pc := 81) X (st := [])  (c_X5_movesOf l D tA m (mfs m v.2.2 kp len none x.2.1 x.2.2.1 x.2.2.2.1 x.2.2.2.2) x.1 s 2 mm hr hw (by decide) (by omega)) cd_X5_movesOf wm_X5_156 0 rfl rfl rfl [0, 1] rfl rfl ⟨Nat.le_of_ble_eq_true rfl, Nat.le_of_ble_eq_true rfl⟩ ⟨Nat.zero_le _, Nat.zero_le _⟩ rfl (Nat.le_of_ble_eq_true rfl) dX5_machine_81 ?_
      have e : oMachine s (nI mm) (nI 4) = (nI (cV s 2 mm)) := by unfold oMachine; simp only [emm]; rw [if_pos h5, if_neg (by omega), if_neg (by omega), if_neg (by omega), if_neg (by omega), if_pos hs] <;> rfl
      exact j_endI (pc := 84) E dX5_machine_84 (by rw [e]) rfl
    · refine j_swIn (pc := 11) X (off := 74) (tgt := 85) dX5_machine_11 (by omega) (by omega) (by rw [hs]; rfl) (by decide) ?_
      obtain rfl : w0 = nI 5 := by rw [← Int32.toInt_inj, hs, nI_toInt (by decide)]; rfl
      refine j_aload_n (pc := 85) X dX5_machine_85 rfl (q := 0) rfl ?_
      refine j_get (pc := 86) X (C := RX5) (T := TX5) (N := 10) wz_X5 0 rfl rfl 0 (by decide) wf_X5_7 rfl dX5_machine_86 ?_
      refine j_iload_n (pc := 89) X dX5_machine_89 rfl (q := 1) rfl ?_
      refine j_iconst (pc := 90) X (v := (nI 2)) dX5_machine_90 (by decide) ?_
      refine j_callSR (pc := 91) X (st := [.ref (m 1)])  (c_X5_of l D tA mm 2 ) cd_X5_of wm_X5_38 rfl [] rfl rfl ⟨Nat.le_of_ble_eq_true rfl, Nat.le_of_ble_eq_true rfl⟩ ⟨Nat.zero_le _, Nat.zero_le _⟩ rfl (Nat.le_of_ble_eq_true rfl) dX5_machine_91 ?_
      refine j_iald (pc := 94) X 1 (i := (9 + 4 * mm + 2)) rfl (by omega) (by omega) dX5_machine_94 ?_
      refine j_top (v' := nI (enc (tGet 3 (sM s) mm 2))) (congrArg nI (RB.m2 hr hc5)) ?_
      refine j_if_ne (pc := 95) X (tgt := 103) (P := ¬ (enc (tGet 3 (sM s) mm 2)) = 0) dX5_machine_95 (by decide) (not_congr (nC_eq0 (by omega))) (fun h95 => ?_) (fun h95 => ?_)
      · skip
        refine j_aload_n (pc := 103) X dX5_machine_103 rfl (q := 0) rfl ?_
        refine j_get (pc := 104) X (C := RX5) (T := TX5) (N := 10) wz_X5 0 rfl rfl 0 (by decide) wf_X5_7 rfl dX5_machine_104 ?_
        refine j_iload_n (pc := 107) X dX5_machine_107 rfl (q := 1) rfl ?_
        refine j_iconst (pc := 108) X (v := (nI 2)) dX5_machine_108 (by decide) ?_
        refine j_callSR (pc := 109) X (st := [.ref (m 1)])  (c_X5_of l D tA mm 2 ) cd_X5_of wm_X5_38 rfl [] rfl rfl ⟨Nat.le_of_ble_eq_true rfl, Nat.le_of_ble_eq_true rfl⟩ ⟨Nat.zero_le _, Nat.zero_le _⟩ rfl (Nat.le_of_ble_eq_true rfl) dX5_machine_109 ?_
        refine j_iald (pc := 112) X 1 (i := (9 + 4 * mm + 2)) rfl (by omega) (by omega) dX5_machine_112 ?_
        refine j_top (v' := nI (enc (tGet 3 (sM s) mm 2))) (congrArg nI (RB.m2 hr hc5)) ?_
        refine j_iconst (pc := 113) X (v := (nI 1)) dX5_machine_113 (by decide) ?_
        refine j_isub (pc := 114) X (v := (nI (tGet 3 (sM s) mm 2))) dX5_machine_114 (by rw [enc_p h95, pk_sub (by omega)]; rfl) ?_
        have e : oMachine s (nI mm) (nI 5) = (nI (tGet 3 (sM s) mm 2)) := by unfold oMachine; simp only [emm]; rw [if_pos h5, if_neg (by omega), if_neg (by omega), if_neg (by omega), if_neg (by omega), if_neg (by omega), if_pos hs] <;> rfl
        exact j_endI (pc := 115) E dX5_machine_115 (by rw [e]) rfl
      · skip
        refine j_bipush (pc := 98) X (v := (-5)) dX5_machine_98 (by decide) ?_
        refine j_goto (pc := 100) X (tgt := 115) dX5_machine_100 (by decide) ?_
        refine j_top (v' := nI (tGet 3 (sM s) mm 2)) (by rw [enc_0 (Decidable.not_not.mp h95)]; decide +kernel) ?_
        have e : oMachine s (nI mm) (nI 5) = (nI (tGet 3 (sM s) mm 2)) := by unfold oMachine; simp only [emm]; rw [if_pos h5, if_neg (by omega), if_neg (by omega), if_neg (by omega), if_neg (by omega), if_neg (by omega), if_pos hs] <;> rfl
        exact j_endI (pc := 115) E dX5_machine_115 (by rw [e]) rfl
    · refine j_swIn (pc := 11) X (off := 105) (tgt := 116) dX5_machine_11 (by omega) (by omega) (by rw [hs]; rfl) (by decide) ?_
      obtain rfl : w0 = nI 6 := by rw [← Int32.toInt_inj, hs, nI_toInt (by decide)]; rfl
      refine j_aload_n (pc := 116) X dX5_machine_116 rfl (q := 0) rfl ?_
      refine j_get (pc := 117) X (C := RX5) (T := TX5) (N := 10) wz_X5 0 rfl rfl 0 (by decide) wf_X5_7 rfl dX5_machine_117 ?_
      refine j_iload_n (pc := 120) X dX5_machine_120 rfl (q := 1) rfl ?_
      refine j_iconst (pc := 121) X (v := (nI 3)) dX5_machine_121 (by decide) ?_
      refine j_callSR (pc := 122) X (st := [.ref (m 1)])  (c_X5_of l D tA mm 3 ) cd_X5_of wm_X5_38 rfl [] rfl rfl ⟨Nat.le_of_ble_eq_true rfl, Nat.le_of_ble_eq_true rfl⟩ ⟨Nat.zero_le _, Nat.zero_le _⟩ rfl (Nat.le_of_ble_eq_true rfl) dX5_machine_122 ?_
      refine j_iald (pc := 125) X 1 (i := (9 + 4 * mm + 3)) rfl (by omega) (by omega) dX5_machine_125 ?_
      refine j_top (v' := nI (cB s 1 mm 1)) (congrArg nI (RB.m3 hr hc5)) ?_
      have e : oMachine s (nI mm) (nI 6) = (nI (cB s 1 mm 1)) := by unfold oMachine; simp only [emm]; rw [if_pos h5, if_neg (by omega), if_neg (by omega), if_neg (by omega), if_neg (by omega), if_neg (by omega), if_neg (by omega), if_pos hs] <;> rfl
      exact j_endI (pc := 126) E dX5_machine_126 (by rw [e]) rfl
  · skip
    skip
    refine j_iconst (pc := 8) X (v := (-1)) dX5_machine_8 (by decide) ?_
    have e : oMachine s m0 w0 = (-1) := by unfold oMachine; rw [if_neg h5] <;> rfl
    exact j_endI (pc := 9) E dX5_machine_9 (by rw [e]) rfl
theorem cd_X5_member : kCardV yX5_member cX5_member 3 (some .int) 2 := ⟨⟨wc_X5_member, wi_X5, by decide +kernel, by decide +kernel, rfl⟩, wk_X5_member, ws_X5_member⟩
set_option maxHeartbeats 4000000 in
set_option maxRecDepth 100000 in
theorem c_X5_member (l : Launch) (D : va_G) (tA : Nat → ClassId) (m : Nat → Nat) (x : MX) (s sn : Sg) (v : Hs) (kp : Bool) (len : Nat) (p0 w0 : Int32) (hrel : RelM s sn v kp x.1) : Kx l D tA yX5_member cX5_member 3 (some .int) 2 46 [.ref (m 0), .int p0, .int w0] (mW tA m v.2.2 kp len x) (some (.int (oMember s p0 w0))) (mW tA m v.2.2 kp len x) := by
  refine kx_int rfl (Nat.le_of_ble_eq_true rfl) (fun G X E => ?_)
  show J l D G 0 0 (mW tA m v.2.2 kp len x) [(0, .ref (m 0)), (1, .int p0), (2, .int w0)] 0 []
  have hr := hrel.1
  have hok := hrel.2.1
  have hw := hok.1
  have hn := hw.n
  have hsz := hrel.2.2.2.1
  refine j_aload_n (pc := 0) X dX5_member_0 rfl (q := 0) rfl ?_
  refine j_iload_n (pc := 1) X dX5_member_1 rfl (q := 1) rfl ?_
  refine j_callVR (pc := 2) X (st := [])  (c_X5_isMember l D tA m (mfs m v.2.2 kp len none x.2.1 x.2.2.1 x.2.2.2.1 x.2.2.2.2) x.1 s p0 hr hw ) cd_X5_isMember wm_X5_56 0 rfl rfl rfl [0, 1] rfl rfl ⟨Nat.le_of_ble_eq_true rfl, Nat.le_of_ble_eq_true rfl⟩ ⟨Nat.zero_le _, Nat.zero_le _⟩ rfl (Nat.le_of_ble_eq_true rfl) dX5_member_2 ?_
  refine j_if_ne (pc := 5) X (tgt := 10) (P := (inR p0 (sP s).1) = true) dX5_member_5 (by decide) (bI_n0 _) (fun h5 => ?_) (fun h5 => ?_)
  · skip
    skip
    obtain ⟨pp, hc5, rfl⟩ := inR_t h5
    have epp : tn (nI pp) = pp := tn_nI (by omega)
    refine j_iload_n (pc := 10) X dX5_member_10 rfl (q := 2) rfl ?_
    rcases Decidable.em (w0.toInt < 0 ∨ 6 < w0.toInt) with hs | hs
    · refine j_swOut (pc := 11) X (tgt := 91) dX5_member_11 hs (by decide) ?_
      refine j_bipush (pc := 91) X (v := (-2)) dX5_member_91 (by decide) ?_
      have e : oMember s (nI pp) w0 = (-2) := by unfold oMember; simp only [epp]; rw [if_pos h5, if_neg (by omega), if_neg (by omega), if_neg (by omega), if_neg (by omega), if_neg (by omega), if_neg (by omega), if_neg (by omega)] <;> rfl
      exact j_endI (pc := 93) E dX5_member_93 (by rw [e]) rfl
    have hs : w0.toInt = 0 ∨ w0.toInt = 1 ∨ w0.toInt = 2 ∨ w0.toInt = 3 ∨ w0.toInt = 4 ∨ w0.toInt = 5 ∨ w0.toInt = 6 := by omega
    rcases hs with hs | hs | hs | hs | hs | hs | hs
    · refine j_swIn (pc := 11) X (off := 41) (tgt := 52) dX5_member_11 (by omega) (by omega) (by rw [hs]; rfl) (by decide) ?_
      obtain rfl : w0 = nI 0 := by rw [← Int32.toInt_inj, hs, nI_toInt (by decide)]; rfl
      refine j_aload_n (pc := 52) X dX5_member_52 rfl (q := 0) rfl ?_
      refine j_get (pc := 53) X (C := RX5) (T := TX5) (N := 10) wz_X5 0 rfl rfl 0 (by decide) wf_X5_7 rfl dX5_member_53 ?_
      refine j_iload_n (pc := 56) X dX5_member_56 rfl (q := 1) rfl ?_
      refine j_iconst (pc := 57) X (v := (nI 0)) dX5_member_57 (by decide) ?_
      refine j_callSR (pc := 58) X (st := [.ref (m 1)])  (c_X5_ofMember l D tA pp 0 ) cd_X5_ofMember wm_X5_42 rfl [] rfl rfl ⟨Nat.le_of_ble_eq_true rfl, Nat.le_of_ble_eq_true rfl⟩ ⟨Nat.zero_le _, Nat.zero_le _⟩ rfl (Nat.le_of_ble_eq_true rfl) dX5_member_58 ?_
      refine j_iald (pc := 61) X 1 (i := (29 + 2 * pp + 0)) rfl (by omega) (by omega) dX5_member_61 ?_
      refine j_top (v' := nI (tGet 2 (sP s) pp 0)) (congrArg nI (RB.p hr hc5 (by omega))) ?_
      have e : oMember s (nI pp) (nI 0) = (nI (tGet 2 (sP s) pp 0)) := by unfold oMember; simp only [epp]; rw [if_pos h5, if_pos hs] <;> rfl
      exact j_endI (pc := 62) E dX5_member_62 (by rw [e]) rfl
    · refine j_swIn (pc := 11) X (off := 52) (tgt := 63) dX5_member_11 (by omega) (by omega) (by rw [hs]; rfl) (by decide) ?_
      obtain rfl : w0 = nI 1 := by rw [← Int32.toInt_inj, hs, nI_toInt (by decide)]; rfl
      refine j_aload_n (pc := 63) X dX5_member_63 rfl (q := 0) rfl ?_
      refine j_iconst (pc := 64) X (v := (nI 0)) dX5_member_64 (by decide) ?_
      refine j_iload_n (pc := 65) X dX5_member_65 rfl (q := 1) rfl ?_
      refine j_iload_n (pc := 66) X dX5_member_66 rfl (q := 2) rfl ?_
      refine j_iconst (pc := 67) X (v := (nI 1)) dX5_member_67 (by decide) ?_
      refine j_isub (pc := 68) X (v := (nI (1 - 1))) dX5_member_68 (pk_sub (by omega)) ?_
      refine j_callVR (pc := 69) X (st := [])  (c_X5_bookingsOf l D tA m (mfs m v.2.2 kp len none x.2.1 x.2.2.1 x.2.2.2.1 x.2.2.2.2) x.1 s 0 pp (1 - 1) hr hw (by decide) (by omega) (by decide)) cd_X5_bookingsOf wm_X5_153 0 rfl rfl rfl [0, 1] rfl rfl ⟨Nat.le_of_ble_eq_true rfl, Nat.le_of_ble_eq_true rfl⟩ ⟨Nat.zero_le _, Nat.zero_le _⟩ rfl (Nat.le_of_ble_eq_true rfl) dX5_member_69 ?_
      have e : oMember s (nI pp) (nI 1) = (nI (cB s 0 pp (1 - 1))) := by unfold oMember; simp only [epp]; rw [if_pos h5, if_neg (by omega), if_pos hs] <;> rfl
      exact j_endI (pc := 72) E dX5_member_72 (by rw [e]) rfl
    · refine j_swIn (pc := 11) X (off := 52) (tgt := 63) dX5_member_11 (by omega) (by omega) (by rw [hs]; rfl) (by decide) ?_
      obtain rfl : w0 = nI 2 := by rw [← Int32.toInt_inj, hs, nI_toInt (by decide)]; rfl
      refine j_aload_n (pc := 63) X dX5_member_63 rfl (q := 0) rfl ?_
      refine j_iconst (pc := 64) X (v := (nI 0)) dX5_member_64 (by decide) ?_
      refine j_iload_n (pc := 65) X dX5_member_65 rfl (q := 1) rfl ?_
      refine j_iload_n (pc := 66) X dX5_member_66 rfl (q := 2) rfl ?_
      refine j_iconst (pc := 67) X (v := (nI 1)) dX5_member_67 (by decide) ?_
      refine j_isub (pc := 68) X (v := (nI (2 - 1))) dX5_member_68 (pk_sub (by omega)) ?_
      refine j_callVR (pc := 69) X (st := [])  (c_X5_bookingsOf l D tA m (mfs m v.2.2 kp len none x.2.1 x.2.2.1 x.2.2.2.1 x.2.2.2.2) x.1 s 0 pp (2 - 1) hr hw (by decide) (by omega) (by decide)) cd_X5_bookingsOf wm_X5_153 0 rfl rfl rfl [0, 1] rfl rfl ⟨Nat.le_of_ble_eq_true rfl, Nat.le_of_ble_eq_true rfl⟩ ⟨Nat.zero_le _, Nat.zero_le _⟩ rfl (Nat.le_of_ble_eq_true rfl) dX5_member_69 ?_
      have e : oMember s (nI pp) (nI 2) = (nI (cB s 0 pp (2 - 1))) := by unfold oMember; simp only [epp]; rw [if_pos h5, if_neg (by omega), if_neg (by omega), if_pos hs] <;> rfl
      exact j_endI (pc := 72) E dX5_member_72 (by rw [e]) rfl
    · refine j_swIn (pc := 11) X (off := 52) (tgt := 63) dX5_member_11 (by omega) (by omega) (by rw [hs]; rfl) (by decide) ?_
      obtain rfl : w0 = nI 3 := by rw [← Int32.toInt_inj, hs, nI_toInt (by decide)]; rfl
      refine j_aload_n (pc := 63) X dX5_member_63 rfl (q := 0) rfl ?_
      refine j_iconst (pc := 64) X (v := (nI 0)) dX5_member_64 (by decide) ?_
      refine j_iload_n (pc := 65) X dX5_member_65 rfl (q := 1) rfl ?_
      refine j_iload_n (pc := 66) X dX5_member_66 rfl (q := 2) rfl ?_
      refine j_iconst (pc := 67) X (v := (nI 1)) dX5_member_67 (by decide) ?_
      refine j_isub (pc := 68) X (v := (nI (3 - 1))) dX5_member_68 (pk_sub (by omega)) ?_
      refine j_callVR (pc := 69) X (st := [])  (c_X5_bookingsOf l D tA m (mfs m v.2.2 kp len none x.2.1 x.2.2.1 x.2.2.2.1 x.2.2.2.2) x.1 s 0 pp (3 - 1) hr hw (by decide) (by omega) (by decide)) cd_X5_bookingsOf wm_X5_153 0 rfl rfl rfl [0, 1] rfl rfl ⟨Nat.le_of_ble_eq_true rfl, Nat.le_of_ble_eq_true rfl⟩ ⟨Nat.zero_le _, Nat.zero_le _⟩ rfl (Nat.le_of_ble_eq_true rfl) dX5_member_69 ?_
      have e : oMember s (nI pp) (nI 3) = (nI (cB s 0 pp (3 - 1))) := by unfold oMember; simp only [epp]; rw [if_pos h5, if_neg (by omega), if_neg (by omega), if_neg (by omega), if_pos hs] <;> rfl
      exact j_endI (pc := 72) E dX5_member_72 (by rw [e]) rfl
    · refine j_swIn (pc := 11) X (off := 52) (tgt := 63) dX5_member_11 (by omega) (by omega) (by rw [hs]; rfl) (by decide) ?_
      obtain rfl : w0 = nI 4 := by rw [← Int32.toInt_inj, hs, nI_toInt (by decide)]; rfl
      refine j_aload_n (pc := 63) X dX5_member_63 rfl (q := 0) rfl ?_
      refine j_iconst (pc := 64) X (v := (nI 0)) dX5_member_64 (by decide) ?_
      refine j_iload_n (pc := 65) X dX5_member_65 rfl (q := 1) rfl ?_
      refine j_iload_n (pc := 66) X dX5_member_66 rfl (q := 2) rfl ?_
      refine j_iconst (pc := 67) X (v := (nI 1)) dX5_member_67 (by decide) ?_
      refine j_isub (pc := 68) X (v := (nI (4 - 1))) dX5_member_68 (pk_sub (by omega)) ?_
      refine j_callVR (pc := 69) X (st := [])  (c_X5_bookingsOf l D tA m (mfs m v.2.2 kp len none x.2.1 x.2.2.1 x.2.2.2.1 x.2.2.2.2) x.1 s 0 pp (4 - 1) hr hw (by decide) (by omega) (by decide)) cd_X5_bookingsOf wm_X5_153 0 rfl rfl rfl [0, 1] rfl rfl ⟨Nat.le_of_ble_eq_true rfl, Nat.le_of_ble_eq_true rfl⟩ ⟨Nat.zero_le _, Nat.zero_le _⟩ rfl (Nat.le_of_ble_eq_true rfl) dX5_member_69 ?_
      have e : oMember s (nI pp) (nI 4) = (nI (cB s 0 pp (4 - 1))) := by unfold oMember; simp only [epp]; rw [if_pos h5, if_neg (by omega), if_neg (by omega), if_neg (by omega), if_neg (by omega), if_pos hs] <;> rfl
      exact j_endI (pc := 72) E dX5_member_72 (by rw [e]) rfl
    · refine j_swIn (pc := 11) X (off := 62) (tgt := 73) dX5_member_11 (by omega) (by omega) (by rw [hs]; rfl) (by decide) ?_
      obtain rfl : w0 = nI 5 := by rw [← Int32.toInt_inj, hs, nI_toInt (by decide)]; rfl
      refine j_aload_n (pc := 73) X dX5_member_73 rfl (q := 0) rfl ?_
      refine j_get (pc := 74) X (C := RX5) (T := TX5) (N := 10) wz_X5 0 rfl rfl 0 (by decide) wf_X5_7 rfl dX5_member_74 ?_
      refine j_iload_n (pc := 77) X dX5_member_77 rfl (q := 1) rfl ?_
      refine j_iconst (pc := 78) X (v := (nI 1)) dX5_member_78 (by decide) ?_
      refine j_callSR (pc := 79) X (st := [.ref (m 1)])  (c_X5_ofMember l D tA pp 1 ) cd_X5_ofMember wm_X5_42 rfl [] rfl rfl ⟨Nat.le_of_ble_eq_true rfl, Nat.le_of_ble_eq_true rfl⟩ ⟨Nat.zero_le _, Nat.zero_le _⟩ rfl (Nat.le_of_ble_eq_true rfl) dX5_member_79 ?_
      refine j_iald (pc := 82) X 1 (i := (29 + 2 * pp + 1)) rfl (by omega) (by omega) dX5_member_82 ?_
      refine j_top (v' := nI (tGet 2 (sP s) pp 1)) (congrArg nI (RB.p hr hc5 (by omega))) ?_
      have e : oMember s (nI pp) (nI 5) = (nI (tGet 2 (sP s) pp 1)) := by unfold oMember; simp only [epp]; rw [if_pos h5, if_neg (by omega), if_neg (by omega), if_neg (by omega), if_neg (by omega), if_neg (by omega), if_pos hs] <;> rfl
      exact j_endI (pc := 83) E dX5_member_83 (by rw [e]) rfl
    · refine j_swIn (pc := 11) X (off := 73) (tgt := 84) dX5_member_11 (by omega) (by omega) (by rw [hs]; rfl) (by decide) ?_
      obtain rfl : w0 = nI 6 := by rw [← Int32.toInt_inj, hs, nI_toInt (by decide)]; rfl
      refine j_aload_n (pc := 84) X dX5_member_84 rfl (q := 0) rfl ?_
      refine j_iconst (pc := 85) X (v := (nI 0)) dX5_member_85 (by decide) ?_
      refine j_iload_n (pc := 86) X dX5_member_86 rfl (q := 1) rfl ?_
      refine j_callVR (pc := 87) X (st := [])  (c_X5_movesOf l D tA m (mfs m v.2.2 kp len none x.2.1 x.2.2.1 x.2.2.2.1 x.2.2.2.2) x.1 s 0 pp hr hw (by decide) (by omega)) cd_X5_movesOf wm_X5_156 0 rfl rfl rfl [0, 1] rfl rfl ⟨Nat.le_of_ble_eq_true rfl, Nat.le_of_ble_eq_true rfl⟩ ⟨Nat.zero_le _, Nat.zero_le _⟩ rfl (Nat.le_of_ble_eq_true rfl) dX5_member_87 ?_
      have e : oMember s (nI pp) (nI 6) = (nI (cV s 0 pp)) := by unfold oMember; simp only [epp]; rw [if_pos h5, if_neg (by omega), if_neg (by omega), if_neg (by omega), if_neg (by omega), if_neg (by omega), if_neg (by omega), if_pos hs] <;> rfl
      exact j_endI (pc := 90) E dX5_member_90 (by rw [e]) rfl
  · skip
    skip
    refine j_iconst (pc := 8) X (v := (-1)) dX5_member_8 (by decide) ?_
    have e : oMember s p0 w0 = (-1) := by unfold oMember; rw [if_neg h5] <;> rfl
    exact j_endI (pc := 9) E dX5_member_9 (by rw [e]) rfl
theorem cd_X5_booking : kCardV yX5_booking cX5_booking 3 (some .int) 2 := ⟨⟨wc_X5_booking, wi_X5, by decide +kernel, by decide +kernel, rfl⟩, wk_X5_booking, ws_X5_booking⟩
set_option maxHeartbeats 4000000 in
set_option maxRecDepth 100000 in
theorem c_X5_booking (l : Launch) (D : va_G) (tA : Nat → ClassId) (m : Nat → Nat) (x : MX) (s sn : Sg) (v : Hs) (kp : Bool) (len : Nat) (b0 w0 : Int32) (hrel : RelM s sn v kp x.1) : Kx l D tA yX5_booking cX5_booking 3 (some .int) 2 43 [.ref (m 0), .int b0, .int w0] (mW tA m v.2.2 kp len x) (some (.int (oBooking s b0 w0))) (mW tA m v.2.2 kp len x) := by
  refine kx_int rfl (Nat.le_of_ble_eq_true rfl) (fun G X E => ?_)
  show J l D G 0 0 (mW tA m v.2.2 kp len x) [(0, .ref (m 0)), (1, .int b0), (2, .int w0)] 0 []
  have hr := hrel.1
  have hok := hrel.2.1
  have hw := hok.1
  have hn := hw.n
  have hsz := hrel.2.2.2.1
  refine j_aload_n (pc := 0) X dX5_booking_0 rfl (q := 0) rfl ?_
  refine j_iload_n (pc := 1) X dX5_booking_1 rfl (q := 1) rfl ?_
  refine j_callVR (pc := 2) X (st := [])  (c_X5_isBooking l D tA m (mfs m v.2.2 kp len none x.2.1 x.2.2.1 x.2.2.2.1 x.2.2.2.2) x.1 s b0 hr hw ) cd_X5_isBooking wm_X5_76 0 rfl rfl rfl [0, 1] rfl rfl ⟨Nat.le_of_ble_eq_true rfl, Nat.le_of_ble_eq_true rfl⟩ ⟨Nat.zero_le _, Nat.zero_le _⟩ rfl (Nat.le_of_ble_eq_true rfl) dX5_booking_2 ?_
  refine j_if_ne (pc := 5) X (tgt := 10) (P := (inR b0 (sB s).1) = true) dX5_booking_5 (by decide) (bI_n0 _) (fun h5 => ?_) (fun h5 => ?_)
  · skip
    skip
    obtain ⟨bb, hc5, rfl⟩ := inR_t h5
    have ebb : tn (nI bb) = bb := tn_nI (by omega)
    have hb0 := hw.b hc5
    refine j_iload_n (pc := 10) X dX5_booking_10 rfl (q := 2) rfl ?_
    refine j_iconst (pc := 11) X (v := (nI 0)) dX5_booking_11 (by decide) ?_
    refine j_bipush (pc := 12) X (v := (nI 7)) dX5_booking_12 (by decide) ?_
    refine j_callSR (pc := 14) X (st := [])  (c_X5_in l D tA w0 (nI 0) (nI 7) ) cd_X5_in wm_X5_20 rfl [] rfl rfl ⟨Nat.le_of_ble_eq_true rfl, Nat.le_of_ble_eq_true rfl⟩ ⟨Nat.zero_le _, Nat.zero_le _⟩ rfl (Nat.le_of_ble_eq_true rfl) dX5_booking_14 ?_
    refine j_if_eq (pc := 17) X (tgt := 33) (P := (isW w0 (nI 0) (nI 7)) = false) dX5_booking_17 (by decide) (bI_0 _) (fun h17 => ?_) (fun h17 => ?_)
    · skip
      have h17 := nf5 h17
      refine j_iload_n (pc := 33) X dX5_booking_33 rfl (q := 2) rfl ?_
      refine j_bipush (pc := 34) X (v := (nI 8)) dX5_booking_34 (by decide) ?_
      refine j_icmp_ne (pc := 36) X (tgt := 65) (P := ¬ w0.toInt = ((8 : Nat) : Int)) dX5_booking_36 (by decide) (not_congr (iC_eqn (by omega))) (fun h36 => ?_) (fun h36 => ?_)
      · skip
        refine j_bipush (pc := 65) X (v := (-2)) dX5_booking_65 (by decide) ?_
        have e : oBooking s (nI bb) w0 = (-2) := by unfold oBooking; simp only [ebb]; rw [if_pos h5, if_neg (by omega), if_neg h17] <;> rfl
        exact j_endI (pc := 67) E dX5_booking_67 (by rw [e]) rfl
      · skip
        refine j_aload_n (pc := 39) X dX5_booking_39 rfl (q := 0) rfl ?_
        refine j_get (pc := 40) X (C := RX5) (T := TX5) (N := 10) wz_X5 0 rfl rfl 0 (by decide) wf_X5_7 rfl dX5_booking_40 ?_
        refine j_iload_n (pc := 43) X dX5_booking_43 rfl (q := 1) rfl ?_
        refine j_iconst (pc := 44) X (v := (nI 3)) dX5_booking_44 (by decide) ?_
        refine j_callSR (pc := 45) X (st := [.ref (m 1)])  (c_X5_ofBooking l D tA bb 3 ) cd_X5_ofBooking wm_X5_53 rfl [] rfl rfl ⟨Nat.le_of_ble_eq_true rfl, Nat.le_of_ble_eq_true rfl⟩ ⟨Nat.zero_le _, Nat.zero_le _⟩ rfl (Nat.le_of_ble_eq_true rfl) dX5_booking_45 ?_
        refine j_iald (pc := 48) X 1 (i := (45 + 8 * bb + 3)) rfl (by omega) (by omega) dX5_booking_48 ?_
        refine j_top (v' := nI (tGet 8 (sB s) bb 3)) (congrArg nI (RB.b hr hc5 (by omega))) ?_
        refine j_aload_n (pc := 49) X dX5_booking_49 rfl (q := 0) rfl ?_
        refine j_get (pc := 50) X (C := RX5) (T := TX5) (N := 10) wz_X5 0 rfl rfl 0 (by decide) wf_X5_7 rfl dX5_booking_50 ?_
        refine j_iload_n (pc := 53) X dX5_booking_53 rfl (q := 1) rfl ?_
        refine j_iconst (pc := 54) X (v := (nI 4)) dX5_booking_54 (by decide) ?_
        refine j_callSR (pc := 55) X (st := [.ref (m 1), .int (nI (tGet 8 (sB s) bb 3))])  (c_X5_ofBooking l D tA bb 4 ) cd_X5_ofBooking wm_X5_53 rfl [] rfl rfl ⟨Nat.le_of_ble_eq_true rfl, Nat.le_of_ble_eq_true rfl⟩ ⟨Nat.zero_le _, Nat.zero_le _⟩ rfl (Nat.le_of_ble_eq_true rfl) dX5_booking_55 ?_
        refine j_iald (pc := 58) X 1 (i := (45 + 8 * bb + 4)) rfl (by omega) (by omega) dX5_booking_58 ?_
        refine j_top (v' := nI (tGet 8 (sB s) bb 4)) (congrArg nI (RB.b hr hc5 (by omega))) ?_
        refine j_callSR (pc := 59) X (st := [])  (c_X5_limitOf l D tA (tGet 8 (sB s) bb 3) (tGet 8 (sB s) bb 4) (by omega) (by omega)) cd_X5_limitOf wm_X5_104 rfl [] rfl rfl ⟨Nat.le_of_ble_eq_true rfl, Nat.le_of_ble_eq_true rfl⟩ ⟨Nat.zero_le _, Nat.zero_le _⟩ rfl (Nat.le_of_ble_eq_true rfl) dX5_booking_59 ?_
        refine j_goto (pc := 62) X (tgt := 67) dX5_booking_62 (by decide) ?_
        have e : oBooking s (nI bb) w0 = (nI (limN (tGet 8 (sB s) bb 3) (tGet 8 (sB s) bb 4))) := by unfold oBooking; simp only [ebb]; rw [if_pos h5, if_pos (by omega)] <;> rfl
        exact j_endI (pc := 67) E dX5_booking_67 (by rw [e]) rfl
    · skip
      have h17 := t5 h17
      obtain ⟨ww, hc17, rfl⟩ := isW_t (by omega) (by omega) h17
      have eww : tn (nI ww) = ww := tn_nI (by omega)
      refine j_aload_n (pc := 20) X dX5_booking_20 rfl (q := 0) rfl ?_
      refine j_get (pc := 21) X (C := RX5) (T := TX5) (N := 10) wz_X5 0 rfl rfl 0 (by decide) wf_X5_7 rfl dX5_booking_21 ?_
      refine j_iload_n (pc := 24) X dX5_booking_24 rfl (q := 1) rfl ?_
      refine j_iload_n (pc := 25) X dX5_booking_25 rfl (q := 2) rfl ?_
      refine j_callSR (pc := 26) X (st := [.ref (m 1)])  (c_X5_ofBooking l D tA bb ww ) cd_X5_ofBooking wm_X5_53 rfl [] rfl rfl ⟨Nat.le_of_ble_eq_true rfl, Nat.le_of_ble_eq_true rfl⟩ ⟨Nat.zero_le _, Nat.zero_le _⟩ rfl (Nat.le_of_ble_eq_true rfl) dX5_booking_26 ?_
      refine j_iald (pc := 29) X 1 (i := (45 + 8 * bb + ww)) rfl (by omega) (by omega) dX5_booking_29 ?_
      refine j_top (v' := nI (tGet 8 (sB s) bb ww)) (congrArg nI (RB.b hr hc5 (by omega))) ?_
      refine j_goto (pc := 30) X (tgt := 67) dX5_booking_30 (by decide) ?_
      have e : oBooking s (nI bb) (nI ww) = (nI (tGet 8 (sB s) bb ww)) := by unfold oBooking; simp only [ebb, eww]; rw [if_pos h5, if_neg (by rw [nI_toInt (by omega)]; omega), if_pos h17] <;> rfl
      exact j_endI (pc := 67) E dX5_booking_67 (by rw [e]) rfl
  · skip
    skip
    refine j_iconst (pc := 8) X (v := (-1)) dX5_booking_8 (by decide) ?_
    have e : oBooking s b0 w0 = (-1) := by unfold oBooking; rw [if_neg h5] <;> rfl
    exact j_endI (pc := 9) E dX5_booking_9 (by rw [e]) rfl
theorem cd_X5_move : kCardV yX5_move cX5_move 3 (some .int) 2 := ⟨⟨wc_X5_move, wi_X5, by decide +kernel, by decide +kernel, rfl⟩, wk_X5_move, ws_X5_move⟩
set_option maxHeartbeats 4000000 in
set_option maxRecDepth 100000 in
theorem c_X5_move (l : Launch) (D : va_G) (tA : Nat → ClassId) (m : Nat → Nat) (x : MX) (s sn : Sg) (v : Hs) (kp : Bool) (len : Nat) (v0 w0 : Int32) (hrel : RelM s sn v kp x.1) : Kx l D tA yX5_move cX5_move 3 (some .int) 2 43 [.ref (m 0), .int v0, .int w0] (mW tA m v.2.2 kp len x) (some (.int (oMove s v0 w0))) (mW tA m v.2.2 kp len x) := by
  refine kx_int rfl (Nat.le_of_ble_eq_true rfl) (fun G X E => ?_)
  show J l D G 0 0 (mW tA m v.2.2 kp len x) [(0, .ref (m 0)), (1, .int v0), (2, .int w0)] 0 []
  have hr := hrel.1
  have hok := hrel.2.1
  have hw := hok.1
  have hn := hw.n
  have hsz := hrel.2.2.2.1
  refine j_aload_n (pc := 0) X dX5_move_0 rfl (q := 0) rfl ?_
  refine j_iload_n (pc := 1) X dX5_move_1 rfl (q := 1) rfl ?_
  refine j_callVR (pc := 2) X (st := [])  (c_X5_isMove l D tA m (mfs m v.2.2 kp len none x.2.1 x.2.2.1 x.2.2.2.1 x.2.2.2.2) x.1 s v0 hr hw ) cd_X5_isMove wm_X5_91 0 rfl rfl rfl [0, 1] rfl rfl ⟨Nat.le_of_ble_eq_true rfl, Nat.le_of_ble_eq_true rfl⟩ ⟨Nat.zero_le _, Nat.zero_le _⟩ rfl (Nat.le_of_ble_eq_true rfl) dX5_move_2 ?_
  refine j_if_ne (pc := 5) X (tgt := 10) (P := (inR v0 (sV s).1) = true) dX5_move_5 (by decide) (bI_n0 _) (fun h5 => ?_) (fun h5 => ?_)
  · skip
    skip
    obtain ⟨vv, hc5, rfl⟩ := inR_t h5
    have evv : tn (nI vv) = vv := tn_nI (by omega)
    refine j_iload_n (pc := 10) X dX5_move_10 rfl (q := 2) rfl ?_
    refine j_iconst (pc := 11) X (v := (nI 0)) dX5_move_11 (by decide) ?_
    refine j_iconst (pc := 12) X (v := (nI 4)) dX5_move_12 (by decide) ?_
    refine j_callSR (pc := 13) X (st := [])  (c_X5_in l D tA w0 (nI 0) (nI 4) ) cd_X5_in wm_X5_20 rfl [] rfl rfl ⟨Nat.le_of_ble_eq_true rfl, Nat.le_of_ble_eq_true rfl⟩ ⟨Nat.zero_le _, Nat.zero_le _⟩ rfl (Nat.le_of_ble_eq_true rfl) dX5_move_13 ?_
    refine j_if_eq (pc := 16) X (tgt := 32) (P := (isW w0 (nI 0) (nI 4)) = false) dX5_move_16 (by decide) (bI_0 _) (fun h16 => ?_) (fun h16 => ?_)
    · skip
      have h16 := nf5 h16
      refine j_bipush (pc := 32) X (v := (-2)) dX5_move_32 (by decide) ?_
      have e : oMove s (nI vv) w0 = (-2) := by unfold oMove; simp only [evv]; rw [if_pos h5, if_neg h16] <;> rfl
      exact j_endI (pc := 34) E dX5_move_34 (by rw [e]) rfl
    · skip
      have h16 := t5 h16
      obtain ⟨ww, hc16, rfl⟩ := isW_t (by omega) (by omega) h16
      have eww : tn (nI ww) = ww := tn_nI (by omega)
      refine j_aload_n (pc := 19) X dX5_move_19 rfl (q := 0) rfl ?_
      refine j_get (pc := 20) X (C := RX5) (T := TX5) (N := 10) wz_X5 0 rfl rfl 0 (by decide) wf_X5_7 rfl dX5_move_20 ?_
      refine j_iload_n (pc := 23) X dX5_move_23 rfl (q := 1) rfl ?_
      refine j_iload_n (pc := 24) X dX5_move_24 rfl (q := 2) rfl ?_
      refine j_callSR (pc := 25) X (st := [.ref (m 1)])  (c_X5_ofMove l D tA vv ww ) cd_X5_ofMove wm_X5_88 rfl [] rfl rfl ⟨Nat.le_of_ble_eq_true rfl, Nat.le_of_ble_eq_true rfl⟩ ⟨Nat.zero_le _, Nat.zero_le _⟩ rfl (Nat.le_of_ble_eq_true rfl) dX5_move_25 ?_
      refine j_iald (pc := 28) X 1 (i := (285 + 5 * vv + ww)) rfl (by omega) (by omega) dX5_move_28 ?_
      refine j_top (v' := nI (tGet 5 (sV s) vv ww)) (congrArg nI (RB.v hr hc5 (by omega))) ?_
      refine j_goto (pc := 29) X (tgt := 34) dX5_move_29 (by decide) ?_
      have e : oMove s (nI vv) (nI ww) = (nI (tGet 5 (sV s) vv ww)) := by unfold oMove; simp only [evv, eww]; rw [if_pos h5, if_pos h16] <;> rfl
      exact j_endI (pc := 34) E dX5_move_34 (by rw [e]) rfl
  · skip
    skip
    refine j_iconst (pc := 8) X (v := (-1)) dX5_move_8 (by decide) ?_
    have e : oMove s v0 w0 = (-1) := by unfold oMove; rw [if_neg h5] <;> rfl
    exact j_endI (pc := 9) E dX5_move_9 (by rw [e]) rfl
theorem cd_X5_bookedAt : kCardV yX5_bookedAt cX5_bookedAt 3 (some .int) 2 := ⟨⟨wc_X5_bookedAt, wi_X5, by decide +kernel, by decide +kernel, rfl⟩, wk_X5_bookedAt, ws_X5_bookedAt⟩
set_option maxHeartbeats 4000000 in
set_option maxRecDepth 100000 in
theorem c_X5_bookedAt (l : Launch) (D : va_G) (tA : Nat → ClassId) (m : Nat → Nat) (x : MX) (s sn : Sg) (v : Hs) (kp : Bool) (len : Nat) (m0 t0 : Int32) (hrel : RelM s sn v kp x.1) : Kx l D tA yX5_bookedAt cX5_bookedAt 3 (some .int) 2 44 [.ref (m 0), .int m0, .int t0] (mW tA m v.2.2 kp len x) (some (.int (oBookedAt s m0 t0))) (mW tA m v.2.2 kp len x) := by
  refine kx_int rfl (Nat.le_of_ble_eq_true rfl) (fun G X E => ?_)
  show J l D G 0 0 (mW tA m v.2.2 kp len x) [(0, .ref (m 0)), (1, .int m0), (2, .int t0)] 0 []
  have hr := hrel.1
  have hok := hrel.2.1
  have hw := hok.1
  have hn := hw.n
  have hsz := hrel.2.2.2.1
  refine j_aload_n (pc := 0) X dX5_bookedAt_0 rfl (q := 0) rfl ?_
  refine j_iload_n (pc := 1) X dX5_bookedAt_1 rfl (q := 1) rfl ?_
  refine j_callVR (pc := 2) X (st := [])  (c_X5_isMachine l D tA m (mfs m v.2.2 kp len none x.2.1 x.2.2.1 x.2.2.2.1 x.2.2.2.2) x.1 s m0 hr hw ) cd_X5_isMachine wm_X5_59 0 rfl rfl rfl [0, 1] rfl rfl ⟨Nat.le_of_ble_eq_true rfl, Nat.le_of_ble_eq_true rfl⟩ ⟨Nat.zero_le _, Nat.zero_le _⟩ rfl (Nat.le_of_ble_eq_true rfl) dX5_bookedAt_2 ?_
  refine j_if_eq (pc := 5) X (tgt := 28) (P := (inR m0 (sM s).1) = false) dX5_bookedAt_5 (by decide) (bI_0 _) (fun h5 => ?_) (fun h5 => ?_)
  · skip
    have h5 := nf5 h5
    refine j_iconst (pc := 28) X (v := (-1)) dX5_bookedAt_28 (by decide) ?_
    have e : oBookedAt s m0 t0 = (-1) := by unfold oBookedAt; rw [if_neg (fun q => h5 q.1)] <;> rfl
    exact j_endI (pc := 29) E dX5_bookedAt_29 (by rw [e]) rfl
  · skip
    have h5 := t5 h5
    obtain ⟨mm, hc5, rfl⟩ := inR_t h5
    have emm : tn (nI mm) = mm := tn_nI (by omega)
    refine j_iload_n (pc := 8) X dX5_bookedAt_8 rfl (q := 2) rfl ?_
    refine j_iconst (pc := 9) X (v := (nI 0)) dX5_bookedAt_9 (by decide) ?_
    refine j_sipush (pc := 10) X (v := (nI 199)) dX5_bookedAt_10 (by decide) ?_
    refine j_callSR (pc := 13) X (st := [])  (c_X5_in l D tA t0 (nI 0) (nI 199) ) cd_X5_in wm_X5_20 rfl [] rfl rfl ⟨Nat.le_of_ble_eq_true rfl, Nat.le_of_ble_eq_true rfl⟩ ⟨Nat.zero_le _, Nat.zero_le _⟩ rfl (Nat.le_of_ble_eq_true rfl) dX5_bookedAt_13 ?_
    refine j_if_eq (pc := 16) X (tgt := 28) (P := (isW t0 (nI 0) (nI 199)) = false) dX5_bookedAt_16 (by decide) (bI_0 _) (fun h16 => ?_) (fun h16 => ?_)
    · skip
      have h16 := nf5 h16
      refine j_iconst (pc := 28) X (v := (-1)) dX5_bookedAt_28 (by decide) ?_
      have e : oBookedAt s (nI mm) t0 = (-1) := by unfold oBookedAt; simp only [emm]; rw [if_neg (fun q => h16 (isW_200.trans q.2))] <;> rfl
      exact j_endI (pc := 29) E dX5_bookedAt_29 (by rw [e]) rfl
    · skip
      have h16 := t5 h16
      obtain ⟨tt, hc16, rfl⟩ := isW_t (by omega) (by omega) h16
      have ett : tn (nI tt) = tt := tn_nI (by omega)
      refine j_aload_n (pc := 19) X dX5_bookedAt_19 rfl (q := 0) rfl ?_
      refine j_iload_n (pc := 20) X dX5_bookedAt_20 rfl (q := 1) rfl ?_
      refine j_iload_n (pc := 21) X dX5_bookedAt_21 rfl (q := 2) rfl ?_
      refine j_callVR (pc := 22) X (st := [])  (c_X5_bookingAt l D tA m (mfs m v.2.2 kp len none x.2.1 x.2.2.1 x.2.2.2.1 x.2.2.2.2) x.1 s mm tt hr hw (by omega) (by omega)) cd_X5_bookingAt wm_X5_69 0 rfl rfl rfl [0, 1] rfl rfl ⟨Nat.le_of_ble_eq_true rfl, Nat.le_of_ble_eq_true rfl⟩ ⟨Nat.zero_le _, Nat.zero_le _⟩ rfl (Nat.le_of_ble_eq_true rfl) dX5_bookedAt_22 ?_
      refine j_goto (pc := 25) X (tgt := 29) dX5_bookedAt_25 (by decide) ?_
      have e : oBookedAt s (nI mm) (nI tt) = (rO (bkF (sB s) mm tt)) := by unfold oBookedAt; simp only [emm, ett]; rw [if_pos ⟨h5, isW_200.symm.trans h16⟩] <;> rfl
      exact j_endI (pc := 29) E dX5_bookedAt_29 (by rw [e]) rfl
theorem cd_X5_machineFor : kCardV yX5_machineFor cX5_machineFor 5 (some .int) 3 := ⟨⟨wc_X5_machineFor, wi_X5, by decide +kernel, by decide +kernel, rfl⟩, wk_X5_machineFor, ws_X5_machineFor⟩
set_option maxHeartbeats 4000000 in
set_option maxRecDepth 100000 in
theorem c_X5_machineFor (l : Launch) (D : va_G) (tA : Nat → ClassId) (m : Nat → Nat) (x : MX) (s sn : Sg) (v : Hs) (kp : Bool) (len : Nat) (t0 l0 r0 : Int32) (hrel : RelM s sn v kp x.1) : Kx l D tA yX5_machineFor cX5_machineFor 5 (some .int) 2 46 [.ref (m 0), .int t0, .int l0, .int r0] (mW tA m v.2.2 kp len x) (some (.int (oMachineFor s t0 l0 r0))) (mW tA m v.2.2 kp len x) := by
  refine kx_int rfl (Nat.le_of_ble_eq_true rfl) (fun G X E => ?_)
  show J l D G 0 0 (mW tA m v.2.2 kp len x) [(0, .ref (m 0)), (1, .int t0), (2, .int l0), (3, .int r0)] 0 []
  have hr := hrel.1
  have hok := hrel.2.1
  have hw := hok.1
  have hn := hw.n
  have hsz := hrel.2.2.2.1
  refine j_aload_n (pc := 0) X dX5_machineFor_0 rfl (q := 0) rfl ?_
  refine j_iload_n (pc := 1) X dX5_machineFor_1 rfl (q := 1) rfl ?_
  refine j_callVR (pc := 2) X (st := [])  (c_X5_isToCome l D tA m (mfs m v.2.2 kp len none x.2.1 x.2.2.1 x.2.2.2.1 x.2.2.2.2) x.1 s t0 hr hw ) cd_X5_isToCome wm_X5_45 0 rfl rfl rfl [0, 1] rfl rfl ⟨Nat.le_of_ble_eq_true rfl, Nat.le_of_ble_eq_true rfl⟩ ⟨Nat.zero_le _, Nat.zero_le _⟩ rfl (Nat.le_of_ble_eq_true rfl) dX5_machineFor_2 ?_
  refine j_if_ne (pc := 5) X (tgt := 10) (P := (toCome s t0) = true) dX5_machineFor_5 (by decide) (bI_n0 _) (fun h5 => ?_) (fun h5 => ?_)
  · skip
    skip
    obtain ⟨tt, hc5, rfl⟩ := toCome_t h5
    have ett : tn (nI tt) = tt := tn_nI (by omega)
    refine j_iload_n (pc := 10) X dX5_machineFor_10 rfl (q := 2) rfl ?_
    refine j_iload_n (pc := 11) X dX5_machineFor_11 rfl (q := 3) rfl ?_
    refine j_callSR (pc := 12) X (st := [])  (c_X5_isLift l D tA l0 r0 ) cd_X5_isLift wm_X5_62 rfl [] rfl rfl ⟨Nat.le_of_ble_eq_true rfl, Nat.le_of_ble_eq_true rfl⟩ ⟨Nat.zero_le _, Nat.zero_le _⟩ rfl (Nat.le_of_ble_eq_true rfl) dX5_machineFor_12 ?_
    refine j_if_ne (pc := 15) X (tgt := 21) (P := (isLft l0 r0) = true) dX5_machineFor_15 (by decide) (bI_n0 _) (fun h15 => ?_) (fun h15 => ?_)
    · skip
      skip
      obtain ⟨ll, rr, hc15, rfl, rfl⟩ := isLft_t h15
      have ell : tn (nI ll) = ll := tn_nI (by omega)
      have err : tn (nI rr) = rr := tn_nI (by omega)
      refine j_iconst (pc := 21) X (v := (nI 0)) dX5_machineFor_21 (by decide) ?_
      refine j_istore (pc := 22) X (lv' := [(4, .int (nI 0)), (0, .ref (m 0)), (1, .int (nI tt)), (2, .int (nI ll)), (3, .int (nI rr))]) dX5_machineFor_22 (by decide) rfl ?_
      have L_24 : ∀ (fu : Nat) (i : Nat), i ≤ (sM s).1 → fndN (fun m => canT s m tt ll rr) i = none → (sM s).1 - i < fu → J l D G 0 0 (mW tA m v.2.2 kp len x) [(0, .ref (m 0)), (1, .int (nI tt)), (2, .int (nI ll)), (3, .int (nI rr)), (4, .int (nI i))] 24 [] := by
        intro fu
        induction fu with
        | zero => intro i hi hk hfu; exact absurd hfu (Nat.not_lt_zero _)
        | succ fu ih_24 =>
          intro i hi hk hfu
          refine j_iload (pc := 24) X dX5_machineFor_24 (q := 4) rfl ?_
          refine j_aload_n (pc := 26) X dX5_machineFor_26 rfl (q := 0) rfl ?_
          refine j_get (pc := 27) X (C := RX5) (T := TX5) (N := 10) wz_X5 0 rfl rfl 0 (by decide) wf_X5_7 rfl dX5_machineFor_27 ?_
          refine j_iconst (pc := 30) X (v := (nI 1)) dX5_machineFor_30 (by decide) ?_
          refine j_iald (pc := 31) X 1 (i := 1) rfl (by omega) (by omega) dX5_machineFor_31 ?_
          refine j_top (v' := nI ((sM s).1)) (congrArg nI (RB.n1 hr)) ?_
          refine j_icmp_ge (pc := 32) X (tgt := 67) (P := ((sM s).1) ≤ i) dX5_machineFor_32 (by decide) (nI_leI (by omega) (by omega)) (fun h32 => ?_) (fun h32 => ?_)
          · skip
            refine j_bipush (pc := 67) X (v := (-5)) dX5_machineFor_67 (by decide) ?_
            have e : oMachineFor s (nI tt) (nI ll) (nI rr) = (-5) := by unfold oMachineFor; simp only [ett, ell, err]; rw [if_pos h5, if_pos h15, ← show i = (sM s).1 by omega, hk] <;> rfl
            exact j_endI (pc := 69) E dX5_machineFor_69 (by rw [e]) rfl
          · skip
            refine j_aload_n (pc := 35) X dX5_machineFor_35 rfl (q := 0) rfl ?_
            refine j_iload (pc := 36) X dX5_machineFor_36 (q := 4) rfl ?_
            refine j_iload_n (pc := 38) X dX5_machineFor_38 rfl (q := 2) rfl ?_
            refine j_iload_n (pc := 39) X dX5_machineFor_39 rfl (q := 3) rfl ?_
            refine j_callVR (pc := 40) X (st := [])  (c_X5_canBear l D tA m (mfs m v.2.2 kp len none x.2.1 x.2.2.1 x.2.2.2.1 x.2.2.2.2) x.1 s i ll rr hr hw (by omega) (by omega) (by omega)) cd_X5_canBear wm_X5_66 0 rfl rfl rfl [0, 1] rfl rfl ⟨Nat.le_of_ble_eq_true rfl, Nat.le_of_ble_eq_true rfl⟩ ⟨Nat.zero_le _, Nat.zero_le _⟩ rfl (Nat.le_of_ble_eq_true rfl) dX5_machineFor_40 ?_
            refine j_if_eq (pc := 43) X (tgt := 61) (P := (decide (ll ≤ brn (sM s) i rr)) = false) dX5_machineFor_43 (by decide) (bI_0 _) (fun h43 => ?_) (fun h43 => ?_)
            · skip
              have h43 := nf5 h43
              refine j_iinc (pc := 61) X (v := (nI (i + 1))) (lv' := [(4, .int (nI (i + 1))), (0, .ref (m 0)), (1, .int (nI tt)), (2, .int (nI ll)), (3, .int (nI rr))]) dX5_machineFor_61 (q := 4) rfl (nI_add _ _) (by decide) rfl ?_
              refine j_goto (pc := 64) X (tgt := 24) dX5_machineFor_64 (by decide) ?_
              refine j_lv X (lv' := [(0, .ref (m 0)), (1, .int (nI tt)), (2, .int (nI ll)), (3, .int (nI rr)), (4, .int (nI (i + 1)))]) [1, 2, 3, 4, 0] rfl ?_
              exact ih_24 (i + 1) (by omega) (fnd_no hk (fun q => h43 (decide_eq_true (of_decide_eq_true q).1))) (by omega)
            · skip
              have h43 := t5 h43
              refine j_aload_n (pc := 46) X dX5_machineFor_46 rfl (q := 0) rfl ?_
              refine j_iload (pc := 47) X dX5_machineFor_47 (q := 4) rfl ?_
              refine j_iload_n (pc := 49) X dX5_machineFor_49 rfl (q := 1) rfl ?_
              refine j_callVR (pc := 50) X (st := [])  (c_X5_bookingAt l D tA m (mfs m v.2.2 kp len none x.2.1 x.2.2.1 x.2.2.2.1 x.2.2.2.2) x.1 s i tt hr hw (by omega) (by omega)) cd_X5_bookingAt wm_X5_69 0 rfl rfl rfl [0, 1] rfl rfl ⟨Nat.le_of_ble_eq_true rfl, Nat.le_of_ble_eq_true rfl⟩ ⟨Nat.zero_le _, Nat.zero_le _⟩ rfl (Nat.le_of_ble_eq_true rfl) dX5_machineFor_50 ?_
              refine j_bipush (pc := 53) X (v := (-5)) dX5_machineFor_53 (by decide) ?_
              refine j_icmp_ne (pc := 55) X (tgt := 61) (P := ¬ (bkF (sB s) i tt) = none) dX5_machineFor_55 (by decide) (not_congr (rO_none (fun q hq => by have := bkF_lt hq; omega))) (fun h55 => ?_) (fun h55 => ?_)
              · skip
                refine j_iinc (pc := 61) X (v := (nI (i + 1))) (lv' := [(4, .int (nI (i + 1))), (0, .ref (m 0)), (1, .int (nI tt)), (2, .int (nI ll)), (3, .int (nI rr))]) dX5_machineFor_61 (q := 4) rfl (nI_add _ _) (by decide) rfl ?_
                refine j_goto (pc := 64) X (tgt := 24) dX5_machineFor_64 (by decide) ?_
                refine j_lv X (lv' := [(0, .ref (m 0)), (1, .int (nI tt)), (2, .int (nI ll)), (3, .int (nI rr)), (4, .int (nI (i + 1)))]) [1, 2, 3, 4, 0] rfl ?_
                exact ih_24 (i + 1) (by omega) (fnd_no hk (fun q => h55 (of_decide_eq_true q).2)) (by omega)
              · skip
                refine j_iload (pc := 58) X dX5_machineFor_58 (q := 4) rfl ?_
                have e : oMachineFor s (nI tt) (nI ll) (nI rr) = (nI i) := by unfold oMachineFor; simp only [ett, ell, err]; rw [if_pos h5, if_pos h15, fnd_up (fnd_at hk (decide_eq_true ⟨of_decide_eq_true h43, Decidable.not_not.mp h55⟩)) _ (by omega)] <;> rfl
                exact j_endI (pc := 60) E dX5_machineFor_60 (by rw [e]) rfl
      refine j_lv X (lv' := [(0, .ref (m 0)), (1, .int (nI tt)), (2, .int (nI ll)), (3, .int (nI rr)), (4, .int (nI 0))]) [1, 2, 3, 4, 0] rfl ?_
      exact L_24 _ 0 (Nat.zero_le _) rfl (Nat.lt_succ_self _)
    · skip
      skip
      refine j_bipush (pc := 18) X (v := (-2)) dX5_machineFor_18 (by decide) ?_
      have e : oMachineFor s (nI tt) l0 r0 = (-2) := by unfold oMachineFor; simp only [ett]; rw [if_pos h5, if_neg h15] <;> rfl
      exact j_endI (pc := 20) E dX5_machineFor_20 (by rw [e]) rfl
  · skip
    skip
    refine j_iconst (pc := 8) X (v := (-1)) dX5_machineFor_8 (by decide) ?_
    have e : oMachineFor s t0 l0 r0 = (-1) := by unfold oMachineFor; rw [if_neg h5] <;> rfl
    exact j_endI (pc := 9) E dX5_machineFor_9 (by rw [e]) rfl
theorem cd_X5_wind : kCardV yX5_wind cX5_wind 2 (some .int) 1 := ⟨⟨wc_X5_wind, wi_X5, by decide +kernel, by decide +kernel, rfl⟩, wk_X5_wind, ws_X5_wind⟩
set_option maxHeartbeats 4000000 in
set_option maxRecDepth 100000 in
theorem c_X5_wind (l : Launch) (D : va_G) (tA : Nat → ClassId) (m : Nat → Nat) (x : MX) (s sn : Sg) (v : Hs) (kp : Bool) (len : Nat) (t0 : Int32) (hrel : RelM s sn v kp x.1) : Kx l D tA yX5_wind cX5_wind 2 (some .int) 1 22 [.ref (m 0), .int t0] (mW tA m v.2.2 kp len x) (some (.int (oWind s t0))) (mW tA m v.2.2 kp len x) := by
  refine kx_int rfl (Nat.le_of_ble_eq_true rfl) (fun G X E => ?_)
  show J l D G 0 0 (mW tA m v.2.2 kp len x) [(0, .ref (m 0)), (1, .int t0)] 0 []
  have hr := hrel.1
  have hok := hrel.2.1
  have hw := hok.1
  have hn := hw.n
  have hsz := hrel.2.2.2.1
  refine j_iload_n (pc := 0) X dX5_wind_0 rfl (q := 1) rfl ?_
  refine j_iconst (pc := 1) X (v := (nI 0)) dX5_wind_1 (by decide) ?_
  refine j_sipush (pc := 2) X (v := (nI 199)) dX5_wind_2 (by decide) ?_
  refine j_callSR (pc := 5) X (st := [])  (c_X5_in l D tA t0 (nI 0) (nI 199) ) cd_X5_in wm_X5_20 rfl [] rfl rfl ⟨Nat.le_of_ble_eq_true rfl, Nat.le_of_ble_eq_true rfl⟩ ⟨Nat.zero_le _, Nat.zero_le _⟩ rfl (Nat.le_of_ble_eq_true rfl) dX5_wind_5 ?_
  refine j_if_eq (pc := 8) X (tgt := 24) (P := (isW t0 (nI 0) (nI 199)) = false) dX5_wind_8 (by decide) (bI_0 _) (fun h8 => ?_) (fun h8 => ?_)
  · skip
    have h8 := nf5 h8
    refine j_iconst (pc := 24) X (v := (-1)) dX5_wind_24 (by decide) ?_
    have e : oWind s t0 = (-1) := by unfold oWind; rw [if_neg (fun q => h8 (isW_200.trans q))] <;> rfl
    exact j_endI (pc := 25) E dX5_wind_25 (by rw [e]) rfl
  · skip
    have h8 := t5 h8
    obtain ⟨tt, hc8, rfl⟩ := isW_t (by omega) (by omega) h8
    have ett : tn (nI tt) = tt := tn_nI (by omega)
    refine j_aload_n (pc := 11) X dX5_wind_11 rfl (q := 0) rfl ?_
    refine j_get (pc := 12) X (C := RX5) (T := TX5) (N := 10) wz_X5 0 rfl rfl 0 (by decide) wf_X5_7 rfl dX5_wind_12 ?_
    refine j_sipush (pc := 15) X (v := (nI 335)) dX5_wind_15 (by decide) ?_
    refine j_iload_n (pc := 18) X dX5_wind_18 rfl (q := 1) rfl ?_
    refine j_iadd (pc := 19) X (v := (nI (335 + tt))) dX5_wind_19 (nI_add _ _) ?_
    refine j_iald (pc := 20) X 1 (i := (335 + tt)) rfl (by omega) (by omega) dX5_wind_20 ?_
    refine j_top (v' := nI (sW s tt)) (congrArg nI (RB.w hr (by omega))) ?_
    refine j_goto (pc := 21) X (tgt := 25) dX5_wind_21 (by decide) ?_
    have e : oWind s (nI tt) = (nI (sW s tt)) := by unfold oWind; simp only [ett]; rw [if_pos (isW_200.symm.trans h8)] <;> rfl
    exact j_endI (pc := 25) E dX5_wind_25 (by rw [e]) rfl
theorem cd_X5_windLimit : kCardV yX5_windLimit cX5_windLimit 3 (some .int) 2 := ⟨⟨wc_X5_windLimit, wi_X5, by decide +kernel, by decide +kernel, rfl⟩, wk_X5_windLimit, ws_X5_windLimit⟩
set_option maxHeartbeats 4000000 in
set_option maxRecDepth 100000 in
theorem c_X5_windLimit (l : Launch) (D : va_G) (tA : Nat → ClassId) (m : Nat → Nat) (x : MX) (s sn : Sg) (v : Hs) (kp : Bool) (len : Nat) (l0 r0 : Int32) (hrel : RelM s sn v kp x.1) : Kx l D tA yX5_windLimit cX5_windLimit 3 (some .int) 2 43 [.ref (m 0), .int l0, .int r0] (mW tA m v.2.2 kp len x) (some (.int (oLimit l0 r0))) (mW tA m v.2.2 kp len x) := by
  refine kx_int rfl (Nat.le_of_ble_eq_true rfl) (fun G X E => ?_)
  show J l D G 0 0 (mW tA m v.2.2 kp len x) [(0, .ref (m 0)), (1, .int l0), (2, .int r0)] 0 []
  have hr := hrel.1
  have hok := hrel.2.1
  have hw := hok.1
  have hn := hw.n
  have hsz := hrel.2.2.2.1
  refine j_iload_n (pc := 0) X dX5_windLimit_0 rfl (q := 1) rfl ?_
  refine j_iload_n (pc := 1) X dX5_windLimit_1 rfl (q := 2) rfl ?_
  refine j_callSR (pc := 2) X (st := [])  (c_X5_isLift l D tA l0 r0 ) cd_X5_isLift wm_X5_62 rfl [] rfl rfl ⟨Nat.le_of_ble_eq_true rfl, Nat.le_of_ble_eq_true rfl⟩ ⟨Nat.zero_le _, Nat.zero_le _⟩ rfl (Nat.le_of_ble_eq_true rfl) dX5_windLimit_2 ?_
  refine j_if_eq (pc := 5) X (tgt := 16) (P := (isLft l0 r0) = false) dX5_windLimit_5 (by decide) (bI_0 _) (fun h5 => ?_) (fun h5 => ?_)
  · skip
    have h5 := nf5 h5
    refine j_bipush (pc := 16) X (v := (-2)) dX5_windLimit_16 (by decide) ?_
    have e : oLimit l0 r0 = (-2) := by unfold oLimit; rw [if_neg h5] <;> rfl
    exact j_endI (pc := 18) E dX5_windLimit_18 (by rw [e]) rfl
  · skip
    have h5 := t5 h5
    obtain ⟨ll, rr, hc5, rfl, rfl⟩ := isLft_t h5
    have ell : tn (nI ll) = ll := tn_nI (by omega)
    have err : tn (nI rr) = rr := tn_nI (by omega)
    refine j_iload_n (pc := 8) X dX5_windLimit_8 rfl (q := 1) rfl ?_
    refine j_iload_n (pc := 9) X dX5_windLimit_9 rfl (q := 2) rfl ?_
    refine j_callSR (pc := 10) X (st := [])  (c_X5_limitOf l D tA ll rr (by omega) (by omega)) cd_X5_limitOf wm_X5_104 rfl [] rfl rfl ⟨Nat.le_of_ble_eq_true rfl, Nat.le_of_ble_eq_true rfl⟩ ⟨Nat.zero_le _, Nat.zero_le _⟩ rfl (Nat.le_of_ble_eq_true rfl) dX5_windLimit_10 ?_
    refine j_goto (pc := 13) X (tgt := 18) dX5_windLimit_13 (by decide) ?_
    have e : oLimit (nI ll) (nI rr) = (nI (limN ll rr)) := by unfold oLimit; simp only [ell, err]; rw [if_pos h5] <;> rfl
    exact j_endI (pc := 18) E dX5_windLimit_18 (by rw [e]) rfl
theorem cd_X5_count : kCardV yX5_count cX5_count 2 (some .int) 1 := ⟨⟨wc_X5_count, wi_X5, by decide +kernel, by decide +kernel, rfl⟩, wk_X5_count, ws_X5_count⟩
set_option maxHeartbeats 4000000 in
set_option maxRecDepth 100000 in
theorem c_X5_count (l : Launch) (D : va_G) (tA : Nat → ClassId) (m : Nat → Nat) (x : MX) (s sn : Sg) (v : Hs) (kp : Bool) (len : Nat) (w0 : Int32) (hrel : RelM s sn v kp x.1) : Kx l D tA yX5_count cX5_count 2 (some .int) 2 44 [.ref (m 0), .int w0] (mW tA m v.2.2 kp len x) (some (.int (oCount s v.2.2 len w0))) (mW tA m v.2.2 kp len x) := by
  refine kx_int rfl (Nat.le_of_ble_eq_true rfl) (fun G X E => ?_)
  show J l D G 0 0 (mW tA m v.2.2 kp len x) [(0, .ref (m 0)), (1, .int w0)] 0 []
  have hr := hrel.1
  have hok := hrel.2.1
  have hw := hok.1
  have hn := hw.n
  have hsz := hrel.2.2.2.1
  refine j_iload_n (pc := 0) X dX5_count_0 rfl (q := 1) rfl ?_
  rcases Decidable.em (w0.toInt < 0 ∨ 16 < w0.toInt) with hs | hs
  · refine j_swOut (pc := 1) X (tgt := 144) dX5_count_1 hs (by decide) ?_
    refine j_bipush (pc := 144) X (v := (-2)) dX5_count_144 (by decide) ?_
    have e : oCount s v.2.2 len w0 = (-2) := by unfold oCount; rw [if_neg (by omega), if_neg (by omega), if_neg (by omega), if_neg (by omega), if_neg (by omega), if_neg (by omega), if_neg (by omega), if_neg (by omega), if_neg (by omega), if_neg (by omega), if_neg (by omega), if_neg (by omega), if_neg (by omega), if_neg (by omega), if_neg (by omega), if_neg (by omega), if_neg (by omega)] <;> rfl
    exact j_endI (pc := 146) E dX5_count_146 (by rw [e]) rfl
  have hs : w0.toInt = 0 ∨ w0.toInt = 1 ∨ w0.toInt = 2 ∨ w0.toInt = 3 ∨ w0.toInt = 4 ∨ w0.toInt = 5 ∨ w0.toInt = 6 ∨ w0.toInt = 7 ∨ w0.toInt = 8 ∨ w0.toInt = 9 ∨ w0.toInt = 10 ∨ w0.toInt = 11 ∨ w0.toInt = 12 ∨ w0.toInt = 13 ∨ w0.toInt = 14 ∨ w0.toInt = 15 ∨ w0.toInt = 16 := by omega
  rcases hs with hs | hs | hs | hs | hs | hs | hs | hs | hs | hs | hs | hs | hs | hs | hs | hs | hs
  · refine j_swIn (pc := 1) X (off := 83) (tgt := 84) dX5_count_1 (by omega) (by omega) (by rw [hs]; rfl) (by decide) ?_
    obtain rfl : w0 = nI 0 := by rw [← Int32.toInt_inj, hs, nI_toInt (by decide)]; rfl
    refine j_aload_n (pc := 84) X dX5_count_84 rfl (q := 0) rfl ?_
    refine j_get (pc := 85) X (C := RX5) (T := TX5) (N := 10) wz_X5 0 rfl rfl 0 (by decide) wf_X5_7 rfl dX5_count_85 ?_
    refine j_iload_n (pc := 88) X dX5_count_88 rfl (q := 1) rfl ?_
    refine j_iald (pc := 89) X 1 (i := 0) rfl (by omega) (by omega) dX5_count_89 ?_
    refine j_top (v' := nI (sN s)) (congrArg nI (RB.n0 hr)) ?_
    have e : oCount s v.2.2 len (nI 0) = (nI (sN s)) := by unfold oCount; rw [if_pos hs] <;> rfl
    exact j_endI (pc := 90) E dX5_count_90 (by rw [e]) rfl
  · refine j_swIn (pc := 1) X (off := 83) (tgt := 84) dX5_count_1 (by omega) (by omega) (by rw [hs]; rfl) (by decide) ?_
    obtain rfl : w0 = nI 1 := by rw [← Int32.toInt_inj, hs, nI_toInt (by decide)]; rfl
    refine j_aload_n (pc := 84) X dX5_count_84 rfl (q := 0) rfl ?_
    refine j_get (pc := 85) X (C := RX5) (T := TX5) (N := 10) wz_X5 0 rfl rfl 0 (by decide) wf_X5_7 rfl dX5_count_85 ?_
    refine j_iload_n (pc := 88) X dX5_count_88 rfl (q := 1) rfl ?_
    refine j_iald (pc := 89) X 1 (i := 1) rfl (by omega) (by omega) dX5_count_89 ?_
    refine j_top (v' := nI ((sM s).1)) (congrArg nI (RB.n1 hr)) ?_
    have e : oCount s v.2.2 len (nI 1) = (nI ((sM s).1)) := by unfold oCount; rw [if_neg (by omega), if_pos hs] <;> rfl
    exact j_endI (pc := 90) E dX5_count_90 (by rw [e]) rfl
  · refine j_swIn (pc := 1) X (off := 83) (tgt := 84) dX5_count_1 (by omega) (by omega) (by rw [hs]; rfl) (by decide) ?_
    obtain rfl : w0 = nI 2 := by rw [← Int32.toInt_inj, hs, nI_toInt (by decide)]; rfl
    refine j_aload_n (pc := 84) X dX5_count_84 rfl (q := 0) rfl ?_
    refine j_get (pc := 85) X (C := RX5) (T := TX5) (N := 10) wz_X5 0 rfl rfl 0 (by decide) wf_X5_7 rfl dX5_count_85 ?_
    refine j_iload_n (pc := 88) X dX5_count_88 rfl (q := 1) rfl ?_
    refine j_iald (pc := 89) X 1 (i := 2) rfl (by omega) (by omega) dX5_count_89 ?_
    refine j_top (v' := nI ((sP s).1)) (congrArg nI (RB.n2 hr)) ?_
    have e : oCount s v.2.2 len (nI 2) = (nI ((sP s).1)) := by unfold oCount; rw [if_neg (by omega), if_neg (by omega), if_pos hs] <;> rfl
    exact j_endI (pc := 90) E dX5_count_90 (by rw [e]) rfl
  · refine j_swIn (pc := 1) X (off := 83) (tgt := 84) dX5_count_1 (by omega) (by omega) (by rw [hs]; rfl) (by decide) ?_
    obtain rfl : w0 = nI 3 := by rw [← Int32.toInt_inj, hs, nI_toInt (by decide)]; rfl
    refine j_aload_n (pc := 84) X dX5_count_84 rfl (q := 0) rfl ?_
    refine j_get (pc := 85) X (C := RX5) (T := TX5) (N := 10) wz_X5 0 rfl rfl 0 (by decide) wf_X5_7 rfl dX5_count_85 ?_
    refine j_iload_n (pc := 88) X dX5_count_88 rfl (q := 1) rfl ?_
    refine j_iald (pc := 89) X 1 (i := 3) rfl (by omega) (by omega) dX5_count_89 ?_
    refine j_top (v' := nI ((sB s).1)) (congrArg nI (RB.n3 hr)) ?_
    have e : oCount s v.2.2 len (nI 3) = (nI ((sB s).1)) := by unfold oCount; rw [if_neg (by omega), if_neg (by omega), if_neg (by omega), if_pos hs] <;> rfl
    exact j_endI (pc := 90) E dX5_count_90 (by rw [e]) rfl
  · refine j_swIn (pc := 1) X (off := 90) (tgt := 91) dX5_count_1 (by omega) (by omega) (by rw [hs]; rfl) (by decide) ?_
    obtain rfl : w0 = nI 4 := by rw [← Int32.toInt_inj, hs, nI_toInt (by decide)]; rfl
    refine j_aload_n (pc := 91) X dX5_count_91 rfl (q := 0) rfl ?_
    refine j_iload_n (pc := 92) X dX5_count_92 rfl (q := 1) rfl ?_
    refine j_iconst (pc := 93) X (v := (nI 4)) dX5_count_93 (by decide) ?_
    refine j_isub (pc := 94) X (v := (nI (4 - 4))) dX5_count_94 (pk_sub (by omega)) ?_
    refine j_callVR (pc := 95) X (st := [])  (c_X5_manyIn l D tA m (mfs m v.2.2 kp len none x.2.1 x.2.2.1 x.2.2.2.1 x.2.2.2.2) x.1 s (4 - 4) hr hw (by decide)) cd_X5_manyIn wm_X5_116 0 rfl rfl rfl [0, 1] rfl rfl ⟨Nat.le_of_ble_eq_true rfl, Nat.le_of_ble_eq_true rfl⟩ ⟨Nat.zero_le _, Nat.zero_le _⟩ rfl (Nat.le_of_ble_eq_true rfl) dX5_count_95 ?_
    have e : oCount s v.2.2 len (nI 4) = (nI (cS s (4 - 4))) := by unfold oCount; rw [if_neg (by omega), if_neg (by omega), if_neg (by omega), if_neg (by omega), if_pos hs] <;> rfl
    exact j_endI (pc := 98) E dX5_count_98 (by rw [e]) rfl
  · refine j_swIn (pc := 1) X (off := 90) (tgt := 91) dX5_count_1 (by omega) (by omega) (by rw [hs]; rfl) (by decide) ?_
    obtain rfl : w0 = nI 5 := by rw [← Int32.toInt_inj, hs, nI_toInt (by decide)]; rfl
    refine j_aload_n (pc := 91) X dX5_count_91 rfl (q := 0) rfl ?_
    refine j_iload_n (pc := 92) X dX5_count_92 rfl (q := 1) rfl ?_
    refine j_iconst (pc := 93) X (v := (nI 4)) dX5_count_93 (by decide) ?_
    refine j_isub (pc := 94) X (v := (nI (5 - 4))) dX5_count_94 (pk_sub (by omega)) ?_
    refine j_callVR (pc := 95) X (st := [])  (c_X5_manyIn l D tA m (mfs m v.2.2 kp len none x.2.1 x.2.2.1 x.2.2.2.1 x.2.2.2.2) x.1 s (5 - 4) hr hw (by decide)) cd_X5_manyIn wm_X5_116 0 rfl rfl rfl [0, 1] rfl rfl ⟨Nat.le_of_ble_eq_true rfl, Nat.le_of_ble_eq_true rfl⟩ ⟨Nat.zero_le _, Nat.zero_le _⟩ rfl (Nat.le_of_ble_eq_true rfl) dX5_count_95 ?_
    have e : oCount s v.2.2 len (nI 5) = (nI (cS s (5 - 4))) := by unfold oCount; rw [if_neg (by omega), if_neg (by omega), if_neg (by omega), if_neg (by omega), if_neg (by omega), if_pos hs] <;> rfl
    exact j_endI (pc := 98) E dX5_count_98 (by rw [e]) rfl
  · refine j_swIn (pc := 1) X (off := 90) (tgt := 91) dX5_count_1 (by omega) (by omega) (by rw [hs]; rfl) (by decide) ?_
    obtain rfl : w0 = nI 6 := by rw [← Int32.toInt_inj, hs, nI_toInt (by decide)]; rfl
    refine j_aload_n (pc := 91) X dX5_count_91 rfl (q := 0) rfl ?_
    refine j_iload_n (pc := 92) X dX5_count_92 rfl (q := 1) rfl ?_
    refine j_iconst (pc := 93) X (v := (nI 4)) dX5_count_93 (by decide) ?_
    refine j_isub (pc := 94) X (v := (nI (6 - 4))) dX5_count_94 (pk_sub (by omega)) ?_
    refine j_callVR (pc := 95) X (st := [])  (c_X5_manyIn l D tA m (mfs m v.2.2 kp len none x.2.1 x.2.2.1 x.2.2.2.1 x.2.2.2.2) x.1 s (6 - 4) hr hw (by decide)) cd_X5_manyIn wm_X5_116 0 rfl rfl rfl [0, 1] rfl rfl ⟨Nat.le_of_ble_eq_true rfl, Nat.le_of_ble_eq_true rfl⟩ ⟨Nat.zero_le _, Nat.zero_le _⟩ rfl (Nat.le_of_ble_eq_true rfl) dX5_count_95 ?_
    have e : oCount s v.2.2 len (nI 6) = (nI (cS s (6 - 4))) := by unfold oCount; rw [if_neg (by omega), if_neg (by omega), if_neg (by omega), if_neg (by omega), if_neg (by omega), if_neg (by omega), if_pos hs] <;> rfl
    exact j_endI (pc := 98) E dX5_count_98 (by rw [e]) rfl
  · refine j_swIn (pc := 1) X (off := 90) (tgt := 91) dX5_count_1 (by omega) (by omega) (by rw [hs]; rfl) (by decide) ?_
    obtain rfl : w0 = nI 7 := by rw [← Int32.toInt_inj, hs, nI_toInt (by decide)]; rfl
    refine j_aload_n (pc := 91) X dX5_count_91 rfl (q := 0) rfl ?_
    refine j_iload_n (pc := 92) X dX5_count_92 rfl (q := 1) rfl ?_
    refine j_iconst (pc := 93) X (v := (nI 4)) dX5_count_93 (by decide) ?_
    refine j_isub (pc := 94) X (v := (nI (7 - 4))) dX5_count_94 (pk_sub (by omega)) ?_
    refine j_callVR (pc := 95) X (st := [])  (c_X5_manyIn l D tA m (mfs m v.2.2 kp len none x.2.1 x.2.2.1 x.2.2.2.1 x.2.2.2.2) x.1 s (7 - 4) hr hw (by decide)) cd_X5_manyIn wm_X5_116 0 rfl rfl rfl [0, 1] rfl rfl ⟨Nat.le_of_ble_eq_true rfl, Nat.le_of_ble_eq_true rfl⟩ ⟨Nat.zero_le _, Nat.zero_le _⟩ rfl (Nat.le_of_ble_eq_true rfl) dX5_count_95 ?_
    have e : oCount s v.2.2 len (nI 7) = (nI (cS s (7 - 4))) := by unfold oCount; rw [if_neg (by omega), if_neg (by omega), if_neg (by omega), if_neg (by omega), if_neg (by omega), if_neg (by omega), if_neg (by omega), if_pos hs] <;> rfl
    exact j_endI (pc := 98) E dX5_count_98 (by rw [e]) rfl
  · refine j_swIn (pc := 1) X (off := 98) (tgt := 99) dX5_count_1 (by omega) (by omega) (by rw [hs]; rfl) (by decide) ?_
    obtain rfl : w0 = nI 8 := by rw [← Int32.toInt_inj, hs, nI_toInt (by decide)]; rfl
    refine j_aload_n (pc := 99) X dX5_count_99 rfl (q := 0) rfl ?_
    refine j_get (pc := 100) X (C := RX5) (T := TX5) (N := 10) wz_X5 0 rfl rfl 0 (by decide) wf_X5_7 rfl dX5_count_100 ?_
    refine j_iconst (pc := 103) X (v := (nI 4)) dX5_count_103 (by decide) ?_
    refine j_iload_n (pc := 104) X dX5_count_104 rfl (q := 1) rfl ?_
    refine j_iadd (pc := 105) X (v := (nI (4 + 8))) dX5_count_105 (nI_add _ _) ?_
    refine j_bipush (pc := 106) X (v := (nI 8)) dX5_count_106 (by decide) ?_
    refine j_isub (pc := 108) X (v := (nI ((4 + 8) - 8))) dX5_count_108 (pk_sub (by omega)) ?_
    refine j_iald (pc := 109) X 1 (i := ((4 + 8) - 8)) rfl (by omega) (by omega) dX5_count_109 ?_
    refine j_top (v' := nI ((sV s).1)) (congrArg nI hr.n4) ?_
    have e : oCount s v.2.2 len (nI 8) = (nI ((sV s).1)) := by unfold oCount; rw [if_neg (by omega), if_neg (by omega), if_neg (by omega), if_neg (by omega), if_neg (by omega), if_neg (by omega), if_neg (by omega), if_neg (by omega), if_pos hs] <;> rfl
    exact j_endI (pc := 110) E dX5_count_110 (by rw [e]) rfl
  · refine j_swIn (pc := 1) X (off := 98) (tgt := 99) dX5_count_1 (by omega) (by omega) (by rw [hs]; rfl) (by decide) ?_
    obtain rfl : w0 = nI 9 := by rw [← Int32.toInt_inj, hs, nI_toInt (by decide)]; rfl
    refine j_aload_n (pc := 99) X dX5_count_99 rfl (q := 0) rfl ?_
    refine j_get (pc := 100) X (C := RX5) (T := TX5) (N := 10) wz_X5 0 rfl rfl 0 (by decide) wf_X5_7 rfl dX5_count_100 ?_
    refine j_iconst (pc := 103) X (v := (nI 4)) dX5_count_103 (by decide) ?_
    refine j_iload_n (pc := 104) X dX5_count_104 rfl (q := 1) rfl ?_
    refine j_iadd (pc := 105) X (v := (nI (4 + 9))) dX5_count_105 (nI_add _ _) ?_
    refine j_bipush (pc := 106) X (v := (nI 8)) dX5_count_106 (by decide) ?_
    refine j_isub (pc := 108) X (v := (nI ((4 + 9) - 8))) dX5_count_108 (pk_sub (by omega)) ?_
    refine j_iald (pc := 109) X 1 (i := ((4 + 9) - 8)) rfl (by omega) (by omega) dX5_count_109 ?_
    refine j_top (v' := nI (sD s)) (congrArg nI hr.n5) ?_
    have e : oCount s v.2.2 len (nI 9) = (nI (sD s)) := by unfold oCount; rw [if_neg (by omega), if_neg (by omega), if_neg (by omega), if_neg (by omega), if_neg (by omega), if_neg (by omega), if_neg (by omega), if_neg (by omega), if_neg (by omega), if_pos hs] <;> rfl
    exact j_endI (pc := 110) E dX5_count_110 (by rw [e]) rfl
  · refine j_swIn (pc := 1) X (off := 98) (tgt := 99) dX5_count_1 (by omega) (by omega) (by rw [hs]; rfl) (by decide) ?_
    obtain rfl : w0 = nI 10 := by rw [← Int32.toInt_inj, hs, nI_toInt (by decide)]; rfl
    refine j_aload_n (pc := 99) X dX5_count_99 rfl (q := 0) rfl ?_
    refine j_get (pc := 100) X (C := RX5) (T := TX5) (N := 10) wz_X5 0 rfl rfl 0 (by decide) wf_X5_7 rfl dX5_count_100 ?_
    refine j_iconst (pc := 103) X (v := (nI 4)) dX5_count_103 (by decide) ?_
    refine j_iload_n (pc := 104) X dX5_count_104 rfl (q := 1) rfl ?_
    refine j_iadd (pc := 105) X (v := (nI (4 + 10))) dX5_count_105 (nI_add _ _) ?_
    refine j_bipush (pc := 106) X (v := (nI 8)) dX5_count_106 (by decide) ?_
    refine j_isub (pc := 108) X (v := (nI ((4 + 10) - 8))) dX5_count_108 (pk_sub (by omega)) ?_
    refine j_iald (pc := 109) X 1 (i := ((4 + 10) - 8)) rfl (by omega) (by omega) dX5_count_109 ?_
    refine j_top (v' := nI (sF s)) (congrArg nI hr.n6) ?_
    have e : oCount s v.2.2 len (nI 10) = (nI (sF s)) := by unfold oCount; rw [if_neg (by omega), if_neg (by omega), if_neg (by omega), if_neg (by omega), if_neg (by omega), if_neg (by omega), if_neg (by omega), if_neg (by omega), if_neg (by omega), if_neg (by omega), if_pos hs] <;> rfl
    exact j_endI (pc := 110) E dX5_count_110 (by rw [e]) rfl
  · refine j_swIn (pc := 1) X (off := 110) (tgt := 111) dX5_count_1 (by omega) (by omega) (by rw [hs]; rfl) (by decide) ?_
    obtain rfl : w0 = nI 11 := by rw [← Int32.toInt_inj, hs, nI_toInt (by decide)]; rfl
    refine j_aload_n (pc := 111) X dX5_count_111 rfl (q := 0) rfl ?_
    refine j_callVR (pc := 112) X (st := [])  (c_X5_allPaid l D tA m (mfs m v.2.2 kp len none x.2.1 x.2.2.1 x.2.2.2.1 x.2.2.2.2) x.1 s  hr hw ) cd_X5_allPaid wm_X5_159 0 rfl rfl rfl [0, 1] rfl rfl ⟨Nat.le_of_ble_eq_true rfl, Nat.le_of_ble_eq_true rfl⟩ ⟨Nat.zero_le _, Nat.zero_le _⟩ rfl (Nat.le_of_ble_eq_true rfl) dX5_count_112 ?_
    have e : oCount s v.2.2 len (nI 11) = (nI (sumN (fun r => tGet 2 (sP s) r 0) (sP s).1)) := by unfold oCount; rw [if_neg (by omega), if_neg (by omega), if_neg (by omega), if_neg (by omega), if_neg (by omega), if_neg (by omega), if_neg (by omega), if_neg (by omega), if_neg (by omega), if_neg (by omega), if_neg (by omega), if_pos hs] <;> rfl
    exact j_endI (pc := 115) E dX5_count_115 (by rw [e]) rfl
  · refine j_swIn (pc := 1) X (off := 115) (tgt := 116) dX5_count_1 (by omega) (by omega) (by rw [hs]; rfl) (by decide) ?_
    obtain rfl : w0 = nI 12 := by rw [← Int32.toInt_inj, hs, nI_toInt (by decide)]; rfl
    refine j_aload_n (pc := 116) X dX5_count_116 rfl (q := 0) rfl ?_
    refine j_get (pc := 117) X (C := RX5) (T := TX5) (N := 10) wz_X5 0 rfl rfl 0 (by decide) wf_X5_7 rfl dX5_count_117 ?_
    refine j_bipush (pc := 120) X (v := (nI 7)) dX5_count_120 (by decide) ?_
    refine j_iload_n (pc := 122) X dX5_count_122 rfl (q := 1) rfl ?_
    refine j_iadd (pc := 123) X (v := (nI (7 + 12))) dX5_count_123 (nI_add _ _) ?_
    refine j_bipush (pc := 124) X (v := (nI 12)) dX5_count_124 (by decide) ?_
    refine j_isub (pc := 126) X (v := (nI ((7 + 12) - 12))) dX5_count_126 (pk_sub (by omega)) ?_
    refine j_iald (pc := 127) X 1 (i := ((7 + 12) - 12)) rfl (by omega) (by omega) dX5_count_127 ?_
    refine j_top (v' := nI (sumN (fun r => tGet 2 (sP s) r 1) (sP s).1)) (congrArg nI hr.n7) ?_
    have e : oCount s v.2.2 len (nI 12) = (nI (sumN (fun r => tGet 2 (sP s) r 1) (sP s).1)) := by unfold oCount; rw [if_neg (by omega), if_neg (by omega), if_neg (by omega), if_neg (by omega), if_neg (by omega), if_neg (by omega), if_neg (by omega), if_neg (by omega), if_neg (by omega), if_neg (by omega), if_neg (by omega), if_neg (by omega), if_pos hs] <;> rfl
    exact j_endI (pc := 128) E dX5_count_128 (by rw [e]) rfl
  · refine j_swIn (pc := 1) X (off := 115) (tgt := 116) dX5_count_1 (by omega) (by omega) (by rw [hs]; rfl) (by decide) ?_
    obtain rfl : w0 = nI 13 := by rw [← Int32.toInt_inj, hs, nI_toInt (by decide)]; rfl
    refine j_aload_n (pc := 116) X dX5_count_116 rfl (q := 0) rfl ?_
    refine j_get (pc := 117) X (C := RX5) (T := TX5) (N := 10) wz_X5 0 rfl rfl 0 (by decide) wf_X5_7 rfl dX5_count_117 ?_
    refine j_bipush (pc := 120) X (v := (nI 7)) dX5_count_120 (by decide) ?_
    refine j_iload_n (pc := 122) X dX5_count_122 rfl (q := 1) rfl ?_
    refine j_iadd (pc := 123) X (v := (nI (7 + 13))) dX5_count_123 (nI_add _ _) ?_
    refine j_bipush (pc := 124) X (v := (nI 12)) dX5_count_124 (by decide) ?_
    refine j_isub (pc := 126) X (v := (nI ((7 + 13) - 12))) dX5_count_126 (pk_sub (by omega)) ?_
    refine j_iald (pc := 127) X 1 (i := ((7 + 13) - 12)) rfl (by omega) (by omega) dX5_count_127 ?_
    refine j_top (v' := nI (sX s)) (congrArg nI hr.n8) ?_
    have e : oCount s v.2.2 len (nI 13) = (nI (sX s)) := by unfold oCount; rw [if_neg (by omega), if_neg (by omega), if_neg (by omega), if_neg (by omega), if_neg (by omega), if_neg (by omega), if_neg (by omega), if_neg (by omega), if_neg (by omega), if_neg (by omega), if_neg (by omega), if_neg (by omega), if_neg (by omega), if_pos hs] <;> rfl
    exact j_endI (pc := 128) E dX5_count_128 (by rw [e]) rfl
  · refine j_swIn (pc := 1) X (off := 128) (tgt := 129) dX5_count_1 (by omega) (by omega) (by rw [hs]; rfl) (by decide) ?_
    obtain rfl : w0 = nI 14 := by rw [← Int32.toInt_inj, hs, nI_toInt (by decide)]; rfl
    refine j_aload_n (pc := 129) X dX5_count_129 rfl (q := 0) rfl ?_
    refine j_callVR (pc := 130) X (st := [])  (c_X5_allBlocks l D tA m (mfs m v.2.2 kp len none x.2.1 x.2.2.1 x.2.2.2.1 x.2.2.2.2) x.1 s  hr hw ) cd_X5_allBlocks wm_X5_162 0 rfl rfl rfl [0, 1] rfl rfl ⟨Nat.le_of_ble_eq_true rfl, Nat.le_of_ble_eq_true rfl⟩ ⟨Nat.zero_le _, Nat.zero_le _⟩ rfl (Nat.le_of_ble_eq_true rfl) dX5_count_130 ?_
    have e : oCount s v.2.2 len (nI 14) = (nI (sumN (fun r => tGet 3 (sM s) r 1) (sM s).1)) := by unfold oCount; rw [if_neg (by omega), if_neg (by omega), if_neg (by omega), if_neg (by omega), if_neg (by omega), if_neg (by omega), if_neg (by omega), if_neg (by omega), if_neg (by omega), if_neg (by omega), if_neg (by omega), if_neg (by omega), if_neg (by omega), if_neg (by omega), if_pos hs] <;> rfl
    exact j_endI (pc := 133) E dX5_count_133 (by rw [e]) rfl
  · refine j_swIn (pc := 1) X (off := 133) (tgt := 134) dX5_count_1 (by omega) (by omega) (by rw [hs]; rfl) (by decide) ?_
    obtain rfl : w0 = nI 15 := by rw [← Int32.toInt_inj, hs, nI_toInt (by decide)]; rfl
    refine j_aload_n (pc := 134) X dX5_count_134 rfl (q := 0) rfl ?_
    refine j_get (pc := 135) X (C := RX5) (T := TX5) (N := 10) wz_X5 0 rfl rfl 1 (by decide) wf_X5_24 rfl dX5_count_135 ?_
    have e : oCount s v.2.2 len (nI 15) = (nI v.2.2) := by unfold oCount; rw [if_neg (by omega), if_neg (by omega), if_neg (by omega), if_neg (by omega), if_neg (by omega), if_neg (by omega), if_neg (by omega), if_neg (by omega), if_neg (by omega), if_neg (by omega), if_neg (by omega), if_neg (by omega), if_neg (by omega), if_neg (by omega), if_neg (by omega), if_pos hs] <;> rfl
    exact j_endI (pc := 138) E dX5_count_138 (by rw [e]) rfl
  · refine j_swIn (pc := 1) X (off := 138) (tgt := 139) dX5_count_1 (by omega) (by omega) (by rw [hs]; rfl) (by decide) ?_
    obtain rfl : w0 = nI 16 := by rw [← Int32.toInt_inj, hs, nI_toInt (by decide)]; rfl
    refine j_aload_n (pc := 139) X dX5_count_139 rfl (q := 0) rfl ?_
    refine j_get (pc := 140) X (C := RX5) (T := TX5) (N := 10) wz_X5 0 rfl rfl 4 (by decide) wf_X5_123 rfl dX5_count_140 ?_
    have e : oCount s v.2.2 len (nI 16) = (nI len) := by unfold oCount; rw [if_neg (by omega), if_neg (by omega), if_neg (by omega), if_neg (by omega), if_neg (by omega), if_neg (by omega), if_neg (by omega), if_neg (by omega), if_neg (by omega), if_neg (by omega), if_neg (by omega), if_neg (by omega), if_neg (by omega), if_neg (by omega), if_neg (by omega), if_neg (by omega), if_pos hs] <;> rfl
    exact j_endI (pc := 143) E dX5_count_143 (by rw [e]) rfl
