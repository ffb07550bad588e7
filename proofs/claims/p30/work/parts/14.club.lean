def clW (c : Nat) (a b f h x : Nat → Nat) (k : Bool) : va_W := [(c, .inr (4, [.ref (a 0), .ref (b 0), .ref (f 0), .ref (h 0), .ref (x 0), .int (bI k)]))]
theorem cd_X4_addMachine : kCardV yX4_addMachine cX4_addMachine 3 (some .int) 2 := ⟨⟨wc_X4_addMachine, wi_X4, by decide +kernel, by decide +kernel, rfl⟩, wk_X4_addMachine, ws_X4_addMachine⟩
set_option maxHeartbeats 4000000 in
set_option maxRecDepth 100000 in
theorem c_X4_addMachine (l : Launch) (D : va_G) (tA : Nat → ClassId) (c : Nat) (a b f h x : Nat → Nat) (k : Bool) (s : Sg) (d : Nat → Nat → Nat) (v : Hs) (st0 bl0 : Int32) (hw : Wf s) (hnx : v.2.1 < 4) (hsz : v.2.2 ≤ 4) (hh : ∀ i, Wf (v.1 i)) : Kx l D tA yX4_addMachine cX4_addMachine 3 (some .int) 4 82 [.ref c, .int st0, .int bl0] (clW c a b f h x k ++ (stW tA a s ++ (hsW tA h d v))) (some (.int ((oAddMachine s st0 bl0).1))) (clW c a b f h x k ++ (stW tA a (aS s (oAddMachine s st0 bl0).2) ++ (hsW tA h d (aH v s (oAddMachine s st0 bl0).2)))) := by
  refine kx_int rfl (Nat.le_of_ble_eq_true rfl) (fun G X E => ?_)
  show J l D G 0 0 (clW c a b f h x k ++ (stW tA a s ++ (hsW tA h d v))) [(0, .ref c), (1, .int st0), (2, .int bl0)] 0 []
  have hn := hw.n
  refine j_iload_n (pc := 0) X dX4_addMachine_0 rfl (q := 1) rfl ?_
  refine j_bipush (pc := 1) X (v := (nI 10)) dX4_addMachine_1 (by decide) ?_
  refine j_sipush (pc := 3) X (v := (nI 200)) dX4_addMachine_3 (by decide) ?_
  refine j_callSR (pc := 6) X (st := [])  (c_X4_isWithin l D tA st0 (nI 10) (nI 200) ) cd_X4_isWithin wm_X4_40 rfl [] rfl rfl ⟨Nat.le_of_ble_eq_true rfl, Nat.le_of_ble_eq_true rfl⟩ ⟨Nat.zero_le _, Nat.zero_le _⟩ rfl (Nat.le_of_ble_eq_true rfl) dX4_addMachine_6 ?_
  refine j_if_eq (pc := 9) X (tgt := 22) (P := (isW st0 (nI 10) (nI 200)) = false) dX4_addMachine_9 (by decide) (bI_0 _) (fun h9 => ?_) (fun h9 => ?_)
  · skip
    have h9 := nf5 h9
    refine j_bipush (pc := 22) X (v := (-2)) dX4_addMachine_22 (by decide) ?_
    have e : oAddMachine s st0 bl0 = ((-2), none) := by unfold oAddMachine; rw [if_neg (fun q => h9 q.1)] <;> rfl
    exact j_endI (pc := 24) E dX4_addMachine_24 (by rw [e]) (by rw [e]; rfl)
  · skip
    have h9 := t5 h9
    obtain ⟨st9, hc9, rfl⟩ := isW_t (by omega) (by omega) h9
    have est9 : tn (nI st9) = st9 := tn_nI (by omega)
    refine j_iload_n (pc := 12) X dX4_addMachine_12 rfl (q := 2) rfl ?_
    refine j_iconst (pc := 13) X (v := (nI 0)) dX4_addMachine_13 (by decide) ?_
    refine j_bipush (pc := 14) X (v := (nI 12)) dX4_addMachine_14 (by decide) ?_
    refine j_callSR (pc := 16) X (st := [])  (c_X4_isWithin l D tA bl0 (nI 0) (nI 12) ) cd_X4_isWithin wm_X4_40 rfl [] rfl rfl ⟨Nat.le_of_ble_eq_true rfl, Nat.le_of_ble_eq_true rfl⟩ ⟨Nat.zero_le _, Nat.zero_le _⟩ rfl (Nat.le_of_ble_eq_true rfl) dX4_addMachine_16 ?_
    refine j_if_ne (pc := 19) X (tgt := 25) (P := (isW bl0 (nI 0) (nI 12)) = true) dX4_addMachine_19 (by decide) (bI_n0 _) (fun h19 => ?_) (fun h19 => ?_)
    · skip
      skip
      obtain ⟨bl9, hc19, rfl⟩ := isW_t (by omega) (by omega) h19
      have ebl9 : tn (nI bl9) = bl9 := tn_nI (by omega)
      refine j_aload_n (pc := 25) X dX4_addMachine_25 rfl (q := 0) rfl ?_
      refine j_get (pc := 26) X (C := RX4) (T := TX4) (N := 6) wz_X4 0 rfl rfl 0 (by decide) wf_X4_12 rfl dX4_addMachine_26 ?_
      refine j_get (pc := 29) X (C := RX1) (T := TX1) (N := 9) wz_X1 1 rfl rfl 0 (by decide) wf_X4_44 rfl dX4_addMachine_29 ?_
      refine j_callVR (pc := 32) X (st := [])  (c_X2_isFull l D tA (a 1) (a 6) 5 3 (sM s)  (by first | assumption | omega | decide) (by first | assumption | omega | decide) (by first | assumption | omega | decide)) cd_X2_isFull wm_X4_48 3 rfl rfl rfl [3, 4] rfl rfl ⟨Nat.le_of_ble_eq_true rfl, Nat.le_of_ble_eq_true rfl⟩ ⟨Nat.zero_le _, Nat.zero_le _⟩ rfl (Nat.le_of_ble_eq_true rfl) dX4_addMachine_32 ?_
      refine j_if_eq (pc := 35) X (tgt := 41) (P := (decide (5 ≤ (sM s).1)) = false) dX4_addMachine_35 (by decide) (bI_0 _) (fun h35 => ?_) (fun h35 => ?_)
      · skip
        have h35 := nf5 h35
        have h35 : (sM s).1 < 5 := by simpa using h35
        refine j_aload_n (pc := 41) X dX4_addMachine_41 rfl (q := 0) rfl ?_
        refine j_get (pc := 42) X (C := RX4) (T := TX4) (N := 6) wz_X4 0 rfl rfl 3 (by decide) wf_X4_25 rfl dX4_addMachine_42 ?_
        refine j_aload_n (pc := 45) X dX4_addMachine_45 rfl (q := 0) rfl ?_
        refine j_get (pc := 46) X (C := RX4) (T := TX4) (N := 6) wz_X4 0 rfl rfl 0 (by decide) wf_X4_12 rfl dX4_addMachine_46 ?_
        refine j_callVB (pc := 49) X (st := []) (wr := (clW c a b f h x k)) (w' := (clW c a b f h x k ++ (stW tA a s ++ (hsW tA h d (hPush v s))))) (c_X0_push l D tA h d v a s hnx hsz hh hw) cd_X0_push wm_X4_54 11 rfl rfl rfl [11, 12, 13, 14, 15, 16, 17, 18, 19, 20, 21, 22, 23, 24, 25, 26, 27, 28, 29, 30, 31, 32, 33, 34, 35, 36, 37, 38, 39, 40, 41, 42, 43, 44, 45, 46, 47, 48, 49, 50, 51, 52, 1, 2, 3, 4, 5, 6, 7, 8, 9, 10] rfl rfl [0] rfl rfl (fst_app (hs_fst.trans hs_fst.symm) (st_fst.trans st_fst.symm)) [52, 42, 43, 44, 45, 46, 47, 48, 49, 50, 51, 0, 1, 2, 3, 4, 5, 6, 7, 8, 9, 10, 11, 12, 13, 14, 15, 16, 17, 18, 19, 20, 21, 22, 23, 24, 25, 26, 27, 28, 29, 30, 31, 32, 33, 34, 35, 36, 37, 38, 39, 40, 41] rfl rfl ⟨Nat.le_of_ble_eq_true rfl, Nat.le_of_ble_eq_true rfl⟩ ⟨Nat.zero_le _, Nat.zero_le _⟩ rfl (Nat.le_of_ble_eq_true rfl) dX4_addMachine_49 ?_
        refine j_aload_n (pc := 52) X dX4_addMachine_52 rfl (q := 0) rfl ?_
        refine j_get (pc := 53) X (C := RX4) (T := TX4) (N := 6) wz_X4 0 rfl rfl 0 (by decide) wf_X4_12 rfl dX4_addMachine_53 ?_
        refine j_iload_n (pc := 56) X dX4_addMachine_56 rfl (q := 1) rfl ?_
        refine j_iload_n (pc := 57) X dX4_addMachine_57 rfl (q := 2) rfl ?_
        refine j_callVB (pc := 58) X (st := []) (wr := (clW c a b f h x k ++ (hsW tA h d (hPush v s)))) (w' := (clW c a b f h x k ++ (stW tA a (pMach s st9 bl9) ++ (hsW tA h d (hPush v s))))) (c_X1_putMachine l D tA a s st9 bl9 (by first | assumption | omega | decide)) cd_X1_putMachine wm_X4_58 1 rfl rfl rfl [1, 2, 3, 4, 5, 6, 7, 8, 9, 10] rfl rfl [0, 11, 12, 13, 14, 15, 16, 17, 18, 19, 20, 21, 22, 23, 24, 25, 26, 27, 28, 29, 30, 31, 32, 33, 34, 35, 36, 37, 38, 39, 40, 41, 42, 43, 44, 45, 46, 47, 48, 49, 50, 51, 52] rfl rfl (st_fst.trans st_fst.symm) [10, 0, 1, 2, 3, 4, 5, 6, 7, 8, 9, 11, 12, 13, 14, 15, 16, 17, 18, 19, 20, 21, 22, 23, 24, 25, 26, 27, 28, 29, 30, 31, 32, 33, 34, 35, 36, 37, 38, 39, 40, 41, 42, 43, 44, 45, 46, 47, 48, 49, 50, 51, 52] rfl rfl ⟨Nat.le_of_ble_eq_true rfl, Nat.le_of_ble_eq_true rfl⟩ ⟨Nat.zero_le _, Nat.zero_le _⟩ rfl (Nat.le_of_ble_eq_true rfl) dX4_addMachine_58 ?_
        have e : oAddMachine s (nI st9) (nI bl9) = ((nI ((sM s).1)), (some (pMach s st9 bl9))) := by unfold oAddMachine; simp only [est9, ebl9]; rw [if_pos ⟨h9, h19⟩, if_pos h35] <;> rfl
        exact j_endI (pc := 61) E dX4_addMachine_61 (by rw [e]) (by rw [e]; rfl)
      · skip
        have h35 := t5 h35
        have h35 : ¬ (sM s).1 < 5 := by simpa using h35
        refine j_bipush (pc := 38) X (v := (-3)) dX4_addMachine_38 (by decide) ?_
        have e : oAddMachine s (nI st9) (nI bl9) = ((-3), none) := by unfold oAddMachine; simp only [est9, ebl9]; rw [if_pos ⟨h9, h19⟩, if_neg h35] <;> rfl
        exact j_endI (pc := 40) E dX4_addMachine_40 (by rw [e]) (by rw [e]; rfl)
    · skip
      skip
      refine j_bipush (pc := 22) X (v := (-2)) dX4_addMachine_22 (by decide) ?_
      have e : oAddMachine s (nI st9) bl0 = ((-2), none) := by unfold oAddMachine; simp only [est9]; rw [if_neg (fun q => h19 q.2)] <;> rfl
      exact j_endI (pc := 24) E dX4_addMachine_24 (by rw [e]) (by rw [e]; rfl)
theorem cd_X4_addMember : kCardV yX4_addMember cX4_addMember 1 (some .int) 0 := ⟨⟨wc_X4_addMember, wi_X4, by decide +kernel, by decide +kernel, rfl⟩, wk_X4_addMember, ws_X4_addMember⟩
set_option maxHeartbeats 4000000 in
set_option maxRecDepth 100000 in
theorem c_X4_addMember (l : Launch) (D : va_G) (tA : Nat → ClassId) (c : Nat) (a b f h x : Nat → Nat) (k : Bool) (s : Sg) (d : Nat → Nat → Nat) (v : Hs) (hw : Wf s) (hnx : v.2.1 < 4) (hsz : v.2.2 ≤ 4) (hh : ∀ i, Wf (v.1 i)) : Kx l D tA yX4_addMember cX4_addMember 1 (some .int) 4 82 [.ref c] (clW c a b f h x k ++ (stW tA a s ++ (hsW tA h d v))) (some (.int ((oAddMember s ).1))) (clW c a b f h x k ++ (stW tA a (aS s (oAddMember s ).2) ++ (hsW tA h d (aH v s (oAddMember s ).2)))) := by
  refine kx_int rfl (Nat.le_of_ble_eq_true rfl) (fun G X E => ?_)
  show J l D G 0 0 (clW c a b f h x k ++ (stW tA a s ++ (hsW tA h d v))) [(0, .ref c)] 0 []
  have hn := hw.n
  refine j_aload_n (pc := 0) X dX4_addMember_0 rfl (q := 0) rfl ?_
  refine j_get (pc := 1) X (C := RX4) (T := TX4) (N := 6) wz_X4 0 rfl rfl 0 (by decide) wf_X4_12 rfl dX4_addMember_1 ?_
  refine j_get (pc := 4) X (C := RX1) (T := TX1) (N := 9) wz_X1 1 rfl rfl 1 (by decide) wf_X4_62 rfl dX4_addMember_4 ?_
  refine j_callVR (pc := 7) X (st := [])  (c_X2_isFull l D tA (a 2) (a 7) 8 2 (sP s)  (by first | assumption | omega | decide) (by first | assumption | omega | decide) (by first | assumption | omega | decide)) cd_X2_isFull wm_X4_48 5 rfl rfl rfl [5, 6] rfl rfl ⟨Nat.le_of_ble_eq_true rfl, Nat.le_of_ble_eq_true rfl⟩ ⟨Nat.zero_le _, Nat.zero_le _⟩ rfl (Nat.le_of_ble_eq_true rfl) dX4_addMember_7 ?_
  refine j_if_eq (pc := 10) X (tgt := 16) (P := (decide (8 ≤ (sP s).1)) = false) dX4_addMember_10 (by decide) (bI_0 _) (fun h10 => ?_) (fun h10 => ?_)
  · skip
    have h10 := nf5 h10
    have h10 : (sP s).1 < 8 := by simpa using h10
    refine j_aload_n (pc := 16) X dX4_addMember_16 rfl (q := 0) rfl ?_
    refine j_get (pc := 17) X (C := RX4) (T := TX4) (N := 6) wz_X4 0 rfl rfl 3 (by decide) wf_X4_25 rfl dX4_addMember_17 ?_
    refine j_aload_n (pc := 20) X dX4_addMember_20 rfl (q := 0) rfl ?_
    refine j_get (pc := 21) X (C := RX4) (T := TX4) (N := 6) wz_X4 0 rfl rfl 0 (by decide) wf_X4_12 rfl dX4_addMember_21 ?_
    refine j_callVB (pc := 24) X (st := []) (wr := (clW c a b f h x k)) (w' := (clW c a b f h x k ++ (stW tA a s ++ (hsW tA h d (hPush v s))))) (c_X0_push l D tA h d v a s hnx hsz hh hw) cd_X0_push wm_X4_54 11 rfl rfl rfl [11, 12, 13, 14, 15, 16, 17, 18, 19, 20, 21, 22, 23, 24, 25, 26, 27, 28, 29, 30, 31, 32, 33, 34, 35, 36, 37, 38, 39, 40, 41, 42, 43, 44, 45, 46, 47, 48, 49, 50, 51, 52, 1, 2, 3, 4, 5, 6, 7, 8, 9, 10] rfl rfl [0] rfl rfl (fst_app (hs_fst.trans hs_fst.symm) (st_fst.trans st_fst.symm)) [52, 42, 43, 44, 45, 46, 47, 48, 49, 50, 51, 0, 1, 2, 3, 4, 5, 6, 7, 8, 9, 10, 11, 12, 13, 14, 15, 16, 17, 18, 19, 20, 21, 22, 23, 24, 25, 26, 27, 28, 29, 30, 31, 32, 33, 34, 35, 36, 37, 38, 39, 40, 41] rfl rfl ⟨Nat.le_of_ble_eq_true rfl, Nat.le_of_ble_eq_true rfl⟩ ⟨Nat.zero_le _, Nat.zero_le _⟩ rfl (Nat.le_of_ble_eq_true rfl) dX4_addMember_24 ?_
    refine j_aload_n (pc := 27) X dX4_addMember_27 rfl (q := 0) rfl ?_
    refine j_get (pc := 28) X (C := RX4) (T := TX4) (N := 6) wz_X4 0 rfl rfl 0 (by decide) wf_X4_12 rfl dX4_addMember_28 ?_
    refine j_get (pc := 31) X (C := RX1) (T := TX1) (N := 9) wz_X1 1 rfl rfl 1 (by decide) wf_X4_62 rfl dX4_addMember_31 ?_
    refine j_callV (pc := 34) X (st := []) (w' := (clW c a b f h x k ++ (stW tA a (uP s (tAdd 2 (sP s))) ++ (hsW tA h d (hPush v s))))) (c_X2_addRow l D tA (a 2) (a 7) 8 2 (sP s)  (by first | assumption | omega | decide) (by first | assumption | omega | decide) (by first | assumption | omega | decide) (by first | assumption | omega | decide) (by first | assumption | omega | decide)) cd_X2_addRow wm_X4_65 5 rfl rfl rfl [5, 6] rfl rfl (tb_fst.trans tb_fst.symm) rfl ⟨Nat.le_of_ble_eq_true rfl, Nat.le_of_ble_eq_true rfl⟩ ⟨Nat.zero_le _, Nat.zero_le _⟩ rfl (Nat.le_of_ble_eq_true rfl) dX4_addMember_34 ?_
    have e : oAddMember s  = ((nI ((sP s).1)), (some (uP s (tAdd 2 (sP s))))) := by unfold oAddMember; rw [if_pos h10] <;> rfl
    exact j_endI (pc := 37) E dX4_addMember_37 (by rw [e]) (by rw [e]; rfl)
  · skip
    have h10 := t5 h10
    have h10 : ¬ (sP s).1 < 8 := by simpa using h10
    refine j_bipush (pc := 13) X (v := (-3)) dX4_addMember_13 (by decide) ?_
    have e : oAddMember s  = ((-3), none) := by unfold oAddMember; rw [if_neg h10] <;> rfl
    exact j_endI (pc := 15) E dX4_addMember_15 (by rw [e]) (by rw [e]; rfl)
theorem cd_X4_setWind : kCardV yX4_setWind cX4_setWind 4 (some .int) 2 := ⟨⟨wc_X4_setWind, wi_X4, by decide +kernel, by decide +kernel, rfl⟩, wk_X4_setWind, ws_X4_setWind⟩
set_option maxHeartbeats 4000000 in
set_option maxRecDepth 100000 in
theorem c_X4_setWind (l : Launch) (D : va_G) (tA : Nat → ClassId) (c : Nat) (a b f h x : Nat → Nat) (k : Bool) (s : Sg) (d : Nat → Nat → Nat) (v : Hs) (t0 w0 : Int32) (hw : Wf s) (hnx : v.2.1 < 4) (hsz : v.2.2 ≤ 4) (hh : ∀ i, Wf (v.1 i)) : Kx l D tA yX4_setWind cX4_setWind 4 (some .int) 4 82 [.ref c, .int t0, .int w0] (clW c a b f h x k ++ (stW tA a s ++ (hsW tA h d v))) (some (.int ((oSetWind s t0 w0).1))) (clW c a b f h x k ++ (stW tA a (aS s (oSetWind s t0 w0).2) ++ (hsW tA h d (aH v s (oSetWind s t0 w0).2)))) := by
  refine kx_int rfl (Nat.le_of_ble_eq_true rfl) (fun G X E => ?_)
  show J l D G 0 0 (clW c a b f h x k ++ (stW tA a s ++ (hsW tA h d v))) [(0, .ref c), (1, .int t0), (2, .int w0)] 0 []
  have hn := hw.n
  refine j_aload_n (pc := 0) X dX4_setWind_0 rfl (q := 0) rfl ?_
  refine j_get (pc := 1) X (C := RX4) (T := TX4) (N := 6) wz_X4 0 rfl rfl 0 (by decide) wf_X4_12 rfl dX4_setWind_1 ?_
  refine j_iload_n (pc := 4) X dX4_setWind_4 rfl (q := 1) rfl ?_
  refine j_callVR (pc := 5) X (st := [])  (c_X1_isToCome l D tA a s t0 (by first | assumption | omega | decide)) cd_X1_isToCome wm_X4_69 1 rfl rfl rfl [1, 2, 3, 4, 5, 6, 7, 8, 9, 10] rfl rfl ⟨Nat.le_of_ble_eq_true rfl, Nat.le_of_ble_eq_true rfl⟩ ⟨Nat.zero_le _, Nat.zero_le _⟩ rfl (Nat.le_of_ble_eq_true rfl) dX4_setWind_5 ?_
  refine j_if_ne (pc := 8) X (tgt := 13) (P := (toCome s t0) = true) dX4_setWind_8 (by decide) (bI_n0 _) (fun h8 => ?_) (fun h8 => ?_)
  · skip
    skip
    obtain ⟨tt, hc8, rfl⟩ := toCome_t h8
    have ett : tn (nI tt) = tt := tn_nI (by omega)
    refine j_iload_n (pc := 13) X dX4_setWind_13 rfl (q := 2) rfl ?_
    refine j_iconst (pc := 14) X (v := (nI 0)) dX4_setWind_14 (by decide) ?_
    refine j_bipush (pc := 15) X (v := (nI 99)) dX4_setWind_15 (by decide) ?_
    refine j_callSR (pc := 17) X (st := [])  (c_X4_isWithin l D tA w0 (nI 0) (nI 99) ) cd_X4_isWithin wm_X4_40 rfl [] rfl rfl ⟨Nat.le_of_ble_eq_true rfl, Nat.le_of_ble_eq_true rfl⟩ ⟨Nat.zero_le _, Nat.zero_le _⟩ rfl (Nat.le_of_ble_eq_true rfl) dX4_setWind_17 ?_
    refine j_if_ne (pc := 20) X (tgt := 26) (P := (isW w0 (nI 0) (nI 99)) = true) dX4_setWind_20 (by decide) (bI_n0 _) (fun h20 => ?_) (fun h20 => ?_)
    · skip
      skip
      obtain ⟨ww, hc20, rfl⟩ := isW_t (by omega) (by omega) h20
      have eww : tn (nI ww) = ww := tn_nI (by omega)
      refine j_aload_n (pc := 26) X dX4_setWind_26 rfl (q := 0) rfl ?_
      refine j_get (pc := 27) X (C := RX4) (T := TX4) (N := 6) wz_X4 0 rfl rfl 0 (by decide) wf_X4_12 rfl dX4_setWind_27 ?_
      refine j_iload_n (pc := 30) X dX4_setWind_30 rfl (q := 1) rfl ?_
      refine j_callVR (pc := 31) X (st := [])  (c_X1_windAt l D tA a s tt hc8.2) cd_X1_windAt wm_X4_73 1 rfl rfl rfl [1, 2, 3, 4, 5, 6, 7, 8, 9, 10] rfl rfl ⟨Nat.le_of_ble_eq_true rfl, Nat.le_of_ble_eq_true rfl⟩ ⟨Nat.zero_le _, Nat.zero_le _⟩ rfl (Nat.le_of_ble_eq_true rfl) dX4_setWind_31 ?_
      have hwv := hw.w hc8.2
      refine j_istore_n (pc := 34) X (lv' := [(3, .int (nI ((sW s) tt))), (0, .ref c), (1, .int (nI tt)), (2, .int (nI ww))]) dX4_setWind_34 rfl (by decide) rfl ?_
      refine j_iload_n (pc := 35) X dX4_setWind_35 rfl (q := 0) rfl ?_
      refine j_iload_n (pc := 36) X dX4_setWind_36 rfl (q := 3) rfl ?_
      refine j_icmp_ne (pc := 37) X (tgt := 43) (P := ¬ ((sW s) tt) = ww) dX4_setWind_37 (by decide) (not_congr (nI_eq (by omega) (by omega))) (fun h37 => ?_) (fun h37 => ?_)
      · skip
        refine j_aload_n (pc := 43) X dX4_setWind_43 rfl (q := 1) rfl ?_
        refine j_get (pc := 44) X (C := RX4) (T := TX4) (N := 6) wz_X4 0 rfl rfl 3 (by decide) wf_X4_25 rfl dX4_setWind_44 ?_
        refine j_aload_n (pc := 47) X dX4_setWind_47 rfl (q := 1) rfl ?_
        refine j_get (pc := 48) X (C := RX4) (T := TX4) (N := 6) wz_X4 0 rfl rfl 0 (by decide) wf_X4_12 rfl dX4_setWind_48 ?_
        refine j_callVB (pc := 51) X (st := []) (wr := (clW c a b f h x k)) (w' := (clW c a b f h x k ++ (stW tA a s ++ (hsW tA h d (hPush v s))))) (c_X0_push l D tA h d v a s hnx hsz hh hw) cd_X0_push wm_X4_54 11 rfl rfl rfl [11, 12, 13, 14, 15, 16, 17, 18, 19, 20, 21, 22, 23, 24, 25, 26, 27, 28, 29, 30, 31, 32, 33, 34, 35, 36, 37, 38, 39, 40, 41, 42, 43, 44, 45, 46, 47, 48, 49, 50, 51, 52, 1, 2, 3, 4, 5, 6, 7, 8, 9, 10] rfl rfl [0] rfl rfl (fst_app (hs_fst.trans hs_fst.symm) (st_fst.trans st_fst.symm)) [52, 42, 43, 44, 45, 46, 47, 48, 49, 50, 51, 0, 1, 2, 3, 4, 5, 6, 7, 8, 9, 10, 11, 12, 13, 14, 15, 16, 17, 18, 19, 20, 21, 22, 23, 24, 25, 26, 27, 28, 29, 30, 31, 32, 33, 34, 35, 36, 37, 38, 39, 40, 41] rfl rfl ⟨Nat.le_of_ble_eq_true rfl, Nat.le_of_ble_eq_true rfl⟩ ⟨Nat.zero_le _, Nat.zero_le _⟩ rfl (Nat.le_of_ble_eq_true rfl) dX4_setWind_51 ?_
        refine j_aload_n (pc := 54) X dX4_setWind_54 rfl (q := 1) rfl ?_
        refine j_get (pc := 55) X (C := RX4) (T := TX4) (N := 6) wz_X4 0 rfl rfl 0 (by decide) wf_X4_12 rfl dX4_setWind_55 ?_
        refine j_iload_n (pc := 58) X dX4_setWind_58 rfl (q := 2) rfl ?_
        refine j_iload_n (pc := 59) X dX4_setWind_59 rfl (q := 3) rfl ?_
        refine j_callVB (pc := 60) X (st := []) (wr := (clW c a b f h x k ++ (hsW tA h d (hPush v s)))) (w' := (clW c a b f h x k ++ (stW tA a (uW s (va_up (sW s) tt ww)) ++ (hsW tA h d (hPush v s))))) (c_X1_tellWind l D tA a s tt ww hc8.2) cd_X1_tellWind wm_X4_77 1 rfl rfl rfl [1, 2, 3, 4, 5, 6, 7, 8, 9, 10] rfl rfl [0, 11, 12, 13, 14, 15, 16, 17, 18, 19, 20, 21, 22, 23, 24, 25, 26, 27, 28, 29, 30, 31, 32, 33, 34, 35, 36, 37, 38, 39, 40, 41, 42, 43, 44, 45, 46, 47, 48, 49, 50, 51, 52] rfl rfl (st_fst.trans st_fst.symm) [10, 0, 1, 2, 3, 4, 5, 6, 7, 8, 9, 11, 12, 13, 14, 15, 16, 17, 18, 19, 20, 21, 22, 23, 24, 25, 26, 27, 28, 29, 30, 31, 32, 33, 34, 35, 36, 37, 38, 39, 40, 41, 42, 43, 44, 45, 46, 47, 48, 49, 50, 51, 52] rfl rfl ⟨Nat.le_of_ble_eq_true rfl, Nat.le_of_ble_eq_true rfl⟩ ⟨Nat.zero_le _, Nat.zero_le _⟩ rfl (Nat.le_of_ble_eq_true rfl) dX4_setWind_60 ?_
        refine j_iload_n (pc := 63) X dX4_setWind_63 rfl (q := 0) rfl ?_
        have e : oSetWind s (nI tt) (nI ww) = ((nI ((sW s) tt)), (some (uW s (va_up (sW s) tt ww)))) := by unfold oSetWind; simp only [ett, eww]; rw [if_pos h8, if_pos h20, if_neg h37] <;> rfl
        exact j_endI (pc := 64) E dX4_setWind_64 (by rw [e]) (by rw [e]; rfl)
      · skip
        refine j_bipush (pc := 40) X (v := (-5)) dX4_setWind_40 (by decide) ?_
        have e : oSetWind s (nI tt) (nI ww) = ((-5), none) := by unfold oSetWind; simp only [ett, eww]; rw [if_pos h8, if_pos h20, if_pos (Decidable.not_not.mp h37)] <;> rfl
        exact j_endI (pc := 42) E dX4_setWind_42 (by rw [e]) (by rw [e]; rfl)
    · skip
      skip
      refine j_bipush (pc := 23) X (v := (-2)) dX4_setWind_23 (by decide) ?_
      have e : oSetWind s (nI tt) w0 = ((-2), none) := by unfold oSetWind; simp only [ett]; rw [if_pos h8, if_neg h20] <;> rfl
      exact j_endI (pc := 25) E dX4_setWind_25 (by rw [e]) (by rw [e]; rfl)
  · skip
    skip
    refine j_iconst (pc := 11) X (v := (-1)) dX4_setWind_11 (by decide) ?_
    have e : oSetWind s t0 w0 = ((-1), none) := by unfold oSetWind; rw [if_neg h8] <;> rfl
    exact j_endI (pc := 12) E dX4_setWind_12 (by rw [e]) (by rw [e]; rfl)
theorem cd_X4_book : kCardV yX4_book cX4_book 7 (some .int) 5 := ⟨⟨wc_X4_book, wi_X4, by decide +kernel, by decide +kernel, rfl⟩, wk_X4_book, ws_X4_book⟩
set_option maxHeartbeats 4000000 in
set_option maxRecDepth 100000 in
theorem c_X4_book (l : Launch) (D : va_G) (tA : Nat → ClassId) (c : Nat) (a b f h x : Nat → Nat) (k : Bool) (s : Sg) (d : Nat → Nat → Nat) (v : Hs) (p0 m0 t0 l0 r0 : Int32) (hw : Wf s) (hnx : v.2.1 < 4) (hsz : v.2.2 ≤ 4) (hh : ∀ i, Wf (v.1 i)) : Kx l D tA yX4_book cX4_book 7 (some .int) 4 82 [.ref c, .int p0, .int m0, .int t0, .int l0, .int r0] (clW c a b f h x k ++ (stW tA a s ++ (hsW tA h d v))) (some (.int ((oBook s p0 m0 t0 l0 r0).1))) (clW c a b f h x k ++ (stW tA a (aS s (oBook s p0 m0 t0 l0 r0).2) ++ (hsW tA h d (aH v s (oBook s p0 m0 t0 l0 r0).2)))) := by
  refine kx_int rfl (Nat.le_of_ble_eq_true rfl) (fun G X E => ?_)
  show J l D G 0 0 (clW c a b f h x k ++ (stW tA a s ++ (hsW tA h d v))) [(0, .ref c), (1, .int p0), (2, .int m0), (3, .int t0), (4, .int l0), (5, .int r0)] 0 []
  have hn := hw.n
  refine j_aload_n (pc := 0) X dX4_book_0 rfl (q := 0) rfl ?_
  refine j_get (pc := 1) X (C := RX4) (T := TX4) (N := 6) wz_X4 0 rfl rfl 0 (by decide) wf_X4_12 rfl dX4_book_1 ?_
  refine j_get (pc := 4) X (C := RX1) (T := TX1) (N := 9) wz_X1 1 rfl rfl 1 (by decide) wf_X4_62 rfl dX4_book_4 ?_
  refine j_iload_n (pc := 7) X dX4_book_7 rfl (q := 1) rfl ?_
  refine j_callVR (pc := 8) X (st := [])  (c_X2_has l D tA (a 2) (a 7) 8 2 (sP s) p0 (by first | assumption | omega | decide) (by first | assumption | omega | decide) (by first | assumption | omega | decide)) cd_X2_has wm_X4_81 5 rfl rfl rfl [5, 6] rfl rfl ⟨Nat.le_of_ble_eq_true rfl, Nat.le_of_ble_eq_true rfl⟩ ⟨Nat.zero_le _, Nat.zero_le _⟩ rfl (Nat.le_of_ble_eq_true rfl) dX4_book_8 ?_
  refine j_if_eq (pc := 11) X (tgt := 39) (P := (inR p0 (sP s).1) = false) dX4_book_11 (by decide) (bI_0 _) (fun h11 => ?_) (fun h11 => ?_)
  · skip
    have h11 := nf5 h11
    refine j_iconst (pc := 39) X (v := (-1)) dX4_book_39 (by decide) ?_
    have e : oBook s p0 m0 t0 l0 r0 = ((-1), none) := by unfold oBook; rw [if_neg (fun q => h11 q.1)] <;> rfl
    exact j_endI (pc := 40) E dX4_book_40 (by rw [e]) (by rw [e]; rfl)
  · skip
    have h11 := t5 h11
    obtain ⟨pp, hc11, rfl⟩ := inR_t h11
    have epp : tn (nI pp) = pp := tn_nI (by omega)
    refine j_aload_n (pc := 14) X dX4_book_14 rfl (q := 0) rfl ?_
    refine j_get (pc := 15) X (C := RX4) (T := TX4) (N := 6) wz_X4 0 rfl rfl 0 (by decide) wf_X4_12 rfl dX4_book_15 ?_
    refine j_get (pc := 18) X (C := RX1) (T := TX1) (N := 9) wz_X1 1 rfl rfl 0 (by decide) wf_X4_44 rfl dX4_book_18 ?_
    refine j_iload_n (pc := 21) X dX4_book_21 rfl (q := 2) rfl ?_
    refine j_callVR (pc := 22) X (st := [])  (c_X2_has l D tA (a 1) (a 6) 5 3 (sM s) m0 (by first | assumption | omega | decide) (by first | assumption | omega | decide) (by first | assumption | omega | decide)) cd_X2_has wm_X4_81 3 rfl rfl rfl [3, 4] rfl rfl ⟨Nat.le_of_ble_eq_true rfl, Nat.le_of_ble_eq_true rfl⟩ ⟨Nat.zero_le _, Nat.zero_le _⟩ rfl (Nat.le_of_ble_eq_true rfl) dX4_book_22 ?_
    refine j_if_eq (pc := 25) X (tgt := 39) (P := (inR m0 (sM s).1) = false) dX4_book_25 (by decide) (bI_0 _) (fun h25 => ?_) (fun h25 => ?_)
    · skip
      have h25 := nf5 h25
      refine j_iconst (pc := 39) X (v := (-1)) dX4_book_39 (by decide) ?_
      have e : oBook s (nI pp) m0 t0 l0 r0 = ((-1), none) := by unfold oBook; simp only [epp]; rw [if_neg (fun q => h25 q.2.1)] <;> rfl
      exact j_endI (pc := 40) E dX4_book_40 (by rw [e]) (by rw [e]; rfl)
    · skip
      have h25 := t5 h25
      obtain ⟨mm, hc25, rfl⟩ := inR_t h25
      have emm : tn (nI mm) = mm := tn_nI (by omega)
      refine j_aload_n (pc := 28) X dX4_book_28 rfl (q := 0) rfl ?_
      refine j_get (pc := 29) X (C := RX4) (T := TX4) (N := 6) wz_X4 0 rfl rfl 0 (by decide) wf_X4_12 rfl dX4_book_29 ?_
      refine j_iload_n (pc := 32) X dX4_book_32 rfl (q := 3) rfl ?_
      refine j_callVR (pc := 33) X (st := [])  (c_X1_isToCome l D tA a s t0 (by first | assumption | omega | decide)) cd_X1_isToCome wm_X4_69 1 rfl rfl rfl [1, 2, 3, 4, 5, 6, 7, 8, 9, 10] rfl rfl ⟨Nat.le_of_ble_eq_true rfl, Nat.le_of_ble_eq_true rfl⟩ ⟨Nat.zero_le _, Nat.zero_le _⟩ rfl (Nat.le_of_ble_eq_true rfl) dX4_book_33 ?_
      refine j_if_ne (pc := 36) X (tgt := 41) (P := (toCome s t0) = true) dX4_book_36 (by decide) (bI_n0 _) (fun h36 => ?_) (fun h36 => ?_)
      · skip
        skip
        obtain ⟨tt, hc36, rfl⟩ := toCome_t h36
        have ett : tn (nI tt) = tt := tn_nI (by omega)
        refine j_iload (pc := 41) X dX4_book_41 (q := 4) rfl ?_
        refine j_iload (pc := 43) X dX4_book_43 (q := 5) rfl ?_
        refine j_callSR (pc := 45) X (st := [])  (c_X4_isLift l D tA l0 r0 ) cd_X4_isLift wm_X4_84 rfl [] rfl rfl ⟨Nat.le_of_ble_eq_true rfl, Nat.le_of_ble_eq_true rfl⟩ ⟨Nat.zero_le _, Nat.zero_le _⟩ rfl (Nat.le_of_ble_eq_true rfl) dX4_book_45 ?_
        refine j_if_ne (pc := 48) X (tgt := 54) (P := (isLft l0 r0) = true) dX4_book_48 (by decide) (bI_n0 _) (fun h48 => ?_) (fun h48 => ?_)
        · skip
          skip
          obtain ⟨ll, rr, hc48, rfl, rfl⟩ := isLft_t h48
          have ell : tn (nI ll) = ll := tn_nI (by omega)
          have err : tn (nI rr) = rr := tn_nI (by omega)
          refine j_aload_n (pc := 54) X dX4_book_54 rfl (q := 0) rfl ?_
          refine j_get (pc := 55) X (C := RX4) (T := TX4) (N := 6) wz_X4 0 rfl rfl 0 (by decide) wf_X4_12 rfl dX4_book_55 ?_
          refine j_iload_n (pc := 58) X dX4_book_58 rfl (q := 2) rfl ?_
          refine j_iload_n (pc := 59) X dX4_book_59 rfl (q := 3) rfl ?_
          refine j_iload (pc := 60) X dX4_book_60 (q := 4) rfl ?_
          refine j_iload (pc := 62) X dX4_book_62 (q := 5) rfl ?_
          refine j_callVR (pc := 64) X (st := [])  (c_X1_canTake l D tA a s mm tt ll rr hw hc25 (by omega) (by omega) (by omega)) cd_X1_canTake wm_X4_88 1 rfl rfl rfl [1, 2, 3, 4, 5, 6, 7, 8, 9, 10] rfl rfl ⟨Nat.le_of_ble_eq_true rfl, Nat.le_of_ble_eq_true rfl⟩ ⟨Nat.zero_le _, Nat.zero_le _⟩ rfl (Nat.le_of_ble_eq_true rfl) dX4_book_64 ?_
          refine j_if_ne (pc := 67) X (tgt := 73) (P := (canT s mm tt ll rr) = true) dX4_book_67 (by decide) (bI_n0 _) (fun h67 => ?_) (fun h67 => ?_)
          · skip
            skip
            refine j_aload_n (pc := 73) X dX4_book_73 rfl (q := 0) rfl ?_
            refine j_get (pc := 74) X (C := RX4) (T := TX4) (N := 6) wz_X4 0 rfl rfl 0 (by decide) wf_X4_12 rfl dX4_book_74 ?_
            refine j_get (pc := 77) X (C := RX1) (T := TX1) (N := 9) wz_X1 1 rfl rfl 2 (by decide) wf_X4_92 rfl dX4_book_77 ?_
            refine j_callVR (pc := 80) X (st := [])  (c_X2_isFull l D tA (a 3) (a 8) 30 8 (sB s)  (by first | assumption | omega | decide) (by first | assumption | omega | decide) (by first | assumption | omega | decide)) cd_X2_isFull wm_X4_48 7 rfl rfl rfl [7, 8] rfl rfl ⟨Nat.le_of_ble_eq_true rfl, Nat.le_of_ble_eq_true rfl⟩ ⟨Nat.zero_le _, Nat.zero_le _⟩ rfl (Nat.le_of_ble_eq_true rfl) dX4_book_80 ?_
            refine j_if_eq (pc := 83) X (tgt := 89) (P := (decide (30 ≤ (sB s).1)) = false) dX4_book_83 (by decide) (bI_0 _) (fun h83 => ?_) (fun h83 => ?_)
            · skip
              have h83 := nf5 h83
              have h83 : (sB s).1 < 30 := by simpa using h83
              refine j_aload_n (pc := 89) X dX4_book_89 rfl (q := 0) rfl ?_
              refine j_get (pc := 90) X (C := RX4) (T := TX4) (N := 6) wz_X4 0 rfl rfl 3 (by decide) wf_X4_25 rfl dX4_book_90 ?_
              refine j_aload_n (pc := 93) X dX4_book_93 rfl (q := 0) rfl ?_
              refine j_get (pc := 94) X (C := RX4) (T := TX4) (N := 6) wz_X4 0 rfl rfl 0 (by decide) wf_X4_12 rfl dX4_book_94 ?_
              refine j_callVB (pc := 97) X (st := []) (wr := (clW c a b f h x k)) (w' := (clW c a b f h x k ++ (stW tA a s ++ (hsW tA h d (hPush v s))))) (c_X0_push l D tA h d v a s hnx hsz hh hw) cd_X0_push wm_X4_54 11 rfl rfl rfl [11, 12, 13, 14, 15, 16, 17, 18, 19, 20, 21, 22, 23, 24, 25, 26, 27, 28, 29, 30, 31, 32, 33, 34, 35, 36, 37, 38, 39, 40, 41, 42, 43, 44, 45, 46, 47, 48, 49, 50, 51, 52, 1, 2, 3, 4, 5, 6, 7, 8, 9, 10] rfl rfl [0] rfl rfl (fst_app (hs_fst.trans hs_fst.symm) (st_fst.trans st_fst.symm)) [52, 42, 43, 44, 45, 46, 47, 48, 49, 50, 51, 0, 1, 2, 3, 4, 5, 6, 7, 8, 9, 10, 11, 12, 13, 14, 15, 16, 17, 18, 19, 20, 21, 22, 23, 24, 25, 26, 27, 28, 29, 30, 31, 32, 33, 34, 35, 36, 37, 38, 39, 40, 41] rfl rfl ⟨Nat.le_of_ble_eq_true rfl, Nat.le_of_ble_eq_true rfl⟩ ⟨Nat.zero_le _, Nat.zero_le _⟩ rfl (Nat.le_of_ble_eq_true rfl) dX4_book_97 ?_
              refine j_aload_n (pc := 100) X dX4_book_100 rfl (q := 0) rfl ?_
              refine j_get (pc := 101) X (C := RX4) (T := TX4) (N := 6) wz_X4 0 rfl rfl 0 (by decide) wf_X4_12 rfl dX4_book_101 ?_
              refine j_iload_n (pc := 104) X dX4_book_104 rfl (q := 1) rfl ?_
              refine j_iload (pc := 105) X dX4_book_105 (q := 4) rfl ?_
              refine j_iload (pc := 107) X dX4_book_107 (q := 5) rfl ?_
              refine j_callVB (pc := 109) X (st := []) (wr := (clW c a b f h x k ++ (hsW tA h d (hPush v s)))) (w' := (clW c a b f h x k ++ (stW tA a (pBook s pp ll rr) ++ (hsW tA h d (hPush v s))))) (c_X1_putBooking l D tA a s pp ll rr (by first | assumption | omega | decide)) cd_X1_putBooking wm_X4_95 1 rfl rfl rfl [1, 2, 3, 4, 5, 6, 7, 8, 9, 10] rfl rfl [0, 11, 12, 13, 14, 15, 16, 17, 18, 19, 20, 21, 22, 23, 24, 25, 26, 27, 28, 29, 30, 31, 32, 33, 34, 35, 36, 37, 38, 39, 40, 41, 42, 43, 44, 45, 46, 47, 48, 49, 50, 51, 52] rfl rfl (st_fst.trans st_fst.symm) [10, 0, 1, 2, 3, 4, 5, 6, 7, 8, 9, 11, 12, 13, 14, 15, 16, 17, 18, 19, 20, 21, 22, 23, 24, 25, 26, 27, 28, 29, 30, 31, 32, 33, 34, 35, 36, 37, 38, 39, 40, 41, 42, 43, 44, 45, 46, 47, 48, 49, 50, 51, 52] rfl rfl ⟨Nat.le_of_ble_eq_true rfl, Nat.le_of_ble_eq_true rfl⟩ ⟨Nat.zero_le _, Nat.zero_le _⟩ rfl (Nat.le_of_ble_eq_true rfl) dX4_book_109 ?_
              refine j_istore (pc := 112) X (lv' := [(6, .int (nI ((sB s).1))), (0, .ref c), (1, .int (nI pp)), (2, .int (nI mm)), (3, .int (nI tt)), (4, .int (nI ll)), (5, .int (nI rr))]) dX4_book_112 (by decide) rfl ?_
              refine j_aload_n (pc := 114) X dX4_book_114 rfl (q := 1) rfl ?_
              refine j_get (pc := 115) X (C := RX4) (T := TX4) (N := 6) wz_X4 0 rfl rfl 0 (by decide) wf_X4_12 rfl dX4_book_115 ?_
              refine j_iload (pc := 118) X dX4_book_118 (q := 0) rfl ?_
              refine j_iload_n (pc := 120) X dX4_book_120 rfl (q := 3) rfl ?_
              refine j_iload_n (pc := 121) X dX4_book_121 rfl (q := 4) rfl ?_
              refine j_callVB (pc := 122) X (st := []) (wr := (clW c a b f h x k ++ (hsW tA h d (hPush v s)))) (w' := (clW c a b f h x k ++ (stW tA a (placeS (pBook s pp ll rr) ((sB s).1) mm tt) ++ (hsW tA h d (hPush v s))))) (c_X1_place l D tA a (pBook s pp ll rr) ((sB s).1) mm tt (show (sB s).1 + 1 ≤ 30 by omega) (show (sB s).1 < (sB s).1 + 1 by omega) hc36.2) cd_X1_place wm_X4_99 1 rfl rfl rfl [1, 2, 3, 4, 5, 6, 7, 8, 9, 10] rfl rfl [0, 11, 12, 13, 14, 15, 16, 17, 18, 19, 20, 21, 22, 23, 24, 25, 26, 27, 28, 29, 30, 31, 32, 33, 34, 35, 36, 37, 38, 39, 40, 41, 42, 43, 44, 45, 46, 47, 48, 49, 50, 51, 52] rfl rfl (st_fst.trans st_fst.symm) [10, 0, 1, 2, 3, 4, 5, 6, 7, 8, 9, 11, 12, 13, 14, 15, 16, 17, 18, 19, 20, 21, 22, 23, 24, 25, 26, 27, 28, 29, 30, 31, 32, 33, 34, 35, 36, 37, 38, 39, 40, 41, 42, 43, 44, 45, 46, 47, 48, 49, 50, 51, 52] rfl rfl ⟨Nat.le_of_ble_eq_true rfl, Nat.le_of_ble_eq_true rfl⟩ ⟨Nat.zero_le _, Nat.zero_le _⟩ rfl (Nat.le_of_ble_eq_true rfl) dX4_book_122 ?_
              refine j_iload (pc := 125) X dX4_book_125 (q := 0) rfl ?_
              have e : oBook s (nI pp) (nI mm) (nI tt) (nI ll) (nI rr) = ((nI ((sB s).1)), (some (placeS (pBook s pp ll rr) ((sB s).1) mm tt))) := by unfold oBook; simp only [epp, emm, ett, ell, err]; rw [if_pos ⟨h11, h25, h36⟩, if_pos h48, if_pos h67, if_pos h83] <;> rfl
              exact j_endI (pc := 127) E dX4_book_127 (by rw [e]) (by rw [e]; rfl)
            · skip
              have h83 := t5 h83
              have h83 : ¬ (sB s).1 < 30 := by simpa using h83
              refine j_bipush (pc := 86) X (v := (-3)) dX4_book_86 (by decide) ?_
              have e : oBook s (nI pp) (nI mm) (nI tt) (nI ll) (nI rr) = ((-3), none) := by unfold oBook; simp only [epp, emm, ett, ell, err]; rw [if_pos ⟨h11, h25, h36⟩, if_pos h48, if_pos h67, if_neg h83] <;> rfl
              exact j_endI (pc := 88) E dX4_book_88 (by rw [e]) (by rw [e]; rfl)
          · skip
            skip
            refine j_bipush (pc := 70) X (v := (-4)) dX4_book_70 (by decide) ?_
            have e : oBook s (nI pp) (nI mm) (nI tt) (nI ll) (nI rr) = ((-4), none) := by unfold oBook; simp only [epp, emm, ett, ell, err]; rw [if_pos ⟨h11, h25, h36⟩, if_pos h48, if_neg h67] <;> rfl
            exact j_endI (pc := 72) E dX4_book_72 (by rw [e]) (by rw [e]; rfl)
        · skip
          skip
          refine j_bipush (pc := 51) X (v := (-2)) dX4_book_51 (by decide) ?_
          have e : oBook s (nI pp) (nI mm) (nI tt) l0 r0 = ((-2), none) := by unfold oBook; simp only [epp, emm, ett]; rw [if_pos ⟨h11, h25, h36⟩, if_neg h48] <;> rfl
          exact j_endI (pc := 53) E dX4_book_53 (by rw [e]) (by rw [e]; rfl)
      · skip
        skip
        refine j_iconst (pc := 39) X (v := (-1)) dX4_book_39 (by decide) ?_
        have e : oBook s (nI pp) (nI mm) t0 l0 r0 = ((-1), none) := by unfold oBook; simp only [epp, emm]; rw [if_neg (fun q => h36 q.2.2)] <;> rfl
        exact j_endI (pc := 40) E dX4_book_40 (by rw [e]) (by rw [e]; rfl)
theorem cd_X4_cancel : kCardV yX4_cancel cX4_cancel 3 (some .int) 1 := ⟨⟨wc_X4_cancel, wi_X4, by decide +kernel, by decide +kernel, rfl⟩, wk_X4_cancel, ws_X4_cancel⟩
set_option maxHeartbeats 4000000 in
set_option maxRecDepth 100000 in
theorem c_X4_cancel (l : Launch) (D : va_G) (tA : Nat → ClassId) (c : Nat) (a b f h x : Nat → Nat) (k : Bool) (s : Sg) (d : Nat → Nat → Nat) (v : Hs) (b0 : Int32) (hw : Wf s) (hnx : v.2.1 < 4) (hsz : v.2.2 ≤ 4) (hh : ∀ i, Wf (v.1 i)) : Kx l D tA yX4_cancel cX4_cancel 3 (some .int) 4 82 [.ref c, .int b0] (clW c a b f h x k ++ (stW tA a s ++ (hsW tA h d v))) (some (.int ((oCancel s b0).1))) (clW c a b f h x k ++ (stW tA a (aS s (oCancel s b0).2) ++ (hsW tA h d (aH v s (oCancel s b0).2)))) := by
  refine kx_int rfl (Nat.le_of_ble_eq_true rfl) (fun G X E => ?_)
  show J l D G 0 0 (clW c a b f h x k ++ (stW tA a s ++ (hsW tA h d v))) [(0, .ref c), (1, .int b0)] 0 []
  have hn := hw.n
  refine j_aload_n (pc := 0) X dX4_cancel_0 rfl (q := 0) rfl ?_
  refine j_get (pc := 1) X (C := RX4) (T := TX4) (N := 6) wz_X4 0 rfl rfl 0 (by decide) wf_X4_12 rfl dX4_cancel_1 ?_
  refine j_get (pc := 4) X (C := RX1) (T := TX1) (N := 9) wz_X1 1 rfl rfl 2 (by decide) wf_X4_92 rfl dX4_cancel_4 ?_
  refine j_iload_n (pc := 7) X dX4_cancel_7 rfl (q := 1) rfl ?_
  refine j_callVR (pc := 8) X (st := [])  (c_X2_has l D tA (a 3) (a 8) 30 8 (sB s) b0 (by first | assumption | omega | decide) (by first | assumption | omega | decide) (by first | assumption | omega | decide)) cd_X2_has wm_X4_81 7 rfl rfl rfl [7, 8] rfl rfl ⟨Nat.le_of_ble_eq_true rfl, Nat.le_of_ble_eq_true rfl⟩ ⟨Nat.zero_le _, Nat.zero_le _⟩ rfl (Nat.le_of_ble_eq_true rfl) dX4_cancel_8 ?_
  refine j_if_ne (pc := 11) X (tgt := 16) (P := (inR b0 (sB s).1) = true) dX4_cancel_11 (by decide) (bI_n0 _) (fun h11 => ?_) (fun h11 => ?_)
  · skip
    skip
    obtain ⟨bb, hc11, rfl⟩ := inR_t h11
    have ebb : tn (nI bb) = bb := tn_nI (by omega)
    have hb0 := hw.b hc11
    refine j_aload_n (pc := 16) X dX4_cancel_16 rfl (q := 0) rfl ?_
    refine j_get (pc := 17) X (C := RX4) (T := TX4) (N := 6) wz_X4 0 rfl rfl 0 (by decide) wf_X4_12 rfl dX4_cancel_17 ?_
    refine j_iload_n (pc := 20) X dX4_cancel_20 rfl (q := 1) rfl ?_
    refine j_callVR (pc := 21) X (st := [])  (c_X1_isBooked l D tA a s bb (by first | assumption | omega | decide) (by first | assumption | omega | decide)) cd_X1_isBooked wm_X4_103 1 rfl rfl rfl [1, 2, 3, 4, 5, 6, 7, 8, 9, 10] rfl rfl ⟨Nat.le_of_ble_eq_true rfl, Nat.le_of_ble_eq_true rfl⟩ ⟨Nat.zero_le _, Nat.zero_le _⟩ rfl (Nat.le_of_ble_eq_true rfl) dX4_cancel_21 ?_
    refine j_if_ne (pc := 24) X (tgt := 30) (P := (decide (tGet 8 (sB s) bb 5 = 0)) = true) dX4_cancel_24 (by decide) (bI_n0 _) (fun h24 => ?_) (fun h24 => ?_)
    · skip
      skip
      have h24 : tGet 8 (sB s) bb 5 = 0 := by simpa using h24
      refine j_aload_n (pc := 30) X dX4_cancel_30 rfl (q := 0) rfl ?_
      refine j_get (pc := 31) X (C := RX4) (T := TX4) (N := 6) wz_X4 0 rfl rfl 3 (by decide) wf_X4_25 rfl dX4_cancel_31 ?_
      refine j_aload_n (pc := 34) X dX4_cancel_34 rfl (q := 0) rfl ?_
      refine j_get (pc := 35) X (C := RX4) (T := TX4) (N := 6) wz_X4 0 rfl rfl 0 (by decide) wf_X4_12 rfl dX4_cancel_35 ?_
      refine j_callVB (pc := 38) X (st := []) (wr := (clW c a b f h x k)) (w' := (clW c a b f h x k ++ (stW tA a s ++ (hsW tA h d (hPush v s))))) (c_X0_push l D tA h d v a s hnx hsz hh hw) cd_X0_push wm_X4_54 11 rfl rfl rfl [11, 12, 13, 14, 15, 16, 17, 18, 19, 20, 21, 22, 23, 24, 25, 26, 27, 28, 29, 30, 31, 32, 33, 34, 35, 36, 37, 38, 39, 40, 41, 42, 43, 44, 45, 46, 47, 48, 49, 50, 51, 52, 1, 2, 3, 4, 5, 6, 7, 8, 9, 10] rfl rfl [0] rfl rfl (fst_app (hs_fst.trans hs_fst.symm) (st_fst.trans st_fst.symm)) [52, 42, 43, 44, 45, 46, 47, 48, 49, 50, 51, 0, 1, 2, 3, 4, 5, 6, 7, 8, 9, 10, 11, 12, 13, 14, 15, 16, 17, 18, 19, 20, 21, 22, 23, 24, 25, 26, 27, 28, 29, 30, 31, 32, 33, 34, 35, 36, 37, 38, 39, 40, 41] rfl rfl ⟨Nat.le_of_ble_eq_true rfl, Nat.le_of_ble_eq_true rfl⟩ ⟨Nat.zero_le _, Nat.zero_le _⟩ rfl (Nat.le_of_ble_eq_true rfl) dX4_cancel_38 ?_
      refine j_aload_n (pc := 41) X dX4_cancel_41 rfl (q := 0) rfl ?_
      refine j_get (pc := 42) X (C := RX4) (T := TX4) (N := 6) wz_X4 0 rfl rfl 0 (by decide) wf_X4_12 rfl dX4_cancel_42 ?_
      refine j_get (pc := 45) X (C := RX1) (T := TX1) (N := 9) wz_X1 1 rfl rfl 2 (by decide) wf_X4_92 rfl dX4_cancel_45 ?_
      refine j_iload_n (pc := 48) X dX4_cancel_48 rfl (q := 1) rfl ?_
      refine j_iconst (pc := 49) X (v := (nI 2)) dX4_cancel_49 (by decide) ?_
      refine j_callVR (pc := 50) X (st := [])  (c_X2_get l D tA (a 3) (a 8) 30 8 (sB s) bb 2 (by first | assumption | omega | decide) (by first | assumption | omega | decide) (by first | assumption | omega | decide) (by first | assumption | omega | decide) (by first | assumption | omega | decide) (by first | assumption | omega | decide)) cd_X2_get wm_X4_106 7 rfl rfl rfl [7, 8] rfl rfl ⟨Nat.le_of_ble_eq_true rfl, Nat.le_of_ble_eq_true rfl⟩ ⟨Nat.zero_le _, Nat.zero_le _⟩ rfl (Nat.le_of_ble_eq_true rfl) dX4_cancel_50 ?_
      refine j_aload_n (pc := 53) X dX4_cancel_53 rfl (q := 0) rfl ?_
      refine j_get (pc := 54) X (C := RX4) (T := TX4) (N := 6) wz_X4 0 rfl rfl 0 (by decide) wf_X4_12 rfl dX4_cancel_54 ?_
      refine j_get (pc := 57) X (C := RX1) (T := TX1) (N := 9) wz_X1 1 rfl rfl 5 (by decide) wf_X4_109 rfl dX4_cancel_57 ?_
      refine j_icmp_ne (pc := 60) X (tgt := 67) (P := ¬ (tGet 8 (sB s) bb 2) = (sN s)) dX4_cancel_60 (by decide) (not_congr (nI_eq (by omega) (by omega))) (fun h60 => ?_) (fun h60 => ?_)
      · skip
        refine j_iconst (pc := 67) X (v := (nI 0)) dX4_cancel_67 (by decide) ?_
        refine j_top (v' := nI (coin s bb)) (by rw [coin, if_neg h60]) ?_
        refine j_istore_n (pc := 68) X (lv' := [(2, .int (nI (coin s bb))), (0, .ref c), (1, .int (nI bb))]) dX4_cancel_68 rfl (by decide) rfl ?_
        refine j_aload_n (pc := 69) X dX4_cancel_69 rfl (q := 1) rfl ?_
        refine j_get (pc := 70) X (C := RX4) (T := TX4) (N := 6) wz_X4 0 rfl rfl 0 (by decide) wf_X4_12 rfl dX4_cancel_70 ?_
        refine j_aload_n (pc := 73) X dX4_cancel_73 rfl (q := 1) rfl ?_
        refine j_get (pc := 74) X (C := RX4) (T := TX4) (N := 6) wz_X4 0 rfl rfl 0 (by decide) wf_X4_12 rfl dX4_cancel_74 ?_
        refine j_get (pc := 77) X (C := RX1) (T := TX1) (N := 9) wz_X1 1 rfl rfl 2 (by decide) wf_X4_92 rfl dX4_cancel_77 ?_
        refine j_iload_n (pc := 80) X dX4_cancel_80 rfl (q := 2) rfl ?_
        refine j_iconst (pc := 81) X (v := (nI 0)) dX4_cancel_81 (by decide) ?_
        refine j_callVR (pc := 82) X (st := [.ref (a 0)])  (c_X2_get l D tA (a 3) (a 8) 30 8 (sB s) bb 0 (by first | assumption | omega | decide) (by first | assumption | omega | decide) (by first | assumption | omega | decide) (by first | assumption | omega | decide) (by first | assumption | omega | decide) (by first | assumption | omega | decide)) cd_X2_get wm_X4_106 7 rfl rfl rfl [7, 8] rfl rfl ⟨Nat.le_of_ble_eq_true rfl, Nat.le_of_ble_eq_true rfl⟩ ⟨Nat.zero_le _, Nat.zero_le _⟩ rfl (Nat.le_of_ble_eq_true rfl) dX4_cancel_82 ?_
        refine j_iload_n (pc := 85) X dX4_cancel_85 rfl (q := 0) rfl ?_
        refine j_callVB (pc := 86) X (st := []) (wr := (clW c a b f h x k ++ (hsW tA h d (hPush v s)))) (w' := (clW c a b f h x k ++ (stW tA a (payS s (tGet 8 (sB s) bb 0) (coin s bb)) ++ (hsW tA h d (hPush v s))))) (c_X1_pay l D tA a s (tGet 8 (sB s) bb 0) (coin s bb) (by omega) hb0.1) cd_X1_pay wm_X4_113 1 rfl rfl rfl [1, 2, 3, 4, 5, 6, 7, 8, 9, 10] rfl rfl [0, 11, 12, 13, 14, 15, 16, 17, 18, 19, 20, 21, 22, 23, 24, 25, 26, 27, 28, 29, 30, 31, 32, 33, 34, 35, 36, 37, 38, 39, 40, 41, 42, 43, 44, 45, 46, 47, 48, 49, 50, 51, 52] rfl rfl (st_fst.trans st_fst.symm) [10, 0, 1, 2, 3, 4, 5, 6, 7, 8, 9, 11, 12, 13, 14, 15, 16, 17, 18, 19, 20, 21, 22, 23, 24, 25, 26, 27, 28, 29, 30, 31, 32, 33, 34, 35, 36, 37, 38, 39, 40, 41, 42, 43, 44, 45, 46, 47, 48, 49, 50, 51, 52] rfl rfl ⟨Nat.le_of_ble_eq_true rfl, Nat.le_of_ble_eq_true rfl⟩ ⟨Nat.zero_le _, Nat.zero_le _⟩ rfl (Nat.le_of_ble_eq_true rfl) dX4_cancel_86 ?_
        refine j_aload_n (pc := 89) X dX4_cancel_89 rfl (q := 1) rfl ?_
        refine j_get (pc := 90) X (C := RX4) (T := TX4) (N := 6) wz_X4 0 rfl rfl 0 (by decide) wf_X4_12 rfl dX4_cancel_90 ?_
        refine j_get (pc := 93) X (C := RX1) (T := TX1) (N := 9) wz_X1 1 rfl rfl 2 (by decide) wf_X4_92 rfl dX4_cancel_93 ?_
        refine j_iload_n (pc := 96) X dX4_cancel_96 rfl (q := 2) rfl ?_
        refine j_iconst (pc := 97) X (v := (nI 5)) dX4_cancel_97 (by decide) ?_
        refine j_iconst (pc := 98) X (v := (nI 3)) dX4_cancel_98 (by decide) ?_
        refine j_callV (pc := 99) X (st := []) (w' := (clW c a b f h x k ++ (stW tA a (uB (payS s (tGet 8 (sB s) bb 0) (coin s bb)) (tSet 8 (sB (payS s (tGet 8 (sB s) bb 0) (coin s bb))) bb 5 3)) ++ (hsW tA h d (hPush v s))))) (c_X2_set l D tA (a 3) (a 8) 30 8 (sB (payS s (tGet 8 (sB s) bb 0) (coin s bb))) bb 5 3 (by decide) (by decide) (show (sB s).1 ≤ 30 by omega) (show bb < (sB s).1 from hc11) (by decide) (by decide)) cd_X2_set wm_X4_116 7 rfl rfl rfl [7, 8] rfl rfl (tb_fst.trans tb_fst.symm) rfl ⟨Nat.le_of_ble_eq_true rfl, Nat.le_of_ble_eq_true rfl⟩ ⟨Nat.zero_le _, Nat.zero_le _⟩ rfl (Nat.le_of_ble_eq_true rfl) dX4_cancel_99 ?_
        refine j_iload_n (pc := 102) X dX4_cancel_102 rfl (q := 0) rfl ?_
        have e : oCancel s (nI bb) = ((nI (coin s bb)), (some (uB (payS s (tGet 8 (sB s) bb 0) (coin s bb)) (tSet 8 (sB (payS s (tGet 8 (sB s) bb 0) (coin s bb))) bb 5 3)))) := by unfold oCancel; simp only [ebb]; rw [if_pos h11, if_pos h24] <;> rfl
        exact j_endI (pc := 103) E dX4_cancel_103 (by rw [e]) (by rw [e]; rfl)
      · skip
        refine j_iconst (pc := 63) X (v := (nI 4)) dX4_cancel_63 (by decide) ?_
        refine j_goto (pc := 64) X (tgt := 68) dX4_cancel_64 (by decide) ?_
        refine j_top (v' := nI (coin s bb)) (by rw [coin, if_pos (Decidable.not_not.mp h60)]) ?_
        refine j_istore_n (pc := 68) X (lv' := [(2, .int (nI (coin s bb))), (0, .ref c), (1, .int (nI bb))]) dX4_cancel_68 rfl (by decide) rfl ?_
        refine j_aload_n (pc := 69) X dX4_cancel_69 rfl (q := 1) rfl ?_
        refine j_get (pc := 70) X (C := RX4) (T := TX4) (N := 6) wz_X4 0 rfl rfl 0 (by decide) wf_X4_12 rfl dX4_cancel_70 ?_
        refine j_aload_n (pc := 73) X dX4_cancel_73 rfl (q := 1) rfl ?_
        refine j_get (pc := 74) X (C := RX4) (T := TX4) (N := 6) wz_X4 0 rfl rfl 0 (by decide) wf_X4_12 rfl dX4_cancel_74 ?_
        refine j_get (pc := 77) X (C := RX1) (T := TX1) (N := 9) wz_X1 1 rfl rfl 2 (by decide) wf_X4_92 rfl dX4_cancel_77 ?_
        refine j_iload_n (pc := 80) X dX4_cancel_80 rfl (q := 2) rfl ?_
        refine j_iconst (pc := 81) X (v := (nI 0)) dX4_cancel_81 (by decide) ?_
        refine j_callVR (pc := 82) X (st := [.ref (a 0)])  (c_X2_get l D tA (a 3) (a 8) 30 8 (sB s) bb 0 (by first | assumption | omega | decide) (by first | assumption | omega | decide) (by first | assumption | omega | decide) (by first | assumption | omega | decide) (by first | assumption | omega | decide) (by first | assumption | omega | decide)) cd_X2_get wm_X4_106 7 rfl rfl rfl [7, 8] rfl rfl ⟨Nat.le_of_ble_eq_true rfl, Nat.le_of_ble_eq_true rfl⟩ ⟨Nat.zero_le _, Nat.zero_le _⟩ rfl (Nat.le_of_ble_eq_true rfl) dX4_cancel_82 ?_
        refine j_iload_n (pc := 85) X dX4_cancel_85 rfl (q := 0) rfl ?_
        refine j_callVB (pc := 86) X (st := []) (wr := (clW c a b f h x k ++ (hsW tA h d (hPush v s)))) (w' := (clW c a b f h x k ++ (stW tA a (payS s (tGet 8 (sB s) bb 0) (coin s bb)) ++ (hsW tA h d (hPush v s))))) (c_X1_pay l D tA a s (tGet 8 (sB s) bb 0) (coin s bb) (by omega) hb0.1) cd_X1_pay wm_X4_113 1 rfl rfl rfl [1, 2, 3, 4, 5, 6, 7, 8, 9, 10] rfl rfl [0, 11, 12, 13, 14, 15, 16, 17, 18, 19, 20, 21, 22, 23, 24, 25, 26, 27, 28, 29, 30, 31, 32, 33, 34, 35, 36, 37, 38, 39, 40, 41, 42, 43, 44, 45, 46, 47, 48, 49, 50, 51, 52] rfl rfl (st_fst.trans st_fst.symm) [10, 0, 1, 2, 3, 4, 5, 6, 7, 8, 9, 11, 12, 13, 14, 15, 16, 17, 18, 19, 20, 21, 22, 23, 24, 25, 26, 27, 28, 29, 30, 31, 32, 33, 34, 35, 36, 37, 38, 39, 40, 41, 42, 43, 44, 45, 46, 47, 48, 49, 50, 51, 52] rfl rfl ⟨Nat.le_of_ble_eq_true rfl, Nat.le_of_ble_eq_true rfl⟩ ⟨Nat.zero_le _, Nat.zero_le _⟩ rfl (Nat.le_of_ble_eq_true rfl) dX4_cancel_86 ?_
        refine j_aload_n (pc := 89) X dX4_cancel_89 rfl (q := 1) rfl ?_
        refine j_get (pc := 90) X (C := RX4) (T := TX4) (N := 6) wz_X4 0 rfl rfl 0 (by decide) wf_X4_12 rfl dX4_cancel_90 ?_
        refine j_get (pc := 93) X (C := RX1) (T := TX1) (N := 9) wz_X1 1 rfl rfl 2 (by decide) wf_X4_92 rfl dX4_cancel_93 ?_
        refine j_iload_n (pc := 96) X dX4_cancel_96 rfl (q := 2) rfl ?_
        refine j_iconst (pc := 97) X (v := (nI 5)) dX4_cancel_97 (by decide) ?_
        refine j_iconst (pc := 98) X (v := (nI 3)) dX4_cancel_98 (by decide) ?_
        refine j_callV (pc := 99) X (st := []) (w' := (clW c a b f h x k ++ (stW tA a (uB (payS s (tGet 8 (sB s) bb 0) (coin s bb)) (tSet 8 (sB (payS s (tGet 8 (sB s) bb 0) (coin s bb))) bb 5 3)) ++ (hsW tA h d (hPush v s))))) (c_X2_set l D tA (a 3) (a 8) 30 8 (sB (payS s (tGet 8 (sB s) bb 0) (coin s bb))) bb 5 3 (by decide) (by decide) (show (sB s).1 ≤ 30 by omega) (show bb < (sB s).1 from hc11) (by decide) (by decide)) cd_X2_set wm_X4_116 7 rfl rfl rfl [7, 8] rfl rfl (tb_fst.trans tb_fst.symm) rfl ⟨Nat.le_of_ble_eq_true rfl, Nat.le_of_ble_eq_true rfl⟩ ⟨Nat.zero_le _, Nat.zero_le _⟩ rfl (Nat.le_of_ble_eq_true rfl) dX4_cancel_99 ?_
        refine j_iload_n (pc := 102) X dX4_cancel_102 rfl (q := 0) rfl ?_
        have e : oCancel s (nI bb) = ((nI (coin s bb)), (some (uB (payS s (tGet 8 (sB s) bb 0) (coin s bb)) (tSet 8 (sB (payS s (tGet 8 (sB s) bb 0) (coin s bb))) bb 5 3)))) := by unfold oCancel; simp only [ebb]; rw [if_pos h11, if_pos h24] <;> rfl
        exact j_endI (pc := 103) E dX4_cancel_103 (by rw [e]) (by rw [e]; rfl)
    · skip
      skip
      have h24 : ¬ tGet 8 (sB s) bb 5 = 0 := by simpa using h24
      refine j_bipush (pc := 27) X (v := (-4)) dX4_cancel_27 (by decide) ?_
      have e : oCancel s (nI bb) = ((-4), none) := by unfold oCancel; simp only [ebb]; rw [if_pos h11, if_neg h24] <;> rfl
      exact j_endI (pc := 29) E dX4_cancel_29 (by rw [e]) (by rw [e]; rfl)
  · skip
    skip
    refine j_iconst (pc := 14) X (v := (-1)) dX4_cancel_14 (by decide) ?_
    have e : oCancel s b0 = ((-1), none) := by unfold oCancel; rw [if_neg h11] <;> rfl
    exact j_endI (pc := 15) E dX4_cancel_15 (by rw [e]) (by rw [e]; rfl)
theorem cd_X4_swap : kCardV yX4_swap cX4_swap 7 (some .int) 2 := ⟨⟨wc_X4_swap, wi_X4, by decide +kernel, by decide +kernel, rfl⟩, wk_X4_swap, ws_X4_swap⟩
set_option maxHeartbeats 4000000 in
set_option maxRecDepth 100000 in
theorem c_X4_swap (l : Launch) (D : va_G) (tA : Nat → ClassId) (c : Nat) (a b f h x : Nat → Nat) (k : Bool) (s : Sg) (d : Nat → Nat → Nat) (v : Hs) (b0 c0 : Int32) (hw : Wf s) (hnx : v.2.1 < 4) (hsz : v.2.2 ≤ 4) (hh : ∀ i, Wf (v.1 i)) : Kx l D tA yX4_swap cX4_swap 7 (some .int) 4 82 [.ref c, .int b0, .int c0] (clW c a b f h x k ++ (stW tA a s ++ (hsW tA h d v))) (some (.int ((oSwap s b0 c0).1))) (clW c a b f h x k ++ (stW tA a (aS s (oSwap s b0 c0).2) ++ (hsW tA h d (aH v s (oSwap s b0 c0).2)))) := by
  refine kx_int rfl (Nat.le_of_ble_eq_true rfl) (fun G X E => ?_)
  show J l D G 0 0 (clW c a b f h x k ++ (stW tA a s ++ (hsW tA h d v))) [(0, .ref c), (1, .int b0), (2, .int c0)] 0 []
  have hn := hw.n
  refine j_aload_n (pc := 0) X dX4_swap_0 rfl (q := 0) rfl ?_
  refine j_get (pc := 1) X (C := RX4) (T := TX4) (N := 6) wz_X4 0 rfl rfl 0 (by decide) wf_X4_12 rfl dX4_swap_1 ?_
  refine j_get (pc := 4) X (C := RX1) (T := TX1) (N := 9) wz_X1 1 rfl rfl 2 (by decide) wf_X4_92 rfl dX4_swap_4 ?_
  refine j_iload_n (pc := 7) X dX4_swap_7 rfl (q := 1) rfl ?_
  refine j_callVR (pc := 8) X (st := [])  (c_X2_has l D tA (a 3) (a 8) 30 8 (sB s) b0 (by first | assumption | omega | decide) (by first | assumption | omega | decide) (by first | assumption | omega | decide)) cd_X2_has wm_X4_81 7 rfl rfl rfl [7, 8] rfl rfl ⟨Nat.le_of_ble_eq_true rfl, Nat.le_of_ble_eq_true rfl⟩ ⟨Nat.zero_le _, Nat.zero_le _⟩ rfl (Nat.le_of_ble_eq_true rfl) dX4_swap_8 ?_
  refine j_if_eq (pc := 11) X (tgt := 28) (P := (inR b0 (sB s).1) = false) dX4_swap_11 (by decide) (bI_0 _) (fun h11 => ?_) (fun h11 => ?_)
  · skip
    have h11 := nf5 h11
    refine j_iconst (pc := 28) X (v := (-1)) dX4_swap_28 (by decide) ?_
    have e : oSwap s b0 c0 = ((-1), none) := by unfold oSwap; rw [if_neg (fun q => h11 q.1)] <;> rfl
    exact j_endI (pc := 29) E dX4_swap_29 (by rw [e]) (by rw [e]; rfl)
  · skip
    have h11 := t5 h11
    obtain ⟨bb, hc11, rfl⟩ := inR_t h11
    have ebb : tn (nI bb) = bb := tn_nI (by omega)
    have hb0 := hw.b hc11
    refine j_aload_n (pc := 14) X dX4_swap_14 rfl (q := 0) rfl ?_
    refine j_get (pc := 15) X (C := RX4) (T := TX4) (N := 6) wz_X4 0 rfl rfl 0 (by decide) wf_X4_12 rfl dX4_swap_15 ?_
    refine j_get (pc := 18) X (C := RX1) (T := TX1) (N := 9) wz_X1 1 rfl rfl 2 (by decide) wf_X4_92 rfl dX4_swap_18 ?_
    refine j_iload_n (pc := 21) X dX4_swap_21 rfl (q := 2) rfl ?_
    refine j_callVR (pc := 22) X (st := [])  (c_X2_has l D tA (a 3) (a 8) 30 8 (sB s) c0 (by first | assumption | omega | decide) (by first | assumption | omega | decide) (by first | assumption | omega | decide)) cd_X2_has wm_X4_81 7 rfl rfl rfl [7, 8] rfl rfl ⟨Nat.le_of_ble_eq_true rfl, Nat.le_of_ble_eq_true rfl⟩ ⟨Nat.zero_le _, Nat.zero_le _⟩ rfl (Nat.le_of_ble_eq_true rfl) dX4_swap_22 ?_
    refine j_if_ne (pc := 25) X (tgt := 30) (P := (inR c0 (sB s).1) = true) dX4_swap_25 (by decide) (bI_n0 _) (fun h25 => ?_) (fun h25 => ?_)
    · skip
      skip
      obtain ⟨ce, hc25, rfl⟩ := inR_t h25
      have ece : tn (nI ce) = ce := tn_nI (by omega)
      have hd0 := hw.b hc25
      refine j_iload_n (pc := 30) X dX4_swap_30 rfl (q := 1) rfl ?_
      refine j_iload_n (pc := 31) X dX4_swap_31 rfl (q := 2) rfl ?_
      refine j_icmp_ne (pc := 32) X (tgt := 38) (P := ¬ bb = ce) dX4_swap_32 (by decide) (not_congr (nI_eq (by omega) (by omega))) (fun h32 => ?_) (fun h32 => ?_)
      · skip
        refine j_aload_n (pc := 38) X dX4_swap_38 rfl (q := 0) rfl ?_
        refine j_get (pc := 39) X (C := RX4) (T := TX4) (N := 6) wz_X4 0 rfl rfl 0 (by decide) wf_X4_12 rfl dX4_swap_39 ?_
        refine j_iload_n (pc := 42) X dX4_swap_42 rfl (q := 1) rfl ?_
        refine j_callVR (pc := 43) X (st := [])  (c_X1_isBooked l D tA a s bb (by first | assumption | omega | decide) (by first | assumption | omega | decide)) cd_X1_isBooked wm_X4_103 1 rfl rfl rfl [1, 2, 3, 4, 5, 6, 7, 8, 9, 10] rfl rfl ⟨Nat.le_of_ble_eq_true rfl, Nat.le_of_ble_eq_true rfl⟩ ⟨Nat.zero_le _, Nat.zero_le _⟩ rfl (Nat.le_of_ble_eq_true rfl) dX4_swap_43 ?_
        refine j_if_eq (pc := 46) X (tgt := 60) (P := (decide (tGet 8 (sB s) bb 5 = 0)) = false) dX4_swap_46 (by decide) (bI_0 _) (fun h46 => ?_) (fun h46 => ?_)
        · skip
          have h46 := nf5 h46
          have h46 : ¬ tGet 8 (sB s) bb 5 = 0 := by simpa using h46
          refine j_bipush (pc := 60) X (v := (-4)) dX4_swap_60 (by decide) ?_
          have e : oSwap s (nI bb) (nI ce) = ((-4), none) := by unfold oSwap; simp only [ebb, ece]; rw [if_pos ⟨h11, h25⟩, if_neg h32, if_neg (fun q => h46 q.1)] <;> rfl
          exact j_endI (pc := 62) E dX4_swap_62 (by rw [e]) (by rw [e]; rfl)
        · skip
          have h46 := t5 h46
          have h46 : tGet 8 (sB s) bb 5 = 0 := by simpa using h46
          refine j_aload_n (pc := 49) X dX4_swap_49 rfl (q := 0) rfl ?_
          refine j_get (pc := 50) X (C := RX4) (T := TX4) (N := 6) wz_X4 0 rfl rfl 0 (by decide) wf_X4_12 rfl dX4_swap_50 ?_
          refine j_iload_n (pc := 53) X dX4_swap_53 rfl (q := 2) rfl ?_
          refine j_callVR (pc := 54) X (st := [])  (c_X1_isBooked l D tA a s ce (by first | assumption | omega | decide) (by first | assumption | omega | decide)) cd_X1_isBooked wm_X4_103 1 rfl rfl rfl [1, 2, 3, 4, 5, 6, 7, 8, 9, 10] rfl rfl ⟨Nat.le_of_ble_eq_true rfl, Nat.le_of_ble_eq_true rfl⟩ ⟨Nat.zero_le _, Nat.zero_le _⟩ rfl (Nat.le_of_ble_eq_true rfl) dX4_swap_54 ?_
          refine j_if_ne (pc := 57) X (tgt := 63) (P := (decide (tGet 8 (sB s) ce 5 = 0)) = true) dX4_swap_57 (by decide) (bI_n0 _) (fun h57 => ?_) (fun h57 => ?_)
          · skip
            skip
            have h57 : tGet 8 (sB s) ce 5 = 0 := by simpa using h57
            refine j_aload_n (pc := 63) X dX4_swap_63 rfl (q := 0) rfl ?_
            refine j_get (pc := 64) X (C := RX4) (T := TX4) (N := 6) wz_X4 0 rfl rfl 0 (by decide) wf_X4_12 rfl dX4_swap_64 ?_
            refine j_get (pc := 67) X (C := RX1) (T := TX1) (N := 9) wz_X1 1 rfl rfl 2 (by decide) wf_X4_92 rfl dX4_swap_67 ?_
            refine j_iload_n (pc := 70) X dX4_swap_70 rfl (q := 1) rfl ?_
            refine j_iconst (pc := 71) X (v := (nI 1)) dX4_swap_71 (by decide) ?_
            refine j_callVR (pc := 72) X (st := [])  (c_X2_get l D tA (a 3) (a 8) 30 8 (sB s) bb 1 (by first | assumption | omega | decide) (by first | assumption | omega | decide) (by first | assumption | omega | decide) (by first | assumption | omega | decide) (by first | assumption | omega | decide) (by first | assumption | omega | decide)) cd_X2_get wm_X4_106 7 rfl rfl rfl [7, 8] rfl rfl ⟨Nat.le_of_ble_eq_true rfl, Nat.le_of_ble_eq_true rfl⟩ ⟨Nat.zero_le _, Nat.zero_le _⟩ rfl (Nat.le_of_ble_eq_true rfl) dX4_swap_72 ?_
            refine j_istore_n (pc := 75) X (lv' := [(3, .int (nI (tGet 8 (sB s) bb 1))), (0, .ref c), (1, .int (nI bb)), (2, .int (nI ce))]) dX4_swap_75 rfl (by decide) rfl ?_
            refine j_aload_n (pc := 76) X dX4_swap_76 rfl (q := 1) rfl ?_
            refine j_get (pc := 77) X (C := RX4) (T := TX4) (N := 6) wz_X4 0 rfl rfl 0 (by decide) wf_X4_12 rfl dX4_swap_77 ?_
            refine j_get (pc := 80) X (C := RX1) (T := TX1) (N := 9) wz_X1 1 rfl rfl 2 (by decide) wf_X4_92 rfl dX4_swap_80 ?_
            refine j_iload_n (pc := 83) X dX4_swap_83 rfl (q := 2) rfl ?_
            refine j_iconst (pc := 84) X (v := (nI 2)) dX4_swap_84 (by decide) ?_
            refine j_callVR (pc := 85) X (st := [])  (c_X2_get l D tA (a 3) (a 8) 30 8 (sB s) bb 2 (by first | assumption | omega | decide) (by first | assumption | omega | decide) (by first | assumption | omega | decide) (by first | assumption | omega | decide) (by first | assumption | omega | decide) (by first | assumption | omega | decide)) cd_X2_get wm_X4_106 7 rfl rfl rfl [7, 8] rfl rfl ⟨Nat.le_of_ble_eq_true rfl, Nat.le_of_ble_eq_true rfl⟩ ⟨Nat.zero_le _, Nat.zero_le _⟩ rfl (Nat.le_of_ble_eq_true rfl) dX4_swap_85 ?_
            refine j_istore (pc := 88) X (lv' := [(4, .int (nI (tGet 8 (sB s) bb 2))), (3, .int (nI (tGet 8 (sB s) bb 1))), (0, .ref c), (1, .int (nI bb)), (2, .int (nI ce))]) dX4_swap_88 (by decide) rfl ?_
            refine j_aload_n (pc := 90) X dX4_swap_90 rfl (q := 2) rfl ?_
            refine j_get (pc := 91) X (C := RX4) (T := TX4) (N := 6) wz_X4 0 rfl rfl 0 (by decide) wf_X4_12 rfl dX4_swap_91 ?_
            refine j_get (pc := 94) X (C := RX1) (T := TX1) (N := 9) wz_X1 1 rfl rfl 2 (by decide) wf_X4_92 rfl dX4_swap_94 ?_
            refine j_iload_n (pc := 97) X dX4_swap_97 rfl (q := 4) rfl ?_
            refine j_iconst (pc := 98) X (v := (nI 1)) dX4_swap_98 (by decide) ?_
            refine j_callVR (pc := 99) X (st := [])  (c_X2_get l D tA (a 3) (a 8) 30 8 (sB s) ce 1 (by first | assumption | omega | decide) (by first | assumption | omega | decide) (by first | assumption | omega | decide) (by first | assumption | omega | decide) (by first | assumption | omega | decide) (by first | assumption | omega | decide)) cd_X2_get wm_X4_106 7 rfl rfl rfl [7, 8] rfl rfl ⟨Nat.le_of_ble_eq_true rfl, Nat.le_of_ble_eq_true rfl⟩ ⟨Nat.zero_le _, Nat.zero_le _⟩ rfl (Nat.le_of_ble_eq_true rfl) dX4_swap_99 ?_
            refine j_istore (pc := 102) X (lv' := [(5, .int (nI (tGet 8 (sB s) ce 1))), (4, .int (nI (tGet 8 (sB s) bb 2))), (3, .int (nI (tGet 8 (sB s) bb 1))), (0, .ref c), (1, .int (nI bb)), (2, .int (nI ce))]) dX4_swap_102 (by decide) rfl ?_
            refine j_aload_n (pc := 104) X dX4_swap_104 rfl (q := 3) rfl ?_
            refine j_get (pc := 105) X (C := RX4) (T := TX4) (N := 6) wz_X4 0 rfl rfl 0 (by decide) wf_X4_12 rfl dX4_swap_105 ?_
            refine j_get (pc := 108) X (C := RX1) (T := TX1) (N := 9) wz_X1 1 rfl rfl 2 (by decide) wf_X4_92 rfl dX4_swap_108 ?_
            refine j_iload_n (pc := 111) X dX4_swap_111 rfl (q := 5) rfl ?_
            refine j_iconst (pc := 112) X (v := (nI 2)) dX4_swap_112 (by decide) ?_
            refine j_callVR (pc := 113) X (st := [])  (c_X2_get l D tA (a 3) (a 8) 30 8 (sB s) ce 2 (by first | assumption | omega | decide) (by first | assumption | omega | decide) (by first | assumption | omega | decide) (by first | assumption | omega | decide) (by first | assumption | omega | decide) (by first | assumption | omega | decide)) cd_X2_get wm_X4_106 7 rfl rfl rfl [7, 8] rfl rfl ⟨Nat.le_of_ble_eq_true rfl, Nat.le_of_ble_eq_true rfl⟩ ⟨Nat.zero_le _, Nat.zero_le _⟩ rfl (Nat.le_of_ble_eq_true rfl) dX4_swap_113 ?_
            refine j_istore (pc := 116) X (lv' := [(6, .int (nI (tGet 8 (sB s) ce 2))), (5, .int (nI (tGet 8 (sB s) ce 1))), (4, .int (nI (tGet 8 (sB s) bb 2))), (3, .int (nI (tGet 8 (sB s) bb 1))), (0, .ref c), (1, .int (nI bb)), (2, .int (nI ce))]) dX4_swap_116 (by decide) rfl ?_
            refine j_aload_n (pc := 118) X dX4_swap_118 rfl (q := 4) rfl ?_
            refine j_get (pc := 119) X (C := RX4) (T := TX4) (N := 6) wz_X4 0 rfl rfl 0 (by decide) wf_X4_12 rfl dX4_swap_119 ?_
            refine j_iload (pc := 122) X dX4_swap_122 (q := 1) rfl ?_
            refine j_iload_n (pc := 124) X dX4_swap_124 rfl (q := 5) rfl ?_
            refine j_callVR (pc := 125) X (st := [])  (c_X1_bearsLiftOf l D tA a s (tGet 8 (sB s) ce 1) bb hw hd0.2.1 hc11) cd_X1_bearsLiftOf wm_X4_119 1 rfl rfl rfl [1, 2, 3, 4, 5, 6, 7, 8, 9, 10] rfl rfl ⟨Nat.le_of_ble_eq_true rfl, Nat.le_of_ble_eq_true rfl⟩ ⟨Nat.zero_le _, Nat.zero_le _⟩ rfl (Nat.le_of_ble_eq_true rfl) dX4_swap_125 ?_
            refine j_if_eq (pc := 128) X (tgt := 143) (P := (brsB s (tGet 8 (sB s) ce 1) bb) = false) dX4_swap_128 (by decide) (bI_0 _) (fun h128 => ?_) (fun h128 => ?_)
            · skip
              have h128 := nf5 h128
              refine j_bipush (pc := 143) X (v := (-4)) dX4_swap_143 (by decide) ?_
              have e : oSwap s (nI bb) (nI ce) = ((-4), none) := by unfold oSwap; simp only [ebb, ece]; rw [if_pos ⟨h11, h25⟩, if_neg h32, if_pos ⟨h46, h57⟩, if_neg (fun q => h128 q.1)] <;> rfl
              exact j_endI (pc := 145) E dX4_swap_145 (by rw [e]) (by rw [e]; rfl)
            · skip
              have h128 := t5 h128
              refine j_aload_n (pc := 131) X dX4_swap_131 rfl (q := 4) rfl ?_
              refine j_get (pc := 132) X (C := RX4) (T := TX4) (N := 6) wz_X4 0 rfl rfl 0 (by decide) wf_X4_12 rfl dX4_swap_132 ?_
              refine j_iload_n (pc := 135) X dX4_swap_135 rfl (q := 3) rfl ?_
              refine j_iload_n (pc := 136) X dX4_swap_136 rfl (q := 6) rfl ?_
              refine j_callVR (pc := 137) X (st := [])  (c_X1_bearsLiftOf l D tA a s (tGet 8 (sB s) bb 1) ce hw hb0.2.1 hc25) cd_X1_bearsLiftOf wm_X4_119 1 rfl rfl rfl [1, 2, 3, 4, 5, 6, 7, 8, 9, 10] rfl rfl ⟨Nat.le_of_ble_eq_true rfl, Nat.le_of_ble_eq_true rfl⟩ ⟨Nat.zero_le _, Nat.zero_le _⟩ rfl (Nat.le_of_ble_eq_true rfl) dX4_swap_137 ?_
              refine j_if_ne (pc := 140) X (tgt := 146) (P := (brsB s (tGet 8 (sB s) bb 1) ce) = true) dX4_swap_140 (by decide) (bI_n0 _) (fun h140 => ?_) (fun h140 => ?_)
              · skip
                skip
                refine j_aload_n (pc := 146) X dX4_swap_146 rfl (q := 4) rfl ?_
                refine j_get (pc := 147) X (C := RX4) (T := TX4) (N := 6) wz_X4 0 rfl rfl 3 (by decide) wf_X4_25 rfl dX4_swap_147 ?_
                refine j_aload_n (pc := 150) X dX4_swap_150 rfl (q := 4) rfl ?_
                refine j_get (pc := 151) X (C := RX4) (T := TX4) (N := 6) wz_X4 0 rfl rfl 0 (by decide) wf_X4_12 rfl dX4_swap_151 ?_
                refine j_callVB (pc := 154) X (st := []) (wr := (clW c a b f h x k)) (w' := (clW c a b f h x k ++ (stW tA a s ++ (hsW tA h d (hPush v s))))) (c_X0_push l D tA h d v a s hnx hsz hh hw) cd_X0_push wm_X4_54 11 rfl rfl rfl [11, 12, 13, 14, 15, 16, 17, 18, 19, 20, 21, 22, 23, 24, 25, 26, 27, 28, 29, 30, 31, 32, 33, 34, 35, 36, 37, 38, 39, 40, 41, 42, 43, 44, 45, 46, 47, 48, 49, 50, 51, 52, 1, 2, 3, 4, 5, 6, 7, 8, 9, 10] rfl rfl [0] rfl rfl (fst_app (hs_fst.trans hs_fst.symm) (st_fst.trans st_fst.symm)) [52, 42, 43, 44, 45, 46, 47, 48, 49, 50, 51, 0, 1, 2, 3, 4, 5, 6, 7, 8, 9, 10, 11, 12, 13, 14, 15, 16, 17, 18, 19, 20, 21, 22, 23, 24, 25, 26, 27, 28, 29, 30, 31, 32, 33, 34, 35, 36, 37, 38, 39, 40, 41] rfl rfl ⟨Nat.le_of_ble_eq_true rfl, Nat.le_of_ble_eq_true rfl⟩ ⟨Nat.zero_le _, Nat.zero_le _⟩ rfl (Nat.le_of_ble_eq_true rfl) dX4_swap_154 ?_
                refine j_aload_n (pc := 157) X dX4_swap_157 rfl (q := 4) rfl ?_
                refine j_get (pc := 158) X (C := RX4) (T := TX4) (N := 6) wz_X4 0 rfl rfl 0 (by decide) wf_X4_12 rfl dX4_swap_158 ?_
                refine j_iload_n (pc := 161) X dX4_swap_161 rfl (q := 5) rfl ?_
                refine j_iload (pc := 162) X dX4_swap_162 (q := 1) rfl ?_
                refine j_iload (pc := 164) X dX4_swap_164 (q := 0) rfl ?_
                refine j_callVB (pc := 166) X (st := []) (wr := (clW c a b f h x k ++ (hsW tA h d (hPush v s)))) (w' := (clW c a b f h x k ++ (stW tA a (placeS s bb (tGet 8 (sB s) ce 1) (tGet 8 (sB s) ce 2)) ++ (hsW tA h d (hPush v s))))) (c_X1_place l D tA a s bb (tGet 8 (sB s) ce 1) (tGet 8 (sB s) ce 2) (by omega) hc11 hd0.2.2.1) cd_X1_place wm_X4_99 1 rfl rfl rfl [1, 2, 3, 4, 5, 6, 7, 8, 9, 10] rfl rfl [0, 11, 12, 13, 14, 15, 16, 17, 18, 19, 20, 21, 22, 23, 24, 25, 26, 27, 28, 29, 30, 31, 32, 33, 34, 35, 36, 37, 38, 39, 40, 41, 42, 43, 44, 45, 46, 47, 48, 49, 50, 51, 52] rfl rfl (st_fst.trans st_fst.symm) [10, 0, 1, 2, 3, 4, 5, 6, 7, 8, 9, 11, 12, 13, 14, 15, 16, 17, 18, 19, 20, 21, 22, 23, 24, 25, 26, 27, 28, 29, 30, 31, 32, 33, 34, 35, 36, 37, 38, 39, 40, 41, 42, 43, 44, 45, 46, 47, 48, 49, 50, 51, 52] rfl rfl ⟨Nat.le_of_ble_eq_true rfl, Nat.le_of_ble_eq_true rfl⟩ ⟨Nat.zero_le _, Nat.zero_le _⟩ rfl (Nat.le_of_ble_eq_true rfl) dX4_swap_166 ?_
                refine j_aload_n (pc := 169) X dX4_swap_169 rfl (q := 4) rfl ?_
                refine j_get (pc := 170) X (C := RX4) (T := TX4) (N := 6) wz_X4 0 rfl rfl 0 (by decide) wf_X4_12 rfl dX4_swap_170 ?_
                refine j_iload_n (pc := 173) X dX4_swap_173 rfl (q := 6) rfl ?_
                refine j_iload_n (pc := 174) X dX4_swap_174 rfl (q := 3) rfl ?_
                refine j_iload (pc := 175) X dX4_swap_175 (q := 2) rfl ?_
                refine j_callVB (pc := 177) X (st := []) (wr := (clW c a b f h x k ++ (hsW tA h d (hPush v s)))) (w' := (clW c a b f h x k ++ (stW tA a (placeS (placeS s bb (tGet 8 (sB s) ce 1) (tGet 8 (sB s) ce 2)) ce (tGet 8 (sB s) bb 1) (tGet 8 (sB s) bb 2)) ++ (hsW tA h d (hPush v s))))) (c_X1_place l D tA a (placeS s bb (tGet 8 (sB s) ce 1) (tGet 8 (sB s) ce 2)) ce (tGet 8 (sB s) bb 1) (tGet 8 (sB s) bb 2) (show (sB s).1 ≤ 30 by omega) (show ce < (sB s).1 from hc25) hb0.2.2.1) cd_X1_place wm_X4_99 1 rfl rfl rfl [1, 2, 3, 4, 5, 6, 7, 8, 9, 10] rfl rfl [0, 11, 12, 13, 14, 15, 16, 17, 18, 19, 20, 21, 22, 23, 24, 25, 26, 27, 28, 29, 30, 31, 32, 33, 34, 35, 36, 37, 38, 39, 40, 41, 42, 43, 44, 45, 46, 47, 48, 49, 50, 51, 52] rfl rfl (st_fst.trans st_fst.symm) [10, 0, 1, 2, 3, 4, 5, 6, 7, 8, 9, 11, 12, 13, 14, 15, 16, 17, 18, 19, 20, 21, 22, 23, 24, 25, 26, 27, 28, 29, 30, 31, 32, 33, 34, 35, 36, 37, 38, 39, 40, 41, 42, 43, 44, 45, 46, 47, 48, 49, 50, 51, 52] rfl rfl ⟨Nat.le_of_ble_eq_true rfl, Nat.le_of_ble_eq_true rfl⟩ ⟨Nat.zero_le _, Nat.zero_le _⟩ rfl (Nat.le_of_ble_eq_true rfl) dX4_swap_177 ?_
                refine j_iload (pc := 180) X dX4_swap_180 (q := 0) rfl ?_
                have e : oSwap s (nI bb) (nI ce) = ((nI (tGet 8 (sB s) ce 2)), (some (placeS (placeS s bb (tGet 8 (sB s) ce 1) (tGet 8 (sB s) ce 2)) ce (tGet 8 (sB s) bb 1) (tGet 8 (sB s) bb 2)))) := by unfold oSwap; simp only [ebb, ece]; rw [if_pos ⟨h11, h25⟩, if_neg h32, if_pos ⟨h46, h57⟩, if_pos ⟨h128, h140⟩] <;> rfl
                exact j_endI (pc := 182) E dX4_swap_182 (by rw [e]) (by rw [e]; rfl)
              · skip
                skip
                refine j_bipush (pc := 143) X (v := (-4)) dX4_swap_143 (by decide) ?_
                have e : oSwap s (nI bb) (nI ce) = ((-4), none) := by unfold oSwap; simp only [ebb, ece]; rw [if_pos ⟨h11, h25⟩, if_neg h32, if_pos ⟨h46, h57⟩, if_neg (fun q => h140 q.2)] <;> rfl
                exact j_endI (pc := 145) E dX4_swap_145 (by rw [e]) (by rw [e]; rfl)
          · skip
            skip
            have h57 : ¬ tGet 8 (sB s) ce 5 = 0 := by simpa using h57
            refine j_bipush (pc := 60) X (v := (-4)) dX4_swap_60 (by decide) ?_
            have e : oSwap s (nI bb) (nI ce) = ((-4), none) := by unfold oSwap; simp only [ebb, ece]; rw [if_pos ⟨h11, h25⟩, if_neg h32, if_neg (fun q => h57 q.2)] <;> rfl
            exact j_endI (pc := 62) E dX4_swap_62 (by rw [e]) (by rw [e]; rfl)
      · skip
        refine j_bipush (pc := 35) X (v := (-2)) dX4_swap_35 (by decide) ?_
        have e : oSwap s (nI bb) (nI ce) = ((-2), none) := by unfold oSwap; simp only [ebb, ece]; rw [if_pos ⟨h11, h25⟩, if_pos (Decidable.not_not.mp h32)] <;> rfl
        exact j_endI (pc := 37) E dX4_swap_37 (by rw [e]) (by rw [e]; rfl)
    · skip
      skip
      refine j_iconst (pc := 28) X (v := (-1)) dX4_swap_28 (by decide) ?_
      have e : oSwap s (nI bb) c0 = ((-1), none) := by unfold oSwap; simp only [ebb]; rw [if_neg (fun q => h25 q.2)] <;> rfl
      exact j_endI (pc := 29) E dX4_swap_29 (by rw [e]) (by rw [e]; rfl)
theorem cd_X4_order : kCardV yX4_order cX4_order 6 (some .int) 5 := ⟨⟨wc_X4_order, wi_X4, by decide +kernel, by decide +kernel, rfl⟩, wk_X4_order, ws_X4_order⟩
set_option maxHeartbeats 4000000 in
set_option maxRecDepth 100000 in
theorem c_X4_order (l : Launch) (D : va_G) (tA : Nat → ClassId) (c : Nat) (a b f h x : Nat → Nat) (k : Bool) (s : Sg) (d : Nat → Nat → Nat) (v : Hs) (p0 f0 g0 u0 t0 : Int32) (hw : Wf s) (hnx : v.2.1 < 4) (hsz : v.2.2 ≤ 4) (hh : ∀ i, Wf (v.1 i)) : Kx l D tA yX4_order cX4_order 6 (some .int) 4 82 [.ref c, .int p0, .int f0, .int g0, .int u0, .int t0] (clW c a b f h x k ++ (stW tA a s ++ (hsW tA h d v))) (some (.int ((oOrder s p0 f0 g0 u0 t0).1))) (clW c a b f h x k ++ (stW tA a (aS s (oOrder s p0 f0 g0 u0 t0).2) ++ (hsW tA h d (aH v s (oOrder s p0 f0 g0 u0 t0).2)))) := by
  refine kx_int rfl (Nat.le_of_ble_eq_true rfl) (fun G X E => ?_)
  show J l D G 0 0 (clW c a b f h x k ++ (stW tA a s ++ (hsW tA h d v))) [(0, .ref c), (1, .int p0), (2, .int f0), (3, .int g0), (4, .int u0), (5, .int t0)] 0 []
  have hn := hw.n
  refine j_aload_n (pc := 0) X dX4_order_0 rfl (q := 0) rfl ?_
  refine j_get (pc := 1) X (C := RX4) (T := TX4) (N := 6) wz_X4 0 rfl rfl 0 (by decide) wf_X4_12 rfl dX4_order_1 ?_
  refine j_get (pc := 4) X (C := RX1) (T := TX1) (N := 9) wz_X1 1 rfl rfl 1 (by decide) wf_X4_62 rfl dX4_order_4 ?_
  refine j_iload_n (pc := 7) X dX4_order_7 rfl (q := 1) rfl ?_
  refine j_callVR (pc := 8) X (st := [])  (c_X2_has l D tA (a 2) (a 7) 8 2 (sP s) p0 (by first | assumption | omega | decide) (by first | assumption | omega | decide) (by first | assumption | omega | decide)) cd_X2_has wm_X4_81 5 rfl rfl rfl [5, 6] rfl rfl ⟨Nat.le_of_ble_eq_true rfl, Nat.le_of_ble_eq_true rfl⟩ ⟨Nat.zero_le _, Nat.zero_le _⟩ rfl (Nat.le_of_ble_eq_true rfl) dX4_order_8 ?_
  refine j_if_eq (pc := 11) X (tgt := 54) (P := (inR p0 (sP s).1) = false) dX4_order_11 (by decide) (bI_0 _) (fun h11 => ?_) (fun h11 => ?_)
  · skip
    have h11 := nf5 h11
    refine j_iconst (pc := 54) X (v := (-1)) dX4_order_54 (by decide) ?_
    have e : oOrder s p0 f0 g0 u0 t0 = ((-1), none) := by unfold oOrder; rw [if_neg (fun q => h11 q.1)] <;> rfl
    exact j_endI (pc := 55) E dX4_order_55 (by rw [e]) (by rw [e]; rfl)
  · skip
    have h11 := t5 h11
    obtain ⟨pp, hc11, rfl⟩ := inR_t h11
    have epp : tn (nI pp) = pp := tn_nI (by omega)
    refine j_aload_n (pc := 14) X dX4_order_14 rfl (q := 0) rfl ?_
    refine j_get (pc := 15) X (C := RX4) (T := TX4) (N := 6) wz_X4 0 rfl rfl 0 (by decide) wf_X4_12 rfl dX4_order_15 ?_
    refine j_get (pc := 18) X (C := RX1) (T := TX1) (N := 9) wz_X1 1 rfl rfl 0 (by decide) wf_X4_44 rfl dX4_order_18 ?_
    refine j_iload_n (pc := 21) X dX4_order_21 rfl (q := 2) rfl ?_
    refine j_callVR (pc := 22) X (st := [])  (c_X2_has l D tA (a 1) (a 6) 5 3 (sM s) f0 (by first | assumption | omega | decide) (by first | assumption | omega | decide) (by first | assumption | omega | decide)) cd_X2_has wm_X4_81 3 rfl rfl rfl [3, 4] rfl rfl ⟨Nat.le_of_ble_eq_true rfl, Nat.le_of_ble_eq_true rfl⟩ ⟨Nat.zero_le _, Nat.zero_le _⟩ rfl (Nat.le_of_ble_eq_true rfl) dX4_order_22 ?_
    refine j_if_eq (pc := 25) X (tgt := 54) (P := (inR f0 (sM s).1) = false) dX4_order_25 (by decide) (bI_0 _) (fun h25 => ?_) (fun h25 => ?_)
    · skip
      have h25 := nf5 h25
      refine j_iconst (pc := 54) X (v := (-1)) dX4_order_54 (by decide) ?_
      have e : oOrder s (nI pp) f0 g0 u0 t0 = ((-1), none) := by unfold oOrder; simp only [epp]; rw [if_neg (fun q => h25 q.2.1)] <;> rfl
      exact j_endI (pc := 55) E dX4_order_55 (by rw [e]) (by rw [e]; rfl)
    · skip
      have h25 := t5 h25
      obtain ⟨ff, hc25, rfl⟩ := inR_t h25
      have eff : tn (nI ff) = ff := tn_nI (by omega)
      refine j_aload_n (pc := 28) X dX4_order_28 rfl (q := 0) rfl ?_
      refine j_get (pc := 29) X (C := RX4) (T := TX4) (N := 6) wz_X4 0 rfl rfl 0 (by decide) wf_X4_12 rfl dX4_order_29 ?_
      refine j_get (pc := 32) X (C := RX1) (T := TX1) (N := 9) wz_X1 1 rfl rfl 0 (by decide) wf_X4_44 rfl dX4_order_32 ?_
      refine j_iload_n (pc := 35) X dX4_order_35 rfl (q := 3) rfl ?_
      refine j_callVR (pc := 36) X (st := [])  (c_X2_has l D tA (a 1) (a 6) 5 3 (sM s) g0 (by first | assumption | omega | decide) (by first | assumption | omega | decide) (by first | assumption | omega | decide)) cd_X2_has wm_X4_81 3 rfl rfl rfl [3, 4] rfl rfl ⟨Nat.le_of_ble_eq_true rfl, Nat.le_of_ble_eq_true rfl⟩ ⟨Nat.zero_le _, Nat.zero_le _⟩ rfl (Nat.le_of_ble_eq_true rfl) dX4_order_36 ?_
      refine j_if_eq (pc := 39) X (tgt := 54) (P := (inR g0 (sM s).1) = false) dX4_order_39 (by decide) (bI_0 _) (fun h39 => ?_) (fun h39 => ?_)
      · skip
        have h39 := nf5 h39
        refine j_iconst (pc := 54) X (v := (-1)) dX4_order_54 (by decide) ?_
        have e : oOrder s (nI pp) (nI ff) g0 u0 t0 = ((-1), none) := by unfold oOrder; simp only [epp, eff]; rw [if_neg (fun q => h39 q.2.2.1)] <;> rfl
        exact j_endI (pc := 55) E dX4_order_55 (by rw [e]) (by rw [e]; rfl)
      · skip
        have h39 := t5 h39
        obtain ⟨gg, hc39, rfl⟩ := inR_t h39
        have egg : tn (nI gg) = gg := tn_nI (by omega)
        refine j_aload_n (pc := 42) X dX4_order_42 rfl (q := 0) rfl ?_
        refine j_get (pc := 43) X (C := RX4) (T := TX4) (N := 6) wz_X4 0 rfl rfl 0 (by decide) wf_X4_12 rfl dX4_order_43 ?_
        refine j_iload (pc := 46) X dX4_order_46 (q := 5) rfl ?_
        refine j_callVR (pc := 48) X (st := [])  (c_X1_isToCome l D tA a s t0 (by first | assumption | omega | decide)) cd_X1_isToCome wm_X4_69 1 rfl rfl rfl [1, 2, 3, 4, 5, 6, 7, 8, 9, 10] rfl rfl ⟨Nat.le_of_ble_eq_true rfl, Nat.le_of_ble_eq_true rfl⟩ ⟨Nat.zero_le _, Nat.zero_le _⟩ rfl (Nat.le_of_ble_eq_true rfl) dX4_order_48 ?_
        refine j_if_ne (pc := 51) X (tgt := 56) (P := (toCome s t0) = true) dX4_order_51 (by decide) (bI_n0 _) (fun h51 => ?_) (fun h51 => ?_)
        · skip
          skip
          obtain ⟨tt, hc51, rfl⟩ := toCome_t h51
          have ett : tn (nI tt) = tt := tn_nI (by omega)
          refine j_iload (pc := 56) X dX4_order_56 (q := 4) rfl ?_
          refine j_iconst (pc := 58) X (v := (nI 1)) dX4_order_58 (by decide) ?_
          refine j_bipush (pc := 59) X (v := (nI 12)) dX4_order_59 (by decide) ?_
          refine j_callSR (pc := 61) X (st := [])  (c_X4_isWithin l D tA u0 (nI 1) (nI 12) ) cd_X4_isWithin wm_X4_40 rfl [] rfl rfl ⟨Nat.le_of_ble_eq_true rfl, Nat.le_of_ble_eq_true rfl⟩ ⟨Nat.zero_le _, Nat.zero_le _⟩ rfl (Nat.le_of_ble_eq_true rfl) dX4_order_61 ?_
          refine j_if_eq (pc := 64) X (tgt := 72) (P := (isW u0 (nI 1) (nI 12)) = false) dX4_order_64 (by decide) (bI_0 _) (fun h64 => ?_) (fun h64 => ?_)
          · skip
            have h64 := nf5 h64
            refine j_bipush (pc := 72) X (v := (-2)) dX4_order_72 (by decide) ?_
            have e : oOrder s (nI pp) (nI ff) (nI gg) u0 (nI tt) = ((-2), none) := by unfold oOrder; simp only [epp, eff, egg, ett]; rw [if_pos ⟨h11, h25, h39, h51⟩, if_neg (fun q => h64 q.1)] <;> rfl
            exact j_endI (pc := 74) E dX4_order_74 (by rw [e]) (by rw [e]; rfl)
          · skip
            have h64 := t5 h64
            obtain ⟨uu, hc64, rfl⟩ := isW_t (by omega) (by omega) h64
            have euu : tn (nI uu) = uu := tn_nI (by omega)
            refine j_iload_n (pc := 67) X dX4_order_67 rfl (q := 2) rfl ?_
            refine j_iload_n (pc := 68) X dX4_order_68 rfl (q := 3) rfl ?_
            refine j_icmp_ne (pc := 69) X (tgt := 75) (P := ¬ ff = gg) dX4_order_69 (by decide) (not_congr (nI_eq (by omega) (by omega))) (fun h69 => ?_) (fun h69 => ?_)
            · skip
              refine j_aload_n (pc := 75) X dX4_order_75 rfl (q := 0) rfl ?_
              refine j_get (pc := 76) X (C := RX4) (T := TX4) (N := 6) wz_X4 0 rfl rfl 0 (by decide) wf_X4_12 rfl dX4_order_76 ?_
              refine j_get (pc := 79) X (C := RX1) (T := TX1) (N := 9) wz_X1 1 rfl rfl 3 (by decide) wf_X4_122 rfl dX4_order_79 ?_
              refine j_callVR (pc := 82) X (st := [])  (c_X2_isFull l D tA (a 4) (a 9) 10 5 (sV s)  (by first | assumption | omega | decide) (by first | assumption | omega | decide) (by first | assumption | omega | decide)) cd_X2_isFull wm_X4_48 9 rfl rfl rfl [9, 10] rfl rfl ⟨Nat.le_of_ble_eq_true rfl, Nat.le_of_ble_eq_true rfl⟩ ⟨Nat.zero_le _, Nat.zero_le _⟩ rfl (Nat.le_of_ble_eq_true rfl) dX4_order_82 ?_
              refine j_if_eq (pc := 85) X (tgt := 91) (P := (decide (10 ≤ (sV s).1)) = false) dX4_order_85 (by decide) (bI_0 _) (fun h85 => ?_) (fun h85 => ?_)
              · skip
                have h85 := nf5 h85
                have h85 : (sV s).1 < 10 := by simpa using h85
                refine j_aload_n (pc := 91) X dX4_order_91 rfl (q := 0) rfl ?_
                refine j_get (pc := 92) X (C := RX4) (T := TX4) (N := 6) wz_X4 0 rfl rfl 3 (by decide) wf_X4_25 rfl dX4_order_92 ?_
                refine j_aload_n (pc := 95) X dX4_order_95 rfl (q := 0) rfl ?_
                refine j_get (pc := 96) X (C := RX4) (T := TX4) (N := 6) wz_X4 0 rfl rfl 0 (by decide) wf_X4_12 rfl dX4_order_96 ?_
                refine j_callVB (pc := 99) X (st := []) (wr := (clW c a b f h x k)) (w' := (clW c a b f h x k ++ (stW tA a s ++ (hsW tA h d (hPush v s))))) (c_X0_push l D tA h d v a s hnx hsz hh hw) cd_X0_push wm_X4_54 11 rfl rfl rfl [11, 12, 13, 14, 15, 16, 17, 18, 19, 20, 21, 22, 23, 24, 25, 26, 27, 28, 29, 30, 31, 32, 33, 34, 35, 36, 37, 38, 39, 40, 41, 42, 43, 44, 45, 46, 47, 48, 49, 50, 51, 52, 1, 2, 3, 4, 5, 6, 7, 8, 9, 10] rfl rfl [0] rfl rfl (fst_app (hs_fst.trans hs_fst.symm) (st_fst.trans st_fst.symm)) [52, 42, 43, 44, 45, 46, 47, 48, 49, 50, 51, 0, 1, 2, 3, 4, 5, 6, 7, 8, 9, 10, 11, 12, 13, 14, 15, 16, 17, 18, 19, 20, 21, 22, 23, 24, 25, 26, 27, 28, 29, 30, 31, 32, 33, 34, 35, 36, 37, 38, 39, 40, 41] rfl rfl ⟨Nat.le_of_ble_eq_true rfl, Nat.le_of_ble_eq_true rfl⟩ ⟨Nat.zero_le _, Nat.zero_le _⟩ rfl (Nat.le_of_ble_eq_true rfl) dX4_order_99 ?_
                refine j_aload_n (pc := 102) X dX4_order_102 rfl (q := 0) rfl ?_
                refine j_get (pc := 103) X (C := RX4) (T := TX4) (N := 6) wz_X4 0 rfl rfl 0 (by decide) wf_X4_12 rfl dX4_order_103 ?_
                refine j_iload_n (pc := 106) X dX4_order_106 rfl (q := 1) rfl ?_
                refine j_iload_n (pc := 107) X dX4_order_107 rfl (q := 2) rfl ?_
                refine j_iload_n (pc := 108) X dX4_order_108 rfl (q := 3) rfl ?_
                refine j_iload (pc := 109) X dX4_order_109 (q := 4) rfl ?_
                refine j_iload (pc := 111) X dX4_order_111 (q := 5) rfl ?_
                refine j_callVB (pc := 113) X (st := []) (wr := (clW c a b f h x k ++ (hsW tA h d (hPush v s)))) (w' := (clW c a b f h x k ++ (stW tA a (pMove s pp ff gg uu tt) ++ (hsW tA h d (hPush v s))))) (c_X1_putMove l D tA a s pp ff gg uu tt (by first | assumption | omega | decide)) cd_X1_putMove wm_X4_125 1 rfl rfl rfl [1, 2, 3, 4, 5, 6, 7, 8, 9, 10] rfl rfl [0, 11, 12, 13, 14, 15, 16, 17, 18, 19, 20, 21, 22, 23, 24, 25, 26, 27, 28, 29, 30, 31, 32, 33, 34, 35, 36, 37, 38, 39, 40, 41, 42, 43, 44, 45, 46, 47, 48, 49, 50, 51, 52] rfl rfl (st_fst.trans st_fst.symm) [10, 0, 1, 2, 3, 4, 5, 6, 7, 8, 9, 11, 12, 13, 14, 15, 16, 17, 18, 19, 20, 21, 22, 23, 24, 25, 26, 27, 28, 29, 30, 31, 32, 33, 34, 35, 36, 37, 38, 39, 40, 41, 42, 43, 44, 45, 46, 47, 48, 49, 50, 51, 52] rfl rfl ⟨Nat.le_of_ble_eq_true rfl, Nat.le_of_ble_eq_true rfl⟩ ⟨Nat.zero_le _, Nat.zero_le _⟩ rfl (Nat.le_of_ble_eq_true rfl) dX4_order_113 ?_
                have e : oOrder s (nI pp) (nI ff) (nI gg) (nI uu) (nI tt) = ((nI ((sV s).1)), (some (pMove s pp ff gg uu tt))) := by unfold oOrder; simp only [epp, eff, egg, ett, euu]; rw [if_pos ⟨h11, h25, h39, h51⟩, if_pos ⟨h64, h69⟩, if_pos h85] <;> rfl
                exact j_endI (pc := 116) E dX4_order_116 (by rw [e]) (by rw [e]; rfl)
              · skip
                have h85 := t5 h85
                have h85 : ¬ (sV s).1 < 10 := by simpa using h85
                refine j_bipush (pc := 88) X (v := (-3)) dX4_order_88 (by decide) ?_
                have e : oOrder s (nI pp) (nI ff) (nI gg) (nI uu) (nI tt) = ((-3), none) := by unfold oOrder; simp only [epp, eff, egg, ett, euu]; rw [if_pos ⟨h11, h25, h39, h51⟩, if_pos ⟨h64, h69⟩, if_neg h85] <;> rfl
                exact j_endI (pc := 90) E dX4_order_90 (by rw [e]) (by rw [e]; rfl)
            · skip
              refine j_bipush (pc := 72) X (v := (-2)) dX4_order_72 (by decide) ?_
              have e : oOrder s (nI pp) (nI ff) (nI gg) (nI uu) (nI tt) = ((-2), none) := by unfold oOrder; simp only [epp, eff, egg, ett, euu]; rw [if_pos ⟨h11, h25, h39, h51⟩, if_neg (fun q => q.2 (Decidable.not_not.mp h69))] <;> rfl
              exact j_endI (pc := 74) E dX4_order_74 (by rw [e]) (by rw [e]; rfl)
        · skip
          skip
          refine j_iconst (pc := 54) X (v := (-1)) dX4_order_54 (by decide) ?_
          have e : oOrder s (nI pp) (nI ff) (nI gg) u0 t0 = ((-1), none) := by unfold oOrder; simp only [epp, eff, egg]; rw [if_neg (fun q => h51 q.2.2.2)] <;> rfl
          exact j_endI (pc := 55) E dX4_order_55 (by rw [e]) (by rw [e]; rfl)
theorem cd_X4_takeBack : kCardV yX4_takeBack cX4_takeBack 2 (some .int) 1 := ⟨⟨wc_X4_takeBack, wi_X4, by decide +kernel, by decide +kernel, rfl⟩, wk_X4_takeBack, ws_X4_takeBack⟩
set_option maxHeartbeats 4000000 in
set_option maxRecDepth 100000 in
theorem c_X4_takeBack (l : Launch) (D : va_G) (tA : Nat → ClassId) (c : Nat) (a b f h x : Nat → Nat) (k : Bool) (s : Sg) (d : Nat → Nat → Nat) (v : Hs) (v0 : Int32) (hw : Wf s) (hnx : v.2.1 < 4) (hsz : v.2.2 ≤ 4) (hh : ∀ i, Wf (v.1 i)) : Kx l D tA yX4_takeBack cX4_takeBack 2 (some .int) 4 82 [.ref c, .int v0] (clW c a b f h x k ++ (stW tA a s ++ (hsW tA h d v))) (some (.int ((oTakeBack s v0).1))) (clW c a b f h x k ++ (stW tA a (aS s (oTakeBack s v0).2) ++ (hsW tA h d (aH v s (oTakeBack s v0).2)))) := by
  refine kx_int rfl (Nat.le_of_ble_eq_true rfl) (fun G X E => ?_)
  show J l D G 0 0 (clW c a b f h x k ++ (stW tA a s ++ (hsW tA h d v))) [(0, .ref c), (1, .int v0)] 0 []
  have hn := hw.n
  refine j_aload_n (pc := 0) X dX4_takeBack_0 rfl (q := 0) rfl ?_
  refine j_get (pc := 1) X (C := RX4) (T := TX4) (N := 6) wz_X4 0 rfl rfl 0 (by decide) wf_X4_12 rfl dX4_takeBack_1 ?_
  refine j_get (pc := 4) X (C := RX1) (T := TX1) (N := 9) wz_X1 1 rfl rfl 3 (by decide) wf_X4_122 rfl dX4_takeBack_4 ?_
  refine j_iload_n (pc := 7) X dX4_takeBack_7 rfl (q := 1) rfl ?_
  refine j_callVR (pc := 8) X (st := [])  (c_X2_has l D tA (a 4) (a 9) 10 5 (sV s) v0 (by first | assumption | omega | decide) (by first | assumption | omega | decide) (by first | assumption | omega | decide)) cd_X2_has wm_X4_81 9 rfl rfl rfl [9, 10] rfl rfl ⟨Nat.le_of_ble_eq_true rfl, Nat.le_of_ble_eq_true rfl⟩ ⟨Nat.zero_le _, Nat.zero_le _⟩ rfl (Nat.le_of_ble_eq_true rfl) dX4_takeBack_8 ?_
  refine j_if_ne (pc := 11) X (tgt := 16) (P := (inR v0 (sV s).1) = true) dX4_takeBack_11 (by decide) (bI_n0 _) (fun h11 => ?_) (fun h11 => ?_)
  · skip
    skip
    obtain ⟨vv, hc11, rfl⟩ := inR_t h11
    have evv : tn (nI vv) = vv := tn_nI (by omega)
    refine j_aload_n (pc := 16) X dX4_takeBack_16 rfl (q := 0) rfl ?_
    refine j_get (pc := 17) X (C := RX4) (T := TX4) (N := 6) wz_X4 0 rfl rfl 3 (by decide) wf_X4_25 rfl dX4_takeBack_17 ?_
    refine j_aload_n (pc := 20) X dX4_takeBack_20 rfl (q := 0) rfl ?_
    refine j_get (pc := 21) X (C := RX4) (T := TX4) (N := 6) wz_X4 0 rfl rfl 0 (by decide) wf_X4_12 rfl dX4_takeBack_21 ?_
    refine j_callVB (pc := 24) X (st := []) (wr := (clW c a b f h x k)) (w' := (clW c a b f h x k ++ (stW tA a s ++ (hsW tA h d (hPush v s))))) (c_X0_push l D tA h d v a s hnx hsz hh hw) cd_X0_push wm_X4_54 11 rfl rfl rfl [11, 12, 13, 14, 15, 16, 17, 18, 19, 20, 21, 22, 23, 24, 25, 26, 27, 28, 29, 30, 31, 32, 33, 34, 35, 36, 37, 38, 39, 40, 41, 42, 43, 44, 45, 46, 47, 48, 49, 50, 51, 52, 1, 2, 3, 4, 5, 6, 7, 8, 9, 10] rfl rfl [0] rfl rfl (fst_app (hs_fst.trans hs_fst.symm) (st_fst.trans st_fst.symm)) [52, 42, 43, 44, 45, 46, 47, 48, 49, 50, 51, 0, 1, 2, 3, 4, 5, 6, 7, 8, 9, 10, 11, 12, 13, 14, 15, 16, 17, 18, 19, 20, 21, 22, 23, 24, 25, 26, 27, 28, 29, 30, 31, 32, 33, 34, 35, 36, 37, 38, 39, 40, 41] rfl rfl ⟨Nat.le_of_ble_eq_true rfl, Nat.le_of_ble_eq_true rfl⟩ ⟨Nat.zero_le _, Nat.zero_le _⟩ rfl (Nat.le_of_ble_eq_true rfl) dX4_takeBack_24 ?_
    refine j_aload_n (pc := 27) X dX4_takeBack_27 rfl (q := 0) rfl ?_
    refine j_get (pc := 28) X (C := RX4) (T := TX4) (N := 6) wz_X4 0 rfl rfl 0 (by decide) wf_X4_12 rfl dX4_takeBack_28 ?_
    refine j_get (pc := 31) X (C := RX1) (T := TX1) (N := 9) wz_X1 1 rfl rfl 3 (by decide) wf_X4_122 rfl dX4_takeBack_31 ?_
    refine j_iload_n (pc := 34) X dX4_takeBack_34 rfl (q := 1) rfl ?_
    refine j_callV (pc := 35) X (st := []) (w' := (clW c a b f h x k ++ (stW tA a (uV s (tDel 5 (sV s) vv)) ++ (hsW tA h d (hPush v s))))) (c_X2_removeRow l D tA (a 4) (a 9) 10 5 (sV s) vv (by first | assumption | omega | decide) (by first | assumption | omega | decide) (by first | assumption | omega | decide) (by first | assumption | omega | decide) (by first | assumption | omega | decide)) cd_X2_removeRow wm_X4_129 9 rfl rfl rfl [9, 10] rfl rfl (tb_fst.trans tb_fst.symm) rfl ⟨Nat.le_of_ble_eq_true rfl, Nat.le_of_ble_eq_true rfl⟩ ⟨Nat.zero_le _, Nat.zero_le _⟩ rfl (Nat.le_of_ble_eq_true rfl) dX4_takeBack_35 ?_
    refine j_aload_n (pc := 38) X dX4_takeBack_38 rfl (q := 0) rfl ?_
    refine j_get (pc := 39) X (C := RX4) (T := TX4) (N := 6) wz_X4 0 rfl rfl 0 (by decide) wf_X4_12 rfl dX4_takeBack_39 ?_
    refine j_get (pc := 42) X (C := RX1) (T := TX1) (N := 9) wz_X1 1 rfl rfl 3 (by decide) wf_X4_122 rfl dX4_takeBack_42 ?_
    refine j_callVR (pc := 45) X (st := [])  (c_X2_size l D tA (a 4) (a 9) 10 5 (tDel 5 (sV s) vv)  ) cd_X2_size wm_X4_133 9 rfl rfl rfl [9, 10] rfl rfl ⟨Nat.le_of_ble_eq_true rfl, Nat.le_of_ble_eq_true rfl⟩ ⟨Nat.zero_le _, Nat.zero_le _⟩ rfl (Nat.le_of_ble_eq_true rfl) dX4_takeBack_45 ?_
    have e : oTakeBack s (nI vv) = ((nI ((tDel 5 (sV s) vv).1)), (some (uV s (tDel 5 (sV s) vv)))) := by unfold oTakeBack; simp only [evv]; rw [if_pos h11] <;> rfl
    exact j_endI (pc := 48) E dX4_takeBack_48 (by rw [e]) (by rw [e]; rfl)
  · skip
    skip
    refine j_iconst (pc := 14) X (v := (-1)) dX4_takeBack_14 (by decide) ?_
    have e : oTakeBack s v0 = ((-1), none) := by unfold oTakeBack; rw [if_neg h11] <;> rfl
    exact j_endI (pc := 15) E dX4_takeBack_15 (by rw [e]) (by rw [e]; rfl)
theorem Wf.pas {s : Sg} (h : Wf s) : ∀ i, sN s + i < 200 → Wf (pasN i s).1 ∧ sN (pasN i s).1 = sN s + i
  | 0, _ => ⟨h, rfl⟩
  | i + 1, hi => by
    have h1 := Wf.pas h i (by omega)
    have h2 : sN (psH (pasN i s).1).1 = sN (pasN i s).1 + 1 := by
      show sN (psC (pasN i s).1).1 + 1 = _
      rw [psC_N]
    exact ⟨Wf.xpsH h1.1 (by rw [h1.2]; omega), by show sN (psH (pasN i s).1).1 = _; rw [h2, h1.2]; omega⟩
theorem cd_X4_pass : kCardV yX4_pass cX4_pass 4 (some .int) 1 := ⟨⟨wc_X4_pass, wi_X4, by decide +kernel, by decide +kernel, rfl⟩, wk_X4_pass, ws_X4_pass⟩
set_option maxHeartbeats 4000000 in
set_option maxRecDepth 100000 in
theorem c_X4_pass (l : Launch) (D : va_G) (tA : Nat → ClassId) (c : Nat) (a b f h x : Nat → Nat) (k : Bool) (s : Sg) (d : Nat → Nat → Nat) (v : Hs) (n0 : Int32) (hw : Wf s) (hnx : v.2.1 < 4) (hsz : v.2.2 ≤ 4) (hh : ∀ i, Wf (v.1 i)) : Kx l D tA yX4_pass cX4_pass 4 (some .int) 6 139 [.ref c, .int n0] (clW c a b f h x k ++ (stW tA a s ++ (hsW tA h d v))) (some (.int ((oPass s n0).1))) (clW c a b f h x k ++ (stW tA a (aS s (oPass s n0).2) ++ (hsW tA h d (aH v s (oPass s n0).2)))) := by
  refine kx_int rfl (Nat.le_of_ble_eq_true rfl) (fun G X E => ?_)
  show J l D G 0 0 (clW c a b f h x k ++ (stW tA a s ++ (hsW tA h d v))) [(0, .ref c), (1, .int n0)] 0 []
  have hn := hw.n
  refine j_iload_n (pc := 0) X dX4_pass_0 rfl (q := 1) rfl ?_
  refine j_iconst (pc := 1) X (v := (nI 1)) dX4_pass_1 (by decide) ?_
  refine j_bipush (pc := 2) X (v := (nI 20)) dX4_pass_2 (by decide) ?_
  refine j_callSR (pc := 4) X (st := [])  (c_X4_isWithin l D tA n0 (nI 1) (nI 20) ) cd_X4_isWithin wm_X4_40 rfl [] rfl rfl ⟨Nat.le_of_ble_eq_true rfl, Nat.le_of_ble_eq_true rfl⟩ ⟨Nat.zero_le _, Nat.zero_le _⟩ rfl (Nat.le_of_ble_eq_true rfl) dX4_pass_4 ?_
  refine j_if_ne (pc := 7) X (tgt := 13) (P := (isW n0 (nI 1) (nI 20)) = true) dX4_pass_7 (by decide) (bI_n0 _) (fun h7 => ?_) (fun h7 => ?_)
  · skip
    skip
    obtain ⟨nn, hc7, rfl⟩ := isW_t (by omega) (by omega) h7
    have enn : tn (nI nn) = nn := tn_nI (by omega)
    refine j_aload_n (pc := 13) X dX4_pass_13 rfl (q := 0) rfl ?_
    refine j_get (pc := 14) X (C := RX4) (T := TX4) (N := 6) wz_X4 0 rfl rfl 0 (by decide) wf_X4_12 rfl dX4_pass_14 ?_
    refine j_get (pc := 17) X (C := RX1) (T := TX1) (N := 9) wz_X1 1 rfl rfl 5 (by decide) wf_X4_109 rfl dX4_pass_17 ?_
    refine j_iload_n (pc := 20) X dX4_pass_20 rfl (q := 1) rfl ?_
    refine j_iadd (pc := 21) X (v := (nI ((sN s) + nn))) dX4_pass_21 (nI_add _ _) ?_
    refine j_sipush (pc := 22) X (v := (nI 200)) dX4_pass_22 (by decide) ?_
    refine j_icmp_lt (pc := 25) X (tgt := 31) (P := ((sN s) + nn) < 200) dX4_pass_25 (by decide) (nI_ltI (by omega) (by omega)) (fun h25 => ?_) (fun h25 => ?_)
    · skip
      refine j_aload_n (pc := 31) X dX4_pass_31 rfl (q := 0) rfl ?_
      refine j_get (pc := 32) X (C := RX4) (T := TX4) (N := 6) wz_X4 0 rfl rfl 3 (by decide) wf_X4_25 rfl dX4_pass_32 ?_
      refine j_aload_n (pc := 35) X dX4_pass_35 rfl (q := 0) rfl ?_
      refine j_get (pc := 36) X (C := RX4) (T := TX4) (N := 6) wz_X4 0 rfl rfl 0 (by decide) wf_X4_12 rfl dX4_pass_36 ?_
      refine j_callVB (pc := 39) X (st := []) (wr := (clW c a b f h x k)) (w' := (clW c a b f h x k ++ (stW tA a s ++ (hsW tA h d (hPush v s))))) (c_X0_push l D tA h d v a s hnx hsz hh hw) cd_X0_push wm_X4_54 11 rfl rfl rfl [11, 12, 13, 14, 15, 16, 17, 18, 19, 20, 21, 22, 23, 24, 25, 26, 27, 28, 29, 30, 31, 32, 33, 34, 35, 36, 37, 38, 39, 40, 41, 42, 43, 44, 45, 46, 47, 48, 49, 50, 51, 52, 1, 2, 3, 4, 5, 6, 7, 8, 9, 10] rfl rfl [0] rfl rfl (fst_app (hs_fst.trans hs_fst.symm) (st_fst.trans st_fst.symm)) [52, 42, 43, 44, 45, 46, 47, 48, 49, 50, 51, 0, 1, 2, 3, 4, 5, 6, 7, 8, 9, 10, 11, 12, 13, 14, 15, 16, 17, 18, 19, 20, 21, 22, 23, 24, 25, 26, 27, 28, 29, 30, 31, 32, 33, 34, 35, 36, 37, 38, 39, 40, 41] rfl rfl ⟨Nat.le_of_ble_eq_true rfl, Nat.le_of_ble_eq_true rfl⟩ ⟨Nat.zero_le _, Nat.zero_le _⟩ rfl (Nat.le_of_ble_eq_true rfl) dX4_pass_39 ?_
      refine j_iconst (pc := 42) X (v := (nI 0)) dX4_pass_42 (by decide) ?_
      refine j_istore_n (pc := 43) X (lv' := [(2, .int (nI 0)), (0, .ref c), (1, .int (nI nn))]) dX4_pass_43 rfl (by decide) rfl ?_
      refine j_iconst (pc := 44) X (v := (nI 0)) dX4_pass_44 (by decide) ?_
      refine j_istore_n (pc := 45) X (lv' := [(3, .int (nI 0)), (2, .int (nI 0)), (0, .ref c), (1, .int (nI nn))]) dX4_pass_45 rfl (by decide) rfl ?_
      have L_46 : ∀ (fu : Nat) (i : Nat) (s2 : Sg) (q : Nat), i ≤ nn → (s2, q) = pasN i s → nn - i < fu → J l D G 0 0 (clW c a b f h x k ++ (stW tA a s2 ++ (hsW tA h d (hPush v s)))) [(0, .ref c), (1, .int (nI nn)), (2, .int (nI q)), (3, .int (nI i))] 46 [] := by
        intro fu
        induction fu with
        | zero => intro i s2 q hi hq hfu; exact absurd hfu (Nat.not_lt_zero _)
        | succ fu ih_46 =>
          intro i s2 q hi hq hfu
          have hw2 : Wf s2 := by have := (hw.pas i (by omega)).1; rw [← hq] at this; exact this
          refine j_iload_n (pc := 46) X dX4_pass_46 rfl (q := 3) rfl ?_
          refine j_iload_n (pc := 47) X dX4_pass_47 rfl (q := 1) rfl ?_
          refine j_icmp_ge (pc := 48) X (tgt := 67) (P := nn ≤ i) dX4_pass_48 (by decide) (nI_leI (by omega) (by omega)) (fun h48 => ?_) (fun h48 => ?_)
          · skip
            refine j_iload_n (pc := 67) X dX4_pass_67 rfl (q := 2) rfl ?_
            have e : oPass s (nI nn) = ((nI q), (some s2)) := by unfold oPass; simp only [enn]; rw [if_pos h7, if_pos h25, ← show i = nn by omega, ← hq] <;> rfl
            exact j_endI (pc := 68) E dX4_pass_68 (by rw [e]) (by rw [e]; rfl)
          · skip
            refine j_iload_n (pc := 51) X dX4_pass_51 rfl (q := 2) rfl ?_
            refine j_aload_n (pc := 52) X dX4_pass_52 rfl (q := 0) rfl ?_
            refine j_get (pc := 53) X (C := RX4) (T := TX4) (N := 6) wz_X4 0 rfl rfl 0 (by decide) wf_X4_12 rfl dX4_pass_53 ?_
            refine j_callVB (pc := 56) X (st := [.int (nI q)]) (wr := (clW c a b f h x k ++ (hsW tA h d (hPush v s)))) (w' := (clW c a b f h x k ++ (stW tA a ((psH s2).1) ++ (hsW tA h d (hPush v s))))) (c_X1_passHalfDay l D tA a s2  hw2) cd_X1_passHalfDay wm_X4_136 1 rfl rfl rfl [1, 2, 3, 4, 5, 6, 7, 8, 9, 10] rfl rfl [0, 11, 12, 13, 14, 15, 16, 17, 18, 19, 20, 21, 22, 23, 24, 25, 26, 27, 28, 29, 30, 31, 32, 33, 34, 35, 36, 37, 38, 39, 40, 41, 42, 43, 44, 45, 46, 47, 48, 49, 50, 51, 52] rfl rfl (st_fst.trans st_fst.symm) [10, 0, 1, 2, 3, 4, 5, 6, 7, 8, 9, 11, 12, 13, 14, 15, 16, 17, 18, 19, 20, 21, 22, 23, 24, 25, 26, 27, 28, 29, 30, 31, 32, 33, 34, 35, 36, 37, 38, 39, 40, 41, 42, 43, 44, 45, 46, 47, 48, 49, 50, 51, 52] rfl rfl ⟨Nat.le_of_ble_eq_true rfl, Nat.le_of_ble_eq_true rfl⟩ ⟨Nat.zero_le _, Nat.zero_le _⟩ rfl (Nat.le_of_ble_eq_true rfl) dX4_pass_56 ?_
            refine j_iadd (pc := 59) X (v := (nI (q + ((psH s2).2)))) dX4_pass_59 (nI_add _ _) ?_
            refine j_istore_n (pc := 60) X (lv' := [(2, .int (nI (q + ((psH s2).2)))), (0, .ref c), (1, .int (nI nn)), (3, .int (nI i))]) dX4_pass_60 rfl (by decide) rfl ?_
            refine j_iinc (pc := 61) X (v := (nI (i + 1))) (lv' := [(3, .int (nI (i + 1))), (2, .int (nI (q + ((psH s2).2)))), (0, .ref c), (1, .int (nI nn))]) dX4_pass_61 (q := 3) rfl (nI_add _ _) (by decide) rfl ?_
            refine j_goto (pc := 64) X (tgt := 46) dX4_pass_64 (by decide) ?_
            refine j_lv X (lv' := [(0, .ref c), (1, .int (nI nn)), (2, .int (nI (q + ((psH s2).2)))), (3, .int (nI (i + 1)))]) [2, 3, 1, 0] rfl ?_
            exact ih_46 (i + 1) ((psH s2).1) (q + (psH s2).2) (by omega) (by rw [pasN, ← hq]) (by omega)
      refine j_lv X (lv' := [(0, .ref c), (1, .int (nI nn)), (2, .int (nI 0)), (3, .int (nI 0))]) [2, 3, 1, 0] rfl ?_
      exact L_46 _ 0 s 0 (Nat.zero_le _) rfl (Nat.lt_succ_self _)
    · skip
      refine j_bipush (pc := 28) X (v := (-4)) dX4_pass_28 (by decide) ?_
      have e : oPass s (nI nn) = ((-4), none) := by unfold oPass; simp only [enn]; rw [if_pos h7, if_neg h25] <;> rfl
      exact j_endI (pc := 30) E dX4_pass_30 (by rw [e]) (by rw [e]; rfl)
  · skip
    skip
    refine j_bipush (pc := 10) X (v := (-2)) dX4_pass_10 (by decide) ?_
    have e : oPass s n0 = ((-2), none) := by unfold oPass; rw [if_neg h7] <;> rfl
    exact j_endI (pc := 12) E dX4_pass_12 (by rw [e]) (by rw [e]; rfl)
theorem cd_X4_bears : kCardV yX4_bears cX4_bears 3 (some .int) 2 := ⟨⟨wc_X4_bears, wi_X4, by decide +kernel, by decide +kernel, rfl⟩, wk_X4_bears, ws_X4_bears⟩
set_option maxHeartbeats 4000000 in
set_option maxRecDepth 100000 in
theorem c_X4_bears (l : Launch) (D : va_G) (tA : Nat → ClassId) (c : Nat) (a b f h x : Nat → Nat) (k : Bool) (s : Sg) (m0 r0 : Int32) (hw : Wf s) : Kx l D tA yX4_bears cX4_bears 3 (some .int) 2 48 [.ref c, .int m0, .int r0] (clW c a b f h x k ++ (stW tA a s)) (some (.int (oBears s m0 r0))) (clW c a b f h x k ++ (stW tA a s)) := by
  refine kx_int rfl (Nat.le_of_ble_eq_true rfl) (fun G X E => ?_)
  show J l D G 0 0 (clW c a b f h x k ++ (stW tA a s)) [(0, .ref c), (1, .int m0), (2, .int r0)] 0 []
  have hn := hw.n
  refine j_aload_n (pc := 0) X dX4_bears_0 rfl (q := 0) rfl ?_
  refine j_get (pc := 1) X (C := RX4) (T := TX4) (N := 6) wz_X4 0 rfl rfl 0 (by decide) wf_X4_12 rfl dX4_bears_1 ?_
  refine j_get (pc := 4) X (C := RX1) (T := TX1) (N := 9) wz_X1 1 rfl rfl 0 (by decide) wf_X4_44 rfl dX4_bears_4 ?_
  refine j_iload_n (pc := 7) X dX4_bears_7 rfl (q := 1) rfl ?_
  refine j_callVR (pc := 8) X (st := [])  (c_X2_has l D tA (a 1) (a 6) 5 3 (sM s) m0 (by first | assumption | omega | decide) (by first | assumption | omega | decide) (by first | assumption | omega | decide)) cd_X2_has wm_X4_81 3 rfl rfl rfl [3, 4] rfl rfl ⟨Nat.le_of_ble_eq_true rfl, Nat.le_of_ble_eq_true rfl⟩ ⟨Nat.zero_le _, Nat.zero_le _⟩ rfl (Nat.le_of_ble_eq_true rfl) dX4_bears_8 ?_
  refine j_if_ne (pc := 11) X (tgt := 16) (P := (inR m0 (sM s).1) = true) dX4_bears_11 (by decide) (bI_n0 _) (fun h11 => ?_) (fun h11 => ?_)
  · skip
    skip
    obtain ⟨mm, hc11, rfl⟩ := inR_t h11
    have emm : tn (nI mm) = mm := tn_nI (by omega)
    refine j_iload_n (pc := 16) X dX4_bears_16 rfl (q := 2) rfl ?_
    refine j_callSR (pc := 17) X (st := [])  (c_X4_isRadius l D tA r0 ) cd_X4_isRadius wm_X4_170 rfl [] rfl rfl ⟨Nat.le_of_ble_eq_true rfl, Nat.le_of_ble_eq_true rfl⟩ ⟨Nat.zero_le _, Nat.zero_le _⟩ rfl (Nat.le_of_ble_eq_true rfl) dX4_bears_17 ?_
    refine j_if_ne (pc := 20) X (tgt := 26) (P := (isRad r0) = true) dX4_bears_20 (by decide) (bI_n0 _) (fun h20 => ?_) (fun h20 => ?_)
    · skip
      skip
      obtain ⟨rr, hc20, rfl⟩ := isRad_t h20
      have err : tn (nI rr) = rr := tn_nI (by omega)
      refine j_aload_n (pc := 26) X dX4_bears_26 rfl (q := 0) rfl ?_
      refine j_get (pc := 27) X (C := RX4) (T := TX4) (N := 6) wz_X4 0 rfl rfl 0 (by decide) wf_X4_12 rfl dX4_bears_27 ?_
      refine j_iload_n (pc := 30) X dX4_bears_30 rfl (q := 1) rfl ?_
      refine j_iload_n (pc := 31) X dX4_bears_31 rfl (q := 2) rfl ?_
      refine j_callVR (pc := 32) X (st := [])  (c_X1_borneBy l D tA a s mm rr hw hc11 (by omega)) cd_X1_borneBy wm_X4_173 1 rfl rfl rfl [1, 2, 3, 4, 5, 6, 7, 8, 9, 10] rfl rfl ⟨Nat.le_of_ble_eq_true rfl, Nat.le_of_ble_eq_true rfl⟩ ⟨Nat.zero_le _, Nat.zero_le _⟩ rfl (Nat.le_of_ble_eq_true rfl) dX4_bears_32 ?_
      have e : oBears s (nI mm) (nI rr) = (nI (brn (sM s) mm rr)) := by unfold oBears; simp only [emm, err]; rw [if_pos h11, if_pos h20] <;> rfl
      exact j_endI (pc := 35) E dX4_bears_35 (by rw [e]) rfl
    · skip
      skip
      refine j_bipush (pc := 23) X (v := (-2)) dX4_bears_23 (by decide) ?_
      have e : oBears s (nI mm) r0 = (-2) := by unfold oBears; simp only [emm]; rw [if_pos h11, if_neg h20] <;> rfl
      exact j_endI (pc := 25) E dX4_bears_25 (by rw [e]) rfl
  · skip
    skip
    refine j_iconst (pc := 14) X (v := (-1)) dX4_bears_14 (by decide) ?_
    have e : oBears s m0 r0 = (-1) := by unfold oBears; rw [if_neg h11] <;> rfl
    exact j_endI (pc := 15) E dX4_bears_15 (by rw [e]) rfl
theorem cd_X4_machine : kCardV yX4_machine cX4_machine 3 (some .int) 2 := ⟨⟨wc_X4_machine, wi_X4, by decide +kernel, by decide +kernel, rfl⟩, wk_X4_machine, ws_X4_machine⟩
set_option maxHeartbeats 4000000 in
set_option maxRecDepth 100000 in
theorem c_X4_machine (l : Launch) (D : va_G) (tA : Nat → ClassId) (c : Nat) (a b f h x : Nat → Nat) (k : Bool) (s : Sg) (m0 w0 : Int32) (hw : Wf s) : Kx l D tA yX4_machine cX4_machine 3 (some .int) 2 49 [.ref c, .int m0, .int w0] (clW c a b f h x k ++ (stW tA a s)) (some (.int (oMachine s m0 w0))) (clW c a b f h x k ++ (stW tA a s)) := by
  refine kx_int rfl (Nat.le_of_ble_eq_true rfl) (fun G X E => ?_)
  show J l D G 0 0 (clW c a b f h x k ++ (stW tA a s)) [(0, .ref c), (1, .int m0), (2, .int w0)] 0 []
  have hn := hw.n
  refine j_aload_n (pc := 0) X dX4_machine_0 rfl (q := 0) rfl ?_
  refine j_get (pc := 1) X (C := RX4) (T := TX4) (N := 6) wz_X4 0 rfl rfl 0 (by decide) wf_X4_12 rfl dX4_machine_1 ?_
  refine j_get (pc := 4) X (C := RX1) (T := TX1) (N := 9) wz_X1 1 rfl rfl 0 (by decide) wf_X4_44 rfl dX4_machine_4 ?_
  refine j_iload_n (pc := 7) X dX4_machine_7 rfl (q := 1) rfl ?_
  refine j_callVR (pc := 8) X (st := [])  (c_X2_has l D tA (a 1) (a 6) 5 3 (sM s) m0 (by first | assumption | omega | decide) (by first | assumption | omega | decide) (by first | assumption | omega | decide)) cd_X2_has wm_X4_81 3 rfl rfl rfl [3, 4] rfl rfl ⟨Nat.le_of_ble_eq_true rfl, Nat.le_of_ble_eq_true rfl⟩ ⟨Nat.zero_le _, Nat.zero_le _⟩ rfl (Nat.le_of_ble_eq_true rfl) dX4_machine_8 ?_
  refine j_if_ne (pc := 11) X (tgt := 16) (P := (inR m0 (sM s).1) = true) dX4_machine_11 (by decide) (bI_n0 _) (fun h11 => ?_) (fun h11 => ?_)
  · skip
    skip
    obtain ⟨mm, hc11, rfl⟩ := inR_t h11
    have emm : tn (nI mm) = mm := tn_nI (by omega)
    refine j_iload_n (pc := 16) X dX4_machine_16 rfl (q := 2) rfl ?_
    rcases Decidable.em (w0.toInt < 0 ∨ 6 < w0.toInt) with hs | hs
    · refine j_swOut (pc := 17) X (tgt := 155) dX4_machine_17 hs (by decide) ?_
      refine j_bipush (pc := 155) X (v := (-2)) dX4_machine_155 (by decide) ?_
      have e : oMachine s (nI mm) w0 = (-2) := by unfold oMachine; simp only [emm]; rw [if_pos h11, if_neg (by omega), if_neg (by omega), if_neg (by omega), if_neg (by omega), if_neg (by omega), if_neg (by omega), if_neg (by omega)] <;> rfl
      exact j_endI (pc := 157) E dX4_machine_157 (by rw [e]) rfl
    have hs : w0.toInt = 0 ∨ w0.toInt = 1 ∨ w0.toInt = 2 ∨ w0.toInt = 3 ∨ w0.toInt = 4 ∨ w0.toInt = 5 ∨ w0.toInt = 6 := by omega
    rcases hs with hs | hs | hs | hs | hs | hs | hs
    · refine j_swIn (pc := 17) X (off := 43) (tgt := 60) dX4_machine_17 (by omega) (by omega) (by rw [hs]; rfl) (by decide) ?_
      refine j_aload_n (pc := 60) X dX4_machine_60 rfl (q := 0) rfl ?_
      refine j_get (pc := 61) X (C := RX4) (T := TX4) (N := 6) wz_X4 0 rfl rfl 0 (by decide) wf_X4_12 rfl dX4_machine_61 ?_
      refine j_get (pc := 64) X (C := RX1) (T := TX1) (N := 9) wz_X1 1 rfl rfl 0 (by decide) wf_X4_44 rfl dX4_machine_64 ?_
      refine j_iload_n (pc := 67) X dX4_machine_67 rfl (q := 1) rfl ?_
      refine j_iconst (pc := 68) X (v := (nI 0)) dX4_machine_68 (by decide) ?_
      refine j_callVR (pc := 69) X (st := [])  (c_X2_get l D tA (a 1) (a 6) 5 3 (sM s) mm 0 (by first | assumption | omega | decide) (by first | assumption | omega | decide) (by first | assumption | omega | decide) (by first | assumption | omega | decide) (by first | assumption | omega | decide) (by first | assumption | omega | decide)) cd_X2_get wm_X4_106 3 rfl rfl rfl [3, 4] rfl rfl ⟨Nat.le_of_ble_eq_true rfl, Nat.le_of_ble_eq_true rfl⟩ ⟨Nat.zero_le _, Nat.zero_le _⟩ rfl (Nat.le_of_ble_eq_true rfl) dX4_machine_69 ?_
      have e : oMachine s (nI mm) w0 = (nI (tGet 3 (sM s) mm 0)) := by unfold oMachine; simp only [emm]; rw [if_pos h11, if_pos hs] <;> rfl
      exact j_endI (pc := 72) E dX4_machine_72 (by rw [e]) rfl
    · refine j_swIn (pc := 17) X (off := 56) (tgt := 73) dX4_machine_17 (by omega) (by omega) (by rw [hs]; rfl) (by decide) ?_
      refine j_aload_n (pc := 73) X dX4_machine_73 rfl (q := 0) rfl ?_
      refine j_get (pc := 74) X (C := RX4) (T := TX4) (N := 6) wz_X4 0 rfl rfl 0 (by decide) wf_X4_12 rfl dX4_machine_74 ?_
      refine j_get (pc := 77) X (C := RX1) (T := TX1) (N := 9) wz_X1 1 rfl rfl 0 (by decide) wf_X4_44 rfl dX4_machine_77 ?_
      refine j_iload_n (pc := 80) X dX4_machine_80 rfl (q := 1) rfl ?_
      refine j_iconst (pc := 81) X (v := (nI 1)) dX4_machine_81 (by decide) ?_
      refine j_callVR (pc := 82) X (st := [])  (c_X2_get l D tA (a 1) (a 6) 5 3 (sM s) mm 1 (by first | assumption | omega | decide) (by first | assumption | omega | decide) (by first | assumption | omega | decide) (by first | assumption | omega | decide) (by first | assumption | omega | decide) (by first | assumption | omega | decide)) cd_X2_get wm_X4_106 3 rfl rfl rfl [3, 4] rfl rfl ⟨Nat.le_of_ble_eq_true rfl, Nat.le_of_ble_eq_true rfl⟩ ⟨Nat.zero_le _, Nat.zero_le _⟩ rfl (Nat.le_of_ble_eq_true rfl) dX4_machine_82 ?_
      have e : oMachine s (nI mm) w0 = (nI (tGet 3 (sM s) mm 1)) := by unfold oMachine; simp only [emm]; rw [if_pos h11, if_neg (by omega), if_pos hs] <;> rfl
      exact j_endI (pc := 85) E dX4_machine_85 (by rw [e]) rfl
    · refine j_swIn (pc := 17) X (off := 69) (tgt := 86) dX4_machine_17 (by omega) (by omega) (by rw [hs]; rfl) (by decide) ?_
      refine j_aload_n (pc := 86) X dX4_machine_86 rfl (q := 0) rfl ?_
      refine j_get (pc := 87) X (C := RX4) (T := TX4) (N := 6) wz_X4 0 rfl rfl 0 (by decide) wf_X4_12 rfl dX4_machine_87 ?_
      refine j_get (pc := 90) X (C := RX1) (T := TX1) (N := 9) wz_X1 1 rfl rfl 2 (by decide) wf_X4_92 rfl dX4_machine_90 ?_
      refine j_iconst (pc := 93) X (v := (nI 1)) dX4_machine_93 (by decide) ?_
      refine j_iload_n (pc := 94) X dX4_machine_94 rfl (q := 1) rfl ?_
      refine j_iconst (pc := 95) X (v := (nI 5)) dX4_machine_95 (by decide) ?_
      refine j_iconst (pc := 96) X (v := (nI 0)) dX4_machine_96 (by decide) ?_
      refine j_callVR (pc := 97) X (st := [])  (c_X2_countBoth l D tA (a 3) (a 8) 30 8 (sB s) 1 mm 5 0 (by decide) (by decide) (by omega) (by decide) (by decide) (fun r hr => by have := hw.b hr; omega) (by omega) (by decide) (fun r hr => by have := hw.b hr; omega) (by decide)) cd_X2_countBoth wm_X4_182 7 rfl rfl rfl [7, 8] rfl rfl ⟨Nat.le_of_ble_eq_true rfl, Nat.le_of_ble_eq_true rfl⟩ ⟨Nat.zero_le _, Nat.zero_le _⟩ rfl (Nat.le_of_ble_eq_true rfl) dX4_machine_97 ?_
      have e : oMachine s (nI mm) w0 = (nI (cntN (fun r => decide (tGet 8 (sB s) r 1 = mm ∧ tGet 8 (sB s) r 5 = 0)) (sB s).1)) := by unfold oMachine; simp only [emm]; rw [if_pos h11, if_neg (by omega), if_neg (by omega), if_pos hs] <;> rfl
      exact j_endI (pc := 100) E dX4_machine_100 (by rw [e]) rfl
    · refine j_swIn (pc := 17) X (off := 84) (tgt := 101) dX4_machine_17 (by omega) (by omega) (by rw [hs]; rfl) (by decide) ?_
      refine j_aload_n (pc := 101) X dX4_machine_101 rfl (q := 0) rfl ?_
      refine j_get (pc := 102) X (C := RX4) (T := TX4) (N := 6) wz_X4 0 rfl rfl 0 (by decide) wf_X4_12 rfl dX4_machine_102 ?_
      refine j_get (pc := 105) X (C := RX1) (T := TX1) (N := 9) wz_X1 1 rfl rfl 3 (by decide) wf_X4_122 rfl dX4_machine_105 ?_
      refine j_iconst (pc := 108) X (v := (nI 1)) dX4_machine_108 (by decide) ?_
      refine j_iload_n (pc := 109) X dX4_machine_109 rfl (q := 1) rfl ?_
      refine j_callVR (pc := 110) X (st := [])  (c_X2_countOf l D tA (a 4) (a 9) 10 5 (sV s) 1 mm (by decide) (by decide) (by omega) (by decide) (by decide) (fun r hr => by have := hw.v hr; omega) (by omega)) cd_X2_countOf wm_X4_186 9 rfl rfl rfl [9, 10] rfl rfl ⟨Nat.le_of_ble_eq_true rfl, Nat.le_of_ble_eq_true rfl⟩ ⟨Nat.zero_le _, Nat.zero_le _⟩ rfl (Nat.le_of_ble_eq_true rfl) dX4_machine_110 ?_
      have e : oMachine s (nI mm) w0 = (nI (cntN (fun r => decide (tGet 5 (sV s) r 1 = mm)) (sV s).1)) := by unfold oMachine; simp only [emm]; rw [if_pos h11, if_neg (by omega), if_neg (by omega), if_neg (by omega), if_pos hs] <;> rfl
      exact j_endI (pc := 113) E dX4_machine_113 (by rw [e]) rfl
    · refine j_swIn (pc := 17) X (off := 97) (tgt := 114) dX4_machine_17 (by omega) (by omega) (by rw [hs]; rfl) (by decide) ?_
      refine j_aload_n (pc := 114) X dX4_machine_114 rfl (q := 0) rfl ?_
      refine j_get (pc := 115) X (C := RX4) (T := TX4) (N := 6) wz_X4 0 rfl rfl 0 (by decide) wf_X4_12 rfl dX4_machine_115 ?_
      refine j_get (pc := 118) X (C := RX1) (T := TX1) (N := 9) wz_X1 1 rfl rfl 3 (by decide) wf_X4_122 rfl dX4_machine_118 ?_
      refine j_iconst (pc := 121) X (v := (nI 2)) dX4_machine_121 (by decide) ?_
      refine j_iload_n (pc := 122) X dX4_machine_122 rfl (q := 1) rfl ?_
      refine j_callVR (pc := 123) X (st := [])  (c_X2_countOf l D tA (a 4) (a 9) 10 5 (sV s) 2 mm (by decide) (by decide) (by omega) (by decide) (by decide) (fun r hr => by have := hw.v hr; omega) (by omega)) cd_X2_countOf wm_X4_186 9 rfl rfl rfl [9, 10] rfl rfl ⟨Nat.le_of_ble_eq_true rfl, Nat.le_of_ble_eq_true rfl⟩ ⟨Nat.zero_le _, Nat.zero_le _⟩ rfl (Nat.le_of_ble_eq_true rfl) dX4_machine_123 ?_
      have e : oMachine s (nI mm) w0 = (nI (cntN (fun r => decide (tGet 5 (sV s) r 2 = mm)) (sV s).1)) := by unfold oMachine; simp only [emm]; rw [if_pos h11, if_neg (by omega), if_neg (by omega), if_neg (by omega), if_neg (by omega), if_pos hs] <;> rfl
      exact j_endI (pc := 126) E dX4_machine_126 (by rw [e]) rfl
    · refine j_swIn (pc := 17) X (off := 110) (tgt := 127) dX4_machine_17 (by omega) (by omega) (by rw [hs]; rfl) (by decide) ?_
      refine j_aload_n (pc := 127) X dX4_machine_127 rfl (q := 0) rfl ?_
      refine j_get (pc := 128) X (C := RX4) (T := TX4) (N := 6) wz_X4 0 rfl rfl 0 (by decide) wf_X4_12 rfl dX4_machine_128 ?_
      refine j_get (pc := 131) X (C := RX1) (T := TX1) (N := 9) wz_X1 1 rfl rfl 0 (by decide) wf_X4_44 rfl dX4_machine_131 ?_
      refine j_iload_n (pc := 134) X dX4_machine_134 rfl (q := 1) rfl ?_
      refine j_iconst (pc := 135) X (v := (nI 2)) dX4_machine_135 (by decide) ?_
      refine j_callVR (pc := 136) X (st := [])  (c_X2_get l D tA (a 1) (a 6) 5 3 (sM s) mm 2 (by first | assumption | omega | decide) (by first | assumption | omega | decide) (by first | assumption | omega | decide) (by first | assumption | omega | decide) (by first | assumption | omega | decide) (by first | assumption | omega | decide)) cd_X2_get wm_X4_106 3 rfl rfl rfl [3, 4] rfl rfl ⟨Nat.le_of_ble_eq_true rfl, Nat.le_of_ble_eq_true rfl⟩ ⟨Nat.zero_le _, Nat.zero_le _⟩ rfl (Nat.le_of_ble_eq_true rfl) dX4_machine_136 ?_
      have e : oMachine s (nI mm) w0 = (nI (tGet 3 (sM s) mm 2)) := by unfold oMachine; simp only [emm]; rw [if_pos h11, if_neg (by omega), if_neg (by omega), if_neg (by omega), if_neg (by omega), if_neg (by omega), if_pos hs] <;> rfl
      exact j_endI (pc := 139) E dX4_machine_139 (by rw [e]) rfl
    · refine j_swIn (pc := 17) X (off := 123) (tgt := 140) dX4_machine_17 (by omega) (by omega) (by rw [hs]; rfl) (by decide) ?_
      refine j_aload_n (pc := 140) X dX4_machine_140 rfl (q := 0) rfl ?_
      refine j_get (pc := 141) X (C := RX4) (T := TX4) (N := 6) wz_X4 0 rfl rfl 0 (by decide) wf_X4_12 rfl dX4_machine_141 ?_
      refine j_get (pc := 144) X (C := RX1) (T := TX1) (N := 9) wz_X1 1 rfl rfl 2 (by decide) wf_X4_92 rfl dX4_machine_144 ?_
      refine j_iconst (pc := 147) X (v := (nI 1)) dX4_machine_147 (by decide) ?_
      refine j_iload_n (pc := 148) X dX4_machine_148 rfl (q := 1) rfl ?_
      refine j_iconst (pc := 149) X (v := (nI 5)) dX4_machine_149 (by decide) ?_
      refine j_iconst (pc := 150) X (v := (nI 1)) dX4_machine_150 (by decide) ?_
      refine j_callVR (pc := 151) X (st := [])  (c_X2_countBoth l D tA (a 3) (a 8) 30 8 (sB s) 1 mm 5 1 (by decide) (by decide) (by omega) (by decide) (by decide) (fun r hr => by have := hw.b hr; omega) (by omega) (by decide) (fun r hr => by have := hw.b hr; omega) (by decide)) cd_X2_countBoth wm_X4_182 7 rfl rfl rfl [7, 8] rfl rfl ⟨Nat.le_of_ble_eq_true rfl, Nat.le_of_ble_eq_true rfl⟩ ⟨Nat.zero_le _, Nat.zero_le _⟩ rfl (Nat.le_of_ble_eq_true rfl) dX4_machine_151 ?_
      have e : oMachine s (nI mm) w0 = (nI (cntN (fun r => decide (tGet 8 (sB s) r 1 = mm ∧ tGet 8 (sB s) r 5 = 1)) (sB s).1)) := by unfold oMachine; simp only [emm]; rw [if_pos h11, if_neg (by omega), if_neg (by omega), if_neg (by omega), if_neg (by omega), if_neg (by omega), if_neg (by omega), if_pos hs] <;> rfl
      exact j_endI (pc := 154) E dX4_machine_154 (by rw [e]) rfl
  · skip
    skip
    refine j_iconst (pc := 14) X (v := (-1)) dX4_machine_14 (by decide) ?_
    have e : oMachine s m0 w0 = (-1) := by unfold oMachine; rw [if_neg h11] <;> rfl
    exact j_endI (pc := 15) E dX4_machine_15 (by rw [e]) rfl
theorem cd_X4_member : kCardV yX4_member cX4_member 3 (some .int) 2 := ⟨⟨wc_X4_member, wi_X4, by decide +kernel, by decide +kernel, rfl⟩, wk_X4_member, ws_X4_member⟩
set_option maxHeartbeats 4000000 in
set_option maxRecDepth 100000 in
theorem c_X4_member (l : Launch) (D : va_G) (tA : Nat → ClassId) (c : Nat) (a b f h x : Nat → Nat) (k : Bool) (s : Sg) (p0 w0 : Int32) (hw : Wf s) : Kx l D tA yX4_member cX4_member 3 (some .int) 2 49 [.ref c, .int p0, .int w0] (clW c a b f h x k ++ (stW tA a s)) (some (.int (oMember s p0 w0))) (clW c a b f h x k ++ (stW tA a s)) := by
  refine kx_int rfl (Nat.le_of_ble_eq_true rfl) (fun G X E => ?_)
  show J l D G 0 0 (clW c a b f h x k ++ (stW tA a s)) [(0, .ref c), (1, .int p0), (2, .int w0)] 0 []
  have hn := hw.n
  refine j_aload_n (pc := 0) X dX4_member_0 rfl (q := 0) rfl ?_
  refine j_get (pc := 1) X (C := RX4) (T := TX4) (N := 6) wz_X4 0 rfl rfl 0 (by decide) wf_X4_12 rfl dX4_member_1 ?_
  refine j_get (pc := 4) X (C := RX1) (T := TX1) (N := 9) wz_X1 1 rfl rfl 1 (by decide) wf_X4_62 rfl dX4_member_4 ?_
  refine j_iload_n (pc := 7) X dX4_member_7 rfl (q := 1) rfl ?_
  refine j_callVR (pc := 8) X (st := [])  (c_X2_has l D tA (a 2) (a 7) 8 2 (sP s) p0 (by first | assumption | omega | decide) (by first | assumption | omega | decide) (by first | assumption | omega | decide)) cd_X2_has wm_X4_81 5 rfl rfl rfl [5, 6] rfl rfl ⟨Nat.le_of_ble_eq_true rfl, Nat.le_of_ble_eq_true rfl⟩ ⟨Nat.zero_le _, Nat.zero_le _⟩ rfl (Nat.le_of_ble_eq_true rfl) dX4_member_8 ?_
  refine j_if_ne (pc := 11) X (tgt := 16) (P := (inR p0 (sP s).1) = true) dX4_member_11 (by decide) (bI_n0 _) (fun h11 => ?_) (fun h11 => ?_)
  · skip
    skip
    obtain ⟨pp, hc11, rfl⟩ := inR_t h11
    have epp : tn (nI pp) = pp := tn_nI (by omega)
    refine j_iload_n (pc := 16) X dX4_member_16 rfl (q := 2) rfl ?_
    rcases Decidable.em (w0.toInt < 0 ∨ 6 < w0.toInt) with hs | hs
    · refine j_swOut (pc := 17) X (tgt := 159) dX4_member_17 hs (by decide) ?_
      refine j_bipush (pc := 159) X (v := (-2)) dX4_member_159 (by decide) ?_
      have e : oMember s (nI pp) w0 = (-2) := by unfold oMember; simp only [epp]; rw [if_pos h11, if_neg (by omega), if_neg (by omega), if_neg (by omega), if_neg (by omega), if_neg (by omega), if_neg (by omega), if_neg (by omega)] <;> rfl
      exact j_endI (pc := 161) E dX4_member_161 (by rw [e]) rfl
    have hs : w0.toInt = 0 ∨ w0.toInt = 1 ∨ w0.toInt = 2 ∨ w0.toInt = 3 ∨ w0.toInt = 4 ∨ w0.toInt = 5 ∨ w0.toInt = 6 := by omega
    rcases hs with hs | hs | hs | hs | hs | hs | hs
    · refine j_swIn (pc := 17) X (off := 43) (tgt := 60) dX4_member_17 (by omega) (by omega) (by rw [hs]; rfl) (by decide) ?_
      refine j_aload_n (pc := 60) X dX4_member_60 rfl (q := 0) rfl ?_
      refine j_get (pc := 61) X (C := RX4) (T := TX4) (N := 6) wz_X4 0 rfl rfl 0 (by decide) wf_X4_12 rfl dX4_member_61 ?_
      refine j_get (pc := 64) X (C := RX1) (T := TX1) (N := 9) wz_X1 1 rfl rfl 1 (by decide) wf_X4_62 rfl dX4_member_64 ?_
      refine j_iload_n (pc := 67) X dX4_member_67 rfl (q := 1) rfl ?_
      refine j_iconst (pc := 68) X (v := (nI 0)) dX4_member_68 (by decide) ?_
      refine j_callVR (pc := 69) X (st := [])  (c_X2_get l D tA (a 2) (a 7) 8 2 (sP s) pp 0 (by first | assumption | omega | decide) (by first | assumption | omega | decide) (by first | assumption | omega | decide) (by first | assumption | omega | decide) (by first | assumption | omega | decide) (by first | assumption | omega | decide)) cd_X2_get wm_X4_106 5 rfl rfl rfl [5, 6] rfl rfl ⟨Nat.le_of_ble_eq_true rfl, Nat.le_of_ble_eq_true rfl⟩ ⟨Nat.zero_le _, Nat.zero_le _⟩ rfl (Nat.le_of_ble_eq_true rfl) dX4_member_69 ?_
      have e : oMember s (nI pp) w0 = (nI (tGet 2 (sP s) pp 0)) := by unfold oMember; simp only [epp]; rw [if_pos h11, if_pos hs] <;> rfl
      exact j_endI (pc := 72) E dX4_member_72 (by rw [e]) rfl
    · refine j_swIn (pc := 17) X (off := 56) (tgt := 73) dX4_member_17 (by omega) (by omega) (by rw [hs]; rfl) (by decide) ?_
      refine j_aload_n (pc := 73) X dX4_member_73 rfl (q := 0) rfl ?_
      refine j_get (pc := 74) X (C := RX4) (T := TX4) (N := 6) wz_X4 0 rfl rfl 0 (by decide) wf_X4_12 rfl dX4_member_74 ?_
      refine j_get (pc := 77) X (C := RX1) (T := TX1) (N := 9) wz_X1 1 rfl rfl 2 (by decide) wf_X4_92 rfl dX4_member_77 ?_
      refine j_iconst (pc := 80) X (v := (nI 0)) dX4_member_80 (by decide) ?_
      refine j_iload_n (pc := 81) X dX4_member_81 rfl (q := 1) rfl ?_
      refine j_iconst (pc := 82) X (v := (nI 5)) dX4_member_82 (by decide) ?_
      refine j_iconst (pc := 83) X (v := (nI 0)) dX4_member_83 (by decide) ?_
      refine j_callVR (pc := 84) X (st := [])  (c_X2_countBoth l D tA (a 3) (a 8) 30 8 (sB s) 0 pp 5 0 (by decide) (by decide) (by omega) (by decide) (by decide) (fun r hr => by have := hw.b hr; omega) (by omega) (by decide) (fun r hr => by have := hw.b hr; omega) (by decide)) cd_X2_countBoth wm_X4_182 7 rfl rfl rfl [7, 8] rfl rfl ⟨Nat.le_of_ble_eq_true rfl, Nat.le_of_ble_eq_true rfl⟩ ⟨Nat.zero_le _, Nat.zero_le _⟩ rfl (Nat.le_of_ble_eq_true rfl) dX4_member_84 ?_
      have e : oMember s (nI pp) w0 = (nI (cntN (fun r => decide (tGet 8 (sB s) r 0 = pp ∧ tGet 8 (sB s) r 5 = 0)) (sB s).1)) := by unfold oMember; simp only [epp]; rw [if_pos h11, if_neg (by omega), if_pos hs] <;> rfl
      exact j_endI (pc := 87) E dX4_member_87 (by rw [e]) rfl
    · refine j_swIn (pc := 17) X (off := 71) (tgt := 88) dX4_member_17 (by omega) (by omega) (by rw [hs]; rfl) (by decide) ?_
      refine j_aload_n (pc := 88) X dX4_member_88 rfl (q := 0) rfl ?_
      refine j_get (pc := 89) X (C := RX4) (T := TX4) (N := 6) wz_X4 0 rfl rfl 0 (by decide) wf_X4_12 rfl dX4_member_89 ?_
      refine j_get (pc := 92) X (C := RX1) (T := TX1) (N := 9) wz_X1 1 rfl rfl 2 (by decide) wf_X4_92 rfl dX4_member_92 ?_
      refine j_iconst (pc := 95) X (v := (nI 0)) dX4_member_95 (by decide) ?_
      refine j_iload_n (pc := 96) X dX4_member_96 rfl (q := 1) rfl ?_
      refine j_iconst (pc := 97) X (v := (nI 5)) dX4_member_97 (by decide) ?_
      refine j_iconst (pc := 98) X (v := (nI 1)) dX4_member_98 (by decide) ?_
      refine j_callVR (pc := 99) X (st := [])  (c_X2_countBoth l D tA (a 3) (a 8) 30 8 (sB s) 0 pp 5 1 (by decide) (by decide) (by omega) (by decide) (by decide) (fun r hr => by have := hw.b hr; omega) (by omega) (by decide) (fun r hr => by have := hw.b hr; omega) (by decide)) cd_X2_countBoth wm_X4_182 7 rfl rfl rfl [7, 8] rfl rfl ⟨Nat.le_of_ble_eq_true rfl, Nat.le_of_ble_eq_true rfl⟩ ⟨Nat.zero_le _, Nat.zero_le _⟩ rfl (Nat.le_of_ble_eq_true rfl) dX4_member_99 ?_
      have e : oMember s (nI pp) w0 = (nI (cntN (fun r => decide (tGet 8 (sB s) r 0 = pp ∧ tGet 8 (sB s) r 5 = 1)) (sB s).1)) := by unfold oMember; simp only [epp]; rw [if_pos h11, if_neg (by omega), if_neg (by omega), if_pos hs] <;> rfl
      exact j_endI (pc := 102) E dX4_member_102 (by rw [e]) rfl
    · refine j_swIn (pc := 17) X (off := 86) (tgt := 103) dX4_member_17 (by omega) (by omega) (by rw [hs]; rfl) (by decide) ?_
      refine j_aload_n (pc := 103) X dX4_member_103 rfl (q := 0) rfl ?_
      refine j_get (pc := 104) X (C := RX4) (T := TX4) (N := 6) wz_X4 0 rfl rfl 0 (by decide) wf_X4_12 rfl dX4_member_104 ?_
      refine j_get (pc := 107) X (C := RX1) (T := TX1) (N := 9) wz_X1 1 rfl rfl 2 (by decide) wf_X4_92 rfl dX4_member_107 ?_
      refine j_iconst (pc := 110) X (v := (nI 0)) dX4_member_110 (by decide) ?_
      refine j_iload_n (pc := 111) X dX4_member_111 rfl (q := 1) rfl ?_
      refine j_iconst (pc := 112) X (v := (nI 5)) dX4_member_112 (by decide) ?_
      refine j_iconst (pc := 113) X (v := (nI 2)) dX4_member_113 (by decide) ?_
      refine j_callVR (pc := 114) X (st := [])  (c_X2_countBoth l D tA (a 3) (a 8) 30 8 (sB s) 0 pp 5 2 (by decide) (by decide) (by omega) (by decide) (by decide) (fun r hr => by have := hw.b hr; omega) (by omega) (by decide) (fun r hr => by have := hw.b hr; omega) (by decide)) cd_X2_countBoth wm_X4_182 7 rfl rfl rfl [7, 8] rfl rfl ⟨Nat.le_of_ble_eq_true rfl, Nat.le_of_ble_eq_true rfl⟩ ⟨Nat.zero_le _, Nat.zero_le _⟩ rfl (Nat.le_of_ble_eq_true rfl) dX4_member_114 ?_
      have e : oMember s (nI pp) w0 = (nI (cntN (fun r => decide (tGet 8 (sB s) r 0 = pp ∧ tGet 8 (sB s) r 5 = 2)) (sB s).1)) := by unfold oMember; simp only [epp]; rw [if_pos h11, if_neg (by omega), if_neg (by omega), if_neg (by omega), if_pos hs] <;> rfl
      exact j_endI (pc := 117) E dX4_member_117 (by rw [e]) rfl
    · refine j_swIn (pc := 17) X (off := 101) (tgt := 118) dX4_member_17 (by omega) (by omega) (by rw [hs]; rfl) (by decide) ?_
      refine j_aload_n (pc := 118) X dX4_member_118 rfl (q := 0) rfl ?_
      refine j_get (pc := 119) X (C := RX4) (T := TX4) (N := 6) wz_X4 0 rfl rfl 0 (by decide) wf_X4_12 rfl dX4_member_119 ?_
      refine j_get (pc := 122) X (C := RX1) (T := TX1) (N := 9) wz_X1 1 rfl rfl 2 (by decide) wf_X4_92 rfl dX4_member_122 ?_
      refine j_iconst (pc := 125) X (v := (nI 0)) dX4_member_125 (by decide) ?_
      refine j_iload_n (pc := 126) X dX4_member_126 rfl (q := 1) rfl ?_
      refine j_iconst (pc := 127) X (v := (nI 5)) dX4_member_127 (by decide) ?_
      refine j_iconst (pc := 128) X (v := (nI 3)) dX4_member_128 (by decide) ?_
      refine j_callVR (pc := 129) X (st := [])  (c_X2_countBoth l D tA (a 3) (a 8) 30 8 (sB s) 0 pp 5 3 (by decide) (by decide) (by omega) (by decide) (by decide) (fun r hr => by have := hw.b hr; omega) (by omega) (by decide) (fun r hr => by have := hw.b hr; omega) (by decide)) cd_X2_countBoth wm_X4_182 7 rfl rfl rfl [7, 8] rfl rfl ⟨Nat.le_of_ble_eq_true rfl, Nat.le_of_ble_eq_true rfl⟩ ⟨Nat.zero_le _, Nat.zero_le _⟩ rfl (Nat.le_of_ble_eq_true rfl) dX4_member_129 ?_
      have e : oMember s (nI pp) w0 = (nI (cntN (fun r => decide (tGet 8 (sB s) r 0 = pp ∧ tGet 8 (sB s) r 5 = 3)) (sB s).1)) := by unfold oMember; simp only [epp]; rw [if_pos h11, if_neg (by omega), if_neg (by omega), if_neg (by omega), if_neg (by omega), if_pos hs] <;> rfl
      exact j_endI (pc := 132) E dX4_member_132 (by rw [e]) rfl
    · refine j_swIn (pc := 17) X (off := 116) (tgt := 133) dX4_member_17 (by omega) (by omega) (by rw [hs]; rfl) (by decide) ?_
      refine j_aload_n (pc := 133) X dX4_member_133 rfl (q := 0) rfl ?_
      refine j_get (pc := 134) X (C := RX4) (T := TX4) (N := 6) wz_X4 0 rfl rfl 0 (by decide) wf_X4_12 rfl dX4_member_134 ?_
      refine j_get (pc := 137) X (C := RX1) (T := TX1) (N := 9) wz_X1 1 rfl rfl 1 (by decide) wf_X4_62 rfl dX4_member_137 ?_
      refine j_iload_n (pc := 140) X dX4_member_140 rfl (q := 1) rfl ?_
      refine j_iconst (pc := 141) X (v := (nI 1)) dX4_member_141 (by decide) ?_
      refine j_callVR (pc := 142) X (st := [])  (c_X2_get l D tA (a 2) (a 7) 8 2 (sP s) pp 1 (by first | assumption | omega | decide) (by first | assumption | omega | decide) (by first | assumption | omega | decide) (by first | assumption | omega | decide) (by first | assumption | omega | decide) (by first | assumption | omega | decide)) cd_X2_get wm_X4_106 5 rfl rfl rfl [5, 6] rfl rfl ⟨Nat.le_of_ble_eq_true rfl, Nat.le_of_ble_eq_true rfl⟩ ⟨Nat.zero_le _, Nat.zero_le _⟩ rfl (Nat.le_of_ble_eq_true rfl) dX4_member_142 ?_
      have e : oMember s (nI pp) w0 = (nI (tGet 2 (sP s) pp 1)) := by unfold oMember; simp only [epp]; rw [if_pos h11, if_neg (by omega), if_neg (by omega), if_neg (by omega), if_neg (by omega), if_neg (by omega), if_pos hs] <;> rfl
      exact j_endI (pc := 145) E dX4_member_145 (by rw [e]) rfl
    · refine j_swIn (pc := 17) X (off := 129) (tgt := 146) dX4_member_17 (by omega) (by omega) (by rw [hs]; rfl) (by decide) ?_
      refine j_aload_n (pc := 146) X dX4_member_146 rfl (q := 0) rfl ?_
      refine j_get (pc := 147) X (C := RX4) (T := TX4) (N := 6) wz_X4 0 rfl rfl 0 (by decide) wf_X4_12 rfl dX4_member_147 ?_
      refine j_get (pc := 150) X (C := RX1) (T := TX1) (N := 9) wz_X1 1 rfl rfl 3 (by decide) wf_X4_122 rfl dX4_member_150 ?_
      refine j_iconst (pc := 153) X (v := (nI 0)) dX4_member_153 (by decide) ?_
      refine j_iload_n (pc := 154) X dX4_member_154 rfl (q := 1) rfl ?_
      refine j_callVR (pc := 155) X (st := [])  (c_X2_countOf l D tA (a 4) (a 9) 10 5 (sV s) 0 pp (by decide) (by decide) (by omega) (by decide) (by decide) (fun r hr => by have := hw.v hr; omega) (by omega)) cd_X2_countOf wm_X4_186 9 rfl rfl rfl [9, 10] rfl rfl ⟨Nat.le_of_ble_eq_true rfl, Nat.le_of_ble_eq_true rfl⟩ ⟨Nat.zero_le _, Nat.zero_le _⟩ rfl (Nat.le_of_ble_eq_true rfl) dX4_member_155 ?_
      have e : oMember s (nI pp) w0 = (nI (cntN (fun r => decide (tGet 5 (sV s) r 0 = pp)) (sV s).1)) := by unfold oMember; simp only [epp]; rw [if_pos h11, if_neg (by omega), if_neg (by omega), if_neg (by omega), if_neg (by omega), if_neg (by omega), if_neg (by omega), if_pos hs] <;> rfl
      exact j_endI (pc := 158) E dX4_member_158 (by rw [e]) rfl
  · skip
    skip
    refine j_iconst (pc := 14) X (v := (-1)) dX4_member_14 (by decide) ?_
    have e : oMember s p0 w0 = (-1) := by unfold oMember; rw [if_neg h11] <;> rfl
    exact j_endI (pc := 15) E dX4_member_15 (by rw [e]) rfl
theorem cd_X4_booking : kCardV yX4_booking cX4_booking 3 (some .int) 2 := ⟨⟨wc_X4_booking, wi_X4, by decide +kernel, by decide +kernel, rfl⟩, wk_X4_booking, ws_X4_booking⟩
set_option maxHeartbeats 4000000 in
set_option maxRecDepth 100000 in
theorem c_X4_booking (l : Launch) (D : va_G) (tA : Nat → ClassId) (c : Nat) (a b f h x : Nat → Nat) (k : Bool) (s : Sg) (b0 w0 : Int32) (hw : Wf s) : Kx l D tA yX4_booking cX4_booking 3 (some .int) 3 55 [.ref c, .int b0, .int w0] (clW c a b f h x k ++ (stW tA a s)) (some (.int (oBooking s b0 w0))) (clW c a b f h x k ++ (stW tA a s)) := by
  refine kx_int rfl (Nat.le_of_ble_eq_true rfl) (fun G X E => ?_)
  show J l D G 0 0 (clW c a b f h x k ++ (stW tA a s)) [(0, .ref c), (1, .int b0), (2, .int w0)] 0 []
  have hn := hw.n
  refine j_aload_n (pc := 0) X dX4_booking_0 rfl (q := 0) rfl ?_
  refine j_get (pc := 1) X (C := RX4) (T := TX4) (N := 6) wz_X4 0 rfl rfl 0 (by decide) wf_X4_12 rfl dX4_booking_1 ?_
  refine j_get (pc := 4) X (C := RX1) (T := TX1) (N := 9) wz_X1 1 rfl rfl 2 (by decide) wf_X4_92 rfl dX4_booking_4 ?_
  refine j_iload_n (pc := 7) X dX4_booking_7 rfl (q := 1) rfl ?_
  refine j_callVR (pc := 8) X (st := [])  (c_X2_has l D tA (a 3) (a 8) 30 8 (sB s) b0 (by first | assumption | omega | decide) (by first | assumption | omega | decide) (by first | assumption | omega | decide)) cd_X2_has wm_X4_81 7 rfl rfl rfl [7, 8] rfl rfl ⟨Nat.le_of_ble_eq_true rfl, Nat.le_of_ble_eq_true rfl⟩ ⟨Nat.zero_le _, Nat.zero_le _⟩ rfl (Nat.le_of_ble_eq_true rfl) dX4_booking_8 ?_
  refine j_if_ne (pc := 11) X (tgt := 16) (P := (inR b0 (sB s).1) = true) dX4_booking_11 (by decide) (bI_n0 _) (fun h11 => ?_) (fun h11 => ?_)
  · skip
    skip
    obtain ⟨bb, hc11, rfl⟩ := inR_t h11
    have ebb : tn (nI bb) = bb := tn_nI (by omega)
    refine j_iload_n (pc := 16) X dX4_booking_16 rfl (q := 2) rfl ?_
    refine j_bipush (pc := 17) X (v := (nI 8)) dX4_booking_17 (by decide) ?_
    refine j_icmp_ne (pc := 19) X (tgt := 31) (P := ¬ w0.toInt = ((8 : Nat) : Int)) dX4_booking_19 (by decide) (not_congr (iC_eqn (by omega))) (fun h19 => ?_) (fun h19 => ?_)
    · skip
      refine j_iload_n (pc := 31) X dX4_booking_31 rfl (q := 2) rfl ?_
      refine j_iconst (pc := 32) X (v := (nI 0)) dX4_booking_32 (by decide) ?_
      refine j_bipush (pc := 33) X (v := (nI 7)) dX4_booking_33 (by decide) ?_
      refine j_callSR (pc := 35) X (st := [])  (c_X4_isWithin l D tA w0 (nI 0) (nI 7) ) cd_X4_isWithin wm_X4_40 rfl [] rfl rfl ⟨Nat.le_of_ble_eq_true rfl, Nat.le_of_ble_eq_true rfl⟩ ⟨Nat.zero_le _, Nat.zero_le _⟩ rfl (Nat.le_of_ble_eq_true rfl) dX4_booking_35 ?_
      refine j_if_eq (pc := 38) X (tgt := 56) (P := (isW w0 (nI 0) (nI 7)) = false) dX4_booking_38 (by decide) (bI_0 _) (fun h38 => ?_) (fun h38 => ?_)
      · skip
        have h38 := nf5 h38
        refine j_bipush (pc := 56) X (v := (-2)) dX4_booking_56 (by decide) ?_
        have e : oBooking s (nI bb) w0 = (-2) := by unfold oBooking; simp only [ebb]; rw [if_pos h11, if_neg (by omega), if_neg h38] <;> rfl
        exact j_endI (pc := 58) E dX4_booking_58 (by rw [e]) rfl
      · skip
        have h38 := t5 h38
        obtain ⟨ww, hc38, rfl⟩ := isW_t (by omega) (by omega) h38
        have eww : tn (nI ww) = ww := tn_nI (by omega)
        refine j_aload_n (pc := 41) X dX4_booking_41 rfl (q := 0) rfl ?_
        refine j_get (pc := 42) X (C := RX4) (T := TX4) (N := 6) wz_X4 0 rfl rfl 0 (by decide) wf_X4_12 rfl dX4_booking_42 ?_
        refine j_get (pc := 45) X (C := RX1) (T := TX1) (N := 9) wz_X1 1 rfl rfl 2 (by decide) wf_X4_92 rfl dX4_booking_45 ?_
        refine j_iload_n (pc := 48) X dX4_booking_48 rfl (q := 1) rfl ?_
        refine j_iload_n (pc := 49) X dX4_booking_49 rfl (q := 2) rfl ?_
        refine j_callVR (pc := 50) X (st := [])  (c_X2_get l D tA (a 3) (a 8) 30 8 (sB s) bb ww (by first | assumption | omega | decide) (by first | assumption | omega | decide) (by first | assumption | omega | decide) (by first | assumption | omega | decide) (by first | assumption | omega | decide) (by first | assumption | omega | decide)) cd_X2_get wm_X4_106 7 rfl rfl rfl [7, 8] rfl rfl ⟨Nat.le_of_ble_eq_true rfl, Nat.le_of_ble_eq_true rfl⟩ ⟨Nat.zero_le _, Nat.zero_le _⟩ rfl (Nat.le_of_ble_eq_true rfl) dX4_booking_50 ?_
        refine j_goto (pc := 53) X (tgt := 58) dX4_booking_53 (by decide) ?_
        have e : oBooking s (nI bb) (nI ww) = (nI (tGet 8 (sB s) bb ww)) := by unfold oBooking; simp only [ebb, eww]; rw [if_pos h11, if_neg (by omega), if_pos h38] <;> rfl
        exact j_endI (pc := 58) E dX4_booking_58 (by rw [e]) rfl
    · skip
      refine j_aload_n (pc := 22) X dX4_booking_22 rfl (q := 0) rfl ?_
      refine j_get (pc := 23) X (C := RX4) (T := TX4) (N := 6) wz_X4 0 rfl rfl 0 (by decide) wf_X4_12 rfl dX4_booking_23 ?_
      refine j_iload_n (pc := 26) X dX4_booking_26 rfl (q := 1) rfl ?_
      refine j_callVR (pc := 27) X (st := [])  (c_X1_limitOf l D tA a s bb hw hc11) cd_X1_limitOf wm_X4_189 1 rfl rfl rfl [1, 2, 3, 4, 5, 6, 7, 8, 9, 10] rfl rfl ⟨Nat.le_of_ble_eq_true rfl, Nat.le_of_ble_eq_true rfl⟩ ⟨Nat.zero_le _, Nat.zero_le _⟩ rfl (Nat.le_of_ble_eq_true rfl) dX4_booking_27 ?_
      have e : oBooking s (nI bb) w0 = (nI (limO (sB s) bb)) := by unfold oBooking; simp only [ebb]; rw [if_pos h11, if_pos (by omega)] <;> rfl
      exact j_endI (pc := 30) E dX4_booking_30 (by rw [e]) rfl
  · skip
    skip
    refine j_iconst (pc := 14) X (v := (-1)) dX4_booking_14 (by decide) ?_
    have e : oBooking s b0 w0 = (-1) := by unfold oBooking; rw [if_neg h11] <;> rfl
    exact j_endI (pc := 15) E dX4_booking_15 (by rw [e]) rfl
theorem cd_X4_move : kCardV yX4_move cX4_move 3 (some .int) 2 := ⟨⟨wc_X4_move, wi_X4, by decide +kernel, by decide +kernel, rfl⟩, wk_X4_move, ws_X4_move⟩
set_option maxHeartbeats 4000000 in
set_option maxRecDepth 100000 in
theorem c_X4_move (l : Launch) (D : va_G) (tA : Nat → ClassId) (c : Nat) (a b f h x : Nat → Nat) (k : Bool) (s : Sg) (v0 w0 : Int32) (hw : Wf s) : Kx l D tA yX4_move cX4_move 3 (some .int) 1 23 [.ref c, .int v0, .int w0] (clW c a b f h x k ++ (stW tA a s)) (some (.int (oMove s v0 w0))) (clW c a b f h x k ++ (stW tA a s)) := by
  refine kx_int rfl (Nat.le_of_ble_eq_true rfl) (fun G X E => ?_)
  show J l D G 0 0 (clW c a b f h x k ++ (stW tA a s)) [(0, .ref c), (1, .int v0), (2, .int w0)] 0 []
  have hn := hw.n
  refine j_aload_n (pc := 0) X dX4_move_0 rfl (q := 0) rfl ?_
  refine j_get (pc := 1) X (C := RX4) (T := TX4) (N := 6) wz_X4 0 rfl rfl 0 (by decide) wf_X4_12 rfl dX4_move_1 ?_
  refine j_get (pc := 4) X (C := RX1) (T := TX1) (N := 9) wz_X1 1 rfl rfl 3 (by decide) wf_X4_122 rfl dX4_move_4 ?_
  refine j_iload_n (pc := 7) X dX4_move_7 rfl (q := 1) rfl ?_
  refine j_callVR (pc := 8) X (st := [])  (c_X2_has l D tA (a 4) (a 9) 10 5 (sV s) v0 (by first | assumption | omega | decide) (by first | assumption | omega | decide) (by first | assumption | omega | decide)) cd_X2_has wm_X4_81 9 rfl rfl rfl [9, 10] rfl rfl ⟨Nat.le_of_ble_eq_true rfl, Nat.le_of_ble_eq_true rfl⟩ ⟨Nat.zero_le _, Nat.zero_le _⟩ rfl (Nat.le_of_ble_eq_true rfl) dX4_move_8 ?_
  refine j_if_ne (pc := 11) X (tgt := 16) (P := (inR v0 (sV s).1) = true) dX4_move_11 (by decide) (bI_n0 _) (fun h11 => ?_) (fun h11 => ?_)
  · skip
    skip
    obtain ⟨vv, hc11, rfl⟩ := inR_t h11
    have evv : tn (nI vv) = vv := tn_nI (by omega)
    refine j_iload_n (pc := 16) X dX4_move_16 rfl (q := 2) rfl ?_
    refine j_iconst (pc := 17) X (v := (nI 0)) dX4_move_17 (by decide) ?_
    refine j_iconst (pc := 18) X (v := (nI 4)) dX4_move_18 (by decide) ?_
    refine j_callSR (pc := 19) X (st := [])  (c_X4_isWithin l D tA w0 (nI 0) (nI 4) ) cd_X4_isWithin wm_X4_40 rfl [] rfl rfl ⟨Nat.le_of_ble_eq_true rfl, Nat.le_of_ble_eq_true rfl⟩ ⟨Nat.zero_le _, Nat.zero_le _⟩ rfl (Nat.le_of_ble_eq_true rfl) dX4_move_19 ?_
    refine j_if_eq (pc := 22) X (tgt := 40) (P := (isW w0 (nI 0) (nI 4)) = false) dX4_move_22 (by decide) (bI_0 _) (fun h22 => ?_) (fun h22 => ?_)
    · skip
      have h22 := nf5 h22
      refine j_bipush (pc := 40) X (v := (-2)) dX4_move_40 (by decide) ?_
      have e : oMove s (nI vv) w0 = (-2) := by unfold oMove; simp only [evv]; rw [if_pos h11, if_neg h22] <;> rfl
      exact j_endI (pc := 42) E dX4_move_42 (by rw [e]) rfl
    · skip
      have h22 := t5 h22
      obtain ⟨ww, hc22, rfl⟩ := isW_t (by omega) (by omega) h22
      have eww : tn (nI ww) = ww := tn_nI (by omega)
      refine j_aload_n (pc := 25) X dX4_move_25 rfl (q := 0) rfl ?_
      refine j_get (pc := 26) X (C := RX4) (T := TX4) (N := 6) wz_X4 0 rfl rfl 0 (by decide) wf_X4_12 rfl dX4_move_26 ?_
      refine j_get (pc := 29) X (C := RX1) (T := TX1) (N := 9) wz_X1 1 rfl rfl 3 (by decide) wf_X4_122 rfl dX4_move_29 ?_
      refine j_iload_n (pc := 32) X dX4_move_32 rfl (q := 1) rfl ?_
      refine j_iload_n (pc := 33) X dX4_move_33 rfl (q := 2) rfl ?_
      refine j_callVR (pc := 34) X (st := [])  (c_X2_get l D tA (a 4) (a 9) 10 5 (sV s) vv ww (by first | assumption | omega | decide) (by first | assumption | omega | decide) (by first | assumption | omega | decide) (by first | assumption | omega | decide) (by first | assumption | omega | decide) (by first | assumption | omega | decide)) cd_X2_get wm_X4_106 9 rfl rfl rfl [9, 10] rfl rfl ⟨Nat.le_of_ble_eq_true rfl, Nat.le_of_ble_eq_true rfl⟩ ⟨Nat.zero_le _, Nat.zero_le _⟩ rfl (Nat.le_of_ble_eq_true rfl) dX4_move_34 ?_
      refine j_goto (pc := 37) X (tgt := 42) dX4_move_37 (by decide) ?_
      have e : oMove s (nI vv) (nI ww) = (nI (tGet 5 (sV s) vv ww)) := by unfold oMove; simp only [evv, eww]; rw [if_pos h11, if_pos h22] <;> rfl
      exact j_endI (pc := 42) E dX4_move_42 (by rw [e]) rfl
  · skip
    skip
    refine j_iconst (pc := 14) X (v := (-1)) dX4_move_14 (by decide) ?_
    have e : oMove s v0 w0 = (-1) := by unfold oMove; rw [if_neg h11] <;> rfl
    exact j_endI (pc := 15) E dX4_move_15 (by rw [e]) rfl
theorem cd_X4_bookedAt : kCardV yX4_bookedAt cX4_bookedAt 3 (some .int) 2 := ⟨⟨wc_X4_bookedAt, wi_X4, by decide +kernel, by decide +kernel, rfl⟩, wk_X4_bookedAt, ws_X4_bookedAt⟩
set_option maxHeartbeats 4000000 in
set_option maxRecDepth 100000 in
theorem c_X4_bookedAt (l : Launch) (D : va_G) (tA : Nat → ClassId) (c : Nat) (a b f h x : Nat → Nat) (k : Bool) (s : Sg) (m0 t0 : Int32) (hw : Wf s) : Kx l D tA yX4_bookedAt cX4_bookedAt 3 (some .int) 2 46 [.ref c, .int m0, .int t0] (clW c a b f h x k ++ (stW tA a s)) (some (.int (oBookedAt s m0 t0))) (clW c a b f h x k ++ (stW tA a s)) := by
  refine kx_int rfl (Nat.le_of_ble_eq_true rfl) (fun G X E => ?_)
  show J l D G 0 0 (clW c a b f h x k ++ (stW tA a s)) [(0, .ref c), (1, .int m0), (2, .int t0)] 0 []
  have hn := hw.n
  refine j_aload_n (pc := 0) X dX4_bookedAt_0 rfl (q := 0) rfl ?_
  refine j_get (pc := 1) X (C := RX4) (T := TX4) (N := 6) wz_X4 0 rfl rfl 0 (by decide) wf_X4_12 rfl dX4_bookedAt_1 ?_
  refine j_get (pc := 4) X (C := RX1) (T := TX1) (N := 9) wz_X1 1 rfl rfl 0 (by decide) wf_X4_44 rfl dX4_bookedAt_4 ?_
  refine j_iload_n (pc := 7) X dX4_bookedAt_7 rfl (q := 1) rfl ?_
  refine j_callVR (pc := 8) X (st := [])  (c_X2_has l D tA (a 1) (a 6) 5 3 (sM s) m0 (by first | assumption | omega | decide) (by first | assumption | omega | decide) (by first | assumption | omega | decide)) cd_X2_has wm_X4_81 3 rfl rfl rfl [3, 4] rfl rfl ⟨Nat.le_of_ble_eq_true rfl, Nat.le_of_ble_eq_true rfl⟩ ⟨Nat.zero_le _, Nat.zero_le _⟩ rfl (Nat.le_of_ble_eq_true rfl) dX4_bookedAt_8 ?_
  refine j_if_eq (pc := 11) X (tgt := 21) (P := (inR m0 (sM s).1) = false) dX4_bookedAt_11 (by decide) (bI_0 _) (fun h11 => ?_) (fun h11 => ?_)
  · skip
    have h11 := nf5 h11
    refine j_iconst (pc := 21) X (v := (-1)) dX4_bookedAt_21 (by decide) ?_
    have e : oBookedAt s m0 t0 = (-1) := by unfold oBookedAt; rw [if_neg (fun q => h11 q.1)] <;> rfl
    exact j_endI (pc := 22) E dX4_bookedAt_22 (by rw [e]) rfl
  · skip
    have h11 := t5 h11
    obtain ⟨mm, hc11, rfl⟩ := inR_t h11
    have emm : tn (nI mm) = mm := tn_nI (by omega)
    refine j_iload_n (pc := 14) X dX4_bookedAt_14 rfl (q := 2) rfl ?_
    refine j_callSR (pc := 15) X (st := [])  (c_X4_isHalfDay l D tA t0 ) cd_X4_isHalfDay wm_X4_192 rfl [] rfl rfl ⟨Nat.le_of_ble_eq_true rfl, Nat.le_of_ble_eq_true rfl⟩ ⟨Nat.zero_le _, Nat.zero_le _⟩ rfl (Nat.le_of_ble_eq_true rfl) dX4_bookedAt_15 ?_
    refine j_if_ne (pc := 18) X (tgt := 23) (P := (inR t0 200) = true) dX4_bookedAt_18 (by decide) (bI_n0 _) (fun h18 => ?_) (fun h18 => ?_)
    · skip
      skip
      obtain ⟨tt, hc18, rfl⟩ := inR_t h18
      have ett : tn (nI tt) = tt := tn_nI (by omega)
      refine j_aload_n (pc := 23) X dX4_bookedAt_23 rfl (q := 0) rfl ?_
      refine j_get (pc := 24) X (C := RX4) (T := TX4) (N := 6) wz_X4 0 rfl rfl 0 (by decide) wf_X4_12 rfl dX4_bookedAt_24 ?_
      refine j_iload_n (pc := 27) X dX4_bookedAt_27 rfl (q := 1) rfl ?_
      refine j_iload_n (pc := 28) X dX4_bookedAt_28 rfl (q := 2) rfl ?_
      refine j_callVR (pc := 29) X (st := [])  (c_X1_bookingFor l D tA a s mm tt hw (by omega) (by omega)) cd_X1_bookingFor wm_X4_195 1 rfl rfl rfl [1, 2, 3, 4, 5, 6, 7, 8, 9, 10] rfl rfl ⟨Nat.le_of_ble_eq_true rfl, Nat.le_of_ble_eq_true rfl⟩ ⟨Nat.zero_le _, Nat.zero_le _⟩ rfl (Nat.le_of_ble_eq_true rfl) dX4_bookedAt_29 ?_
      have e : oBookedAt s (nI mm) (nI tt) = (rO (bkF (sB s) mm tt)) := by unfold oBookedAt; simp only [emm, ett]; rw [if_pos ⟨h11, h18⟩] <;> rfl
      exact j_endI (pc := 32) E dX4_bookedAt_32 (by rw [e]) rfl
    · skip
      skip
      refine j_iconst (pc := 21) X (v := (-1)) dX4_bookedAt_21 (by decide) ?_
      have e : oBookedAt s (nI mm) t0 = (-1) := by unfold oBookedAt; simp only [emm]; rw [if_neg (fun q => h18 q.2)] <;> rfl
      exact j_endI (pc := 22) E dX4_bookedAt_22 (by rw [e]) rfl
theorem cd_X4_machineFor : kCardV yX4_machineFor cX4_machineFor 5 (some .int) 3 := ⟨⟨wc_X4_machineFor, wi_X4, by decide +kernel, by decide +kernel, rfl⟩, wk_X4_machineFor, ws_X4_machineFor⟩
set_option maxHeartbeats 4000000 in
set_option maxRecDepth 100000 in
theorem c_X4_machineFor (l : Launch) (D : va_G) (tA : Nat → ClassId) (c : Nat) (a b f h x : Nat → Nat) (k : Bool) (s : Sg) (t0 l0 r0 : Int32) (hw : Wf s) : Kx l D tA yX4_machineFor cX4_machineFor 5 (some .int) 3 72 [.ref c, .int t0, .int l0, .int r0] (clW c a b f h x k ++ (stW tA a s)) (some (.int (oMachineFor s t0 l0 r0))) (clW c a b f h x k ++ (stW tA a s)) := by
  refine kx_int rfl (Nat.le_of_ble_eq_true rfl) (fun G X E => ?_)
  show J l D G 0 0 (clW c a b f h x k ++ (stW tA a s)) [(0, .ref c), (1, .int t0), (2, .int l0), (3, .int r0)] 0 []
  have hn := hw.n
  refine j_aload_n (pc := 0) X dX4_machineFor_0 rfl (q := 0) rfl ?_
  refine j_get (pc := 1) X (C := RX4) (T := TX4) (N := 6) wz_X4 0 rfl rfl 0 (by decide) wf_X4_12 rfl dX4_machineFor_1 ?_
  refine j_iload_n (pc := 4) X dX4_machineFor_4 rfl (q := 1) rfl ?_
  refine j_callVR (pc := 5) X (st := [])  (c_X1_isToCome l D tA a s t0 (by first | assumption | omega | decide)) cd_X1_isToCome wm_X4_69 1 rfl rfl rfl [1, 2, 3, 4, 5, 6, 7, 8, 9, 10] rfl rfl ⟨Nat.le_of_ble_eq_true rfl, Nat.le_of_ble_eq_true rfl⟩ ⟨Nat.zero_le _, Nat.zero_le _⟩ rfl (Nat.le_of_ble_eq_true rfl) dX4_machineFor_5 ?_
  refine j_if_ne (pc := 8) X (tgt := 13) (P := (toCome s t0) = true) dX4_machineFor_8 (by decide) (bI_n0 _) (fun h8 => ?_) (fun h8 => ?_)
  · skip
    skip
    obtain ⟨tt, hc8, rfl⟩ := toCome_t h8
    have ett : tn (nI tt) = tt := tn_nI (by omega)
    refine j_iload_n (pc := 13) X dX4_machineFor_13 rfl (q := 2) rfl ?_
    refine j_iload_n (pc := 14) X dX4_machineFor_14 rfl (q := 3) rfl ?_
    refine j_callSR (pc := 15) X (st := [])  (c_X4_isLift l D tA l0 r0 ) cd_X4_isLift wm_X4_84 rfl [] rfl rfl ⟨Nat.le_of_ble_eq_true rfl, Nat.le_of_ble_eq_true rfl⟩ ⟨Nat.zero_le _, Nat.zero_le _⟩ rfl (Nat.le_of_ble_eq_true rfl) dX4_machineFor_15 ?_
    refine j_if_ne (pc := 18) X (tgt := 24) (P := (isLft l0 r0) = true) dX4_machineFor_18 (by decide) (bI_n0 _) (fun h18 => ?_) (fun h18 => ?_)
    · skip
      skip
      obtain ⟨ll, rr, hc18, rfl, rfl⟩ := isLft_t h18
      have ell : tn (nI ll) = ll := tn_nI (by omega)
      have err : tn (nI rr) = rr := tn_nI (by omega)
      refine j_iconst (pc := 24) X (v := (nI 0)) dX4_machineFor_24 (by decide) ?_
      refine j_istore (pc := 25) X (lv' := [(4, .int (nI 0)), (0, .ref c), (1, .int (nI tt)), (2, .int (nI ll)), (3, .int (nI rr))]) dX4_machineFor_25 (by decide) rfl ?_
      have L_27 : ∀ (fu : Nat) (i : Nat), i ≤ (sM s).1 → fndN (fun m => canT s m tt ll rr) i = none → (sM s).1 - i < fu → J l D G 0 0 (clW c a b f h x k ++ (stW tA a s)) [(0, .ref c), (1, .int (nI tt)), (2, .int (nI ll)), (3, .int (nI rr)), (4, .int (nI i))] 27 [] := by
        intro fu
        induction fu with
        | zero => intro i hi hk hfu; exact absurd hfu (Nat.not_lt_zero _)
        | succ fu ih_27 =>
          intro i hi hk hfu
          refine j_iload (pc := 27) X dX4_machineFor_27 (q := 4) rfl ?_
          refine j_aload_n (pc := 29) X dX4_machineFor_29 rfl (q := 0) rfl ?_
          refine j_get (pc := 30) X (C := RX4) (T := TX4) (N := 6) wz_X4 0 rfl rfl 0 (by decide) wf_X4_12 rfl dX4_machineFor_30 ?_
          refine j_get (pc := 33) X (C := RX1) (T := TX1) (N := 9) wz_X1 1 rfl rfl 0 (by decide) wf_X4_44 rfl dX4_machineFor_33 ?_
          refine j_callVR (pc := 36) X (st := [.int (nI i)])  (c_X2_size l D tA (a 1) (a 6) 5 3 (sM s)  ) cd_X2_size wm_X4_133 3 rfl rfl rfl [3, 4] rfl rfl ⟨Nat.le_of_ble_eq_true rfl, Nat.le_of_ble_eq_true rfl⟩ ⟨Nat.zero_le _, Nat.zero_le _⟩ rfl (Nat.le_of_ble_eq_true rfl) dX4_machineFor_36 ?_
          refine j_icmp_ge (pc := 39) X (tgt := 66) (P := ((sM s).1) ≤ i) dX4_machineFor_39 (by decide) (nI_leI (by omega) (by omega)) (fun h39 => ?_) (fun h39 => ?_)
          · skip
            refine j_bipush (pc := 66) X (v := (-5)) dX4_machineFor_66 (by decide) ?_
            have e : oMachineFor s (nI tt) (nI ll) (nI rr) = (-5) := by unfold oMachineFor; simp only [ett, ell, err]; rw [if_pos h8, if_pos h18, ← show i = (sM s).1 by omega, hk] <;> rfl
            exact j_endI (pc := 68) E dX4_machineFor_68 (by rw [e]) rfl
          · skip
            refine j_aload_n (pc := 42) X dX4_machineFor_42 rfl (q := 0) rfl ?_
            refine j_get (pc := 43) X (C := RX4) (T := TX4) (N := 6) wz_X4 0 rfl rfl 0 (by decide) wf_X4_12 rfl dX4_machineFor_43 ?_
            refine j_iload (pc := 46) X dX4_machineFor_46 (q := 4) rfl ?_
            refine j_iload_n (pc := 48) X dX4_machineFor_48 rfl (q := 1) rfl ?_
            refine j_iload_n (pc := 49) X dX4_machineFor_49 rfl (q := 2) rfl ?_
            refine j_iload_n (pc := 50) X dX4_machineFor_50 rfl (q := 3) rfl ?_
            refine j_callVR (pc := 51) X (st := [])  (c_X1_canTake l D tA a s i tt ll rr hw (by omega) (by omega) (by omega) (by omega)) cd_X1_canTake wm_X4_88 1 rfl rfl rfl [1, 2, 3, 4, 5, 6, 7, 8, 9, 10] rfl rfl ⟨Nat.le_of_ble_eq_true rfl, Nat.le_of_ble_eq_true rfl⟩ ⟨Nat.zero_le _, Nat.zero_le _⟩ rfl (Nat.le_of_ble_eq_true rfl) dX4_machineFor_51 ?_
            refine j_if_eq (pc := 54) X (tgt := 60) (P := (canT s i tt ll rr) = false) dX4_machineFor_54 (by decide) (bI_0 _) (fun h54 => ?_) (fun h54 => ?_)
            · skip
              have h54 := nf5 h54
              refine j_iinc (pc := 60) X (v := (nI (i + 1))) (lv' := [(4, .int (nI (i + 1))), (0, .ref c), (1, .int (nI tt)), (2, .int (nI ll)), (3, .int (nI rr))]) dX4_machineFor_60 (q := 4) rfl (nI_add _ _) (by decide) rfl ?_
              refine j_goto (pc := 63) X (tgt := 27) dX4_machineFor_63 (by decide) ?_
              refine j_lv X (lv' := [(0, .ref c), (1, .int (nI tt)), (2, .int (nI ll)), (3, .int (nI rr)), (4, .int (nI (i + 1)))]) [1, 2, 3, 4, 0] rfl ?_
              exact ih_27 (i + 1) (by omega) (fnd_no hk h54) (by omega)
            · skip
              have h54 := t5 h54
              refine j_iload (pc := 57) X dX4_machineFor_57 (q := 4) rfl ?_
              have e : oMachineFor s (nI tt) (nI ll) (nI rr) = (nI i) := by unfold oMachineFor; simp only [ett, ell, err]; rw [if_pos h8, if_pos h18, fnd_up (fnd_at hk h54) _ (by omega)] <;> rfl
              exact j_endI (pc := 59) E dX4_machineFor_59 (by rw [e]) rfl
      refine j_lv X (lv' := [(0, .ref c), (1, .int (nI tt)), (2, .int (nI ll)), (3, .int (nI rr)), (4, .int (nI 0))]) [1, 2, 3, 4, 0] rfl ?_
      exact L_27 _ 0 (Nat.zero_le _) rfl (Nat.lt_succ_self _)
    · skip
      skip
      refine j_bipush (pc := 21) X (v := (-2)) dX4_machineFor_21 (by decide) ?_
      have e : oMachineFor s (nI tt) l0 r0 = (-2) := by unfold oMachineFor; simp only [ett]; rw [if_pos h8, if_neg h18] <;> rfl
      exact j_endI (pc := 23) E dX4_machineFor_23 (by rw [e]) rfl
  · skip
    skip
    refine j_iconst (pc := 11) X (v := (-1)) dX4_machineFor_11 (by decide) ?_
    have e : oMachineFor s t0 l0 r0 = (-1) := by unfold oMachineFor; rw [if_neg h8] <;> rfl
    exact j_endI (pc := 12) E dX4_machineFor_12 (by rw [e]) rfl
theorem cd_X4_wind : kCardV yX4_wind cX4_wind 2 (some .int) 1 := ⟨⟨wc_X4_wind, wi_X4, by decide +kernel, by decide +kernel, rfl⟩, wk_X4_wind, ws_X4_wind⟩
set_option maxHeartbeats 4000000 in
set_option maxRecDepth 100000 in
theorem c_X4_wind (l : Launch) (D : va_G) (tA : Nat → ClassId) (c : Nat) (a b f h x : Nat → Nat) (k : Bool) (s : Sg) (t0 : Int32) (hw : Wf s) : Kx l D tA yX4_wind cX4_wind 2 (some .int) 2 42 [.ref c, .int t0] (clW c a b f h x k ++ (stW tA a s)) (some (.int (oWind s t0))) (clW c a b f h x k ++ (stW tA a s)) := by
  refine kx_int rfl (Nat.le_of_ble_eq_true rfl) (fun G X E => ?_)
  show J l D G 0 0 (clW c a b f h x k ++ (stW tA a s)) [(0, .ref c), (1, .int t0)] 0 []
  have hn := hw.n
  refine j_iload_n (pc := 0) X dX4_wind_0 rfl (q := 1) rfl ?_
  refine j_callSR (pc := 1) X (st := [])  (c_X4_isHalfDay l D tA t0 ) cd_X4_isHalfDay wm_X4_192 rfl [] rfl rfl ⟨Nat.le_of_ble_eq_true rfl, Nat.le_of_ble_eq_true rfl⟩ ⟨Nat.zero_le _, Nat.zero_le _⟩ rfl (Nat.le_of_ble_eq_true rfl) dX4_wind_1 ?_
  refine j_if_eq (pc := 4) X (tgt := 18) (P := (inR t0 200) = false) dX4_wind_4 (by decide) (bI_0 _) (fun h4 => ?_) (fun h4 => ?_)
  · skip
    have h4 := nf5 h4
    refine j_iconst (pc := 18) X (v := (-1)) dX4_wind_18 (by decide) ?_
    have e : oWind s t0 = (-1) := by unfold oWind; rw [if_neg h4] <;> rfl
    exact j_endI (pc := 19) E dX4_wind_19 (by rw [e]) rfl
  · skip
    have h4 := t5 h4
    obtain ⟨tt, hc4, rfl⟩ := inR_t h4
    have ett : tn (nI tt) = tt := tn_nI (by omega)
    refine j_aload_n (pc := 7) X dX4_wind_7 rfl (q := 0) rfl ?_
    refine j_get (pc := 8) X (C := RX4) (T := TX4) (N := 6) wz_X4 0 rfl rfl 0 (by decide) wf_X4_12 rfl dX4_wind_8 ?_
    refine j_iload_n (pc := 11) X dX4_wind_11 rfl (q := 1) rfl ?_
    refine j_callVR (pc := 12) X (st := [])  (c_X1_windAt l D tA a s tt (by first | assumption | omega | decide)) cd_X1_windAt wm_X4_73 1 rfl rfl rfl [1, 2, 3, 4, 5, 6, 7, 8, 9, 10] rfl rfl ⟨Nat.le_of_ble_eq_true rfl, Nat.le_of_ble_eq_true rfl⟩ ⟨Nat.zero_le _, Nat.zero_le _⟩ rfl (Nat.le_of_ble_eq_true rfl) dX4_wind_12 ?_
    refine j_goto (pc := 15) X (tgt := 19) dX4_wind_15 (by decide) ?_
    have e : oWind s (nI tt) = (nI ((sW s) tt)) := by unfold oWind; simp only [ett]; rw [if_pos h4] <;> rfl
    exact j_endI (pc := 19) E dX4_wind_19 (by rw [e]) rfl
theorem cd_X4_windLimit : kCardV yX4_windLimit cX4_windLimit 3 (some .int) 2 := ⟨⟨wc_X4_windLimit, wi_X4, by decide +kernel, by decide +kernel, rfl⟩, wk_X4_windLimit, ws_X4_windLimit⟩
set_option maxHeartbeats 4000000 in
set_option maxRecDepth 100000 in
theorem c_X4_windLimit (l : Launch) (D : va_G) (tA : Nat → ClassId) (c : Nat) (a b f h x : Nat → Nat) (k : Bool) (l0 r0 : Int32)  : Kx l D tA yX4_windLimit cX4_windLimit 3 (some .int) 3 63 [.ref c, .int l0, .int r0] (clW c a b f h x k) (some (.int (oLimit l0 r0))) (clW c a b f h x k) := by
  refine kx_int rfl (Nat.le_of_ble_eq_true rfl) (fun G X E => ?_)
  show J l D G 0 0 (clW c a b f h x k) [(0, .ref c), (1, .int l0), (2, .int r0)] 0 []
  refine j_iload_n (pc := 0) X dX4_windLimit_0 rfl (q := 1) rfl ?_
  refine j_iload_n (pc := 1) X dX4_windLimit_1 rfl (q := 2) rfl ?_
  refine j_callSR (pc := 2) X (st := [])  (c_X4_isLift l D tA l0 r0 ) cd_X4_isLift wm_X4_84 rfl [] rfl rfl ⟨Nat.le_of_ble_eq_true rfl, Nat.le_of_ble_eq_true rfl⟩ ⟨Nat.zero_le _, Nat.zero_le _⟩ rfl (Nat.le_of_ble_eq_true rfl) dX4_windLimit_2 ?_
  refine j_if_ne (pc := 5) X (tgt := 11) (P := (isLft l0 r0) = true) dX4_windLimit_5 (by decide) (bI_n0 _) (fun h5 => ?_) (fun h5 => ?_)
  · skip
    skip
    obtain ⟨ll, rr, hc5, rfl, rfl⟩ := isLft_t h5
    have ell : tn (nI ll) = ll := tn_nI (by omega)
    have err : tn (nI rr) = rr := tn_nI (by omega)
    refine j_iload_n (pc := 11) X dX4_windLimit_11 rfl (q := 1) rfl ?_
    refine j_iload_n (pc := 12) X dX4_windLimit_12 rfl (q := 2) rfl ?_
    refine j_callSR (pc := 13) X (st := [])  (c_X4_limitFor l D tA ll rr (by first | assumption | omega | decide) (by first | assumption | omega | decide)) cd_X4_limitFor wm_X4_179 rfl [] rfl rfl ⟨Nat.le_of_ble_eq_true rfl, Nat.le_of_ble_eq_true rfl⟩ ⟨Nat.zero_le _, Nat.zero_le _⟩ rfl (Nat.le_of_ble_eq_true rfl) dX4_windLimit_13 ?_
    have e : oLimit (nI ll) (nI rr) = (nI (limN ll rr)) := by unfold oLimit; simp only [ell, err]; rw [if_pos h5] <;> rfl
    exact j_endI (pc := 16) E dX4_windLimit_16 (by rw [e]) rfl
  · skip
    skip
    refine j_bipush (pc := 8) X (v := (-2)) dX4_windLimit_8 (by decide) ?_
    have e : oLimit l0 r0 = (-2) := by unfold oLimit; rw [if_neg h5] <;> rfl
    exact j_endI (pc := 10) E dX4_windLimit_10 (by rw [e]) rfl
theorem clM_M (s : Sg) (v : Nat) : (sM (clM s v)).1 = (sM s).1 ∧ (sP (clM s v)).1 = (sP s).1 := by
  unfold clM
  split <;> exact ⟨rfl, rfl⟩
theorem clo_M : ∀ (n : Nat) (s : Sg) (h : Nat), (sM (clo n s h)).1 = (sM s).1
  | 0, s, h => rfl
  | n + 1, s, h => by
    cases e : nxt (sV s) h with
    | none => rw [clo_none e]
    | some v => rw [clo_some e, clo_M n, (clM_M s v).1]
theorem cd_X4_undo : kCardV yX4_undo cX4_undo 1 (some .int) 0 := ⟨⟨wc_X4_undo, wi_X4, by decide +kernel, by decide +kernel, rfl⟩, wk_X4_undo, ws_X4_undo⟩
set_option maxHeartbeats 4000000 in
set_option maxRecDepth 100000 in
theorem c_X4_undo (l : Launch) (D : va_G) (tA : Nat → ClassId) (c : Nat) (a b f h x : Nat → Nat) (k : Bool) (s : Sg) (d : Nat → Nat → Nat) (v : Hs) (hw : Wf s) (hnx : v.2.1 < 4) (hsz : v.2.2 ≤ 4) (hh : ∀ i, Wf (v.1 i)) : Kx l D tA yX4_undo cX4_undo 1 (some .int) 4 83 [.ref c] (clW c a b f h x k ++ (stW tA a s ++ (hsW tA h d v))) (some (.int (if v.2.2 = 0 then (-5) else nI (v.2.2 - 1)))) (clW c a b f h x k ++ (stW tA a (if v.2.2 = 0 then s else v.1 (hLast v)) ++ (hsW tA h d (if v.2.2 = 0 then v else hPop v)))) := by
  refine kx_int rfl (Nat.le_of_ble_eq_true rfl) (fun G X E => ?_)
  show J l D G 0 0 (clW c a b f h x k ++ (stW tA a s ++ (hsW tA h d v))) [(0, .ref c)] 0 []
  refine j_aload_n (pc := 0) X dX4_undo_0 rfl (q := 0) rfl ?_
  refine j_get (pc := 1) X (C := RX4) (T := TX4) (N := 6) wz_X4 0 rfl rfl 3 (by decide) wf_X4_25 rfl dX4_undo_1 ?_
  refine j_callVR (pc := 4) X (st := [])  (c_X0_size l D tA h d v.2.1 v.2.2) cd_X0_size wm_X4_163 11 rfl rfl rfl [11, 12] rfl rfl ⟨Nat.le_of_ble_eq_true rfl, Nat.le_of_ble_eq_true rfl⟩ ⟨Nat.zero_le _, Nat.zero_le _⟩ rfl (Nat.le_of_ble_eq_true rfl) dX4_undo_4 ?_
  refine j_if_ne (pc := 7) X (tgt := 13) (P := ¬ v.2.2 = 0) dX4_undo_7 (by decide) (not_congr (nC_eq0 (by omega))) (fun h7 => ?_) (fun h7 => ?_)
  · skip
    refine j_aload_n (pc := 13) X dX4_undo_13 rfl (q := 0) rfl ?_
    refine j_get (pc := 14) X (C := RX4) (T := TX4) (N := 6) wz_X4 0 rfl rfl 3 (by decide) wf_X4_25 rfl dX4_undo_14 ?_
    refine j_aload_n (pc := 17) X dX4_undo_17 rfl (q := 0) rfl ?_
    refine j_get (pc := 18) X (C := RX4) (T := TX4) (N := 6) wz_X4 0 rfl rfl 0 (by decide) wf_X4_12 rfl dX4_undo_18 ?_
    refine j_callVB (pc := 21) X (st := []) (wr := (clW c a b f h x k)) (w' := (clW c a b f h x k ++ (stW tA a (v.1 (hLast v)) ++ (hsW tA h d (hPop v))))) (c_X0_popInto l D tA h d v a s hnx hsz (by omega) hh hw) cd_X0_popInto wm_X4_164 11 rfl rfl rfl [11, 12, 13, 14, 15, 16, 17, 18, 19, 20, 21, 22, 23, 24, 25, 26, 27, 28, 29, 30, 31, 32, 33, 34, 35, 36, 37, 38, 39, 40, 41, 42, 43, 44, 45, 46, 47, 48, 49, 50, 51, 52, 1, 2, 3, 4, 5, 6, 7, 8, 9, 10] rfl rfl [0] rfl rfl (fst_app (hs_fst.trans hs_fst.symm) (st_fst.trans st_fst.symm)) [52, 42, 43, 44, 45, 46, 47, 48, 49, 50, 51, 0, 1, 2, 3, 4, 5, 6, 7, 8, 9, 10, 11, 12, 13, 14, 15, 16, 17, 18, 19, 20, 21, 22, 23, 24, 25, 26, 27, 28, 29, 30, 31, 32, 33, 34, 35, 36, 37, 38, 39, 40, 41] rfl rfl ⟨Nat.le_of_ble_eq_true rfl, Nat.le_of_ble_eq_true rfl⟩ ⟨Nat.zero_le _, Nat.zero_le _⟩ rfl (Nat.le_of_ble_eq_true rfl) dX4_undo_21 ?_
    refine j_aload_n (pc := 24) X dX4_undo_24 rfl (q := 0) rfl ?_
    refine j_get (pc := 25) X (C := RX4) (T := TX4) (N := 6) wz_X4 0 rfl rfl 3 (by decide) wf_X4_25 rfl dX4_undo_25 ?_
    refine j_callVR (pc := 28) X (st := [])  (c_X0_size l D tA h d (hPop v).2.1 (hPop v).2.2) cd_X0_size wm_X4_163 11 rfl rfl rfl [11, 12] rfl rfl ⟨Nat.le_of_ble_eq_true rfl, Nat.le_of_ble_eq_true rfl⟩ ⟨Nat.zero_le _, Nat.zero_le _⟩ rfl (Nat.le_of_ble_eq_true rfl) dX4_undo_28 ?_
    exact j_endI (pc := 31) E dX4_undo_31 (by rw [if_neg h7]; rfl) (by rw [if_neg h7, if_neg h7])
  · skip
    refine j_bipush (pc := 10) X (v := (-5)) dX4_undo_10 (by decide) ?_
    exact j_endI (pc := 12) E dX4_undo_12 (by rw [if_pos (Decidable.not_not.mp h7)]) (by rw [if_pos (Decidable.not_not.mp h7), if_pos (Decidable.not_not.mp h7)])
theorem cd_X4_keep : kCardV yX4_keep cX4_keep 1 (some .int) 0 := ⟨⟨wc_X4_keep, wi_X4, by decide +kernel, by decide +kernel, rfl⟩, wk_X4_keep, ws_X4_keep⟩
set_option maxHeartbeats 4000000 in
set_option maxRecDepth 100000 in
theorem c_X4_keep (l : Launch) (D : va_G) (tA : Nat → ClassId) (c : Nat) (a b f h x : Nat → Nat) (k : Bool) (s s2 : Sg) (hw : Wf s) (hw2 : Wf s2) : Kx l D tA yX4_keep cX4_keep 1 (some .int) 3 60 [.ref c] (clW c a b f h x k ++ (stW tA a s ++ (stW tA b s2))) (some (.int (nI (sN s)))) (clW c a b f h x true ++ (stW tA a s ++ (stW tA b s))) := by
  refine kx_int rfl (Nat.le_of_ble_eq_true rfl) (fun G X E => ?_)
  show J l D G 0 0 (clW c a b f h x k ++ (stW tA a s ++ (stW tA b s2))) [(0, .ref c)] 0 []
  refine j_aload_n (pc := 0) X dX4_keep_0 rfl (q := 0) rfl ?_
  refine j_get (pc := 1) X (C := RX4) (T := TX4) (N := 6) wz_X4 0 rfl rfl 1 (by decide) wf_X4_16 rfl dX4_keep_1 ?_
  refine j_aload_n (pc := 4) X dX4_keep_4 rfl (q := 0) rfl ?_
  refine j_get (pc := 5) X (C := RX4) (T := TX4) (N := 6) wz_X4 0 rfl rfl 0 (by decide) wf_X4_12 rfl dX4_keep_5 ?_
  refine j_callVB (pc := 8) X (st := []) (wr := (clW c a b f h x k)) (w' := (clW c a b f h x k ++ (stW tA a s ++ (stW tA b s)))) (c_X1_copyFrom l D tA b s2 a s hw2 hw) cd_X1_copyFrom wm_X4_167 11 rfl rfl rfl [11, 12, 13, 14, 15, 16, 17, 18, 19, 20, 1, 2, 3, 4, 5, 6, 7, 8, 9, 10] rfl rfl [0] rfl rfl (fst_app (st_fst.trans st_fst.symm) rfl) [20, 10, 11, 12, 13, 14, 15, 16, 17, 18, 19, 0, 1, 2, 3, 4, 5, 6, 7, 8, 9] rfl rfl ⟨Nat.le_of_ble_eq_true rfl, Nat.le_of_ble_eq_true rfl⟩ ⟨Nat.zero_le _, Nat.zero_le _⟩ rfl (Nat.le_of_ble_eq_true rfl) dX4_keep_8 ?_
  refine j_aload_n (pc := 11) X dX4_keep_11 rfl (q := 0) rfl ?_
  refine j_iconst (pc := 12) X (v := (nI 1)) dX4_keep_12 (by decide) ?_
  refine j_put (pc := 13) X (C := RX4) (T := TX4) (N := 6) wz_X4 tyX4 tyX4_ok nmX4 0 rfl rfl 5 (by decide) wf_X4_36 rfl rfl rfl (Nat.le_of_ble_eq_true rfl) (w' := (clW c a b f h x true ++ (stW tA a s ++ (stW tA b s)))) rfl dX4_keep_13 ?_
  refine j_aload_n (pc := 16) X dX4_keep_16 rfl (q := 0) rfl ?_
  refine j_get (pc := 17) X (C := RX4) (T := TX4) (N := 6) wz_X4 0 rfl rfl 0 (by decide) wf_X4_12 rfl dX4_keep_17 ?_
  refine j_get (pc := 20) X (C := RX1) (T := TX1) (N := 9) wz_X1 1 rfl rfl 5 (by decide) wf_X4_109 rfl dX4_keep_20 ?_
  exact j_endI (pc := 23) E dX4_keep_23 rfl rfl
theorem cd_X4_restore : kCardV yX4_restore cX4_restore 1 (some .int) 0 := ⟨⟨wc_X4_restore, wi_X4, by decide +kernel, by decide +kernel, rfl⟩, wk_X4_restore, ws_X4_restore⟩
set_option maxHeartbeats 4000000 in
set_option maxRecDepth 100000 in
theorem c_X4_restore (l : Launch) (D : va_G) (tA : Nat → ClassId) (c : Nat) (a b f h x : Nat → Nat) (k : Bool) (s s2 : Sg) (d : Nat → Nat → Nat) (v : Hs) (hw : Wf s) (hnx : v.2.1 < 4) (hsz : v.2.2 ≤ 4) (hh : ∀ i, Wf (v.1 i)) (hw2 : Wf s2) : Kx l D tA yX4_restore cX4_restore 1 (some .int) 4 82 [.ref c] (clW c a b f h x k ++ (stW tA a s ++ (stW tA b s2 ++ (hsW tA h d v)))) (some (.int ((oRestore s s2 k).1))) (clW c a b f h x k ++ (stW tA a (aS s (oRestore s s2 k).2) ++ (stW tA b s2 ++ (hsW tA h d (aH v s (oRestore s s2 k).2))))) := by
  refine kx_int rfl (Nat.le_of_ble_eq_true rfl) (fun G X E => ?_)
  show J l D G 0 0 (clW c a b f h x k ++ (stW tA a s ++ (stW tA b s2 ++ (hsW tA h d v)))) [(0, .ref c)] 0 []
  refine j_aload_n (pc := 0) X dX4_restore_0 rfl (q := 0) rfl ?_
  refine j_get (pc := 1) X (C := RX4) (T := TX4) (N := 6) wz_X4 0 rfl rfl 5 (by decide) wf_X4_36 rfl dX4_restore_1 ?_
  refine j_if_ne (pc := 4) X (tgt := 10) (P := k = true) dX4_restore_4 (by decide) (bI_n0 _) (fun h4 => ?_) (fun h4 => ?_)
  · skip
    skip
    refine j_aload_n (pc := 10) X dX4_restore_10 rfl (q := 0) rfl ?_
    refine j_get (pc := 11) X (C := RX4) (T := TX4) (N := 6) wz_X4 0 rfl rfl 3 (by decide) wf_X4_25 rfl dX4_restore_11 ?_
    refine j_aload_n (pc := 14) X dX4_restore_14 rfl (q := 0) rfl ?_
    refine j_get (pc := 15) X (C := RX4) (T := TX4) (N := 6) wz_X4 0 rfl rfl 0 (by decide) wf_X4_12 rfl dX4_restore_15 ?_
    refine j_callVB (pc := 18) X (st := []) (wr := (clW c a b f h x k ++ (stW tA b s2))) (w' := (clW c a b f h x k ++ (stW tA a s ++ (stW tA b s2 ++ (hsW tA h d (hPush v s)))))) (c_X0_push l D tA h d v a s hnx hsz hh hw) cd_X0_push wm_X4_54 21 rfl rfl rfl [21, 22, 23, 24, 25, 26, 27, 28, 29, 30, 31, 32, 33, 34, 35, 36, 37, 38, 39, 40, 41, 42, 43, 44, 45, 46, 47, 48, 49, 50, 51, 52, 53, 54, 55, 56, 57, 58, 59, 60, 61, 62, 1, 2, 3, 4, 5, 6, 7, 8, 9, 10] rfl rfl [0, 11, 12, 13, 14, 15, 16, 17, 18, 19, 20] rfl rfl (fst_app (hs_fst.trans hs_fst.symm) (st_fst.trans st_fst.symm)) [52, 42, 43, 44, 45, 46, 47, 48, 49, 50, 51, 53, 54, 55, 56, 57, 58, 59, 60, 61, 62, 0, 1, 2, 3, 4, 5, 6, 7, 8, 9, 10, 11, 12, 13, 14, 15, 16, 17, 18, 19, 20, 21, 22, 23, 24, 25, 26, 27, 28, 29, 30, 31, 32, 33, 34, 35, 36, 37, 38, 39, 40, 41] rfl rfl ⟨Nat.le_of_ble_eq_true rfl, Nat.le_of_ble_eq_true rfl⟩ ⟨Nat.zero_le _, Nat.zero_le _⟩ rfl (Nat.le_of_ble_eq_true rfl) dX4_restore_18 ?_
    refine j_aload_n (pc := 21) X dX4_restore_21 rfl (q := 0) rfl ?_
    refine j_get (pc := 22) X (C := RX4) (T := TX4) (N := 6) wz_X4 0 rfl rfl 0 (by decide) wf_X4_12 rfl dX4_restore_22 ?_
    refine j_aload_n (pc := 25) X dX4_restore_25 rfl (q := 0) rfl ?_
    refine j_get (pc := 26) X (C := RX4) (T := TX4) (N := 6) wz_X4 0 rfl rfl 1 (by decide) wf_X4_16 rfl dX4_restore_26 ?_
    refine j_callVB (pc := 29) X (st := []) (wr := (clW c a b f h x k ++ (hsW tA h d (hPush v s)))) (w' := (clW c a b f h x k ++ (stW tA a s2 ++ (stW tA b s2 ++ (hsW tA h d (hPush v s)))))) (c_X1_copyFrom l D tA a s b s2 hw hw2) cd_X1_copyFrom wm_X4_167 1 rfl rfl rfl [1, 2, 3, 4, 5, 6, 7, 8, 9, 10, 11, 12, 13, 14, 15, 16, 17, 18, 19, 20] rfl rfl [0, 21, 22, 23, 24, 25, 26, 27, 28, 29, 30, 31, 32, 33, 34, 35, 36, 37, 38, 39, 40, 41, 42, 43, 44, 45, 46, 47, 48, 49, 50, 51, 52, 53, 54, 55, 56, 57, 58, 59, 60, 61, 62] rfl rfl (fst_app (st_fst.trans st_fst.symm) rfl) [20, 0, 1, 2, 3, 4, 5, 6, 7, 8, 9, 10, 11, 12, 13, 14, 15, 16, 17, 18, 19, 21, 22, 23, 24, 25, 26, 27, 28, 29, 30, 31, 32, 33, 34, 35, 36, 37, 38, 39, 40, 41, 42, 43, 44, 45, 46, 47, 48, 49, 50, 51, 52, 53, 54, 55, 56, 57, 58, 59, 60, 61, 62] rfl rfl ⟨Nat.le_of_ble_eq_true rfl, Nat.le_of_ble_eq_true rfl⟩ ⟨Nat.zero_le _, Nat.zero_le _⟩ rfl (Nat.le_of_ble_eq_true rfl) dX4_restore_29 ?_
    refine j_aload_n (pc := 32) X dX4_restore_32 rfl (q := 0) rfl ?_
    refine j_get (pc := 33) X (C := RX4) (T := TX4) (N := 6) wz_X4 0 rfl rfl 0 (by decide) wf_X4_12 rfl dX4_restore_33 ?_
    refine j_get (pc := 36) X (C := RX1) (T := TX1) (N := 9) wz_X1 1 rfl rfl 5 (by decide) wf_X4_109 rfl dX4_restore_36 ?_
    have e : oRestore s s2 k = (nI (sN s2), some s2) := by unfold oRestore; exact if_pos h4
    exact j_endI (pc := 39) E dX4_restore_39 (by rw [e]) (by rw [e]; rfl)
  · skip
    skip
    refine j_bipush (pc := 7) X (v := (-5)) dX4_restore_7 (by decide) ?_
    have e : oRestore s s2 k = (-5, none) := by unfold oRestore; exact if_neg h4
    exact j_endI (pc := 9) E dX4_restore_9 (by rw [e]) (by rw [e]; rfl)
theorem cd_X4_willBear : kCardV yX4_willBear cX4_willBear 4 (some .int) 3 := ⟨⟨wc_X4_willBear, wi_X4, by decide +kernel, by decide +kernel, rfl⟩, wk_X4_willBear, ws_X4_willBear⟩
set_option maxHeartbeats 4000000 in
set_option maxRecDepth 100000 in
theorem c_X4_willBear (l : Launch) (D : va_G) (tA : Nat → ClassId) (c : Nat) (a b f h x : Nat → Nat) (k : Bool) (s s3 : Sg) (m0 r0 t0 : Int32) (hw : Wf s) (hw3 : Wf s3) : Kx l D tA yX4_willBear cX4_willBear 4 (some .int) 5 117 [.ref c, .int m0, .int r0, .int t0] (clW c a b f h x k ++ (stW tA a s ++ (stW tA f s3))) (some (.int ((oWill s m0 r0 t0).1))) (clW c a b f h x k ++ (stW tA a s ++ (stW tA f (aS s3 (oWill s m0 r0 t0).2)))) := by
  refine kx_int rfl (Nat.le_of_ble_eq_true rfl) (fun G X E => ?_)
  show J l D G 0 0 (clW c a b f h x k ++ (stW tA a s ++ (stW tA f s3))) [(0, .ref c), (1, .int m0), (2, .int r0), (3, .int t0)] 0 []
  have hn := hw.n
  refine j_aload_n (pc := 0) X dX4_willBear_0 rfl (q := 0) rfl ?_
  refine j_get (pc := 1) X (C := RX4) (T := TX4) (N := 6) wz_X4 0 rfl rfl 0 (by decide) wf_X4_12 rfl dX4_willBear_1 ?_
  refine j_get (pc := 4) X (C := RX1) (T := TX1) (N := 9) wz_X1 1 rfl rfl 0 (by decide) wf_X4_44 rfl dX4_willBear_4 ?_
  refine j_iload_n (pc := 7) X dX4_willBear_7 rfl (q := 1) rfl ?_
  refine j_callVR (pc := 8) X (st := [])  (c_X2_has l D tA (a 1) (a 6) 5 3 (sM s) m0 (by first | assumption | omega | decide) (by first | assumption | omega | decide) (by first | assumption | omega | decide)) cd_X2_has wm_X4_81 3 rfl rfl rfl [3, 4] rfl rfl ⟨Nat.le_of_ble_eq_true rfl, Nat.le_of_ble_eq_true rfl⟩ ⟨Nat.zero_le _, Nat.zero_le _⟩ rfl (Nat.le_of_ble_eq_true rfl) dX4_willBear_8 ?_
  refine j_if_eq (pc := 11) X (tgt := 25) (P := (inR m0 (sM s).1) = false) dX4_willBear_11 (by decide) (bI_0 _) (fun h11 => ?_) (fun h11 => ?_)
  · skip
    have h11 := nf5 h11
    refine j_iconst (pc := 25) X (v := (-1)) dX4_willBear_25 (by decide) ?_
    have e : oWill s m0 r0 t0 = ((-1), none) := by unfold oWill; rw [if_neg (fun q => h11 q.1)] <;> rfl
    exact j_endI (pc := 26) E dX4_willBear_26 (by rw [e]) (by rw [e]; rfl)
  · skip
    have h11 := t5 h11
    obtain ⟨mm, hc11, rfl⟩ := inR_t h11
    have emm : tn (nI mm) = mm := tn_nI (by omega)
    refine j_aload_n (pc := 14) X dX4_willBear_14 rfl (q := 0) rfl ?_
    refine j_get (pc := 15) X (C := RX4) (T := TX4) (N := 6) wz_X4 0 rfl rfl 0 (by decide) wf_X4_12 rfl dX4_willBear_15 ?_
    refine j_iload_n (pc := 18) X dX4_willBear_18 rfl (q := 3) rfl ?_
    refine j_callVR (pc := 19) X (st := [])  (c_X1_isToCome l D tA a s t0 (by first | assumption | omega | decide)) cd_X1_isToCome wm_X4_69 1 rfl rfl rfl [1, 2, 3, 4, 5, 6, 7, 8, 9, 10] rfl rfl ⟨Nat.le_of_ble_eq_true rfl, Nat.le_of_ble_eq_true rfl⟩ ⟨Nat.zero_le _, Nat.zero_le _⟩ rfl (Nat.le_of_ble_eq_true rfl) dX4_willBear_19 ?_
    refine j_if_ne (pc := 22) X (tgt := 27) (P := (toCome s t0) = true) dX4_willBear_22 (by decide) (bI_n0 _) (fun h22 => ?_) (fun h22 => ?_)
    · skip
      skip
      obtain ⟨tt, hc22, rfl⟩ := toCome_t h22
      have ett : tn (nI tt) = tt := tn_nI (by omega)
      refine j_iload_n (pc := 27) X dX4_willBear_27 rfl (q := 2) rfl ?_
      refine j_callSR (pc := 28) X (st := [])  (c_X4_isRadius l D tA r0 ) cd_X4_isRadius wm_X4_170 rfl [] rfl rfl ⟨Nat.le_of_ble_eq_true rfl, Nat.le_of_ble_eq_true rfl⟩ ⟨Nat.zero_le _, Nat.zero_le _⟩ rfl (Nat.le_of_ble_eq_true rfl) dX4_willBear_28 ?_
      refine j_if_ne (pc := 31) X (tgt := 37) (P := (isRad r0) = true) dX4_willBear_31 (by decide) (bI_n0 _) (fun h31 => ?_) (fun h31 => ?_)
      · skip
        skip
        obtain ⟨rr, hc31, rfl⟩ := isRad_t h31
        have err : tn (nI rr) = rr := tn_nI (by omega)
        refine j_aload_n (pc := 37) X dX4_willBear_37 rfl (q := 0) rfl ?_
        refine j_get (pc := 38) X (C := RX4) (T := TX4) (N := 6) wz_X4 0 rfl rfl 2 (by decide) wf_X4_19 rfl dX4_willBear_38 ?_
        refine j_aload_n (pc := 41) X dX4_willBear_41 rfl (q := 0) rfl ?_
        refine j_get (pc := 42) X (C := RX4) (T := TX4) (N := 6) wz_X4 0 rfl rfl 0 (by decide) wf_X4_12 rfl dX4_willBear_42 ?_
        refine j_callVB (pc := 45) X (st := []) (wr := (clW c a b f h x k)) (w' := (clW c a b f h x k ++ (stW tA a s ++ (stW tA f s)))) (c_X1_copyFrom l D tA f s3 a s hw3 hw) cd_X1_copyFrom wm_X4_167 11 rfl rfl rfl [11, 12, 13, 14, 15, 16, 17, 18, 19, 20, 1, 2, 3, 4, 5, 6, 7, 8, 9, 10] rfl rfl [0] rfl rfl (fst_app (st_fst.trans st_fst.symm) rfl) [20, 10, 11, 12, 13, 14, 15, 16, 17, 18, 19, 0, 1, 2, 3, 4, 5, 6, 7, 8, 9] rfl rfl ⟨Nat.le_of_ble_eq_true rfl, Nat.le_of_ble_eq_true rfl⟩ ⟨Nat.zero_le _, Nat.zero_le _⟩ rfl (Nat.le_of_ble_eq_true rfl) dX4_willBear_45 ?_
        refine j_aload_n (pc := 48) X dX4_willBear_48 rfl (q := 0) rfl ?_
        refine j_get (pc := 49) X (C := RX4) (T := TX4) (N := 6) wz_X4 0 rfl rfl 2 (by decide) wf_X4_19 rfl dX4_willBear_49 ?_
        refine j_iload_n (pc := 52) X dX4_willBear_52 rfl (q := 3) rfl ?_
        refine j_callVB (pc := 53) X (st := []) (wr := (clW c a b f h x k ++ (stW tA a s))) (w' := (clW c a b f h x k ++ (stW tA a s ++ (stW tA f (clo 10 s tt))))) (c_X1_closeMovesUpTo l D tA f s tt hw (by omega)) cd_X1_closeMovesUpTo wm_X4_176 11 rfl rfl rfl [11, 12, 13, 14, 15, 16, 17, 18, 19, 20] rfl rfl [0, 1, 2, 3, 4, 5, 6, 7, 8, 9, 10] rfl rfl (st_fst.trans st_fst.symm) [10, 11, 12, 13, 14, 15, 16, 17, 18, 19, 20, 0, 1, 2, 3, 4, 5, 6, 7, 8, 9] rfl rfl ⟨Nat.le_of_ble_eq_true rfl, Nat.le_of_ble_eq_true rfl⟩ ⟨Nat.zero_le _, Nat.zero_le _⟩ rfl (Nat.le_of_ble_eq_true rfl) dX4_willBear_53 ?_
        refine j_aload_n (pc := 56) X dX4_willBear_56 rfl (q := 0) rfl ?_
        refine j_get (pc := 57) X (C := RX4) (T := TX4) (N := 6) wz_X4 0 rfl rfl 2 (by decide) wf_X4_19 rfl dX4_willBear_57 ?_
        refine j_iload_n (pc := 60) X dX4_willBear_60 rfl (q := 1) rfl ?_
        refine j_iload_n (pc := 61) X dX4_willBear_61 rfl (q := 2) rfl ?_
        refine j_callVR (pc := 62) X (st := [])  (c_X1_borneBy l D tA f (clo 10 s tt) mm rr (Wf.xclo 10 hw tt) (by rw [clo_M]; exact hc11) (by omega)) cd_X1_borneBy wm_X4_173 11 rfl rfl rfl [11, 12, 13, 14, 15, 16, 17, 18, 19, 20] rfl rfl ⟨Nat.le_of_ble_eq_true rfl, Nat.le_of_ble_eq_true rfl⟩ ⟨Nat.zero_le _, Nat.zero_le _⟩ rfl (Nat.le_of_ble_eq_true rfl) dX4_willBear_62 ?_
        have e : oWill s (nI mm) (nI rr) (nI tt) = ((nI (brn (sM (clo 10 s tt)) mm rr)), (some (clo 10 s tt))) := by unfold oWill; simp only [emm, ett, err]; rw [if_pos ⟨h11, h22⟩, if_pos h31] <;> rfl
        exact j_endI (pc := 65) E dX4_willBear_65 (by rw [e]) (by rw [e]; rfl)
      · skip
        skip
        refine j_bipush (pc := 34) X (v := (-2)) dX4_willBear_34 (by decide) ?_
        have e : oWill s (nI mm) r0 (nI tt) = ((-2), none) := by unfold oWill; simp only [emm, ett]; rw [if_pos ⟨h11, h22⟩, if_neg h31] <;> rfl
        exact j_endI (pc := 36) E dX4_willBear_36 (by rw [e]) (by rw [e]; rfl)
    · skip
      skip
      refine j_iconst (pc := 25) X (v := (-1)) dX4_willBear_25 (by decide) ?_
      have e : oWill s (nI mm) r0 t0 = ((-1), none) := by unfold oWill; simp only [emm]; rw [if_neg (fun q => h22 q.2)] <;> rfl
      exact j_endI (pc := 26) E dX4_willBear_26 (by rw [e]) (by rw [e]; rfl)
theorem cd_X4_fate : kCardV yX4_fate cX4_fate 2 (some .int) 1 := ⟨⟨wc_X4_fate, wi_X4, by decide +kernel, by decide +kernel, rfl⟩, wk_X4_fate, ws_X4_fate⟩
set_option maxHeartbeats 4000000 in
set_option maxRecDepth 100000 in
theorem c_X4_fate (l : Launch) (D : va_G) (tA : Nat → ClassId) (c : Nat) (a b f h x : Nat → Nat) (k : Bool) (s s3 : Sg) (b0 : Int32) (hw : Wf s) (hw3 : Wf s3) : Kx l D tA yX4_fate cX4_fate 2 (some .int) 5 117 [.ref c, .int b0] (clW c a b f h x k ++ (stW tA a s ++ (stW tA f s3))) (some (.int ((oFate s b0).1))) (clW c a b f h x k ++ (stW tA a s ++ (stW tA f (aS s3 (oFate s b0).2)))) := by
  refine kx_int rfl (Nat.le_of_ble_eq_true rfl) (fun G X E => ?_)
  show J l D G 0 0 (clW c a b f h x k ++ (stW tA a s ++ (stW tA f s3))) [(0, .ref c), (1, .int b0)] 0 []
  have hn := hw.n
  refine j_aload_n (pc := 0) X dX4_fate_0 rfl (q := 0) rfl ?_
  refine j_get (pc := 1) X (C := RX4) (T := TX4) (N := 6) wz_X4 0 rfl rfl 0 (by decide) wf_X4_12 rfl dX4_fate_1 ?_
  refine j_get (pc := 4) X (C := RX1) (T := TX1) (N := 9) wz_X1 1 rfl rfl 2 (by decide) wf_X4_92 rfl dX4_fate_4 ?_
  refine j_iload_n (pc := 7) X dX4_fate_7 rfl (q := 1) rfl ?_
  refine j_callVR (pc := 8) X (st := [])  (c_X2_has l D tA (a 3) (a 8) 30 8 (sB s) b0 (by first | assumption | omega | decide) (by first | assumption | omega | decide) (by first | assumption | omega | decide)) cd_X2_has wm_X4_81 7 rfl rfl rfl [7, 8] rfl rfl ⟨Nat.le_of_ble_eq_true rfl, Nat.le_of_ble_eq_true rfl⟩ ⟨Nat.zero_le _, Nat.zero_le _⟩ rfl (Nat.le_of_ble_eq_true rfl) dX4_fate_8 ?_
  refine j_if_ne (pc := 11) X (tgt := 16) (P := (inR b0 (sB s).1) = true) dX4_fate_11 (by decide) (bI_n0 _) (fun h11 => ?_) (fun h11 => ?_)
  · skip
    skip
    obtain ⟨bb, hc11, rfl⟩ := inR_t h11
    have ebb : tn (nI bb) = bb := tn_nI (by omega)
    have hb0 := hw.b hc11
    have hw4 := Wf.xclo 10 hw (tGet 8 (sB s) bb 2)
    have hb4 : bb < (sB (clo 10 s (tGet 8 (sB s) bb 2))).1 := by rw [(clo_B 10 s _).1]; exact hc11
    refine j_aload_n (pc := 16) X dX4_fate_16 rfl (q := 0) rfl ?_
    refine j_get (pc := 17) X (C := RX4) (T := TX4) (N := 6) wz_X4 0 rfl rfl 0 (by decide) wf_X4_12 rfl dX4_fate_17 ?_
    refine j_iload_n (pc := 20) X dX4_fate_20 rfl (q := 1) rfl ?_
    refine j_callVR (pc := 21) X (st := [])  (c_X1_isBooked l D tA a s bb (by first | assumption | omega | decide) (by first | assumption | omega | decide)) cd_X1_isBooked wm_X4_103 1 rfl rfl rfl [1, 2, 3, 4, 5, 6, 7, 8, 9, 10] rfl rfl ⟨Nat.le_of_ble_eq_true rfl, Nat.le_of_ble_eq_true rfl⟩ ⟨Nat.zero_le _, Nat.zero_le _⟩ rfl (Nat.le_of_ble_eq_true rfl) dX4_fate_21 ?_
    refine j_if_ne (pc := 24) X (tgt := 30) (P := (decide (tGet 8 (sB s) bb 5 = 0)) = true) dX4_fate_24 (by decide) (bI_n0 _) (fun h24 => ?_) (fun h24 => ?_)
    · skip
      skip
      have h24 : tGet 8 (sB s) bb 5 = 0 := by simpa using h24
      refine j_aload_n (pc := 30) X dX4_fate_30 rfl (q := 0) rfl ?_
      refine j_get (pc := 31) X (C := RX4) (T := TX4) (N := 6) wz_X4 0 rfl rfl 2 (by decide) wf_X4_19 rfl dX4_fate_31 ?_
      refine j_aload_n (pc := 34) X dX4_fate_34 rfl (q := 0) rfl ?_
      refine j_get (pc := 35) X (C := RX4) (T := TX4) (N := 6) wz_X4 0 rfl rfl 0 (by decide) wf_X4_12 rfl dX4_fate_35 ?_
      refine j_callVB (pc := 38) X (st := []) (wr := (clW c a b f h x k)) (w' := (clW c a b f h x k ++ (stW tA a s ++ (stW tA f s)))) (c_X1_copyFrom l D tA f s3 a s hw3 hw) cd_X1_copyFrom wm_X4_167 11 rfl rfl rfl [11, 12, 13, 14, 15, 16, 17, 18, 19, 20, 1, 2, 3, 4, 5, 6, 7, 8, 9, 10] rfl rfl [0] rfl rfl (fst_app (st_fst.trans st_fst.symm) rfl) [20, 10, 11, 12, 13, 14, 15, 16, 17, 18, 19, 0, 1, 2, 3, 4, 5, 6, 7, 8, 9] rfl rfl ⟨Nat.le_of_ble_eq_true rfl, Nat.le_of_ble_eq_true rfl⟩ ⟨Nat.zero_le _, Nat.zero_le _⟩ rfl (Nat.le_of_ble_eq_true rfl) dX4_fate_38 ?_
      refine j_aload_n (pc := 41) X dX4_fate_41 rfl (q := 0) rfl ?_
      refine j_get (pc := 42) X (C := RX4) (T := TX4) (N := 6) wz_X4 0 rfl rfl 2 (by decide) wf_X4_19 rfl dX4_fate_42 ?_
      refine j_aload_n (pc := 45) X dX4_fate_45 rfl (q := 0) rfl ?_
      refine j_get (pc := 46) X (C := RX4) (T := TX4) (N := 6) wz_X4 0 rfl rfl 0 (by decide) wf_X4_12 rfl dX4_fate_46 ?_
      refine j_get (pc := 49) X (C := RX1) (T := TX1) (N := 9) wz_X1 1 rfl rfl 2 (by decide) wf_X4_92 rfl dX4_fate_49 ?_
      refine j_iload_n (pc := 52) X dX4_fate_52 rfl (q := 1) rfl ?_
      refine j_iconst (pc := 53) X (v := (nI 2)) dX4_fate_53 (by decide) ?_
      refine j_callVR (pc := 54) X (st := [.ref (f 0)])  (c_X2_get l D tA (a 3) (a 8) 30 8 (sB s) bb 2 (by first | assumption | omega | decide) (by first | assumption | omega | decide) (by first | assumption | omega | decide) (by first | assumption | omega | decide) (by first | assumption | omega | decide) (by first | assumption | omega | decide)) cd_X2_get wm_X4_106 7 rfl rfl rfl [7, 8] rfl rfl ⟨Nat.le_of_ble_eq_true rfl, Nat.le_of_ble_eq_true rfl⟩ ⟨Nat.zero_le _, Nat.zero_le _⟩ rfl (Nat.le_of_ble_eq_true rfl) dX4_fate_54 ?_
      refine j_callVB (pc := 57) X (st := []) (wr := (clW c a b f h x k ++ (stW tA a s))) (w' := (clW c a b f h x k ++ (stW tA a s ++ (stW tA f (clo 10 s (tGet 8 (sB s) bb 2)))))) (c_X1_closeMovesUpTo l D tA f s (tGet 8 (sB s) bb 2) hw (by omega)) cd_X1_closeMovesUpTo wm_X4_176 11 rfl rfl rfl [11, 12, 13, 14, 15, 16, 17, 18, 19, 20] rfl rfl [0, 1, 2, 3, 4, 5, 6, 7, 8, 9, 10] rfl rfl (st_fst.trans st_fst.symm) [10, 11, 12, 13, 14, 15, 16, 17, 18, 19, 20, 0, 1, 2, 3, 4, 5, 6, 7, 8, 9] rfl rfl ⟨Nat.le_of_ble_eq_true rfl, Nat.le_of_ble_eq_true rfl⟩ ⟨Nat.zero_le _, Nat.zero_le _⟩ rfl (Nat.le_of_ble_eq_true rfl) dX4_fate_57 ?_
      refine j_aload_n (pc := 60) X dX4_fate_60 rfl (q := 0) rfl ?_
      refine j_get (pc := 61) X (C := RX4) (T := TX4) (N := 6) wz_X4 0 rfl rfl 2 (by decide) wf_X4_19 rfl dX4_fate_61 ?_
      refine j_iload_n (pc := 64) X dX4_fate_64 rfl (q := 1) rfl ?_
      refine j_callVR (pc := 65) X (st := [])  (c_X1_mustStandBy l D tA f (clo 10 s (tGet 8 (sB s) bb 2)) bb hw4 hb4) cd_X1_mustStandBy wm_X4_198 11 rfl rfl rfl [11, 12, 13, 14, 15, 16, 17, 18, 19, 20] rfl rfl ⟨Nat.le_of_ble_eq_true rfl, Nat.le_of_ble_eq_true rfl⟩ ⟨Nat.zero_le _, Nat.zero_le _⟩ rfl (Nat.le_of_ble_eq_true rfl) dX4_fate_65 ?_
      refine j_if_ne (pc := 68) X (tgt := 73) (P := (must (clo 10 s (tGet 8 (sB s) bb 2)) bb) = true) dX4_fate_68 (by decide) (bI_n0 _) (fun h68 => ?_) (fun h68 => ?_)
      · skip
        skip
        refine j_aload_n (pc := 73) X dX4_fate_73 rfl (q := 0) rfl ?_
        refine j_get (pc := 74) X (C := RX4) (T := TX4) (N := 6) wz_X4 0 rfl rfl 2 (by decide) wf_X4_19 rfl dX4_fate_74 ?_
        refine j_iload_n (pc := 77) X dX4_fate_77 rfl (q := 1) rfl ?_
        refine j_callVR (pc := 78) X (st := [])  (c_X1_causerOf l D tA f (clo 10 s (tGet 8 (sB s) bb 2)) bb hw4 hb4) cd_X1_causerOf wm_X4_201 11 rfl rfl rfl [11, 12, 13, 14, 15, 16, 17, 18, 19, 20] rfl rfl ⟨Nat.le_of_ble_eq_true rfl, Nat.le_of_ble_eq_true rfl⟩ ⟨Nat.zero_le _, Nat.zero_le _⟩ rfl (Nat.le_of_ble_eq_true rfl) dX4_fate_78 ?_
        refine j_bipush (pc := 81) X (v := (-5)) dX4_fate_81 (by decide) ?_
        refine j_icmp_ne (pc := 83) X (tgt := 90) (P := ¬ (caus (clo 10 s (tGet 8 (sB s) bb 2)) bb) = none) dX4_fate_83 (by decide) (not_congr (rO_none (fun p e => by have := caus_lt hw4 hb4 e; have := hw4.n; omega))) (fun h83 => ?_) (fun h83 => ?_)
        · skip
          refine j_iconst (pc := 90) X (v := (nI 1)) dX4_fate_90 (by decide) ?_
          have e : oFate s (nI bb) = ((nI 1), (some (clo 10 s (tGet 8 (sB s) bb 2)))) := by unfold oFate; simp only [ebb]; rw [if_pos h11, if_pos h24, fatN, if_pos h68, if_neg h83] <;> rfl
          exact j_endI (pc := 91) E dX4_fate_91 (by rw [e]) (by rw [e]; rfl)
        · skip
          refine j_iconst (pc := 86) X (v := (nI 2)) dX4_fate_86 (by decide) ?_
          refine j_goto (pc := 87) X (tgt := 91) dX4_fate_87 (by decide) ?_
          have e : oFate s (nI bb) = ((nI 2), (some (clo 10 s (tGet 8 (sB s) bb 2)))) := by unfold oFate; simp only [ebb]; rw [if_pos h11, if_pos h24, fatN, if_pos h68, if_pos (Decidable.not_not.mp h83)] <;> rfl
          exact j_endI (pc := 91) E dX4_fate_91 (by rw [e]) (by rw [e]; rfl)
      · skip
        skip
        refine j_iconst (pc := 71) X (v := (nI 0)) dX4_fate_71 (by decide) ?_
        have e : oFate s (nI bb) = ((nI 0), (some (clo 10 s (tGet 8 (sB s) bb 2)))) := by unfold oFate; simp only [ebb]; rw [if_pos h11, if_pos h24, fatN, if_neg h68] <;> rfl
        exact j_endI (pc := 72) E dX4_fate_72 (by rw [e]) (by rw [e]; rfl)
    · skip
      skip
      have h24 : ¬ tGet 8 (sB s) bb 5 = 0 := by simpa using h24
      refine j_bipush (pc := 27) X (v := (-4)) dX4_fate_27 (by decide) ?_
      have e : oFate s (nI bb) = ((-4), none) := by unfold oFate; simp only [ebb]; rw [if_pos h11, if_neg h24] <;> rfl
      exact j_endI (pc := 29) E dX4_fate_29 (by rw [e]) (by rw [e]; rfl)
  · skip
    skip
    refine j_iconst (pc := 14) X (v := (-1)) dX4_fate_14 (by decide) ?_
    have e : oFate s b0 = ((-1), none) := by unfold oFate; rw [if_neg h11] <;> rfl
    exact j_endI (pc := 15) E dX4_fate_15 (by rw [e]) (by rw [e]; rfl)
theorem cd_X4_count : kCardV yX4_count cX4_count 2 (some .int) 1 := ⟨⟨wc_X4_count, wi_X4, by decide +kernel, by decide +kernel, rfl⟩, wk_X4_count, ws_X4_count⟩
set_option maxHeartbeats 4000000 in
set_option maxRecDepth 100000 in
theorem c_X4_count (l : Launch) (D : va_G) (tA : Nat → ClassId) (c : Nat) (a b f h x : Nat → Nat) (k : Bool) (s : Sg) (d : Nat → Nat → Nat) (v : Hs) (ch : Nat → Nat) (len p : Nat) (t : Tb) (w0 : Int32) (hw : Wf s) : Kx l D tA yX4_count cX4_count 2 (some .int) 2 47 [.ref c, .int w0] (clW c a b f h x k ++ (stW tA a s ++ (hsW tA h d v ++ (txW tA x ch len p t)))) (some (.int (oCount s v.2.2 len w0))) (clW c a b f h x k ++ (stW tA a s ++ (hsW tA h d v ++ (txW tA x ch len p t)))) := by
  refine kx_int rfl (Nat.le_of_ble_eq_true rfl) (fun G X E => ?_)
  show J l D G 0 0 (clW c a b f h x k ++ (stW tA a s ++ (hsW tA h d v ++ (txW tA x ch len p t)))) [(0, .ref c), (1, .int w0)] 0 []
  have hn := hw.n
  refine j_iload_n (pc := 0) X dX4_count_0 rfl (q := 1) rfl ?_
  rcases Decidable.em (w0.toInt < 0 ∨ 16 < w0.toInt) with hs | hs
  · refine j_swOut (pc := 1) X (tgt := 264) dX4_count_1 hs (by decide) ?_
    refine j_bipush (pc := 264) X (v := (-2)) dX4_count_264 (by decide) ?_
    have e : oCount s v.2.2 len w0 = (-2) := by unfold oCount; rw [if_neg (by omega), if_neg (by omega), if_neg (by omega), if_neg (by omega), if_neg (by omega), if_neg (by omega), if_neg (by omega), if_neg (by omega), if_neg (by omega), if_neg (by omega), if_neg (by omega), if_neg (by omega), if_neg (by omega), if_neg (by omega), if_neg (by omega), if_neg (by omega), if_neg (by omega)] <;> rfl
    exact j_endI (pc := 266) E dX4_count_266 (by rw [e]) rfl
  have hs : w0.toInt = 0 ∨ w0.toInt = 1 ∨ w0.toInt = 2 ∨ w0.toInt = 3 ∨ w0.toInt = 4 ∨ w0.toInt = 5 ∨ w0.toInt = 6 ∨ w0.toInt = 7 ∨ w0.toInt = 8 ∨ w0.toInt = 9 ∨ w0.toInt = 10 ∨ w0.toInt = 11 ∨ w0.toInt = 12 ∨ w0.toInt = 13 ∨ w0.toInt = 14 ∨ w0.toInt = 15 ∨ w0.toInt = 16 := by omega
  rcases hs with hs | hs | hs | hs | hs | hs | hs | hs | hs | hs | hs | hs | hs | hs | hs | hs | hs
  · refine j_swIn (pc := 1) X (off := 83) (tgt := 84) dX4_count_1 (by omega) (by omega) (by rw [hs]; rfl) (by decide) ?_
    refine j_aload_n (pc := 84) X dX4_count_84 rfl (q := 0) rfl ?_
    refine j_get (pc := 85) X (C := RX4) (T := TX4) (N := 6) wz_X4 0 rfl rfl 0 (by decide) wf_X4_12 rfl dX4_count_85 ?_
    refine j_get (pc := 88) X (C := RX1) (T := TX1) (N := 9) wz_X1 1 rfl rfl 5 (by decide) wf_X4_109 rfl dX4_count_88 ?_
    have e : oCount s v.2.2 len w0 = (nI (sN s)) := by unfold oCount; rw [if_pos hs] <;> rfl
    exact j_endI (pc := 91) E dX4_count_91 (by rw [e]) rfl
  · refine j_swIn (pc := 1) X (off := 91) (tgt := 92) dX4_count_1 (by omega) (by omega) (by rw [hs]; rfl) (by decide) ?_
    refine j_aload_n (pc := 92) X dX4_count_92 rfl (q := 0) rfl ?_
    refine j_get (pc := 93) X (C := RX4) (T := TX4) (N := 6) wz_X4 0 rfl rfl 0 (by decide) wf_X4_12 rfl dX4_count_93 ?_
    refine j_get (pc := 96) X (C := RX1) (T := TX1) (N := 9) wz_X1 1 rfl rfl 0 (by decide) wf_X4_44 rfl dX4_count_96 ?_
    refine j_callVR (pc := 99) X (st := [])  (c_X2_size l D tA (a 1) (a 6) 5 3 (sM s)  ) cd_X2_size wm_X4_133 3 rfl rfl rfl [3, 4] rfl rfl ⟨Nat.le_of_ble_eq_true rfl, Nat.le_of_ble_eq_true rfl⟩ ⟨Nat.zero_le _, Nat.zero_le _⟩ rfl (Nat.le_of_ble_eq_true rfl) dX4_count_99 ?_
    have e : oCount s v.2.2 len w0 = (nI ((sM s).1)) := by unfold oCount; rw [if_neg (by omega), if_pos hs] <;> rfl
    exact j_endI (pc := 102) E dX4_count_102 (by rw [e]) rfl
  · refine j_swIn (pc := 1) X (off := 102) (tgt := 103) dX4_count_1 (by omega) (by omega) (by rw [hs]; rfl) (by decide) ?_
    refine j_aload_n (pc := 103) X dX4_count_103 rfl (q := 0) rfl ?_
    refine j_get (pc := 104) X (C := RX4) (T := TX4) (N := 6) wz_X4 0 rfl rfl 0 (by decide) wf_X4_12 rfl dX4_count_104 ?_
    refine j_get (pc := 107) X (C := RX1) (T := TX1) (N := 9) wz_X1 1 rfl rfl 1 (by decide) wf_X4_62 rfl dX4_count_107 ?_
    refine j_callVR (pc := 110) X (st := [])  (c_X2_size l D tA (a 2) (a 7) 8 2 (sP s)  ) cd_X2_size wm_X4_133 5 rfl rfl rfl [5, 6] rfl rfl ⟨Nat.le_of_ble_eq_true rfl, Nat.le_of_ble_eq_true rfl⟩ ⟨Nat.zero_le _, Nat.zero_le _⟩ rfl (Nat.le_of_ble_eq_true rfl) dX4_count_110 ?_
    have e : oCount s v.2.2 len w0 = (nI ((sP s).1)) := by unfold oCount; rw [if_neg (by omega), if_neg (by omega), if_pos hs] <;> rfl
    exact j_endI (pc := 113) E dX4_count_113 (by rw [e]) rfl
  · refine j_swIn (pc := 1) X (off := 113) (tgt := 114) dX4_count_1 (by omega) (by omega) (by rw [hs]; rfl) (by decide) ?_
    refine j_aload_n (pc := 114) X dX4_count_114 rfl (q := 0) rfl ?_
    refine j_get (pc := 115) X (C := RX4) (T := TX4) (N := 6) wz_X4 0 rfl rfl 0 (by decide) wf_X4_12 rfl dX4_count_115 ?_
    refine j_get (pc := 118) X (C := RX1) (T := TX1) (N := 9) wz_X1 1 rfl rfl 2 (by decide) wf_X4_92 rfl dX4_count_118 ?_
    refine j_callVR (pc := 121) X (st := [])  (c_X2_size l D tA (a 3) (a 8) 30 8 (sB s)  ) cd_X2_size wm_X4_133 7 rfl rfl rfl [7, 8] rfl rfl ⟨Nat.le_of_ble_eq_true rfl, Nat.le_of_ble_eq_true rfl⟩ ⟨Nat.zero_le _, Nat.zero_le _⟩ rfl (Nat.le_of_ble_eq_true rfl) dX4_count_121 ?_
    have e : oCount s v.2.2 len w0 = (nI ((sB s).1)) := by unfold oCount; rw [if_neg (by omega), if_neg (by omega), if_neg (by omega), if_pos hs] <;> rfl
    exact j_endI (pc := 124) E dX4_count_124 (by rw [e]) rfl
  · refine j_swIn (pc := 1) X (off := 124) (tgt := 125) dX4_count_1 (by omega) (by omega) (by rw [hs]; rfl) (by decide) ?_
    refine j_aload_n (pc := 125) X dX4_count_125 rfl (q := 0) rfl ?_
    refine j_get (pc := 126) X (C := RX4) (T := TX4) (N := 6) wz_X4 0 rfl rfl 0 (by decide) wf_X4_12 rfl dX4_count_126 ?_
    refine j_get (pc := 129) X (C := RX1) (T := TX1) (N := 9) wz_X1 1 rfl rfl 2 (by decide) wf_X4_92 rfl dX4_count_129 ?_
    refine j_iconst (pc := 132) X (v := (nI 5)) dX4_count_132 (by decide) ?_
    refine j_iconst (pc := 133) X (v := (nI 0)) dX4_count_133 (by decide) ?_
    refine j_callVR (pc := 134) X (st := [])  (c_X2_countOf l D tA (a 3) (a 8) 30 8 (sB s) 5 0 (by decide) (by decide) (by omega) (by decide) (by decide) (fun r hr => by have := hw.b hr; omega) (by decide)) cd_X2_countOf wm_X4_186 7 rfl rfl rfl [7, 8] rfl rfl ⟨Nat.le_of_ble_eq_true rfl, Nat.le_of_ble_eq_true rfl⟩ ⟨Nat.zero_le _, Nat.zero_le _⟩ rfl (Nat.le_of_ble_eq_true rfl) dX4_count_134 ?_
    have e : oCount s v.2.2 len w0 = (nI (cntN (fun r => decide (tGet 8 (sB s) r 5 = 0)) (sB s).1)) := by unfold oCount; rw [if_neg (by omega), if_neg (by omega), if_neg (by omega), if_neg (by omega), if_pos hs] <;> rfl
    exact j_endI (pc := 137) E dX4_count_137 (by rw [e]) rfl
  · refine j_swIn (pc := 1) X (off := 137) (tgt := 138) dX4_count_1 (by omega) (by omega) (by rw [hs]; rfl) (by decide) ?_
    refine j_aload_n (pc := 138) X dX4_count_138 rfl (q := 0) rfl ?_
    refine j_get (pc := 139) X (C := RX4) (T := TX4) (N := 6) wz_X4 0 rfl rfl 0 (by decide) wf_X4_12 rfl dX4_count_139 ?_
    refine j_get (pc := 142) X (C := RX1) (T := TX1) (N := 9) wz_X1 1 rfl rfl 2 (by decide) wf_X4_92 rfl dX4_count_142 ?_
    refine j_iconst (pc := 145) X (v := (nI 5)) dX4_count_145 (by decide) ?_
    refine j_iconst (pc := 146) X (v := (nI 1)) dX4_count_146 (by decide) ?_
    refine j_callVR (pc := 147) X (st := [])  (c_X2_countOf l D tA (a 3) (a 8) 30 8 (sB s) 5 1 (by decide) (by decide) (by omega) (by decide) (by decide) (fun r hr => by have := hw.b hr; omega) (by decide)) cd_X2_countOf wm_X4_186 7 rfl rfl rfl [7, 8] rfl rfl ⟨Nat.le_of_ble_eq_true rfl, Nat.le_of_ble_eq_true rfl⟩ ⟨Nat.zero_le _, Nat.zero_le _⟩ rfl (Nat.le_of_ble_eq_true rfl) dX4_count_147 ?_
    have e : oCount s v.2.2 len w0 = (nI (cntN (fun r => decide (tGet 8 (sB s) r 5 = 1)) (sB s).1)) := by unfold oCount; rw [if_neg (by omega), if_neg (by omega), if_neg (by omega), if_neg (by omega), if_neg (by omega), if_pos hs] <;> rfl
    exact j_endI (pc := 150) E dX4_count_150 (by rw [e]) rfl
  · refine j_swIn (pc := 1) X (off := 150) (tgt := 151) dX4_count_1 (by omega) (by omega) (by rw [hs]; rfl) (by decide) ?_
    refine j_aload_n (pc := 151) X dX4_count_151 rfl (q := 0) rfl ?_
    refine j_get (pc := 152) X (C := RX4) (T := TX4) (N := 6) wz_X4 0 rfl rfl 0 (by decide) wf_X4_12 rfl dX4_count_152 ?_
    refine j_get (pc := 155) X (C := RX1) (T := TX1) (N := 9) wz_X1 1 rfl rfl 2 (by decide) wf_X4_92 rfl dX4_count_155 ?_
    refine j_iconst (pc := 158) X (v := (nI 5)) dX4_count_158 (by decide) ?_
    refine j_iconst (pc := 159) X (v := (nI 2)) dX4_count_159 (by decide) ?_
    refine j_callVR (pc := 160) X (st := [])  (c_X2_countOf l D tA (a 3) (a 8) 30 8 (sB s) 5 2 (by decide) (by decide) (by omega) (by decide) (by decide) (fun r hr => by have := hw.b hr; omega) (by decide)) cd_X2_countOf wm_X4_186 7 rfl rfl rfl [7, 8] rfl rfl ⟨Nat.le_of_ble_eq_true rfl, Nat.le_of_ble_eq_true rfl⟩ ⟨Nat.zero_le _, Nat.zero_le _⟩ rfl (Nat.le_of_ble_eq_true rfl) dX4_count_160 ?_
    have e : oCount s v.2.2 len w0 = (nI (cntN (fun r => decide (tGet 8 (sB s) r 5 = 2)) (sB s).1)) := by unfold oCount; rw [if_neg (by omega), if_neg (by omega), if_neg (by omega), if_neg (by omega), if_neg (by omega), if_neg (by omega), if_pos hs] <;> rfl
    exact j_endI (pc := 163) E dX4_count_163 (by rw [e]) rfl
  · refine j_swIn (pc := 1) X (off := 163) (tgt := 164) dX4_count_1 (by omega) (by omega) (by rw [hs]; rfl) (by decide) ?_
    refine j_aload_n (pc := 164) X dX4_count_164 rfl (q := 0) rfl ?_
    refine j_get (pc := 165) X (C := RX4) (T := TX4) (N := 6) wz_X4 0 rfl rfl 0 (by decide) wf_X4_12 rfl dX4_count_165 ?_
    refine j_get (pc := 168) X (C := RX1) (T := TX1) (N := 9) wz_X1 1 rfl rfl 2 (by decide) wf_X4_92 rfl dX4_count_168 ?_
    refine j_iconst (pc := 171) X (v := (nI 5)) dX4_count_171 (by decide) ?_
    refine j_iconst (pc := 172) X (v := (nI 3)) dX4_count_172 (by decide) ?_
    refine j_callVR (pc := 173) X (st := [])  (c_X2_countOf l D tA (a 3) (a 8) 30 8 (sB s) 5 3 (by decide) (by decide) (by omega) (by decide) (by decide) (fun r hr => by have := hw.b hr; omega) (by decide)) cd_X2_countOf wm_X4_186 7 rfl rfl rfl [7, 8] rfl rfl ⟨Nat.le_of_ble_eq_true rfl, Nat.le_of_ble_eq_true rfl⟩ ⟨Nat.zero_le _, Nat.zero_le _⟩ rfl (Nat.le_of_ble_eq_true rfl) dX4_count_173 ?_
    have e : oCount s v.2.2 len w0 = (nI (cntN (fun r => decide (tGet 8 (sB s) r 5 = 3)) (sB s).1)) := by unfold oCount; rw [if_neg (by omega), if_neg (by omega), if_neg (by omega), if_neg (by omega), if_neg (by omega), if_neg (by omega), if_neg (by omega), if_pos hs] <;> rfl
    exact j_endI (pc := 176) E dX4_count_176 (by rw [e]) rfl
  · refine j_swIn (pc := 1) X (off := 176) (tgt := 177) dX4_count_1 (by omega) (by omega) (by rw [hs]; rfl) (by decide) ?_
    refine j_aload_n (pc := 177) X dX4_count_177 rfl (q := 0) rfl ?_
    refine j_get (pc := 178) X (C := RX4) (T := TX4) (N := 6) wz_X4 0 rfl rfl 0 (by decide) wf_X4_12 rfl dX4_count_178 ?_
    refine j_get (pc := 181) X (C := RX1) (T := TX1) (N := 9) wz_X1 1 rfl rfl 3 (by decide) wf_X4_122 rfl dX4_count_181 ?_
    refine j_callVR (pc := 184) X (st := [])  (c_X2_size l D tA (a 4) (a 9) 10 5 (sV s)  ) cd_X2_size wm_X4_133 9 rfl rfl rfl [9, 10] rfl rfl ⟨Nat.le_of_ble_eq_true rfl, Nat.le_of_ble_eq_true rfl⟩ ⟨Nat.zero_le _, Nat.zero_le _⟩ rfl (Nat.le_of_ble_eq_true rfl) dX4_count_184 ?_
    have e : oCount s v.2.2 len w0 = (nI ((sV s).1)) := by unfold oCount; rw [if_neg (by omega), if_neg (by omega), if_neg (by omega), if_neg (by omega), if_neg (by omega), if_neg (by omega), if_neg (by omega), if_neg (by omega), if_pos hs] <;> rfl
    exact j_endI (pc := 187) E dX4_count_187 (by rw [e]) rfl
  · refine j_swIn (pc := 1) X (off := 187) (tgt := 188) dX4_count_1 (by omega) (by omega) (by rw [hs]; rfl) (by decide) ?_
    refine j_aload_n (pc := 188) X dX4_count_188 rfl (q := 0) rfl ?_
    refine j_get (pc := 189) X (C := RX4) (T := TX4) (N := 6) wz_X4 0 rfl rfl 0 (by decide) wf_X4_12 rfl dX4_count_189 ?_
    refine j_get (pc := 192) X (C := RX1) (T := TX1) (N := 9) wz_X1 1 rfl rfl 6 (by decide) wf_X4_204 rfl dX4_count_192 ?_
    have e : oCount s v.2.2 len w0 = (nI (sD s)) := by unfold oCount; rw [if_neg (by omega), if_neg (by omega), if_neg (by omega), if_neg (by omega), if_neg (by omega), if_neg (by omega), if_neg (by omega), if_neg (by omega), if_neg (by omega), if_pos hs] <;> rfl
    exact j_endI (pc := 195) E dX4_count_195 (by rw [e]) rfl
  · refine j_swIn (pc := 1) X (off := 195) (tgt := 196) dX4_count_1 (by omega) (by omega) (by rw [hs]; rfl) (by decide) ?_
    refine j_aload_n (pc := 196) X dX4_count_196 rfl (q := 0) rfl ?_
    refine j_get (pc := 197) X (C := RX4) (T := TX4) (N := 6) wz_X4 0 rfl rfl 0 (by decide) wf_X4_12 rfl dX4_count_197 ?_
    refine j_get (pc := 200) X (C := RX1) (T := TX1) (N := 9) wz_X1 1 rfl rfl 7 (by decide) wf_X4_207 rfl dX4_count_200 ?_
    have e : oCount s v.2.2 len w0 = (nI (sF s)) := by unfold oCount; rw [if_neg (by omega), if_neg (by omega), if_neg (by omega), if_neg (by omega), if_neg (by omega), if_neg (by omega), if_neg (by omega), if_neg (by omega), if_neg (by omega), if_neg (by omega), if_pos hs] <;> rfl
    exact j_endI (pc := 203) E dX4_count_203 (by rw [e]) rfl
  · refine j_swIn (pc := 1) X (off := 203) (tgt := 204) dX4_count_1 (by omega) (by omega) (by rw [hs]; rfl) (by decide) ?_
    refine j_aload_n (pc := 204) X dX4_count_204 rfl (q := 0) rfl ?_
    refine j_get (pc := 205) X (C := RX4) (T := TX4) (N := 6) wz_X4 0 rfl rfl 0 (by decide) wf_X4_12 rfl dX4_count_205 ?_
    refine j_get (pc := 208) X (C := RX1) (T := TX1) (N := 9) wz_X1 1 rfl rfl 1 (by decide) wf_X4_62 rfl dX4_count_208 ?_
    refine j_iconst (pc := 211) X (v := (nI 0)) dX4_count_211 (by decide) ?_
    refine j_callVR (pc := 212) X (st := [])  (c_X2_sumOf l D tA (a 2) (a 7) 8 2 (sP s) 0 (by first | assumption | omega | decide) (by first | assumption | omega | decide) (by first | assumption | omega | decide) (by first | assumption | omega | decide) (by first | assumption | omega | decide)) cd_X2_sumOf wm_X4_210 5 rfl rfl rfl [5, 6] rfl rfl ⟨Nat.le_of_ble_eq_true rfl, Nat.le_of_ble_eq_true rfl⟩ ⟨Nat.zero_le _, Nat.zero_le _⟩ rfl (Nat.le_of_ble_eq_true rfl) dX4_count_212 ?_
    have e : oCount s v.2.2 len w0 = (nI (sumN (fun r => tGet 2 (sP s) r 0) (sP s).1)) := by unfold oCount; rw [if_neg (by omega), if_neg (by omega), if_neg (by omega), if_neg (by omega), if_neg (by omega), if_neg (by omega), if_neg (by omega), if_neg (by omega), if_neg (by omega), if_neg (by omega), if_neg (by omega), if_pos hs] <;> rfl
    exact j_endI (pc := 215) E dX4_count_215 (by rw [e]) rfl
  · refine j_swIn (pc := 1) X (off := 215) (tgt := 216) dX4_count_1 (by omega) (by omega) (by rw [hs]; rfl) (by decide) ?_
    refine j_aload_n (pc := 216) X dX4_count_216 rfl (q := 0) rfl ?_
    refine j_get (pc := 217) X (C := RX4) (T := TX4) (N := 6) wz_X4 0 rfl rfl 0 (by decide) wf_X4_12 rfl dX4_count_217 ?_
    refine j_get (pc := 220) X (C := RX1) (T := TX1) (N := 9) wz_X1 1 rfl rfl 1 (by decide) wf_X4_62 rfl dX4_count_220 ?_
    refine j_iconst (pc := 223) X (v := (nI 1)) dX4_count_223 (by decide) ?_
    refine j_callVR (pc := 224) X (st := [])  (c_X2_sumOf l D tA (a 2) (a 7) 8 2 (sP s) 1 (by first | assumption | omega | decide) (by first | assumption | omega | decide) (by first | assumption | omega | decide) (by first | assumption | omega | decide) (by first | assumption | omega | decide)) cd_X2_sumOf wm_X4_210 5 rfl rfl rfl [5, 6] rfl rfl ⟨Nat.le_of_ble_eq_true rfl, Nat.le_of_ble_eq_true rfl⟩ ⟨Nat.zero_le _, Nat.zero_le _⟩ rfl (Nat.le_of_ble_eq_true rfl) dX4_count_224 ?_
    have e : oCount s v.2.2 len w0 = (nI (sumN (fun r => tGet 2 (sP s) r 1) (sP s).1)) := by unfold oCount; rw [if_neg (by omega), if_neg (by omega), if_neg (by omega), if_neg (by omega), if_neg (by omega), if_neg (by omega), if_neg (by omega), if_neg (by omega), if_neg (by omega), if_neg (by omega), if_neg (by omega), if_neg (by omega), if_pos hs] <;> rfl
    exact j_endI (pc := 227) E dX4_count_227 (by rw [e]) rfl
  · refine j_swIn (pc := 1) X (off := 227) (tgt := 228) dX4_count_1 (by omega) (by omega) (by rw [hs]; rfl) (by decide) ?_
    refine j_aload_n (pc := 228) X dX4_count_228 rfl (q := 0) rfl ?_
    refine j_get (pc := 229) X (C := RX4) (T := TX4) (N := 6) wz_X4 0 rfl rfl 0 (by decide) wf_X4_12 rfl dX4_count_229 ?_
    refine j_get (pc := 232) X (C := RX1) (T := TX1) (N := 9) wz_X1 1 rfl rfl 8 (by decide) wf_X4_213 rfl dX4_count_232 ?_
    have e : oCount s v.2.2 len w0 = (nI (sX s)) := by unfold oCount; rw [if_neg (by omega), if_neg (by omega), if_neg (by omega), if_neg (by omega), if_neg (by omega), if_neg (by omega), if_neg (by omega), if_neg (by omega), if_neg (by omega), if_neg (by omega), if_neg (by omega), if_neg (by omega), if_neg (by omega), if_pos hs] <;> rfl
    exact j_endI (pc := 235) E dX4_count_235 (by rw [e]) rfl
  · refine j_swIn (pc := 1) X (off := 235) (tgt := 236) dX4_count_1 (by omega) (by omega) (by rw [hs]; rfl) (by decide) ?_
    refine j_aload_n (pc := 236) X dX4_count_236 rfl (q := 0) rfl ?_
    refine j_get (pc := 237) X (C := RX4) (T := TX4) (N := 6) wz_X4 0 rfl rfl 0 (by decide) wf_X4_12 rfl dX4_count_237 ?_
    refine j_get (pc := 240) X (C := RX1) (T := TX1) (N := 9) wz_X1 1 rfl rfl 0 (by decide) wf_X4_44 rfl dX4_count_240 ?_
    refine j_iconst (pc := 243) X (v := (nI 1)) dX4_count_243 (by decide) ?_
    refine j_callVR (pc := 244) X (st := [])  (c_X2_sumOf l D tA (a 1) (a 6) 5 3 (sM s) 1 (by first | assumption | omega | decide) (by first | assumption | omega | decide) (by first | assumption | omega | decide) (by first | assumption | omega | decide) (by first | assumption | omega | decide)) cd_X2_sumOf wm_X4_210 3 rfl rfl rfl [3, 4] rfl rfl ⟨Nat.le_of_ble_eq_true rfl, Nat.le_of_ble_eq_true rfl⟩ ⟨Nat.zero_le _, Nat.zero_le _⟩ rfl (Nat.le_of_ble_eq_true rfl) dX4_count_244 ?_
    have e : oCount s v.2.2 len w0 = (nI (sumN (fun r => tGet 3 (sM s) r 1) (sM s).1)) := by unfold oCount; rw [if_neg (by omega), if_neg (by omega), if_neg (by omega), if_neg (by omega), if_neg (by omega), if_neg (by omega), if_neg (by omega), if_neg (by omega), if_neg (by omega), if_neg (by omega), if_neg (by omega), if_neg (by omega), if_neg (by omega), if_neg (by omega), if_pos hs] <;> rfl
    exact j_endI (pc := 247) E dX4_count_247 (by rw [e]) rfl
  · refine j_swIn (pc := 1) X (off := 247) (tgt := 248) dX4_count_1 (by omega) (by omega) (by rw [hs]; rfl) (by decide) ?_
    refine j_aload_n (pc := 248) X dX4_count_248 rfl (q := 0) rfl ?_
    refine j_get (pc := 249) X (C := RX4) (T := TX4) (N := 6) wz_X4 0 rfl rfl 3 (by decide) wf_X4_25 rfl dX4_count_249 ?_
    refine j_callVR (pc := 252) X (st := [])  (c_X0_size l D tA h d v.2.1 v.2.2) cd_X0_size wm_X4_163 11 rfl rfl rfl [11, 12] rfl rfl ⟨Nat.le_of_ble_eq_true rfl, Nat.le_of_ble_eq_true rfl⟩ ⟨Nat.zero_le _, Nat.zero_le _⟩ rfl (Nat.le_of_ble_eq_true rfl) dX4_count_252 ?_
    have e : oCount s v.2.2 len w0 = (nI v.2.2) := by unfold oCount; rw [if_neg (by omega), if_neg (by omega), if_neg (by omega), if_neg (by omega), if_neg (by omega), if_neg (by omega), if_neg (by omega), if_neg (by omega), if_neg (by omega), if_neg (by omega), if_neg (by omega), if_neg (by omega), if_neg (by omega), if_neg (by omega), if_neg (by omega), if_pos hs] <;> rfl
    exact j_endI (pc := 255) E dX4_count_255 (by rw [e]) rfl
  · refine j_swIn (pc := 1) X (off := 255) (tgt := 256) dX4_count_1 (by omega) (by omega) (by rw [hs]; rfl) (by decide) ?_
    refine j_aload_n (pc := 256) X dX4_count_256 rfl (q := 0) rfl ?_
    refine j_get (pc := 257) X (C := RX4) (T := TX4) (N := 6) wz_X4 0 rfl rfl 4 (by decide) wf_X4_32 rfl dX4_count_257 ?_
    refine j_callVR (pc := 260) X (st := [])  (c_X3_length l D tA x ch len p t  ) cd_X3_length wm_X4_143 53 rfl rfl rfl [53, 54, 55, 56] rfl rfl ⟨Nat.le_of_ble_eq_true rfl, Nat.le_of_ble_eq_true rfl⟩ ⟨Nat.zero_le _, Nat.zero_le _⟩ rfl (Nat.le_of_ble_eq_true rfl) dX4_count_260 ?_
    have e : oCount s v.2.2 len w0 = (nI len) := by unfold oCount; rw [if_neg (by omega), if_neg (by omega), if_neg (by omega), if_neg (by omega), if_neg (by omega), if_neg (by omega), if_neg (by omega), if_neg (by omega), if_neg (by omega), if_neg (by omega), if_neg (by omega), if_neg (by omega), if_neg (by omega), if_neg (by omega), if_neg (by omega), if_neg (by omega), if_pos hs] <;> rfl
    exact j_endI (pc := 263) E dX4_count_263 (by rw [e]) rfl
