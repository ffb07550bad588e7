/-! the constructors -/
abbrev z0 : Tb := (0, fun _ => 0)
set_option maxHeartbeats 4000000 in
set_option maxRecDepth 100000 in
theorem cz_X2_init (l : Launch) (D : va_G) (tA : Nat → ClassId) (h most cols : Nat) (hm : most < 65536) (hc : cols < 65536) (hmc : most * cols < 65536) : Kz l D tA yX2_init cX2_init 3 1 14 1 (most * cols) [.ref h, .int (nI most), .int (nI cols)] [(h, .inr (2, [.null, .int 0, .int 0, .int 0]))] (fun _ : Nat => True) (fun q => tbW tA h q most cols z0) := by
  refine kz_void rfl rfl (Nat.le_of_ble_eq_true rfl) (fun G X hR hN E => ?_)
  show J l D G 0 0 [(h, .inr (2, [.null, .int 0, .int 0, .int 0]))] [(0, .ref h), (1, .int (nI most)), (2, .int (nI cols))] 0 []
  refine j_aload_n (pc := 0) X dX2_init_0 rfl (q := 0) rfl ?_
  refine j_obj (pc := 1) X wm_X2_3 ⟨Nat.le_of_ble_eq_true rfl, Nat.le_of_ble_eq_true rfl⟩ dX2_init_1 ?_
  refine j_aload_n (pc := 4) X dX2_init_4 rfl (q := 0) rfl ?_
  refine j_iload_n (pc := 5) X dX2_init_5 rfl (q := 1) rfl ?_
  refine j_putF (pc := 6) X hN (C := RX2) (T := TX2) (N := 4) wz_X2 tyX2 tyX2_ok nmX2 0 rfl rfl 1 (by decide) wf_X2_9 rfl rfl rfl rfl (Nat.le_of_ble_eq_true rfl) (w' := [(h, .inr (2, [.null, .int (nI most), .int 0, .int 0]))]) rfl dX2_init_6 ?_
  refine j_aload_n (pc := 9) X dX2_init_9 rfl (q := 0) rfl ?_
  refine j_iload_n (pc := 10) X dX2_init_10 rfl (q := 2) rfl ?_
  refine j_putF (pc := 11) X hN (C := RX2) (T := TX2) (N := 4) wz_X2 tyX2 tyX2_ok nmX2 0 rfl rfl 2 (by decide) wf_X2_15 rfl rfl rfl rfl (Nat.le_of_ble_eq_true rfl) (w' := [(h, .inr (2, [.null, .int (nI most), .int (nI cols), .int 0]))]) rfl dX2_init_11 ?_
  refine j_aload_n (pc := 14) X dX2_init_14 rfl (q := 0) rfl ?_
  refine j_iload_n (pc := 15) X dX2_init_15 rfl (q := 1) rfl ?_
  refine j_iload_n (pc := 16) X dX2_init_16 rfl (q := 2) rfl ?_
  refine j_imul (pc := 17) X (v := nI (most * cols)) dX2_init_17 (pk_mul _ _) ?_
  refine j_iconst (pc := 18) X (v := nI 0) dX2_init_18 (by decide) ?_
  refine j_mmax (pc := 19) X wm_X2_18 (Nat.le_of_ble_eq_true rfl) (Nat.le_of_ble_eq_true rfl) ⟨Nat.zero_le _, Nat.zero_le _⟩ (v := nI (most * cols)) (by rw [nI_max (by omega) (by decide), Nat.max_eq_left (Nat.zero_le _)]) dX2_init_19 ?_
  refine j_newi (pc := 22) X hmc ⟨hR.1, by rw [Nat.zero_add]; exact hR.2⟩ dX2_init_22 (fun q => ?_)
  refine j_putF (pc := 24) X hN (C := RX2) (T := TX2) (N := 4) wz_X2 tyX2 tyX2_ok nmX2 0 rfl rfl 0 (by decide) wf_X2_24 rfl rfl rfl rfl (Nat.le_of_ble_eq_true rfl) (w' := tbW tA h q most cols z0) rfl dX2_init_24 ?_
  refine j_wd 1 (most * cols) (Nat.le_refl _) (by rw [Nat.zero_add]; exact Nat.le_refl _) ?_
  exact j_endVz (pc := 27) E dX2_init_27 q trivial rfl
def ad3 (a b c : Nat) : Nat → Nat
  | 0 => a
  | 1 => b
  | _ => c
set_option maxHeartbeats 4000000 in
set_option maxRecDepth 100000 in
theorem cz_X5_init (l : Launch) (D : va_G) (tA : Nat → ClassId) (a : Nat) : Kz l D tA yX5_init cX5_init 1 1 14 2 3805 [.ref a] [(a, .inr (5, [.null, .int 0, .int 0, .null, .int 0, .int 0, .int 0, .int 0, .int 0, .int 0]))] (fun _ : Nat × Nat => True) (fun q => tW tA (ad3 a q.1 q.2) (mfs (ad3 a q.1 q.2) 0 false 0 none 0 0 0 0) (fun _ => 0) (fun _ => 0)) := by
  refine kz_void rfl rfl (Nat.le_of_ble_eq_true rfl) (fun G X hR hN E => ?_)
  show J l D G 0 0 [(a, .inr (5, [.null, .int 0, .int 0, .null, .int 0, .int 0, .int 0, .int 0, .int 0, .int 0]))] [(0, .ref a)] 0 []
  refine j_aload_n (pc := 0) X dX5_init_0 rfl (q := 0) rfl ?_
  refine j_obj (pc := 1) X wm_X5_1 ⟨Nat.le_of_ble_eq_true rfl, Nat.le_of_ble_eq_true rfl⟩ dX5_init_1 ?_
  refine j_aload_n (pc := 4) X dX5_init_4 rfl (q := 0) rfl ?_
  refine j_sipush (pc := 5) X (v := nI 3745) dX5_init_5 (by decide +kernel) ?_
  refine j_newi (pc := 8) X (by decide) ⟨by omega, by omega⟩ dX5_init_8 (fun q1 => ?_)
  refine j_putF (pc := 10) X hN (C := RX5) (T := TX5) (N := 10) wz_X5 tyX5 tyX5_ok nmX5 0 rfl rfl 0 (by decide) wf_X5_7 rfl rfl rfl rfl (Nat.le_of_ble_eq_true rfl) (w' := [(a, .inr (5, [.ref q1, .int 0, .int 0, .null, .int 0, .int 0, .int 0, .int 0, .int 0, .int 0])), (q1, .inl (tA 0, 3745, .inl (nF (fun _ => 0))))]) rfl dX5_init_10 ?_
  refine j_aload_n (pc := 13) X dX5_init_13 rfl (q := 0) rfl ?_
  refine j_bipush (pc := 14) X (v := nI 60) dX5_init_14 (by decide +kernel) ?_
  refine j_newi (pc := 16) X (by decide) ⟨by omega, by omega⟩ dX5_init_16 (fun q2 => ?_)
  refine j_putF (pc := 18) X hN (C := RX5) (T := TX5) (N := 10) wz_X5 tyX5 tyX5_ok nmX5 0 rfl rfl 3 (by decide) wf_X5_13 rfl rfl rfl rfl (Nat.le_of_ble_eq_true rfl) (w' := [(a, .inr (5, [.ref q1, .int 0, .int 0, .ref q2, .int 0, .int 0, .int 0, .int 0, .int 0, .int 0])), (q1, .inl (tA 0, 3745, .inl (nF (fun _ => 0)))), (q2, .inl (tA 0, 60, .inl (nF (fun _ => 0))))]) rfl dX5_init_18 ?_
  refine j_aload_n (pc := 21) X dX5_init_21 rfl (q := 0) rfl ?_
  refine j_bipush (pc := 22) X (v := (-5)) dX5_init_22 (by decide +kernel) ?_
  refine j_put (pc := 24) X (C := RX5) (T := TX5) (N := 10) wz_X5 tyX5 tyX5_ok nmX5 0 rfl rfl 5 (by decide) wf_X5_16 rfl rfl rfl (Nat.le_of_ble_eq_true rfl) (w' := tW tA (ad3 a q1 q2) (mfs (ad3 a q1 q2) 0 false 0 none 0 0 0 0) (fun _ => 0) (fun _ => 0)) rfl dX5_init_24 ?_
  exact j_endVz (pc := 27) E dX5_init_27 (q1, q2) trivial rfl
theorem df_X2 : ∀ j, j < 4 → defaultValue (tyX2 j) = vp_V [.null, .int 0, .int 0, .int 0] j := fun j hj => by
  rcases (show j = 0 ∨ j = 1 ∨ j = 2 ∨ j = 3 by omega) with rfl | rfl | rfl | rfl <;> rfl
def ad4 (a b c d : Nat) : Nat → Nat
  | 0 => a
  | 1 => b
  | 2 => c
  | _ => d
set_option maxHeartbeats 4000000 in
set_option maxRecDepth 100000 in
theorem cz_X3_init (l : Launch) (D : va_G) (tA : Nat → ClassId) (a : Nat) : Kz l D tA yX3_init cX3_init 1 2 36 3 94 [.ref a] [(a, .inr (3, [.null, .int 0, .int 0, .null]))] (fun _ : Nat × Nat × Nat => True) (fun q => txW tA (ad4 a q.1 q.2.1 q.2.2) (fun _ => 0) 0 0 z0) := by
  refine kz_void rfl rfl (Nat.le_of_ble_eq_true rfl) (fun G X hR hN E => ?_)
  show J l D G 0 0 [(a, .inr (3, [.null, .int 0, .int 0, .null]))] [(0, .ref a)] 0 []
  refine j_aload_n (pc := 0) X dX3_init_0 rfl (q := 0) rfl ?_
  refine j_obj (pc := 1) X wm_X3_3 ⟨Nat.le_of_ble_eq_true rfl, Nat.le_of_ble_eq_true rfl⟩ dX3_init_1 ?_
  refine j_aload_n (pc := 4) X dX3_init_4 rfl (q := 0) rfl ?_
  refine j_bipush (pc := 5) X (v := nI 60) dX3_init_5 (by decide +kernel) ?_
  refine j_newc (pc := 7) X (by decide) ⟨by omega, by omega⟩ dX3_init_7 (fun q1 => ?_)
  refine j_putF (pc := 9) X hN (C := RX3) (T := TX3) (N := 4) wz_X3 tyX3 tyX3_ok nmX3 0 rfl rfl 0 (by decide) wf_X3_9 rfl rfl rfl rfl (Nat.le_of_ble_eq_true rfl) (w' := [(a, .inr (3, [.ref q1, .int 0, .int 0, .null])), (q1, .inl (tA 1, 60, .inl (nF (fun _ => 0))))]) rfl dX3_init_9 ?_
  refine j_aload_n (pc := 12) X dX3_init_12 rfl (q := 0) rfl ?_
  refine j_new (pc := 13) X (C := RX2) (T := TX2) (N := 4) (ci := 2) (fs := [.null, .int 0, .int 0, .int 0]) wz_X2 tyX2 tyX2_ok wl_X3_15 wn_X2 wi_X2 rfl df_X2 ⟨by omega, by omega⟩ dX3_init_13 (fun h2 => ?_)
  refine j_dup (pc := 16) X dX3_init_16 rfl ?_
  refine j_bipush (pc := 17) X (v := nI 15) dX3_init_17 (by decide +kernel) ?_
  refine j_iconst (pc := 19) X (v := nI 2) dX3_init_19 (by decide +kernel) ?_
  refine j_callI (pc := 20) X (As := [.int (nI 15), .int (nI 2)]) (st := [.ref h2, .ref a]) (cz_X2_init l D tA h2 15 2 (by decide) (by decide) (by decide)) wc_X2_init wi_X2 wk_X2_init wm_X3_17 rfl (by decide +kernel) ⟨Nat.le_of_ble_eq_true rfl, Nat.le_of_ble_eq_true rfl⟩ ⟨by omega, by omega⟩ rfl (Nat.le_of_ble_eq_true rfl) dX3_init_20 (fun q3 _ => ?_)
  refine j_putF (pc := 23) X hN (C := RX3) (T := TX3) (N := 4) wz_X3 tyX3 tyX3_ok nmX3 0 rfl rfl 3 (by decide) wf_X3_20 rfl rfl rfl rfl (Nat.le_of_ble_eq_true rfl) (w' := txW tA (ad4 a q1 h2 q3) (fun _ => 0) 0 0 z0) rfl dX3_init_23 ?_
  exact j_endVz (pc := 26) E dX3_init_26 (q1, h2, q3) trivial rfl
