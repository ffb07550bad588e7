/-! the constructors -/
abbrev z0 : Tb := (0, fun _ => 0)
set_option maxHeartbeats 4000000 in
set_option maxRecDepth 100000 in
theorem cz_X2_init (l : Launch) (D : va_G) (tA : Nat → ClassId) (h most cols : Nat) (hm : most < 65536) (hc : cols < 65536) (hmc : most * cols < 65536) : Kz l D tA yX2_init cX2_init 3 1 14 1 (most * cols) [.ref h, .int (nI most), .int (nI cols)] [(h, .inr (2, [.null, .int 0, .int 0, .int 0]))] (fun _ : Nat => True) (fun q => tbW tA h q most cols z0) := by
  refine kz_void rfl rfl (Nat.le_of_ble_eq_true rfl) (fun G X hR hN E => ?_)
  show J l D G 0 0 [(h, .inr (2, [.null, .int 0, .int 0, .int 0]))] [(0, .ref h), (1, .int (nI most)), (2, .int (nI cols))] 0 []
  refine j_aload_n (pc := 0) X dX2_init_0 rfl (q := 0) rfl ?_
  refine j_obj (pc := 1) X wm_X2_3 ⟨Nat.le_of_ble_eq_true rfl, Nat.le_of_ble_eq_true rfl⟩ dX2_init_1 ?_
  refine j_aload_n (pc := 4) X dX2_init_4 rfl (q := 0) rfl ?_
  refine j_iload_n (pc := 5) X dX2_init_5 rfl (q := 1) rfl ?_
  refine j_putF (pc := 6) X hN (C := RX2) (T := TX2) (N := 4) wz_X2 tyX2 tyX2_ok nmX2 0 rfl rfl 1 (by decide) wf_X2_9 rfl rfl rfl rfl (Nat.le_of_ble_eq_true rfl) (w' := [(h, .inr (2, [.null, .int (nI most), .int 0, .int 0]))]) rfl dX2_init_6 ?_
  refine j_aload_n (pc := 9) X dX2_init_9 rfl (q := 0) rfl ?_
  refine j_iload_n (pc := 10) X dX2_init_10 rfl (q := 2) rfl ?_
  refine j_putF (pc := 11) X hN (C := RX2) (T := TX2) (N := 4) wz_X2 tyX2 tyX2_ok nmX2 0 rfl rfl 2 (by decide) wf_X2_15 rfl rfl rfl rfl (Nat.le_of_ble_eq_true rfl) (w' := [(h, .inr (2, [.null, .int (nI most), .int (nI cols), .int 0]))]) rfl dX2_init_11 ?_
  refine j_aload_n (pc := 14) X dX2_init_14 rfl (q := 0) rfl ?_
  refine j_iload_n (pc := 15) X dX2_init_15 rfl (q := 1) rfl ?_
  refine j_iload_n (pc := 16) X dX2_init_16 rfl (q := 2) rfl ?_
  refine j_imul (pc := 17) X (v := nI (most * cols)) dX2_init_17 (pk_mul _ _) ?_
  refine j_iconst (pc := 18) X (v := nI 0) dX2_init_18 (by decide) ?_
  refine j_mmax (pc := 19) X wm_X2_18 (Nat.le_of_ble_eq_true rfl) (Nat.le_of_ble_eq_true rfl) ⟨Nat.zero_le _, Nat.zero_le _⟩ (v := nI (most * cols)) (by rw [nI_max (by omega) (by decide), Nat.max_eq_left (Nat.zero_le _)]) dX2_init_19 ?_
  refine j_newi (pc := 22) X hmc ⟨hR.1, by rw [Nat.zero_add]; exact hR.2⟩ dX2_init_22 (fun q => ?_)
  refine j_putF (pc := 24) X hN (C := RX2) (T := TX2) (N := 4) wz_X2 tyX2 tyX2_ok nmX2 0 rfl rfl 0 (by decide) wf_X2_24 rfl rfl rfl rfl (Nat.le_of_ble_eq_true rfl) (w' := tbW tA h q most cols z0) rfl dX2_init_24 ?_
  refine j_wd 1 (most * cols) (Nat.le_refl _) (by rw [Nat.zero_add]; exact Nat.le_refl _) ?_
  exact j_endVz (pc := 27) E dX2_init_27 q trivial rfl
