/-! the constructors -/
abbrev z0 : Tb := (0, fun _ => 0)
set_option maxHeartbeats 4000000 in
set_option maxRecDepth 100000 in
theorem cz_X2_init (l : Launch) (D : va_G) (tA : Nat → ClassId) (h most cols : Nat) (hm : most < 65536) (hc : cols < 65536) (hmc : most * cols < 65536) : Kz l D tA yX2_init cX2_init 3 1 14 1 (most * cols) [.ref h, .int (nI most), .int (nI cols)] [(h, .inr (2, [.null, .int 0, .int 0, .int 0]))] (fun _ : Nat => True) (fun q => tbW tA h q most cols z0) := by
  refine kz_void rfl rfl (Nat.le_of_ble_eq_true rfl) (fun G X hR hN E => ?_)
  show J l D G 0 0 [(h, .inr (2, [.null, .int 0, .int 0, .int 0]))] [(0, .ref h), (1, .int (nI most)), (2, .int (nI cols))] 0 []
  refine j_aload_n (pc := 0) X dX2_init_0 rfl (q := 0) rfl ?_
  refine j_obj (pc := 1) X wm_X2_3 ⟨Nat.le_of_ble_eq_true rfl, Nat.le_of_ble_eq_true rfl⟩ dX2_init_1 ?_
  refine j_aload_n (pc := 4) X dX2_init_4 rfl (q := 0) rfl ?_
  refine j_iload_n (pc := 5) X dX2_init_5 rfl (q := 1) rfl ?_
  refine j_putF (pc := 6) X hN (C := RX2) (T := TX2) (N := 4) wz_X2 tyX2 tyX2_ok nmX2 0 rfl rfl 1 (by decide) wf_X2_9 rfl rfl rfl rfl (Nat.le_of_ble_eq_true rfl) (w' := [(h, .inr (2, [.null, .int (nI most), .int 0, .int 0]))]) rfl dX2_init_6 ?_
  refine j_aload_n (pc := 9) X dX2_init_9 rfl (q := 0) rfl ?_
  refine j_iload_n (pc := 10) X dX2_init_10 rfl (q := 2) rfl ?_
  refine j_putF (pc := 11) X hN (C := RX2) (T := TX2) (N := 4) wz_X2 tyX2 tyX2_ok nmX2 0 rfl rfl 2 (by decide) wf_X2_15 rfl rfl rfl rfl (Nat.le_of_ble_eq_true rfl) (w' := [(h, .inr (2, [.null, .int (nI most), .int (nI cols), .int 0]))]) rfl dX2_init_11 ?_
  refine j_aload_n (pc := 14) X dX2_init_14 rfl (q := 0) rfl ?_
  refine j_iload_n (pc := 15) X dX2_init_15 rfl (q := 1) rfl ?_
  refine j_iload_n (pc := 16) X dX2_init_16 rfl (q := 2) rfl ?_
  refine j_imul (pc := 17) X (v := nI (most * cols)) dX2_init_17 (pk_mul _ _) ?_
  refine j_iconst (pc := 18) X (v := nI 0) dX2_init_18 (by decide) ?_
  refine j_mmax (pc := 19) X wm_X2_18 (Nat.le_of_ble_eq_true rfl) (Nat.le_of_ble_eq_true rfl) ⟨Nat.zero_le _, Nat.zero_le _⟩ (v := nI (most * cols)) (by rw [nI_max (by omega) (by decide), Nat.max_eq_left (Nat.zero_le _)]) dX2_init_19 ?_
  refine j_newi (pc := 22) X hmc ⟨hR.1, by rw [Nat.zero_add]; exact hR.2⟩ dX2_init_22 (fun q => ?_)
  refine j_putF (pc := 24) X hN (C := RX2) (T := TX2) (N := 4) wz_X2 tyX2 tyX2_ok nmX2 0 rfl rfl 0 (by decide) wf_X2_24 rfl rfl rfl rfl (Nat.le_of_ble_eq_true rfl) (w' := tbW tA h q most cols z0) rfl dX2_init_24 ?_
  refine j_wd 1 (most * cols) (Nat.le_refl _) (by rw [Nat.zero_add]; exact Nat.le_refl _) ?_
  exact j_endVz (pc := 27) E dX2_init_27 q trivial rfl
def ad3 (a b c : Nat) : Nat → Nat
  | 0 => a
  | 1 => b
  | _ => c
set_option maxHeartbeats 4000000 in
set_option maxRecDepth 100000 in
theorem cz_X5_init (l : Launch) (D : va_G) (tA : Nat → ClassId) (a : Nat) : Kz l D tA yX5_init cX5_init 1 1 14 2 3805 [.ref a] [(a, .inr (5, [.null, .int 0, .int 0, .null, .int 0, .int 0, .int 0, .int 0, .int 0, .int 0]))] (fun _ : Nat × Nat => True) (fun q => tW tA (ad3 a q.1 q.2) (mfs (ad3 a q.1 q.2) 0 false 0 none 0 0 0 0) (fun _ => 0) (fun _ => 0)) := by
  refine kz_void rfl rfl (Nat.le_of_ble_eq_true rfl) (fun G X hR hN E => ?_)
  show J l D G 0 0 [(a, .inr (5, [.null, .int 0, .int 0, .null, .int 0, .int 0, .int 0, .int 0, .int 0, .int 0]))] [(0, .ref a)] 0 []
  refine j_aload_n (pc := 0) X dX5_init_0 rfl (q := 0) rfl ?_
  refine j_obj (pc := 1) X wm_X5_1 ⟨Nat.le_of_ble_eq_true rfl, Nat.le_of_ble_eq_true rfl⟩ dX5_init_1 ?_
  refine j_aload_n (pc := 4) X dX5_init_4 rfl (q := 0) rfl ?_
  refine j_sipush (pc := 5) X (v := nI 3745) dX5_init_5 (by decide +kernel) ?_
  refine j_newi (pc := 8) X (by decide) ⟨by omega, by omega⟩ dX5_init_8 (fun q1 => ?_)
  refine j_putF (pc := 10) X hN (C := RX5) (T := TX5) (N := 10) wz_X5 tyX5 tyX5_ok nmX5 0 rfl rfl 0 (by decide) wf_X5_7 rfl rfl rfl rfl (Nat.le_of_ble_eq_true rfl) (w' := [(a, .inr (5, [.ref q1, .int 0, .int 0, .null, .int 0, .int 0, .int 0, .int 0, .int 0, .int 0])), (q1, .inl (tA 0, 3745, .inl (nF (fun _ => 0))))]) rfl dX5_init_10 ?_
  refine j_aload_n (pc := 13) X dX5_init_13 rfl (q := 0) rfl ?_
  refine j_bipush (pc := 14) X (v := nI 60) dX5_init_14 (by decide +kernel) ?_
  refine j_newi (pc := 16) X (by decide) ⟨by omega, by omega⟩ dX5_init_16 (fun q2 => ?_)
  refine j_putF (pc := 18) X hN (C := RX5) (T := TX5) (N := 10) wz_X5 tyX5 tyX5_ok nmX5 0 rfl rfl 3 (by decide) wf_X5_13 rfl rfl rfl rfl (Nat.le_of_ble_eq_true rfl) (w' := [(a, .inr (5, [.ref q1, .int 0, .int 0, .ref q2, .int 0, .int 0, .int 0, .int 0, .int 0, .int 0])), (q1, .inl (tA 0, 3745, .inl (nF (fun _ => 0)))), (q2, .inl (tA 0, 60, .inl (nF (fun _ => 0))))]) rfl dX5_init_18 ?_
  refine j_aload_n (pc := 21) X dX5_init_21 rfl (q := 0) rfl ?_
  refine j_bipush (pc := 22) X (v := (-5)) dX5_init_22 (by decide +kernel) ?_
  refine j_put (pc := 24) X (C := RX5) (T := TX5) (N := 10) wz_X5 tyX5 tyX5_ok nmX5 0 rfl rfl 5 (by decide) wf_X5_16 rfl rfl rfl (Nat.le_of_ble_eq_true rfl) (w' := tW tA (ad3 a q1 q2) (mfs (ad3 a q1 q2) 0 false 0 none 0 0 0 0) (fun _ => 0) (fun _ => 0)) rfl dX5_init_24 ?_
  exact j_endVz (pc := 27) E dX5_init_27 (q1, q2) trivial rfl
theorem df_X2 : ∀ j, j < 4 → defaultValue (tyX2 j) = vp_V [.null, .int 0, .int 0, .int 0] j := fun j hj => by
  rcases (show j = 0 ∨ j = 1 ∨ j = 2 ∨ j = 3 by omega) with rfl | rfl | rfl | rfl <;> rfl
def ad4 (a b c d : Nat) : Nat → Nat
  | 0 => a
  | 1 => b
  | 2 => c
  | _ => d
set_option maxHeartbeats 4000000 in
set_option maxRecDepth 100000 in
theorem cz_X3_init (l : Launch) (D : va_G) (tA : Nat → ClassId) (a : Nat) : Kz l D tA yX3_init cX3_init 1 2 36 3 94 [.ref a] [(a, .inr (3, [.null, .int 0, .int 0, .null]))] (fun _ : Nat × Nat × Nat => True) (fun q => txW tA (ad4 a q.1 q.2.1 q.2.2) (fun _ => 0) 0 0 z0) := by
  refine kz_void rfl rfl (Nat.le_of_ble_eq_true rfl) (fun G X hR hN E => ?_)
  show J l D G 0 0 [(a, .inr (3, [.null, .int 0, .int 0, .null]))] [(0, .ref a)] 0 []
  refine j_aload_n (pc := 0) X dX3_init_0 rfl (q := 0) rfl ?_
  refine j_obj (pc := 1) X wm_X3_3 ⟨Nat.le_of_ble_eq_true rfl, Nat.le_of_ble_eq_true rfl⟩ dX3_init_1 ?_
  refine j_aload_n (pc := 4) X dX3_init_4 rfl (q := 0) rfl ?_
  refine j_bipush (pc := 5) X (v := nI 60) dX3_init_5 (by decide +kernel) ?_
  refine j_newc (pc := 7) X (by decide) ⟨by omega, by omega⟩ dX3_init_7 (fun q1 => ?_)
  refine j_putF (pc := 9) X hN (C := RX3) (T := TX3) (N := 4) wz_X3 tyX3 tyX3_ok nmX3 0 rfl rfl 0 (by decide) wf_X3_9 rfl rfl rfl rfl (Nat.le_of_ble_eq_true rfl) (w' := [(a, .inr (3, [.ref q1, .int 0, .int 0, .null])), (q1, .inl (tA 1, 60, .inl (nF (fun _ => 0))))]) rfl dX3_init_9 ?_
  refine j_aload_n (pc := 12) X dX3_init_12 rfl (q := 0) rfl ?_
  refine j_new (pc := 13) X (C := RX2) (T := TX2) (N := 4) (ci := 2) (fs := [.null, .int 0, .int 0, .int 0]) wz_X2 tyX2 tyX2_ok wl_X3_15 wn_X2 wi_X2 rfl df_X2 ⟨by omega, by omega⟩ dX3_init_13 (fun h2 => ?_)
  refine j_dup (pc := 16) X dX3_init_16 rfl ?_
  refine j_bipush (pc := 17) X (v := nI 15) dX3_init_17 (by decide +kernel) ?_
  refine j_iconst (pc := 19) X (v := nI 2) dX3_init_19 (by decide +kernel) ?_
  refine j_callI (pc := 20) X (As := [.int (nI 15), .int (nI 2)]) (st := [.ref h2, .ref a]) (cz_X2_init l D tA h2 15 2 (by decide) (by decide) (by decide)) wc_X2_init wi_X2 wk_X2_init wm_X3_17 rfl (by decide +kernel) ⟨Nat.le_of_ble_eq_true rfl, Nat.le_of_ble_eq_true rfl⟩ ⟨by omega, by omega⟩ rfl (Nat.le_of_ble_eq_true rfl) dX3_init_20 (fun q3 _ => ?_)
  refine j_putF (pc := 23) X hN (C := RX3) (T := TX3) (N := 4) wz_X3 tyX3 tyX3_ok nmX3 0 rfl rfl 3 (by decide) wf_X3_20 rfl rfl rfl rfl (Nat.le_of_ble_eq_true rfl) (w' := txW tA (ad4 a q1 h2 q3) (fun _ => 0) 0 0 z0) rfl dX3_init_23 ?_
  exact j_endVz (pc := 26) E dX3_init_26 (q1, h2, q3) trivial rfl
theorem j_perm {l : Launch} {D : va_G} {G : kCx} {n k : Nat} {w w' : va_W} {lv : List (Nat × Value)} {pc : Nat} {st : List Value} (is : List Nat) (hn : va_nd is = true) (hs : is.map (fun i => w[i]?) = w'.map some) (kk : J l D G n k w' lv pc st) : J l D G n k w lv pc st := fun H locs ls hP hD hS hl => kk H locs ls (kSub hP hs) (hD.sub is hn hs) hS hl
def ad10 (a0 a1 a2 a3 a4 a5 a6 a7 a8 a9 : Nat) : Nat → Nat
  | 0 => a0
  | 1 => a1
  | 2 => a2
  | 3 => a3
  | 4 => a4
  | 5 => a5
  | 6 => a6
  | 7 => a7
  | 8 => a8
  | _ => a9
abbrev s0 : Sg := (z0, z0, z0, z0, fun _ => 0, 0, 0, 0, 0)
theorem df_X1 : ∀ j, j < 9 → defaultValue (tyX1 j) = vp_V [.null, .null, .null, .null, .null, .int 0, .int 0, .int 0, .int 0] j := fun j hj => by
  rcases (show j = 0 ∨ j = 1 ∨ j = 2 ∨ j = 3 ∨ j = 4 ∨ j = 5 ∨ j = 6 ∨ j = 7 ∨ j = 8 by omega) with rfl | rfl | rfl | rfl | rfl | rfl | rfl | rfl | rfl <;> rfl
set_option maxHeartbeats 4000000 in
set_option maxRecDepth 100000 in
theorem cz_X1_init (l : Launch) (D : va_G) (tA : Nat → ClassId) (a : Nat) : Kz l D tA yX1_init cX1_init 1 2 36 9 537 [.ref a] [(a, .inr (1, [.null, .null, .null, .null, .null, .int 0, .int 0, .int 0, .int 0]))] (fun b : Nat → Nat => b 0 = a) (fun b => stW tA b s0) := by
  refine kz_void rfl rfl (Nat.le_of_ble_eq_true rfl) (fun G X hR hN E => ?_)
  show J l D G 0 0 [(a, .inr (1, [.null, .null, .null, .null, .null, .int 0, .int 0, .int 0, .int 0]))] [(0, .ref a)] 0 []
  refine j_aload_n (pc := 0) X dX1_init_0 rfl (q := 0) rfl ?_
  refine j_obj (pc := 1) X wm_X1_3 ⟨Nat.le_of_ble_eq_true rfl, Nat.le_of_ble_eq_true rfl⟩ dX1_init_1 ?_
  refine j_aload_n (pc := 4) X dX1_init_4 rfl (q := 0) rfl ?_
  refine j_new (pc := 5) X (C := RX2) (T := TX2) (N := 4) (ci := 2) (fs := [.null, .int 0, .int 0, .int 0]) wz_X2 tyX2 tyX2_ok wl_X1_9 wn_X2 wi_X2 rfl df_X2 ⟨by omega, by omega⟩ dX1_init_5 (fun h1 => ?_)
  refine j_dup (pc := 8) X dX1_init_8 rfl ?_
  refine j_iconst (pc := 9) X (v := nI 5) dX1_init_9 (by decide +kernel) ?_
  refine j_iconst (pc := 10) X (v := nI 3) dX1_init_10 (by decide +kernel) ?_
  refine j_callI (pc := 11) X (As := [.int (nI 5), .int (nI 3)]) (st := [.ref h1, .ref a]) (cz_X2_init l D tA h1 5 3 (by decide) (by decide) (by decide)) wc_X2_init wi_X2 wk_X2_init wm_X1_11 rfl (by decide +kernel) ⟨Nat.le_of_ble_eq_true rfl, Nat.le_of_ble_eq_true rfl⟩ ⟨by omega, by omega⟩ rfl (Nat.le_of_ble_eq_true rfl) dX1_init_11 (fun q6 _ => ?_)
  refine j_putF (pc := 14) X hN (C := RX1) (T := TX1) (N := 9) wz_X1 tyX1 tyX1_ok nmX1 0 rfl rfl 0 (by decide) wf_X1_14 rfl rfl rfl rfl (Nat.le_of_ble_eq_true rfl) (w' := [(a, .inr (1, [.ref h1, .null, .null, .null, .null, .int 0, .int 0, .int 0, .int 0])), (h1, .inr (2, [.ref q6, .int (nI 5), .int (nI 3), .int (nI 0)])), (q6, .inl (tA 0, 5 * 3, .inl (nF (fun _ => 0))))]) rfl dX1_init_14 ?_
  refine j_aload_n (pc := 17) X dX1_init_17 rfl (q := 0) rfl ?_
  refine j_new (pc := 18) X (C := RX2) (T := TX2) (N := 4) (ci := 2) (fs := [.null, .int 0, .int 0, .int 0]) wz_X2 tyX2 tyX2_ok wl_X1_9 wn_X2 wi_X2 rfl df_X2 ⟨by omega, by omega⟩ dX1_init_18 (fun h2 => ?_)
  refine j_dup (pc := 21) X dX1_init_21 rfl ?_
  refine j_bipush (pc := 22) X (v := nI 8) dX1_init_22 (by decide +kernel) ?_
  refine j_iconst (pc := 24) X (v := nI 2) dX1_init_24 (by decide +kernel) ?_
  refine j_callI (pc := 25) X (As := [.int (nI 8), .int (nI 2)]) (st := [.ref h2, .ref a]) (cz_X2_init l D tA h2 8 2 (by decide) (by decide) (by decide)) wc_X2_init wi_X2 wk_X2_init wm_X1_11 rfl (by decide +kernel) ⟨Nat.le_of_ble_eq_true rfl, Nat.le_of_ble_eq_true rfl⟩ ⟨by omega, by omega⟩ rfl (Nat.le_of_ble_eq_true rfl) dX1_init_25 (fun q7 _ => ?_)
  refine j_putF (pc := 28) X hN (C := RX1) (T := TX1) (N := 9) wz_X1 tyX1 tyX1_ok nmX1 0 rfl rfl 1 (by decide) wf_X1_20 rfl rfl rfl rfl (Nat.le_of_ble_eq_true rfl) (w' := [(a, .inr (1, [.ref h1, .ref h2, .null, .null, .null, .int 0, .int 0, .int 0, .int 0])), (h1, .inr (2, [.ref q6, .int (nI 5), .int (nI 3), .int (nI 0)])), (q6, .inl (tA 0, 5 * 3, .inl (nF (fun _ => 0)))), (h2, .inr (2, [.ref q7, .int (nI 8), .int (nI 2), .int (nI 0)])), (q7, .inl (tA 0, 8 * 2, .inl (nF (fun _ => 0))))]) rfl dX1_init_28 ?_
  refine j_aload_n (pc := 31) X dX1_init_31 rfl (q := 0) rfl ?_
  refine j_new (pc := 32) X (C := RX2) (T := TX2) (N := 4) (ci := 2) (fs := [.null, .int 0, .int 0, .int 0]) wz_X2 tyX2 tyX2_ok wl_X1_9 wn_X2 wi_X2 rfl df_X2 ⟨by omega, by omega⟩ dX1_init_32 (fun h3 => ?_)
  refine j_dup (pc := 35) X dX1_init_35 rfl ?_
  refine j_bipush (pc := 36) X (v := nI 30) dX1_init_36 (by decide +kernel) ?_
  refine j_bipush (pc := 38) X (v := nI 8) dX1_init_38 (by decide +kernel) ?_
  refine j_callI (pc := 40) X (As := [.int (nI 30), .int (nI 8)]) (st := [.ref h3, .ref a]) (cz_X2_init l D tA h3 30 8 (by decide) (by decide) (by decide)) wc_X2_init wi_X2 wk_X2_init wm_X1_11 rfl (by decide +kernel) ⟨Nat.le_of_ble_eq_true rfl, Nat.le_of_ble_eq_true rfl⟩ ⟨by omega, by omega⟩ rfl (Nat.le_of_ble_eq_true rfl) dX1_init_40 (fun q8 _ => ?_)
  refine j_putF (pc := 43) X hN (C := RX1) (T := TX1) (N := 9) wz_X1 tyX1 tyX1_ok nmX1 0 rfl rfl 2 (by decide) wf_X1_23 rfl rfl rfl rfl (Nat.le_of_ble_eq_true rfl) (w' := [(a, .inr (1, [.ref h1, .ref h2, .ref h3, .null, .null, .int 0, .int 0, .int 0, .int 0])), (h1, .inr (2, [.ref q6, .int (nI 5), .int (nI 3), .int (nI 0)])), (q6, .inl (tA 0, 5 * 3, .inl (nF (fun _ => 0)))), (h2, .inr (2, [.ref q7, .int (nI 8), .int (nI 2), .int (nI 0)])), (q7, .inl (tA 0, 8 * 2, .inl (nF (fun _ => 0)))), (h3, .inr (2, [.ref q8, .int (nI 30), .int (nI 8), .int (nI 0)])), (q8, .inl (tA 0, 30 * 8, .inl (nF (fun _ => 0))))]) rfl dX1_init_43 ?_
  refine j_aload_n (pc := 46) X dX1_init_46 rfl (q := 0) rfl ?_
  refine j_new (pc := 47) X (C := RX2) (T := TX2) (N := 4) (ci := 2) (fs := [.null, .int 0, .int 0, .int 0]) wz_X2 tyX2 tyX2_ok wl_X1_9 wn_X2 wi_X2 rfl df_X2 ⟨by omega, by omega⟩ dX1_init_47 (fun h4 => ?_)
  refine j_dup (pc := 50) X dX1_init_50 rfl ?_
  refine j_bipush (pc := 51) X (v := nI 10) dX1_init_51 (by decide +kernel) ?_
  refine j_iconst (pc := 53) X (v := nI 5) dX1_init_53 (by decide +kernel) ?_
  refine j_callI (pc := 54) X (As := [.int (nI 10), .int (nI 5)]) (st := [.ref h4, .ref a]) (cz_X2_init l D tA h4 10 5 (by decide) (by decide) (by decide)) wc_X2_init wi_X2 wk_X2_init wm_X1_11 rfl (by decide +kernel) ⟨Nat.le_of_ble_eq_true rfl, Nat.le_of_ble_eq_true rfl⟩ ⟨by omega, by omega⟩ rfl (Nat.le_of_ble_eq_true rfl) dX1_init_54 (fun q9 _ => ?_)
  refine j_putF (pc := 57) X hN (C := RX1) (T := TX1) (N := 9) wz_X1 tyX1 tyX1_ok nmX1 0 rfl rfl 3 (by decide) wf_X1_26 rfl rfl rfl rfl (Nat.le_of_ble_eq_true rfl) (w' := [(a, .inr (1, [.ref h1, .ref h2, .ref h3, .ref h4, .null, .int 0, .int 0, .int 0, .int 0])), (h1, .inr (2, [.ref q6, .int (nI 5), .int (nI 3), .int (nI 0)])), (q6, .inl (tA 0, 5 * 3, .inl (nF (fun _ => 0)))), (h2, .inr (2, [.ref q7, .int (nI 8), .int (nI 2), .int (nI 0)])), (q7, .inl (tA 0, 8 * 2, .inl (nF (fun _ => 0)))), (h3, .inr (2, [.ref q8, .int (nI 30), .int (nI 8), .int (nI 0)])), (q8, .inl (tA 0, 30 * 8, .inl (nF (fun _ => 0)))), (h4, .inr (2, [.ref q9, .int (nI 10), .int (nI 5), .int (nI 0)])), (q9, .inl (tA 0, 10 * 5, .inl (nF (fun _ => 0))))]) rfl dX1_init_57 ?_
  refine j_aload_n (pc := 60) X dX1_init_60 rfl (q := 0) rfl ?_
  refine j_sipush (pc := 61) X (v := nI 200) dX1_init_61 (by decide +kernel) ?_
  refine j_newi (pc := 64) X (by decide) ⟨by omega, by omega⟩ dX1_init_64 (fun q5 => ?_)
  refine j_putF (pc := 66) X hN (C := RX1) (T := TX1) (N := 9) wz_X1 tyX1 tyX1_ok nmX1 0 rfl rfl 4 (by decide) wf_X1_29 rfl rfl rfl rfl (Nat.le_of_ble_eq_true rfl) (w' := [(a, .inr (1, [.ref h1, .ref h2, .ref h3, .ref h4, .ref q5, .int 0, .int 0, .int 0, .int 0])), (h1, .inr (2, [.ref q6, .int (nI 5), .int (nI 3), .int (nI 0)])), (q6, .inl (tA 0, 5 * 3, .inl (nF (fun _ => 0)))), (h2, .inr (2, [.ref q7, .int (nI 8), .int (nI 2), .int (nI 0)])), (q7, .inl (tA 0, 8 * 2, .inl (nF (fun _ => 0)))), (h3, .inr (2, [.ref q8, .int (nI 30), .int (nI 8), .int (nI 0)])), (q8, .inl (tA 0, 30 * 8, .inl (nF (fun _ => 0)))), (h4, .inr (2, [.ref q9, .int (nI 10), .int (nI 5), .int (nI 0)])), (q9, .inl (tA 0, 10 * 5, .inl (nF (fun _ => 0)))), (q5, .inl (tA 0, 200, .inl (nF (fun _ => 0))))]) rfl dX1_init_66 ?_
  refine j_perm [0, 9, 1, 2, 3, 4, 5, 6, 7, 8] rfl (w' := stW tA (ad10 a h1 h2 h3 h4 q5 q6 q7 q8 q9) s0) rfl ?_
  exact j_endVz (pc := 69) E dX1_init_69 (ad10 a h1 h2 h3 h4 q5 q6 q7 q8 q9) rfl rfl
