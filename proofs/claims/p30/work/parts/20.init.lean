abbrev z0 : Tb := (0, fun _ => 0)
set_option maxHeartbeats 4000000 in
set_option maxRecDepth 100000 in
theorem cz_X2_init (l : Launch) (D : va_G) (tA : Nat → ClassId) (h most cols : Nat) (hm : most < 65536) (hc : cols < 65536) (hmc : most * cols < 65536) : Kz l D tA yX2_init cX2_init 3 1 14 1 (most * cols) [.ref h, .int (nI most), .int (nI cols)] [(h, .inr (2, [.null, .int 0, .int 0, .int 0]))] (fun _ : Nat => True) (fun q => tbW tA h q most cols z0) := by
  refine kz_void rfl rfl (Nat.le_of_ble_eq_true rfl) (fun G X hR hN E => ?_)
  show J l D G 0 0 [(h, .inr (2, [.null, .int 0, .int 0, .int 0]))] [(0, .ref h), (1, .int (nI most)), (2, .int (nI cols))] 0 []
  refine j_aload_n (pc := 0) X dX2_init_0 rfl (q := 0) rfl ?_
  refine j_obj (pc := 1) X wm_X2_3 ⟨Nat.le_of_ble_eq_true rfl, Nat.le_of_ble_eq_true rfl⟩ dX2_init_1 ?_
  refine j_aload_n (pc := 4) X dX2_init_4 rfl (q := 0) rfl ?_
  refine j_iload_n (pc := 5) X dX2_init_5 rfl (q := 1) rfl ?_
  refine j_putF (pc := 6) X hN (C := RX2) (T := TX2) (N := 4) wz_X2 tyX2 tyX2_ok nmX2 0 rfl rfl 1 (by decide) wf_X2_9 rfl rfl rfl rfl (Nat.le_of_ble_eq_true rfl) (w' := [(h, .inr (2, [.null, .int (nI most), .int 0, .int 0]))]) rfl dX2_init_6 ?_
  refine j_aload_n (pc := 9) X dX2_init_9 rfl (q := 0) rfl ?_
  refine j_iload_n (pc := 10) X dX2_init_10 rfl (q := 2) rfl ?_
  refine j_putF (pc := 11) X hN (C := RX2) (T := TX2) (N := 4) wz_X2 tyX2 tyX2_ok nmX2 0 rfl rfl 2 (by decide) wf_X2_15 rfl rfl rfl rfl (Nat.le_of_ble_eq_true rfl) (w' := [(h, .inr (2, [.null, .int (nI most), .int (nI cols), .int 0]))]) rfl dX2_init_11 ?_
  refine j_aload_n (pc := 14) X dX2_init_14 rfl (q := 0) rfl ?_
  refine j_iload_n (pc := 15) X dX2_init_15 rfl (q := 1) rfl ?_
  refine j_iload_n (pc := 16) X dX2_init_16 rfl (q := 2) rfl ?_
  refine j_imul (pc := 17) X (v := nI (most * cols)) dX2_init_17 (pk_mul _ _) ?_
  refine j_iconst (pc := 18) X (v := nI 0) dX2_init_18 (by decide) ?_
  refine j_mmax (pc := 19) X wm_X2_18 (Nat.le_of_ble_eq_true rfl) (Nat.le_of_ble_eq_true rfl) ⟨Nat.zero_le _, Nat.zero_le _⟩ (v := nI (most * cols)) (by rw [nI_max (by omega) (by decide), Nat.max_eq_left (Nat.zero_le _)]) dX2_init_19 ?_
  refine j_newi (pc := 22) X hmc ⟨hR.1, by rw [Nat.zero_add]; exact hR.2⟩ dX2_init_22 (fun q => ?_)
  refine j_putF (pc := 24) X hN (C := RX2) (T := TX2) (N := 4) wz_X2 tyX2 tyX2_ok nmX2 0 rfl rfl 0 (by decide) wf_X2_24 rfl rfl rfl rfl (Nat.le_of_ble_eq_true rfl) (w' := tbW tA h q most cols z0) rfl dX2_init_24 ?_
  refine j_wd 1 (most * cols) (Nat.le_refl _) (by rw [Nat.zero_add]; exact Nat.le_refl _) ?_
  exact j_endVz (pc := 27) E dX2_init_27 q trivial rfl
theorem df_X2 : ∀ j, j < 4 → defaultValue (tyX2 j) = vp_V [.null, .int 0, .int 0, .int 0] j := fun j hj => by
  rcases (show j = 0 ∨ j = 1 ∨ j = 2 ∨ j = 3 by omega) with rfl | rfl | rfl | rfl <;> rfl
def ad4 (a b c d : Nat) : Nat → Nat
  | 0 => a
  | 1 => b
  | 2 => c
  | _ => d
set_option maxHeartbeats 4000000 in
set_option maxRecDepth 100000 in
theorem cz_X3_init (l : Launch) (D : va_G) (tA : Nat → ClassId) (a : Nat) : Kz l D tA yX3_init cX3_init 1 2 36 3 94 [.ref a] [(a, .inr (3, [.null, .int 0, .int 0, .null]))] (fun _ : Nat × Nat × Nat => True) (fun q => txW tA (ad4 a q.1 q.2.1 q.2.2) (fun _ => 0) 0 0 z0) := by
  refine kz_void rfl rfl (Nat.le_of_ble_eq_true rfl) (fun G X hR hN E => ?_)
  show J l D G 0 0 [(a, .inr (3, [.null, .int 0, .int 0, .null]))] [(0, .ref a)] 0 []
  refine j_aload_n (pc := 0) X dX3_init_0 rfl (q := 0) rfl ?_
  refine j_obj (pc := 1) X wm_X3_3 ⟨Nat.le_of_ble_eq_true rfl, Nat.le_of_ble_eq_true rfl⟩ dX3_init_1 ?_
  refine j_aload_n (pc := 4) X dX3_init_4 rfl (q := 0) rfl ?_
  refine j_bipush (pc := 5) X (v := nI 60) dX3_init_5 (by decide +kernel) ?_
  refine j_newc (pc := 7) X (by decide) ⟨by omega, by omega⟩ dX3_init_7 (fun q1 => ?_)
  refine j_putF (pc := 9) X hN (C := RX3) (T := TX3) (N := 4) wz_X3 tyX3 tyX3_ok nmX3 0 rfl rfl 0 (by decide) wf_X3_9 rfl rfl rfl rfl (Nat.le_of_ble_eq_true rfl) (w' := [(a, .inr (3, [.ref q1, .int 0, .int 0, .null])), (q1, .inl (tA 1, 60, .inl (nF (fun _ => 0))))]) rfl dX3_init_9 ?_
  refine j_aload_n (pc := 12) X dX3_init_12 rfl (q := 0) rfl ?_
  refine j_new (pc := 13) X (C := RX2) (T := TX2) (N := 4) (ci := 2) (fs := [.null, .int 0, .int 0, .int 0]) wz_X2 tyX2 tyX2_ok wl_X3_15 wn_X2 wi_X2 rfl df_X2 ⟨by omega, by omega⟩ dX3_init_13 (fun h2 => ?_)
  refine j_dup (pc := 16) X dX3_init_16 rfl ?_
  refine j_bipush (pc := 17) X (v := nI 15) dX3_init_17 (by decide +kernel) ?_
  refine j_iconst (pc := 19) X (v := nI 2) dX3_init_19 (by decide +kernel) ?_
  refine j_callI (pc := 20) X (As := [.int (nI 15), .int (nI 2)]) (st := [.ref h2, .ref a]) (cz_X2_init l D tA h2 15 2 (by decide) (by decide) (by decide)) wc_X2_init wi_X2 wk_X2_init wm_X3_17 rfl (by decide +kernel) ⟨Nat.le_of_ble_eq_true rfl, Nat.le_of_ble_eq_true rfl⟩ ⟨by omega, by omega⟩ rfl (Nat.le_of_ble_eq_true rfl) dX3_init_20 (fun q3 _ => ?_)
  refine j_putF (pc := 23) X hN (C := RX3) (T := TX3) (N := 4) wz_X3 tyX3 tyX3_ok nmX3 0 rfl rfl 3 (by decide) wf_X3_20 rfl rfl rfl rfl (Nat.le_of_ble_eq_true rfl) (w' := txW tA (ad4 a q1 h2 q3) (fun _ => 0) 0 0 z0) rfl dX3_init_23 ?_
  exact j_endVz (pc := 26) E dX3_init_26 (q1, h2, q3) trivial rfl
theorem j_perm {l : Launch} {D : va_G} {G : kCx} {n k : Nat} {w w' : va_W} {lv : List (Nat × Value)} {pc : Nat} {st : List Value} (is : List Nat) (hn : va_nd is = true) (hs : is.map (fun i => w[i]?) = w'.map some) (kk : J l D G n k w' lv pc st) : J l D G n k w lv pc st := fun H locs ls hP hD hS hl => kk H locs ls (kSub hP hs) (hD.sub is hn hs) hS hl
def ad10 (a0 a1 a2 a3 a4 a5 a6 a7 a8 a9 : Nat) : Nat → Nat
  | 0 => a0
  | 1 => a1
  | 2 => a2
  | 3 => a3
  | 4 => a4
  | 5 => a5
  | 6 => a6
  | 7 => a7
  | 8 => a8
  | _ => a9
abbrev s0 : Sg := (z0, z0, z0, z0, fun _ => 0, 0, 0, 0, 0)
theorem df_X1 : ∀ j, j < 9 → defaultValue (tyX1 j) = vp_V [.null, .null, .null, .null, .null, .int 0, .int 0, .int 0, .int 0] j := fun j hj => by
  rcases (show j = 0 ∨ j = 1 ∨ j = 2 ∨ j = 3 ∨ j = 4 ∨ j = 5 ∨ j = 6 ∨ j = 7 ∨ j = 8 by omega) with rfl | rfl | rfl | rfl | rfl | rfl | rfl | rfl | rfl <;> rfl
set_option maxHeartbeats 4000000 in
set_option maxRecDepth 100000 in
theorem cz_X1_init (l : Launch) (D : va_G) (tA : Nat → ClassId) (a : Nat) : Kz l D tA yX1_init cX1_init 1 2 36 9 537 [.ref a] [(a, .inr (1, [.null, .null, .null, .null, .null, .int 0, .int 0, .int 0, .int 0]))] (fun b : Nat → Nat => b 0 = a) (fun b => stW tA b s0) := by
  refine kz_void rfl rfl (Nat.le_of_ble_eq_true rfl) (fun G X hR hN E => ?_)
  show J l D G 0 0 [(a, .inr (1, [.null, .null, .null, .null, .null, .int 0, .int 0, .int 0, .int 0]))] [(0, .ref a)] 0 []
  refine j_aload_n (pc := 0) X dX1_init_0 rfl (q := 0) rfl ?_
  refine j_obj (pc := 1) X wm_X1_3 ⟨Nat.le_of_ble_eq_true rfl, Nat.le_of_ble_eq_true rfl⟩ dX1_init_1 ?_
  refine j_aload_n (pc := 4) X dX1_init_4 rfl (q := 0) rfl ?_
  refine j_new (pc := 5) X (C := RX2) (T := TX2) (N := 4) (ci := 2) (fs := [.null, .int 0, .int 0, .int 0]) wz_X2 tyX2 tyX2_ok wl_X1_9 wn_X2 wi_X2 rfl df_X2 ⟨by omega, by omega⟩ dX1_init_5 (fun h1 => ?_)
  refine j_dup (pc := 8) X dX1_init_8 rfl ?_
  refine j_iconst (pc := 9) X (v := nI 5) dX1_init_9 (by decide +kernel) ?_
  refine j_iconst (pc := 10) X (v := nI 3) dX1_init_10 (by decide +kernel) ?_
  refine j_callI (pc := 11) X (As := [.int (nI 5), .int (nI 3)]) (st := [.ref h1, .ref a]) (cz_X2_init l D tA h1 5 3 (by decide) (by decide) (by decide)) wc_X2_init wi_X2 wk_X2_init wm_X1_11 rfl (by decide +kernel) ⟨Nat.le_of_ble_eq_true rfl, Nat.le_of_ble_eq_true rfl⟩ ⟨by omega, by omega⟩ rfl (Nat.le_of_ble_eq_true rfl) dX1_init_11 (fun q6 _ => ?_)
  refine j_putF (pc := 14) X hN (C := RX1) (T := TX1) (N := 9) wz_X1 tyX1 tyX1_ok nmX1 0 rfl rfl 0 (by decide) wf_X1_14 rfl rfl rfl rfl (Nat.le_of_ble_eq_true rfl) (w' := [(a, .inr (1, [.ref h1, .null, .null, .null, .null, .int 0, .int 0, .int 0, .int 0])), (h1, .inr (2, [.ref q6, .int (nI 5), .int (nI 3), .int (nI 0)])), (q6, .inl (tA 0, 5 * 3, .inl (nF (fun _ => 0))))]) rfl dX1_init_14 ?_
  refine j_aload_n (pc := 17) X dX1_init_17 rfl (q := 0) rfl ?_
  refine j_new (pc := 18) X (C := RX2) (T := TX2) (N := 4) (ci := 2) (fs := [.null, .int 0, .int 0, .int 0]) wz_X2 tyX2 tyX2_ok wl_X1_9 wn_X2 wi_X2 rfl df_X2 ⟨by omega, by omega⟩ dX1_init_18 (fun h2 => ?_)
  refine j_dup (pc := 21) X dX1_init_21 rfl ?_
  refine j_bipush (pc := 22) X (v := nI 8) dX1_init_22 (by decide +kernel) ?_
  refine j_iconst (pc := 24) X (v := nI 2) dX1_init_24 (by decide +kernel) ?_
  refine j_callI (pc := 25) X (As := [.int (nI 8), .int (nI 2)]) (st := [.ref h2, .ref a]) (cz_X2_init l D tA h2 8 2 (by decide) (by decide) (by decide)) wc_X2_init wi_X2 wk_X2_init wm_X1_11 rfl (by decide +kernel) ⟨Nat.le_of_ble_eq_true rfl, Nat.le_of_ble_eq_true rfl⟩ ⟨by omega, by omega⟩ rfl (Nat.le_of_ble_eq_true rfl) dX1_init_25 (fun q7 _ => ?_)
  refine j_putF (pc := 28) X hN (C := RX1) (T := TX1) (N := 9) wz_X1 tyX1 tyX1_ok nmX1 0 rfl rfl 1 (by decide) wf_X1_20 rfl rfl rfl rfl (Nat.le_of_ble_eq_true rfl) (w' := [(a, .inr (1, [.ref h1, .ref h2, .null, .null, .null, .int 0, .int 0, .int 0, .int 0])), (h1, .inr (2, [.ref q6, .int (nI 5), .int (nI 3), .int (nI 0)])), (q6, .inl (tA 0, 5 * 3, .inl (nF (fun _ => 0)))), (h2, .inr (2, [.ref q7, .int (nI 8), .int (nI 2), .int (nI 0)])), (q7, .inl (tA 0, 8 * 2, .inl (nF (fun _ => 0))))]) rfl dX1_init_28 ?_
  refine j_aload_n (pc := 31) X dX1_init_31 rfl (q := 0) rfl ?_
  refine j_new (pc := 32) X (C := RX2) (T := TX2) (N := 4) (ci := 2) (fs := [.null, .int 0, .int 0, .int 0]) wz_X2 tyX2 tyX2_ok wl_X1_9 wn_X2 wi_X2 rfl df_X2 ⟨by omega, by omega⟩ dX1_init_32 (fun h3 => ?_)
  refine j_dup (pc := 35) X dX1_init_35 rfl ?_
  refine j_bipush (pc := 36) X (v := nI 30) dX1_init_36 (by decide +kernel) ?_
  refine j_bipush (pc := 38) X (v := nI 8) dX1_init_38 (by decide +kernel) ?_
  refine j_callI (pc := 40) X (As := [.int (nI 30), .int (nI 8)]) (st := [.ref h3, .ref a]) (cz_X2_init l D tA h3 30 8 (by decide) (by decide) (by decide)) wc_X2_init wi_X2 wk_X2_init wm_X1_11 rfl (by decide +kernel) ⟨Nat.le_of_ble_eq_true rfl, Nat.le_of_ble_eq_true rfl⟩ ⟨by omega, by omega⟩ rfl (Nat.le_of_ble_eq_true rfl) dX1_init_40 (fun q8 _ => ?_)
  refine j_putF (pc := 43) X hN (C := RX1) (T := TX1) (N := 9) wz_X1 tyX1 tyX1_ok nmX1 0 rfl rfl 2 (by decide) wf_X1_23 rfl rfl rfl rfl (Nat.le_of_ble_eq_true rfl) (w' := [(a, .inr (1, [.ref h1, .ref h2, .ref h3, .null, .null, .int 0, .int 0, .int 0, .int 0])), (h1, .inr (2, [.ref q6, .int (nI 5), .int (nI 3), .int (nI 0)])), (q6, .inl (tA 0, 5 * 3, .inl (nF (fun _ => 0)))), (h2, .inr (2, [.ref q7, .int (nI 8), .int (nI 2), .int (nI 0)])), (q7, .inl (tA 0, 8 * 2, .inl (nF (fun _ => 0)))), (h3, .inr (2, [.ref q8, .int (nI 30), .int (nI 8), .int (nI 0)])), (q8, .inl (tA 0, 30 * 8, .inl (nF (fun _ => 0))))]) rfl dX1_init_43 ?_
  refine j_aload_n (pc := 46) X dX1_init_46 rfl (q := 0) rfl ?_
  refine j_new (pc := 47) X (C := RX2) (T := TX2) (N := 4) (ci := 2) (fs := [.null, .int 0, .int 0, .int 0]) wz_X2 tyX2 tyX2_ok wl_X1_9 wn_X2 wi_X2 rfl df_X2 ⟨by omega, by omega⟩ dX1_init_47 (fun h4 => ?_)
  refine j_dup (pc := 50) X dX1_init_50 rfl ?_
  refine j_bipush (pc := 51) X (v := nI 10) dX1_init_51 (by decide +kernel) ?_
  refine j_iconst (pc := 53) X (v := nI 5) dX1_init_53 (by decide +kernel) ?_
  refine j_callI (pc := 54) X (As := [.int (nI 10), .int (nI 5)]) (st := [.ref h4, .ref a]) (cz_X2_init l D tA h4 10 5 (by decide) (by decide) (by decide)) wc_X2_init wi_X2 wk_X2_init wm_X1_11 rfl (by decide +kernel) ⟨Nat.le_of_ble_eq_true rfl, Nat.le_of_ble_eq_true rfl⟩ ⟨by omega, by omega⟩ rfl (Nat.le_of_ble_eq_true rfl) dX1_init_54 (fun q9 _ => ?_)
  refine j_putF (pc := 57) X hN (C := RX1) (T := TX1) (N := 9) wz_X1 tyX1 tyX1_ok nmX1 0 rfl rfl 3 (by decide) wf_X1_26 rfl rfl rfl rfl (Nat.le_of_ble_eq_true rfl) (w' := [(a, .inr (1, [.ref h1, .ref h2, .ref h3, .ref h4, .null, .int 0, .int 0, .int 0, .int 0])), (h1, .inr (2, [.ref q6, .int (nI 5), .int (nI 3), .int (nI 0)])), (q6, .inl (tA 0, 5 * 3, .inl (nF (fun _ => 0)))), (h2, .inr (2, [.ref q7, .int (nI 8), .int (nI 2), .int (nI 0)])), (q7, .inl (tA 0, 8 * 2, .inl (nF (fun _ => 0)))), (h3, .inr (2, [.ref q8, .int (nI 30), .int (nI 8), .int (nI 0)])), (q8, .inl (tA 0, 30 * 8, .inl (nF (fun _ => 0)))), (h4, .inr (2, [.ref q9, .int (nI 10), .int (nI 5), .int (nI 0)])), (q9, .inl (tA 0, 10 * 5, .inl (nF (fun _ => 0))))]) rfl dX1_init_57 ?_
  refine j_aload_n (pc := 60) X dX1_init_60 rfl (q := 0) rfl ?_
  refine j_sipush (pc := 61) X (v := nI 200) dX1_init_61 (by decide +kernel) ?_
  refine j_newi (pc := 64) X (by decide) ⟨by omega, by omega⟩ dX1_init_64 (fun q5 => ?_)
  refine j_putF (pc := 66) X hN (C := RX1) (T := TX1) (N := 9) wz_X1 tyX1 tyX1_ok nmX1 0 rfl rfl 4 (by decide) wf_X1_29 rfl rfl rfl rfl (Nat.le_of_ble_eq_true rfl) (w' := [(a, .inr (1, [.ref h1, .ref h2, .ref h3, .ref h4, .ref q5, .int 0, .int 0, .int 0, .int 0])), (h1, .inr (2, [.ref q6, .int (nI 5), .int (nI 3), .int (nI 0)])), (q6, .inl (tA 0, 5 * 3, .inl (nF (fun _ => 0)))), (h2, .inr (2, [.ref q7, .int (nI 8), .int (nI 2), .int (nI 0)])), (q7, .inl (tA 0, 8 * 2, .inl (nF (fun _ => 0)))), (h3, .inr (2, [.ref q8, .int (nI 30), .int (nI 8), .int (nI 0)])), (q8, .inl (tA 0, 30 * 8, .inl (nF (fun _ => 0)))), (h4, .inr (2, [.ref q9, .int (nI 10), .int (nI 5), .int (nI 0)])), (q9, .inl (tA 0, 10 * 5, .inl (nF (fun _ => 0)))), (q5, .inl (tA 0, 200, .inl (nF (fun _ => 0))))]) rfl dX1_init_66 ?_
  refine j_perm [0, 9, 1, 2, 3, 4, 5, 6, 7, 8] rfl (w' := stW tA (ad10 a h1 h2 h3 h4 q5 q6 q7 q8 q9) s0) rfl ?_
  exact j_endVz (pc := 69) E dX1_init_69 (ad10 a h1 h2 h3 h4 q5 q6 q7 q8 q9) rfl rfl
section
variable {l : Launch} {D : va_G} {tA : Nat → ClassId} {G : kCx} {cc : ByteArray} {nL : Nat} {own : String} {fr lo n k : Nat} {w : va_W} {lv : List (Nat × Value)} {pc : Nat} {st : List Value}
theorem j_aast (X : kX D tA G cc nL own fr lo) (q0 qk ci : Nat) {a N i v : Nat} {vs : List Value} {f : Nat → Option Nat} {r : vw_C} (he : w[q0]? = some (a, .inl (tA 2, N, .inr (.inr (.inr (.inr f)))))) (hv : w[qk]? = some (v, .inr (ci, vs))) (hc : vwCl[ci]? = some r) (hr : r.1 = "BallastClub$State") (hi : i < N) (hN : N < 65536) {w' : va_W} (hw : w.set q0 (a, .inl (tA 2, N, .inr (.inr (.inr (.inr (va_up f i (some v))))))) = w') (hdg : decode cc pc = .ok (.aastore, 1)) (kk : J l D G n k w' lv (pc + 1) st) : J l D G n k w lv pc (.ref v :: .int (nI i) :: .ref a :: st) :=
  fun H locs ls hP hD hS hl => va_astq (D := D) (cl := vwCl) (ws := w) (tys := kTY tA) X.1 X.2.1 X.2.2.2.2.2.1.1 hP hD hS q0 2 qk ci he (by rw [hr]; rfl) hv hc (vp_in_nI hi (by omega)) hdg (fun H1 locs1 hP1 hD1 hS1 => by
    rw [nI_clamp (by omega), hw] at hP1 hD1
    exact kk H1 locs1 ls hP1 hD1 hS1 hl)
theorem arq_eq {cA : ClassId} {N : Nat} {f f' : Nat → Option Nat} (h : ∀ j, j < N → f j = f' j) : vp_cell cA (N, .inr (.inr (.inr (.inr f)))) = vp_cell cA (N, .inr (.inr (.inr (.inr f')))) := by
  have e : (fun j : Fin N => va_rf (f j.val)) = (fun j : Fin N => va_rf (f' j.val)) := funext (fun j => by rw [h j.val j.isLt])
  exact congrArg (fun g : Fin N → Value => ({ cls := cA, slots := Array.ofFn g, vm := .none } : Cell)) e
theorem j_arq (q0 : Nat) {a N : Nat} {f f' : Nat → Option Nat} (he : w[q0]? = some (a, .inl (tA 2, N, .inr (.inr (.inr (.inr f)))))) (hf : ∀ j, j < N → f j = f' j) {w' : va_W} (hw : w.set q0 (a, .inl (tA 2, N, .inr (.inr (.inr (.inr f'))))) = w') (kk : J l D G n k w' lv pc st) : J l D G n k w lv pc st := by
  subst hw
  intro H locs ls hP hD hS hl
  have hlen := (List.getElem?_eq_some_iff.mp he).1
  refine kk H locs ls (fun j q hj => ?_) (hD.set he) hS hl
  by_cases z : j = q0
  · subst z
    rw [List.getElem?_set_self hlen] at hj
    cases hj
    have h := hP j _ he
    simp only [va_at] at h ⊢
    rw [← arq_eq hf]
    exact h
  · rw [List.getElem?_set_ne (fun h => z h.symm)] at hj
    exact hP j q hj
end
def ad2 (a b : Nat) : Nat → Nat
  | 0 => a
  | _ => b
def dd4 (b0 b1 b2 b3 : Nat → Nat) : Nat → Nat → Nat
  | 0 => b0
  | 1 => b1
  | 2 => b2
  | _ => b3
set_option maxHeartbeats 4000000 in
set_option maxRecDepth 100000 in
theorem cz_X0_init (l : Launch) (D : va_G) (tA : Nat → ClassId) (a : Nat) : Kz l D tA yX0_init cX0_init 2 3 56 41 2188 [.ref a] [(a, .inr (0, [.null, .int 0, .int 0]))] (fun u : (Nat → Nat) × (Nat → Nat → Nat) => u.1 0 = a) (fun u => hsW tA u.1 u.2 (fun _ => s0, 0, 0)) := by
  refine kz_void rfl rfl (Nat.le_of_ble_eq_true rfl) (fun G X hR hN E => ?_)
  show J l D G 0 0 [(a, .inr (0, [.null, .int 0, .int 0]))] [(0, .ref a)] 0 []
  refine j_aload_n (pc := 0) X dX0_init_0 rfl (q := 0) rfl ?_
  refine j_obj (pc := 1) X wm_X0_3 ⟨Nat.le_of_ble_eq_true rfl, Nat.le_of_ble_eq_true rfl⟩ dX0_init_1 ?_
  refine j_aload_n (pc := 4) X dX0_init_4 rfl (q := 0) rfl ?_
  refine j_iconst (pc := 5) X (v := nI 4) dX0_init_5 (by decide +kernel) ?_
  refine j_newq (pc := 6) X wl_X0_9 (by decide) ⟨by omega, by omega⟩ dX0_init_6 (fun q1 => ?_)
  refine j_putF (pc := 9) X hN (C := RX0) (T := TX0) (N := 3) wz_X0 tyX0 tyX0_ok nmX0 0 rfl rfl 0 (by decide) wf_X0_11 rfl rfl rfl rfl (Nat.le_of_ble_eq_true rfl) (w' := [(a, .inr (0, [.ref q1, .int 0, .int 0])), (q1, .inl (tA 2, 4, .inr (.inr (.inr (.inr (fun _ => none))))))]) rfl dX0_init_9 ?_
  refine j_iconst (pc := 12) X (v := nI 0) dX0_init_12 (by decide +kernel) ?_
  refine j_istore_n (pc := 13) X (lv' := [(1, .int (nI 0)), (0, .ref a)]) dX0_init_13 rfl (by decide) rfl ?_
  refine j_iload_n (pc := 14) X dX0_init_14 rfl (q := 0) rfl ?_
  refine j_iconst (pc := 15) X (v := nI 4) dX0_init_15 (by decide +kernel) ?_
  refine j_icmp_ge_f (pc := 16) X (tgt := 38) dX0_init_16 (by decide) (by decide +kernel) ?_
  refine j_aload_n (pc := 19) X dX0_init_19 rfl (q := 1) rfl ?_
  refine j_get (pc := 20) X (C := RX0) (T := TX0) (N := 3) wz_X0 0 rfl rfl 0 (by decide) wf_X0_11 rfl dX0_init_20 ?_
  refine j_iload_n (pc := 23) X dX0_init_23 rfl (q := 0) rfl ?_
  refine j_new (pc := 24) X (C := RX1) (T := TX1) (N := 9) (ci := 1) (fs := [.null, .null, .null, .null, .null, .int 0, .int 0, .int 0, .int 0]) wz_X1 tyX1 tyX1_ok wl_X0_9 wn_X1 wi_X1 rfl df_X1 ⟨by omega, by omega⟩ dX0_init_24 (fun x0 => ?_)
  refine j_dup (pc := 27) X dX0_init_27 rfl ?_
  refine j_callI (pc := 28) X (As := []) (st := [.ref x0, .int (nI 0), .ref q1]) (cz_X1_init l D tA x0) wc_X1_init wi_X1 wk_X1_init wm_X0_17 rfl (by decide +kernel) ⟨Nat.le_of_ble_eq_true rfl, Nat.le_of_ble_eq_true rfl⟩ ⟨by omega, by omega⟩ rfl (Nat.le_of_ble_eq_true rfl) dX0_init_28 (fun b0 e0 => ?_)
  subst e0
  refine j_aast (pc := 31) X 1 2 1 rfl rfl rfl rfl (by decide) (by decide) (w' := ([(a, .inr (0, [.ref q1, .int 0, .int 0])), (q1, .inl (tA 2, 4, .inr (.inr (.inr (.inr (va_up (fun _ => none) 0 (some (b0 0))))))))] ++ stW tA b0 s0)) rfl dX0_init_31 ?_
  refine j_iinc (pc := 32) X (v := nI 1) (lv' := [(1, .int (nI 1)), (0, .ref a)]) dX0_init_32 (q := 0) rfl (by decide +kernel) (by decide) rfl ?_
  refine j_goto (pc := 35) X (tgt := 14) dX0_init_35 (by decide) ?_
  refine j_iload_n (pc := 14) X dX0_init_14 rfl (q := 0) rfl ?_
  refine j_iconst (pc := 15) X (v := nI 4) dX0_init_15 (by decide +kernel) ?_
  refine j_icmp_ge_f (pc := 16) X (tgt := 38) dX0_init_16 (by decide) (by decide +kernel) ?_
  refine j_aload_n (pc := 19) X dX0_init_19 rfl (q := 1) rfl ?_
  refine j_get (pc := 20) X (C := RX0) (T := TX0) (N := 3) wz_X0 0 rfl rfl 0 (by decide) wf_X0_11 rfl dX0_init_20 ?_
  refine j_iload_n (pc := 23) X dX0_init_23 rfl (q := 0) rfl ?_
  refine j_new (pc := 24) X (C := RX1) (T := TX1) (N := 9) (ci := 1) (fs := [.null, .null, .null, .null, .null, .int 0, .int 0, .int 0, .int 0]) wz_X1 tyX1 tyX1_ok wl_X0_9 wn_X1 wi_X1 rfl df_X1 ⟨by omega, by omega⟩ dX0_init_24 (fun x1 => ?_)
  refine j_dup (pc := 27) X dX0_init_27 rfl ?_
  refine j_callI (pc := 28) X (As := []) (st := [.ref x1, .int (nI 1), .ref q1]) (cz_X1_init l D tA x1) wc_X1_init wi_X1 wk_X1_init wm_X0_17 rfl (by decide +kernel) ⟨Nat.le_of_ble_eq_true rfl, Nat.le_of_ble_eq_true rfl⟩ ⟨by omega, by omega⟩ rfl (Nat.le_of_ble_eq_true rfl) dX0_init_28 (fun b1 e1 => ?_)
  subst e1
  refine j_aast (pc := 31) X 1 12 1 rfl rfl rfl rfl (by decide) (by decide) (w' := (([(a, .inr (0, [.ref q1, .int 0, .int 0])), (q1, .inl (tA 2, 4, .inr (.inr (.inr (.inr (va_up (va_up (fun _ => none) 0 (some (b0 0))) 1 (some (b1 0))))))))] ++ stW tA b0 s0) ++ stW tA b1 s0)) rfl dX0_init_31 ?_
  refine j_iinc (pc := 32) X (v := nI 2) (lv' := [(1, .int (nI 2)), (0, .ref a)]) dX0_init_32 (q := 0) rfl (by decide +kernel) (by decide) rfl ?_
  refine j_goto (pc := 35) X (tgt := 14) dX0_init_35 (by decide) ?_
  refine j_iload_n (pc := 14) X dX0_init_14 rfl (q := 0) rfl ?_
  refine j_iconst (pc := 15) X (v := nI 4) dX0_init_15 (by decide +kernel) ?_
  refine j_icmp_ge_f (pc := 16) X (tgt := 38) dX0_init_16 (by decide) (by decide +kernel) ?_
  refine j_aload_n (pc := 19) X dX0_init_19 rfl (q := 1) rfl ?_
  refine j_get (pc := 20) X (C := RX0) (T := TX0) (N := 3) wz_X0 0 rfl rfl 0 (by decide) wf_X0_11 rfl dX0_init_20 ?_
  refine j_iload_n (pc := 23) X dX0_init_23 rfl (q := 0) rfl ?_
  refine j_new (pc := 24) X (C := RX1) (T := TX1) (N := 9) (ci := 1) (fs := [.null, .null, .null, .null, .null, .int 0, .int 0, .int 0, .int 0]) wz_X1 tyX1 tyX1_ok wl_X0_9 wn_X1 wi_X1 rfl df_X1 ⟨by omega, by omega⟩ dX0_init_24 (fun x2 => ?_)
  refine j_dup (pc := 27) X dX0_init_27 rfl ?_
  refine j_callI (pc := 28) X (As := []) (st := [.ref x2, .int (nI 2), .ref q1]) (cz_X1_init l D tA x2) wc_X1_init wi_X1 wk_X1_init wm_X0_17 rfl (by decide +kernel) ⟨Nat.le_of_ble_eq_true rfl, Nat.le_of_ble_eq_true rfl⟩ ⟨by omega, by omega⟩ rfl (Nat.le_of_ble_eq_true rfl) dX0_init_28 (fun b2 e2 => ?_)
  subst e2
  refine j_aast (pc := 31) X 1 22 1 rfl rfl rfl rfl (by decide) (by decide) (w' := ((([(a, .inr (0, [.ref q1, .int 0, .int 0])), (q1, .inl (tA 2, 4, .inr (.inr (.inr (.inr (va_up (va_up (va_up (fun _ => none) 0 (some (b0 0))) 1 (some (b1 0))) 2 (some (b2 0))))))))] ++ stW tA b0 s0) ++ stW tA b1 s0) ++ stW tA b2 s0)) rfl dX0_init_31 ?_
  refine j_iinc (pc := 32) X (v := nI 3) (lv' := [(1, .int (nI 3)), (0, .ref a)]) dX0_init_32 (q := 0) rfl (by decide +kernel) (by decide) rfl ?_
  refine j_goto (pc := 35) X (tgt := 14) dX0_init_35 (by decide) ?_
  refine j_iload_n (pc := 14) X dX0_init_14 rfl (q := 0) rfl ?_
  refine j_iconst (pc := 15) X (v := nI 4) dX0_init_15 (by decide +kernel) ?_
  refine j_icmp_ge_f (pc := 16) X (tgt := 38) dX0_init_16 (by decide) (by decide +kernel) ?_
  refine j_aload_n (pc := 19) X dX0_init_19 rfl (q := 1) rfl ?_
  refine j_get (pc := 20) X (C := RX0) (T := TX0) (N := 3) wz_X0 0 rfl rfl 0 (by decide) wf_X0_11 rfl dX0_init_20 ?_
  refine j_iload_n (pc := 23) X dX0_init_23 rfl (q := 0) rfl ?_
  refine j_new (pc := 24) X (C := RX1) (T := TX1) (N := 9) (ci := 1) (fs := [.null, .null, .null, .null, .null, .int 0, .int 0, .int 0, .int 0]) wz_X1 tyX1 tyX1_ok wl_X0_9 wn_X1 wi_X1 rfl df_X1 ⟨by omega, by omega⟩ dX0_init_24 (fun x3 => ?_)
  refine j_dup (pc := 27) X dX0_init_27 rfl ?_
  refine j_callI (pc := 28) X (As := []) (st := [.ref x3, .int (nI 3), .ref q1]) (cz_X1_init l D tA x3) wc_X1_init wi_X1 wk_X1_init wm_X0_17 rfl (by decide +kernel) ⟨Nat.le_of_ble_eq_true rfl, Nat.le_of_ble_eq_true rfl⟩ ⟨by omega, by omega⟩ rfl (Nat.le_of_ble_eq_true rfl) dX0_init_28 (fun b3 e3 => ?_)
  subst e3
  refine j_aast (pc := 31) X 1 32 1 rfl rfl rfl rfl (by decide) (by decide) (w' := (((([(a, .inr (0, [.ref q1, .int 0, .int 0])), (q1, .inl (tA 2, 4, .inr (.inr (.inr (.inr (va_up (va_up (va_up (va_up (fun _ => none) 0 (some (b0 0))) 1 (some (b1 0))) 2 (some (b2 0))) 3 (some (b3 0))))))))] ++ stW tA b0 s0) ++ stW tA b1 s0) ++ stW tA b2 s0) ++ stW tA b3 s0)) rfl dX0_init_31 ?_
  refine j_iinc (pc := 32) X (v := nI 4) (lv' := [(1, .int (nI 4)), (0, .ref a)]) dX0_init_32 (q := 0) rfl (by decide +kernel) (by decide) rfl ?_
  refine j_goto (pc := 35) X (tgt := 14) dX0_init_35 (by decide) ?_
  refine j_iload_n (pc := 14) X dX0_init_14 rfl (q := 0) rfl ?_
  refine j_iconst (pc := 15) X (v := nI 4) dX0_init_15 (by decide +kernel) ?_
  refine j_icmp_ge_t (pc := 16) X (tgt := 38) dX0_init_16 (by decide) (by decide +kernel) ?_
  refine j_arq (tA := tA) 1 (f' := fun i => some (dd4 b0 b1 b2 b3 i 0)) rfl (fun j hj => by rcases (show j = 0 ∨ j = 1 ∨ j = 2 ∨ j = 3 by omega) with rfl | rfl | rfl | rfl <;> rfl) (w' := (((([(a, .inr (0, [.ref q1, .int 0, .int 0])), (q1, .inl (tA 2, 4, .inr (.inr (.inr (.inr (fun i => some (dd4 b0 b1 b2 b3 i 0)))))))] ++ stW tA b0 s0) ++ stW tA b1 s0) ++ stW tA b2 s0) ++ stW tA b3 s0)) rfl ?_
  refine j_ws (w2 := hsW tA (ad2 a q1) (dd4 b0 b1 b2 b3) (fun _ => s0, 0, 0)) (by simp only [hsW, List.append_assoc]; rfl) ?_
  exact j_endVz (pc := 38) E dX0_init_38 (ad2 a q1, dd4 b0 b1 b2 b3) rfl rfl
