theorem df_X0 : ∀ j, j < 3 → defaultValue (tyX0 j) = vp_V [.null, .int 0, .int 0] j := fun j hj => by
  rcases (show j = 0 ∨ j = 1 ∨ j = 2 by omega) with rfl | rfl | rfl <;> rfl
theorem df_X3 : ∀ j, j < 4 → defaultValue (tyX3 j) = vp_V [.null, .int 0, .int 0, .null] j := fun j hj => by
  rcases (show j = 0 ∨ j = 1 ∨ j = 2 ∨ j = 3 by omega) with rfl | rfl | rfl | rfl <;> rfl
abbrev v0 : Hs := (fun _ => s0, 0, 0)
/-- the cells of a new club -/
def clZ (tA : Nat → ClassId) (c : Nat) (u : (Nat → Nat) × (Nat → Nat) × (Nat → Nat) × ((Nat → Nat) × (Nat → Nat → Nat)) × (Nat → Nat)) : va_W := clW c u.1 u.2.1 u.2.2.1 u.2.2.2.1.1 u.2.2.2.2 false ++ (stW tA u.1 s0 ++ (stW tA u.2.1 s0 ++ (stW tA u.2.2.1 s0 ++ (hsW tA u.2.2.2.1.1 u.2.2.2.1.2 v0 ++ txW tA u.2.2.2.2 (fun _ => 0) 0 0 z0))))
set_option maxHeartbeats 4000000 in
set_option maxRecDepth 100000 in
theorem cz_X4_init (l : Launch) (D : va_G) (tA : Nat → ClassId) (c : Nat) : Kz l D tA yX4_init cX4_init 1 4 77 76 3927 [.ref c] [(c, .inr (4, [.null, .null, .null, .null, .null, .int 0]))] (fun _ : (Nat → Nat) × (Nat → Nat) × (Nat → Nat) × ((Nat → Nat) × (Nat → Nat → Nat)) × (Nat → Nat) => True) (fun u => clZ tA c u) := by
  refine kz_void rfl rfl (Nat.le_of_ble_eq_true rfl) (fun G X hR hN E => ?_)
  show J l D G 0 0 [(c, .inr (4, [.null, .null, .null, .null, .null, .int 0]))] [(0, .ref c)] 0 []
  refine j_aload_n (pc := 0) X dX4_init_0 rfl (q := 0) rfl ?_
  refine j_obj (pc := 1) X wm_X4_3 ⟨Nat.le_of_ble_eq_true rfl, Nat.le_of_ble_eq_true rfl⟩ dX4_init_1 ?_
  refine j_aload_n (pc := 4) X dX4_init_4 rfl (q := 0) rfl ?_
  refine j_new (pc := 5) X (C := RX1) (T := TX1) (N := 9) (ci := 1) (fs := [.null, .null, .null, .null, .null, .int 0, .int 0, .int 0, .int 0]) wz_X1 tyX1 tyX1_ok wl_X4_9 wn_X1 wi_X1 rfl df_X1 ⟨by omega, by omega⟩ dX4_init_5 (fun x0 => ?_)
  refine j_dup (pc := 8) X dX4_init_8 rfl ?_
  refine j_callI (pc := 9) X (As := []) (st := [.ref x0, .ref c]) (cz_X1_init l D tA x0) wc_X1_init wi_X1 wk_X1_init wm_X4_11 rfl (by decide +kernel) ⟨Nat.le_of_ble_eq_true rfl, Nat.le_of_ble_eq_true rfl⟩ ⟨by omega, by omega⟩ rfl (Nat.le_of_ble_eq_true rfl) dX4_init_9 (fun b0 e0 => ?_)
  subst e0
  refine j_putF (pc := 12) X hN (C := RX4) (T := TX4) (N := 6) wz_X4 tyX4 tyX4_ok nmX4 0 rfl rfl 0 (by decide) wf_X4_12 rfl rfl rfl rfl (Nat.le_of_ble_eq_true rfl) (w' := ([(c, .inr (4, [.ref (b0 0), .null, .null, .null, .null, .int 0]))] ++ stW tA b0 s0)) rfl dX4_init_12 ?_
  refine j_aload_n (pc := 15) X dX4_init_15 rfl (q := 0) rfl ?_
  refine j_new (pc := 16) X (C := RX1) (T := TX1) (N := 9) (ci := 1) (fs := [.null, .null, .null, .null, .null, .int 0, .int 0, .int 0, .int 0]) wz_X1 tyX1 tyX1_ok wl_X4_9 wn_X1 wi_X1 rfl df_X1 ⟨by omega, by omega⟩ dX4_init_16 (fun x1 => ?_)
  refine j_dup (pc := 19) X dX4_init_19 rfl ?_
  refine j_callI (pc := 20) X (As := []) (st := [.ref x1, .ref c]) (cz_X1_init l D tA x1) wc_X1_init wi_X1 wk_X1_init wm_X4_11 rfl (by decide +kernel) ⟨Nat.le_of_ble_eq_true rfl, Nat.le_of_ble_eq_true rfl⟩ ⟨by omega, by omega⟩ rfl (Nat.le_of_ble_eq_true rfl) dX4_init_20 (fun b1 e1 => ?_)
  subst e1
  refine j_putF (pc := 23) X hN (C := RX4) (T := TX4) (N := 6) wz_X4 tyX4 tyX4_ok nmX4 0 rfl rfl 1 (by decide) wf_X4_16 rfl rfl rfl rfl (Nat.le_of_ble_eq_true rfl) (w' := (([(c, .inr (4, [.ref (b0 0), .ref (b1 0), .null, .null, .null, .int 0]))] ++ stW tA b0 s0) ++ stW tA b1 s0)) rfl dX4_init_23 ?_
  refine j_aload_n (pc := 26) X dX4_init_26 rfl (q := 0) rfl ?_
  refine j_new (pc := 27) X (C := RX1) (T := TX1) (N := 9) (ci := 1) (fs := [.null, .null, .null, .null, .null, .int 0, .int 0, .int 0, .int 0]) wz_X1 tyX1 tyX1_ok wl_X4_9 wn_X1 wi_X1 rfl df_X1 ⟨by omega, by omega⟩ dX4_init_27 (fun x2 => ?_)
  refine j_dup (pc := 30) X dX4_init_30 rfl ?_
  refine j_callI (pc := 31) X (As := []) (st := [.ref x2, .ref c]) (cz_X1_init l D tA x2) wc_X1_init wi_X1 wk_X1_init wm_X4_11 rfl (by decide +kernel) ⟨Nat.le_of_ble_eq_true rfl, Nat.le_of_ble_eq_true rfl⟩ ⟨by omega, by omega⟩ rfl (Nat.le_of_ble_eq_true rfl) dX4_init_31 (fun b2 e2 => ?_)
  subst e2
  refine j_putF (pc := 34) X hN (C := RX4) (T := TX4) (N := 6) wz_X4 tyX4 tyX4_ok nmX4 0 rfl rfl 2 (by decide) wf_X4_19 rfl rfl rfl rfl (Nat.le_of_ble_eq_true rfl) (w' := ((([(c, .inr (4, [.ref (b0 0), .ref (b1 0), .ref (b2 0), .null, .null, .int 0]))] ++ stW tA b0 s0) ++ stW tA b1 s0) ++ stW tA b2 s0)) rfl dX4_init_34 ?_
  refine j_aload_n (pc := 37) X dX4_init_37 rfl (q := 0) rfl ?_
  refine j_new (pc := 38) X (C := RX0) (T := TX0) (N := 3) (ci := 0) (fs := [.null, .int 0, .int 0]) wz_X0 tyX0 tyX0_ok wl_X4_22 wn_X0 wi_X0 rfl df_X0 ⟨by omega, by omega⟩ dX4_init_38 (fun x3 => ?_)
  refine j_dup (pc := 41) X dX4_init_41 rfl ?_
  refine j_callI (pc := 42) X (As := []) (st := [.ref x3, .ref c]) (cz_X0_init l D tA x3) wc_X0_init wi_X0 wk_X0_init wm_X4_24 rfl (by decide +kernel) ⟨Nat.le_of_ble_eq_true rfl, Nat.le_of_ble_eq_true rfl⟩ ⟨by omega, by omega⟩ rfl (Nat.le_of_ble_eq_true rfl) dX4_init_42 (fun b3 e3 => ?_)
  subst e3
  refine j_putF (pc := 45) X hN (C := RX4) (T := TX4) (N := 6) wz_X4 tyX4 tyX4_ok nmX4 0 rfl rfl 3 (by decide) wf_X4_25 rfl rfl rfl rfl (Nat.le_of_ble_eq_true rfl) (w' := (((([(c, .inr (4, [.ref (b0 0), .ref (b1 0), .ref (b2 0), .ref (b3.1 0), .null, .int 0]))] ++ stW tA b0 s0) ++ stW tA b1 s0) ++ stW tA b2 s0) ++ hsW tA b3.1 b3.2 v0)) rfl dX4_init_45 ?_
  refine j_aload_n (pc := 48) X dX4_init_48 rfl (q := 0) rfl ?_
  refine j_new (pc := 49) X (C := RX3) (T := TX3) (N := 4) (ci := 3) (fs := [.null, .int 0, .int 0, .null]) wz_X3 tyX3 tyX3_ok wl_X4_29 wn_X3 wi_X3 rfl df_X3 ⟨by omega, by omega⟩ dX4_init_49 (fun x4 => ?_)
  refine j_dup (pc := 52) X dX4_init_52 rfl ?_
  refine j_callI (pc := 53) X (As := []) (st := [.ref x4, .ref c]) (cz_X3_init l D tA x4) wc_X3_init wi_X3 wk_X3_init wm_X4_31 rfl (by decide +kernel) ⟨Nat.le_of_ble_eq_true rfl, Nat.le_of_ble_eq_true rfl⟩ ⟨by omega, by omega⟩ rfl (Nat.le_of_ble_eq_true rfl) dX4_init_53 (fun b4 e4 => ?_)
  refine j_putF (pc := 56) X hN (C := RX4) (T := TX4) (N := 6) wz_X4 tyX4 tyX4_ok nmX4 0 rfl rfl 4 (by decide) wf_X4_32 rfl rfl rfl rfl (Nat.le_of_ble_eq_true rfl) (w' := ((((([(c, .inr (4, [.ref (b0 0), .ref (b1 0), .ref (b2 0), .ref (b3.1 0), .ref x4, .int 0]))] ++ stW tA b0 s0) ++ stW tA b1 s0) ++ stW tA b2 s0) ++ hsW tA b3.1 b3.2 v0) ++ txW tA (ad4 x4 b4.1 b4.2.1 b4.2.2) (fun _ => 0) 0 0 z0)) rfl dX4_init_56 ?_
  refine j_aload_n (pc := 59) X dX4_init_59 rfl (q := 0) rfl ?_
  refine j_iconst (pc := 60) X (v := nI 0) dX4_init_60 (by decide +kernel) ?_
  refine j_put (pc := 61) X (C := RX4) (T := TX4) (N := 6) wz_X4 tyX4 tyX4_ok nmX4 0 rfl rfl 5 (by decide) wf_X4_36 rfl rfl rfl (Nat.le_of_ble_eq_true rfl) (w' := ((((([(c, .inr (4, [.ref (b0 0), .ref (b1 0), .ref (b2 0), .ref (b3.1 0), .ref x4, .int 0]))] ++ stW tA b0 s0) ++ stW tA b1 s0) ++ stW tA b2 s0) ++ hsW tA b3.1 b3.2 v0) ++ txW tA (ad4 x4 b4.1 b4.2.1 b4.2.2) (fun _ => 0) 0 0 z0)) rfl dX4_init_61 ?_
  refine j_ws (w2 := clZ tA c (b0, b1, b2, b3, ad4 x4 b4.1 b4.2.1 b4.2.2)) (by simp only [clZ, List.append_assoc]; rfl) ?_
  exact j_endVz (pc := 64) E dX4_init_64 (b0, b1, b2, b3, ad4 x4 b4.1 b4.2.1 b4.2.2) trivial rfl
theorem Wf_0 : Wf s0 := ⟨⟨Nat.zero_le _, fun r hr => absurd hr (Nat.not_lt_zero _)⟩, Nat.zero_le _, ⟨Nat.zero_le _, fun r hr => absurd hr (Nat.not_lt_zero _)⟩, ⟨Nat.zero_le _, fun r hr => absurd hr (Nat.not_lt_zero _)⟩, fun _ _ => Nat.zero_le _, Nat.zero_le _⟩
theorem OKs_0 : OKs s0 := ⟨Wf_0, fun _ _ => Nat.zero_le _, fun _ _ _ => Nat.zero_le _⟩
