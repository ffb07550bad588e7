theorem loop_gt {i L : Nat} (hi : i ≤ 3072) (hL : L ≤ 3072) : (nI L - nI 6 < nI i) ↔ L < i + 6 := by
  rw [Int32.lt_iff_toInt_lt, pk_sub_toInt (by omega) (by omega), nI_toInt (by omega)]
  omega
set_option maxHeartbeats 4000000 in
set_option maxRecDepth 100000 in
theorem law_case {l : Launch} {D : va_G} {tA : Nat → ClassId} {G : kCx} {n k b0 L : Nat} {xs : Nat → Int32} (hC : LCx D tA G n k b0 L xs) {c : Nat} {a b f h x m : Nat → Nat} {d : Nat → Nat → Nat} {i : Nat} (hi : i + 6 ≤ L) (s sn s3 : Sg) (v : Hs) (kp : Bool) (len : Nat) (ch : Nat → Nat) (p : Nat) (t : Tb) (T : Nat → Nat) (y : MX) (hinv : LInv s sn s3 v kp len ch p t T y) (ih : ∀ (s sn s3 : Sg) (v : Hs) (kp : Bool) (len : Nat) (ch : Nat → Nat) (p : Nat) (t : Tb) (T : Nat → Nat) (y : MX), LInv s sn s3 v kp len ch p t T y → J l D G n k (lawW tA c a b f h x m d s sn s3 v kp len ch p t T y) [(3, .int (nI i)), (0, .ref b0), (1, .ref c), (2, .ref (m 0))] 939 []) (z : Int32) : J l D G n k (lawW tA c a b f h x m d s sn s3 v kp len ch p t T y) [(3, .int (nI i)), (0, .ref b0), (1, .ref c), (2, .ref (m 0))] 33 [.int z] := by
  have X := hC.1
  by_cases hs : z.toInt < 0 ∨ 26 < z.toInt
  · refine j_swOut (pc := 33) X (tgt := 939) dL_law_33 hs (by decide) ?_
    exact ih s sn s3 v kp len ch p t T y hinv
  rcases (show z.toInt = 0 ∨ z.toInt = 1 ∨ z.toInt = 2 ∨ z.toInt = 3 ∨ z.toInt = 4 ∨ z.toInt = 5 ∨ z.toInt = 6 ∨ z.toInt = 7 ∨ z.toInt = 8 ∨ z.toInt = 9 ∨ z.toInt = 10 ∨ z.toInt = 11 ∨ z.toInt = 12 ∨ z.toInt = 13 ∨ z.toInt = 14 ∨ z.toInt = 15 ∨ z.toInt = 16 ∨ z.toInt = 17 ∨ z.toInt = 18 ∨ z.toInt = 19 ∨ z.toInt = 20 ∨ z.toInt = 21 ∨ z.toInt = 22 ∨ z.toInt = 23 ∨ z.toInt = 24 ∨ z.toInt = 25 ∨ z.toInt = 26 by omega) with hs | hs | hs | hs | hs | hs | hs | hs | hs | hs | hs | hs | hs | hs | hs | hs | hs | hs | hs | hs | hs | hs | hs | hs | hs | hs | hs
  · refine j_swIn (pc := 33) X (off := 123) (tgt := 156) dL_law_33 (by omega) (by omega) (by rw [hs]; rfl) (by decide) ?_
    exact law_addMachine hC hi s sn s3 v kp len ch p t T y hinv ih
  · refine j_swIn (pc := 33) X (off := 156) (tgt := 189) dL_law_33 (by omega) (by omega) (by rw [hs]; rfl) (by decide) ?_
    exact law_addMember hC hi s sn s3 v kp len ch p t T y hinv ih
  · refine j_swIn (pc := 33) X (off := 169) (tgt := 202) dL_law_33 (by omega) (by omega) (by rw [hs]; rfl) (by decide) ?_
    exact law_setWind hC hi s sn s3 v kp len ch p t T y hinv ih
  · refine j_swIn (pc := 33) X (off := 202) (tgt := 235) dL_law_33 (by omega) (by omega) (by rw [hs]; rfl) (by decide) ?_
    exact law_book hC hi s sn s3 v kp len ch p t T y hinv ih
  · refine j_swIn (pc := 33) X (off := 265) (tgt := 298) dL_law_33 (by omega) (by omega) (by rw [hs]; rfl) (by decide) ?_
    exact law_cancel hC hi s sn s3 v kp len ch p t T y hinv ih
  · refine j_swIn (pc := 33) X (off := 288) (tgt := 321) dL_law_33 (by omega) (by omega) (by rw [hs]; rfl) (by decide) ?_
    exact law_swap hC hi s sn s3 v kp len ch p t T y hinv ih
  · refine j_swIn (pc := 33) X (off := 321) (tgt := 354) dL_law_33 (by omega) (by omega) (by rw [hs]; rfl) (by decide) ?_
    exact law_order hC hi s sn s3 v kp len ch p t T y hinv ih
  · refine j_swIn (pc := 33) X (off := 384) (tgt := 417) dL_law_33 (by omega) (by omega) (by rw [hs]; rfl) (by decide) ?_
    exact law_takeBack hC hi s sn s3 v kp len ch p t T y hinv ih
  · refine j_swIn (pc := 33) X (off := 407) (tgt := 440) dL_law_33 (by omega) (by omega) (by rw [hs]; rfl) (by decide) ?_
    exact law_pass hC hi s sn s3 v kp len ch p t T y hinv ih
  · refine j_swIn (pc := 33) X (off := 430) (tgt := 463) dL_law_33 (by omega) (by omega) (by rw [hs]; rfl) (by decide) ?_
    exact law_type hC hi s sn s3 v kp len ch p t T y hinv ih
  · refine j_swIn (pc := 33) X (off := 455) (tgt := 488) dL_law_33 (by omega) (by omega) (by rw [hs]; rfl) (by decide) ?_
    exact law_clearText hC hi s sn s3 v kp len ch p t T y hinv ih
  · refine j_swIn (pc := 33) X (off := 468) (tgt := 501) dL_law_33 (by omega) (by omega) (by rw [hs]; rfl) (by decide) ?_
    exact law_readWinds hC hi s sn s3 v kp len ch p t T y hinv ih
  · refine j_swIn (pc := 33) X (off := 481) (tgt := 514) dL_law_33 (by omega) (by omega) (by rw [hs]; rfl) (by decide) ?_
    exact law_undo hC hi s sn s3 v kp len ch p t T y hinv ih
  · refine j_swIn (pc := 33) X (off := 494) (tgt := 527) dL_law_33 (by omega) (by omega) (by rw [hs]; rfl) (by decide) ?_
    exact law_keep hC hi s sn s3 v kp len ch p t T y hinv ih
  · refine j_swIn (pc := 33) X (off := 507) (tgt := 540) dL_law_33 (by omega) (by omega) (by rw [hs]; rfl) (by decide) ?_
    exact law_restore hC hi s sn s3 v kp len ch p t T y hinv ih
  · refine j_swIn (pc := 33) X (off := 520) (tgt := 553) dL_law_33 (by omega) (by omega) (by rw [hs]; rfl) (by decide) ?_
    exact law_bears hC hi s sn s3 v kp len ch p t T y hinv ih
  · refine j_swIn (pc := 33) X (off := 553) (tgt := 586) dL_law_33 (by omega) (by omega) (by rw [hs]; rfl) (by decide) ?_
    exact law_willBear hC hi s sn s3 v kp len ch p t T y hinv ih
  · refine j_swIn (pc := 33) X (off := 596) (tgt := 629) dL_law_33 (by omega) (by omega) (by rw [hs]; rfl) (by decide) ?_
    exact law_windLimit hC hi s sn s3 v kp len ch p t T y hinv ih
  · refine j_swIn (pc := 33) X (off := 629) (tgt := 662) dL_law_33 (by omega) (by omega) (by rw [hs]; rfl) (by decide) ?_
    exact law_machine hC hi s sn s3 v kp len ch p t T y hinv ih
  · refine j_swIn (pc := 33) X (off := 662) (tgt := 695) dL_law_33 (by omega) (by omega) (by rw [hs]; rfl) (by decide) ?_
    exact law_member hC hi s sn s3 v kp len ch p t T y hinv ih
  · refine j_swIn (pc := 33) X (off := 695) (tgt := 728) dL_law_33 (by omega) (by omega) (by rw [hs]; rfl) (by decide) ?_
    exact law_booking hC hi s sn s3 v kp len ch p t T y hinv ih
  · refine j_swIn (pc := 33) X (off := 728) (tgt := 761) dL_law_33 (by omega) (by omega) (by rw [hs]; rfl) (by decide) ?_
    exact law_move hC hi s sn s3 v kp len ch p t T y hinv ih
  · refine j_swIn (pc := 33) X (off := 761) (tgt := 794) dL_law_33 (by omega) (by omega) (by rw [hs]; rfl) (by decide) ?_
    exact law_bookedAt hC hi s sn s3 v kp len ch p t T y hinv ih
  · refine j_swIn (pc := 33) X (off := 794) (tgt := 827) dL_law_33 (by omega) (by omega) (by rw [hs]; rfl) (by decide) ?_
    exact law_machineFor hC hi s sn s3 v kp len ch p t T y hinv ih
  · refine j_swIn (pc := 33) X (off := 837) (tgt := 870) dL_law_33 (by omega) (by omega) (by rw [hs]; rfl) (by decide) ?_
    exact law_fate hC hi s sn s3 v kp len ch p t T y hinv ih
  · refine j_swIn (pc := 33) X (off := 860) (tgt := 893) dL_law_33 (by omega) (by omega) (by rw [hs]; rfl) (by decide) ?_
    exact law_wind hC hi s sn s3 v kp len ch p t T y hinv ih
  · refine j_swIn (pc := 33) X (off := 883) (tgt := 916) dL_law_33 (by omega) (by omega) (by rw [hs]; rfl) (by decide) ?_
    exact law_count hC hi s sn s3 v kp len ch p t T y hinv ih
set_option maxHeartbeats 4000000 in
set_option maxRecDepth 100000 in
theorem law_loop {l : Launch} {D : va_G} {tA : Nat → ClassId} {G : kCx} {n k b0 L : Nat} {xs : Nat → Int32} (hC : LCx D tA G n k b0 L xs) {c : Nat} {a b f h x m : Nat → Nat} {d : Nat → Nat → Nat} (hend : ∀ (w : va_W) (lv : List (Nat × Value)), J l D G n k w lv 945 []) : ∀ (N i : Nat), i ≤ 3072 → L ≤ i + N → ∀ (s sn s3 : Sg) (v : Hs) (kp : Bool) (len : Nat) (ch : Nat → Nat) (p : Nat) (t : Tb) (T : Nat → Nat) (y : MX), LInv s sn s3 v kp len ch p t T y → J l D G n k (lawW tA c a b f h x m d s sn s3 v kp len ch p t T y) [(3, .int (nI (i))), (0, .ref b0), (1, .ref c), (2, .ref (m 0))] 18 [] := by
  obtain ⟨X, h0, hX, hbl, hbA, hL⟩ := id hC
  intro N
  induction N with
  | zero =>
    intro i hi hN s sn s3 v kp len ch p t T y hinv
    refine j_iload_n (pc := 18) X dL_law_18 rfl (q := 0) rfl ?_
    refine j_aload_n (pc := 19) X dL_law_19 rfl (q := 1) rfl ?_
    refine j_slen (pc := 20) X hX hbl hbA dL_law_20 ?_
    refine j_bipush (pc := 21) X (v := nI 6) dL_law_21 (by decide) ?_
    refine j_isub (pc := 23) X dL_law_23 rfl ?_
    refine j_icmp_gt (pc := 24) X (tgt := 945) dL_law_24 (by decide) (loop_gt hi hL) (fun h24 => ?_) (fun h24 => ?_)
    · exact hend _ _
    · exact absurd (show L < i + 6 by omega) h24
  | succ N IHN =>
    intro i hi hN s sn s3 v kp len ch p t T y hinv
    refine j_iload_n (pc := 18) X dL_law_18 rfl (q := 0) rfl ?_
    refine j_aload_n (pc := 19) X dL_law_19 rfl (q := 1) rfl ?_
    refine j_slen (pc := 20) X hX hbl hbA dL_law_20 ?_
    refine j_bipush (pc := 21) X (v := nI 6) dL_law_21 (by decide) ?_
    refine j_isub (pc := 23) X dL_law_23 rfl ?_
    refine j_icmp_gt (pc := 24) X (tgt := 945) dL_law_24 (by decide) (loop_gt hi hL) (fun h24 => ?_) (fun h24 => ?_)
    · exact hend _ _
    · have hi6 : i + 6 ≤ L := by omega
      refine j_aload_n (pc := 27) X dL_law_27 rfl (q := 1) rfl ?_
      refine j_iload_n (pc := 28) X dL_law_28 rfl (q := 0) rfl ?_
      refine j_sld (pc := 29) X hX hbl hbA (i := i) (by omega) (by omega) dL_law_29 ?_
      refine j_bipush (pc := 30) X (v := nI 31) dL_law_30 (by decide) ?_
      refine j_iand (pc := 32) X dL_law_32 rfl ?_
      refine law_case hC hi6 s sn s3 v kp len ch p t T y hinv (fun s sn s3 v kp len ch p t T y hinv => ?_) _
      refine j_iinc (pc := 939) X (v := nI (i + 6)) (lv' := [(3, .int (nI (i + 6))), (0, .ref b0), (1, .ref c), (2, .ref (m 0))]) dL_law_939 (q := 0) rfl (nI_add i 6) (by decide) rfl ?_
      refine j_goto (pc := 942) X (tgt := 18) dL_law_942 (by decide) ?_
      exact IHN (i + 6) (by omega) (by omega) s sn s3 v kp len ch p t T y hinv
theorem df_X4 : ∀ j, j < 6 → defaultValue (tyX4 j) = vp_V [.null, .null, .null, .null, .null, .int 0] j := fun j hj => by
  rcases (show j = 0 ∨ j = 1 ∨ j = 2 ∨ j = 3 ∨ j = 4 ∨ j = 5 by omega) with rfl | rfl | rfl | rfl | rfl | rfl <;> rfl
theorem df_X5 : ∀ j, j < 10 → defaultValue (tyX5 j) = vp_V [.null, .int 0, .int 0, .null, .int 0, .int 0, .int 0, .int 0, .int 0, .int 0] j := fun j hj => by
  rcases (show j = 0 ∨ j = 1 ∨ j = 2 ∨ j = 3 ∨ j = 4 ∨ j = 5 ∨ j = 6 ∨ j = 7 ∨ j = 8 ∨ j = 9 by omega) with rfl | rfl | rfl | rfl | rfl | rfl | rfl | rfl | rfl | rfl <;> rfl
set_option maxHeartbeats 4000000 in
set_option maxRecDepth 100000 in
theorem law_entry {l : Launch} {D : va_G} {tA : Nat → ClassId} {G : kCx} {b0 L : Nat} {xs : Nat → Int32} (X : kX D tA G cL_law 4 RL 9 326) (hR : 80 ≤ (gR G).cells ∧ 7748 ≤ (gR G).slots) (hX : va_X b0 L xs (gs G) (gs G).heap) (hbl : b0 < (gs G).heap.size) (hbA : ¬ gA G b0) (hL : L ≤ 3072) (hend : ∀ (w : va_W) (lv : List (Nat × Value)), J l D G 80 7748 w lv 945 []) : J l D G 0 0 [] [(0, .ref b0)] 0 [] := by
  have hR1 := hR.1
  have hR2 := hR.2
  refine j_new (pc := 0) X (C := RX4) (T := TX4) (N := 6) (ci := 4) (fs := [.null, .null, .null, .null, .null, .int 0]) wz_X4 tyX4 tyX4_ok wl_L_7 wn_X4 wi_X4 rfl df_X4 ⟨by omega, by omega⟩ dL_law_0 (fun c => ?_)
  refine j_dup (pc := 3) X dL_law_3 rfl ?_
  refine j_callI (pc := 4) X (As := []) (st := [.ref c]) (cz_X4_init l D tA c) wc_X4_init wi_X4 wk_X4_init wm_L_9 rfl (by decide +kernel) ⟨Nat.le_of_ble_eq_true rfl, Nat.le_of_ble_eq_true rfl⟩ ⟨by omega, by omega⟩ rfl (Nat.le_of_ble_eq_true rfl) dL_law_4 (fun u _ => ?_)
  obtain ⟨a, b, f, ⟨h, d⟩, x⟩ := u
  refine j_astore_n (pc := 7) X (lv' := [(1, .ref c), (0, .ref b0)]) dL_law_7 rfl (by decide) rfl ?_
  refine j_new (pc := 8) X (C := RX5) (T := TX5) (N := 10) (ci := 5) (fs := [.null, .int 0, .int 0, .null, .int 0, .int 0, .int 0, .int 0, .int 0, .int 0]) wz_X5 tyX5 tyX5_ok wl_L_10 wn_X5 wi_X5 rfl df_X5 ⟨by omega, by omega⟩ dL_law_8 (fun q => ?_)
  refine j_dup (pc := 11) X dL_law_11 rfl ?_
  refine j_callI (pc := 12) X (As := []) (st := [.ref q]) (cz_X5_init l D tA q) wc_X5_init wi_X5 wk_X5_init wm_L_12 rfl (by decide +kernel) ⟨Nat.le_of_ble_eq_true rfl, Nat.le_of_ble_eq_true rfl⟩ ⟨by omega, by omega⟩ rfl (Nat.le_of_ble_eq_true rfl) dL_law_12 (fun u _ => ?_)
  obtain ⟨m1, m2⟩ := u
  refine j_astore_n (pc := 15) X (lv' := [(2, .ref q), (1, .ref c), (0, .ref b0)]) dL_law_15 rfl (by decide) rfl ?_
  refine j_iconst (pc := 16) X (v := nI 0) dL_law_16 (by decide +kernel) ?_
  refine j_istore_n (pc := 17) X (lv' := [(3, .int (nI 0)), (2, .ref q), (1, .ref c), (0, .ref b0)]) dL_law_17 rfl (by decide) rfl ?_
  refine j_lv X [0, 3, 2, 1] (lv' := [(3, .int (nI 0)), (0, .ref b0), (1, .ref c), (2, .ref q)]) rfl ?_
  refine j_wd 80 7748 (by omega) (by omega) ?_
  refine j_ws (w2 := lawW tA c a b f h x (ad3 q m1 m2) d s0 s0 s0 v0 false 0 (fun _ => 0) 0 z0 (fun _ => 0) (fun _ => 0, 0, 0, 0, 0)) (by simp only [clZ, lawW, List.append_assoc, List.nil_append]; rfl) ?_
  exact law_loop (m := ad3 q m1 m2) ⟨X, hR, hX, hbl, hbA, hL⟩ hend L 0 (by omega) (by omega) s0 s0 s0 v0 false 0 (fun _ => 0) 0 z0 (fun _ => 0) (fun _ => 0, 0, 0, 0, 0) ⟨RelM_0, Wf_0, Wf_0, fun _ => Wf_0, Nat.zero_le _, fun _ => (show 0 < 65536 by decide), Nat.zero_le _, Nat.zero_le _, fun j hj => absurd hj (Nat.not_lt_zero _)⟩
