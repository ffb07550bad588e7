def ch9 (x : Int32) : Nat := x.toBitVec.toNat % 65536
theorem ch9_eq (x : Int32) : (x.toUInt32 % 65536).toInt32 = nI (ch9 x) := pk_char x
theorem ch9_lt (x : Int32) : ch9 x < 65536 := Nat.mod_lt _ (by decide)
theorem will_wf {s s3 : Sg} (h : Wf s) (h3 : Wf s3) (m r t : Int32) : Wf (aS s3 (oWill s m r t).2) := by
  unfold oWill
  split
  · split
    · exact Wf.xclo 10 h _
    · exact h3
  · exact h3
theorem fate_wf {s s3 : Sg} (h : Wf s) (h3 : Wf s3) (b : Int32) : Wf (aS s3 (oFate s b).2) := by
  unfold oFate
  split
  · split
    · exact Wf.xclo 10 h _
    · exact h3
  · exact h3
theorem hh_pop {v : Hs} (hh : ∀ i, Wf (v.1 i)) : ∀ i, Wf ((if v.2.2 = 0 then v else hPop v).1 i) := by
  split
  · exact hh
  · exact hh
theorem typ_len {len : Nat} (h : len ≤ 60) : (if len < 60 then len + 1 else len) ≤ 60 := by split <;> omega
theorem typ_ch {len w : Nat} {ch : Nat → Nat} (h : ∀ j, ch j < 65536) (hw : w < 65536) : ∀ j, (if len < 60 then va_up ch len w else ch) j < 65536 := by
  intro j
  split
  · by_cases q : j = len
    · rw [q, up_same]; exact hw
    · rw [up_ne _ _ q]; exact h j
  · exact h j
theorem typ_eq {len w : Nat} {ch T : Nat → Nat} (h : ∀ j, j < len → T j = ch j) : ∀ j, j < (if len < 60 then len + 1 else len) → (if len < 60 then va_up T len w else T) j = (if len < 60 then va_up ch len w else ch) j := by
  intro j hj
  split
  · rename_i h6
    rw [if_pos h6] at hj
    by_cases q : j = len
    · rw [q, up_same, up_same]
    · rw [up_ne _ _ q, up_ne _ _ q]; exact h j (by omega)
  · rename_i h6
    rw [if_neg h6] at hj
    exact h j hj
set_option maxHeartbeats 4000000 in
set_option maxRecDepth 100000 in
theorem law_type {l : Launch} {D : va_G} {tA : Nat → ClassId} {G : kCx} {n k b0 L : Nat} {xs : Nat → Int32} (hC : LCx D tA G n k b0 L xs) {c : Nat} {a b f h x m : Nat → Nat} {d : Nat → Nat → Nat} {i : Nat} (hi : i + 6 ≤ L)  (s sn s3 : Sg) (v : Hs) (kp : Bool) (len : Nat) (ch : Nat → Nat) (p : Nat) (t : Tb) (T : Nat → Nat) (y : MX) (hinv : LInv s sn s3 v kp len ch p t T y) (ih : ∀ (s sn s3 : Sg) (v : Hs) (kp : Bool) (len : Nat) (ch : Nat → Nat) (p : Nat) (t : Tb) (T : Nat → Nat) (y : MX), LInv s sn s3 v kp len ch p t T y → J l D G n k (lawW tA c a b f h x m d s sn s3 v kp len ch p t T y) [(3, .int (nI i)), (0, .ref b0), (1, .ref c), (2, .ref (m 0))] 939 []) : J l D G n k (lawW tA c a b f h x m d s sn s3 v kp len ch p t T y) [(3, .int (nI i)), (0, .ref b0), (1, .ref c), (2, .ref (m 0))] 463 [] := by
  obtain ⟨X, h0, hX, hbl, hbA, hL⟩ := hC
  obtain ⟨hrel, hsn, hs3, hh, hl, hch, hp, ht, hT⟩ := hinv
  have hw := hrel.2.1.1
  have hnx := hrel.2.2.1
  have hsz := hrel.2.2.2.1
  refine j_aload_n (pc := 463) X dL_law_463 rfl (q := 2) rfl ?_
  refine j_aload_n (pc := 464) X dL_law_464 rfl (q := 1) rfl ?_
  refine j_iload_n (pc := 465) X dL_law_465 rfl (q := 0) rfl ?_
  refine j_iconst (pc := 466) X (v := nI 1) dL_law_466 (by decide) ?_
  refine j_iadd (pc := 467) X (v := nI (i + 1)) dL_law_467 (nI_add _ _) ?_
  refine j_sld (pc := 468) X hX hbl hbA (i := i + 1) (by omega) (by omega) dL_law_468 ?_
  refine j_i2c (pc := 469) X (v := nI (ch9 (xs (i + 1)))) dL_law_469 (ch9_eq _) ?_
  refine j_lperm (pq_d _ _ _ _ _ _ _ _) ?_
  refine j_cxV (pc := 470) X (As := [.int (nI (ch9 (xs (i + 1))))]) (st := []) (c_X4_type l D tA c a b f h x kp ch len p t (ch9 (xs (i + 1))) hl hch hp (ch9_lt _)) cd_X4_type wm_L_53 0 rfl rfl rfl fst_d ⟨Nat.le_of_ble_eq_true rfl, Nat.le_of_ble_eq_true rfl⟩ h0 rfl (Nat.le_of_ble_eq_true rfl) dL_law_470 ?_
  refine j_lperm (pq_d _ _ _ _ _ _ _ _).symm ?_
  refine j_aload_n (pc := 473) X dL_law_473 rfl (q := 3) rfl ?_
  refine j_aload_n (pc := 474) X dL_law_474 rfl (q := 1) rfl ?_
  refine j_iload_n (pc := 475) X dL_law_475 rfl (q := 0) rfl ?_
  refine j_iconst (pc := 476) X (v := nI 1) dL_law_476 (by decide) ?_
  refine j_iadd (pc := 477) X (v := nI (i + 1)) dL_law_477 (nI_add _ _) ?_
  refine j_sld (pc := 478) X hX hbl hbA (i := i + 1) (by omega) (by omega) dL_law_478 ?_
  refine j_i2c (pc := 479) X (v := nI (ch9 (xs (i + 1)))) dL_law_479 (ch9_eq _) ?_
  refine j_lperm (pq_t _ _ _ _ _ _ _ _) ?_
  refine j_cxV (pc := 480) X (As := [.int (nI (ch9 (xs (i + 1))))]) (st := [_]) (c_X5_type l D tA m y.1 T ch v.2.2 kp len none y.2.1 y.2.2.1 y.2.2.2.1 y.2.2.2.2 (ch9 (xs (i + 1))) hl hch hT (ch9_lt _)) cd_X5_type wm_L_57 0 rfl rfl rfl rfl ⟨Nat.le_of_ble_eq_true rfl, Nat.le_of_ble_eq_true rfl⟩ h0 rfl (Nat.le_of_ble_eq_true rfl) dL_law_480 ?_
  refine j_lperm (pq_t _ _ _ _ _ _ (mW tA m v.2.2 kp (if len < 60 then len + 1 else len) y) (txC tA m (if len < 60 then va_up T len (ch9 (xs (i + 1))) else T))).symm ?_
  refine j_icmp_eq_t (pc := 483) X (tgt := 939) dL_law_483 (by decide) rfl ?_
  exact ih s sn s3 v kp (if len < 60 then len + 1 else len) (if len < 60 then va_up ch len (ch9 (xs (i + 1))) else ch) p t (if len < 60 then va_up T len (ch9 (xs (i + 1))) else T) y ⟨hrel, hsn, hs3, hh, typ_len hl, typ_ch hch (ch9_lt _), hp, ht, typ_eq hT⟩
set_option maxHeartbeats 4000000 in
set_option maxRecDepth 100000 in
theorem law_clearText {l : Launch} {D : va_G} {tA : Nat → ClassId} {G : kCx} {n k b0 L : Nat} {xs : Nat → Int32} (hC : LCx D tA G n k b0 L xs) {c : Nat} {a b f h x m : Nat → Nat} {d : Nat → Nat → Nat} {i : Nat} (hi : i + 6 ≤ L)  (s sn s3 : Sg) (v : Hs) (kp : Bool) (len : Nat) (ch : Nat → Nat) (p : Nat) (t : Tb) (T : Nat → Nat) (y : MX) (hinv : LInv s sn s3 v kp len ch p t T y) (ih : ∀ (s sn s3 : Sg) (v : Hs) (kp : Bool) (len : Nat) (ch : Nat → Nat) (p : Nat) (t : Tb) (T : Nat → Nat) (y : MX), LInv s sn s3 v kp len ch p t T y → J l D G n k (lawW tA c a b f h x m d s sn s3 v kp len ch p t T y) [(3, .int (nI i)), (0, .ref b0), (1, .ref c), (2, .ref (m 0))] 939 []) : J l D G n k (lawW tA c a b f h x m d s sn s3 v kp len ch p t T y) [(3, .int (nI i)), (0, .ref b0), (1, .ref c), (2, .ref (m 0))] 488 [] := by
  obtain ⟨X, h0, hX, hbl, hbA, hL⟩ := hC
  obtain ⟨hrel, hsn, hs3, hh, hl, hch, hp, ht, hT⟩ := hinv
  have hw := hrel.2.1.1
  have hnx := hrel.2.2.1
  have hsz := hrel.2.2.2.1
  refine j_aload_n (pc := 488) X dL_law_488 rfl (q := 2) rfl ?_
  refine j_lperm (pq_d _ _ _ _ _ _ _ _) ?_
  refine j_cxV (pc := 489) X (As := []) (st := []) (c_X4_clearText l D tA c a b f h x kp ch len p t) cd_X4_clearText wm_L_58 0 rfl rfl rfl fst_d ⟨Nat.le_of_ble_eq_true rfl, Nat.le_of_ble_eq_true rfl⟩ h0 rfl (Nat.le_of_ble_eq_true rfl) dL_law_489 ?_
  refine j_lperm (pq_d _ _ _ _ _ _ _ _).symm ?_
  refine j_aload_n (pc := 492) X dL_law_492 rfl (q := 3) rfl ?_
  refine j_lperm (pq_t _ _ _ _ _ _ _ _) ?_
  refine j_cxV (pc := 493) X (As := []) (st := [_]) (c_X5_clearText l D tA m y.1 T ch v.2.2 kp len none y.2.1 y.2.2.1 y.2.2.2.1 y.2.2.2.2) cd_X5_clearText wm_L_61 0 rfl rfl rfl rfl ⟨Nat.le_of_ble_eq_true rfl, Nat.le_of_ble_eq_true rfl⟩ h0 rfl (Nat.le_of_ble_eq_true rfl) dL_law_493 ?_
  refine j_lperm (pq_t _ _ _ _ _ _ (mW tA m v.2.2 kp 0 y) (txC tA m T)).symm ?_
  refine j_icmp_eq_t (pc := 496) X (tgt := 939) dL_law_496 (by decide) rfl ?_
  exact ih s sn s3 v kp 0 ch p t T y ⟨hrel, hsn, hs3, hh, Nat.zero_le _, hch, hp, ht, fun j hj => absurd hj (Nat.not_lt_zero _)⟩
set_option maxHeartbeats 4000000 in
set_option maxRecDepth 100000 in
theorem law_readWinds {l : Launch} {D : va_G} {tA : Nat → ClassId} {G : kCx} {n k b0 L : Nat} {xs : Nat → Int32} (hC : LCx D tA G n k b0 L xs) {c : Nat} {a b f h x m : Nat → Nat} {d : Nat → Nat → Nat} {i : Nat} (hi : i + 6 ≤ L)  (s sn s3 : Sg) (v : Hs) (kp : Bool) (len : Nat) (ch : Nat → Nat) (p : Nat) (t : Tb) (T : Nat → Nat) (y : MX) (hinv : LInv s sn s3 v kp len ch p t T y) (ih : ∀ (s sn s3 : Sg) (v : Hs) (kp : Bool) (len : Nat) (ch : Nat → Nat) (p : Nat) (t : Tb) (T : Nat → Nat) (y : MX), LInv s sn s3 v kp len ch p t T y → J l D G n k (lawW tA c a b f h x m d s sn s3 v kp len ch p t T y) [(3, .int (nI i)), (0, .ref b0), (1, .ref c), (2, .ref (m 0))] 939 []) : J l D G n k (lawW tA c a b f h x m d s sn s3 v kp len ch p t T y) [(3, .int (nI i)), (0, .ref b0), (1, .ref c), (2, .ref (m 0))] 501 [] := by
  obtain ⟨X, h0, hX, hbl, hbA, hL⟩ := hC
  obtain ⟨hrel, hsn, hs3, hh, hl, hch, hp, ht, hT⟩ := hinv
  have hw := hrel.2.1.1
  have hnx := hrel.2.2.1
  have hsz := hrel.2.2.2.1
  refine j_aload_n (pc := 501) X dL_law_501 rfl (q := 2) rfl ?_
  refine j_lperm (pq_e _ _ _ _ _ _ _ _) ?_
  refine j_cxV (pc := 502) X (As := []) (st := []) (c_X4_readWinds l D tA c a b f h x kp s d v ch len p t hw hnx hsz hh hl hch hp ht) cd_X4_readWinds wm_L_62 0 rfl rfl rfl fst_e ⟨Nat.le_of_ble_eq_true rfl, Nat.le_of_ble_eq_true rfl⟩ h0 rfl (Nat.le_of_ble_eq_true rfl) dL_law_502 ?_
  refine j_lperm (pq_e _ _ _ _ _ _ _ _).symm ?_
  refine j_aload_n (pc := 505) X dL_law_505 rfl (q := 3) rfl ?_
  refine j_lperm (pq_t _ _ _ _ _ _ _ _) ?_
  refine j_cyV (pc := 506) X (As := []) (st := [_]) (c_X5_readWinds l D tA m y s sn v kp len T ch t.2 hrel hl hch hT) cd_X5_readWinds wm_L_65 0 rfl rfl rfl (fun _ => rfl) ⟨Nat.le_of_ble_eq_true rfl, Nat.le_of_ble_eq_true rfl⟩ h0 rfl (Nat.le_of_ble_eq_true rfl) dL_law_506 (fun u hu => ?_)
  refine j_lperm (pq_t _ _ _ _ _ _ (mW tA m (aH v s (oRead s (pRs ch len t.2)).2).2.2 kp len u) (txC tA m T)).symm ?_
  refine j_icmp_eq_t (pc := 509) X (tgt := 939) dL_law_509 (by decide) rfl ?_
  exact ih (aS s (oRead s (pRs ch len t.2)).2) sn s3 (aH v s (oRead s (pRs ch len t.2)).2) kp len ch (pRs ch len t.2).2.1 (pRs ch len t.2).2.2 T u ⟨hu, hsn, hs3, hh_push hh hw _, hl, hch, Nat.le_trans (pRs_15 hl).2 hl, (pRs_15 hl).1, hT⟩
set_option maxHeartbeats 4000000 in
set_option maxRecDepth 100000 in
theorem law_undo {l : Launch} {D : va_G} {tA : Nat → ClassId} {G : kCx} {n k b0 L : Nat} {xs : Nat → Int32} (hC : LCx D tA G n k b0 L xs) {c : Nat} {a b f h x m : Nat → Nat} {d : Nat → Nat → Nat} {i : Nat} (hi : i + 6 ≤ L)  (s sn s3 : Sg) (v : Hs) (kp : Bool) (len : Nat) (ch : Nat → Nat) (p : Nat) (t : Tb) (T : Nat → Nat) (y : MX) (hinv : LInv s sn s3 v kp len ch p t T y) (ih : ∀ (s sn s3 : Sg) (v : Hs) (kp : Bool) (len : Nat) (ch : Nat → Nat) (p : Nat) (t : Tb) (T : Nat → Nat) (y : MX), LInv s sn s3 v kp len ch p t T y → J l D G n k (lawW tA c a b f h x m d s sn s3 v kp len ch p t T y) [(3, .int (nI i)), (0, .ref b0), (1, .ref c), (2, .ref (m 0))] 939 []) : J l D G n k (lawW tA c a b f h x m d s sn s3 v kp len ch p t T y) [(3, .int (nI i)), (0, .ref b0), (1, .ref c), (2, .ref (m 0))] 514 [] := by
  obtain ⟨X, h0, hX, hbl, hbA, hL⟩ := hC
  obtain ⟨hrel, hsn, hs3, hh, hl, hch, hp, ht, hT⟩ := hinv
  have hw := hrel.2.1.1
  have hnx := hrel.2.2.1
  have hsz := hrel.2.2.2.1
  refine j_aload_n (pc := 514) X dL_law_514 rfl (q := 2) rfl ?_
  refine j_lperm (pq_a _ _ _ _ _ _ _ _) ?_
  refine j_cxV (pc := 515) X (As := []) (st := []) (c_X4_undo l D tA c a b f h x kp s d v hw hnx hsz hh) cd_X4_undo wm_L_66 0 rfl rfl rfl fst_a ⟨Nat.le_of_ble_eq_true rfl, Nat.le_of_ble_eq_true rfl⟩ h0 rfl (Nat.le_of_ble_eq_true rfl) dL_law_515 ?_
  refine j_lperm (pq_a _ _ _ _ _ _ _ _).symm ?_
  refine j_aload_n (pc := 518) X dL_law_518 rfl (q := 3) rfl ?_
  refine j_lperm (pq_m _ _ _ _ _ _ _ _) ?_
  refine j_cyV (pc := 519) X (As := []) (st := [_]) (c_X5_undo l D tA m y s sn v kp len hrel) cd_X5_undo wm_L_69 0 rfl rfl rfl (fun _ => rfl) ⟨Nat.le_of_ble_eq_true rfl, Nat.le_of_ble_eq_true rfl⟩ h0 rfl (Nat.le_of_ble_eq_true rfl) dL_law_519 (fun u hu => ?_)
  refine j_lperm (pq_m _ _ _ _ _ _ _ _).symm ?_
  refine j_icmp_eq_t (pc := 522) X (tgt := 939) dL_law_522 (by decide) rfl ?_
  exact ih (if v.2.2 = 0 then s else v.1 (hLast v)) sn s3 (if v.2.2 = 0 then v else hPop v) kp len ch p t T u ⟨hu, hsn, hs3, hh_pop hh, hl, hch, hp, ht, hT⟩
set_option maxHeartbeats 4000000 in
set_option maxRecDepth 100000 in
theorem law_keep {l : Launch} {D : va_G} {tA : Nat → ClassId} {G : kCx} {n k b0 L : Nat} {xs : Nat → Int32} (hC : LCx D tA G n k b0 L xs) {c : Nat} {a b f h x m : Nat → Nat} {d : Nat → Nat → Nat} {i : Nat} (hi : i + 6 ≤ L)  (s sn s3 : Sg) (v : Hs) (kp : Bool) (len : Nat) (ch : Nat → Nat) (p : Nat) (t : Tb) (T : Nat → Nat) (y : MX) (hinv : LInv s sn s3 v kp len ch p t T y) (ih : ∀ (s sn s3 : Sg) (v : Hs) (kp : Bool) (len : Nat) (ch : Nat → Nat) (p : Nat) (t : Tb) (T : Nat → Nat) (y : MX), LInv s sn s3 v kp len ch p t T y → J l D G n k (lawW tA c a b f h x m d s sn s3 v kp len ch p t T y) [(3, .int (nI i)), (0, .ref b0), (1, .ref c), (2, .ref (m 0))] 939 []) : J l D G n k (lawW tA c a b f h x m d s sn s3 v kp len ch p t T y) [(3, .int (nI i)), (0, .ref b0), (1, .ref c), (2, .ref (m 0))] 527 [] := by
  obtain ⟨X, h0, hX, hbl, hbA, hL⟩ := hC
  obtain ⟨hrel, hsn, hs3, hh, hl, hch, hp, ht, hT⟩ := hinv
  have hw := hrel.2.1.1
  have hnx := hrel.2.2.1
  have hsz := hrel.2.2.2.1
  refine j_aload_n (pc := 527) X dL_law_527 rfl (q := 2) rfl ?_
  refine j_lperm (pq_f _ _ _ _ _ _ _ _) ?_
  refine j_cxV (pc := 528) X (As := []) (st := []) (c_X4_keep l D tA c a b f h x kp s sn hw hsn) cd_X4_keep wm_L_70 0 rfl rfl rfl fst_f ⟨Nat.le_of_ble_eq_true rfl, Nat.le_of_ble_eq_true rfl⟩ h0 rfl (Nat.le_of_ble_eq_true rfl) dL_law_528 ?_
  refine j_lperm (pq_f _ _ _ _ _ _ _ _).symm ?_
  refine j_aload_n (pc := 531) X dL_law_531 rfl (q := 3) rfl ?_
  refine j_lperm (pq_m _ _ _ _ _ _ _ _) ?_
  refine j_cyV (pc := 532) X (As := []) (st := [_]) (c_X5_keep l D tA m y s sn v kp len hrel) cd_X5_keep wm_L_73 0 rfl rfl rfl (fun _ => rfl) ⟨Nat.le_of_ble_eq_true rfl, Nat.le_of_ble_eq_true rfl⟩ h0 rfl (Nat.le_of_ble_eq_true rfl) dL_law_532 (fun u hu => ?_)
  refine j_lperm (pq_m _ _ _ _ _ _ _ _).symm ?_
  refine j_icmp_eq_t (pc := 535) X (tgt := 939) dL_law_535 (by decide) rfl ?_
  exact ih s s s3 v true len ch p t T u ⟨hu, hw, hs3, hh, hl, hch, hp, ht, hT⟩
set_option maxHeartbeats 4000000 in
set_option maxRecDepth 100000 in
theorem law_restore {l : Launch} {D : va_G} {tA : Nat → ClassId} {G : kCx} {n k b0 L : Nat} {xs : Nat → Int32} (hC : LCx D tA G n k b0 L xs) {c : Nat} {a b f h x m : Nat → Nat} {d : Nat → Nat → Nat} {i : Nat} (hi : i + 6 ≤ L)  (s sn s3 : Sg) (v : Hs) (kp : Bool) (len : Nat) (ch : Nat → Nat) (p : Nat) (t : Tb) (T : Nat → Nat) (y : MX) (hinv : LInv s sn s3 v kp len ch p t T y) (ih : ∀ (s sn s3 : Sg) (v : Hs) (kp : Bool) (len : Nat) (ch : Nat → Nat) (p : Nat) (t : Tb) (T : Nat → Nat) (y : MX), LInv s sn s3 v kp len ch p t T y → J l D G n k (lawW tA c a b f h x m d s sn s3 v kp len ch p t T y) [(3, .int (nI i)), (0, .ref b0), (1, .ref c), (2, .ref (m 0))] 939 []) : J l D G n k (lawW tA c a b f h x m d s sn s3 v kp len ch p t T y) [(3, .int (nI i)), (0, .ref b0), (1, .ref c), (2, .ref (m 0))] 540 [] := by
  obtain ⟨X, h0, hX, hbl, hbA, hL⟩ := hC
  obtain ⟨hrel, hsn, hs3, hh, hl, hch, hp, ht, hT⟩ := hinv
  have hw := hrel.2.1.1
  have hnx := hrel.2.2.1
  have hsz := hrel.2.2.2.1
  refine j_aload_n (pc := 540) X dL_law_540 rfl (q := 2) rfl ?_
  refine j_lperm (pq_g _ _ _ _ _ _ _ _) ?_
  refine j_cxV (pc := 541) X (As := []) (st := []) (c_X4_restore l D tA c a b f h x kp s sn d v hw hnx hsz hh hsn) cd_X4_restore wm_L_74 0 rfl rfl rfl fst_g ⟨Nat.le_of_ble_eq_true rfl, Nat.le_of_ble_eq_true rfl⟩ h0 rfl (Nat.le_of_ble_eq_true rfl) dL_law_541 ?_
  refine j_lperm (pq_g _ _ _ _ _ _ _ _).symm ?_
  refine j_aload_n (pc := 544) X dL_law_544 rfl (q := 3) rfl ?_
  refine j_lperm (pq_m _ _ _ _ _ _ _ _) ?_
  refine j_cyV (pc := 545) X (As := []) (st := [_]) (c_X5_restore l D tA m y s sn v kp len hrel) cd_X5_restore wm_L_77 0 rfl rfl rfl (fun _ => rfl) ⟨Nat.le_of_ble_eq_true rfl, Nat.le_of_ble_eq_true rfl⟩ h0 rfl (Nat.le_of_ble_eq_true rfl) dL_law_545 (fun u hu => ?_)
  refine j_lperm (pq_m _ _ _ _ _ _ _ _).symm ?_
  refine j_icmp_eq_t (pc := 548) X (tgt := 939) dL_law_548 (by decide) rfl ?_
  exact ih (aS s (oRestore s sn kp).2) sn s3 (aH v s (oRestore s sn kp).2) kp len ch p t T u ⟨hu, hsn, hs3, hh_push hh hw _, hl, hch, hp, ht, hT⟩
set_option maxHeartbeats 4000000 in
set_option maxRecDepth 100000 in
theorem law_willBear {l : Launch} {D : va_G} {tA : Nat → ClassId} {G : kCx} {n k b0 L : Nat} {xs : Nat → Int32} (hC : LCx D tA G n k b0 L xs) {c : Nat} {a b f h x m : Nat → Nat} {d : Nat → Nat → Nat} {i : Nat} (hi : i + 6 ≤ L)  (s sn s3 : Sg) (v : Hs) (kp : Bool) (len : Nat) (ch : Nat → Nat) (p : Nat) (t : Tb) (T : Nat → Nat) (y : MX) (hinv : LInv s sn s3 v kp len ch p t T y) (ih : ∀ (s sn s3 : Sg) (v : Hs) (kp : Bool) (len : Nat) (ch : Nat → Nat) (p : Nat) (t : Tb) (T : Nat → Nat) (y : MX), LInv s sn s3 v kp len ch p t T y → J l D G n k (lawW tA c a b f h x m d s sn s3 v kp len ch p t T y) [(3, .int (nI i)), (0, .ref b0), (1, .ref c), (2, .ref (m 0))] 939 []) : J l D G n k (lawW tA c a b f h x m d s sn s3 v kp len ch p t T y) [(3, .int (nI i)), (0, .ref b0), (1, .ref c), (2, .ref (m 0))] 586 [] := by
  obtain ⟨X, h0, hX, hbl, hbA, hL⟩ := hC
  obtain ⟨hrel, hsn, hs3, hh, hl, hch, hp, ht, hT⟩ := hinv
  have hw := hrel.2.1.1
  have hnx := hrel.2.2.1
  have hsz := hrel.2.2.2.1
  refine j_aload_n (pc := 586) X dL_law_586 rfl (q := 2) rfl ?_
  refine j_aload_n (pc := 587) X dL_law_587 rfl (q := 1) rfl ?_
  refine j_iload_n (pc := 588) X dL_law_588 rfl (q := 0) rfl ?_
  refine j_iconst (pc := 589) X (v := nI 1) dL_law_589 (by decide) ?_
  refine j_iadd (pc := 590) X (v := nI (i + 1)) dL_law_590 (nI_add _ _) ?_
  refine j_sld (pc := 591) X hX hbl hbA (i := i + 1) (by omega) (by omega) dL_law_591 ?_
  refine j_aload_n (pc := 592) X dL_law_592 rfl (q := 1) rfl ?_
  refine j_iload_n (pc := 593) X dL_law_593 rfl (q := 0) rfl ?_
  refine j_iconst (pc := 594) X (v := nI 2) dL_law_594 (by decide) ?_
  refine j_iadd (pc := 595) X (v := nI (i + 2)) dL_law_595 (nI_add _ _) ?_
  refine j_sld (pc := 596) X hX hbl hbA (i := i + 2) (by omega) (by omega) dL_law_596 ?_
  refine j_aload_n (pc := 597) X dL_law_597 rfl (q := 1) rfl ?_
  refine j_iload_n (pc := 598) X dL_law_598 rfl (q := 0) rfl ?_
  refine j_iconst (pc := 599) X (v := nI 3) dL_law_599 (by decide) ?_
  refine j_iadd (pc := 600) X (v := nI (i + 3)) dL_law_600 (nI_add _ _) ?_
  refine j_sld (pc := 601) X hX hbl hbA (i := i + 3) (by omega) (by omega) dL_law_601 ?_
  refine j_lperm (pq_h _ _ _ _ _ _ _ _) ?_
  refine j_cxV (pc := 602) X (As := [.int (xs (i + 1)), .int (xs (i + 2)), .int (xs (i + 3))]) (st := []) (c_X4_willBear l D tA c a b f h x kp s s3 (xs (i + 1)) (xs (i + 2)) (xs (i + 3)) hw hs3) cd_X4_willBear wm_L_82 0 rfl rfl rfl fst_h ⟨Nat.le_of_ble_eq_true rfl, Nat.le_of_ble_eq_true rfl⟩ h0 rfl (Nat.le_of_ble_eq_true rfl) dL_law_602 ?_
  refine j_lperm (pq_h _ _ _ _ _ _ _ _).symm ?_
  refine j_aload_n (pc := 605) X dL_law_605 rfl (q := 3) rfl ?_
  refine j_aload_n (pc := 606) X dL_law_606 rfl (q := 1) rfl ?_
  refine j_iload_n (pc := 607) X dL_law_607 rfl (q := 0) rfl ?_
  refine j_iconst (pc := 608) X (v := nI 1) dL_law_608 (by decide) ?_
  refine j_iadd (pc := 609) X (v := nI (i + 1)) dL_law_609 (nI_add _ _) ?_
  refine j_sld (pc := 610) X hX hbl hbA (i := i + 1) (by omega) (by omega) dL_law_610 ?_
  refine j_aload_n (pc := 611) X dL_law_611 rfl (q := 1) rfl ?_
  refine j_iload_n (pc := 612) X dL_law_612 rfl (q := 0) rfl ?_
  refine j_iconst (pc := 613) X (v := nI 2) dL_law_613 (by decide) ?_
  refine j_iadd (pc := 614) X (v := nI (i + 2)) dL_law_614 (nI_add _ _) ?_
  refine j_sld (pc := 615) X hX hbl hbA (i := i + 2) (by omega) (by omega) dL_law_615 ?_
  refine j_aload_n (pc := 616) X dL_law_616 rfl (q := 1) rfl ?_
  refine j_iload_n (pc := 617) X dL_law_617 rfl (q := 0) rfl ?_
  refine j_iconst (pc := 618) X (v := nI 3) dL_law_618 (by decide) ?_
  refine j_iadd (pc := 619) X (v := nI (i + 3)) dL_law_619 (nI_add _ _) ?_
  refine j_sld (pc := 620) X hX hbl hbA (i := i + 3) (by omega) (by omega) dL_law_620 ?_
  refine j_lperm (pq_m _ _ _ _ _ _ _ _) ?_
  refine j_cyV (pc := 621) X (As := [.int (xs (i + 1)), .int (xs (i + 2)), .int (xs (i + 3))]) (st := [_]) (c_X5_willBear l D tA m y s sn v kp len (xs (i + 1)) (xs (i + 2)) (xs (i + 3)) hrel) cd_X5_willBear wm_L_86 0 rfl rfl rfl (fun _ => rfl) ⟨Nat.le_of_ble_eq_true rfl, Nat.le_of_ble_eq_true rfl⟩ h0 rfl (Nat.le_of_ble_eq_true rfl) dL_law_621 (fun u hu => ?_)
  refine j_lperm (pq_m _ _ _ _ _ _ _ _).symm ?_
  refine j_icmp_eq_t (pc := 624) X (tgt := 939) dL_law_624 (by decide) rfl ?_
  exact ih s sn (aS s3 (oWill s (xs (i + 1)) (xs (i + 2)) (xs (i + 3))).2) v kp len ch p t T u ⟨hu, hsn, will_wf hw hs3 _ _ _, hh, hl, hch, hp, ht, hT⟩
set_option maxHeartbeats 4000000 in
set_option maxRecDepth 100000 in
theorem law_fate {l : Launch} {D : va_G} {tA : Nat → ClassId} {G : kCx} {n k b0 L : Nat} {xs : Nat → Int32} (hC : LCx D tA G n k b0 L xs) {c : Nat} {a b f h x m : Nat → Nat} {d : Nat → Nat → Nat} {i : Nat} (hi : i + 6 ≤ L)  (s sn s3 : Sg) (v : Hs) (kp : Bool) (len : Nat) (ch : Nat → Nat) (p : Nat) (t : Tb) (T : Nat → Nat) (y : MX) (hinv : LInv s sn s3 v kp len ch p t T y) (ih : ∀ (s sn s3 : Sg) (v : Hs) (kp : Bool) (len : Nat) (ch : Nat → Nat) (p : Nat) (t : Tb) (T : Nat → Nat) (y : MX), LInv s sn s3 v kp len ch p t T y → J l D G n k (lawW tA c a b f h x m d s sn s3 v kp len ch p t T y) [(3, .int (nI i)), (0, .ref b0), (1, .ref c), (2, .ref (m 0))] 939 []) : J l D G n k (lawW tA c a b f h x m d s sn s3 v kp len ch p t T y) [(3, .int (nI i)), (0, .ref b0), (1, .ref c), (2, .ref (m 0))] 870 [] := by
  obtain ⟨X, h0, hX, hbl, hbA, hL⟩ := hC
  obtain ⟨hrel, hsn, hs3, hh, hl, hch, hp, ht, hT⟩ := hinv
  have hw := hrel.2.1.1
  have hnx := hrel.2.2.1
  have hsz := hrel.2.2.2.1
  refine j_aload_n (pc := 870) X dL_law_870 rfl (q := 2) rfl ?_
  refine j_aload_n (pc := 871) X dL_law_871 rfl (q := 1) rfl ?_
  refine j_iload_n (pc := 872) X dL_law_872 rfl (q := 0) rfl ?_
  refine j_iconst (pc := 873) X (v := nI 1) dL_law_873 (by decide) ?_
  refine j_iadd (pc := 874) X (v := nI (i + 1)) dL_law_874 (nI_add _ _) ?_
  refine j_sld (pc := 875) X hX hbl hbA (i := i + 1) (by omega) (by omega) dL_law_875 ?_
  refine j_lperm (pq_h _ _ _ _ _ _ _ _) ?_
  refine j_cxV (pc := 876) X (As := [.int (xs (i + 1))]) (st := []) (c_X4_fate l D tA c a b f h x kp s s3 (xs (i + 1)) hw hs3) cd_X4_fate wm_L_115 0 rfl rfl rfl fst_h ⟨Nat.le_of_ble_eq_true rfl, Nat.le_of_ble_eq_true rfl⟩ h0 rfl (Nat.le_of_ble_eq_true rfl) dL_law_876 ?_
  refine j_lperm (pq_h _ _ _ _ _ _ _ _).symm ?_
  refine j_aload_n (pc := 879) X dL_law_879 rfl (q := 3) rfl ?_
  refine j_aload_n (pc := 880) X dL_law_880 rfl (q := 1) rfl ?_
  refine j_iload_n (pc := 881) X dL_law_881 rfl (q := 0) rfl ?_
  refine j_iconst (pc := 882) X (v := nI 1) dL_law_882 (by decide) ?_
  refine j_iadd (pc := 883) X (v := nI (i + 1)) dL_law_883 (nI_add _ _) ?_
  refine j_sld (pc := 884) X hX hbl hbA (i := i + 1) (by omega) (by omega) dL_law_884 ?_
  refine j_lperm (pq_m _ _ _ _ _ _ _ _) ?_
  refine j_cyV (pc := 885) X (As := [.int (xs (i + 1))]) (st := [_]) (c_X5_fate l D tA m y s sn v kp len (xs (i + 1)) hrel) cd_X5_fate wm_L_118 0 rfl rfl rfl (fun _ => rfl) ⟨Nat.le_of_ble_eq_true rfl, Nat.le_of_ble_eq_true rfl⟩ h0 rfl (Nat.le_of_ble_eq_true rfl) dL_law_885 (fun u hu => ?_)
  refine j_lperm (pq_m _ _ _ _ _ _ _ _).symm ?_
  refine j_icmp_eq_t (pc := 888) X (tgt := 939) dL_law_888 (by decide) rfl ?_
  exact ih s sn (aS s3 (oFate s (xs (i + 1))).2) v kp len ch p t T u ⟨hu, hsn, fate_wf hw hs3 _, hh, hl, hch, hp, ht, hT⟩
