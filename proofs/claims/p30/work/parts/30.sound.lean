/-! the accounts hold -/
theorem nI_sum {f : Nat → Nat} {m : Nat} : nI (sumN f m) + nI (f m) = nI (sumN f (m + 1)) := nI_add _ _
theorem sub00 : nI 0 = nI 0 - nI 0 := by decide +kernel
theorem fr_step {x : Int32} {A B a b : Nat} (hx : x = nI A - nI B) : x + (nI a - nI b) = nI (A + a) - nI (B + b) := by
  rw [hx, ← nI_add, ← nI_add]
  simp only [Int32.sub_eq_add_neg, Int32.neg_add]
  ac_rfl
theorem rO_is {o : Option Nat} {q : Nat} (hb : ∀ b, o = some b → b < 2 ^ 31) (hq : q < 2 ^ 31) (h : rO o = nI q) : o = some q := by
  cases o with
  | none =>
    have h2 := nI_toInt hq
    rw [← h] at h2
    have h3 : ((-5 : Int32)).toInt = -5 := by decide
    have h4 : (rO none).toInt = -5 := h3
    omega
  | some b =>
    have h1 : nI b = nI q := h
    rw [(nI_eq (hb b rfl) hq).mp h1]
theorem cd_L_isSound : kCardS yL_isSound cL_isSound 14 (some .boolean) 2 := ⟨⟨wc_L_isSound, wi_L, by decide +kernel, by decide +kernel, rfl⟩, wt_L_isSound⟩
set_option maxHeartbeats 4000000 in
set_option maxRecDepth 100000 in
theorem c_L_isSound (l : Launch) (D : va_G) (tA : Nat → ClassId) (g : Ad) (s sn s3 : Sg) (v : Hs) (kp : Bool) (bl : Nat) (h : Iv bl s) : Kx l D tA yL_isSound cL_isSound 14 (some .boolean) 4 85 [.ref g.1, .int (nI bl)] (cuW tA g s sn s3 v kp) (some (.int (bI true))) (cuW tA g s sn s3 v kp) := by
  refine kx_bool rfl (Nat.le_of_ble_eq_true rfl) (fun G X E => ?_)
  show J l D G 0 0 (cuW tA g s sn s3 v kp) [(0, .ref g.1), (1, .int (nI bl))] 0 []
  have hw := h.1.1
  have hn := hw.n
  refine j_aload_n (pc := 0) X dL_isSound_0 rfl (q := 0) rfl ?_
  refine j_iconst (pc := 1) X (v := (nI 0)) dL_isSound_1 (by decide +kernel) ?_
  refine q_count (pc := 2) X hw (r := (nI (sN s))) (oC_0 _ _ _) wm_L_12 ⟨Nat.le_of_ble_eq_true rfl, Nat.le_of_ble_eq_true rfl⟩ ⟨Nat.zero_le _, Nat.zero_le _⟩ (Nat.le_of_ble_eq_true rfl) dL_isSound_2 ?_
  refine j_istore_n (pc := 5) X (lv' := [(2, .int (nI (sN s))), (0, .ref g.1), (1, .int (nI bl))]) dL_isSound_5 rfl (by decide) rfl ?_
  refine j_iconst (pc := 6) X (v := (nI 0)) dL_isSound_6 (by decide +kernel) ?_
  refine j_istore_n (pc := 7) X (lv' := [(3, .int (nI 0)), (2, .int (nI (sN s))), (0, .ref g.1), (1, .int (nI bl))]) dL_isSound_7 rfl (by decide) rfl ?_
  refine j_iconst (pc := 8) X (v := (nI 0)) dL_isSound_8 (by decide +kernel) ?_
  refine j_istore (pc := 9) X (lv' := [(4, .int (nI 0)), (3, .int (nI 0)), (2, .int (nI (sN s))), (0, .ref g.1), (1, .int (nI bl))]) dL_isSound_9 (by decide) rfl ?_
  refine j_iconst (pc := 11) X (v := (nI 0)) dL_isSound_11 (by decide +kernel) ?_
  refine j_istore (pc := 12) X (lv' := [(5, .int (nI 0)), (4, .int (nI 0)), (3, .int (nI 0)), (2, .int (nI (sN s))), (0, .ref g.1), (1, .int (nI bl))]) dL_isSound_12 (by decide) rfl ?_
  refine j_iconst (pc := 14) X (v := (nI 0)) dL_isSound_14 (by decide +kernel) ?_
  refine j_istore (pc := 15) X (lv' := [(6, .int (nI 0)), (5, .int (nI 0)), (4, .int (nI 0)), (3, .int (nI 0)), (2, .int (nI (sN s))), (0, .ref g.1), (1, .int (nI bl))]) dL_isSound_15 (by decide) rfl ?_
  have L_17 : ∀ (fu : Nat) (m : Nat) (x : Int32), m ≤ (sM s).1 → x = nI (sumN (fun i => cV s 1 i) m) - nI (sumN (fun i => cV s 2 i) m) → (sM s).1 - m < fu → J l D G 0 0 (cuW tA g s sn s3 v kp) [(0, .ref g.1), (1, .int (nI bl)), (2, .int (nI (sN s))), (3, .int (nI (sumN (fun i => cB s 1 i 0) m))), (4, .int (nI (sumN (fun i => cB s 1 i 1) m))), (5, .int x), (6, .int (nI m))] 17 [] := by
    intro fu
    induction fu with
    | zero => intro m x hm hx hfu; exact absurd hfu (Nat.not_lt_zero _)
    | succ fu ih_17 =>
      intro m x hm hx hfu
      refine j_iload (pc := 17) X dL_isSound_17 (q := 6) rfl ?_
      refine j_aload_n (pc := 19) X dL_isSound_19 rfl (q := 0) rfl ?_
      refine j_iconst (pc := 20) X (v := (nI 1)) dL_isSound_20 (by decide +kernel) ?_
      refine q_count (pc := 21) X hw (r := (nI ((sM s).1))) (oC_1 _ _ _) wm_L_12 ⟨Nat.le_of_ble_eq_true rfl, Nat.le_of_ble_eq_true rfl⟩ ⟨Nat.zero_le _, Nat.zero_le _⟩ (Nat.le_of_ble_eq_true rfl) dL_isSound_21 ?_
      refine j_icmp_ge (pc := 24) X (tgt := 138) (P := ((sM s).1) ≤ m) dL_isSound_24 (by decide) (nI_leI (by omega) (by omega)) (fun h24 => ?_) (fun h24 => ?_)
      · skip
        have em : m = (sM s).1 := by omega
        subst em
        refine j_iconst (pc := 138) X (v := (nI 0)) dL_isSound_138 (by decide +kernel) ?_
        refine j_istore (pc := 139) X (lv' := [(6, .int (nI 0)), (0, .ref g.1), (1, .int (nI bl)), (2, .int (nI (sN s))), (3, .int (nI (sumN (fun i => cB s 1 i 0) (sM s).1))), (4, .int (nI (sumN (fun i => cB s 1 i 1) (sM s).1))), (5, .int x)]) dL_isSound_139 (by decide) rfl ?_
        refine j_iconst (pc := 141) X (v := (nI 0)) dL_isSound_141 (by decide +kernel) ?_
        refine j_istore (pc := 142) X (lv' := [(7, .int (nI 0)), (6, .int (nI 0)), (0, .ref g.1), (1, .int (nI bl)), (2, .int (nI (sN s))), (3, .int (nI (sumN (fun i => cB s 1 i 0) (sM s).1))), (4, .int (nI (sumN (fun i => cB s 1 i 1) (sM s).1))), (5, .int x)]) dL_isSound_142 (by decide) rfl ?_
        refine j_iconst (pc := 144) X (v := (nI 0)) dL_isSound_144 (by decide +kernel) ?_
        refine j_istore (pc := 145) X (lv' := [(8, .int (nI 0)), (7, .int (nI 0)), (6, .int (nI 0)), (0, .ref g.1), (1, .int (nI bl)), (2, .int (nI (sN s))), (3, .int (nI (sumN (fun i => cB s 1 i 0) (sM s).1))), (4, .int (nI (sumN (fun i => cB s 1 i 1) (sM s).1))), (5, .int x)]) dL_isSound_145 (by decide) rfl ?_
        refine j_iconst (pc := 147) X (v := (nI 0)) dL_isSound_147 (by decide +kernel) ?_
        refine j_istore (pc := 148) X (lv' := [(9, .int (nI 0)), (8, .int (nI 0)), (7, .int (nI 0)), (6, .int (nI 0)), (0, .ref g.1), (1, .int (nI bl)), (2, .int (nI (sN s))), (3, .int (nI (sumN (fun i => cB s 1 i 0) (sM s).1))), (4, .int (nI (sumN (fun i => cB s 1 i 1) (sM s).1))), (5, .int x)]) dL_isSound_148 (by decide) rfl ?_
        refine j_iconst (pc := 150) X (v := (nI 0)) dL_isSound_150 (by decide +kernel) ?_
        refine j_istore (pc := 151) X (lv' := [(10, .int (nI 0)), (9, .int (nI 0)), (8, .int (nI 0)), (7, .int (nI 0)), (6, .int (nI 0)), (0, .ref g.1), (1, .int (nI bl)), (2, .int (nI (sN s))), (3, .int (nI (sumN (fun i => cB s 1 i 0) (sM s).1))), (4, .int (nI (sumN (fun i => cB s 1 i 1) (sM s).1))), (5, .int x)]) dL_isSound_151 (by decide) rfl ?_
        have L_153 : ∀ (fu : Nat) (p : Nat), p ≤ (sP s).1 → (sP s).1 - p < fu → J l D G 0 0 (cuW tA g s sn s3 v kp) [(0, .ref g.1), (1, .int (nI bl)), (2, .int (nI (sN s))), (3, .int (nI (sumN (fun i => cB s 1 i 0) ((sM s).1)))), (4, .int (nI (sumN (fun i => cB s 1 i 1) ((sM s).1)))), (5, .int x), (6, .int (nI (sumN (fun i => tGet 2 (sP s) i 0) p))), (7, .int (nI (sumN (fun i => tGet 2 (sP s) i 1) p))), (8, .int (nI (sumN (fun i => cV s 0 i) p))), (9, .int (nI 0)), (10, .int (nI p))] 153 [] := by
          intro fu
          induction fu with
          | zero => intro p hp hfu; exact absurd hfu (Nat.not_lt_zero _)
          | succ fu ih_153 =>
            intro p hp hfu
            refine j_iload (pc := 153) X dL_isSound_153 (q := 10) rfl ?_
            refine j_aload_n (pc := 155) X dL_isSound_155 rfl (q := 0) rfl ?_
            refine j_iconst (pc := 156) X (v := (nI 2)) dL_isSound_156 (by decide +kernel) ?_
            refine q_count (pc := 157) X hw (r := (nI ((sP s).1))) (oC_2 _ _ _) wm_L_12 ⟨Nat.le_of_ble_eq_true rfl, Nat.le_of_ble_eq_true rfl⟩ ⟨Nat.zero_le _, Nat.zero_le _⟩ (Nat.le_of_ble_eq_true rfl) dL_isSound_157 ?_
            refine j_icmp_ge (pc := 160) X (tgt := 294) (P := ((sP s).1) ≤ p) dL_isSound_160 (by decide) (nI_leI (by omega) (by omega)) (fun h160 => ?_) (fun h160 => ?_)
            · skip
              have ep : p = (sP s).1 := by omega
              subst ep
              refine j_iconst (pc := 294) X (v := (nI 0)) dL_isSound_294 (by decide +kernel) ?_
              refine j_istore (pc := 295) X (lv' := [(10, .int (nI 0)), (0, .ref g.1), (1, .int (nI bl)), (2, .int (nI (sN s))), (3, .int (nI (sumN (fun i => cB s 1 i 0) ((sM s).1)))), (4, .int (nI (sumN (fun i => cB s 1 i 1) ((sM s).1)))), (5, .int x), (6, .int (nI (sumN (fun i => tGet 2 (sP s) i 0) (sP s).1))), (7, .int (nI (sumN (fun i => tGet 2 (sP s) i 1) (sP s).1))), (8, .int (nI (sumN (fun i => cV s 0 i) (sP s).1))), (9, .int (nI 0))]) dL_isSound_295 (by decide) rfl ?_
              have L_297 : ∀ (fu : Nat) (q : Nat), q ≤ (sB s).1 → (sB s).1 - q < fu → J l D G 0 0 (cuW tA g s sn s3 v kp) [(0, .ref g.1), (1, .int (nI bl)), (2, .int (nI (sN s))), (3, .int (nI (sumN (fun i => cB s 1 i 0) ((sM s).1)))), (4, .int (nI (sumN (fun i => cB s 1 i 1) ((sM s).1)))), (5, .int x), (6, .int (nI (sumN (fun i => tGet 2 (sP s) i 0) ((sP s).1)))), (7, .int (nI (sumN (fun i => tGet 2 (sP s) i 1) ((sP s).1)))), (8, .int (nI (sumN (fun i => cV s 0 i) ((sP s).1)))), (9, .int (nI (sumN (fun i => tGet 8 (sB s) i 7) q))), (10, .int (nI q))] 297 [] := by
                intro fu
                induction fu with
                | zero => intro q hq hfu; exact absurd hfu (Nat.not_lt_zero _)
                | succ fu ih_297 =>
                  intro q hq hfu
                  refine j_iload (pc := 297) X dL_isSound_297 (q := 10) rfl ?_
                  refine j_aload_n (pc := 299) X dL_isSound_299 rfl (q := 0) rfl ?_
                  refine j_iconst (pc := 300) X (v := (nI 3)) dL_isSound_300 (by decide +kernel) ?_
                  refine q_count (pc := 301) X hw (r := (nI ((sB s).1))) (oC_3 _ _ _) wm_L_12 ⟨Nat.le_of_ble_eq_true rfl, Nat.le_of_ble_eq_true rfl⟩ ⟨Nat.zero_le _, Nat.zero_le _⟩ (Nat.le_of_ble_eq_true rfl) dL_isSound_301 ?_
                  refine j_icmp_ge (pc := 304) X (tgt := 423) (P := ((sB s).1) ≤ q) dL_isSound_304 (by decide) (nI_leI (by omega) (by omega)) (fun h304 => ?_) (fun h304 => ?_)
                  · skip
                    have eq : q = (sB s).1 := by omega
                    subst eq
                    refine j_iconst (pc := 423) X (v := (nI 0)) dL_isSound_423 (by decide +kernel) ?_
                    refine j_istore (pc := 424) X (lv' := [(10, .int (nI 0)), (0, .ref g.1), (1, .int (nI bl)), (2, .int (nI (sN s))), (3, .int (nI (sumN (fun i => cB s 1 i 0) ((sM s).1)))), (4, .int (nI (sumN (fun i => cB s 1 i 1) ((sM s).1)))), (5, .int x), (6, .int (nI (sumN (fun i => tGet 2 (sP s) i 0) ((sP s).1)))), (7, .int (nI (sumN (fun i => tGet 2 (sP s) i 1) ((sP s).1)))), (8, .int (nI (sumN (fun i => cV s 0 i) ((sP s).1)))), (9, .int (nI (sumN (fun i => tGet 8 (sB s) i 7) (sB s).1)))]) dL_isSound_424 (by decide) rfl ?_
                    have L_426 : ∀ (fu : Nat) (r : Nat), r ≤ (sV s).1 → (sV s).1 - r < fu → J l D G 0 0 (cuW tA g s sn s3 v kp) [(0, .ref g.1), (1, .int (nI bl)), (2, .int (nI (sN s))), (3, .int (nI (sumN (fun i => cB s 1 i 0) ((sM s).1)))), (4, .int (nI (sumN (fun i => cB s 1 i 1) ((sM s).1)))), (5, .int x), (6, .int (nI (sumN (fun i => tGet 2 (sP s) i 0) ((sP s).1)))), (7, .int (nI (sumN (fun i => tGet 2 (sP s) i 1) ((sP s).1)))), (8, .int (nI (sumN (fun i => cV s 0 i) ((sP s).1)))), (9, .int (nI (sumN (fun i => tGet 8 (sB s) i 7) ((sB s).1)))), (10, .int (nI r))] 426 [] := by
                      intro fu
                      induction fu with
                      | zero => intro r hr hfu; exact absurd hfu (Nat.not_lt_zero _)
                      | succ fu ih_426 =>
                        intro r hr hfu
                        refine j_iload (pc := 426) X dL_isSound_426 (q := 10) rfl ?_
                        refine j_aload_n (pc := 428) X dL_isSound_428 rfl (q := 0) rfl ?_
                        refine j_bipush (pc := 429) X (v := (nI 8)) dL_isSound_429 (by decide +kernel) ?_
                        refine q_count (pc := 431) X hw (r := (nI ((sV s).1))) (oC_8 _ _ _) wm_L_12 ⟨Nat.le_of_ble_eq_true rfl, Nat.le_of_ble_eq_true rfl⟩ ⟨Nat.zero_le _, Nat.zero_le _⟩ (Nat.le_of_ble_eq_true rfl) dL_isSound_431 ?_
                        refine j_icmp_ge (pc := 434) X (tgt := 473) (P := ((sV s).1) ≤ r) dL_isSound_434 (by decide) (nI_leI (by omega) (by omega)) (fun h434 => ?_) (fun h434 => ?_)
                        · skip
                          have er : r = (sV s).1 := by omega
                          subst er
                          refine j_iload (pc := 473) X dL_isSound_473 (q := 5) rfl ?_
                          refine j_if_ne_f (pc := 475) X (tgt := 627) dL_isSound_475 (by decide) (fun z => z (by rw [hx, add_V hw 1 (Or.inl rfl), add_V hw 2 (Or.inr rfl), Int32.sub_self])) ?_
                          refine j_iload_n (pc := 478) X dL_isSound_478 rfl (q := 3) rfl ?_
                          refine j_aload_n (pc := 479) X dL_isSound_479 rfl (q := 0) rfl ?_
                          refine j_iconst (pc := 480) X (v := (nI 4)) dL_isSound_480 (by decide +kernel) ?_
                          refine q_count (pc := 481) X hw (r := (nI (cT s 0))) (oC_4 _ _ _) wm_L_12 ⟨Nat.le_of_ble_eq_true rfl, Nat.le_of_ble_eq_true rfl⟩ ⟨Nat.zero_le _, Nat.zero_le _⟩ (Nat.le_of_ble_eq_true rfl) dL_isSound_481 ?_
                          refine j_icmp_ne_f (pc := 484) X (tgt := 627) dL_isSound_484 (by decide) (fun z => z (congrArg nI (add_M hw 0))) ?_
                          refine j_iload (pc := 487) X dL_isSound_487 (q := 4) rfl ?_
                          refine j_aload_n (pc := 489) X dL_isSound_489 rfl (q := 0) rfl ?_
                          refine j_iconst (pc := 490) X (v := (nI 5)) dL_isSound_490 (by decide +kernel) ?_
                          refine q_count (pc := 491) X hw (r := (nI (cT s 1))) (oC_5 _ _ _) wm_L_12 ⟨Nat.le_of_ble_eq_true rfl, Nat.le_of_ble_eq_true rfl⟩ ⟨Nat.zero_le _, Nat.zero_le _⟩ (Nat.le_of_ble_eq_true rfl) dL_isSound_491 ?_
                          refine j_icmp_ne_f (pc := 494) X (tgt := 627) dL_isSound_494 (by decide) (fun z => z (congrArg nI (add_M hw 1))) ?_
                          refine j_iload (pc := 497) X dL_isSound_497 (q := 6) rfl ?_
                          refine j_aload_n (pc := 499) X dL_isSound_499 rfl (q := 0) rfl ?_
                          refine j_bipush (pc := 500) X (v := (nI 11)) dL_isSound_500 (by decide +kernel) ?_
                          refine q_count (pc := 502) X hw (r := (nI (sPaid s))) (oC_11 _ _ _) wm_L_12 ⟨Nat.le_of_ble_eq_true rfl, Nat.le_of_ble_eq_true rfl⟩ ⟨Nat.zero_le _, Nat.zero_le _⟩ (Nat.le_of_ble_eq_true rfl) dL_isSound_502 ?_
                          refine j_icmp_ne_f (pc := 505) X (tgt := 627) dL_isSound_505 (by decide) (fun z => z rfl) ?_
                          refine j_iload (pc := 508) X dL_isSound_508 (q := 7) rfl ?_
                          refine j_aload_n (pc := 510) X dL_isSound_510 rfl (q := 0) rfl ?_
                          refine j_bipush (pc := 511) X (v := (nI 12)) dL_isSound_511 (by decide +kernel) ?_
                          refine q_count (pc := 513) X hw (r := (nI (sCaus s))) (oC_12 _ _ _) wm_L_12 ⟨Nat.le_of_ble_eq_true rfl, Nat.le_of_ble_eq_true rfl⟩ ⟨Nat.zero_le _, Nat.zero_le _⟩ (Nat.le_of_ble_eq_true rfl) dL_isSound_513 ?_
                          refine j_icmp_ne_f (pc := 516) X (tgt := 627) dL_isSound_516 (by decide) (fun z => z rfl) ?_
                          refine j_iload (pc := 519) X dL_isSound_519 (q := 8) rfl ?_
                          refine j_aload_n (pc := 521) X dL_isSound_521 rfl (q := 0) rfl ?_
                          refine j_bipush (pc := 522) X (v := (nI 8)) dL_isSound_522 (by decide +kernel) ?_
                          refine q_count (pc := 524) X hw (r := (nI ((sV s).1))) (oC_8 _ _ _) wm_L_12 ⟨Nat.le_of_ble_eq_true rfl, Nat.le_of_ble_eq_true rfl⟩ ⟨Nat.zero_le _, Nat.zero_le _⟩ (Nat.le_of_ble_eq_true rfl) dL_isSound_524 ?_
                          refine j_icmp_ne_f (pc := 527) X (tgt := 627) dL_isSound_527 (by decide) (fun z => z (congrArg nI (add_O hw))) ?_
                          refine j_iload (pc := 530) X dL_isSound_530 (q := 9) rfl ?_
                          refine j_aload_n (pc := 532) X dL_isSound_532 rfl (q := 0) rfl ?_
                          refine j_bipush (pc := 533) X (v := (nI 12)) dL_isSound_533 (by decide +kernel) ?_
                          refine q_count (pc := 535) X hw (r := (nI (sCaus s))) (oC_12 _ _ _) wm_L_12 ⟨Nat.le_of_ble_eq_true rfl, Nat.le_of_ble_eq_true rfl⟩ ⟨Nat.zero_le _, Nat.zero_le _⟩ (Nat.le_of_ble_eq_true rfl) dL_isSound_535 ?_
                          refine j_aload_n (pc := 538) X dL_isSound_538 rfl (q := 0) rfl ?_
                          refine j_bipush (pc := 539) X (v := (nI 13)) dL_isSound_539 (by decide +kernel) ?_
                          refine q_count (pc := 541) X hw (r := (nI (sX s))) (oC_13 _ _ _) wm_L_12 ⟨Nat.le_of_ble_eq_true rfl, Nat.le_of_ble_eq_true rfl⟩ ⟨Nat.zero_le _, Nat.zero_le _⟩ (Nat.le_of_ble_eq_true rfl) dL_isSound_541 ?_
                          refine j_iadd (pc := 544) X (v := (nI ((sCaus s) + (sX s)))) dL_isSound_544 (nI_add _ _) ?_
                          refine j_icmp_ne_f (pc := 545) X (tgt := 627) dL_isSound_545 (by decide) (fun z => z (congrArg nI h.2.2.2.1.1)) ?_
                          refine j_aload_n (pc := 548) X dL_isSound_548 rfl (q := 0) rfl ?_
                          refine j_bipush (pc := 549) X (v := (nI 14)) dL_isSound_549 (by decide +kernel) ?_
                          refine q_count (pc := 551) X hw (r := (nI (sBlk s))) (oC_14 _ _ _) wm_L_12 ⟨Nat.le_of_ble_eq_true rfl, Nat.le_of_ble_eq_true rfl⟩ ⟨Nat.zero_le _, Nat.zero_le _⟩ (Nat.le_of_ble_eq_true rfl) dL_isSound_551 ?_
                          refine j_iload_n (pc := 554) X dL_isSound_554 rfl (q := 1) rfl ?_
                          refine j_icmp_ne_f (pc := 555) X (tgt := 627) dL_isSound_555 (by decide) (fun z => z (congrArg nI h.2.2.2.2)) ?_
                          refine j_aload_n (pc := 558) X dL_isSound_558 rfl (q := 0) rfl ?_
                          refine j_iconst (pc := 559) X (v := (nI 4)) dL_isSound_559 (by decide +kernel) ?_
                          refine q_count (pc := 560) X hw (r := (nI (cT s 0))) (oC_4 _ _ _) wm_L_12 ⟨Nat.le_of_ble_eq_true rfl, Nat.le_of_ble_eq_true rfl⟩ ⟨Nat.zero_le _, Nat.zero_le _⟩ (Nat.le_of_ble_eq_true rfl) dL_isSound_560 ?_
                          refine j_aload_n (pc := 563) X dL_isSound_563 rfl (q := 0) rfl ?_
                          refine j_iconst (pc := 564) X (v := (nI 5)) dL_isSound_564 (by decide +kernel) ?_
                          refine q_count (pc := 565) X hw (r := (nI (cT s 1))) (oC_5 _ _ _) wm_L_12 ⟨Nat.le_of_ble_eq_true rfl, Nat.le_of_ble_eq_true rfl⟩ ⟨Nat.zero_le _, Nat.zero_le _⟩ (Nat.le_of_ble_eq_true rfl) dL_isSound_565 ?_
                          refine j_iadd (pc := 568) X (v := (nI ((cT s 0) + (cT s 1)))) dL_isSound_568 (nI_add _ _) ?_
                          refine j_aload_n (pc := 569) X dL_isSound_569 rfl (q := 0) rfl ?_
                          refine j_bipush (pc := 570) X (v := (nI 6)) dL_isSound_570 (by decide +kernel) ?_
                          refine q_count (pc := 572) X hw (r := (nI (cT s 2))) (oC_6 _ _ _) wm_L_12 ⟨Nat.le_of_ble_eq_true rfl, Nat.le_of_ble_eq_true rfl⟩ ⟨Nat.zero_le _, Nat.zero_le _⟩ (Nat.le_of_ble_eq_true rfl) dL_isSound_572 ?_
                          refine j_iadd (pc := 575) X (v := (nI (((cT s 0) + (cT s 1)) + (cT s 2)))) dL_isSound_575 (nI_add _ _) ?_
                          refine j_aload_n (pc := 576) X dL_isSound_576 rfl (q := 0) rfl ?_
                          refine j_bipush (pc := 577) X (v := (nI 7)) dL_isSound_577 (by decide +kernel) ?_
                          refine q_count (pc := 579) X hw (r := (nI (cT s 3))) (oC_7 _ _ _) wm_L_12 ⟨Nat.le_of_ble_eq_true rfl, Nat.le_of_ble_eq_true rfl⟩ ⟨Nat.zero_le _, Nat.zero_le _⟩ (Nat.le_of_ble_eq_true rfl) dL_isSound_579 ?_
                          refine j_iadd (pc := 582) X (v := (nI ((((cT s 0) + (cT s 1)) + (cT s 2)) + (cT s 3)))) dL_isSound_582 (nI_add _ _) ?_
                          refine j_aload_n (pc := 583) X dL_isSound_583 rfl (q := 0) rfl ?_
                          refine j_iconst (pc := 584) X (v := (nI 3)) dL_isSound_584 (by decide +kernel) ?_
                          refine q_count (pc := 585) X hw (r := (nI ((sB s).1))) (oC_3 _ _ _) wm_L_12 ⟨Nat.le_of_ble_eq_true rfl, Nat.le_of_ble_eq_true rfl⟩ ⟨Nat.zero_le _, Nat.zero_le _⟩ (Nat.le_of_ble_eq_true rfl) dL_isSound_585 ?_
                          refine j_icmp_ne_f (pc := 588) X (tgt := 627) dL_isSound_588 (by decide) (fun z => z (congrArg nI (add_T hw))) ?_
                          refine j_iload (pc := 591) X dL_isSound_591 (q := 6) rfl ?_
                          refine j_bipush (pc := 593) X (v := (nI 30)) dL_isSound_593 (by decide +kernel) ?_
                          refine j_iload (pc := 595) X dL_isSound_595 (q := 4) rfl ?_
                          refine j_imul (pc := 597) X (v := (nI (30 * (sumN (fun i => cB s 1 i 1) ((sM s).1))))) dL_isSound_597 (pk_mul _ _) ?_
                          refine j_bipush (pc := 598) X (v := (nI 8)) dL_isSound_598 (by decide +kernel) ?_
                          refine j_iload (pc := 600) X dL_isSound_600 (q := 7) rfl ?_
                          refine j_imul (pc := 602) X (v := (nI (8 * (sumN (fun i => tGet 2 (sP s) i 1) ((sP s).1))))) dL_isSound_602 (pk_mul _ _) ?_
                          refine j_iadd (pc := 603) X (v := (nI ((30 * (sumN (fun i => cB s 1 i 1) ((sM s).1))) + (8 * (sumN (fun i => tGet 2 (sP s) i 1) ((sP s).1)))))) dL_isSound_603 (nI_add _ _) ?_
                          refine j_iconst (pc := 604) X (v := (nI 5)) dL_isSound_604 (by decide +kernel) ?_
                          refine j_aload_n (pc := 605) X dL_isSound_605 rfl (q := 0) rfl ?_
                          refine j_bipush (pc := 606) X (v := (nI 9)) dL_isSound_606 (by decide +kernel) ?_
                          refine q_count (pc := 608) X hw (r := (nI (sD s))) (oC_9 _ _ _) wm_L_12 ⟨Nat.le_of_ble_eq_true rfl, Nat.le_of_ble_eq_true rfl⟩ ⟨Nat.zero_le _, Nat.zero_le _⟩ (Nat.le_of_ble_eq_true rfl) dL_isSound_608 ?_
                          refine j_aload_n (pc := 611) X dL_isSound_611 rfl (q := 0) rfl ?_
                          refine j_bipush (pc := 612) X (v := (nI 10)) dL_isSound_612 (by decide +kernel) ?_
                          refine q_count (pc := 614) X hw (r := (nI (sF s))) (oC_10 _ _ _) wm_L_12 ⟨Nat.le_of_ble_eq_true rfl, Nat.le_of_ble_eq_true rfl⟩ ⟨Nat.zero_le _, Nat.zero_le _⟩ (Nat.le_of_ble_eq_true rfl) dL_isSound_614 ?_
                          refine j_iadd (pc := 617) X (v := (nI ((sD s) + (sF s)))) dL_isSound_617 (nI_add _ _) ?_
                          refine j_imul (pc := 618) X (v := (nI (5 * ((sD s) + (sF s))))) dL_isSound_618 (pk_mul _ _) ?_
                          refine j_iadd (pc := 619) X (v := (nI (((30 * (sumN (fun i => cB s 1 i 1) ((sM s).1))) + (8 * (sumN (fun i => tGet 2 (sP s) i 1) ((sP s).1)))) + (5 * ((sD s) + (sF s)))))) dL_isSound_619 (nI_add _ _) ?_
                          have ea := add_M hw 1
                          have pl := paid_le h
                          have e6 : sumN (fun i => tGet 2 (sP s) i 0) ((sP s).1) = sPaid s := rfl
                          have e7 : sumN (fun i => tGet 2 (sP s) i 1) ((sP s).1) = sCaus s := rfl
                          refine j_icmp_lt_f (pc := 620) X (tgt := 627) dL_isSound_620 (by decide) (fun z9 => absurd ((nI_ltI (by omega) (by omega)).mp z9) (by omega)) ?_
                          refine j_iconst (pc := 623) X (v := (nI 1)) dL_isSound_623 (by decide +kernel) ?_
                          refine j_goto (pc := 624) X (tgt := 628) dL_isSound_624 (by decide) ?_
                          exact j_endI (pc := 628) E dL_isSound_628 (by decide +kernel) rfl
                        · skip
                          have hrv := hw.v (v := r) (by omega)
                          have hrt := h.1.2.1 r (by omega)
                          have hrm := h.2.2.1 r (by omega)
                          refine j_aload_n (pc := 437) X dL_isSound_437 rfl (q := 0) rfl ?_
                          refine j_iload (pc := 438) X dL_isSound_438 (q := 10) rfl ?_
                          refine j_iconst (pc := 440) X (v := (nI 4)) dL_isSound_440 (by decide +kernel) ?_
                          refine q_move (pc := 441) X hw (r := (nI (tGet 5 (sV s) r 4))) (oV_c hw (by omega) (by decide)) wm_L_28 ⟨Nat.le_of_ble_eq_true rfl, Nat.le_of_ble_eq_true rfl⟩ ⟨Nat.zero_le _, Nat.zero_le _⟩ (Nat.le_of_ble_eq_true rfl) dL_isSound_441 ?_
                          refine j_iload_n (pc := 444) X dL_isSound_444 rfl (q := 2) rfl ?_
                          refine j_icmp_lt_f (pc := 445) X (tgt := 465) dL_isSound_445 (by decide) (fun z9 => absurd ((nI_ltI (by omega) (by omega)).mp z9) (by omega)) ?_
                          refine j_aload_n (pc := 448) X dL_isSound_448 rfl (q := 0) rfl ?_
                          refine j_iload (pc := 449) X dL_isSound_449 (q := 10) rfl ?_
                          refine j_iconst (pc := 451) X (v := (nI 1)) dL_isSound_451 (by decide +kernel) ?_
                          refine q_move (pc := 452) X hw (r := (nI (tGet 5 (sV s) r 1))) (oV_c hw (by omega) (by decide)) wm_L_28 ⟨Nat.le_of_ble_eq_true rfl, Nat.le_of_ble_eq_true rfl⟩ ⟨Nat.zero_le _, Nat.zero_le _⟩ (Nat.le_of_ble_eq_true rfl) dL_isSound_452 ?_
                          refine j_aload_n (pc := 455) X dL_isSound_455 rfl (q := 0) rfl ?_
                          refine j_iload (pc := 456) X dL_isSound_456 (q := 10) rfl ?_
                          refine j_iconst (pc := 458) X (v := (nI 2)) dL_isSound_458 (by decide +kernel) ?_
                          refine q_move (pc := 459) X hw (r := (nI (tGet 5 (sV s) r 2))) (oV_c hw (by omega) (by decide)) wm_L_28 ⟨Nat.le_of_ble_eq_true rfl, Nat.le_of_ble_eq_true rfl⟩ ⟨Nat.zero_le _, Nat.zero_le _⟩ (Nat.le_of_ble_eq_true rfl) dL_isSound_459 ?_
                          refine j_icmp_ne_t (pc := 462) X (tgt := 467) dL_isSound_462 (by decide) ((not_congr (nI_eq (by omega) (by omega))).mpr hrm) ?_
                          refine j_iinc (pc := 467) X (v := (nI (r + 1))) (lv' := [(10, .int (nI (r + 1))), (0, .ref g.1), (1, .int (nI bl)), (2, .int (nI (sN s))), (3, .int (nI (sumN (fun i => cB s 1 i 0) ((sM s).1)))), (4, .int (nI (sumN (fun i => cB s 1 i 1) ((sM s).1)))), (5, .int x), (6, .int (nI (sumN (fun i => tGet 2 (sP s) i 0) ((sP s).1)))), (7, .int (nI (sumN (fun i => tGet 2 (sP s) i 1) ((sP s).1)))), (8, .int (nI (sumN (fun i => cV s 0 i) ((sP s).1)))), (9, .int (nI (sumN (fun i => tGet 8 (sB s) i 7) ((sB s).1))))]) dL_isSound_467 (q := 10) rfl (nI_add _ _) (by decide) rfl ?_
                          refine j_goto (pc := 470) X (tgt := 426) dL_isSound_470 (by decide) ?_
                          refine j_lv X (lv' := [(0, .ref g.1), (1, .int (nI bl)), (2, .int (nI (sN s))), (3, .int (nI (sumN (fun i => cB s 1 i 0) ((sM s).1)))), (4, .int (nI (sumN (fun i => cB s 1 i 1) ((sM s).1)))), (5, .int x), (6, .int (nI (sumN (fun i => tGet 2 (sP s) i 0) ((sP s).1)))), (7, .int (nI (sumN (fun i => tGet 2 (sP s) i 1) ((sP s).1)))), (8, .int (nI (sumN (fun i => cV s 0 i) ((sP s).1)))), (9, .int (nI (sumN (fun i => tGet 8 (sB s) i 7) ((sB s).1)))), (10, .int (nI (r + 1)))]) [1, 2, 3, 4, 5, 6, 7, 8, 9, 10, 0] rfl ?_
                          exact ih_426 (r + 1) (by omega) (by omega)
                    refine j_lv X (lv' := [(0, .ref g.1), (1, .int (nI bl)), (2, .int (nI (sN s))), (3, .int (nI (sumN (fun i => cB s 1 i 0) ((sM s).1)))), (4, .int (nI (sumN (fun i => cB s 1 i 1) ((sM s).1)))), (5, .int x), (6, .int (nI (sumN (fun i => tGet 2 (sP s) i 0) ((sP s).1)))), (7, .int (nI (sumN (fun i => tGet 2 (sP s) i 1) ((sP s).1)))), (8, .int (nI (sumN (fun i => cV s 0 i) ((sP s).1)))), (9, .int (nI (sumN (fun i => tGet 8 (sB s) i 7) (sB s).1))), (10, .int (nI 0))]) [1, 2, 3, 4, 5, 6, 7, 8, 9, 10, 0] rfl ?_
                    exact L_426 _ 0 (Nat.zero_le _) (Nat.lt_succ_self _)
                  · skip
                    have hqb := hw.b (b := q) (by omega)
                    refine j_aload_n (pc := 307) X dL_isSound_307 rfl (q := 0) rfl ?_
                    refine j_iload (pc := 308) X dL_isSound_308 (q := 10) rfl ?_
                    refine j_iconst (pc := 310) X (v := (nI 5)) dL_isSound_310 (by decide +kernel) ?_
                    refine q_booking (pc := 311) X hw (r := (nI (tGet 8 (sB s) q 5))) (oB_c hw (by omega) (by decide)) wm_L_25 ⟨Nat.le_of_ble_eq_true rfl, Nat.le_of_ble_eq_true rfl⟩ ⟨Nat.zero_le _, Nat.zero_le _⟩ (Nat.le_of_ble_eq_true rfl) dL_isSound_311 ?_
                    refine j_if_ne (pc := 314) X (tgt := 321) (P := ¬ (tGet 8 (sB s) q 5) = 0) dL_isSound_314 (by decide) (not_congr (nC_eq0 (by omega))) (fun h314 => ?_) (fun h314 => ?_)
                    · skip
                      refine j_iconst (pc := 321) X (v := (nI 0)) dL_isSound_321 (by decide +kernel) ?_
                      refine j_istore (pc := 322) X (lv' := [(11, .int (nI 0)), (0, .ref g.1), (1, .int (nI bl)), (2, .int (nI (sN s))), (3, .int (nI (sumN (fun i => cB s 1 i 0) ((sM s).1)))), (4, .int (nI (sumN (fun i => cB s 1 i 1) ((sM s).1)))), (5, .int x), (6, .int (nI (sumN (fun i => tGet 2 (sP s) i 0) ((sP s).1)))), (7, .int (nI (sumN (fun i => tGet 2 (sP s) i 1) ((sP s).1)))), (8, .int (nI (sumN (fun i => cV s 0 i) ((sP s).1)))), (9, .int (nI (sumN (fun i => tGet 8 (sB s) i 7) q))), (10, .int (nI q))]) dL_isSound_322 (by decide) rfl ?_
                      refine j_iload (pc := 324) X dL_isSound_324 (q := 10) rfl ?_
                      refine j_aload_n (pc := 326) X dL_isSound_326 rfl (q := 1) rfl ?_
                      refine j_iload (pc := 327) X dL_isSound_327 (q := 11) rfl ?_
                      refine j_bipush (pc := 329) X (v := (nI 7)) dL_isSound_329 (by decide +kernel) ?_
                      refine q_booking (pc := 331) X hw (r := (nI (tGet 8 (sB s) q 7))) (oB_c hw (by omega) (by decide)) wm_L_25 ⟨Nat.le_of_ble_eq_true rfl, Nat.le_of_ble_eq_true rfl⟩ ⟨Nat.zero_le _, Nat.zero_le _⟩ (Nat.le_of_ble_eq_true rfl) dL_isSound_331 ?_
                      refine j_iadd (pc := 334) X (v := (nI (sumN (fun i => tGet 8 (sB s) i 7) (q + 1)))) dL_isSound_334 (nI_sum (f := (fun i => tGet 8 (sB s) i 7))) ?_
                      refine j_istore (pc := 335) X (lv' := [(9, .int (nI (sumN (fun i => tGet 8 (sB s) i 7) (q + 1)))), (11, .int (nI 0)), (0, .ref g.1), (1, .int (nI bl)), (2, .int (nI (sN s))), (3, .int (nI (sumN (fun i => cB s 1 i 0) ((sM s).1)))), (4, .int (nI (sumN (fun i => cB s 1 i 1) ((sM s).1)))), (5, .int x), (6, .int (nI (sumN (fun i => tGet 2 (sP s) i 0) ((sP s).1)))), (7, .int (nI (sumN (fun i => tGet 2 (sP s) i 1) ((sP s).1)))), (8, .int (nI (sumN (fun i => cV s 0 i) ((sP s).1)))), (10, .int (nI q))]) dL_isSound_335 (by decide) rfl ?_
                      refine j_iload (pc := 337) X dL_isSound_337 (q := 1) rfl ?_
                      refine j_if_eq_t (pc := 339) X (tgt := 353) dL_isSound_339 (by decide) (by decide +kernel) ?_
                      refine j_iload (pc := 353) X dL_isSound_353 (q := 1) rfl ?_
                      refine j_aload_n (pc := 355) X dL_isSound_355 rfl (q := 2) rfl ?_
                      refine j_aload_n (pc := 356) X dL_isSound_356 rfl (q := 2) rfl ?_
                      refine j_iload (pc := 357) X dL_isSound_357 (q := 11) rfl ?_
                      refine j_iconst (pc := 359) X (v := (nI 1)) dL_isSound_359 (by decide +kernel) ?_
                      refine q_booking (pc := 360) X hw (r := (nI (tGet 8 (sB s) q 1))) (oB_c hw (by omega) (by decide)) wm_L_25 ⟨Nat.le_of_ble_eq_true rfl, Nat.le_of_ble_eq_true rfl⟩ ⟨Nat.zero_le _, Nat.zero_le _⟩ (Nat.le_of_ble_eq_true rfl) dL_isSound_360 ?_
                      refine j_aload_n (pc := 363) X dL_isSound_363 rfl (q := 2) rfl ?_
                      refine j_iload (pc := 364) X dL_isSound_364 (q := 11) rfl ?_
                      refine j_iconst (pc := 366) X (v := (nI 2)) dL_isSound_366 (by decide +kernel) ?_
                      refine q_booking (pc := 367) X hw (r := (nI (tGet 8 (sB s) q 2))) (oB_c hw (by omega) (by decide)) wm_L_25 ⟨Nat.le_of_ble_eq_true rfl, Nat.le_of_ble_eq_true rfl⟩ ⟨Nat.zero_le _, Nat.zero_le _⟩ (Nat.le_of_ble_eq_true rfl) dL_isSound_367 ?_
                      refine q_bookedAt (pc := 370) X hw (r := (rO (bkF (sB s) (tGet 8 (sB s) q 1) (tGet 8 (sB s) q 2)))) (oA_t hw hqb.2.1 hqb.2.2.1) wm_L_37 ⟨Nat.le_of_ble_eq_true rfl, Nat.le_of_ble_eq_true rfl⟩ ⟨Nat.zero_le _, Nat.zero_le _⟩ (Nat.le_of_ble_eq_true rfl) dL_isSound_370 ?_
                      refine j_iload (pc := 373) X dL_isSound_373 (q := 11) rfl ?_
                      refine j_icmp_ne_t (pc := 375) X (tgt := 382) dL_isSound_375 (by decide) (fun z => h314 ((bk_is h.2.1 (by omega)).mp (rO_is (fun c hc => by have := bkF_lt hc; omega) (by omega) z))) ?_
                      refine j_iconst (pc := 382) X (v := (nI 0)) dL_isSound_382 (by decide +kernel) ?_
                      refine j_icmp_ne_f (pc := 383) X (tgt := 415) dL_isSound_383 (by decide) (fun z => z rfl) ?_
                      refine j_aload_n (pc := 386) X dL_isSound_386 rfl (q := 2) rfl ?_
                      refine j_iload (pc := 387) X dL_isSound_387 (q := 11) rfl ?_
                      refine j_bipush (pc := 389) X (v := (nI 8)) dL_isSound_389 (by decide +kernel) ?_
                      refine q_booking (pc := 391) X hw (r := (nI (limO (sB s) q))) (oB_8 hw (by omega)) wm_L_25 ⟨Nat.le_of_ble_eq_true rfl, Nat.le_of_ble_eq_true rfl⟩ ⟨Nat.zero_le _, Nat.zero_le _⟩ (Nat.le_of_ble_eq_true rfl) dL_isSound_391 ?_
                      refine j_aload_n (pc := 394) X dL_isSound_394 rfl (q := 2) rfl ?_
                      refine j_aload_n (pc := 395) X dL_isSound_395 rfl (q := 2) rfl ?_
                      refine j_iload (pc := 396) X dL_isSound_396 (q := 11) rfl ?_
                      refine j_iconst (pc := 398) X (v := (nI 3)) dL_isSound_398 (by decide +kernel) ?_
                      refine q_booking (pc := 399) X hw (r := (nI (tGet 8 (sB s) q 3))) (oB_c hw (by omega) (by decide)) wm_L_25 ⟨Nat.le_of_ble_eq_true rfl, Nat.le_of_ble_eq_true rfl⟩ ⟨Nat.zero_le _, Nat.zero_le _⟩ (Nat.le_of_ble_eq_true rfl) dL_isSound_399 ?_
                      refine j_aload_n (pc := 402) X dL_isSound_402 rfl (q := 2) rfl ?_
                      refine j_iload (pc := 403) X dL_isSound_403 (q := 11) rfl ?_
                      refine j_iconst (pc := 405) X (v := (nI 4)) dL_isSound_405 (by decide +kernel) ?_
                      refine q_booking (pc := 406) X hw (r := (nI (tGet 8 (sB s) q 4))) (oB_c hw (by omega) (by decide)) wm_L_25 ⟨Nat.le_of_ble_eq_true rfl, Nat.le_of_ble_eq_true rfl⟩ ⟨Nat.zero_le _, Nat.zero_le _⟩ (Nat.le_of_ble_eq_true rfl) dL_isSound_406 ?_
                      refine q_windLimit (pc := 409) X (r := (nI (limN (tGet 8 (sB s) q 3) (tGet 8 (sB s) q 4)))) (oLm_t hqb.2.2.2.1 hqb.2.2.2.2.1) wm_L_40 ⟨Nat.le_of_ble_eq_true rfl, Nat.le_of_ble_eq_true rfl⟩ ⟨Nat.zero_le _, Nat.zero_le _⟩ (Nat.le_of_ble_eq_true rfl) dL_isSound_409 ?_
                      refine j_icmp_eq_t (pc := 412) X (tgt := 417) dL_isSound_412 (by decide) rfl ?_
                      refine j_iinc (pc := 417) X (v := (nI (q + 1))) (lv' := [(10, .int (nI (q + 1))), (9, .int (nI (sumN (fun i => tGet 8 (sB s) i 7) (q + 1)))), (11, .int (nI 0)), (0, .ref g.1), (1, .int (nI bl)), (2, .int (nI (sN s))), (3, .int (nI (sumN (fun i => cB s 1 i 0) ((sM s).1)))), (4, .int (nI (sumN (fun i => cB s 1 i 1) ((sM s).1)))), (5, .int x), (6, .int (nI (sumN (fun i => tGet 2 (sP s) i 0) ((sP s).1)))), (7, .int (nI (sumN (fun i => tGet 2 (sP s) i 1) ((sP s).1)))), (8, .int (nI (sumN (fun i => cV s 0 i) ((sP s).1))))]) dL_isSound_417 (q := 11) rfl (nI_add _ _) (by decide) rfl ?_
                      refine j_goto (pc := 420) X (tgt := 297) dL_isSound_420 (by decide) ?_
                      refine j_lv X (lv' := [(0, .ref g.1), (1, .int (nI bl)), (2, .int (nI (sN s))), (3, .int (nI (sumN (fun i => cB s 1 i 0) ((sM s).1)))), (4, .int (nI (sumN (fun i => cB s 1 i 1) ((sM s).1)))), (5, .int x), (6, .int (nI (sumN (fun i => tGet 2 (sP s) i 0) ((sP s).1)))), (7, .int (nI (sumN (fun i => tGet 2 (sP s) i 1) ((sP s).1)))), (8, .int (nI (sumN (fun i => cV s 0 i) ((sP s).1)))), (9, .int (nI (sumN (fun i => tGet 8 (sB s) i 7) (q + 1)))), (10, .int (nI (q + 1)))]) [3, 4, 5, 6, 7, 8, 9, 10, 11, 1, 0] rfl ?_
                      exact ih_297 (q + 1) (by omega) (by omega)
                    · skip
                      refine j_iconst (pc := 317) X (v := (nI 1)) dL_isSound_317 (by decide +kernel) ?_
                      refine j_goto (pc := 318) X (tgt := 322) dL_isSound_318 (by decide) ?_
                      refine j_istore (pc := 322) X (lv' := [(11, .int (nI 1)), (0, .ref g.1), (1, .int (nI bl)), (2, .int (nI (sN s))), (3, .int (nI (sumN (fun i => cB s 1 i 0) ((sM s).1)))), (4, .int (nI (sumN (fun i => cB s 1 i 1) ((sM s).1)))), (5, .int x), (6, .int (nI (sumN (fun i => tGet 2 (sP s) i 0) ((sP s).1)))), (7, .int (nI (sumN (fun i => tGet 2 (sP s) i 1) ((sP s).1)))), (8, .int (nI (sumN (fun i => cV s 0 i) ((sP s).1)))), (9, .int (nI (sumN (fun i => tGet 8 (sB s) i 7) q))), (10, .int (nI q))]) dL_isSound_322 (by decide) rfl ?_
                      refine j_iload (pc := 324) X dL_isSound_324 (q := 10) rfl ?_
                      refine j_aload_n (pc := 326) X dL_isSound_326 rfl (q := 1) rfl ?_
                      refine j_iload (pc := 327) X dL_isSound_327 (q := 11) rfl ?_
                      refine j_bipush (pc := 329) X (v := (nI 7)) dL_isSound_329 (by decide +kernel) ?_
                      refine q_booking (pc := 331) X hw (r := (nI (tGet 8 (sB s) q 7))) (oB_c hw (by omega) (by decide)) wm_L_25 ⟨Nat.le_of_ble_eq_true rfl, Nat.le_of_ble_eq_true rfl⟩ ⟨Nat.zero_le _, Nat.zero_le _⟩ (Nat.le_of_ble_eq_true rfl) dL_isSound_331 ?_
                      refine j_iadd (pc := 334) X (v := (nI (sumN (fun i => tGet 8 (sB s) i 7) (q + 1)))) dL_isSound_334 (nI_sum (f := (fun i => tGet 8 (sB s) i 7))) ?_
                      refine j_istore (pc := 335) X (lv' := [(9, .int (nI (sumN (fun i => tGet 8 (sB s) i 7) (q + 1)))), (11, .int (nI 1)), (0, .ref g.1), (1, .int (nI bl)), (2, .int (nI (sN s))), (3, .int (nI (sumN (fun i => cB s 1 i 0) ((sM s).1)))), (4, .int (nI (sumN (fun i => cB s 1 i 1) ((sM s).1)))), (5, .int x), (6, .int (nI (sumN (fun i => tGet 2 (sP s) i 0) ((sP s).1)))), (7, .int (nI (sumN (fun i => tGet 2 (sP s) i 1) ((sP s).1)))), (8, .int (nI (sumN (fun i => cV s 0 i) ((sP s).1)))), (10, .int (nI q))]) dL_isSound_335 (by decide) rfl ?_
                      refine j_iload (pc := 337) X dL_isSound_337 (q := 1) rfl ?_
                      refine j_if_eq_f (pc := 339) X (tgt := 353) dL_isSound_339 (by decide) (by decide +kernel) ?_
                      refine j_aload_n (pc := 342) X dL_isSound_342 rfl (q := 2) rfl ?_
                      refine j_iload (pc := 343) X dL_isSound_343 (q := 11) rfl ?_
                      refine j_iconst (pc := 345) X (v := (nI 2)) dL_isSound_345 (by decide +kernel) ?_
                      refine q_booking (pc := 346) X hw (r := (nI (tGet 8 (sB s) q 2))) (oB_c hw (by omega) (by decide)) wm_L_25 ⟨Nat.le_of_ble_eq_true rfl, Nat.le_of_ble_eq_true rfl⟩ ⟨Nat.zero_le _, Nat.zero_le _⟩ (Nat.le_of_ble_eq_true rfl) dL_isSound_346 ?_
                      refine j_iload_n (pc := 349) X dL_isSound_349 rfl (q := 4) rfl ?_
                      refine j_icmp_lt_f (pc := 350) X (tgt := 415) dL_isSound_350 (by decide) (fun z9 => absurd ((nI_ltI (by omega) (by omega)).mp z9) (by have := h.1.2.2 q (by omega) (Decidable.not_not.mp h314); omega)) ?_
                      refine j_iload (pc := 353) X dL_isSound_353 (q := 1) rfl ?_
                      refine j_aload_n (pc := 355) X dL_isSound_355 rfl (q := 2) rfl ?_
                      refine j_aload_n (pc := 356) X dL_isSound_356 rfl (q := 2) rfl ?_
                      refine j_iload (pc := 357) X dL_isSound_357 (q := 11) rfl ?_
                      refine j_iconst (pc := 359) X (v := (nI 1)) dL_isSound_359 (by decide +kernel) ?_
                      refine q_booking (pc := 360) X hw (r := (nI (tGet 8 (sB s) q 1))) (oB_c hw (by omega) (by decide)) wm_L_25 ⟨Nat.le_of_ble_eq_true rfl, Nat.le_of_ble_eq_true rfl⟩ ⟨Nat.zero_le _, Nat.zero_le _⟩ (Nat.le_of_ble_eq_true rfl) dL_isSound_360 ?_
                      refine j_aload_n (pc := 363) X dL_isSound_363 rfl (q := 2) rfl ?_
                      refine j_iload (pc := 364) X dL_isSound_364 (q := 11) rfl ?_
                      refine j_iconst (pc := 366) X (v := (nI 2)) dL_isSound_366 (by decide +kernel) ?_
                      refine q_booking (pc := 367) X hw (r := (nI (tGet 8 (sB s) q 2))) (oB_c hw (by omega) (by decide)) wm_L_25 ⟨Nat.le_of_ble_eq_true rfl, Nat.le_of_ble_eq_true rfl⟩ ⟨Nat.zero_le _, Nat.zero_le _⟩ (Nat.le_of_ble_eq_true rfl) dL_isSound_367 ?_
                      refine q_bookedAt (pc := 370) X hw (r := (rO (bkF (sB s) (tGet 8 (sB s) q 1) (tGet 8 (sB s) q 2)))) (oA_t hw hqb.2.1 hqb.2.2.1) wm_L_37 ⟨Nat.le_of_ble_eq_true rfl, Nat.le_of_ble_eq_true rfl⟩ ⟨Nat.zero_le _, Nat.zero_le _⟩ (Nat.le_of_ble_eq_true rfl) dL_isSound_370 ?_
                      refine j_iload (pc := 373) X dL_isSound_373 (q := 11) rfl ?_
                      refine j_icmp_ne_f (pc := 375) X (tgt := 382) dL_isSound_375 (by decide) (fun z => z (by rw [(bk_is h.2.1 (by omega)).mpr (Decidable.not_not.mp h314)]; rfl)) ?_
                      refine j_iconst (pc := 378) X (v := (nI 1)) dL_isSound_378 (by decide +kernel) ?_
                      refine j_goto (pc := 379) X (tgt := 383) dL_isSound_379 (by decide) ?_
                      refine j_icmp_ne_f (pc := 383) X (tgt := 415) dL_isSound_383 (by decide) (fun z => z rfl) ?_
                      refine j_aload_n (pc := 386) X dL_isSound_386 rfl (q := 2) rfl ?_
                      refine j_iload (pc := 387) X dL_isSound_387 (q := 11) rfl ?_
                      refine j_bipush (pc := 389) X (v := (nI 8)) dL_isSound_389 (by decide +kernel) ?_
                      refine q_booking (pc := 391) X hw (r := (nI (limO (sB s) q))) (oB_8 hw (by omega)) wm_L_25 ⟨Nat.le_of_ble_eq_true rfl, Nat.le_of_ble_eq_true rfl⟩ ⟨Nat.zero_le _, Nat.zero_le _⟩ (Nat.le_of_ble_eq_true rfl) dL_isSound_391 ?_
                      refine j_aload_n (pc := 394) X dL_isSound_394 rfl (q := 2) rfl ?_
                      refine j_aload_n (pc := 395) X dL_isSound_395 rfl (q := 2) rfl ?_
                      refine j_iload (pc := 396) X dL_isSound_396 (q := 11) rfl ?_
                      refine j_iconst (pc := 398) X (v := (nI 3)) dL_isSound_398 (by decide +kernel) ?_
                      refine q_booking (pc := 399) X hw (r := (nI (tGet 8 (sB s) q 3))) (oB_c hw (by omega) (by decide)) wm_L_25 ⟨Nat.le_of_ble_eq_true rfl, Nat.le_of_ble_eq_true rfl⟩ ⟨Nat.zero_le _, Nat.zero_le _⟩ (Nat.le_of_ble_eq_true rfl) dL_isSound_399 ?_
                      refine j_aload_n (pc := 402) X dL_isSound_402 rfl (q := 2) rfl ?_
                      refine j_iload (pc := 403) X dL_isSound_403 (q := 11) rfl ?_
                      refine j_iconst (pc := 405) X (v := (nI 4)) dL_isSound_405 (by decide +kernel) ?_
                      refine q_booking (pc := 406) X hw (r := (nI (tGet 8 (sB s) q 4))) (oB_c hw (by omega) (by decide)) wm_L_25 ⟨Nat.le_of_ble_eq_true rfl, Nat.le_of_ble_eq_true rfl⟩ ⟨Nat.zero_le _, Nat.zero_le _⟩ (Nat.le_of_ble_eq_true rfl) dL_isSound_406 ?_
                      refine q_windLimit (pc := 409) X (r := (nI (limN (tGet 8 (sB s) q 3) (tGet 8 (sB s) q 4)))) (oLm_t hqb.2.2.2.1 hqb.2.2.2.2.1) wm_L_40 ⟨Nat.le_of_ble_eq_true rfl, Nat.le_of_ble_eq_true rfl⟩ ⟨Nat.zero_le _, Nat.zero_le _⟩ (Nat.le_of_ble_eq_true rfl) dL_isSound_409 ?_
                      refine j_icmp_eq_t (pc := 412) X (tgt := 417) dL_isSound_412 (by decide) rfl ?_
                      refine j_iinc (pc := 417) X (v := (nI (q + 1))) (lv' := [(10, .int (nI (q + 1))), (9, .int (nI (sumN (fun i => tGet 8 (sB s) i 7) (q + 1)))), (11, .int (nI 1)), (0, .ref g.1), (1, .int (nI bl)), (2, .int (nI (sN s))), (3, .int (nI (sumN (fun i => cB s 1 i 0) ((sM s).1)))), (4, .int (nI (sumN (fun i => cB s 1 i 1) ((sM s).1)))), (5, .int x), (6, .int (nI (sumN (fun i => tGet 2 (sP s) i 0) ((sP s).1)))), (7, .int (nI (sumN (fun i => tGet 2 (sP s) i 1) ((sP s).1)))), (8, .int (nI (sumN (fun i => cV s 0 i) ((sP s).1))))]) dL_isSound_417 (q := 11) rfl (nI_add _ _) (by decide) rfl ?_
                      refine j_goto (pc := 420) X (tgt := 297) dL_isSound_420 (by decide) ?_
                      refine j_lv X (lv' := [(0, .ref g.1), (1, .int (nI bl)), (2, .int (nI (sN s))), (3, .int (nI (sumN (fun i => cB s 1 i 0) ((sM s).1)))), (4, .int (nI (sumN (fun i => cB s 1 i 1) ((sM s).1)))), (5, .int x), (6, .int (nI (sumN (fun i => tGet 2 (sP s) i 0) ((sP s).1)))), (7, .int (nI (sumN (fun i => tGet 2 (sP s) i 1) ((sP s).1)))), (8, .int (nI (sumN (fun i => cV s 0 i) ((sP s).1)))), (9, .int (nI (sumN (fun i => tGet 8 (sB s) i 7) (q + 1)))), (10, .int (nI (q + 1)))]) [3, 4, 5, 6, 7, 8, 9, 10, 11, 1, 0] rfl ?_
                      exact ih_297 (q + 1) (by omega) (by omega)
              refine j_lv X (lv' := [(0, .ref g.1), (1, .int (nI bl)), (2, .int (nI (sN s))), (3, .int (nI (sumN (fun i => cB s 1 i 0) ((sM s).1)))), (4, .int (nI (sumN (fun i => cB s 1 i 1) ((sM s).1)))), (5, .int x), (6, .int (nI (sumN (fun i => tGet 2 (sP s) i 0) (sP s).1))), (7, .int (nI (sumN (fun i => tGet 2 (sP s) i 1) (sP s).1))), (8, .int (nI (sumN (fun i => cV s 0 i) (sP s).1))), (9, .int (nI 0)), (10, .int (nI 0))]) [1, 2, 3, 4, 5, 6, 7, 8, 9, 10, 0] rfl ?_
              exact L_297 _ 0 (Nat.zero_le _) (Nat.lt_succ_self _)
            · skip
              refine j_iload (pc := 163) X dL_isSound_163 (q := 6) rfl ?_
              refine j_aload_n (pc := 165) X dL_isSound_165 rfl (q := 0) rfl ?_
              refine j_iload (pc := 166) X dL_isSound_166 (q := 10) rfl ?_
              refine j_iconst (pc := 168) X (v := (nI 0)) dL_isSound_168 (by decide +kernel) ?_
              refine q_member (pc := 169) X hw (r := (nI (tGet 2 (sP s) p 0))) (oP_0 hw (by omega)) wm_L_22 ⟨Nat.le_of_ble_eq_true rfl, Nat.le_of_ble_eq_true rfl⟩ ⟨Nat.zero_le _, Nat.zero_le _⟩ (Nat.le_of_ble_eq_true rfl) dL_isSound_169 ?_
              refine j_iadd (pc := 172) X (v := (nI (sumN (fun i => tGet 2 (sP s) i 0) (p + 1)))) dL_isSound_172 (nI_sum (f := (fun i => tGet 2 (sP s) i 0))) ?_
              refine j_istore (pc := 173) X (lv' := [(6, .int (nI (sumN (fun i => tGet 2 (sP s) i 0) (p + 1)))), (0, .ref g.1), (1, .int (nI bl)), (2, .int (nI (sN s))), (3, .int (nI (sumN (fun i => cB s 1 i 0) ((sM s).1)))), (4, .int (nI (sumN (fun i => cB s 1 i 1) ((sM s).1)))), (5, .int x), (7, .int (nI (sumN (fun i => tGet 2 (sP s) i 1) p))), (8, .int (nI (sumN (fun i => cV s 0 i) p))), (9, .int (nI 0)), (10, .int (nI p))]) dL_isSound_173 (by decide) rfl ?_
              refine j_iload (pc := 175) X dL_isSound_175 (q := 7) rfl ?_
              refine j_aload_n (pc := 177) X dL_isSound_177 rfl (q := 1) rfl ?_
              refine j_iload (pc := 178) X dL_isSound_178 (q := 10) rfl ?_
              refine j_iconst (pc := 180) X (v := (nI 5)) dL_isSound_180 (by decide +kernel) ?_
              refine q_member (pc := 181) X hw (r := (nI (tGet 2 (sP s) p 1))) (oP_5 hw (by omega)) wm_L_22 ⟨Nat.le_of_ble_eq_true rfl, Nat.le_of_ble_eq_true rfl⟩ ⟨Nat.zero_le _, Nat.zero_le _⟩ (Nat.le_of_ble_eq_true rfl) dL_isSound_181 ?_
              refine j_iadd (pc := 184) X (v := (nI (sumN (fun i => tGet 2 (sP s) i 1) (p + 1)))) dL_isSound_184 (nI_sum (f := (fun i => tGet 2 (sP s) i 1))) ?_
              refine j_istore (pc := 185) X (lv' := [(7, .int (nI (sumN (fun i => tGet 2 (sP s) i 1) (p + 1)))), (6, .int (nI (sumN (fun i => tGet 2 (sP s) i 0) (p + 1)))), (0, .ref g.1), (1, .int (nI bl)), (2, .int (nI (sN s))), (3, .int (nI (sumN (fun i => cB s 1 i 0) ((sM s).1)))), (4, .int (nI (sumN (fun i => cB s 1 i 1) ((sM s).1)))), (5, .int x), (8, .int (nI (sumN (fun i => cV s 0 i) p))), (9, .int (nI 0)), (10, .int (nI p))]) dL_isSound_185 (by decide) rfl ?_
              refine j_iload (pc := 187) X dL_isSound_187 (q := 8) rfl ?_
              refine j_aload_n (pc := 189) X dL_isSound_189 rfl (q := 2) rfl ?_
              refine j_iload (pc := 190) X dL_isSound_190 (q := 10) rfl ?_
              refine j_bipush (pc := 192) X (v := (nI 6)) dL_isSound_192 (by decide +kernel) ?_
              refine q_member (pc := 194) X hw (r := (nI (cV s 0 p))) (oP_6 hw (by omega)) wm_L_22 ⟨Nat.le_of_ble_eq_true rfl, Nat.le_of_ble_eq_true rfl⟩ ⟨Nat.zero_le _, Nat.zero_le _⟩ (Nat.le_of_ble_eq_true rfl) dL_isSound_194 ?_
              refine j_iadd (pc := 197) X (v := (nI (sumN (fun i => cV s 0 i) (p + 1)))) dL_isSound_197 (nI_sum (f := (fun i => cV s 0 i))) ?_
              refine j_istore (pc := 198) X (lv' := [(8, .int (nI (sumN (fun i => cV s 0 i) (p + 1)))), (7, .int (nI (sumN (fun i => tGet 2 (sP s) i 1) (p + 1)))), (6, .int (nI (sumN (fun i => tGet 2 (sP s) i 0) (p + 1)))), (0, .ref g.1), (1, .int (nI bl)), (2, .int (nI (sN s))), (3, .int (nI (sumN (fun i => cB s 1 i 0) ((sM s).1)))), (4, .int (nI (sumN (fun i => cB s 1 i 1) ((sM s).1)))), (5, .int x), (9, .int (nI 0)), (10, .int (nI p))]) dL_isSound_198 (by decide) rfl ?_
              refine j_iconst (pc := 200) X (v := (nI 0)) dL_isSound_200 (by decide +kernel) ?_
              refine j_istore (pc := 201) X (lv' := [(11, .int (nI 0)), (8, .int (nI (sumN (fun i => cV s 0 i) (p + 1)))), (7, .int (nI (sumN (fun i => tGet 2 (sP s) i 1) (p + 1)))), (6, .int (nI (sumN (fun i => tGet 2 (sP s) i 0) (p + 1)))), (0, .ref g.1), (1, .int (nI bl)), (2, .int (nI (sN s))), (3, .int (nI (sumN (fun i => cB s 1 i 0) ((sM s).1)))), (4, .int (nI (sumN (fun i => cB s 1 i 1) ((sM s).1)))), (5, .int x), (9, .int (nI 0)), (10, .int (nI p))]) dL_isSound_201 (by decide) rfl ?_
              have L_203 : ∀ (fu : Nat) (i : Nat), i ≤ 4 → 4 - i < fu → J l D G 0 0 (cuW tA g s sn s3 v kp) [(0, .ref g.1), (1, .int (nI bl)), (2, .int (nI (sN s))), (3, .int (nI (sumN (fun i => cB s 1 i 0) ((sM s).1)))), (4, .int (nI (sumN (fun i => cB s 1 i 1) ((sM s).1)))), (5, .int x), (6, .int (nI (sumN (fun i => tGet 2 (sP s) i 0) (p + 1)))), (7, .int (nI (sumN (fun i => tGet 2 (sP s) i 1) (p + 1)))), (8, .int (nI (sumN (fun i => cV s 0 i) (p + 1)))), (9, .int (nI 0)), (10, .int (nI p)), (11, .int (nI i))] 203 [] := by
                intro fu
                induction fu with
                | zero => intro i hi hfu; exact absurd hfu (Nat.not_lt_zero _)
                | succ fu ih_203 =>
                  intro i hi hfu
                  refine j_iload (pc := 203) X dL_isSound_203 (q := 11) rfl ?_
                  refine j_iconst (pc := 205) X (v := (nI 4)) dL_isSound_205 (by decide +kernel) ?_
                  refine j_icmp_ge (pc := 206) X (tgt := 288) (P := 4 ≤ i) dL_isSound_206 (by decide) (nI_leI (by omega) (by omega)) (fun h206 => ?_) (fun h206 => ?_)
                  · skip
                    refine j_iinc (pc := 288) X (v := (nI (p + 1))) (lv' := [(10, .int (nI (p + 1))), (0, .ref g.1), (1, .int (nI bl)), (2, .int (nI (sN s))), (3, .int (nI (sumN (fun i => cB s 1 i 0) ((sM s).1)))), (4, .int (nI (sumN (fun i => cB s 1 i 1) ((sM s).1)))), (5, .int x), (6, .int (nI (sumN (fun i => tGet 2 (sP s) i 0) (p + 1)))), (7, .int (nI (sumN (fun i => tGet 2 (sP s) i 1) (p + 1)))), (8, .int (nI (sumN (fun i => cV s 0 i) (p + 1)))), (9, .int (nI 0)), (11, .int (nI i))]) dL_isSound_288 (q := 10) rfl (nI_add _ _) (by decide) rfl ?_
                    refine j_goto (pc := 291) X (tgt := 153) dL_isSound_291 (by decide) ?_
                    refine j_lv X (lv' := [(0, .ref g.1), (1, .int (nI bl)), (2, .int (nI (sN s))), (3, .int (nI (sumN (fun i => cB s 1 i 0) ((sM s).1)))), (4, .int (nI (sumN (fun i => cB s 1 i 1) ((sM s).1)))), (5, .int x), (6, .int (nI (sumN (fun i => tGet 2 (sP s) i 0) (p + 1)))), (7, .int (nI (sumN (fun i => tGet 2 (sP s) i 1) (p + 1)))), (8, .int (nI (sumN (fun i => cV s 0 i) (p + 1)))), (9, .int (nI 0)), (10, .int (nI (p + 1)))]) [1, 2, 3, 4, 5, 6, 7, 8, 9, 10, 0] rfl ?_
                    exact ih_153 (p + 1) (by omega) (by omega)
                  · skip
                    refine j_iconst (pc := 209) X (v := (nI 0)) dL_isSound_209 (by decide +kernel) ?_
                    refine j_istore (pc := 210) X (lv' := [(12, .int (nI 0)), (0, .ref g.1), (1, .int (nI bl)), (2, .int (nI (sN s))), (3, .int (nI (sumN (fun i => cB s 1 i 0) ((sM s).1)))), (4, .int (nI (sumN (fun i => cB s 1 i 1) ((sM s).1)))), (5, .int x), (6, .int (nI (sumN (fun i => tGet 2 (sP s) i 0) (p + 1)))), (7, .int (nI (sumN (fun i => tGet 2 (sP s) i 1) (p + 1)))), (8, .int (nI (sumN (fun i => cV s 0 i) (p + 1)))), (9, .int (nI 0)), (10, .int (nI p)), (11, .int (nI i))]) dL_isSound_210 (by decide) rfl ?_
                    refine j_iconst (pc := 212) X (v := (nI 0)) dL_isSound_212 (by decide +kernel) ?_
                    refine j_istore (pc := 213) X (lv' := [(13, .int (nI 0)), (12, .int (nI 0)), (0, .ref g.1), (1, .int (nI bl)), (2, .int (nI (sN s))), (3, .int (nI (sumN (fun i => cB s 1 i 0) ((sM s).1)))), (4, .int (nI (sumN (fun i => cB s 1 i 1) ((sM s).1)))), (5, .int x), (6, .int (nI (sumN (fun i => tGet 2 (sP s) i 0) (p + 1)))), (7, .int (nI (sumN (fun i => tGet 2 (sP s) i 1) (p + 1)))), (8, .int (nI (sumN (fun i => cV s 0 i) (p + 1)))), (9, .int (nI 0)), (10, .int (nI p)), (11, .int (nI i))]) dL_isSound_213 (by decide) rfl ?_
                    have L_215 : ∀ (fu : Nat) (b : Nat), b ≤ (sB s).1 → (sB s).1 - b < fu → J l D G 0 0 (cuW tA g s sn s3 v kp) [(0, .ref g.1), (1, .int (nI bl)), (2, .int (nI (sN s))), (3, .int (nI (sumN (fun i => cB s 1 i 0) ((sM s).1)))), (4, .int (nI (sumN (fun i => cB s 1 i 1) ((sM s).1)))), (5, .int x), (6, .int (nI (sumN (fun i => tGet 2 (sP s) i 0) (p + 1)))), (7, .int (nI (sumN (fun i => tGet 2 (sP s) i 1) (p + 1)))), (8, .int (nI (sumN (fun i => cV s 0 i) (p + 1)))), (9, .int (nI 0)), (10, .int (nI p)), (11, .int (nI i)), (12, .int (nI (cntN (fun r => decide (tGet 8 (sB s) r 0 = p ∧ tGet 8 (sB s) r 5 = i)) b))), (13, .int (nI b))] 215 [] := by
                      intro fu
                      induction fu with
                      | zero => intro b hb hfu; exact absurd hfu (Nat.not_lt_zero _)
                      | succ fu ih_215 =>
                        intro b hb hfu
                        refine j_iload (pc := 215) X dL_isSound_215 (q := 13) rfl ?_
                        refine j_aload_n (pc := 217) X dL_isSound_217 rfl (q := 0) rfl ?_
                        refine j_iconst (pc := 218) X (v := (nI 3)) dL_isSound_218 (by decide +kernel) ?_
                        refine q_count (pc := 219) X hw (r := (nI ((sB s).1))) (oC_3 _ _ _) wm_L_12 ⟨Nat.le_of_ble_eq_true rfl, Nat.le_of_ble_eq_true rfl⟩ ⟨Nat.zero_le _, Nat.zero_le _⟩ (Nat.le_of_ble_eq_true rfl) dL_isSound_219 ?_
                        refine j_icmp_ge (pc := 222) X (tgt := 265) (P := ((sB s).1) ≤ b) dL_isSound_222 (by decide) (nI_leI (by omega) (by omega)) (fun h222 => ?_) (fun h222 => ?_)
                        · skip
                          have eb : b = (sB s).1 := by omega
                          subst eb
                          refine j_aload_n (pc := 265) X dL_isSound_265 rfl (q := 0) rfl ?_
                          refine j_iload (pc := 266) X dL_isSound_266 (q := 10) rfl ?_
                          refine j_iconst (pc := 268) X (v := (nI 1)) dL_isSound_268 (by decide +kernel) ?_
                          refine j_iload (pc := 269) X dL_isSound_269 (q := 11) rfl ?_
                          refine j_iadd (pc := 271) X (v := (nI (1 + i))) dL_isSound_271 (nI_add _ _) ?_
                          refine q_member (pc := 272) X hw (r := (nI (cB s 0 p i))) (oP_s hw (by omega) (by omega)) wm_L_22 ⟨Nat.le_of_ble_eq_true rfl, Nat.le_of_ble_eq_true rfl⟩ ⟨Nat.zero_le _, Nat.zero_le _⟩ (Nat.le_of_ble_eq_true rfl) dL_isSound_272 ?_
                          refine j_iload (pc := 275) X dL_isSound_275 (q := 12) rfl ?_
                          refine j_icmp_eq_t (pc := 277) X (tgt := 282) dL_isSound_277 (by decide) rfl ?_
                          refine j_iinc (pc := 282) X (v := (nI (i + 1))) (lv' := [(11, .int (nI (i + 1))), (0, .ref g.1), (1, .int (nI bl)), (2, .int (nI (sN s))), (3, .int (nI (sumN (fun i => cB s 1 i 0) ((sM s).1)))), (4, .int (nI (sumN (fun i => cB s 1 i 1) ((sM s).1)))), (5, .int x), (6, .int (nI (sumN (fun i => tGet 2 (sP s) i 0) (p + 1)))), (7, .int (nI (sumN (fun i => tGet 2 (sP s) i 1) (p + 1)))), (8, .int (nI (sumN (fun i => cV s 0 i) (p + 1)))), (9, .int (nI 0)), (10, .int (nI p)), (12, .int (nI (cntN (fun r => decide (tGet 8 (sB s) r 0 = p ∧ tGet 8 (sB s) r 5 = i)) (sB s).1))), (13, .int (nI ((sB s).1)))]) dL_isSound_282 (q := 11) rfl (nI_add _ _) (by decide) rfl ?_
                          refine j_goto (pc := 285) X (tgt := 203) dL_isSound_285 (by decide) ?_
                          refine j_lv X (lv' := [(0, .ref g.1), (1, .int (nI bl)), (2, .int (nI (sN s))), (3, .int (nI (sumN (fun i => cB s 1 i 0) ((sM s).1)))), (4, .int (nI (sumN (fun i => cB s 1 i 1) ((sM s).1)))), (5, .int x), (6, .int (nI (sumN (fun i => tGet 2 (sP s) i 0) (p + 1)))), (7, .int (nI (sumN (fun i => tGet 2 (sP s) i 1) (p + 1)))), (8, .int (nI (sumN (fun i => cV s 0 i) (p + 1)))), (9, .int (nI 0)), (10, .int (nI p)), (11, .int (nI (i + 1)))]) [1, 2, 3, 4, 5, 6, 7, 8, 9, 10, 11, 0] rfl ?_
                          exact ih_203 (i + 1) (by omega) (by omega)
                        · skip
                          have hbb := hw.b (b := b) (by omega)
                          refine j_iload (pc := 225) X dL_isSound_225 (q := 12) rfl ?_
                          refine j_aload_n (pc := 227) X dL_isSound_227 rfl (q := 0) rfl ?_
                          refine j_iload (pc := 228) X dL_isSound_228 (q := 13) rfl ?_
                          refine j_iconst (pc := 230) X (v := (nI 0)) dL_isSound_230 (by decide +kernel) ?_
                          refine q_booking (pc := 231) X hw (r := (nI (tGet 8 (sB s) b 0))) (oB_c hw (by omega) (by decide)) wm_L_25 ⟨Nat.le_of_ble_eq_true rfl, Nat.le_of_ble_eq_true rfl⟩ ⟨Nat.zero_le _, Nat.zero_le _⟩ (Nat.le_of_ble_eq_true rfl) dL_isSound_231 ?_
                          refine j_iload (pc := 234) X dL_isSound_234 (q := 10) rfl ?_
                          refine j_icmp_ne (pc := 236) X (tgt := 255) (P := ¬ (tGet 8 (sB s) b 0) = p) dL_isSound_236 (by decide) (not_congr (nI_eq (by omega) (by omega))) (fun h236 => ?_) (fun h236 => ?_)
                          · skip
                            refine j_iconst (pc := 255) X (v := (nI 0)) dL_isSound_255 (by decide +kernel) ?_
                            refine j_iadd (pc := 256) X (v := (nI (cntN (fun r => decide (tGet 8 (sB s) r 0 = p ∧ tGet 8 (sB s) r 5 = i)) (b + 1)))) dL_isSound_256 ((nI_add _ _).trans (congrArg nI ((Nat.add_zero _).trans (cnt_f (p := (fun r => decide (tGet 8 (sB s) r 0 = p ∧ tGet 8 (sB s) r 5 = i))) rfl (fun z => h236 (of_decide_eq_true z).1))))) ?_
                            refine j_istore (pc := 257) X (lv' := [(12, .int (nI (cntN (fun r => decide (tGet 8 (sB s) r 0 = p ∧ tGet 8 (sB s) r 5 = i)) (b + 1)))), (0, .ref g.1), (1, .int (nI bl)), (2, .int (nI (sN s))), (3, .int (nI (sumN (fun i => cB s 1 i 0) ((sM s).1)))), (4, .int (nI (sumN (fun i => cB s 1 i 1) ((sM s).1)))), (5, .int x), (6, .int (nI (sumN (fun i => tGet 2 (sP s) i 0) (p + 1)))), (7, .int (nI (sumN (fun i => tGet 2 (sP s) i 1) (p + 1)))), (8, .int (nI (sumN (fun i => cV s 0 i) (p + 1)))), (9, .int (nI 0)), (10, .int (nI p)), (11, .int (nI i)), (13, .int (nI b))]) dL_isSound_257 (by decide) rfl ?_
                            refine j_iinc (pc := 259) X (v := (nI (b + 1))) (lv' := [(13, .int (nI (b + 1))), (12, .int (nI (cntN (fun r => decide (tGet 8 (sB s) r 0 = p ∧ tGet 8 (sB s) r 5 = i)) (b + 1)))), (0, .ref g.1), (1, .int (nI bl)), (2, .int (nI (sN s))), (3, .int (nI (sumN (fun i => cB s 1 i 0) ((sM s).1)))), (4, .int (nI (sumN (fun i => cB s 1 i 1) ((sM s).1)))), (5, .int x), (6, .int (nI (sumN (fun i => tGet 2 (sP s) i 0) (p + 1)))), (7, .int (nI (sumN (fun i => tGet 2 (sP s) i 1) (p + 1)))), (8, .int (nI (sumN (fun i => cV s 0 i) (p + 1)))), (9, .int (nI 0)), (10, .int (nI p)), (11, .int (nI i))]) dL_isSound_259 (q := 13) rfl (nI_add _ _) (by decide) rfl ?_
                            refine j_goto (pc := 262) X (tgt := 215) dL_isSound_262 (by decide) ?_
                            refine j_lv X (lv' := [(0, .ref g.1), (1, .int (nI bl)), (2, .int (nI (sN s))), (3, .int (nI (sumN (fun i => cB s 1 i 0) ((sM s).1)))), (4, .int (nI (sumN (fun i => cB s 1 i 1) ((sM s).1)))), (5, .int x), (6, .int (nI (sumN (fun i => tGet 2 (sP s) i 0) (p + 1)))), (7, .int (nI (sumN (fun i => tGet 2 (sP s) i 1) (p + 1)))), (8, .int (nI (sumN (fun i => cV s 0 i) (p + 1)))), (9, .int (nI 0)), (10, .int (nI p)), (11, .int (nI i)), (12, .int (nI (cntN (fun r => decide (tGet 8 (sB s) r 0 = p ∧ tGet 8 (sB s) r 5 = i)) (b + 1)))), (13, .int (nI (b + 1)))]) [2, 3, 4, 5, 6, 7, 8, 9, 10, 11, 12, 13, 1, 0] rfl ?_
                            exact ih_215 (b + 1) (by omega) (by omega)
                          · skip
                            refine j_aload_n (pc := 239) X dL_isSound_239 rfl (q := 0) rfl ?_
                            refine j_iload (pc := 240) X dL_isSound_240 (q := 13) rfl ?_
                            refine j_iconst (pc := 242) X (v := (nI 5)) dL_isSound_242 (by decide +kernel) ?_
                            refine q_booking (pc := 243) X hw (r := (nI (tGet 8 (sB s) b 5))) (oB_c hw (by omega) (by decide)) wm_L_25 ⟨Nat.le_of_ble_eq_true rfl, Nat.le_of_ble_eq_true rfl⟩ ⟨Nat.zero_le _, Nat.zero_le _⟩ (Nat.le_of_ble_eq_true rfl) dL_isSound_243 ?_
                            refine j_iload (pc := 246) X dL_isSound_246 (q := 11) rfl ?_
                            refine j_icmp_ne (pc := 248) X (tgt := 255) (P := ¬ (tGet 8 (sB s) b 5) = i) dL_isSound_248 (by decide) (not_congr (nI_eq (by omega) (by omega))) (fun h248 => ?_) (fun h248 => ?_)
                            · skip
                              refine j_iconst (pc := 255) X (v := (nI 0)) dL_isSound_255 (by decide +kernel) ?_
                              refine j_iadd (pc := 256) X (v := (nI (cntN (fun r => decide (tGet 8 (sB s) r 0 = p ∧ tGet 8 (sB s) r 5 = i)) (b + 1)))) dL_isSound_256 ((nI_add _ _).trans (congrArg nI ((Nat.add_zero _).trans (cnt_f (p := (fun r => decide (tGet 8 (sB s) r 0 = p ∧ tGet 8 (sB s) r 5 = i))) rfl (fun z => h248 (of_decide_eq_true z).2))))) ?_
                              refine j_istore (pc := 257) X (lv' := [(12, .int (nI (cntN (fun r => decide (tGet 8 (sB s) r 0 = p ∧ tGet 8 (sB s) r 5 = i)) (b + 1)))), (0, .ref g.1), (1, .int (nI bl)), (2, .int (nI (sN s))), (3, .int (nI (sumN (fun i => cB s 1 i 0) ((sM s).1)))), (4, .int (nI (sumN (fun i => cB s 1 i 1) ((sM s).1)))), (5, .int x), (6, .int (nI (sumN (fun i => tGet 2 (sP s) i 0) (p + 1)))), (7, .int (nI (sumN (fun i => tGet 2 (sP s) i 1) (p + 1)))), (8, .int (nI (sumN (fun i => cV s 0 i) (p + 1)))), (9, .int (nI 0)), (10, .int (nI p)), (11, .int (nI i)), (13, .int (nI b))]) dL_isSound_257 (by decide) rfl ?_
                              refine j_iinc (pc := 259) X (v := (nI (b + 1))) (lv' := [(13, .int (nI (b + 1))), (12, .int (nI (cntN (fun r => decide (tGet 8 (sB s) r 0 = p ∧ tGet 8 (sB s) r 5 = i)) (b + 1)))), (0, .ref g.1), (1, .int (nI bl)), (2, .int (nI (sN s))), (3, .int (nI (sumN (fun i => cB s 1 i 0) ((sM s).1)))), (4, .int (nI (sumN (fun i => cB s 1 i 1) ((sM s).1)))), (5, .int x), (6, .int (nI (sumN (fun i => tGet 2 (sP s) i 0) (p + 1)))), (7, .int (nI (sumN (fun i => tGet 2 (sP s) i 1) (p + 1)))), (8, .int (nI (sumN (fun i => cV s 0 i) (p + 1)))), (9, .int (nI 0)), (10, .int (nI p)), (11, .int (nI i))]) dL_isSound_259 (q := 13) rfl (nI_add _ _) (by decide) rfl ?_
                              refine j_goto (pc := 262) X (tgt := 215) dL_isSound_262 (by decide) ?_
                              refine j_lv X (lv' := [(0, .ref g.1), (1, .int (nI bl)), (2, .int (nI (sN s))), (3, .int (nI (sumN (fun i => cB s 1 i 0) ((sM s).1)))), (4, .int (nI (sumN (fun i => cB s 1 i 1) ((sM s).1)))), (5, .int x), (6, .int (nI (sumN (fun i => tGet 2 (sP s) i 0) (p + 1)))), (7, .int (nI (sumN (fun i => tGet 2 (sP s) i 1) (p + 1)))), (8, .int (nI (sumN (fun i => cV s 0 i) (p + 1)))), (9, .int (nI 0)), (10, .int (nI p)), (11, .int (nI i)), (12, .int (nI (cntN (fun r => decide (tGet 8 (sB s) r 0 = p ∧ tGet 8 (sB s) r 5 = i)) (b + 1)))), (13, .int (nI (b + 1)))]) [2, 3, 4, 5, 6, 7, 8, 9, 10, 11, 12, 13, 1, 0] rfl ?_
                              exact ih_215 (b + 1) (by omega) (by omega)
                            · skip
                              refine j_iconst (pc := 251) X (v := (nI 1)) dL_isSound_251 (by decide +kernel) ?_
                              refine j_goto (pc := 252) X (tgt := 256) dL_isSound_252 (by decide) ?_
                              refine j_iadd (pc := 256) X (v := (nI (cntN (fun r => decide (tGet 8 (sB s) r 0 = p ∧ tGet 8 (sB s) r 5 = i)) (b + 1)))) dL_isSound_256 ((nI_add _ _).trans (congrArg nI (cnt_t (p := (fun r => decide (tGet 8 (sB s) r 0 = p ∧ tGet 8 (sB s) r 5 = i))) rfl (decide_eq_true ⟨Decidable.not_not.mp h236, Decidable.not_not.mp h248⟩)))) ?_
                              refine j_istore (pc := 257) X (lv' := [(12, .int (nI (cntN (fun r => decide (tGet 8 (sB s) r 0 = p ∧ tGet 8 (sB s) r 5 = i)) (b + 1)))), (0, .ref g.1), (1, .int (nI bl)), (2, .int (nI (sN s))), (3, .int (nI (sumN (fun i => cB s 1 i 0) ((sM s).1)))), (4, .int (nI (sumN (fun i => cB s 1 i 1) ((sM s).1)))), (5, .int x), (6, .int (nI (sumN (fun i => tGet 2 (sP s) i 0) (p + 1)))), (7, .int (nI (sumN (fun i => tGet 2 (sP s) i 1) (p + 1)))), (8, .int (nI (sumN (fun i => cV s 0 i) (p + 1)))), (9, .int (nI 0)), (10, .int (nI p)), (11, .int (nI i)), (13, .int (nI b))]) dL_isSound_257 (by decide) rfl ?_
                              refine j_iinc (pc := 259) X (v := (nI (b + 1))) (lv' := [(13, .int (nI (b + 1))), (12, .int (nI (cntN (fun r => decide (tGet 8 (sB s) r 0 = p ∧ tGet 8 (sB s) r 5 = i)) (b + 1)))), (0, .ref g.1), (1, .int (nI bl)), (2, .int (nI (sN s))), (3, .int (nI (sumN (fun i => cB s 1 i 0) ((sM s).1)))), (4, .int (nI (sumN (fun i => cB s 1 i 1) ((sM s).1)))), (5, .int x), (6, .int (nI (sumN (fun i => tGet 2 (sP s) i 0) (p + 1)))), (7, .int (nI (sumN (fun i => tGet 2 (sP s) i 1) (p + 1)))), (8, .int (nI (sumN (fun i => cV s 0 i) (p + 1)))), (9, .int (nI 0)), (10, .int (nI p)), (11, .int (nI i))]) dL_isSound_259 (q := 13) rfl (nI_add _ _) (by decide) rfl ?_
                              refine j_goto (pc := 262) X (tgt := 215) dL_isSound_262 (by decide) ?_
                              refine j_lv X (lv' := [(0, .ref g.1), (1, .int (nI bl)), (2, .int (nI (sN s))), (3, .int (nI (sumN (fun i => cB s 1 i 0) ((sM s).1)))), (4, .int (nI (sumN (fun i => cB s 1 i 1) ((sM s).1)))), (5, .int x), (6, .int (nI (sumN (fun i => tGet 2 (sP s) i 0) (p + 1)))), (7, .int (nI (sumN (fun i => tGet 2 (sP s) i 1) (p + 1)))), (8, .int (nI (sumN (fun i => cV s 0 i) (p + 1)))), (9, .int (nI 0)), (10, .int (nI p)), (11, .int (nI i)), (12, .int (nI (cntN (fun r => decide (tGet 8 (sB s) r 0 = p ∧ tGet 8 (sB s) r 5 = i)) (b + 1)))), (13, .int (nI (b + 1)))]) [2, 3, 4, 5, 6, 7, 8, 9, 10, 11, 12, 13, 1, 0] rfl ?_
                              exact ih_215 (b + 1) (by omega) (by omega)
                    refine j_lv X (lv' := [(0, .ref g.1), (1, .int (nI bl)), (2, .int (nI (sN s))), (3, .int (nI (sumN (fun i => cB s 1 i 0) ((sM s).1)))), (4, .int (nI (sumN (fun i => cB s 1 i 1) ((sM s).1)))), (5, .int x), (6, .int (nI (sumN (fun i => tGet 2 (sP s) i 0) (p + 1)))), (7, .int (nI (sumN (fun i => tGet 2 (sP s) i 1) (p + 1)))), (8, .int (nI (sumN (fun i => cV s 0 i) (p + 1)))), (9, .int (nI 0)), (10, .int (nI p)), (11, .int (nI i)), (12, .int (nI 0)), (13, .int (nI 0))]) [2, 3, 4, 5, 6, 7, 8, 9, 10, 11, 12, 13, 1, 0] rfl ?_
                    exact L_215 _ 0 (Nat.zero_le _) (Nat.lt_succ_self _)
              refine j_lv X (lv' := [(0, .ref g.1), (1, .int (nI bl)), (2, .int (nI (sN s))), (3, .int (nI (sumN (fun i => cB s 1 i 0) ((sM s).1)))), (4, .int (nI (sumN (fun i => cB s 1 i 1) ((sM s).1)))), (5, .int x), (6, .int (nI (sumN (fun i => tGet 2 (sP s) i 0) (p + 1)))), (7, .int (nI (sumN (fun i => tGet 2 (sP s) i 1) (p + 1)))), (8, .int (nI (sumN (fun i => cV s 0 i) (p + 1)))), (9, .int (nI 0)), (10, .int (nI p)), (11, .int (nI 0))]) [4, 5, 6, 7, 8, 9, 3, 2, 1, 10, 11, 0] rfl ?_
              exact L_203 _ 0 (Nat.zero_le _) (Nat.lt_succ_self _)
        refine j_lv X (lv' := [(0, .ref g.1), (1, .int (nI bl)), (2, .int (nI (sN s))), (3, .int (nI (sumN (fun i => cB s 1 i 0) (sM s).1))), (4, .int (nI (sumN (fun i => cB s 1 i 1) (sM s).1))), (5, .int x), (6, .int (nI 0)), (7, .int (nI 0)), (8, .int (nI 0)), (9, .int (nI 0)), (10, .int (nI 0))]) [5, 6, 7, 8, 9, 10, 4, 3, 2, 1, 0] rfl ?_
        exact L_153 _ 0 (Nat.zero_le _) (Nat.lt_succ_self _)
      · skip
        refine j_iload_n (pc := 27) X dL_isSound_27 rfl (q := 3) rfl ?_
        refine j_aload_n (pc := 28) X dL_isSound_28 rfl (q := 0) rfl ?_
        refine j_iload (pc := 29) X dL_isSound_29 (q := 6) rfl ?_
        refine j_iconst (pc := 31) X (v := (nI 2)) dL_isSound_31 (by decide +kernel) ?_
        have hmm := hw.m (m := m) (by omega)
        have hb2 := brn_lt hw (m := m) (r := 2) (by omega)
        have hb6 := brn_lt hw (m := m) (r := 60) (by omega)
        have hbm := brn_mono (M := sM s) (m := m)
        refine q_machine (pc := 32) X hw (r := (nI (cB s 1 m 0))) (oM_2 hw (by omega)) wm_L_18 ⟨Nat.le_of_ble_eq_true rfl, Nat.le_of_ble_eq_true rfl⟩ ⟨Nat.zero_le _, Nat.zero_le _⟩ (Nat.le_of_ble_eq_true rfl) dL_isSound_32 ?_
        refine j_iadd (pc := 35) X (v := (nI (sumN (fun i => cB s 1 i 0) (m + 1)))) dL_isSound_35 (nI_sum (f := (fun i => cB s 1 i 0))) ?_
        refine j_istore_n (pc := 36) X (lv' := [(3, .int (nI (sumN (fun i => cB s 1 i 0) (m + 1)))), (0, .ref g.1), (1, .int (nI bl)), (2, .int (nI (sN s))), (4, .int (nI (sumN (fun i => cB s 1 i 1) m))), (5, .int x), (6, .int (nI m))]) dL_isSound_36 rfl (by decide) rfl ?_
        refine j_iload (pc := 37) X dL_isSound_37 (q := 4) rfl ?_
        refine j_aload_n (pc := 39) X dL_isSound_39 rfl (q := 1) rfl ?_
        refine j_iload (pc := 40) X dL_isSound_40 (q := 6) rfl ?_
        refine j_bipush (pc := 42) X (v := (nI 6)) dL_isSound_42 (by decide +kernel) ?_
        refine q_machine (pc := 44) X hw (r := (nI (cB s 1 m 1))) (oM_6 hw (by omega)) wm_L_18 ⟨Nat.le_of_ble_eq_true rfl, Nat.le_of_ble_eq_true rfl⟩ ⟨Nat.zero_le _, Nat.zero_le _⟩ (Nat.le_of_ble_eq_true rfl) dL_isSound_44 ?_
        refine j_iadd (pc := 47) X (v := (nI (sumN (fun i => cB s 1 i 1) (m + 1)))) dL_isSound_47 (nI_sum (f := (fun i => cB s 1 i 1))) ?_
        refine j_istore (pc := 48) X (lv' := [(4, .int (nI (sumN (fun i => cB s 1 i 1) (m + 1)))), (3, .int (nI (sumN (fun i => cB s 1 i 0) (m + 1)))), (0, .ref g.1), (1, .int (nI bl)), (2, .int (nI (sN s))), (5, .int x), (6, .int (nI m))]) dL_isSound_48 (by decide) rfl ?_
        refine j_iload (pc := 50) X dL_isSound_50 (q := 5) rfl ?_
        refine j_aload_n (pc := 52) X dL_isSound_52 rfl (q := 2) rfl ?_
        refine j_iload (pc := 53) X dL_isSound_53 (q := 6) rfl ?_
        refine j_iconst (pc := 55) X (v := (nI 3)) dL_isSound_55 (by decide +kernel) ?_
        refine q_machine (pc := 56) X hw (r := (nI (cV s 1 m))) (oM_3 hw (by omega)) wm_L_18 ⟨Nat.le_of_ble_eq_true rfl, Nat.le_of_ble_eq_true rfl⟩ ⟨Nat.zero_le _, Nat.zero_le _⟩ (Nat.le_of_ble_eq_true rfl) dL_isSound_56 ?_
        refine j_aload_n (pc := 59) X dL_isSound_59 rfl (q := 2) rfl ?_
        refine j_iload (pc := 60) X dL_isSound_60 (q := 6) rfl ?_
        refine j_iconst (pc := 62) X (v := (nI 4)) dL_isSound_62 (by decide +kernel) ?_
        refine q_machine (pc := 63) X hw (r := (nI (cV s 2 m))) (oM_4 hw (by omega)) wm_L_18 ⟨Nat.le_of_ble_eq_true rfl, Nat.le_of_ble_eq_true rfl⟩ ⟨Nat.zero_le _, Nat.zero_le _⟩ (Nat.le_of_ble_eq_true rfl) dL_isSound_63 ?_
        refine j_isub (pc := 66) X (v := (nI (cV s 1 m) - nI (cV s 2 m))) dL_isSound_66 rfl ?_
        refine j_iadd (pc := 67) X (v := (x + (nI (cV s 1 m) - nI (cV s 2 m)))) dL_isSound_67 rfl ?_
        refine j_istore (pc := 68) X (lv' := [(5, .int (x + (nI (cV s 1 m) - nI (cV s 2 m)))), (4, .int (nI (sumN (fun i => cB s 1 i 1) (m + 1)))), (3, .int (nI (sumN (fun i => cB s 1 i 0) (m + 1)))), (0, .ref g.1), (1, .int (nI bl)), (2, .int (nI (sN s))), (6, .int (nI m))]) dL_isSound_68 (by decide) rfl ?_
        refine j_aload_n (pc := 70) X dL_isSound_70 rfl (q := 3) rfl ?_
        refine j_iload (pc := 71) X dL_isSound_71 (q := 6) rfl ?_
        refine j_iconst (pc := 73) X (v := (nI 1)) dL_isSound_73 (by decide +kernel) ?_
        refine q_machine (pc := 74) X hw (r := (nI (tGet 3 (sM s) m 1))) (oM_1 hw (by omega)) wm_L_18 ⟨Nat.le_of_ble_eq_true rfl, Nat.le_of_ble_eq_true rfl⟩ ⟨Nat.zero_le _, Nat.zero_le _⟩ (Nat.le_of_ble_eq_true rfl) dL_isSound_74 ?_
        refine j_if_lt_f (pc := 77) X (tgt := 130) dL_isSound_77 (by decide) (nI_pos (by omega)) ?_
        refine j_aload_n (pc := 80) X dL_isSound_80 rfl (q := 3) rfl ?_
        refine j_iload (pc := 81) X dL_isSound_81 (q := 6) rfl ?_
        refine j_iconst (pc := 83) X (v := (nI 1)) dL_isSound_83 (by decide +kernel) ?_
        refine q_machine (pc := 84) X hw (r := (nI (tGet 3 (sM s) m 1))) (oM_1 hw (by omega)) wm_L_18 ⟨Nat.le_of_ble_eq_true rfl, Nat.le_of_ble_eq_true rfl⟩ ⟨Nat.zero_le _, Nat.zero_le _⟩ (Nat.le_of_ble_eq_true rfl) dL_isSound_84 ?_
        refine j_bipush (pc := 87) X (v := (nI 12)) dL_isSound_87 (by decide +kernel) ?_
        refine j_icmp_gt_f (pc := 89) X (tgt := 130) dL_isSound_89 (by decide) (fun z9 => absurd ((nI_ltI (by omega) (by omega)).mp z9) (by omega)) ?_
        refine j_aload_n (pc := 92) X dL_isSound_92 rfl (q := 3) rfl ?_
        refine j_iload (pc := 93) X dL_isSound_93 (q := 6) rfl ?_
        refine j_iconst (pc := 95) X (v := (nI 2)) dL_isSound_95 (by decide +kernel) ?_
        refine q_bears (pc := 96) X hw (r := (nI (brn (sM s) m 2))) (oBr_t hw (by omega) (by omega)) wm_L_34 ⟨Nat.le_of_ble_eq_true rfl, Nat.le_of_ble_eq_true rfl⟩ ⟨Nat.zero_le _, Nat.zero_le _⟩ (Nat.le_of_ble_eq_true rfl) dL_isSound_96 ?_
        refine j_aload_n (pc := 99) X dL_isSound_99 rfl (q := 3) rfl ?_
        refine j_iload (pc := 100) X dL_isSound_100 (q := 6) rfl ?_
        refine j_bipush (pc := 102) X (v := (nI 60)) dL_isSound_102 (by decide +kernel) ?_
        refine q_bears (pc := 104) X hw (r := (nI (brn (sM s) m 60))) (oBr_t hw (by omega) (by omega)) wm_L_34 ⟨Nat.le_of_ble_eq_true rfl, Nat.le_of_ble_eq_true rfl⟩ ⟨Nat.zero_le _, Nat.zero_le _⟩ (Nat.le_of_ble_eq_true rfl) dL_isSound_104 ?_
        refine j_icmp_lt_f (pc := 107) X (tgt := 130) dL_isSound_107 (by decide) (fun z9 => absurd ((nI_ltI (by omega) (by omega)).mp z9) (by omega)) ?_
        refine j_aload_n (pc := 110) X dL_isSound_110 rfl (q := 3) rfl ?_
        refine j_iload (pc := 111) X dL_isSound_111 (q := 6) rfl ?_
        refine j_iconst (pc := 113) X (v := (nI 2)) dL_isSound_113 (by decide +kernel) ?_
        refine q_bears (pc := 114) X hw (r := (nI (brn (sM s) m 2))) (oBr_t hw (by omega) (by omega)) wm_L_34 ⟨Nat.le_of_ble_eq_true rfl, Nat.le_of_ble_eq_true rfl⟩ ⟨Nat.zero_le _, Nat.zero_le _⟩ (Nat.le_of_ble_eq_true rfl) dL_isSound_114 ?_
        refine j_bipush (pc := 117) X (v := (nI 10)) dL_isSound_117 (by decide +kernel) ?_
        refine j_aload_n (pc := 119) X dL_isSound_119 rfl (q := 3) rfl ?_
        refine j_iload (pc := 120) X dL_isSound_120 (q := 6) rfl ?_
        refine j_iconst (pc := 122) X (v := (nI 0)) dL_isSound_122 (by decide +kernel) ?_
        refine q_machine (pc := 123) X hw (r := (nI (tGet 3 (sM s) m 0))) (oM_0 hw (by omega)) wm_L_18 ⟨Nat.le_of_ble_eq_true rfl, Nat.le_of_ble_eq_true rfl⟩ ⟨Nat.zero_le _, Nat.zero_le _⟩ (Nat.le_of_ble_eq_true rfl) dL_isSound_123 ?_
        refine j_imul (pc := 126) X (v := (nI (10 * (tGet 3 (sM s) m 0)))) dL_isSound_126 (pk_mul _ _) ?_
        refine j_icmp_le_t (pc := 127) X (tgt := 132) dL_isSound_127 (by decide) ((nI_leI (by omega) (by omega)).mpr (by omega)) ?_
        refine j_iinc (pc := 132) X (v := (nI (m + 1))) (lv' := [(6, .int (nI (m + 1))), (5, .int (x + (nI (cV s 1 m) - nI (cV s 2 m)))), (4, .int (nI (sumN (fun i => cB s 1 i 1) (m + 1)))), (3, .int (nI (sumN (fun i => cB s 1 i 0) (m + 1)))), (0, .ref g.1), (1, .int (nI bl)), (2, .int (nI (sN s)))]) dL_isSound_132 (q := 6) rfl (nI_add _ _) (by decide) rfl ?_
        refine j_goto (pc := 135) X (tgt := 17) dL_isSound_135 (by decide) ?_
        refine j_lv X (lv' := [(0, .ref g.1), (1, .int (nI bl)), (2, .int (nI (sN s))), (3, .int (nI (sumN (fun i => cB s 1 i 0) (m + 1)))), (4, .int (nI (sumN (fun i => cB s 1 i 1) (m + 1)))), (5, .int (x + (nI (cV s 1 m) - nI (cV s 2 m)))), (6, .int (nI (m + 1)))]) [4, 5, 6, 3, 2, 1, 0] rfl ?_
        exact ih_17 (m + 1) _ (by omega) (fr_step hx) (by omega)
  refine j_lv X (lv' := [(0, .ref g.1), (1, .int (nI bl)), (2, .int (nI (sN s))), (3, .int (nI 0)), (4, .int (nI 0)), (5, .int (nI 0)), (6, .int (nI 0))]) [5, 6, 4, 3, 2, 1, 0] rfl ?_
  exact L_17 _ 0 (nI 0) (Nat.zero_le _) sub00 (Nat.lt_succ_self _)
