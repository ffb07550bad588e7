/-! the law, from its entry -/
set_option maxHeartbeats 4000000 in
set_option maxRecDepth 100000 in
theorem law_entry {l : Launch} {D : va_G} {tA : Nat → ClassId} {G : kCx} {b0 L : Nat} {xs : Nat → Int32} (X : kX D tA G cL_law 9 RL 9 350) (hR : 77 ≤ (gR G).cells ∧ 3933 ≤ (gR G).slots) (hX : va_X b0 L xs (gs G) (gs G).heap) (hbl : b0 < (gs G).heap.size) (hbA : ¬ gA G b0) (hL : L ≤ 260) (hend : ∀ (w : va_W) (lv : List (Nat × Value)), J l D G 77 3933 w lv 449 []) : J l D G 0 0 [] [(0, .ref b0)] 0 [] := by
  have hR1 := hR.1
  have hR2 := hR.2
  refine j_new (pc := 0) X (C := RX4) (T := TX4) (N := 6) (ci := 4) (fs := [.null, .null, .null, .null, .null, .int 0]) wz_X4 tyX4 tyX4_ok wl_L_13 wn_X4 wi_X4 rfl df_X4 ⟨by omega, by omega⟩ dL_law_0 (fun c => ?_)
  refine j_dup (pc := 3) X dL_law_3 rfl ?_
  refine j_callI (pc := 4) X (As := []) (st := [.ref c]) (cz_X4_init l D tA c) wc_X4_init wi_X4 wk_X4_init wm_L_91 rfl (by decide +kernel) ⟨Nat.le_of_ble_eq_true rfl, Nat.le_of_ble_eq_true rfl⟩ ⟨by omega, by omega⟩ rfl (Nat.le_of_ble_eq_true rfl) dL_law_4 (fun u _ => ?_)
  obtain ⟨a, b, f, ⟨h, d⟩, x⟩ := u
  refine j_astore_n (pc := 7) X (lv' := [(1, .ref c), (0, .ref b0)]) dL_law_7 rfl (by decide) rfl ?_
  refine j_ws (w2 := (cuW tA (c, a, b, f, h, x, d) s0 s0 s0 v0 false)) (by simp only [clZ, cuW, List.nil_append]) ?_
  refine j_wd 77 3933 (by omega) (by omega) ?_
  refine j_aload_n (pc := 8) X dL_law_8 rfl (q := 1) rfl ?_
  refine j_iconst (pc := 9) X (v := (nI 0)) dL_law_9 (by decide +kernel) ?_
  refine j_cell (pc := 10) X (c_L_cell l D tA b0 L xs (by omega) 0 (by omega)) hX hbl hbA wm_L_92 ⟨Nat.le_of_ble_eq_true rfl, Nat.le_of_ble_eq_true rfl⟩ hR (Nat.le_of_ble_eq_true rfl) dL_law_10 (fun z => ?_)
  refine j_istore_n (pc := 13) X (lv' := [(2, .int z), (1, .ref c), (0, .ref b0)]) dL_law_13 rfl (by decide) rfl ?_
  refine j_iconst (pc := 14) X (v := (nI 0)) dL_law_14 (by decide +kernel) ?_
  refine j_istore_n (pc := 15) X (lv' := [(3, .int (nI 0)), (2, .int z), (1, .ref c), (0, .ref b0)]) dL_law_15 rfl (by decide) rfl ?_
  refine j_iconst (pc := 16) X (v := (nI 0)) dL_law_16 (by decide +kernel) ?_
  refine j_istore (pc := 17) X (lv' := [(4, .int (nI 0)), (3, .int (nI 0)), (2, .int z), (1, .ref c), (0, .ref b0)]) dL_law_17 (by decide) rfl ?_
  have L_19 : ∀ (fu : Nat) (e bl : Nat) (s : Sg) (v : Hs), e ≤ 2 + lowN z 3 → Iv bl s → HOk v → (sM s).1 = e → (sP s).1 = e → 4 - e < fu → J l D G 77 3933 (cuW tA (c, a, b, f, h, x, d) s s0 s0 v false) [(0, .ref b0), (1, .ref c), (2, .int z), (3, .int (nI bl)), (4, .int (nI e))] 19 [] := by
    intro fu
    induction fu with
    | zero => intro e bl s v he hI hv hM hP hfu; exact absurd hfu (Nat.not_lt_zero _)
    | succ fu ih_19 =>
      intro e bl s v he hI hv hM hP hfu
      refine j_iload (pc := 19) X dL_law_19 (q := 4) rfl ?_
      refine j_iconst (pc := 21) X (v := (nI 2)) dL_law_21 (by decide +kernel) ?_
      refine j_iload_n (pc := 22) X dL_law_22 rfl (q := 2) rfl ?_
      refine j_iconst (pc := 23) X (v := (nI 3)) dL_law_23 (by decide +kernel) ?_
      refine j_c0 (pc := 24) X (As := [.int z, .int (nI 3)]) (c_L_low l D tA z 3 (by omega) (by omega)) cd_L_low wm_L_49 rfl ⟨Nat.le_of_ble_eq_true rfl, Nat.le_of_ble_eq_true rfl⟩ hR rfl (Nat.le_of_ble_eq_true rfl) dL_law_24 ?_
      have hl24 := low_lt (v := z) (n := 3) (by omega)
      refine j_iadd (pc := 27) X (v := (nI (2 + (lowN z 3)))) dL_law_27 (nI_add _ _) ?_
      refine j_icmp_ge (pc := 28) X (tgt := 83) (P := (2 + (lowN z 3)) ≤ e) dL_law_28 (by decide) (nI_leI (by omega) (by omega)) (fun h28 => ?_) (fun h28 => ?_)
      · skip
        refine j_iconst (pc := 83) X (v := (nI 0)) dL_law_83 (by decide +kernel) ?_
        refine j_istore (pc := 84) X (lv' := [(4, .int (nI 0)), (0, .ref b0), (1, .ref c), (2, .int z), (3, .int (nI bl))]) dL_law_84 (by decide) rfl ?_
        have L_86 : ∀ (fu : Nat) (t : Nat) (s s3 : Sg) (v : Hs), t ≤ 24 → Iv bl s → HOk v → Wf s3 → 2 ≤ (sM s).1 → 2 ≤ (sP s).1 → 24 - t < fu → J l D G 77 3933 (cuW tA (c, a, b, f, h, x, d) s s0 s3 v false) [(0, .ref b0), (1, .ref c), (3, .int (nI bl)), (4, .int (nI t))] 86 [] := by
          intro fu
          induction fu with
          | zero => intro t s s3 v ht hI hv hw3 hM hP hfu; exact absurd hfu (Nat.not_lt_zero _)
          | succ fu ih_86 =>
            intro t s s3 v ht hI hv hw3 hM hP hfu
            refine j_iload (pc := 86) X dL_law_86 (q := 3) rfl ?_
            refine j_bipush (pc := 88) X (v := (nI 24)) dL_law_88 (by decide +kernel) ?_
            refine j_icmp_ge (pc := 90) X (tgt := 231) (P := 24 ≤ t) dL_law_90 (by decide) (nI_leI (by omega) (by omega)) (fun h90 => ?_) (fun h90 => ?_)
            · skip
              refine j_aload_n (pc := 231) X dL_law_231 rfl (q := 1) rfl ?_
              refine j_cS (pc := 232) X (As := [.ref c]) (c_L_all l D tA (c, a, b, f, h, x, d) s s0 s3 v false hI.1.1) cd_L_all wm_L_43 rfl rfl ⟨Nat.le_of_ble_eq_true rfl, Nat.le_of_ble_eq_true rfl⟩ hR rfl (Nat.le_of_ble_eq_true rfl) dL_law_232 ?_
              refine j_lstore (pc := 235) X (lv' := [(4, .long (hAll s)), (0, .ref b0), (1, .ref c), (3, .int (nI bl))]) dL_law_235 (by decide) rfl ?_
              refine j_aload_n (pc := 237) X dL_law_237 rfl (q := 2) rfl ?_
              refine q_keep (pc := 238) X hI.1.1 Wf_0 (r := (nI (sN s))) rfl wm_L_113 ⟨Nat.le_of_ble_eq_true rfl, Nat.le_of_ble_eq_true rfl⟩ hR (Nat.le_of_ble_eq_true rfl) dL_law_238 ?_
              refine j_aload_n (pc := 241) X dL_law_241 rfl (q := 2) rfl ?_
              refine j_iconst (pc := 242) X (v := (nI 0)) dL_law_242 (by decide +kernel) ?_
              refine q_count (pc := 243) X hI.1.1 (r := (nI (sN s))) (oC_0 _ _ _) wm_L_12 ⟨Nat.le_of_ble_eq_true rfl, Nat.le_of_ble_eq_true rfl⟩ hR (Nat.le_of_ble_eq_true rfl) dL_law_243 ?_
              refine j_icmp_eq_t (pc := 246) X (tgt := 251) dL_law_246 (by decide) rfl ?_
              refine j_aload_n (pc := 251) X dL_law_251 rfl (q := 2) rfl ?_
              refine j_bipush (pc := 252) X (v := (nI 7)) dL_law_252 (by decide +kernel) ?_
              obtain ⟨bla, sa, va, hIa, hva, ea⟩ := behind (tA := tA) (g := (c, a, b, f, h, x, d)) (sn := s) (s3 := s3) (kp := true) (o := oPass s (nI 7)) (⟨bl, Nx.iv hI (nx_pass hI (nI 7))⟩) hI.1.1 hv
              refine q_pass (pc := 254) X hI.1.1 hv (r := ((oPass s (nI 7)).1)) rfl wm_L_55 ⟨Nat.le_of_ble_eq_true rfl, Nat.le_of_ble_eq_true rfl⟩ hR (Nat.le_of_ble_eq_true rfl) dL_law_254 ?_
              refine j_ws (w2 := (cuW tA (c, a, b, f, h, x, d) sa s s3 va true)) ea ?_
              refine j_pop (pc := 257) X dL_law_257 rfl ?_
              refine j_aload_n (pc := 258) X dL_law_258 rfl (q := 2) rfl ?_
              refine j_bipush (pc := 259) X (v := (nI 99)) dL_law_259 (by decide +kernel) ?_
              refine j_iconst (pc := 261) X (v := (nI 1)) dL_law_261 (by decide +kernel) ?_
              obtain ⟨blb, sb, vb, hIb, hvb, eb⟩ := behind (tA := tA) (g := (c, a, b, f, h, x, d)) (sn := s) (s3 := s3) (kp := true) (o := oAddMachine sa (nI 99) (nI 1)) (iv_am hIa) hIa.1.1 hva
              refine q_addMachine (pc := 262) X hIa.1.1 hva (r := ((oAddMachine sa (nI 99) (nI 1)).1)) rfl wm_L_96 ⟨Nat.le_of_ble_eq_true rfl, Nat.le_of_ble_eq_true rfl⟩ hR (Nat.le_of_ble_eq_true rfl) dL_law_262 ?_
              refine j_ws (w2 := (cuW tA (c, a, b, f, h, x, d) sb s s3 vb true)) eb ?_
              refine j_pop (pc := 265) X dL_law_265 rfl ?_
              refine j_aload_n (pc := 266) X dL_law_266 rfl (q := 2) rfl ?_
              refine j_sipush (pc := 267) X (v := (nI 199)) dL_law_267 (by decide +kernel) ?_
              refine j_bipush (pc := 270) X (v := (nI 50)) dL_law_270 (by decide +kernel) ?_
              obtain ⟨blc, sc, vc, hIc, hvc, ec⟩ := behind (tA := tA) (g := (c, a, b, f, h, x, d)) (sn := s) (s3 := s3) (kp := true) (o := oSetWind sb (nI 199) (nI 50)) (⟨blb, Nx.iv hIb (nx_setWind hIb (nI 199) (nI 50))⟩) hIb.1.1 hvb
              refine q_setWind (pc := 272) X hIb.1.1 hvb (r := ((oSetWind sb (nI 199) (nI 50)).1)) rfl wm_L_76 ⟨Nat.le_of_ble_eq_true rfl, Nat.le_of_ble_eq_true rfl⟩ hR (Nat.le_of_ble_eq_true rfl) dL_law_272 ?_
              refine j_ws (w2 := (cuW tA (c, a, b, f, h, x, d) sc s s3 vc true)) ec ?_
              refine j_pop (pc := 275) X dL_law_275 rfl ?_
              refine j_aload_n (pc := 276) X dL_law_276 rfl (q := 2) rfl ?_
              refine q_restore (pc := 277) X hIc.1.1 hvc hI.1.1 (r := (nI (sN s))) (by rw [oRestore_t]) wm_L_116 ⟨Nat.le_of_ble_eq_true rfl, Nat.le_of_ble_eq_true rfl⟩ hR (Nat.le_of_ble_eq_true rfl) dL_law_277 ?_
              refine j_ws (w2 := (cuW tA (c, a, b, f, h, x, d) s s s3 (hPush vc sc) true)) (by rw [oRestore_t]; rfl) ?_
              refine j_aload_n (pc := 280) X dL_law_280 rfl (q := 2) rfl ?_
              refine j_iconst (pc := 281) X (v := (nI 0)) dL_law_281 (by decide +kernel) ?_
              refine q_count (pc := 282) X hI.1.1 (r := (nI (sN s))) (oC_0 _ _ _) wm_L_12 ⟨Nat.le_of_ble_eq_true rfl, Nat.le_of_ble_eq_true rfl⟩ hR (Nat.le_of_ble_eq_true rfl) dL_law_282 ?_
              refine j_icmp_ne_f (pc := 285) X (tgt := 453) dL_law_285 (by decide) (fun z => z rfl) ?_
              refine j_aload_n (pc := 288) X dL_law_288 rfl (q := 2) rfl ?_
              refine j_cS (pc := 289) X (As := [.ref c]) (c_L_all l D tA (c, a, b, f, h, x, d) s s s3 (hPush vc sc) true hI.1.1) cd_L_all wm_L_43 rfl rfl ⟨Nat.le_of_ble_eq_true rfl, Nat.le_of_ble_eq_true rfl⟩ hR rfl (Nat.le_of_ble_eq_true rfl) dL_law_289 ?_
              refine j_lload (pc := 292) X dL_law_292 (q := 0) rfl ?_
              refine j_lcmp (pc := 294) X dL_law_294 ?_
              refine j_if_ne_f (pc := 295) X (tgt := 453) dL_law_295 (by decide) (fun z9 => absurd ((not_congr (lg_cmp_eq _ _)).mp z9) (fun z => z rfl)) ?_
              refine j_aload_n (pc := 298) X dL_law_298 rfl (q := 2) rfl ?_
              refine q_undo (pc := 299) X hI.1.1 (hvc.push hIc.1.1) (r := (nI (min (vc.2.2 + 1) 4 - 1))) un_r wm_L_58 ⟨Nat.le_of_ble_eq_true rfl, Nat.le_of_ble_eq_true rfl⟩ hR (Nat.le_of_ble_eq_true rfl) dL_law_299 ?_
              refine j_ws (w2 := (cuW tA (c, a, b, f, h, x, d) sc s s3 (hPop (hPush vc sc)) true)) (by rw [un_s hvc.1, un_v]) ?_
              refine j_if_lt_f (pc := 302) X (tgt := 453) dL_law_302 (by decide) (nI_pos (by omega)) ?_
              refine j_aload_n (pc := 305) X dL_law_305 rfl (q := 2) rfl ?_
              refine q_restore (pc := 306) X hIc.1.1 (((hvc.push hIc.1.1)).pop) hI.1.1 (r := (nI (sN s))) (by rw [oRestore_t]) wm_L_116 ⟨Nat.le_of_ble_eq_true rfl, Nat.le_of_ble_eq_true rfl⟩ hR (Nat.le_of_ble_eq_true rfl) dL_law_306 ?_
              refine j_ws (w2 := (cuW tA (c, a, b, f, h, x, d) s s s3 (hPush (hPop (hPush vc sc)) sc) true)) (by rw [oRestore_t]; rfl) ?_
              refine j_if_lt_f (pc := 309) X (tgt := 453) dL_law_309 (by decide) (nI_pos (by have := hI.1.1.n; omega)) ?_
              refine j_aload_n (pc := 312) X dL_law_312 rfl (q := 2) rfl ?_
              refine j_cS (pc := 313) X (As := [.ref c]) (c_L_all l D tA (c, a, b, f, h, x, d) s s s3 (hPush (hPop (hPush vc sc)) sc) true hI.1.1) cd_L_all wm_L_43 rfl rfl ⟨Nat.le_of_ble_eq_true rfl, Nat.le_of_ble_eq_true rfl⟩ hR rfl (Nat.le_of_ble_eq_true rfl) dL_law_313 ?_
              refine j_lload (pc := 316) X dL_law_316 (q := 0) rfl ?_
              refine j_lcmp (pc := 318) X dL_law_318 ?_
              refine j_if_ne_f (pc := 319) X (tgt := 453) dL_law_319 (by decide) (fun z9 => absurd ((not_congr (lg_cmp_eq _ _)).mp z9) (fun z => z rfl)) ?_
              refine j_aload_n (pc := 322) X dL_law_322 rfl (q := 2) rfl ?_
              refine j_iconst (pc := 323) X (v := (nI 5)) dL_law_323 (by decide +kernel) ?_
              refine j_iconst (pc := 324) X (v := (nI 0)) dL_law_324 (by decide +kernel) ?_
              refine q_machine (pc := 325) X hI.1.1 (r := (-1)) (oM_x hI.1.1) wm_L_18 ⟨Nat.le_of_ble_eq_true rfl, Nat.le_of_ble_eq_true rfl⟩ hR (Nat.le_of_ble_eq_true rfl) dL_law_325 ?_
              refine j_iconst (pc := 328) X (v := (-1)) dL_law_328 (by decide +kernel) ?_
              refine j_icmp_ne_f (pc := 329) X (tgt := 453) dL_law_329 (by decide) (fun z => z rfl) ?_
              refine j_aload_n (pc := 332) X dL_law_332 rfl (q := 2) rfl ?_
              refine j_iconst (pc := 333) X (v := (nI 0)) dL_law_333 (by decide +kernel) ?_
              refine j_bipush (pc := 334) X (v := (nI 7)) dL_law_334 (by decide +kernel) ?_
              refine q_machine (pc := 336) X hI.1.1 (r := (-2)) (oM_y hI.1.1 (by omega)) wm_L_18 ⟨Nat.le_of_ble_eq_true rfl, Nat.le_of_ble_eq_true rfl⟩ hR (Nat.le_of_ble_eq_true rfl) dL_law_336 ?_
              refine j_bipush (pc := 339) X (v := (-2)) dL_law_339 (by decide +kernel) ?_
              refine j_icmp_ne_f (pc := 341) X (tgt := 453) dL_law_341 (by decide) (fun z => z rfl) ?_
              refine j_aload_n (pc := 344) X dL_law_344 rfl (q := 2) rfl ?_
              refine j_bipush (pc := 345) X (v := (nI 8)) dL_law_345 (by decide +kernel) ?_
              refine j_iconst (pc := 347) X (v := (nI 0)) dL_law_347 (by decide +kernel) ?_
              refine q_member (pc := 348) X hI.1.1 (r := (-1)) (oP_x hI.1.1) wm_L_22 ⟨Nat.le_of_ble_eq_true rfl, Nat.le_of_ble_eq_true rfl⟩ hR (Nat.le_of_ble_eq_true rfl) dL_law_348 ?_
              refine j_iconst (pc := 351) X (v := (-1)) dL_law_351 (by decide +kernel) ?_
              refine j_icmp_ne_f (pc := 352) X (tgt := 453) dL_law_352 (by decide) (fun z => z rfl) ?_
              refine j_aload_n (pc := 355) X dL_law_355 rfl (q := 2) rfl ?_
              refine j_bipush (pc := 356) X (v := (nI 30)) dL_law_356 (by decide +kernel) ?_
              refine j_iconst (pc := 358) X (v := (nI 0)) dL_law_358 (by decide +kernel) ?_
              refine q_booking (pc := 359) X hI.1.1 (r := (-1)) (oB_x hI.1.1) wm_L_25 ⟨Nat.le_of_ble_eq_true rfl, Nat.le_of_ble_eq_true rfl⟩ hR (Nat.le_of_ble_eq_true rfl) dL_law_359 ?_
              refine j_iconst (pc := 362) X (v := (-1)) dL_law_362 (by decide +kernel) ?_
              refine j_icmp_ne_f (pc := 363) X (tgt := 453) dL_law_363 (by decide) (fun z => z rfl) ?_
              refine j_aload_n (pc := 366) X dL_law_366 rfl (q := 2) rfl ?_
              refine j_bipush (pc := 367) X (v := (nI 10)) dL_law_367 (by decide +kernel) ?_
              refine j_iconst (pc := 369) X (v := (nI 0)) dL_law_369 (by decide +kernel) ?_
              refine q_move (pc := 370) X hI.1.1 (r := (-1)) (oV_x hI.1.1) wm_L_28 ⟨Nat.le_of_ble_eq_true rfl, Nat.le_of_ble_eq_true rfl⟩ hR (Nat.le_of_ble_eq_true rfl) dL_law_370 ?_
              refine j_iconst (pc := 373) X (v := (-1)) dL_law_373 (by decide +kernel) ?_
              refine j_icmp_ne_f (pc := 374) X (tgt := 453) dL_law_374 (by decide) (fun z => z rfl) ?_
              refine j_aload_n (pc := 377) X dL_law_377 rfl (q := 2) rfl ?_
              refine j_bipush (pc := 378) X (v := (nI 30)) dL_law_378 (by decide +kernel) ?_
              refine q_fate (pc := 380) X hI.1.1 hw3 (r := (-1)) (by rw [oFate_x hI.1.1]) wm_L_52 ⟨Nat.le_of_ble_eq_true rfl, Nat.le_of_ble_eq_true rfl⟩ hR (Nat.le_of_ble_eq_true rfl) dL_law_380 ?_
              refine j_ws (w2 := (cuW tA (c, a, b, f, h, x, d) s s s3 (hPush (hPop (hPush vc sc)) sc) true)) (by rw [oFate_x hI.1.1]; rfl) ?_
              refine j_iconst (pc := 383) X (v := (-1)) dL_law_383 (by decide +kernel) ?_
              refine j_icmp_ne_f (pc := 384) X (tgt := 453) dL_law_384 (by decide) (fun z => z rfl) ?_
              refine j_aload_n (pc := 387) X dL_law_387 rfl (q := 2) rfl ?_
              refine j_iconst (pc := 388) X (v := (nI 0)) dL_law_388 (by decide +kernel) ?_
              refine j_sipush (pc := 389) X (v := (nI 200)) dL_law_389 (by decide +kernel) ?_
              refine q_bookedAt (pc := 392) X hI.1.1 (r := (-1)) oA_x wm_L_37 ⟨Nat.le_of_ble_eq_true rfl, Nat.le_of_ble_eq_true rfl⟩ hR (Nat.le_of_ble_eq_true rfl) dL_law_392 ?_
              refine j_iconst (pc := 395) X (v := (-1)) dL_law_395 (by decide +kernel) ?_
              refine j_icmp_ne_f (pc := 396) X (tgt := 453) dL_law_396 (by decide) (fun z => z rfl) ?_
              refine j_aload_n (pc := 399) X dL_law_399 rfl (q := 2) rfl ?_
              refine j_sipush (pc := 400) X (v := (nI 200)) dL_law_400 (by decide +kernel) ?_
              refine j_iconst (pc := 403) X (v := (nI 1)) dL_law_403 (by decide +kernel) ?_
              refine j_iconst (pc := 404) X (v := (nI 2)) dL_law_404 (by decide +kernel) ?_
              refine q_machineFor (pc := 405) X hI.1.1 (r := (-1)) oMf_x wm_L_66 ⟨Nat.le_of_ble_eq_true rfl, Nat.le_of_ble_eq_true rfl⟩ hR (Nat.le_of_ble_eq_true rfl) dL_law_405 ?_
              refine j_iconst (pc := 408) X (v := (-1)) dL_law_408 (by decide +kernel) ?_
              refine j_icmp_ne_f (pc := 409) X (tgt := 453) dL_law_409 (by decide) (fun z => z rfl) ?_
              refine j_aload_n (pc := 412) X dL_law_412 rfl (q := 2) rfl ?_
              refine j_sipush (pc := 413) X (v := (nI 199)) dL_law_413 (by decide +kernel) ?_
              refine j_iconst (pc := 416) X (v := (nI 0)) dL_law_416 (by decide +kernel) ?_
              refine j_iconst (pc := 417) X (v := (nI 2)) dL_law_417 (by decide +kernel) ?_
              refine q_machineFor (pc := 418) X hI.1.1 (r := (-2)) (oMf_y hI.1.1) wm_L_66 ⟨Nat.le_of_ble_eq_true rfl, Nat.le_of_ble_eq_true rfl⟩ hR (Nat.le_of_ble_eq_true rfl) dL_law_418 ?_
              refine j_bipush (pc := 421) X (v := (-2)) dL_law_421 (by decide +kernel) ?_
              refine j_icmp_ne_f (pc := 423) X (tgt := 453) dL_law_423 (by decide) (fun z => z rfl) ?_
              refine j_aload_n (pc := 426) X dL_law_426 rfl (q := 2) rfl ?_
              refine j_bipush (pc := 427) X (v := (nI 17)) dL_law_427 (by decide +kernel) ?_
              refine q_count (pc := 429) X hI.1.1 (r := (-2)) (oC_x _ _ _) wm_L_12 ⟨Nat.le_of_ble_eq_true rfl, Nat.le_of_ble_eq_true rfl⟩ hR (Nat.le_of_ble_eq_true rfl) dL_law_429 ?_
              refine j_bipush (pc := 432) X (v := (-2)) dL_law_432 (by decide +kernel) ?_
              refine j_icmp_ne_f (pc := 434) X (tgt := 453) dL_law_434 (by decide) (fun z => z rfl) ?_
              refine j_aload_n (pc := 437) X dL_law_437 rfl (q := 2) rfl ?_
              refine j_bipush (pc := 438) X (v := (nI 9)) dL_law_438 (by decide +kernel) ?_
              refine j_iconst (pc := 440) X (v := (nI 0)) dL_law_440 (by decide +kernel) ?_
              refine q_addMachine (pc := 441) X hI.1.1 (((hvc.push hIc.1.1)).pop.push hIc.1.1) (r := (-2)) (by rw [oAm_x]) wm_L_96 ⟨Nat.le_of_ble_eq_true rfl, Nat.le_of_ble_eq_true rfl⟩ hR (Nat.le_of_ble_eq_true rfl) dL_law_441 ?_
              refine j_ws (w2 := (cuW tA (c, a, b, f, h, x, d) s s s3 (hPush (hPop (hPush vc sc)) sc) true)) (by rw [oAm_x]; rfl) ?_
              refine j_bipush (pc := 444) X (v := (-2)) dL_law_444 (by decide +kernel) ?_
              refine j_icmp_ne_f (pc := 446) X (tgt := 453) dL_law_446 (by decide) (fun z => z rfl) ?_
              exact hend _ _
            · skip
              refine j_aload_n (pc := 93) X dL_law_93 rfl (q := 0) rfl ?_
              refine j_iconst (pc := 94) X (v := (nI 1)) dL_law_94 (by decide +kernel) ?_
              refine j_iload (pc := 95) X dL_law_95 (q := 3) rfl ?_
              refine j_iadd (pc := 97) X (v := (nI (1 + t))) dL_law_97 (nI_add _ _) ?_
              refine j_cell (pc := 98) X (c_L_cell l D tA b0 L xs (by omega) (1 + t) (by omega)) hX hbl hbA wm_L_92 ⟨Nat.le_of_ble_eq_true rfl, Nat.le_of_ble_eq_true rfl⟩ hR (Nat.le_of_ble_eq_true rfl) dL_law_98 (fun y => ?_)
              have K_168 : ∀ (s : Sg) (v : Hs), Iv bl s → HOk v → 2 ≤ (sM s).1 → 2 ≤ (sP s).1 → J l D G 77 3933 (cuW tA (c, a, b, f, h, x, d) s s0 s3 v false) [(0, .ref b0), (1, .ref c), (3, .int (nI bl)), (4, .int (nI t)), (5, .int y)] 168 [] := by
                intro s v hI hv hM hP
                refine j_iload (pc := 168) X dL_law_168 (q := 3) rfl ?_
                refine j_iconst (pc := 170) X (v := (nI 2)) dL_law_170 (by decide +kernel) ?_
                refine j_irem (pc := 171) X (v := (nI (t % 2))) dL_law_171 (nI_ne0 (by omega) (by omega)) (pk_rem (by omega) (by omega) (by omega)) ?_
                refine j_iconst (pc := 172) X (v := (nI 1)) dL_law_172 (by decide +kernel) ?_
                refine j_icmp_ne (pc := 173) X (tgt := 184) (P := ¬ (t % 2) = 1) dL_law_173 (by decide) (not_congr (nI_eq (by omega) (by omega))) (fun h173 => ?_) (fun h173 => ?_)
                · skip
                  refine j_iload (pc := 184) X dL_law_184 (q := 3) rfl ?_
                  refine j_iconst (pc := 186) X (v := (nI 4)) dL_law_186 (by decide +kernel) ?_
                  refine j_irem (pc := 187) X (v := (nI (t % 4))) dL_law_187 (nI_ne0 (by omega) (by omega)) (pk_rem (by omega) (by omega) (by omega)) ?_
                  refine j_iconst (pc := 188) X (v := (nI 2)) dL_law_188 (by decide +kernel) ?_
                  refine j_icmp_ne (pc := 189) X (tgt := 204) (P := ¬ (t % 4) = 2) dL_law_189 (by decide) (not_congr (nI_eq (by omega) (by omega))) (fun h189 => ?_) (fun h189 => ?_)
                  · skip
                    refine j_iload (pc := 204) X dL_law_204 (q := 3) rfl ?_
                    refine j_iconst (pc := 206) X (v := (nI 4)) dL_law_206 (by decide +kernel) ?_
                    refine j_irem (pc := 207) X (v := (nI (t % 4))) dL_law_207 (nI_ne0 (by omega) (by omega)) (pk_rem (by omega) (by omega) (by omega)) ?_
                    refine j_if_ne (pc := 208) X (tgt := 225) (P := ¬ (t % 4) = 0) dL_law_208 (by decide) (not_congr (nC_eq0 (by omega))) (fun h208 => ?_) (fun h208 => ?_)
                    · skip
                      refine j_iinc (pc := 225) X (v := (nI (t + 1))) (lv' := [(4, .int (nI (t + 1))), (0, .ref b0), (1, .ref c), (3, .int (nI bl)), (5, .int y)]) dL_law_225 (q := 3) rfl (nI_add _ _) (by decide) rfl ?_
                      refine j_goto (pc := 228) X (tgt := 86) dL_law_228 (by decide) ?_
                      refine j_lv X (lv' := [(0, .ref b0), (1, .ref c), (3, .int (nI bl)), (4, .int (nI (t + 1)))]) [1, 2, 3, 0] rfl ?_
                      exact ih_86 (t + 1) s s3 v (by omega) hI hv hw3 hM hP (by omega)
                    · skip
                      refine j_aload_n (pc := 211) X dL_law_211 rfl (q := 1) rfl ?_
                      refine j_iload (pc := 212) X dL_law_212 (q := 4) rfl ?_
                      refine j_bipush (pc := 214) X (v := (nI 9)) dL_law_214 (by decide +kernel) ?_
                      refine j_ishr (pc := 216) X (v := (y >>> ((nI 9) &&& 31))) dL_law_216 rfl ?_
                      refine j_cSy (pc := 217) X (As := [.ref c, .int (y >>> ((nI 9) &&& 31))]) (c_L_isFound l D tA (c, a, b, f, h, x, d) s s0 s3 v false bl (y >>> ((nI 9) &&& 31)) hI (by omega) hv) cd_L_isFound wm_L_110 rfl (fun _ => cu_fst) ⟨Nat.le_of_ble_eq_true rfl, Nat.le_of_ble_eq_true rfl⟩ hR rfl (Nat.le_of_ble_eq_true rfl) dL_law_217 (fun u9 hu9 => ?_)
                      refine j_if_ne_t (pc := 220) X (tgt := 225) dL_law_220 (by decide) ((bI_n0 _).mpr rfl) ?_
                      refine j_iinc (pc := 225) X (v := (nI (t + 1))) (lv' := [(4, .int (nI (t + 1))), (0, .ref b0), (1, .ref c), (3, .int (nI bl)), (5, .int y)]) dL_law_225 (q := 3) rfl (nI_add _ _) (by decide) rfl ?_
                      refine j_goto (pc := 228) X (tgt := 86) dL_law_228 (by decide) ?_
                      refine j_lv X (lv' := [(0, .ref b0), (1, .ref c), (3, .int (nI bl)), (4, .int (nI (t + 1)))]) [1, 2, 3, 0] rfl ?_
                      exact ih_86 (t + 1) s s3 u9 (by omega) hI hu9 hw3 hM hP (by omega)
                  · skip
                    refine j_aload_n (pc := 192) X dL_law_192 rfl (q := 1) rfl ?_
                    refine j_iload (pc := 193) X dL_law_193 (q := 4) rfl ?_
                    refine j_bipush (pc := 195) X (v := (nI 7)) dL_law_195 (by decide +kernel) ?_
                    refine j_ishr (pc := 197) X (v := (y >>> ((nI 7) &&& 31))) dL_law_197 rfl ?_
                    refine j_cSy (pc := 198) X (As := [.ref c, .int (y >>> ((nI 7) &&& 31))]) (c_L_isForetold l D tA (c, a, b, f, h, x, d) s s0 s3 v false bl (y >>> ((nI 7) &&& 31)) hI (by omega) hv hw3) cd_L_isForetold wm_L_107 rfl (fun _ => cu_fst) ⟨Nat.le_of_ble_eq_true rfl, Nat.le_of_ble_eq_true rfl⟩ hR rfl (Nat.le_of_ble_eq_true rfl) dL_law_198 (fun u hu => ?_)
                    refine j_if_eq_f (pc := 201) X (tgt := 223) dL_law_201 (by decide) (fun z9 => absurd ((bI_0 _).mp z9) (by decide)) ?_
                    refine j_iload (pc := 204) X dL_law_204 (q := 3) rfl ?_
                    refine j_iconst (pc := 206) X (v := (nI 4)) dL_law_206 (by decide +kernel) ?_
                    refine j_irem (pc := 207) X (v := (nI (t % 4))) dL_law_207 (nI_ne0 (by omega) (by omega)) (pk_rem (by omega) (by omega) (by omega)) ?_
                    refine j_if_ne (pc := 208) X (tgt := 225) (P := ¬ (t % 4) = 0) dL_law_208 (by decide) (not_congr (nC_eq0 (by omega))) (fun h208 => ?_) (fun h208 => ?_)
                    · skip
                      refine j_iinc (pc := 225) X (v := (nI (t + 1))) (lv' := [(4, .int (nI (t + 1))), (0, .ref b0), (1, .ref c), (3, .int (nI bl)), (5, .int y)]) dL_law_225 (q := 3) rfl (nI_add _ _) (by decide) rfl ?_
                      refine j_goto (pc := 228) X (tgt := 86) dL_law_228 (by decide) ?_
                      refine j_lv X (lv' := [(0, .ref b0), (1, .ref c), (3, .int (nI bl)), (4, .int (nI (t + 1)))]) [1, 2, 3, 0] rfl ?_
                      exact ih_86 (t + 1) s u.1 u.2 (by omega) hI hu.2 hu.1 hM hP (by omega)
                    · skip
                      refine j_aload_n (pc := 211) X dL_law_211 rfl (q := 1) rfl ?_
                      refine j_iload (pc := 212) X dL_law_212 (q := 4) rfl ?_
                      refine j_bipush (pc := 214) X (v := (nI 9)) dL_law_214 (by decide +kernel) ?_
                      refine j_ishr (pc := 216) X (v := (y >>> ((nI 9) &&& 31))) dL_law_216 rfl ?_
                      refine j_cSy (pc := 217) X (As := [.ref c, .int (y >>> ((nI 9) &&& 31))]) (c_L_isFound l D tA (c, a, b, f, h, x, d) s s0 u.1 u.2 false bl (y >>> ((nI 9) &&& 31)) hI (by omega) hu.2) cd_L_isFound wm_L_110 rfl (fun _ => cu_fst) ⟨Nat.le_of_ble_eq_true rfl, Nat.le_of_ble_eq_true rfl⟩ hR rfl (Nat.le_of_ble_eq_true rfl) dL_law_217 (fun u9 hu9 => ?_)
                      refine j_if_ne_t (pc := 220) X (tgt := 225) dL_law_220 (by decide) ((bI_n0 _).mpr rfl) ?_
                      refine j_iinc (pc := 225) X (v := (nI (t + 1))) (lv' := [(4, .int (nI (t + 1))), (0, .ref b0), (1, .ref c), (3, .int (nI bl)), (5, .int y)]) dL_law_225 (q := 3) rfl (nI_add _ _) (by decide) rfl ?_
                      refine j_goto (pc := 228) X (tgt := 86) dL_law_228 (by decide) ?_
                      refine j_lv X (lv' := [(0, .ref b0), (1, .ref c), (3, .int (nI bl)), (4, .int (nI (t + 1)))]) [1, 2, 3, 0] rfl ?_
                      exact ih_86 (t + 1) s u.1 u9 (by omega) hI hu9 hu.1 hM hP (by omega)
                · skip
                  refine j_aload_n (pc := 176) X dL_law_176 rfl (q := 1) rfl ?_
                  refine j_iload_n (pc := 177) X dL_law_177 rfl (q := 2) rfl ?_
                  refine j_cS (pc := 178) X (As := [.ref c, .int (nI bl)]) (c_L_isSound l D tA (c, a, b, f, h, x, d) s s0 s3 v false bl hI) cd_L_isSound wm_L_103 rfl rfl ⟨Nat.le_of_ble_eq_true rfl, Nat.le_of_ble_eq_true rfl⟩ hR rfl (Nat.le_of_ble_eq_true rfl) dL_law_178 ?_
                  refine j_if_eq_f (pc := 181) X (tgt := 223) dL_law_181 (by decide) (fun z9 => absurd ((bI_0 _).mp z9) (by decide)) ?_
                  refine j_iload (pc := 184) X dL_law_184 (q := 3) rfl ?_
                  refine j_iconst (pc := 186) X (v := (nI 4)) dL_law_186 (by decide +kernel) ?_
                  refine j_irem (pc := 187) X (v := (nI (t % 4))) dL_law_187 (nI_ne0 (by omega) (by omega)) (pk_rem (by omega) (by omega) (by omega)) ?_
                  refine j_iconst (pc := 188) X (v := (nI 2)) dL_law_188 (by decide +kernel) ?_
                  refine j_icmp_ne (pc := 189) X (tgt := 204) (P := ¬ (t % 4) = 2) dL_law_189 (by decide) (not_congr (nI_eq (by omega) (by omega))) (fun h189 => ?_) (fun h189 => ?_)
                  · skip
                    refine j_iload (pc := 204) X dL_law_204 (q := 3) rfl ?_
                    refine j_iconst (pc := 206) X (v := (nI 4)) dL_law_206 (by decide +kernel) ?_
                    refine j_irem (pc := 207) X (v := (nI (t % 4))) dL_law_207 (nI_ne0 (by omega) (by omega)) (pk_rem (by omega) (by omega) (by omega)) ?_
                    refine j_if_ne (pc := 208) X (tgt := 225) (P := ¬ (t % 4) = 0) dL_law_208 (by decide) (not_congr (nC_eq0 (by omega))) (fun h208 => ?_) (fun h208 => ?_)
                    · skip
                      refine j_iinc (pc := 225) X (v := (nI (t + 1))) (lv' := [(4, .int (nI (t + 1))), (0, .ref b0), (1, .ref c), (3, .int (nI bl)), (5, .int y)]) dL_law_225 (q := 3) rfl (nI_add _ _) (by decide) rfl ?_
                      refine j_goto (pc := 228) X (tgt := 86) dL_law_228 (by decide) ?_
                      refine j_lv X (lv' := [(0, .ref b0), (1, .ref c), (3, .int (nI bl)), (4, .int (nI (t + 1)))]) [1, 2, 3, 0] rfl ?_
                      exact ih_86 (t + 1) s s3 v (by omega) hI hv hw3 hM hP (by omega)
                    · skip
                      refine j_aload_n (pc := 211) X dL_law_211 rfl (q := 1) rfl ?_
                      refine j_iload (pc := 212) X dL_law_212 (q := 4) rfl ?_
                      refine j_bipush (pc := 214) X (v := (nI 9)) dL_law_214 (by decide +kernel) ?_
                      refine j_ishr (pc := 216) X (v := (y >>> ((nI 9) &&& 31))) dL_law_216 rfl ?_
                      refine j_cSy (pc := 217) X (As := [.ref c, .int (y >>> ((nI 9) &&& 31))]) (c_L_isFound l D tA (c, a, b, f, h, x, d) s s0 s3 v false bl (y >>> ((nI 9) &&& 31)) hI (by omega) hv) cd_L_isFound wm_L_110 rfl (fun _ => cu_fst) ⟨Nat.le_of_ble_eq_true rfl, Nat.le_of_ble_eq_true rfl⟩ hR rfl (Nat.le_of_ble_eq_true rfl) dL_law_217 (fun u9 hu9 => ?_)
                      refine j_if_ne_t (pc := 220) X (tgt := 225) dL_law_220 (by decide) ((bI_n0 _).mpr rfl) ?_
                      refine j_iinc (pc := 225) X (v := (nI (t + 1))) (lv' := [(4, .int (nI (t + 1))), (0, .ref b0), (1, .ref c), (3, .int (nI bl)), (5, .int y)]) dL_law_225 (q := 3) rfl (nI_add _ _) (by decide) rfl ?_
                      refine j_goto (pc := 228) X (tgt := 86) dL_law_228 (by decide) ?_
                      refine j_lv X (lv' := [(0, .ref b0), (1, .ref c), (3, .int (nI bl)), (4, .int (nI (t + 1)))]) [1, 2, 3, 0] rfl ?_
                      exact ih_86 (t + 1) s s3 u9 (by omega) hI hu9 hw3 hM hP (by omega)
                  · skip
                    refine j_aload_n (pc := 192) X dL_law_192 rfl (q := 1) rfl ?_
                    refine j_iload (pc := 193) X dL_law_193 (q := 4) rfl ?_
                    refine j_bipush (pc := 195) X (v := (nI 7)) dL_law_195 (by decide +kernel) ?_
                    refine j_ishr (pc := 197) X (v := (y >>> ((nI 7) &&& 31))) dL_law_197 rfl ?_
                    refine j_cSy (pc := 198) X (As := [.ref c, .int (y >>> ((nI 7) &&& 31))]) (c_L_isForetold l D tA (c, a, b, f, h, x, d) s s0 s3 v false bl (y >>> ((nI 7) &&& 31)) hI (by omega) hv hw3) cd_L_isForetold wm_L_107 rfl (fun _ => cu_fst) ⟨Nat.le_of_ble_eq_true rfl, Nat.le_of_ble_eq_true rfl⟩ hR rfl (Nat.le_of_ble_eq_true rfl) dL_law_198 (fun u hu => ?_)
                    refine j_if_eq_f (pc := 201) X (tgt := 223) dL_law_201 (by decide) (fun z9 => absurd ((bI_0 _).mp z9) (by decide)) ?_
                    refine j_iload (pc := 204) X dL_law_204 (q := 3) rfl ?_
                    refine j_iconst (pc := 206) X (v := (nI 4)) dL_law_206 (by decide +kernel) ?_
                    refine j_irem (pc := 207) X (v := (nI (t % 4))) dL_law_207 (nI_ne0 (by omega) (by omega)) (pk_rem (by omega) (by omega) (by omega)) ?_
                    refine j_if_ne (pc := 208) X (tgt := 225) (P := ¬ (t % 4) = 0) dL_law_208 (by decide) (not_congr (nC_eq0 (by omega))) (fun h208 => ?_) (fun h208 => ?_)
                    · skip
                      refine j_iinc (pc := 225) X (v := (nI (t + 1))) (lv' := [(4, .int (nI (t + 1))), (0, .ref b0), (1, .ref c), (3, .int (nI bl)), (5, .int y)]) dL_law_225 (q := 3) rfl (nI_add _ _) (by decide) rfl ?_
                      refine j_goto (pc := 228) X (tgt := 86) dL_law_228 (by decide) ?_
                      refine j_lv X (lv' := [(0, .ref b0), (1, .ref c), (3, .int (nI bl)), (4, .int (nI (t + 1)))]) [1, 2, 3, 0] rfl ?_
                      exact ih_86 (t + 1) s u.1 u.2 (by omega) hI hu.2 hu.1 hM hP (by omega)
                    · skip
                      refine j_aload_n (pc := 211) X dL_law_211 rfl (q := 1) rfl ?_
                      refine j_iload (pc := 212) X dL_law_212 (q := 4) rfl ?_
                      refine j_bipush (pc := 214) X (v := (nI 9)) dL_law_214 (by decide +kernel) ?_
                      refine j_ishr (pc := 216) X (v := (y >>> ((nI 9) &&& 31))) dL_law_216 rfl ?_
                      refine j_cSy (pc := 217) X (As := [.ref c, .int (y >>> ((nI 9) &&& 31))]) (c_L_isFound l D tA (c, a, b, f, h, x, d) s s0 u.1 u.2 false bl (y >>> ((nI 9) &&& 31)) hI (by omega) hu.2) cd_L_isFound wm_L_110 rfl (fun _ => cu_fst) ⟨Nat.le_of_ble_eq_true rfl, Nat.le_of_ble_eq_true rfl⟩ hR rfl (Nat.le_of_ble_eq_true rfl) dL_law_217 (fun u9 hu9 => ?_)
                      refine j_if_ne_t (pc := 220) X (tgt := 225) dL_law_220 (by decide) ((bI_n0 _).mpr rfl) ?_
                      refine j_iinc (pc := 225) X (v := (nI (t + 1))) (lv' := [(4, .int (nI (t + 1))), (0, .ref b0), (1, .ref c), (3, .int (nI bl)), (5, .int y)]) dL_law_225 (q := 3) rfl (nI_add _ _) (by decide) rfl ?_
                      refine j_goto (pc := 228) X (tgt := 86) dL_law_228 (by decide) ?_
                      refine j_lv X (lv' := [(0, .ref b0), (1, .ref c), (3, .int (nI bl)), (4, .int (nI (t + 1)))]) [1, 2, 3, 0] rfl ?_
                      exact ih_86 (t + 1) s u.1 u9 (by omega) hI hu9 hu.1 hM hP (by omega)
              refine j_istore (pc := 101) X (lv' := [(5, .int y), (0, .ref b0), (1, .ref c), (3, .int (nI bl)), (4, .int (nI t))]) dL_law_101 (by decide) rfl ?_
              refine j_aload_n (pc := 103) X dL_law_103 rfl (q := 2) rfl ?_
              refine j_cS (pc := 104) X (As := [.ref c]) (c_L_all l D tA (c, a, b, f, h, x, d) s s0 s3 v false hI.1.1) cd_L_all wm_L_43 rfl rfl ⟨Nat.le_of_ble_eq_true rfl, Nat.le_of_ble_eq_true rfl⟩ hR rfl (Nat.le_of_ble_eq_true rfl) dL_law_104 ?_
              refine j_lstore (pc := 107) X (lv' := [(6, .long (hAll s)), (5, .int y), (0, .ref b0), (1, .ref c), (3, .int (nI bl)), (4, .int (nI t))]) dL_law_107 (by decide) rfl ?_
              refine j_aload_n (pc := 109) X dL_law_109 rfl (q := 3) rfl ?_
              refine j_iload (pc := 110) X dL_law_110 (q := 1) rfl ?_
              refine j_cSy (pc := 112) X (As := [.ref c, .int y]) (c_L_acts l D tA (c, a, b, f, h, x, d) s s0 s3 v false bl y hI (by omega) (by omega) hv) cd_L_acts wm_L_99 rfl (fun _ => cu_fst) ⟨Nat.le_of_ble_eq_true rfl, Nat.le_of_ble_eq_true rfl⟩ hR rfl (Nat.le_of_ble_eq_true rfl) dL_law_112 (fun u hu => ?_)
              rcases Decidable.em (u.1.toInt < 0) with hs115 | hs115
              · skip
                have hn2 : u.2 = none := hu.elim And.left (fun ⟨s9, _, h9, _⟩ => absurd hs115 (by omega))
                refine j_ws (w2 := (cuW tA (c, a, b, f, h, x, d) s s0 s3 v false)) (by rw [hn2]; rfl) ?_
                refine j_istore (pc := 115) X (lv' := [(8, .int u.1), (6, .long (hAll s)), (5, .int y), (0, .ref b0), (1, .ref c), (3, .int (nI bl)), (4, .int (nI t))]) dL_law_115 (by decide) rfl ?_
                refine j_iload (pc := 117) X dL_law_117 (q := 0) rfl ?_
                refine j_if_ge_f (pc := 119) X (tgt := 134) dL_law_119 (by decide) (fun z9 => absurd ((iC_ge0 _).mp z9) (by omega)) ?_
                refine j_aload_n (pc := 122) X dL_law_122 rfl (q := 4) rfl ?_
                refine j_cS (pc := 123) X (As := [.ref c]) (c_L_all l D tA (c, a, b, f, h, x, d) s s0 s3 v false hI.1.1) cd_L_all wm_L_43 rfl rfl ⟨Nat.le_of_ble_eq_true rfl, Nat.le_of_ble_eq_true rfl⟩ hR rfl (Nat.le_of_ble_eq_true rfl) dL_law_123 ?_
                refine j_lload (pc := 126) X dL_law_126 (q := 1) rfl ?_
                refine j_lcmp (pc := 128) X dL_law_128 ?_
                refine j_if_eq_t (pc := 129) X (tgt := 134) dL_law_129 (by decide) ((lg_cmp_eq _ _).mpr rfl) ?_
                refine j_iload (pc := 134) X dL_law_134 (q := 0) rfl ?_
                refine j_if_lt_t (pc := 136) X (tgt := 168) dL_law_136 (by decide) ((iC_lt0 _).mpr (by omega)) ?_
                refine j_lv X (lv' := [(0, .ref b0), (1, .ref c), (3, .int (nI bl)), (4, .int (nI t)), (5, .int y)]) [3, 4, 5, 6, 2] rfl ?_
                exact K_168 s v hI hv hM hP
              · skip
                obtain ⟨hq, hq2⟩ | ⟨s1, hs1, hge, hI1, hM1, hP1⟩ := hu
                · exact absurd hq2 hs115
                refine j_ws (w2 := (cuW tA (c, a, b, f, h, x, d) s1 s0 s3 (hPush v s) false)) (by rw [hs1]; rfl) ?_
                refine j_istore (pc := 115) X (lv' := [(8, .int u.1), (6, .long (hAll s)), (5, .int y), (0, .ref b0), (1, .ref c), (3, .int (nI bl)), (4, .int (nI t))]) dL_law_115 (by decide) rfl ?_
                refine j_iload (pc := 117) X dL_law_117 (q := 0) rfl ?_
                refine j_if_ge_t (pc := 119) X (tgt := 134) dL_law_119 (by decide) ((iC_ge0 _).mpr (by omega)) ?_
                refine j_iload (pc := 134) X dL_law_134 (q := 0) rfl ?_
                refine j_if_lt_f (pc := 136) X (tgt := 168) dL_law_136 (by decide) (fun z9 => absurd ((iC_lt0 _).mp z9) (by omega)) ?_
                refine j_iload (pc := 139) X dL_law_139 (q := 2) rfl ?_
                refine j_bipush (pc := 141) X (v := (nI 28)) dL_law_141 (by decide +kernel) ?_
                refine j_ishr (pc := 143) X (v := (y >>> ((nI 28) &&& 31))) dL_law_143 rfl ?_
                refine j_iconst (pc := 144) X (v := (nI 3)) dL_law_144 (by decide +kernel) ?_
                refine j_iand (pc := 145) X (v := ((y >>> ((nI 28) &&& 31)) &&& (nI 3))) dL_law_145 rfl ?_
                refine j_if_ne (pc := 146) X (tgt := 168) (P := ¬ ((y >>> ((nI 28) &&& 31)) &&& (nI 3)) = 0) dL_law_146 (by decide) Iff.rfl (fun h146 => ?_) (fun h146 => ?_)
                · skip
                  refine j_lv X (lv' := [(0, .ref b0), (1, .ref c), (3, .int (nI bl)), (4, .int (nI t)), (5, .int y)]) [3, 4, 5, 6, 2] rfl ?_
                  exact K_168 s1 (hPush v s) hI1 (hv.push hI.1.1) (by omega) (by omega)
                · skip
                  refine j_aload_n (pc := 149) X dL_law_149 rfl (q := 4) rfl ?_
                  refine q_undo (pc := 150) X hI1.1.1 (hv.push hI.1.1) (r := (nI (min (v.2.2 + 1) 4 - 1))) un_r wm_L_58 ⟨Nat.le_of_ble_eq_true rfl, Nat.le_of_ble_eq_true rfl⟩ hR (Nat.le_of_ble_eq_true rfl) dL_law_150 ?_
                  refine j_ws (w2 := (cuW tA (c, a, b, f, h, x, d) s s0 s3 (hPop (hPush v s)) false)) (by rw [un_s hv.1, un_v]) ?_
                  refine j_if_lt_f (pc := 153) X (tgt := 166) dL_law_153 (by decide) (nI_pos (by omega)) ?_
                  refine j_aload_n (pc := 156) X dL_law_156 rfl (q := 4) rfl ?_
                  refine j_cS (pc := 157) X (As := [.ref c]) (c_L_all l D tA (c, a, b, f, h, x, d) s s0 s3 (hPop (hPush v s)) false hI.1.1) cd_L_all wm_L_43 rfl rfl ⟨Nat.le_of_ble_eq_true rfl, Nat.le_of_ble_eq_true rfl⟩ hR rfl (Nat.le_of_ble_eq_true rfl) dL_law_157 ?_
                  refine j_lload (pc := 160) X dL_law_160 (q := 1) rfl ?_
                  refine j_lcmp (pc := 162) X dL_law_162 ?_
                  refine j_if_eq_t (pc := 163) X (tgt := 168) dL_law_163 (by decide) ((lg_cmp_eq _ _).mpr rfl) ?_
                  refine j_lv X (lv' := [(0, .ref b0), (1, .ref c), (3, .int (nI bl)), (4, .int (nI t)), (5, .int y)]) [3, 4, 5, 6, 2] rfl ?_
                  exact K_168 s (hPop (hPush v s)) hI (((hv.push hI.1.1)).pop) hM hP
        refine j_lv X (lv' := [(0, .ref b0), (1, .ref c), (3, .int (nI bl)), (4, .int (nI 0))]) [1, 2, 4, 0] rfl ?_
        exact L_86 _ 0 s s0 v (Nat.zero_le _) hI hv Wf_0 (by omega) (by omega) (Nat.lt_succ_self _)
      · skip
        refine j_iload_n (pc := 31) X dL_law_31 rfl (q := 2) rfl ?_
        refine j_iconst (pc := 32) X (v := (nI 3)) dL_law_32 (by decide +kernel) ?_
        refine j_iload (pc := 33) X dL_law_33 (q := 4) rfl ?_
        refine j_imul (pc := 35) X (v := (nI (3 * e))) dL_law_35 (pk_mul _ _) ?_
        refine j_ishr (pc := 36) X (v := (z >>> ((nI (3 * e)) &&& 31))) dL_law_36 rfl ?_
        refine j_bipush (pc := 37) X (v := (nI 13)) dL_law_37 (by decide +kernel) ?_
        refine j_c0 (pc := 39) X (As := [.int (z >>> ((nI (3 * e)) &&& 31)), .int (nI 13)]) (c_L_low l D tA (z >>> ((nI (3 * e)) &&& 31)) 13 (by omega) (by omega)) cd_L_low wm_L_49 rfl ⟨Nat.le_of_ble_eq_true rfl, Nat.le_of_ble_eq_true rfl⟩ hR rfl (Nat.le_of_ble_eq_true rfl) dL_law_39 ?_
        have hl39 := low_lt (v := (z >>> ((nI (3 * e)) &&& 31))) (n := 13) (by omega)
        generalize lowN (z >>> ((nI (3 * e)) &&& 31)) 13 = n1 at hl39 ⊢
        refine j_istore (pc := 42) X (lv' := [(5, .int (nI n1)), (0, .ref b0), (1, .ref c), (2, .int z), (3, .int (nI bl)), (4, .int (nI e))]) dL_law_42 (by decide) rfl ?_
        refine j_iload_n (pc := 44) X dL_law_44 rfl (q := 4) rfl ?_
        refine j_iload (pc := 45) X dL_law_45 (q := 0) rfl ?_
        refine j_iadd (pc := 47) X (v := (nI (bl + n1))) dL_law_47 (nI_add _ _) ?_
        refine j_istore_n (pc := 48) X (lv' := [(3, .int (nI (bl + n1))), (5, .int (nI n1)), (0, .ref b0), (1, .ref c), (2, .int z), (4, .int (nI e))]) dL_law_48 rfl (by decide) rfl ?_
        refine j_aload_n (pc := 49) X dL_law_49 rfl (q := 3) rfl ?_
        refine j_bipush (pc := 50) X (v := (nI 10)) dL_law_50 (by decide +kernel) ?_
        refine j_iload_n (pc := 52) X dL_law_52 rfl (q := 4) rfl ?_
        refine j_iconst (pc := 53) X (v := (nI 4)) dL_law_53 (by decide +kernel) ?_
        refine j_iconst (pc := 54) X (v := (nI 5)) dL_law_54 (by decide +kernel) ?_
        refine j_iload (pc := 55) X dL_law_55 (q := 5) rfl ?_
        refine j_imul (pc := 57) X (v := (nI (5 * e))) dL_law_57 (pk_mul _ _) ?_
        refine j_iadd (pc := 58) X (v := (nI (4 + (5 * e)))) dL_law_58 (nI_add _ _) ?_
        refine j_ishr (pc := 59) X (v := (z >>> ((nI (4 + (5 * e))) &&& 31))) dL_law_59 rfl ?_
        refine j_bipush (pc := 60) X (v := (nI 100)) dL_law_60 (by decide +kernel) ?_
        refine j_c0 (pc := 62) X (As := [.int (z >>> ((nI (4 + (5 * e))) &&& 31)), .int (nI 100)]) (c_L_low l D tA (z >>> ((nI (4 + (5 * e))) &&& 31)) 100 (by omega) (by omega)) cd_L_low wm_L_49 rfl ⟨Nat.le_of_ble_eq_true rfl, Nat.le_of_ble_eq_true rfl⟩ hR rfl (Nat.le_of_ble_eq_true rfl) dL_law_62 ?_
        have hl62 := low_lt (v := (z >>> ((nI (4 + (5 * e))) &&& 31))) (n := 100) (by omega)
        generalize lowN (z >>> ((nI (4 + (5 * e))) &&& 31)) 100 = w1 at hl62 ⊢
        refine j_iadd (pc := 65) X (v := (nI (10 + w1))) dL_law_65 (nI_add _ _) ?_
        refine j_iload (pc := 66) X dL_law_66 (q := 1) rfl ?_
        have hI2 := hI.mach (st := 10 + w1) (b := n1) (by omega) (by omega) (by omega)
        have hI3 := hI2.memb (show (sP s).1 < 8 by omega)
        refine q_addMachine (pc := 68) X hI.1.1 hv (r := (nI ((sM s).1))) (by rw [oAddMachine_t (s := s) (st := 10 + w1) (b := n1) (by omega) (by omega) (by omega)]) wm_L_96 ⟨Nat.le_of_ble_eq_true rfl, Nat.le_of_ble_eq_true rfl⟩ hR (Nat.le_of_ble_eq_true rfl) dL_law_68 ?_
        refine j_ws (w2 := (cuW tA (c, a, b, f, h, x, d) (pMach s (10 + w1) n1) s0 s0 (hPush v s) false)) (by rw [oAddMachine_t (s := s) (st := 10 + w1) (b := n1) (by omega) (by omega) (by omega)]; rfl) ?_
        refine j_pop (pc := 71) X dL_law_71 rfl ?_
        refine j_aload_n (pc := 72) X dL_law_72 rfl (q := 3) rfl ?_
        refine q_addMember (pc := 73) X hI2.1.1 (hv.push hI.1.1) (r := (nI ((sP (pMach s (10 + w1) n1)).1))) (by rw [oAddMember_t (s := pMach s (10 + w1) n1) (show (sP s).1 < 8 by omega)]) wm_L_73 ⟨Nat.le_of_ble_eq_true rfl, Nat.le_of_ble_eq_true rfl⟩ hR (Nat.le_of_ble_eq_true rfl) dL_law_73 ?_
        refine j_ws (w2 := (cuW tA (c, a, b, f, h, x, d) (uP (pMach s (10 + w1) n1) (tAdd 2 (sP (pMach s (10 + w1) n1)))) s0 s0 (hPush (hPush v s) (pMach s (10 + w1) n1)) false)) (by rw [oAddMember_t (s := pMach s (10 + w1) n1) (show (sP s).1 < 8 by omega)]; rfl) ?_
        refine j_pop (pc := 76) X dL_law_76 rfl ?_
        refine j_iinc (pc := 77) X (v := (nI (e + 1))) (lv' := [(4, .int (nI (e + 1))), (3, .int (nI (bl + n1))), (5, .int (nI n1)), (0, .ref b0), (1, .ref c), (2, .int z)]) dL_law_77 (q := 5) rfl (nI_add _ _) (by decide) rfl ?_
        refine j_goto (pc := 80) X (tgt := 19) dL_law_80 (by decide) ?_
        refine j_lv X (lv' := [(0, .ref b0), (1, .ref c), (2, .int z), (3, .int (nI (bl + n1))), (4, .int (nI (e + 1)))]) [3, 4, 5, 1, 0] rfl ?_
        exact ih_19 (e + 1) (bl + n1) (uP (pMach s (10 + w1) n1) (tAdd 2 (sP (pMach s (10 + w1) n1)))) (hPush (hPush v s) (pMach s (10 + w1) n1)) (by omega) hI3 ((hv.push hI.1.1).push hI2.1.1) (by show (sM s).1 + 1 = e + 1; omega) (by show (sP s).1 + 1 = e + 1; omega) (by omega)
  refine j_lv X (lv' := [(0, .ref b0), (1, .ref c), (2, .int z), (3, .int (nI 0)), (4, .int (nI 0))]) [4, 3, 2, 1, 0] rfl ?_
  exact L_19 _ 0 0 s0 v0 (Nat.zero_le _) Iv_0 HOk_0 rfl rfl (Nat.lt_succ_self _)
