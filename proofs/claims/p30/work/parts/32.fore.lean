/-! what is foretold comes true -/
theorem cd_L_isForetold : kCardS yL_isForetold cL_isForetold 9 (some .boolean) 2 := ⟨⟨wc_L_isForetold, wi_L, by decide +kernel, by decide +kernel, rfl⟩, wt_L_isForetold⟩
set_option maxHeartbeats 4000000 in
set_option maxRecDepth 100000 in
theorem c_L_isForetold (l : Launch) (D : va_G) (tA : Nat → ClassId) (g : Ad) (s sn s3 : Sg) (v : Hs) (kp : Bool) (bl : Nat) (y : Int32) (h : Iv bl s) (hM : 0 < (sM s).1) (hv : HOk v) (hw3 : Wf s3) : Ky l D tA yL_isForetold cL_isForetold 9 (some .boolean) 7 162 [.ref g.1, .int y] (cuW tA g s sn s3 v kp) (S := Sg × Hs) (fun u => Wf u.1 ∧ HOk u.2) (fun _ => some (.int (bI true))) (fun u => cuW tA g s sn u.1 u.2 kp) := by
  refine ky_bool (r := fun _ => true) rfl (Nat.le_of_ble_eq_true rfl) (fun G X E => ?_)
  show J l D G 0 0 (cuW tA g s sn s3 v kp) [(0, .ref g.1), (1, .int y)] 0 []
  have hw := h.1.1
  have hn := hw.n
  have K_210 : ∀ (s3 : Sg) (v : Hs), Wf s3 → HOk v → J l D G 0 0 (cuW tA g s sn s3 v kp) [(0, .ref g.1), (1, .int y), (2, .long (hAll s)), (4, .int (nI (sN s)))] 210 [] := by
    intro s3 v hw3 hv
    refine j_iload_n (pc := 210) X dL_isForetold_210 rfl (q := 1) rfl ?_
    refine j_iconst (pc := 211) X (v := (nI 5)) dL_isForetold_211 (by decide +kernel) ?_
    refine j_ishr (pc := 212) X (v := (y >>> ((nI 5) &&& 31))) dL_isForetold_212 rfl ?_
    refine j_aload_n (pc := 213) X dL_isForetold_213 rfl (q := 0) rfl ?_
    refine j_iconst (pc := 214) X (v := (nI 1)) dL_isForetold_214 (by decide +kernel) ?_
    refine q_count (pc := 215) X hw (r := (nI ((sM s).1))) (oC_1 _ _ _) wm_L_12 ⟨Nat.le_of_ble_eq_true rfl, Nat.le_of_ble_eq_true rfl⟩ ⟨Nat.zero_le _, Nat.zero_le _⟩ (Nat.le_of_ble_eq_true rfl) dL_isForetold_215 ?_
    refine j_c0 (pc := 218) X (As := [.int (y >>> ((nI 5) &&& 31)), .int (nI ((sM s).1))]) (c_L_low l D tA (y >>> ((nI 5) &&& 31)) ((sM s).1) hM (by omega)) cd_L_low wm_L_49 rfl ⟨Nat.le_of_ble_eq_true rfl, Nat.le_of_ble_eq_true rfl⟩ ⟨Nat.zero_le _, Nat.zero_le _⟩ rfl (Nat.le_of_ble_eq_true rfl) dL_isForetold_218 ?_
    have hl218 := low_lt (v := (y >>> ((nI 5) &&& 31))) (n := (sM s).1) hM
    generalize lowN (y >>> ((nI 5) &&& 31)) ((sM s).1) = m at hl218 ⊢
    refine j_istore (pc := 221) X (lv' := [(5, .int (nI m)), (0, .ref g.1), (1, .int y), (2, .long (hAll s)), (4, .int (nI (sN s)))]) dL_isForetold_221 (by decide) rfl ?_
    refine j_iconst (pc := 223) X (v := (nI 2)) dL_isForetold_223 (by decide +kernel) ?_
    refine j_iload_n (pc := 224) X dL_isForetold_224 rfl (q := 2) rfl ?_
    refine j_bipush (pc := 225) X (v := (nI 8)) dL_isForetold_225 (by decide +kernel) ?_
    refine j_ishr (pc := 227) X (v := (y >>> ((nI 8) &&& 31))) dL_isForetold_227 rfl ?_
    refine j_bipush (pc := 228) X (v := (nI 59)) dL_isForetold_228 (by decide +kernel) ?_
    refine j_c0 (pc := 230) X (As := [.int (y >>> ((nI 8) &&& 31)), .int (nI 59)]) (c_L_low l D tA (y >>> ((nI 8) &&& 31)) 59 (by omega) (by omega)) cd_L_low wm_L_49 rfl ⟨Nat.le_of_ble_eq_true rfl, Nat.le_of_ble_eq_true rfl⟩ ⟨Nat.zero_le _, Nat.zero_le _⟩ rfl (Nat.le_of_ble_eq_true rfl) dL_isForetold_230 ?_
    have hl230 := low_lt (v := (y >>> ((nI 8) &&& 31))) (n := 59) (by omega)
    generalize lowN (y >>> ((nI 8) &&& 31)) 59 = r at hl230 ⊢
    refine j_iadd (pc := 233) X (v := (nI (2 + r))) dL_isForetold_233 (nI_add _ _) ?_
    refine j_istore (pc := 234) X (lv' := [(6, .int (nI (2 + r))), (5, .int (nI m)), (0, .ref g.1), (1, .int y), (2, .long (hAll s)), (4, .int (nI (sN s)))]) dL_isForetold_234 (by decide) rfl ?_
    refine j_iload_n (pc := 236) X dL_isForetold_236 rfl (q := 3) rfl ?_
    refine j_bipush (pc := 237) X (v := (nI 14)) dL_isForetold_237 (by decide +kernel) ?_
    refine j_ishr (pc := 239) X (v := (y >>> ((nI 14) &&& 31))) dL_isForetold_239 rfl ?_
    refine j_bipush (pc := 240) X (v := (nI 15)) dL_isForetold_240 (by decide +kernel) ?_
    refine j_c0 (pc := 242) X (As := [.int (y >>> ((nI 14) &&& 31)), .int (nI 15)]) (c_L_low l D tA (y >>> ((nI 14) &&& 31)) 15 (by omega) (by omega)) cd_L_low wm_L_49 rfl ⟨Nat.le_of_ble_eq_true rfl, Nat.le_of_ble_eq_true rfl⟩ ⟨Nat.zero_le _, Nat.zero_le _⟩ rfl (Nat.le_of_ble_eq_true rfl) dL_isForetold_242 ?_
    have hl242 := low_lt (v := (y >>> ((nI 14) &&& 31))) (n := 15) (by omega)
    generalize lowN (y >>> ((nI 14) &&& 31)) 15 = a at hl242 ⊢
    refine j_istore (pc := 245) X (lv' := [(7, .int (nI a)), (6, .int (nI (2 + r))), (5, .int (nI m)), (0, .ref g.1), (1, .int y), (2, .long (hAll s)), (4, .int (nI (sN s)))]) dL_isForetold_245 (by decide) rfl ?_
    refine j_iload (pc := 247) X dL_isForetold_247 (q := 6) rfl ?_
    refine j_iload (pc := 249) X dL_isForetold_249 (q := 0) rfl ?_
    refine j_iadd (pc := 251) X (v := (nI ((sN s) + a))) dL_isForetold_251 (nI_add _ _) ?_
    refine j_sipush (pc := 252) X (v := (nI 199)) dL_isForetold_252 (by decide +kernel) ?_
    refine j_icmp_ge (pc := 255) X (tgt := 306) (P := 199 ≤ ((sN s) + a)) dL_isForetold_255 (by decide) (nI_leI (by omega) (by omega)) (fun h255 => ?_) (fun h255 => ?_)
    · skip
      refine j_aload_n (pc := 306) X dL_isForetold_306 rfl (q := 3) rfl ?_
      refine j_cS (pc := 307) X (As := [.ref g.1]) (c_L_all l D tA g s sn s3 v kp hw) cd_L_all wm_L_43 rfl rfl ⟨Nat.le_of_ble_eq_true rfl, Nat.le_of_ble_eq_true rfl⟩ ⟨Nat.zero_le _, Nat.zero_le _⟩ rfl (Nat.le_of_ble_eq_true rfl) dL_isForetold_307 ?_
      refine j_lload_n (pc := 310) X dL_isForetold_310 rfl (q := 5) rfl ?_
      refine j_lcmp (pc := 311) X dL_isForetold_311 ?_
      refine j_if_ne_f (pc := 312) X (tgt := 319) dL_isForetold_312 (by decide) (fun z9 => absurd ((not_congr (lg_cmp_eq _ _)).mp z9) (fun z => z rfl)) ?_
      refine j_iconst (pc := 315) X (v := (nI 1)) dL_isForetold_315 (by decide +kernel) ?_
      refine j_goto (pc := 316) X (tgt := 320) dL_isForetold_316 (by decide) ?_
      exact j_endIy (pc := 320) E dL_isForetold_320 (s3, v) (⟨hw3, hv⟩) (by decide +kernel) rfl
    · skip
      refine j_aload_n (pc := 258) X dL_isForetold_258 rfl (q := 3) rfl ?_
      refine j_iload (pc := 259) X dL_isForetold_259 (q := 2) rfl ?_
      refine j_iload (pc := 261) X dL_isForetold_261 (q := 1) rfl ?_
      refine j_iload (pc := 263) X dL_isForetold_263 (q := 6) rfl ?_
      refine j_iload (pc := 265) X dL_isForetold_265 (q := 0) rfl ?_
      refine j_iadd (pc := 267) X (v := (nI ((sN s) + a))) dL_isForetold_267 (nI_add _ _) ?_
      have hp := h.pas (a + 1) (by omega)
      have hc := pas_cnt hw (a + 1) (by omega)
      have wt := will_true h.1 (k := a) (by omega)
      have hm1 : m < (sM (pasN (a + 1) s).1).1 := by rw [hp.2.2.1]; exact hl218
      have hb1 := brn_lt hp.1.1.1 (m := m) (r := 2 + r) hm1
      refine q_willBear (pc := 268) X hw hw3 (r := (nI (brn (sM (clo 10 s (sN s + a))) m (2 + r)))) (by rw [oWill_t hw hl218 (by omega) (by omega) (by omega)]) wm_L_62 ⟨Nat.le_of_ble_eq_true rfl, Nat.le_of_ble_eq_true rfl⟩ ⟨Nat.zero_le _, Nat.zero_le _⟩ (Nat.le_of_ble_eq_true rfl) dL_isForetold_268 ?_
      refine j_ws (w2 := (cuW tA g s sn (clo 10 s (sN s + a)) v kp)) (by rw [oWill_t hw hl218 (by omega) (by omega) (by omega)]; rfl) ?_
      refine j_istore (pc := 271) X (lv' := [(8, .int (nI (brn (sM (clo 10 s (sN s + a))) m (2 + r)))), (7, .int (nI a)), (6, .int (nI (2 + r))), (5, .int (nI m)), (0, .ref g.1), (1, .int y), (2, .long (hAll s)), (4, .int (nI (sN s)))]) dL_isForetold_271 (by decide) rfl ?_
      refine j_aload_n (pc := 273) X dL_isForetold_273 rfl (q := 4) rfl ?_
      refine j_iload (pc := 274) X dL_isForetold_274 (q := 1) rfl ?_
      refine j_iconst (pc := 276) X (v := (nI 1)) dL_isForetold_276 (by decide +kernel) ?_
      refine j_iadd (pc := 277) X (v := (nI (a + 1))) dL_isForetold_277 (nI_add _ _) ?_
      refine q_pass (pc := 278) X hw hv (r := (nI ((pasN (a + 1) s).2))) (by rw [oPass_t (s := s) (k := a + 1) (by omega) (by omega) (by omega)]) wm_L_55 ⟨Nat.le_of_ble_eq_true rfl, Nat.le_of_ble_eq_true rfl⟩ ⟨Nat.zero_le _, Nat.zero_le _⟩ (Nat.le_of_ble_eq_true rfl) dL_isForetold_278 ?_
      refine j_ws (w2 := (cuW tA g ((pasN (a + 1) s).1) sn (clo 10 s (sN s + a)) (hPush v s) kp)) (by rw [oPass_t (s := s) (k := a + 1) (by omega) (by omega) (by omega)]; rfl) ?_
      refine j_if_lt_f (pc := 281) X (tgt := 304) dL_isForetold_281 (by decide) (nI_pos (by omega)) ?_
      refine j_aload_n (pc := 284) X dL_isForetold_284 rfl (q := 4) rfl ?_
      refine j_iload (pc := 285) X dL_isForetold_285 (q := 3) rfl ?_
      refine j_iload (pc := 287) X dL_isForetold_287 (q := 2) rfl ?_
      refine q_bears (pc := 289) X hp.1.1.1 (r := (nI (brn (sM ((pasN (a + 1) s).1)) m (2 + r)))) (oBr_t hp.1.1.1 hm1 (by omega)) wm_L_34 ⟨Nat.le_of_ble_eq_true rfl, Nat.le_of_ble_eq_true rfl⟩ ⟨Nat.zero_le _, Nat.zero_le _⟩ (Nat.le_of_ble_eq_true rfl) dL_isForetold_289 ?_
      refine j_iload (pc := 292) X dL_isForetold_292 (q := 0) rfl ?_
      refine j_icmp_ne_f (pc := 294) X (tgt := 304) dL_isForetold_294 (by decide) (fun z => z (congrArg nI (by rw [wt]))) ?_
      refine j_aload_n (pc := 297) X dL_isForetold_297 rfl (q := 4) rfl ?_
      refine q_undo (pc := 298) X hp.1.1.1 (hv.push hw) (r := (nI (min (v.2.2 + 1) 4 - 1))) un_r wm_L_58 ⟨Nat.le_of_ble_eq_true rfl, Nat.le_of_ble_eq_true rfl⟩ ⟨Nat.zero_le _, Nat.zero_le _⟩ (Nat.le_of_ble_eq_true rfl) dL_isForetold_298 ?_
      refine j_ws (w2 := (cuW tA g s sn (clo 10 s (sN s + a)) (hPop (hPush v s)) kp)) (by rw [un_s hv.1, un_v]) ?_
      refine j_if_ge_t (pc := 301) X (tgt := 306) dL_isForetold_301 (by decide) ((nC_ge0 (by omega)).mpr trivial) ?_
      refine j_aload_n (pc := 306) X dL_isForetold_306 rfl (q := 4) rfl ?_
      refine j_cS (pc := 307) X (As := [.ref g.1]) (c_L_all l D tA g s sn (clo 10 s (sN s + a)) (hPop (hPush v s)) kp hw) cd_L_all wm_L_43 rfl rfl ⟨Nat.le_of_ble_eq_true rfl, Nat.le_of_ble_eq_true rfl⟩ ⟨Nat.zero_le _, Nat.zero_le _⟩ rfl (Nat.le_of_ble_eq_true rfl) dL_isForetold_307 ?_
      refine j_lload_n (pc := 310) X dL_isForetold_310 rfl (q := 6) rfl ?_
      refine j_lcmp (pc := 311) X dL_isForetold_311 ?_
      refine j_if_ne_f (pc := 312) X (tgt := 319) dL_isForetold_312 (by decide) (fun z9 => absurd ((not_congr (lg_cmp_eq _ _)).mp z9) (fun z => z rfl)) ?_
      refine j_iconst (pc := 315) X (v := (nI 1)) dL_isForetold_315 (by decide +kernel) ?_
      refine j_goto (pc := 316) X (tgt := 320) dL_isForetold_316 (by decide) ?_
      exact j_endIy (pc := 320) E dL_isForetold_320 (clo 10 s (sN s + a), hPop (hPush v s)) (⟨(hw.xclo 10 (sN s + a)), ((hv.push hw)).pop⟩) (by decide +kernel) rfl
  refine j_aload_n (pc := 0) X dL_isForetold_0 rfl (q := 0) rfl ?_
  refine j_cS (pc := 1) X (As := [.ref g.1]) (c_L_all l D tA g s sn s3 v kp hw) cd_L_all wm_L_43 rfl rfl ⟨Nat.le_of_ble_eq_true rfl, Nat.le_of_ble_eq_true rfl⟩ ⟨Nat.zero_le _, Nat.zero_le _⟩ rfl (Nat.le_of_ble_eq_true rfl) dL_isForetold_1 ?_
  refine j_lstore_n (pc := 4) X (lv' := [(2, .long (hAll s)), (0, .ref g.1), (1, .int y)]) dL_isForetold_4 rfl (by decide) rfl ?_
  refine j_aload_n (pc := 5) X dL_isForetold_5 rfl (q := 1) rfl ?_
  refine j_iconst (pc := 6) X (v := (nI 0)) dL_isForetold_6 (by decide +kernel) ?_
  refine q_count (pc := 7) X hw (r := (nI (sN s))) (oC_0 _ _ _) wm_L_12 ⟨Nat.le_of_ble_eq_true rfl, Nat.le_of_ble_eq_true rfl⟩ ⟨Nat.zero_le _, Nat.zero_le _⟩ (Nat.le_of_ble_eq_true rfl) dL_isForetold_7 ?_
  refine j_istore (pc := 10) X (lv' := [(4, .int (nI (sN s))), (2, .long (hAll s)), (0, .ref g.1), (1, .int y)]) dL_isForetold_10 (by decide) rfl ?_
  refine j_aload_n (pc := 12) X dL_isForetold_12 rfl (q := 2) rfl ?_
  refine j_iconst (pc := 13) X (v := (nI 3)) dL_isForetold_13 (by decide +kernel) ?_
  refine q_count (pc := 14) X hw (r := (nI ((sB s).1))) (oC_3 _ _ _) wm_L_12 ⟨Nat.le_of_ble_eq_true rfl, Nat.le_of_ble_eq_true rfl⟩ ⟨Nat.zero_le _, Nat.zero_le _⟩ (Nat.le_of_ble_eq_true rfl) dL_isForetold_14 ?_
  refine j_if_le (pc := 17) X (tgt := 210) (P := ((sB s).1) = 0) dL_isForetold_17 (by decide) (nC_le0 (by omega)) (fun h17 => ?_) (fun h17 => ?_)
  · skip
    refine j_lv X (lv' := [(0, .ref g.1), (1, .int y), (2, .long (hAll s)), (4, .int (nI (sN s)))]) [2, 3, 1, 0] rfl ?_
    exact K_210 s3 v hw3 hv
  · skip
    refine j_iload_n (pc := 20) X dL_isForetold_20 rfl (q := 3) rfl ?_
    refine j_aload_n (pc := 21) X dL_isForetold_21 rfl (q := 2) rfl ?_
    refine j_iconst (pc := 22) X (v := (nI 3)) dL_isForetold_22 (by decide +kernel) ?_
    refine q_count (pc := 23) X hw (r := (nI ((sB s).1))) (oC_3 _ _ _) wm_L_12 ⟨Nat.le_of_ble_eq_true rfl, Nat.le_of_ble_eq_true rfl⟩ ⟨Nat.zero_le _, Nat.zero_le _⟩ (Nat.le_of_ble_eq_true rfl) dL_isForetold_23 ?_
    refine j_c0 (pc := 26) X (As := [.int y, .int (nI ((sB s).1))]) (c_L_low l D tA y ((sB s).1) (by omega) (by omega)) cd_L_low wm_L_49 rfl ⟨Nat.le_of_ble_eq_true rfl, Nat.le_of_ble_eq_true rfl⟩ ⟨Nat.zero_le _, Nat.zero_le _⟩ rfl (Nat.le_of_ble_eq_true rfl) dL_isForetold_26 ?_
    have hl26 := low_lt (v := y) (n := (sB s).1) (by omega)
    generalize lowN y ((sB s).1) = b at hl26 ⊢
    refine j_istore (pc := 29) X (lv' := [(5, .int (nI b)), (4, .int (nI (sN s))), (2, .long (hAll s)), (0, .ref g.1), (1, .int y)]) dL_isForetold_29 (by decide) rfl ?_
    rcases Decidable.em (tGet 8 (sB s) b 5 = 0) with hs31 | hs31
    · skip
      have hbb := hw.b hl26
      have hfl := fat_le (clo 10 s (tGet 8 (sB s) b 2)) b
      refine j_aload_n (pc := 31) X dL_isForetold_31 rfl (q := 3) rfl ?_
      refine j_iload (pc := 32) X dL_isForetold_32 (q := 0) rfl ?_
      refine q_fate (pc := 34) X hw hw3 (r := (nI (fatN (clo 10 s (tGet 8 (sB s) b 2)) b))) (by rw [oFate_t hw hl26 hs31]) wm_L_52 ⟨Nat.le_of_ble_eq_true rfl, Nat.le_of_ble_eq_true rfl⟩ ⟨Nat.zero_le _, Nat.zero_le _⟩ (Nat.le_of_ble_eq_true rfl) dL_isForetold_34 ?_
      refine j_ws (w2 := (cuW tA g s sn (clo 10 s (tGet 8 (sB s) b 2)) v kp)) (by rw [oFate_t hw hl26 hs31]; rfl) ?_
      refine j_istore (pc := 37) X (lv' := [(6, .int (nI (fatN (clo 10 s (tGet 8 (sB s) b 2)) b))), (5, .int (nI b)), (4, .int (nI (sN s))), (2, .long (hAll s)), (0, .ref g.1), (1, .int y)]) dL_isForetold_37 (by decide) rfl ?_
      refine j_aload_n (pc := 39) X dL_isForetold_39 rfl (q := 4) rfl ?_
      refine j_iload (pc := 40) X dL_isForetold_40 (q := 1) rfl ?_
      refine j_iconst (pc := 42) X (v := (nI 2)) dL_isForetold_42 (by decide +kernel) ?_
      refine q_booking (pc := 43) X hw (r := (nI (tGet 8 (sB s) b 2))) (oB_c hw (by omega) (by decide)) wm_L_25 ⟨Nat.le_of_ble_eq_true rfl, Nat.le_of_ble_eq_true rfl⟩ ⟨Nat.zero_le _, Nat.zero_le _⟩ (Nat.le_of_ble_eq_true rfl) dL_isForetold_43 ?_
      refine j_istore (pc := 46) X (lv' := [(7, .int (nI (tGet 8 (sB s) b 2))), (6, .int (nI (fatN (clo 10 s (tGet 8 (sB s) b 2)) b))), (5, .int (nI b)), (4, .int (nI (sN s))), (2, .long (hAll s)), (0, .ref g.1), (1, .int y)]) dL_isForetold_46 (by decide) rfl ?_
      refine j_aload_n (pc := 48) X dL_isForetold_48 rfl (q := 5) rfl ?_
      refine j_cS (pc := 49) X (As := [.ref g.1]) (c_L_all l D tA g s sn (clo 10 s (tGet 8 (sB s) b 2)) v kp hw) cd_L_all wm_L_43 rfl rfl ⟨Nat.le_of_ble_eq_true rfl, Nat.le_of_ble_eq_true rfl⟩ ⟨Nat.zero_le _, Nat.zero_le _⟩ rfl (Nat.le_of_ble_eq_true rfl) dL_isForetold_49 ?_
      refine j_lload_n (pc := 52) X dL_isForetold_52 rfl (q := 4) rfl ?_
      refine j_lcmp (pc := 53) X dL_isForetold_53 ?_
      refine j_if_ne_f (pc := 54) X (tgt := 87) dL_isForetold_54 (by decide) (fun z9 => absurd ((not_congr (lg_cmp_eq _ _)).mp z9) (fun z => z rfl)) ?_
      refine j_iload (pc := 57) X dL_isForetold_57 (q := 1) rfl ?_
      refine j_bipush (pc := 59) X (v := (-4)) dL_isForetold_59 (by decide +kernel) ?_
      refine j_icmp_ne_t (pc := 61) X (tgt := 68) dL_isForetold_61 (by decide) (nI_n4 (by omega)) ?_
      refine j_iconst (pc := 68) X (v := (nI 0)) dL_isForetold_68 (by decide +kernel) ?_
      refine j_aload_n (pc := 69) X dL_isForetold_69 rfl (q := 5) rfl ?_
      refine j_iload (pc := 70) X dL_isForetold_70 (q := 2) rfl ?_
      refine j_iconst (pc := 72) X (v := (nI 5)) dL_isForetold_72 (by decide +kernel) ?_
      refine q_booking (pc := 73) X hw (r := (nI (tGet 8 (sB s) b 5))) (oB_c hw (by omega) (by decide)) wm_L_25 ⟨Nat.le_of_ble_eq_true rfl, Nat.le_of_ble_eq_true rfl⟩ ⟨Nat.zero_le _, Nat.zero_le _⟩ (Nat.le_of_ble_eq_true rfl) dL_isForetold_73 ?_
      refine j_if_eq_t (pc := 76) X (tgt := 83) dL_isForetold_76 (by decide) ((nC_eq0 (by omega)).mpr hs31) ?_
      refine j_iconst (pc := 83) X (v := (nI 0)) dL_isForetold_83 (by decide +kernel) ?_
      refine j_icmp_eq_t (pc := 84) X (tgt := 89) dL_isForetold_84 (by decide) rfl ?_
      refine j_iload (pc := 89) X dL_isForetold_89 (q := 1) rfl ?_
      refine j_if_lt_f (pc := 91) X (tgt := 210) dL_isForetold_91 (by decide) (nI_pos (by omega)) ?_
      refine j_iload (pc := 94) X dL_isForetold_94 (q := 0) rfl ?_
      refine j_iload (pc := 96) X dL_isForetold_96 (q := 3) rfl ?_
      have hnow := h.1.2.2 b hl26 hs31
      obtain ⟨k, hk⟩ : ∃ k, sN s + k = (tGet 8 (sB s) b 2) := ⟨(tGet 8 (sB s) b 2) - sN s, by omega⟩
      refine j_isub (pc := 98) X (v := (nI k)) dL_isForetold_98 ((pk_sub (by omega)).trans (congrArg nI (by omega))) ?_
      refine j_bipush (pc := 99) X (v := (nI 20)) dL_isForetold_99 (by decide +kernel) ?_
      refine j_icmp_ge (pc := 101) X (tgt := 210) (P := 20 ≤ k) dL_isForetold_101 (by decide) (nI_leI (by omega) (by omega)) (fun h101 => ?_) (fun h101 => ?_)
      · skip
        refine j_lv X (lv' := [(0, .ref g.1), (1, .int y), (2, .long (hAll s)), (4, .int (nI (sN s)))]) [5, 6, 4, 3] rfl ?_
        exact K_210 (clo 10 s (tGet 8 (sB s) b 2)) v (hw.xclo 10 (tGet 8 (sB s) b 2)) hv
      · skip
        refine j_iload (pc := 104) X dL_isForetold_104 (q := 0) rfl ?_
        refine j_sipush (pc := 106) X (v := (nI 199)) dL_isForetold_106 (by decide +kernel) ?_
        refine j_icmp_ge (pc := 109) X (tgt := 210) (P := 199 ≤ (tGet 8 (sB s) b 2)) dL_isForetold_109 (by decide) (nI_leI (by omega) (by omega)) (fun h109 => ?_) (fun h109 => ?_)
        · skip
          refine j_lv X (lv' := [(0, .ref g.1), (1, .int y), (2, .long (hAll s)), (4, .int (nI (sN s)))]) [5, 6, 4, 3] rfl ?_
          exact K_210 (clo 10 s (tGet 8 (sB s) b 2)) v (hw.xclo 10 (tGet 8 (sB s) b 2)) hv
        · skip
          refine j_aload_n (pc := 112) X dL_isForetold_112 rfl (q := 5) rfl ?_
          refine j_iload (pc := 113) X dL_isForetold_113 (q := 2) rfl ?_
          refine j_bipush (pc := 115) X (v := (nI 7)) dL_isForetold_115 (by decide +kernel) ?_
          have ft := fate_true h.1 hl26 hs31 rfl hk (by omega)
          have hp := h.pas (k + 1) (by omega)
          have hc := pas_cnt hw (k + 1) (by omega)
          have hb2 : b < (sB (pasN (k + 1) s).1).1 := by rw [pas_nB]; exact hl26
          have hb1 := hp.1.1.1.b hb2
          refine q_booking (pc := 117) X hw (r := (nI (tGet 8 (sB s) b 7))) (oB_c hw (by omega) (by decide)) wm_L_25 ⟨Nat.le_of_ble_eq_true rfl, Nat.le_of_ble_eq_true rfl⟩ ⟨Nat.zero_le _, Nat.zero_le _⟩ (Nat.le_of_ble_eq_true rfl) dL_isForetold_117 ?_
          refine j_istore (pc := 120) X (lv' := [(8, .int (nI (tGet 8 (sB s) b 7))), (7, .int (nI (tGet 8 (sB s) b 2))), (6, .int (nI (fatN (clo 10 s (tGet 8 (sB s) b 2)) b))), (5, .int (nI b)), (4, .int (nI (sN s))), (2, .long (hAll s)), (0, .ref g.1), (1, .int y)]) dL_isForetold_120 (by decide) rfl ?_
          refine j_aload_n (pc := 122) X dL_isForetold_122 rfl (q := 6) rfl ?_
          refine j_iload (pc := 123) X dL_isForetold_123 (q := 1) rfl ?_
          refine j_iload (pc := 125) X dL_isForetold_125 (q := 4) rfl ?_
          refine j_isub (pc := 127) X (v := (nI k)) dL_isForetold_127 ((pk_sub (by omega)).trans (congrArg nI (by omega))) ?_
          refine j_iconst (pc := 128) X (v := (nI 1)) dL_isForetold_128 (by decide +kernel) ?_
          refine j_iadd (pc := 129) X (v := (nI (k + 1))) dL_isForetold_129 (nI_add _ _) ?_
          refine q_pass (pc := 130) X hw hv (r := (nI ((pasN (k + 1) s).2))) (by rw [oPass_t (s := s) (k := k + 1) (by omega) (by omega) (by omega)]) wm_L_55 ⟨Nat.le_of_ble_eq_true rfl, Nat.le_of_ble_eq_true rfl⟩ ⟨Nat.zero_le _, Nat.zero_le _⟩ (Nat.le_of_ble_eq_true rfl) dL_isForetold_130 ?_
          refine j_ws (w2 := (cuW tA g ((pasN (k + 1) s).1) sn (clo 10 s (tGet 8 (sB s) b 2)) (hPush v s) kp)) (by rw [oPass_t (s := s) (k := k + 1) (by omega) (by omega) (by omega)]; rfl) ?_
          refine j_if_lt_f (pc := 133) X (tgt := 208) dL_isForetold_133 (by decide) (nI_pos (by omega)) ?_
          rcases Decidable.em (fatN (clo 10 s (tGet 8 (sB s) b 2)) b = 0) with hs136 | hs136
          · skip
            refine j_aload_n (pc := 136) X dL_isForetold_136 rfl (q := 6) rfl ?_
            refine j_iload (pc := 137) X dL_isForetold_137 (q := 3) rfl ?_
            refine j_iconst (pc := 139) X (v := (nI 5)) dL_isForetold_139 (by decide +kernel) ?_
            refine q_booking (pc := 140) X hp.1.1.1 (r := (nI (tGet 8 (sB ((pasN (k + 1) s).1)) b 5))) (oB_c hp.1.1.1 (by omega) (by decide)) wm_L_25 ⟨Nat.le_of_ble_eq_true rfl, Nat.le_of_ble_eq_true rfl⟩ ⟨Nat.zero_le _, Nat.zero_le _⟩ (Nat.le_of_ble_eq_true rfl) dL_isForetold_140 ?_
            refine j_iconst (pc := 143) X (v := (nI 1)) dL_isForetold_143 (by decide +kernel) ?_
            refine j_icmp_ne_f (pc := 144) X (tgt := 151) dL_isForetold_144 (by decide) (fun z9 => absurd ((not_congr (nI_eq (by omega) (by omega))).mp z9) (fun z => z (ft.1.mpr hs136))) ?_
            refine j_iconst (pc := 147) X (v := (nI 1)) dL_isForetold_147 (by decide +kernel) ?_
            refine j_goto (pc := 148) X (tgt := 152) dL_isForetold_148 (by decide) ?_
            refine j_iload (pc := 152) X dL_isForetold_152 (q := 2) rfl ?_
            refine j_if_ne_f (pc := 154) X (tgt := 161) dL_isForetold_154 (by decide) (fun z9 => absurd ((not_congr (nC_eq0 (by omega))).mp z9) (fun z => z hs136)) ?_
            refine j_iconst (pc := 157) X (v := (nI 1)) dL_isForetold_157 (by decide +kernel) ?_
            refine j_goto (pc := 158) X (tgt := 162) dL_isForetold_158 (by decide) ?_
            refine j_icmp_ne_f (pc := 162) X (tgt := 208) dL_isForetold_162 (by decide) (fun z => z rfl) ?_
            refine j_aload_n (pc := 165) X dL_isForetold_165 rfl (q := 6) rfl ?_
            refine j_iload (pc := 166) X dL_isForetold_166 (q := 3) rfl ?_
            refine j_bipush (pc := 168) X (v := (nI 7)) dL_isForetold_168 (by decide +kernel) ?_
            refine q_booking (pc := 170) X hp.1.1.1 (r := (nI (tGet 8 (sB ((pasN (k + 1) s).1)) b 7))) (oB_c hp.1.1.1 hb2 (by decide)) wm_L_25 ⟨Nat.le_of_ble_eq_true rfl, Nat.le_of_ble_eq_true rfl⟩ ⟨Nat.zero_le _, Nat.zero_le _⟩ (Nat.le_of_ble_eq_true rfl) dL_isForetold_170 ?_
            refine j_iload (pc := 173) X dL_isForetold_173 (q := 0) rfl ?_
            refine j_iload (pc := 175) X dL_isForetold_175 (q := 2) rfl ?_
            refine j_if_ne_f (pc := 177) X (tgt := 184) dL_isForetold_177 (by decide) (fun z9 => absurd ((not_congr (nC_eq0 (by omega))).mp z9) (fun z => z hs136)) ?_
            refine j_iconst (pc := 180) X (v := (nI 0)) dL_isForetold_180 (by decide +kernel) ?_
            refine j_goto (pc := 181) X (tgt := 185) dL_isForetold_181 (by decide) ?_
            refine j_iadd (pc := 185) X (v := (nI ((tGet 8 (sB s) b 7) + 0))) dL_isForetold_185 (nI_add _ _) ?_
            refine j_icmp_ne_f (pc := 186) X (tgt := 208) dL_isForetold_186 (by decide) (fun z => z (congrArg nI (by rw [ft.2.1, if_pos hs136]))) ?_
            refine j_aload_n (pc := 189) X dL_isForetold_189 rfl (q := 6) rfl ?_
            refine j_iload (pc := 190) X dL_isForetold_190 (q := 3) rfl ?_
            refine j_iconst (pc := 192) X (v := (nI 2)) dL_isForetold_192 (by decide +kernel) ?_
            refine q_booking (pc := 193) X hp.1.1.1 (r := (nI (tGet 8 (sB ((pasN (k + 1) s).1)) b 2))) (oB_c hp.1.1.1 hb2 (by decide)) wm_L_25 ⟨Nat.le_of_ble_eq_true rfl, Nat.le_of_ble_eq_true rfl⟩ ⟨Nat.zero_le _, Nat.zero_le _⟩ (Nat.le_of_ble_eq_true rfl) dL_isForetold_193 ?_
            refine j_iload (pc := 196) X dL_isForetold_196 (q := 1) rfl ?_
            refine j_icmp_lt_f (pc := 198) X (tgt := 208) dL_isForetold_198 (by decide) (fun z9 => absurd ((nI_ltI (by omega) (by omega)).mp z9) (by have := ft.2.2; omega)) ?_
            refine j_aload_n (pc := 201) X dL_isForetold_201 rfl (q := 6) rfl ?_
            refine q_undo (pc := 202) X hp.1.1.1 (hv.push hw) (r := (nI (min (v.2.2 + 1) 4 - 1))) un_r wm_L_58 ⟨Nat.le_of_ble_eq_true rfl, Nat.le_of_ble_eq_true rfl⟩ ⟨Nat.zero_le _, Nat.zero_le _⟩ (Nat.le_of_ble_eq_true rfl) dL_isForetold_202 ?_
            refine j_ws (w2 := (cuW tA g s sn (clo 10 s (tGet 8 (sB s) b 2)) (hPop (hPush v s)) kp)) (by rw [un_s hv.1, un_v]) ?_
            refine j_if_ge_t (pc := 205) X (tgt := 210) dL_isForetold_205 (by decide) ((nC_ge0 (by omega)).mpr trivial) ?_
            refine j_lv X (lv' := [(0, .ref g.1), (1, .int y), (2, .long (hAll s)), (4, .int (nI (sN s)))]) [6, 7, 5, 4] rfl ?_
            exact K_210 (clo 10 s (tGet 8 (sB s) b 2)) (hPop (hPush v s)) (hw.xclo 10 (tGet 8 (sB s) b 2)) (((hv.push hw)).pop)
          · skip
            refine j_aload_n (pc := 136) X dL_isForetold_136 rfl (q := 6) rfl ?_
            refine j_iload (pc := 137) X dL_isForetold_137 (q := 3) rfl ?_
            refine j_iconst (pc := 139) X (v := (nI 5)) dL_isForetold_139 (by decide +kernel) ?_
            refine q_booking (pc := 140) X hp.1.1.1 (r := (nI (tGet 8 (sB ((pasN (k + 1) s).1)) b 5))) (oB_c hp.1.1.1 (by omega) (by decide)) wm_L_25 ⟨Nat.le_of_ble_eq_true rfl, Nat.le_of_ble_eq_true rfl⟩ ⟨Nat.zero_le _, Nat.zero_le _⟩ (Nat.le_of_ble_eq_true rfl) dL_isForetold_140 ?_
            refine j_iconst (pc := 143) X (v := (nI 1)) dL_isForetold_143 (by decide +kernel) ?_
            refine j_icmp_ne_t (pc := 144) X (tgt := 151) dL_isForetold_144 (by decide) ((not_congr (nI_eq (by omega) (by omega))).mpr (fun z => hs136 (ft.1.mp z))) ?_
            refine j_iconst (pc := 151) X (v := (nI 0)) dL_isForetold_151 (by decide +kernel) ?_
            refine j_iload (pc := 152) X dL_isForetold_152 (q := 2) rfl ?_
            refine j_if_ne_t (pc := 154) X (tgt := 161) dL_isForetold_154 (by decide) ((not_congr (nC_eq0 (by omega))).mpr hs136) ?_
            refine j_iconst (pc := 161) X (v := (nI 0)) dL_isForetold_161 (by decide +kernel) ?_
            refine j_icmp_ne_f (pc := 162) X (tgt := 208) dL_isForetold_162 (by decide) (fun z => z rfl) ?_
            refine j_aload_n (pc := 165) X dL_isForetold_165 rfl (q := 6) rfl ?_
            refine j_iload (pc := 166) X dL_isForetold_166 (q := 3) rfl ?_
            refine j_bipush (pc := 168) X (v := (nI 7)) dL_isForetold_168 (by decide +kernel) ?_
            refine q_booking (pc := 170) X hp.1.1.1 (r := (nI (tGet 8 (sB ((pasN (k + 1) s).1)) b 7))) (oB_c hp.1.1.1 hb2 (by decide)) wm_L_25 ⟨Nat.le_of_ble_eq_true rfl, Nat.le_of_ble_eq_true rfl⟩ ⟨Nat.zero_le _, Nat.zero_le _⟩ (Nat.le_of_ble_eq_true rfl) dL_isForetold_170 ?_
            refine j_iload (pc := 173) X dL_isForetold_173 (q := 0) rfl ?_
            refine j_iload (pc := 175) X dL_isForetold_175 (q := 2) rfl ?_
            refine j_if_ne_t (pc := 177) X (tgt := 184) dL_isForetold_177 (by decide) ((not_congr (nC_eq0 (by omega))).mpr hs136) ?_
            refine j_iconst (pc := 184) X (v := (nI 1)) dL_isForetold_184 (by decide +kernel) ?_
            refine j_iadd (pc := 185) X (v := (nI ((tGet 8 (sB s) b 7) + 1))) dL_isForetold_185 (nI_add _ _) ?_
            refine j_icmp_ne_f (pc := 186) X (tgt := 208) dL_isForetold_186 (by decide) (fun z => z (congrArg nI (by rw [ft.2.1, if_neg hs136]))) ?_
            refine j_aload_n (pc := 189) X dL_isForetold_189 rfl (q := 6) rfl ?_
            refine j_iload (pc := 190) X dL_isForetold_190 (q := 3) rfl ?_
            refine j_iconst (pc := 192) X (v := (nI 2)) dL_isForetold_192 (by decide +kernel) ?_
            refine q_booking (pc := 193) X hp.1.1.1 (r := (nI (tGet 8 (sB ((pasN (k + 1) s).1)) b 2))) (oB_c hp.1.1.1 hb2 (by decide)) wm_L_25 ⟨Nat.le_of_ble_eq_true rfl, Nat.le_of_ble_eq_true rfl⟩ ⟨Nat.zero_le _, Nat.zero_le _⟩ (Nat.le_of_ble_eq_true rfl) dL_isForetold_193 ?_
            refine j_iload (pc := 196) X dL_isForetold_196 (q := 1) rfl ?_
            refine j_icmp_lt_f (pc := 198) X (tgt := 208) dL_isForetold_198 (by decide) (fun z9 => absurd ((nI_ltI (by omega) (by omega)).mp z9) (by have := ft.2.2; omega)) ?_
            refine j_aload_n (pc := 201) X dL_isForetold_201 rfl (q := 6) rfl ?_
            refine q_undo (pc := 202) X hp.1.1.1 (hv.push hw) (r := (nI (min (v.2.2 + 1) 4 - 1))) un_r wm_L_58 ⟨Nat.le_of_ble_eq_true rfl, Nat.le_of_ble_eq_true rfl⟩ ⟨Nat.zero_le _, Nat.zero_le _⟩ (Nat.le_of_ble_eq_true rfl) dL_isForetold_202 ?_
            refine j_ws (w2 := (cuW tA g s sn (clo 10 s (tGet 8 (sB s) b 2)) (hPop (hPush v s)) kp)) (by rw [un_s hv.1, un_v]) ?_
            refine j_if_ge_t (pc := 205) X (tgt := 210) dL_isForetold_205 (by decide) ((nC_ge0 (by omega)).mpr trivial) ?_
            refine j_lv X (lv' := [(0, .ref g.1), (1, .int y), (2, .long (hAll s)), (4, .int (nI (sN s)))]) [6, 7, 5, 4] rfl ?_
            exact K_210 (clo 10 s (tGet 8 (sB s) b 2)) (hPop (hPush v s)) (hw.xclo 10 (tGet 8 (sB s) b 2)) (((hv.push hw)).pop)
    · skip
      have hbb := hw.b hl26
      have hfl := fat_le (clo 10 s (tGet 8 (sB s) b 2)) b
      refine j_aload_n (pc := 31) X dL_isForetold_31 rfl (q := 3) rfl ?_
      refine j_iload (pc := 32) X dL_isForetold_32 (q := 0) rfl ?_
      refine q_fate (pc := 34) X hw hw3 (r := (-4)) (by rw [oFate_f hw hl26 hs31]) wm_L_52 ⟨Nat.le_of_ble_eq_true rfl, Nat.le_of_ble_eq_true rfl⟩ ⟨Nat.zero_le _, Nat.zero_le _⟩ (Nat.le_of_ble_eq_true rfl) dL_isForetold_34 ?_
      refine j_ws (w2 := (cuW tA g s sn s3 v kp)) (by rw [oFate_f hw hl26 hs31]; rfl) ?_
      refine j_istore (pc := 37) X (lv' := [(6, .int (-4)), (5, .int (nI b)), (4, .int (nI (sN s))), (2, .long (hAll s)), (0, .ref g.1), (1, .int y)]) dL_isForetold_37 (by decide) rfl ?_
      refine j_aload_n (pc := 39) X dL_isForetold_39 rfl (q := 4) rfl ?_
      refine j_iload (pc := 40) X dL_isForetold_40 (q := 1) rfl ?_
      refine j_iconst (pc := 42) X (v := (nI 2)) dL_isForetold_42 (by decide +kernel) ?_
      refine q_booking (pc := 43) X hw (r := (nI (tGet 8 (sB s) b 2))) (oB_c hw (by omega) (by decide)) wm_L_25 ⟨Nat.le_of_ble_eq_true rfl, Nat.le_of_ble_eq_true rfl⟩ ⟨Nat.zero_le _, Nat.zero_le _⟩ (Nat.le_of_ble_eq_true rfl) dL_isForetold_43 ?_
      refine j_istore (pc := 46) X (lv' := [(7, .int (nI (tGet 8 (sB s) b 2))), (6, .int (-4)), (5, .int (nI b)), (4, .int (nI (sN s))), (2, .long (hAll s)), (0, .ref g.1), (1, .int y)]) dL_isForetold_46 (by decide) rfl ?_
      refine j_aload_n (pc := 48) X dL_isForetold_48 rfl (q := 5) rfl ?_
      refine j_cS (pc := 49) X (As := [.ref g.1]) (c_L_all l D tA g s sn s3 v kp hw) cd_L_all wm_L_43 rfl rfl ⟨Nat.le_of_ble_eq_true rfl, Nat.le_of_ble_eq_true rfl⟩ ⟨Nat.zero_le _, Nat.zero_le _⟩ rfl (Nat.le_of_ble_eq_true rfl) dL_isForetold_49 ?_
      refine j_lload_n (pc := 52) X dL_isForetold_52 rfl (q := 4) rfl ?_
      refine j_lcmp (pc := 53) X dL_isForetold_53 ?_
      refine j_if_ne_f (pc := 54) X (tgt := 87) dL_isForetold_54 (by decide) (fun z9 => absurd ((not_congr (lg_cmp_eq _ _)).mp z9) (fun z => z rfl)) ?_
      refine j_iload (pc := 57) X dL_isForetold_57 (q := 1) rfl ?_
      refine j_bipush (pc := 59) X (v := (-4)) dL_isForetold_59 (by decide +kernel) ?_
      refine j_icmp_ne_f (pc := 61) X (tgt := 68) dL_isForetold_61 (by decide) (fun z => z rfl) ?_
      refine j_iconst (pc := 64) X (v := (nI 1)) dL_isForetold_64 (by decide +kernel) ?_
      refine j_goto (pc := 65) X (tgt := 69) dL_isForetold_65 (by decide) ?_
      refine j_aload_n (pc := 69) X dL_isForetold_69 rfl (q := 5) rfl ?_
      refine j_iload (pc := 70) X dL_isForetold_70 (q := 2) rfl ?_
      refine j_iconst (pc := 72) X (v := (nI 5)) dL_isForetold_72 (by decide +kernel) ?_
      refine q_booking (pc := 73) X hw (r := (nI (tGet 8 (sB s) b 5))) (oB_c hw (by omega) (by decide)) wm_L_25 ⟨Nat.le_of_ble_eq_true rfl, Nat.le_of_ble_eq_true rfl⟩ ⟨Nat.zero_le _, Nat.zero_le _⟩ (Nat.le_of_ble_eq_true rfl) dL_isForetold_73 ?_
      refine j_if_eq_f (pc := 76) X (tgt := 83) dL_isForetold_76 (by decide) (fun z9 => absurd ((nC_eq0 (by omega)).mp z9) hs31) ?_
      refine j_iconst (pc := 79) X (v := (nI 1)) dL_isForetold_79 (by decide +kernel) ?_
      refine j_goto (pc := 80) X (tgt := 84) dL_isForetold_80 (by decide) ?_
      refine j_icmp_eq_t (pc := 84) X (tgt := 89) dL_isForetold_84 (by decide) rfl ?_
      refine j_iload (pc := 89) X dL_isForetold_89 (q := 1) rfl ?_
      refine j_if_lt_t (pc := 91) X (tgt := 210) dL_isForetold_91 (by decide) (by decide) ?_
      refine j_lv X (lv' := [(0, .ref g.1), (1, .int y), (2, .long (hAll s)), (4, .int (nI (sN s)))]) [5, 6, 4, 3] rfl ?_
      exact K_210 s3 v hw3 hv
