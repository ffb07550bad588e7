theorem try_in {s sn : Sg} {v : Hs} {kp : Bool} {R : Nat → Nat} (hrel : RelM s sn v kp R) : RB s (cpR R 0 3210 535) := RB.same hrel.1 hrel.2.1.1 (fun i hi => by unfold cpR; rw [if_neg (by omega)])
theorem try_back {s sn : Sg} {v : Hs} {kp : Bool} {R R3 : Nat → Nat} (hrel : RelM s sn v kp R) (ho : Out (cpR R 0 3210 535) R3) : RelM s sn v kp (cpR R3 3210 0 535) := by
  refine hrel.low (RB.same hrel.1 hrel.2.1.1 (fun i hi => ?_)) (fun j h1 h2 => ?_)
  · unfold cpR
    rw [if_pos (by omega), ho _ (by omega)]
    unfold cpR
    rw [if_pos (by omega)]
    exact congrArg R (by omega)
  · unfold cpR
    rw [if_neg (by omega), ho _ (by omega)]
    unfold cpR
    rw [if_neg (by omega)]
theorem pasN_N {s : Sg} : ∀ k, sN (pasN k s).1 = sN s + k
  | 0 => rfl
  | k + 1 => by
    show sN (psC (pasN k s).1).1 + 1 = _
    rw [psC_N, pasN_N k]; omega
theorem cd_X5_willBear : kCardV yX5_willBear cX5_willBear 6 (some .int) 3 := ⟨⟨wc_X5_willBear, wi_X5, by decide +kernel, by decide +kernel, rfl⟩, wk_X5_willBear, ws_X5_willBear⟩
set_option maxHeartbeats 4000000 in
set_option maxRecDepth 100000 in
theorem c_X5_willBear (l : Launch) (D : va_G) (tA : Nat → ClassId) (m : Nat → Nat) (x : MX) (s sn : Sg) (v : Hs) (kp : Bool) (len : Nat) (m0 r0 t0 : Int32) (hrel : RelM s sn v kp x.1) : Ky l D tA yX5_willBear cX5_willBear 6 (some .int) 2 46 [.ref (m 0), .int m0, .int r0, .int t0] (mW tA m v.2.2 kp len x) (S := MX) (fun y => RelM s sn v kp y.1) (fun y => some (.int ((oWill s m0 r0 t0).1))) (fun y => mW tA m (v).2.2 kp len y) := by
  refine ky_int rfl (Nat.le_of_ble_eq_true rfl) (fun G X E => ?_)
  show J l D G 0 0 (mW tA m v.2.2 kp len x) [(0, .ref (m 0)), (1, .int m0), (2, .int r0), (3, .int t0)] 0 []
  have hr := hrel.1
  have hok := hrel.2.1
  have hw := hok.1
  have hn := hw.n
  have hsz := hrel.2.2.2.1
  refine j_aload_n (pc := 0) X dX5_willBear_0 rfl (q := 0) rfl ?_
  refine j_iload_n (pc := 1) X dX5_willBear_1 rfl (q := 1) rfl ?_
  refine j_callVR (pc := 2) X (st := [])  (c_X5_isMachine l D tA m (mfs m v.2.2 kp len none x.2.1 x.2.2.1 x.2.2.2.1 x.2.2.2.2) x.1 s m0 hr hw ) cd_X5_isMachine wm_X5_59 0 rfl rfl rfl [0, 1] rfl rfl ⟨Nat.le_of_ble_eq_true rfl, Nat.le_of_ble_eq_true rfl⟩ ⟨Nat.zero_le _, Nat.zero_le _⟩ rfl (Nat.le_of_ble_eq_true rfl) dX5_willBear_2 ?_
  refine j_if_eq (pc := 5) X (tgt := 16) (P := (inR m0 (sM s).1) = false) dX5_willBear_5 (by decide) (bI_0 _) (fun h5 => ?_) (fun h5 => ?_)
  · skip
    have h5 := nf5 h5
    refine j_iconst (pc := 16) X (v := (-1)) dX5_willBear_16 (by decide) ?_
    have e : oWill s m0 r0 t0 = ((-1), none) := by unfold oWill; rw [if_neg (fun q => h5 q.1)] <;> rfl
    exact j_endIy (pc := 17) E dX5_willBear_17 x hrel (by rw [e]) rfl
  · skip
    have h5 := t5 h5
    obtain ⟨mm, hc5, rfl⟩ := inR_t h5
    have emm : tn (nI mm) = mm := tn_nI (by omega)
    refine j_aload_n (pc := 8) X dX5_willBear_8 rfl (q := 0) rfl ?_
    refine j_iload_n (pc := 9) X dX5_willBear_9 rfl (q := 3) rfl ?_
    refine j_callVR (pc := 10) X (st := [])  (c_X5_isToCome l D tA m (mfs m v.2.2 kp len none x.2.1 x.2.2.1 x.2.2.2.1 x.2.2.2.2) x.1 s t0 hr hw ) cd_X5_isToCome wm_X5_45 0 rfl rfl rfl [0, 1] rfl rfl ⟨Nat.le_of_ble_eq_true rfl, Nat.le_of_ble_eq_true rfl⟩ ⟨Nat.zero_le _, Nat.zero_le _⟩ rfl (Nat.le_of_ble_eq_true rfl) dX5_willBear_10 ?_
    refine j_if_ne (pc := 13) X (tgt := 18) (P := (toCome s t0) = true) dX5_willBear_13 (by decide) (bI_n0 _) (fun h13 => ?_) (fun h13 => ?_)
    · skip
      skip
      obtain ⟨tt, hc13, rfl⟩ := toCome_t h13
      have ett : tn (nI tt) = tt := tn_nI (by omega)
      refine j_iload_n (pc := 18) X dX5_willBear_18 rfl (q := 2) rfl ?_
      refine j_iconst (pc := 19) X (v := (nI 2)) dX5_willBear_19 (by decide) ?_
      refine j_bipush (pc := 20) X (v := (nI 60)) dX5_willBear_20 (by decide) ?_
      refine j_callSR (pc := 22) X (st := [])  (c_X5_in l D tA r0 (nI 2) (nI 60) ) cd_X5_in wm_X5_20 rfl [] rfl rfl ⟨Nat.le_of_ble_eq_true rfl, Nat.le_of_ble_eq_true rfl⟩ ⟨Nat.zero_le _, Nat.zero_le _⟩ rfl (Nat.le_of_ble_eq_true rfl) dX5_willBear_22 ?_
      rw [isW_ra]
      refine j_if_ne (pc := 25) X (tgt := 31) (P := (isRad r0) = true) dX5_willBear_25 (by decide) (bI_n0 _) (fun h25 => ?_) (fun h25 => ?_)
      · skip
        skip
        obtain ⟨rr, hc25, rfl⟩ := isRad_t h25
        have err : tn (nI rr) = rr := tn_nI (by omega)
        refine j_aload_n (pc := 31) X dX5_willBear_31 rfl (q := 0) rfl ?_
        refine j_iconst (pc := 32) X (v := (nI 0)) dX5_willBear_32 (by decide) ?_
        refine j_sipush (pc := 33) X (v := (nI 3210)) dX5_willBear_33 (by decide) ?_
        refine j_callV (pc := 36) X (st := []) (w' := (rW tA m (mfs m v.2.2 kp len none x.2.1 x.2.2.1 x.2.2.2.1 x.2.2.2.2) (cpR x.1 0 3210 535))) (c_X5_copy l D tA m (mfs m v.2.2 kp len none x.2.1 x.2.2.1 x.2.2.2.1 x.2.2.2.2) x.1 0 3210 (by omega) (by omega) (by omega)) cd_X5_copy wm_X5_27 0 rfl rfl rfl [0, 1] rfl rfl rw_fst rfl ⟨Nat.le_of_ble_eq_true rfl, Nat.le_of_ble_eq_true rfl⟩ ⟨Nat.zero_le _, Nat.zero_le _⟩ rfl (Nat.le_of_ble_eq_true rfl) dX5_willBear_36 ?_
        have hr0 := try_in hrel
        refine j_aload_n (pc := 39) X dX5_willBear_39 rfl (q := 0) rfl ?_
        refine j_get (pc := 40) X (C := RX5) (T := TX5) (N := 10) wz_X5 0 rfl rfl 0 (by decide) wf_X5_7 rfl dX5_willBear_40 ?_
        refine j_iconst (pc := 43) X (v := (nI 0)) dX5_willBear_43 (by decide) ?_
        refine j_iald (pc := 44) X 1 (i := 0) rfl (by omega) (by omega) dX5_willBear_44 ?_
        refine j_top (v' := nI (sN s)) (congrArg nI (RB.n0 hr0)) ?_
        refine j_istore (pc := 45) X (lv' := [(4, .int (nI (sN s))), (0, .ref (m 0)), (1, .int (nI mm)), (2, .int (nI rr)), (3, .int (nI tt))]) dX5_willBear_45 (by decide) rfl ?_
        have L_47 : ∀ (fu : Nat) (a : Nat) (R3 : Nat → Nat), sN s ≤ a → a ≤ tt + 1 → RB (kwT s (a - sN s)) R3 → Out (cpR x.1 0 3210 535) R3 → tt + 1 - a < fu → J l D G 0 0 (rW tA m (mfs m v.2.2 kp len none x.2.1 x.2.2.1 x.2.2.2.1 x.2.2.2.2) R3) [(0, .ref (m 0)), (1, .int (nI mm)), (2, .int (nI rr)), (3, .int (nI tt)), (4, .int (nI a))] 47 [] := by
          intro fu
          induction fu with
          | zero => intro a R3 ha1 ha2 hr3 ho3 hfu; exact absurd hfu (Nat.not_lt_zero _)
          | succ fu ih_47 =>
            intro a R3 ha1 ha2 hr3 ho3 hfu
            have hT := kwT_B (s := s) (a - sN s)
            have hw3 := hw.xkwT (a - sN s)
            have hn3 := hw3.n
            refine j_iload (pc := 47) X dX5_willBear_47 (q := 4) rfl ?_
            refine j_iload_n (pc := 49) X dX5_willBear_49 rfl (q := 3) rfl ?_
            refine j_icmp_gt (pc := 50) X (tgt := 102) (P := tt < a) dX5_willBear_50 (by decide) (nI_ltI (by omega) (by omega)) (fun h50 => ?_) (fun h50 => ?_)
            · skip
              have ha9 : a = tt + 1 := by omega
              have hmm : mm < (sM (kwT s (a - sN s))).1 := by rw [hT.2.2.1]; exact hc5
              have hm3 := hw3.m hmm
              refine j_aload_n (pc := 102) X dX5_willBear_102 rfl (q := 0) rfl ?_
              refine j_get (pc := 103) X (C := RX5) (T := TX5) (N := 10) wz_X5 0 rfl rfl 0 (by decide) wf_X5_7 rfl dX5_willBear_103 ?_
              refine j_iload_n (pc := 106) X dX5_willBear_106 rfl (q := 1) rfl ?_
              refine j_iconst (pc := 107) X (v := (nI 0)) dX5_willBear_107 (by decide) ?_
              refine j_callSR (pc := 108) X (st := [.ref (m 1)])  (c_X5_of l D tA mm 0 ) cd_X5_of wm_X5_38 rfl [] rfl rfl ⟨Nat.le_of_ble_eq_true rfl, Nat.le_of_ble_eq_true rfl⟩ ⟨Nat.zero_le _, Nat.zero_le _⟩ rfl (Nat.le_of_ble_eq_true rfl) dX5_willBear_108 ?_
              refine j_iald (pc := 111) X 1 (i := (9 + 4 * mm + 0)) rfl (by omega) (by omega) dX5_willBear_111 ?_
              refine j_top (v' := nI (tGet 3 (sM (kwT s (a - sN s))) mm 0)) (congrArg nI (RB.m0 hr3 hmm)) ?_
              refine j_aload_n (pc := 112) X dX5_willBear_112 rfl (q := 0) rfl ?_
              refine j_get (pc := 113) X (C := RX5) (T := TX5) (N := 10) wz_X5 0 rfl rfl 0 (by decide) wf_X5_7 rfl dX5_willBear_113 ?_
              refine j_iload_n (pc := 116) X dX5_willBear_116 rfl (q := 1) rfl ?_
              refine j_iconst (pc := 117) X (v := (nI 1)) dX5_willBear_117 (by decide) ?_
              refine j_callSR (pc := 118) X (st := [.ref (m 1), .int (nI (tGet 3 (sM (kwT s (a - sN s))) mm 0))])  (c_X5_of l D tA mm 1 ) cd_X5_of wm_X5_38 rfl [] rfl rfl ⟨Nat.le_of_ble_eq_true rfl, Nat.le_of_ble_eq_true rfl⟩ ⟨Nat.zero_le _, Nat.zero_le _⟩ rfl (Nat.le_of_ble_eq_true rfl) dX5_willBear_118 ?_
              refine j_iald (pc := 121) X 1 (i := (9 + 4 * mm + 1)) rfl (by omega) (by omega) dX5_willBear_121 ?_
              refine j_top (v' := nI (tGet 3 (sM (kwT s (a - sN s))) mm 1)) (congrArg nI (RB.m1 hr3 hmm)) ?_
              refine j_iload_n (pc := 122) X dX5_willBear_122 rfl (q := 2) rfl ?_
              refine j_callSR (pc := 123) X (st := [])  (c_X5_bearsBy l D tA (tGet 3 (sM (kwT s (a - sN s))) mm 0) (tGet 3 (sM (kwT s (a - sN s))) mm 1) rr hm3.1.2 hm3.2.1 (by omega)) cd_X5_bearsBy wm_X5_49 rfl [] rfl rfl ⟨Nat.le_of_ble_eq_true rfl, Nat.le_of_ble_eq_true rfl⟩ ⟨Nat.zero_le _, Nat.zero_le _⟩ rfl (Nat.le_of_ble_eq_true rfl) dX5_willBear_123 ?_
              refine j_top (v' := nI (brn (sM (clo 10 s tt)) mm rr)) (congrArg nI (by rw [cw_brn hok hc13.1, ← ha9, brn_eq hc25.1])) ?_
              refine j_istore (pc := 126) X (lv' := [(4, .int (nI (brn (sM (clo 10 s tt)) mm rr))), (0, .ref (m 0)), (1, .int (nI mm)), (2, .int (nI rr)), (3, .int (nI tt))]) dX5_willBear_126 (by decide) rfl ?_
              refine j_aload_n (pc := 128) X dX5_willBear_128 rfl (q := 1) rfl ?_
              refine j_sipush (pc := 129) X (v := (nI 3210)) dX5_willBear_129 (by decide) ?_
              refine j_iconst (pc := 132) X (v := (nI 0)) dX5_willBear_132 (by decide) ?_
              refine j_callV (pc := 133) X (st := []) (w' := (rW tA m (mfs m v.2.2 kp len none x.2.1 x.2.2.1 x.2.2.2.1 x.2.2.2.2) (cpR R3 3210 0 535))) (c_X5_copy l D tA m (mfs m v.2.2 kp len none x.2.1 x.2.2.1 x.2.2.2.1 x.2.2.2.2) R3 3210 0 (by omega) (by omega) (by omega)) cd_X5_copy wm_X5_27 0 rfl rfl rfl [0, 1] rfl rfl rw_fst rfl ⟨Nat.le_of_ble_eq_true rfl, Nat.le_of_ble_eq_true rfl⟩ ⟨Nat.zero_le _, Nat.zero_le _⟩ rfl (Nat.le_of_ble_eq_true rfl) dX5_willBear_133 ?_
              refine j_iload (pc := 136) X dX5_willBear_136 (q := 0) rfl ?_
              have e : oWill s (nI mm) (nI rr) (nI tt) = ((nI (brn (sM (clo 10 s tt)) mm rr)), some (clo 10 s tt)) := by unfold oWill; simp only [emm, ett, err]; rw [if_pos ⟨h5, h13⟩, if_pos h25] <;> rfl
              exact j_endIy (pc := 138) E dX5_willBear_138 (cpR R3 3210 0 535, x.2.1, x.2.2.1, x.2.2.2.1, x.2.2.2.2) (try_back hrel ho3) (by rw [e]) rfl
            · skip
              refine j_iconst (pc := 53) X (v := (nI 0)) dX5_willBear_53 (by decide) ?_
              refine j_istore (pc := 54) X (lv' := [(5, .int (nI 0)), (0, .ref (m 0)), (1, .int (nI mm)), (2, .int (nI rr)), (3, .int (nI tt)), (4, .int (nI a))]) dX5_willBear_54 (by decide) rfl ?_
              have L_56 : ∀ (fu : Nat) (w : Nat) (R4 : Nat → Nat), w ≤ (sV s).1 → RB (kwV a (kwT s (a - sN s)) w) R4 → Out (cpR x.1 0 3210 535) R4 → (sV s).1 - w < fu → J l D G 0 0 (rW tA m (mfs m v.2.2 kp len none x.2.1 x.2.2.1 x.2.2.2.1 x.2.2.2.2) R4) [(0, .ref (m 0)), (1, .int (nI mm)), (2, .int (nI rr)), (3, .int (nI tt)), (4, .int (nI a)), (5, .int (nI w))] 56 [] := by
                intro fu
                induction fu with
                | zero => intro w R4 hwv hr4 ho4 hfu; exact absurd hfu (Nat.not_lt_zero _)
                | succ fu ih_56 =>
                  intro w R4 hwv hr4 ho4 hfu
                  have hK := kwV_all (t := a) (s := kwT s (a - sN s)) (v := w) (by rw [hT.1]; exact hwv)
                  have hV4 : sV (kwV a (kwT s (a - sN s)) w) = sV s := hK.1.trans hT.1
                  have hw4 : Wf (kwV a (kwT s (a - sN s)) w) := hw3.xkwV w (by rw [hT.1]; exact hwv)
                  have hn4 := hw4.n
                  refine j_iload (pc := 56) X dX5_willBear_56 (q := 5) rfl ?_
                  refine j_aload_n (pc := 58) X dX5_willBear_58 rfl (q := 0) rfl ?_
                  refine j_get (pc := 59) X (C := RX5) (T := TX5) (N := 10) wz_X5 0 rfl rfl 0 (by decide) wf_X5_7 rfl dX5_willBear_59 ?_
                  refine j_iconst (pc := 62) X (v := (nI 4)) dX5_willBear_62 (by decide) ?_
                  refine j_iald (pc := 63) X 1 (i := 4) rfl (by omega) (by omega) dX5_willBear_63 ?_
                  refine j_top (v' := nI ((sV (kwV a (kwT s (a - sN s)) w)).1)) (congrArg nI (RB.n4 hr4)) ?_
                  refine j_icmp_ge (pc := 64) X (tgt := 96) (P := ((sV (kwV a (kwT s (a - sN s)) w)).1) ≤ w) dX5_willBear_64 (by decide) (nI_leI (by omega) (by omega)) (fun h64 => ?_) (fun h64 => ?_)
                  · skip
                    refine j_iinc (pc := 96) X (v := (nI (a + 1))) (lv' := [(4, .int (nI (a + 1))), (0, .ref (m 0)), (1, .int (nI mm)), (2, .int (nI rr)), (3, .int (nI tt)), (5, .int (nI w))]) dX5_willBear_96 (q := 4) rfl (nI_add _ _) (by decide) rfl ?_
                    refine j_goto (pc := 99) X (tgt := 47) dX5_willBear_99 (by decide) ?_
                    refine j_lv X (lv' := [(0, .ref (m 0)), (1, .int (nI mm)), (2, .int (nI rr)), (3, .int (nI tt)), (4, .int (nI (a + 1)))]) [1, 2, 3, 4, 0] rfl ?_
                    exact ih_47 (a + 1) R4 (by omega) (by omega) (by rw [show a + 1 - sN s = (a - sN s) + 1 by omega, kwT, show sN s + (a - sN s) = a by omega, show (sV s).1 = w by rw [hV4] at h64; omega]; exact hr4) ho4 (by omega)
                  · skip
                    have hw9 := Nat.not_le.mp h64
                    have hv4 := hw4.v hw9
                    refine j_aload_n (pc := 67) X dX5_willBear_67 rfl (q := 0) rfl ?_
                    refine j_get (pc := 68) X (C := RX5) (T := TX5) (N := 10) wz_X5 0 rfl rfl 0 (by decide) wf_X5_7 rfl dX5_willBear_68 ?_
                    refine j_iload (pc := 71) X dX5_willBear_71 (q := 5) rfl ?_
                    refine j_iconst (pc := 73) X (v := (nI 4)) dX5_willBear_73 (by decide) ?_
                    refine j_callSR (pc := 74) X (st := [.ref (m 1)])  (c_X5_ofMove l D tA w 4 ) cd_X5_ofMove wm_X5_88 rfl [] rfl rfl ⟨Nat.le_of_ble_eq_true rfl, Nat.le_of_ble_eq_true rfl⟩ ⟨Nat.zero_le _, Nat.zero_le _⟩ rfl (Nat.le_of_ble_eq_true rfl) dX5_willBear_74 ?_
                    refine j_iald (pc := 77) X 1 (i := (285 + 5 * w + 4)) rfl (by omega) (by omega) dX5_willBear_77 ?_
                    refine j_top (v' := nI (tGet 5 (sV (kwV a (kwT s (a - sN s)) w)) w 4)) (congrArg nI (RB.v hr4 hw9 (by omega))) ?_
                    refine j_iload (pc := 78) X dX5_willBear_78 (q := 4) rfl ?_
                    refine j_icmp_ne (pc := 80) X (tgt := 90) (P := ¬ (tGet 5 (sV (kwV a (kwT s (a - sN s)) w)) w 4) = a) dX5_willBear_80 (by decide) (not_congr (nI_eq (by omega) (by omega))) (fun h80 => ?_) (fun h80 => ?_)
                    · skip
                      refine j_iinc (pc := 90) X (v := (nI (w + 1))) (lv' := [(5, .int (nI (w + 1))), (0, .ref (m 0)), (1, .int (nI mm)), (2, .int (nI rr)), (3, .int (nI tt)), (4, .int (nI a))]) dX5_willBear_90 (q := 5) rfl (nI_add _ _) (by decide) rfl ?_
                      refine j_goto (pc := 93) X (tgt := 56) dX5_willBear_93 (by decide) ?_
                      have hdec : w < (sV s).1 := by rw [hV4] at hw9; exact hw9
                      refine j_lv X (lv' := [(0, .ref (m 0)), (1, .int (nI mm)), (2, .int (nI rr)), (3, .int (nI tt)), (4, .int (nI a)), (5, .int (nI (w + 1)))]) [1, 2, 3, 4, 5, 0] rfl ?_
                      exact ih_56 (w + 1) R4 (by rw [hV4] at hw9; omega) (by rw [kwV, if_neg (by rw [hT.1, ← hV4]; exact h80)]; exact hr4) ho4 (by omega)
                    · skip
                      refine j_aload_n (pc := 83) X dX5_willBear_83 rfl (q := 0) rfl ?_
                      refine j_iload (pc := 84) X dX5_willBear_84 (q := 5) rfl ?_
                      refine j_callVy (pc := 86) X (st := []) (w' := fun R86 => (rW tA m (mfs m v.2.2 kp len none x.2.1 x.2.2.1 x.2.2.2.1 x.2.2.2.2) R86)) (c_X5_carry l D tA m (mfs m v.2.2 kp len none x.2.1 x.2.2.1 x.2.2.2.1 x.2.2.2.2) R4 (kwV a (kwT s (a - sN s)) w) w hr4 hw4 hw9) cd_X5_carry wm_X5_98 0 rfl rfl rfl [0, 1] rfl rfl (fun _ => rw_fst) (fun _ => rfl) ⟨Nat.le_of_ble_eq_true rfl, Nat.le_of_ble_eq_true rfl⟩ ⟨Nat.zero_le _, Nat.zero_le _⟩ rfl (Nat.le_of_ble_eq_true rfl) dX5_willBear_86 (fun R86 hu86 => ?_)
                      obtain ⟨hr86, ho86⟩ := hu86
                      refine j_pop (pc := 89) X dX5_willBear_89 rfl ?_
                      refine j_iinc (pc := 90) X (v := (nI (w + 1))) (lv' := [(5, .int (nI (w + 1))), (0, .ref (m 0)), (1, .int (nI mm)), (2, .int (nI rr)), (3, .int (nI tt)), (4, .int (nI a))]) dX5_willBear_90 (q := 5) rfl (nI_add _ _) (by decide) rfl ?_
                      refine j_goto (pc := 93) X (tgt := 56) dX5_willBear_93 (by decide) ?_
                      have hdec : w < (sV s).1 := by rw [hV4] at hw9; exact hw9
                      refine j_lv X (lv' := [(0, .ref (m 0)), (1, .int (nI mm)), (2, .int (nI rr)), (3, .int (nI tt)), (4, .int (nI a)), (5, .int (nI (w + 1)))]) [1, 2, 3, 4, 5, 0] rfl ?_
                      exact ih_56 (w + 1) R86 (by rw [hV4] at hw9; omega) (by rw [kwV, if_pos (by rw [hT.1, ← hV4]; exact Decidable.not_not.mp h80)]; exact hr86) (Out.tr ho4 ho86) (by omega)
              refine j_lv X (lv' := [(0, .ref (m 0)), (1, .int (nI mm)), (2, .int (nI rr)), (3, .int (nI tt)), (4, .int (nI a)), (5, .int (nI 0))]) [1, 2, 3, 4, 5, 0] rfl ?_
              exact L_56 _ 0 R3 (Nat.zero_le _) hr3 ho3 (Nat.lt_succ_self _)
        refine j_lv X (lv' := [(0, .ref (m 0)), (1, .int (nI mm)), (2, .int (nI rr)), (3, .int (nI tt)), (4, .int (nI (sN s)))]) [1, 2, 3, 4, 0] rfl ?_
        exact L_47 _ (sN s) (cpR x.1 0 3210 535) (Nat.le_refl _) (by omega) (by rw [Nat.sub_self]; exact hr0) Out.rf (Nat.lt_succ_self _)
      · skip
        skip
        refine j_bipush (pc := 28) X (v := (-2)) dX5_willBear_28 (by decide) ?_
        have e : oWill s (nI mm) r0 (nI tt) = ((-2), none) := by unfold oWill; simp only [emm, ett]; rw [if_pos ⟨h5, h13⟩, if_neg h25] <;> rfl
        exact j_endIy (pc := 30) E dX5_willBear_30 x hrel (by rw [e]) rfl
    · skip
      skip
      refine j_iconst (pc := 16) X (v := (-1)) dX5_willBear_16 (by decide) ?_
      have e : oWill s (nI mm) r0 t0 = ((-1), none) := by unfold oWill; simp only [emm]; rw [if_neg (fun q => h13 q.2)] <;> rfl
      exact j_endIy (pc := 17) E dX5_willBear_17 x hrel (by rw [e]) rfl
theorem cd_X5_fate : kCardV yX5_fate cX5_fate 3 (some .int) 1 := ⟨⟨wc_X5_fate, wi_X5, by decide +kernel, by decide +kernel, rfl⟩, wk_X5_fate, ws_X5_fate⟩
set_option maxHeartbeats 4000000 in
set_option maxRecDepth 100000 in
theorem c_X5_fate (l : Launch) (D : va_G) (tA : Nat → ClassId) (m : Nat → Nat) (x : MX) (s sn : Sg) (v : Hs) (kp : Bool) (len : Nat) (b0 : Int32) (hrel : RelM s sn v kp x.1) : Ky l D tA yX5_fate cX5_fate 3 (some .int) 5 116 [.ref (m 0), .int b0] (mW tA m v.2.2 kp len x) (S := MX) (fun y => RelM s sn v kp y.1) (fun y => some (.int ((oFate s b0).1))) (fun y => mW tA m (v).2.2 kp len y) := by
  refine ky_int rfl (Nat.le_of_ble_eq_true rfl) (fun G X E => ?_)
  show J l D G 0 0 (mW tA m v.2.2 kp len x) [(0, .ref (m 0)), (1, .int b0)] 0 []
  have hr := hrel.1
  have hok := hrel.2.1
  have hw := hok.1
  have hn := hw.n
  have hsz := hrel.2.2.2.1
  refine j_aload_n (pc := 0) X dX5_fate_0 rfl (q := 0) rfl ?_
  refine j_iload_n (pc := 1) X dX5_fate_1 rfl (q := 1) rfl ?_
  refine j_callVR (pc := 2) X (st := [])  (c_X5_isBooking l D tA m (mfs m v.2.2 kp len none x.2.1 x.2.2.1 x.2.2.2.1 x.2.2.2.2) x.1 s b0 hr hw ) cd_X5_isBooking wm_X5_76 0 rfl rfl rfl [0, 1] rfl rfl ⟨Nat.le_of_ble_eq_true rfl, Nat.le_of_ble_eq_true rfl⟩ ⟨Nat.zero_le _, Nat.zero_le _⟩ rfl (Nat.le_of_ble_eq_true rfl) dX5_fate_2 ?_
  refine j_if_ne (pc := 5) X (tgt := 10) (P := (inR b0 (sB s).1) = true) dX5_fate_5 (by decide) (bI_n0 _) (fun h5 => ?_) (fun h5 => ?_)
  · skip
    skip
    obtain ⟨bb, hc5, rfl⟩ := inR_t h5
    have ebb : tn (nI bb) = bb := tn_nI (by omega)
    have hb0 := hw.b hc5
    refine j_aload_n (pc := 10) X dX5_fate_10 rfl (q := 0) rfl ?_
    refine j_iload_n (pc := 11) X dX5_fate_11 rfl (q := 1) rfl ?_
    refine j_callVR (pc := 12) X (st := [])  (c_X5_isBooked l D tA m (mfs m v.2.2 kp len none x.2.1 x.2.2.1 x.2.2.2.1 x.2.2.2.2) x.1 s bb hr hw (by first | assumption | omega | decide)) cd_X5_isBooked wm_X5_79 0 rfl rfl rfl [0, 1] rfl rfl ⟨Nat.le_of_ble_eq_true rfl, Nat.le_of_ble_eq_true rfl⟩ ⟨Nat.zero_le _, Nat.zero_le _⟩ rfl (Nat.le_of_ble_eq_true rfl) dX5_fate_12 ?_
    refine j_if_ne (pc := 15) X (tgt := 21) (P := (decide (tGet 8 (sB s) bb 5 = 0)) = true) dX5_fate_15 (by decide) (bI_n0 _) (fun h15 => ?_) (fun h15 => ?_)
    · skip
      skip
      have h50 : tGet 8 (sB s) bb 5 = 0 := of_decide_eq_true h15
      have h29 := hok.2.2 bb hc5 h50
      have hwt9 : ∀ q, some bb = some q → q < 2 ^ 31 := fun q hq => by cases hq; omega
      refine j_aload_n (pc := 21) X dX5_fate_21 rfl (q := 0) rfl ?_
      refine j_get (pc := 22) X (C := RX5) (T := TX5) (N := 10) wz_X5 0 rfl rfl 0 (by decide) wf_X5_7 rfl dX5_fate_22 ?_
      refine j_iload_n (pc := 25) X dX5_fate_25 rfl (q := 1) rfl ?_
      refine j_iconst (pc := 26) X (v := (nI 2)) dX5_fate_26 (by decide) ?_
      refine j_callSR (pc := 27) X (st := [.ref (m 1)])  (c_X5_ofBooking l D tA bb 2 ) cd_X5_ofBooking wm_X5_53 rfl [] rfl rfl ⟨Nat.le_of_ble_eq_true rfl, Nat.le_of_ble_eq_true rfl⟩ ⟨Nat.zero_le _, Nat.zero_le _⟩ rfl (Nat.le_of_ble_eq_true rfl) dX5_fate_27 ?_
      refine j_iald (pc := 30) X 1 (i := (45 + 8 * bb + 2)) rfl (by omega) (by omega) dX5_fate_30 ?_
      refine j_top (v' := nI (tGet 8 (sB s) bb 2)) (congrArg nI (RB.b hr hc5 (by omega))) ?_
      refine j_istore_n (pc := 31) X (lv' := [(2, .int (nI (tGet 8 (sB s) bb 2))), (0, .ref (m 0)), (1, .int (nI bb))]) dX5_fate_31 rfl (by decide) rfl ?_
      refine j_aload_n (pc := 32) X dX5_fate_32 rfl (q := 1) rfl ?_
      refine j_iconst (pc := 33) X (v := (nI 0)) dX5_fate_33 (by decide) ?_
      refine j_sipush (pc := 34) X (v := (nI 3210)) dX5_fate_34 (by decide) ?_
      refine j_callV (pc := 37) X (st := []) (w' := (rW tA m (mfs m v.2.2 kp len none x.2.1 x.2.2.1 x.2.2.2.1 x.2.2.2.2) (cpR x.1 0 3210 535))) (c_X5_copy l D tA m (mfs m v.2.2 kp len none x.2.1 x.2.2.1 x.2.2.2.1 x.2.2.2.2) x.1 0 3210 (by omega) (by omega) (by omega)) cd_X5_copy wm_X5_27 0 rfl rfl rfl [0, 1] rfl rfl rw_fst rfl ⟨Nat.le_of_ble_eq_true rfl, Nat.le_of_ble_eq_true rfl⟩ ⟨Nat.zero_le _, Nat.zero_le _⟩ rfl (Nat.le_of_ble_eq_true rfl) dX5_fate_37 ?_
      have hr0 := try_in hrel
      refine j_aload_n (pc := 40) X dX5_fate_40 rfl (q := 1) rfl ?_
      refine j_iload_n (pc := 41) X dX5_fate_41 rfl (q := 2) rfl ?_
      refine j_put (pc := 42) X (C := RX5) (T := TX5) (N := 10) wz_X5 tyX5 tyX5_ok nmX5 0 rfl rfl 5 (by decide) wf_X5_16 rfl rfl rfl (Nat.le_of_ble_eq_true rfl) (w' := (rW tA m (mfs m v.2.2 kp len (some bb) x.2.1 x.2.2.1 x.2.2.2.1 x.2.2.2.2) (cpR x.1 0 3210 535))) rfl dX5_fate_42 ?_
      have L_45 : ∀ (fu : Nat) (k9 : Nat) (R3 : Nat → Nat) (ft3 : Nat), k9 ≤ tGet 8 (sB s) bb 2 + 1 - sN s → RB (pasN k9 s).1 R3 → Out (cpR x.1 0 3210 535) R3 → (k9 = tGet 8 (sB s) bb 2 + 1 - sN s → ft3 = fatN (clo 10 s (tGet 8 (sB s) bb 2)) bb) → tGet 8 (sB s) bb 2 + 1 - sN s - k9 < fu → J l D G 0 0 (rW tA m (mfs m v.2.2 kp len (some bb) ft3 x.2.2.1 x.2.2.2.1 x.2.2.2.2) R3) [(0, .ref (m 0)), (1, .int (nI bb)), (2, .int (nI (tGet 8 (sB s) bb 2)))] 45 [] := by
        intro fu
        induction fu with
        | zero => intro k9 R3 ft3 hk9 hr3 ho3 hft hfu; exact absurd hfu (Nat.not_lt_zero _)
        | succ fu ih_45 =>
          intro k9 R3 ft3 hk9 hr3 ho3 hft hfu
          have eN9 := pasN_N (s := s) k9
          refine j_aload_n (pc := 45) X dX5_fate_45 rfl (q := 0) rfl ?_
          refine j_get (pc := 46) X (C := RX5) (T := TX5) (N := 10) wz_X5 0 rfl rfl 0 (by decide) wf_X5_7 rfl dX5_fate_46 ?_
          refine j_iconst (pc := 49) X (v := (nI 0)) dX5_fate_49 (by decide) ?_
          refine j_iald (pc := 50) X 1 (i := 0) rfl (by omega) (by omega) dX5_fate_50 ?_
          refine j_top (v' := nI (sN ((pasN k9 s).1))) (congrArg nI (RB.n0 hr3)) ?_
          refine j_iload_n (pc := 51) X dX5_fate_51 rfl (q := 2) rfl ?_
          refine j_icmp_gt (pc := 52) X (tgt := 62) (P := (tGet 8 (sB s) bb 2) < (sN ((pasN k9 s).1))) dX5_fate_52 (by decide) (nI_ltI (by omega) (by omega)) (fun h52 => ?_) (fun h52 => ?_)
          · skip
            refine j_aload_n (pc := 62) X dX5_fate_62 rfl (q := 0) rfl ?_
            refine j_bipush (pc := 63) X (v := (-5)) dX5_fate_63 (by decide) ?_
            refine j_put (pc := 65) X (C := RX5) (T := TX5) (N := 10) wz_X5 tyX5 tyX5_ok nmX5 0 rfl rfl 5 (by decide) wf_X5_16 rfl rfl rfl (Nat.le_of_ble_eq_true rfl) (w' := (rW tA m (mfs m v.2.2 kp len none ft3 x.2.2.1 x.2.2.2.1 x.2.2.2.2) R3)) rfl dX5_fate_65 ?_
            refine j_aload_n (pc := 68) X dX5_fate_68 rfl (q := 0) rfl ?_
            refine j_sipush (pc := 69) X (v := (nI 3210)) dX5_fate_69 (by decide) ?_
            refine j_iconst (pc := 72) X (v := (nI 0)) dX5_fate_72 (by decide) ?_
            refine j_callV (pc := 73) X (st := []) (w' := (rW tA m (mfs m v.2.2 kp len none ft3 x.2.2.1 x.2.2.2.1 x.2.2.2.2) (cpR R3 3210 0 535))) (c_X5_copy l D tA m (mfs m v.2.2 kp len none ft3 x.2.2.1 x.2.2.2.1 x.2.2.2.2) R3 3210 0 (by omega) (by omega) (by omega)) cd_X5_copy wm_X5_27 0 rfl rfl rfl [0, 1] rfl rfl rw_fst rfl ⟨Nat.le_of_ble_eq_true rfl, Nat.le_of_ble_eq_true rfl⟩ ⟨Nat.zero_le _, Nat.zero_le _⟩ rfl (Nat.le_of_ble_eq_true rfl) dX5_fate_73 ?_
            refine j_aload_n (pc := 76) X dX5_fate_76 rfl (q := 0) rfl ?_
            refine j_get (pc := 77) X (C := RX5) (T := TX5) (N := 10) wz_X5 0 rfl rfl 6 (by decide) wf_X5_101 rfl dX5_fate_77 ?_
            refine j_top (v' := nI (fatN (clo 10 s (tGet 8 (sB s) bb 2)) bb)) (congrArg nI (hft (by omega))) ?_
            have e : oFate s (nI bb) = ((nI (fatN (clo 10 s (tGet 8 (sB s) bb 2)) bb)), some (clo 10 s (tGet 8 (sB s) bb 2))) := by unfold oFate; simp only [ebb]; rw [if_pos h5, if_pos (of_decide_eq_true h15)] <;> rfl
            exact j_endIy (pc := 80) E dX5_fate_80 (cpR R3 3210 0 535, ft3, x.2.2.1, x.2.2.2.1, x.2.2.2.2) (try_back hrel ho3) (by rw [e]) rfl
          · skip
            refine j_aload_n (pc := 55) X dX5_fate_55 rfl (q := 0) rfl ?_
            have hok3 := (hok.pas k9 (by omega)).1
            refine j_callVy (pc := 56) X (st := []) (w' := fun R56 => (rW tA m (mfs m v.2.2 kp len (some bb) (fatP (some bb) (clo 10 (pasN k9 s).1 (sN (pasN k9 s).1)) ft3 (sB (clo 10 (pasN k9 s).1 (sN (pasN k9 s).1))).1) x.2.2.1 x.2.2.2.1 x.2.2.2.2) R56)) (c_X5_passOne l D tA m R3 (pasN k9 s).1 v.2.2 kp len (some bb) ft3 x.2.2.1 x.2.2.2.1 x.2.2.2.2 hr3 hok3.1 hwt9 hok3.2.1) cd_X5_passOne wm_X5_120 0 rfl rfl rfl [0, 1] rfl rfl (fun _ => rw_fst) (fun _ => rfl) ⟨Nat.le_of_ble_eq_true rfl, Nat.le_of_ble_eq_true rfl⟩ ⟨Nat.zero_le _, Nat.zero_le _⟩ rfl (Nat.le_of_ble_eq_true rfl) dX5_fate_56 (fun R56 hu56 => ?_)
            obtain ⟨hr56, ho56⟩ := hu56
            refine j_goto (pc := 59) X (tgt := 45) dX5_fate_59 (by decide) ?_
            refine j_lv X (lv' := [(0, .ref (m 0)), (1, .int (nI bb)), (2, .int (nI (tGet 8 (sB s) bb 2)))]) [0, 1, 2] rfl ?_
            exact ih_45 (k9 + 1) R56 (fatP (some bb) (clo 10 (pasN k9 s).1 (sN (pasN k9 s).1)) ft3 (sB (clo 10 (pasN k9 s).1 (sN (pasN k9 s).1))).1) (by omega) hr56 (Out.tr ho3 ho56) (fun q => fatP_end hok hc5 h50 rfl hb0.2.2.1 (by omega)) (by omega)
      refine j_lv X (lv' := [(0, .ref (m 0)), (1, .int (nI bb)), (2, .int (nI (tGet 8 (sB s) bb 2)))]) [1, 2, 0] rfl ?_
      exact L_45 _ 0 (cpR x.1 0 3210 535) x.2.1 (Nat.zero_le _) hr0 Out.rf (fun q => by omega) (Nat.lt_succ_self _)
    · skip
      skip
      refine j_bipush (pc := 18) X (v := (-4)) dX5_fate_18 (by decide) ?_
      have e : oFate s (nI bb) = ((-4), none) := by unfold oFate; simp only [ebb]; rw [if_pos h5, if_neg (fun q => h15 (decide_eq_true q))] <;> rfl
      exact j_endIy (pc := 20) E dX5_fate_20 x hrel (by rw [e]) rfl
  · skip
    skip
    refine j_iconst (pc := 8) X (v := (-1)) dX5_fate_8 (by decide) ?_
    have e : oFate s b0 = ((-1), none) := by unfold oFate; rw [if_neg h5] <;> rfl
    exact j_endIy (pc := 9) E dX5_fate_9 x hrel (by rw [e]) rfl
