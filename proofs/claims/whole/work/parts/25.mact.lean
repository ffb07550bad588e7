abbrev MX : Type := (Nat → Nat) × Nat × Nat × Int32 × Int32
/-- the reference's cells but the text -/
def mW (tA : Nat → ClassId) (m : Nat → Nat) (st : Nat) (kp : Bool) (len : Nat) (x : MX) : va_W := rW tA m (mfs m st kp len none x.2.1 x.2.2.1 x.2.2.2.1 x.2.2.2.2) x.1
theorem mW_fst {tA : Nat → ClassId} {m : Nat → Nat} {st st' : Nat} {kp kp' : Bool} {len len' : Nat} {x x' : MX} : (mW tA m st' kp' len' x').map Prod.fst = (mW tA m st kp len x).map Prod.fst := rfl
theorem nwt {q : Nat} (h : (none : Option Nat) = some q) : q < 2 ^ 31 := by cases h
set_option maxHeartbeats 4000000 in
set_option maxRecDepth 100000 in
theorem c_X5_giveX (l : Launch) (D : va_G) (tA : Nat → ClassId) (m : Nat → Nat) (fs : List Value) (R : Nat → Nat) (b i t : Nat) (hb : b < 30) (hi : i < 2 ^ 30) (ht : t < 200) : Kx l D tA yX5_give cX5_give 4 none 1 21 [.ref (m 0), .int (nI b), .int (nI i), .int (nI t)] (rW tA m fs R) none (rW tA m fs (va_up (va_up (va_up R (45 + 8 * b + 1) i) (45 + 8 * b + 2) t) (45 + 8 * b + 6) (R (335 + t)))) := by
  refine kx_void rfl (Nat.le_of_ble_eq_true rfl) (fun G X E => ?_)
  show J l D G 0 0 (rW tA m fs R) [(0, .ref (m 0)), (1, .int (nI b)), (2, .int (nI i)), (3, .int (nI t))] 0 []
  refine j_aload_n (pc := 0) X dX5_give_0 rfl (q := 0) rfl ?_
  refine j_get (pc := 1) X (C := RX5) (T := TX5) (N := 10) wz_X5 0 rfl rfl 0 (by decide) wf_X5_7 rfl dX5_give_1 ?_
  refine j_iload_n (pc := 4) X dX5_give_4 rfl (q := 1) rfl ?_
  refine j_iconst (pc := 5) X (v := (nI 1)) dX5_give_5 (by decide) ?_
  refine j_callSR (pc := 6) X (st := [.ref (m 1)])  (c_X5_ofBooking l D tA b 1 ) cd_X5_ofBooking wm_X5_53 rfl [] rfl rfl ⟨Nat.le_of_ble_eq_true rfl, Nat.le_of_ble_eq_true rfl⟩ ⟨Nat.zero_le _, Nat.zero_le _⟩ rfl (Nat.le_of_ble_eq_true rfl) dX5_give_6 ?_
  refine j_iload_n (pc := 9) X dX5_give_9 rfl (q := 2) rfl ?_
  refine j_iast (pc := 10) X 1 (i := (45 + 8 * b + 1)) (v := i) rfl (by omega) (by omega) (w' := (rW tA m fs (va_up R (45 + 8 * b + 1) i))) rfl dX5_give_10 ?_
  refine j_aload_n (pc := 11) X dX5_give_11 rfl (q := 0) rfl ?_
  refine j_get (pc := 12) X (C := RX5) (T := TX5) (N := 10) wz_X5 0 rfl rfl 0 (by decide) wf_X5_7 rfl dX5_give_12 ?_
  refine j_iload_n (pc := 15) X dX5_give_15 rfl (q := 1) rfl ?_
  refine j_iconst (pc := 16) X (v := (nI 2)) dX5_give_16 (by decide) ?_
  refine j_callSR (pc := 17) X (st := [.ref (m 1)])  (c_X5_ofBooking l D tA b 2 ) cd_X5_ofBooking wm_X5_53 rfl [] rfl rfl ⟨Nat.le_of_ble_eq_true rfl, Nat.le_of_ble_eq_true rfl⟩ ⟨Nat.zero_le _, Nat.zero_le _⟩ rfl (Nat.le_of_ble_eq_true rfl) dX5_give_17 ?_
  refine j_iload_n (pc := 20) X dX5_give_20 rfl (q := 3) rfl ?_
  refine j_iast (pc := 21) X 1 (i := (45 + 8 * b + 2)) (v := t) rfl (by omega) (by omega) (w' := (rW tA m fs (va_up (va_up R (45 + 8 * b + 1) i) (45 + 8 * b + 2) t))) rfl dX5_give_21 ?_
  refine j_aload_n (pc := 22) X dX5_give_22 rfl (q := 0) rfl ?_
  refine j_get (pc := 23) X (C := RX5) (T := TX5) (N := 10) wz_X5 0 rfl rfl 0 (by decide) wf_X5_7 rfl dX5_give_23 ?_
  refine j_iload_n (pc := 26) X dX5_give_26 rfl (q := 1) rfl ?_
  refine j_bipush (pc := 27) X (v := (nI 6)) dX5_give_27 (by decide) ?_
  refine j_callSR (pc := 29) X (st := [.ref (m 1)])  (c_X5_ofBooking l D tA b 6 ) cd_X5_ofBooking wm_X5_53 rfl [] rfl rfl ⟨Nat.le_of_ble_eq_true rfl, Nat.le_of_ble_eq_true rfl⟩ ⟨Nat.zero_le _, Nat.zero_le _⟩ rfl (Nat.le_of_ble_eq_true rfl) dX5_give_29 ?_
  refine j_aload_n (pc := 32) X dX5_give_32 rfl (q := 0) rfl ?_
  refine j_get (pc := 33) X (C := RX5) (T := TX5) (N := 10) wz_X5 0 rfl rfl 0 (by decide) wf_X5_7 rfl dX5_give_33 ?_
  refine j_sipush (pc := 36) X (v := (nI 335)) dX5_give_36 (by decide) ?_
  refine j_iload_n (pc := 39) X dX5_give_39 rfl (q := 3) rfl ?_
  refine j_iadd (pc := 40) X (v := (nI (335 + t))) dX5_give_40 (nI_add _ _) ?_
  refine j_iald (pc := 41) X 1 (i := (335 + t)) rfl (by omega) (by omega) dX5_give_41 ?_
  refine j_top (v' := nI (R (335 + t))) (by repeat rw [up_ne _ _ (by omega)]) ?_
  refine j_iast (pc := 42) X 1 (i := (45 + 8 * b + 6)) (v := (R (335 + t))) rfl (by omega) (by omega) (w' := (rW tA m fs (va_up (va_up (va_up R (45 + 8 * b + 1) i) (45 + 8 * b + 2) t) (45 + 8 * b + 6) (R (335 + t))))) rfl dX5_give_42 ?_
  exact j_endV (pc := 43) E dX5_give_43 rfl
theorem cd_X5_addMachine : kCardV yX5_addMachine cX5_addMachine 4 (some .int) 2 := ⟨⟨wc_X5_addMachine, wi_X5, by decide +kernel, by decide +kernel, rfl⟩, wk_X5_addMachine, ws_X5_addMachine⟩
set_option maxHeartbeats 4000000 in
set_option maxRecDepth 100000 in
theorem c_X5_addMachine (l : Launch) (D : va_G) (tA : Nat → ClassId) (m : Nat → Nat) (x : MX) (s sn : Sg) (v : Hs) (kp : Bool) (len : Nat) (st0 bl0 : Int32) (hrel : RelM s sn v kp x.1) : Ky l D tA yX5_addMachine cX5_addMachine 4 (some .int) 2 44 [.ref (m 0), .int st0, .int bl0] (mW tA m v.2.2 kp len x) (S := MX) (fun y => RelM (aS s (oAddMachine s st0 bl0).2) sn (aH v s (oAddMachine s st0 bl0).2) kp y.1) (fun y => some (.int ((oAddMachine s st0 bl0).1))) (fun y => mW tA m (aH v s (oAddMachine s st0 bl0).2).2.2 kp len y) := by
  refine ky_int rfl (Nat.le_of_ble_eq_true rfl) (fun G X E => ?_)
  show J l D G 0 0 (mW tA m v.2.2 kp len x) [(0, .ref (m 0)), (1, .int st0), (2, .int bl0)] 0 []
  have hr := hrel.1
  have hok := hrel.2.1
  have hw := hok.1
  have hn := hw.n
  have hsz := hrel.2.2.2.1
  refine j_iload_n (pc := 0) X dX5_addMachine_0 rfl (q := 1) rfl ?_
  refine j_bipush (pc := 1) X (v := (nI 10)) dX5_addMachine_1 (by decide) ?_
  refine j_sipush (pc := 3) X (v := (nI 200)) dX5_addMachine_3 (by decide) ?_
  refine j_callSR (pc := 6) X (st := [])  (c_X5_in l D tA st0 (nI 10) (nI 200) ) cd_X5_in wm_X5_20 rfl [] rfl rfl ⟨Nat.le_of_ble_eq_true rfl, Nat.le_of_ble_eq_true rfl⟩ ⟨Nat.zero_le _, Nat.zero_le _⟩ rfl (Nat.le_of_ble_eq_true rfl) dX5_addMachine_6 ?_
  refine j_if_eq (pc := 9) X (tgt := 22) (P := (isW st0 (nI 10) (nI 200)) = false) dX5_addMachine_9 (by decide) (bI_0 _) (fun h9 => ?_) (fun h9 => ?_)
  · skip
    have h9 := nf5 h9
    refine j_bipush (pc := 22) X (v := (-2)) dX5_addMachine_22 (by decide) ?_
    have e : oAddMachine s st0 bl0 = ((-2), none) := by unfold oAddMachine; rw [if_neg (fun q => h9 q.1)] <;> rfl
    exact j_endIy (pc := 24) E dX5_addMachine_24 x (by rw [e]; exact hrel) (by rw [e]) (by rw [e]; rfl)
  · skip
    have h9 := t5 h9
    obtain ⟨st9, hc9, rfl⟩ := isW_t (by omega) (by omega) h9
    have est9 : tn (nI st9) = st9 := tn_nI (by omega)
    refine j_iload_n (pc := 12) X dX5_addMachine_12 rfl (q := 2) rfl ?_
    refine j_iconst (pc := 13) X (v := (nI 0)) dX5_addMachine_13 (by decide) ?_
    refine j_bipush (pc := 14) X (v := (nI 12)) dX5_addMachine_14 (by decide) ?_
    refine j_callSR (pc := 16) X (st := [])  (c_X5_in l D tA bl0 (nI 0) (nI 12) ) cd_X5_in wm_X5_20 rfl [] rfl rfl ⟨Nat.le_of_ble_eq_true rfl, Nat.le_of_ble_eq_true rfl⟩ ⟨Nat.zero_le _, Nat.zero_le _⟩ rfl (Nat.le_of_ble_eq_true rfl) dX5_addMachine_16 ?_
    refine j_if_ne (pc := 19) X (tgt := 25) (P := (isW bl0 (nI 0) (nI 12)) = true) dX5_addMachine_19 (by decide) (bI_n0 _) (fun h19 => ?_) (fun h19 => ?_)
    · skip
      skip
      obtain ⟨bl9, hc19, rfl⟩ := isW_t (by omega) (by omega) h19
      have ebl9 : tn (nI bl9) = bl9 := tn_nI (by omega)
      refine j_aload_n (pc := 25) X dX5_addMachine_25 rfl (q := 0) rfl ?_
      refine j_get (pc := 26) X (C := RX5) (T := TX5) (N := 10) wz_X5 0 rfl rfl 0 (by decide) wf_X5_7 rfl dX5_addMachine_26 ?_
      refine j_iconst (pc := 29) X (v := (nI 1)) dX5_addMachine_29 (by decide) ?_
      refine j_iald (pc := 30) X 1 (i := 1) rfl (by omega) (by omega) dX5_addMachine_30 ?_
      refine j_top (v' := nI ((sM s).1)) (congrArg nI (RB.n1 hr)) ?_
      refine j_iconst (pc := 31) X (v := (nI 5)) dX5_addMachine_31 (by decide) ?_
      refine j_icmp_ne (pc := 32) X (tgt := 38) (P := ¬ ((sM s).1) = 5) dX5_addMachine_32 (by decide) (not_congr (nI_eq (by omega) (by omega))) (fun h32 => ?_) (fun h32 => ?_)
      · skip
        refine j_aload_n (pc := 38) X dX5_addMachine_38 rfl (q := 0) rfl ?_
        refine j_callV (pc := 39) X (st := []) (w' := (rW tA m (mfs m (recN v.2.2) kp len none x.2.1 x.2.2.1 x.2.2.2.1 x.2.2.2.2) (recR x.1 v.2.2))) (c_X5_record l D tA m x.1 v.2.2 kp len none x.2.1 x.2.2.1 x.2.2.2.1 x.2.2.2.2 hrel.2.2.2.1) cd_X5_record wm_X5_35 0 rfl rfl rfl [0, 1] rfl rfl rw_fst rfl ⟨Nat.le_of_ble_eq_true rfl, Nat.le_of_ble_eq_true rfl⟩ ⟨Nat.zero_le _, Nat.zero_le _⟩ rfl (Nat.le_of_ble_eq_true rfl) dX5_addMachine_39 ?_
        have hr2 : RB s (recR x.1 v.2.2) := hrel.rec0
        refine j_ws (w2 := (rW tA m (mfs m ((hPush v s).2.2) kp len none x.2.1 x.2.2.1 x.2.2.2.1 x.2.2.2.2) (recR x.1 v.2.2))) (by rw [recN_sz (s := s) hrel.2.2.2.1]) ?_
        refine j_aload_n (pc := 42) X dX5_addMachine_42 rfl (q := 0) rfl ?_
        refine j_get (pc := 43) X (C := RX5) (T := TX5) (N := 10) wz_X5 0 rfl rfl 0 (by decide) wf_X5_7 rfl dX5_addMachine_43 ?_
        refine j_iconst (pc := 46) X (v := (nI 1)) dX5_addMachine_46 (by decide) ?_
        refine j_iald (pc := 47) X 1 (i := 1) rfl (by omega) (by omega) dX5_addMachine_47 ?_
        refine j_top (v' := nI ((sM s).1)) (congrArg nI (RB.n1 hr2)) ?_
        refine j_istore_n (pc := 48) X (lv' := [(3, .int (nI ((sM s).1))), (0, .ref (m 0)), (1, .int (nI st9)), (2, .int (nI bl9))]) dX5_addMachine_48 rfl (by decide) rfl ?_
        refine j_aload_n (pc := 49) X dX5_addMachine_49 rfl (q := 1) rfl ?_
        refine j_get (pc := 50) X (C := RX5) (T := TX5) (N := 10) wz_X5 0 rfl rfl 0 (by decide) wf_X5_7 rfl dX5_addMachine_50 ?_
        refine j_iload_n (pc := 53) X dX5_addMachine_53 rfl (q := 0) rfl ?_
        refine j_iconst (pc := 54) X (v := (nI 0)) dX5_addMachine_54 (by decide) ?_
        refine j_callSR (pc := 55) X (st := [.ref (m 1)])  (c_X5_of l D tA ((sM s).1) 0 ) cd_X5_of wm_X5_38 rfl [] rfl rfl ⟨Nat.le_of_ble_eq_true rfl, Nat.le_of_ble_eq_true rfl⟩ ⟨Nat.zero_le _, Nat.zero_le _⟩ rfl (Nat.le_of_ble_eq_true rfl) dX5_addMachine_55 ?_
        refine j_iload_n (pc := 58) X dX5_addMachine_58 rfl (q := 2) rfl ?_
        refine j_iast (pc := 59) X 1 (i := (9 + 4 * ((sM s).1) + 0)) (v := st9) rfl (by omega) (by omega) (w' := (rW tA m (mfs m ((hPush v s).2.2) kp len none x.2.1 x.2.2.1 x.2.2.2.1 x.2.2.2.2) (va_up (recR x.1 v.2.2) (9 + 4 * ((sM s).1) + 0) st9))) rfl dX5_addMachine_59 ?_
        refine j_aload_n (pc := 60) X dX5_addMachine_60 rfl (q := 1) rfl ?_
        refine j_get (pc := 61) X (C := RX5) (T := TX5) (N := 10) wz_X5 0 rfl rfl 0 (by decide) wf_X5_7 rfl dX5_addMachine_61 ?_
        refine j_iload_n (pc := 64) X dX5_addMachine_64 rfl (q := 0) rfl ?_
        refine j_iconst (pc := 65) X (v := (nI 1)) dX5_addMachine_65 (by decide) ?_
        refine j_callSR (pc := 66) X (st := [.ref (m 1)])  (c_X5_of l D tA ((sM s).1) 1 ) cd_X5_of wm_X5_38 rfl [] rfl rfl ⟨Nat.le_of_ble_eq_true rfl, Nat.le_of_ble_eq_true rfl⟩ ⟨Nat.zero_le _, Nat.zero_le _⟩ rfl (Nat.le_of_ble_eq_true rfl) dX5_addMachine_66 ?_
        refine j_iload_n (pc := 69) X dX5_addMachine_69 rfl (q := 3) rfl ?_
        refine j_iast (pc := 70) X 1 (i := (9 + 4 * ((sM s).1) + 1)) (v := bl9) rfl (by omega) (by omega) (w' := (rW tA m (mfs m ((hPush v s).2.2) kp len none x.2.1 x.2.2.1 x.2.2.2.1 x.2.2.2.2) (va_up (va_up (recR x.1 v.2.2) (9 + 4 * ((sM s).1) + 0) st9) (9 + 4 * ((sM s).1) + 1) bl9))) rfl dX5_addMachine_70 ?_
        refine j_aload_n (pc := 71) X dX5_addMachine_71 rfl (q := 1) rfl ?_
        refine j_get (pc := 72) X (C := RX5) (T := TX5) (N := 10) wz_X5 0 rfl rfl 0 (by decide) wf_X5_7 rfl dX5_addMachine_72 ?_
        refine j_iload_n (pc := 75) X dX5_addMachine_75 rfl (q := 0) rfl ?_
        refine j_iconst (pc := 76) X (v := (nI 2)) dX5_addMachine_76 (by decide) ?_
        refine j_callSR (pc := 77) X (st := [.ref (m 1)])  (c_X5_of l D tA ((sM s).1) 2 ) cd_X5_of wm_X5_38 rfl [] rfl rfl ⟨Nat.le_of_ble_eq_true rfl, Nat.le_of_ble_eq_true rfl⟩ ⟨Nat.zero_le _, Nat.zero_le _⟩ rfl (Nat.le_of_ble_eq_true rfl) dX5_addMachine_77 ?_
        refine j_iconst (pc := 80) X (v := (nI 0)) dX5_addMachine_80 (by decide) ?_
        refine j_iast (pc := 81) X 1 (i := (9 + 4 * ((sM s).1) + 2)) (v := 0) rfl (by omega) (by omega) (w' := (rW tA m (mfs m ((hPush v s).2.2) kp len none x.2.1 x.2.2.1 x.2.2.2.1 x.2.2.2.2) (va_up (va_up (va_up (recR x.1 v.2.2) (9 + 4 * ((sM s).1) + 0) st9) (9 + 4 * ((sM s).1) + 1) bl9) (9 + 4 * ((sM s).1) + 2) 0))) rfl dX5_addMachine_81 ?_
        refine j_aload_n (pc := 82) X dX5_addMachine_82 rfl (q := 1) rfl ?_
        refine j_get (pc := 83) X (C := RX5) (T := TX5) (N := 10) wz_X5 0 rfl rfl 0 (by decide) wf_X5_7 rfl dX5_addMachine_83 ?_
        refine j_iload_n (pc := 86) X dX5_addMachine_86 rfl (q := 0) rfl ?_
        refine j_iconst (pc := 87) X (v := (nI 3)) dX5_addMachine_87 (by decide) ?_
        refine j_callSR (pc := 88) X (st := [.ref (m 1)])  (c_X5_of l D tA ((sM s).1) 3 ) cd_X5_of wm_X5_38 rfl [] rfl rfl ⟨Nat.le_of_ble_eq_true rfl, Nat.le_of_ble_eq_true rfl⟩ ⟨Nat.zero_le _, Nat.zero_le _⟩ rfl (Nat.le_of_ble_eq_true rfl) dX5_addMachine_88 ?_
        refine j_iconst (pc := 91) X (v := (nI 0)) dX5_addMachine_91 (by decide) ?_
        refine j_iast (pc := 92) X 1 (i := (9 + 4 * ((sM s).1) + 3)) (v := 0) rfl (by omega) (by omega) (w' := (rW tA m (mfs m ((hPush v s).2.2) kp len none x.2.1 x.2.2.1 x.2.2.2.1 x.2.2.2.2) (va_up (va_up (va_up (va_up (recR x.1 v.2.2) (9 + 4 * ((sM s).1) + 0) st9) (9 + 4 * ((sM s).1) + 1) bl9) (9 + 4 * ((sM s).1) + 2) 0) (9 + 4 * ((sM s).1) + 3) 0))) rfl dX5_addMachine_92 ?_
        refine j_aload_n (pc := 93) X dX5_addMachine_93 rfl (q := 1) rfl ?_
        refine j_get (pc := 94) X (C := RX5) (T := TX5) (N := 10) wz_X5 0 rfl rfl 0 (by decide) wf_X5_7 rfl dX5_addMachine_94 ?_
        refine j_iconst (pc := 97) X (v := (nI 1)) dX5_addMachine_97 (by decide) ?_
        refine j_dup2 (pc := 98) X dX5_addMachine_98 rfl rfl ?_
        refine j_iald (pc := 99) X 1 (i := 1) rfl (by omega) (by omega) dX5_addMachine_99 ?_
        refine j_top (v' := nI ((sM s).1)) (by (repeat rw [up_ne _ _ (by omega)]); rw [hr2.n1]) ?_
        refine j_iconst (pc := 100) X (v := (nI 1)) dX5_addMachine_100 (by decide) ?_
        refine j_iadd (pc := 101) X (v := (nI (((sM s).1) + 1))) dX5_addMachine_101 (nI_add _ _) ?_
        refine j_iast (pc := 102) X 1 (i := 1) (v := (((sM s).1) + 1)) rfl (by omega) (by omega) (w' := (rW tA m (mfs m ((hPush v s).2.2) kp len none x.2.1 x.2.2.1 x.2.2.2.1 x.2.2.2.2) (va_up (va_up (va_up (va_up (va_up (recR x.1 v.2.2) (9 + 4 * ((sM s).1) + 0) st9) (9 + 4 * ((sM s).1) + 1) bl9) (9 + 4 * ((sM s).1) + 2) 0) (9 + 4 * ((sM s).1) + 3) 0) 1 (((sM s).1) + 1)))) rfl dX5_addMachine_102 ?_
        refine j_iload_n (pc := 103) X dX5_addMachine_103 rfl (q := 0) rfl ?_
        have e : oAddMachine s (nI st9) (nI bl9) = ((nI ((sM s).1)), (some (pMach s st9 bl9))) := by unfold oAddMachine; simp only [est9, ebl9]; rw [if_pos ⟨h9, h19⟩, if_pos (by omega)] <;> rfl
        have hZ : RB (pMach s st9 bl9) (va_up (va_up (va_up (va_up (va_up (recR x.1 v.2.2) (9 + 4 * ((sM s).1) + 0) st9) (9 + 4 * ((sM s).1) + 1) bl9) (9 + 4 * ((sM s).1) + 2) 0) (9 + 4 * ((sM s).1) + 3) 0) 1 (((sM s).1) + 1)) := hr2.addM hw (by omega) (fun j h1 h2 => by repeat rw [up_ne _ _ (by omega)]) (by (repeat rw [up_ne _ _ (by omega)]); exact up_same _ _ _) (by (repeat rw [up_ne _ _ (by omega)]); exact up_same _ _ _) (by (repeat rw [up_ne _ _ (by omega)]); exact up_same _ _ _) (by (repeat rw [up_ne _ _ (by omega)]); exact up_same _ _ _) (by (repeat rw [up_ne _ _ (by omega)]); exact up_same _ _ _)
        exact j_endIy (pc := 104) E dX5_addMachine_104 (va_up (va_up (va_up (va_up (va_up (recR x.1 v.2.2) (9 + 4 * ((sM s).1) + 0) st9) (9 + 4 * ((sM s).1) + 1) bl9) (9 + 4 * ((sM s).1) + 2) 0) (9 + 4 * ((sM s).1) + 3) 0) 1 (((sM s).1) + 1), x.2.1, x.2.2.1, x.2.2.2.1, x.2.2.2.2) (by rw [e]; exact hrel.act (Out.up (Out.up (Out.up (Out.up (Out.up Out.rf (by omega)) (by omega)) (by omega)) (by omega)) (by omega)) hZ (hok.mach (by omega) (by omega) (by omega))) (by rw [e]) (by rw [e]; rfl)
      · skip
        refine j_bipush (pc := 35) X (v := (-3)) dX5_addMachine_35 (by decide) ?_
        have e : oAddMachine s (nI st9) (nI bl9) = ((-3), none) := by unfold oAddMachine; simp only [est9, ebl9]; rw [if_pos ⟨h9, h19⟩, if_neg (by omega)] <;> rfl
        exact j_endIy (pc := 37) E dX5_addMachine_37 x (by rw [e]; exact hrel) (by rw [e]) (by rw [e]; rfl)
    · skip
      skip
      refine j_bipush (pc := 22) X (v := (-2)) dX5_addMachine_22 (by decide) ?_
      have e : oAddMachine s (nI st9) bl0 = ((-2), none) := by unfold oAddMachine; simp only [est9]; rw [if_neg (fun q => h19 q.2)] <;> rfl
      exact j_endIy (pc := 24) E dX5_addMachine_24 x (by rw [e]; exact hrel) (by rw [e]) (by rw [e]; rfl)
theorem cd_X5_addMember : kCardV yX5_addMember cX5_addMember 2 (some .int) 0 := ⟨⟨wc_X5_addMember, wi_X5, by decide +kernel, by decide +kernel, rfl⟩, wk_X5_addMember, ws_X5_addMember⟩
set_option maxHeartbeats 4000000 in
set_option maxRecDepth 100000 in
theorem c_X5_addMember (l : Launch) (D : va_G) (tA : Nat → ClassId) (m : Nat → Nat) (x : MX) (s sn : Sg) (v : Hs) (kp : Bool) (len : Nat) (hrel : RelM s sn v kp x.1) : Ky l D tA yX5_addMember cX5_addMember 2 (some .int) 2 44 [.ref (m 0)] (mW tA m v.2.2 kp len x) (S := MX) (fun y => RelM (aS s (oAddMember s ).2) sn (aH v s (oAddMember s ).2) kp y.1) (fun y => some (.int ((oAddMember s ).1))) (fun y => mW tA m (aH v s (oAddMember s ).2).2.2 kp len y) := by
  refine ky_int rfl (Nat.le_of_ble_eq_true rfl) (fun G X E => ?_)
  show J l D G 0 0 (mW tA m v.2.2 kp len x) [(0, .ref (m 0))] 0 []
  have hr := hrel.1
  have hok := hrel.2.1
  have hw := hok.1
  have hn := hw.n
  have hsz := hrel.2.2.2.1
  refine j_aload_n (pc := 0) X dX5_addMember_0 rfl (q := 0) rfl ?_
  refine j_get (pc := 1) X (C := RX5) (T := TX5) (N := 10) wz_X5 0 rfl rfl 0 (by decide) wf_X5_7 rfl dX5_addMember_1 ?_
  refine j_iconst (pc := 4) X (v := (nI 2)) dX5_addMember_4 (by decide) ?_
  refine j_iald (pc := 5) X 1 (i := 2) rfl (by omega) (by omega) dX5_addMember_5 ?_
  refine j_top (v' := nI ((sP s).1)) (congrArg nI (RB.n2 hr)) ?_
  refine j_bipush (pc := 6) X (v := (nI 8)) dX5_addMember_6 (by decide) ?_
  refine j_icmp_ne (pc := 8) X (tgt := 14) (P := ¬ ((sP s).1) = 8) dX5_addMember_8 (by decide) (not_congr (nI_eq (by omega) (by omega))) (fun h8 => ?_) (fun h8 => ?_)
  · skip
    refine j_aload_n (pc := 14) X dX5_addMember_14 rfl (q := 0) rfl ?_
    refine j_callV (pc := 15) X (st := []) (w' := (rW tA m (mfs m (recN v.2.2) kp len none x.2.1 x.2.2.1 x.2.2.2.1 x.2.2.2.2) (recR x.1 v.2.2))) (c_X5_record l D tA m x.1 v.2.2 kp len none x.2.1 x.2.2.1 x.2.2.2.1 x.2.2.2.2 hrel.2.2.2.1) cd_X5_record wm_X5_35 0 rfl rfl rfl [0, 1] rfl rfl rw_fst rfl ⟨Nat.le_of_ble_eq_true rfl, Nat.le_of_ble_eq_true rfl⟩ ⟨Nat.zero_le _, Nat.zero_le _⟩ rfl (Nat.le_of_ble_eq_true rfl) dX5_addMember_15 ?_
    have hr2 : RB s (recR x.1 v.2.2) := hrel.rec0
    refine j_ws (w2 := (rW tA m (mfs m ((hPush v s).2.2) kp len none x.2.1 x.2.2.1 x.2.2.2.1 x.2.2.2.2) (recR x.1 v.2.2))) (by rw [recN_sz (s := s) hrel.2.2.2.1]) ?_
    refine j_aload_n (pc := 18) X dX5_addMember_18 rfl (q := 0) rfl ?_
    refine j_get (pc := 19) X (C := RX5) (T := TX5) (N := 10) wz_X5 0 rfl rfl 0 (by decide) wf_X5_7 rfl dX5_addMember_19 ?_
    refine j_iconst (pc := 22) X (v := (nI 2)) dX5_addMember_22 (by decide) ?_
    refine j_iald (pc := 23) X 1 (i := 2) rfl (by omega) (by omega) dX5_addMember_23 ?_
    refine j_top (v' := nI ((sP s).1)) (congrArg nI (RB.n2 hr2)) ?_
    refine j_istore_n (pc := 24) X (lv' := [(1, .int (nI ((sP s).1))), (0, .ref (m 0))]) dX5_addMember_24 rfl (by decide) rfl ?_
    refine j_aload_n (pc := 25) X dX5_addMember_25 rfl (q := 1) rfl ?_
    refine j_get (pc := 26) X (C := RX5) (T := TX5) (N := 10) wz_X5 0 rfl rfl 0 (by decide) wf_X5_7 rfl dX5_addMember_26 ?_
    refine j_iload_n (pc := 29) X dX5_addMember_29 rfl (q := 0) rfl ?_
    refine j_iconst (pc := 30) X (v := (nI 0)) dX5_addMember_30 (by decide) ?_
    refine j_callSR (pc := 31) X (st := [.ref (m 1)])  (c_X5_ofMember l D tA ((sP s).1) 0 ) cd_X5_ofMember wm_X5_42 rfl [] rfl rfl ⟨Nat.le_of_ble_eq_true rfl, Nat.le_of_ble_eq_true rfl⟩ ⟨Nat.zero_le _, Nat.zero_le _⟩ rfl (Nat.le_of_ble_eq_true rfl) dX5_addMember_31 ?_
    refine j_iconst (pc := 34) X (v := (nI 0)) dX5_addMember_34 (by decide) ?_
    refine j_iast (pc := 35) X 1 (i := (29 + 2 * ((sP s).1) + 0)) (v := 0) rfl (by omega) (by omega) (w' := (rW tA m (mfs m ((hPush v s).2.2) kp len none x.2.1 x.2.2.1 x.2.2.2.1 x.2.2.2.2) (va_up (recR x.1 v.2.2) (29 + 2 * ((sP s).1) + 0) 0))) rfl dX5_addMember_35 ?_
    refine j_aload_n (pc := 36) X dX5_addMember_36 rfl (q := 1) rfl ?_
    refine j_get (pc := 37) X (C := RX5) (T := TX5) (N := 10) wz_X5 0 rfl rfl 0 (by decide) wf_X5_7 rfl dX5_addMember_37 ?_
    refine j_iload_n (pc := 40) X dX5_addMember_40 rfl (q := 0) rfl ?_
    refine j_iconst (pc := 41) X (v := (nI 1)) dX5_addMember_41 (by decide) ?_
    refine j_callSR (pc := 42) X (st := [.ref (m 1)])  (c_X5_ofMember l D tA ((sP s).1) 1 ) cd_X5_ofMember wm_X5_42 rfl [] rfl rfl ⟨Nat.le_of_ble_eq_true rfl, Nat.le_of_ble_eq_true rfl⟩ ⟨Nat.zero_le _, Nat.zero_le _⟩ rfl (Nat.le_of_ble_eq_true rfl) dX5_addMember_42 ?_
    refine j_iconst (pc := 45) X (v := (nI 0)) dX5_addMember_45 (by decide) ?_
    refine j_iast (pc := 46) X 1 (i := (29 + 2 * ((sP s).1) + 1)) (v := 0) rfl (by omega) (by omega) (w' := (rW tA m (mfs m ((hPush v s).2.2) kp len none x.2.1 x.2.2.1 x.2.2.2.1 x.2.2.2.2) (va_up (va_up (recR x.1 v.2.2) (29 + 2 * ((sP s).1) + 0) 0) (29 + 2 * ((sP s).1) + 1) 0))) rfl dX5_addMember_46 ?_
    refine j_aload_n (pc := 47) X dX5_addMember_47 rfl (q := 1) rfl ?_
    refine j_get (pc := 48) X (C := RX5) (T := TX5) (N := 10) wz_X5 0 rfl rfl 0 (by decide) wf_X5_7 rfl dX5_addMember_48 ?_
    refine j_iconst (pc := 51) X (v := (nI 2)) dX5_addMember_51 (by decide) ?_
    refine j_dup2 (pc := 52) X dX5_addMember_52 rfl rfl ?_
    refine j_iald (pc := 53) X 1 (i := 2) rfl (by omega) (by omega) dX5_addMember_53 ?_
    refine j_top (v' := nI ((sP s).1)) (by (repeat rw [up_ne _ _ (by omega)]); rw [hr2.n2]) ?_
    refine j_iconst (pc := 54) X (v := (nI 1)) dX5_addMember_54 (by decide) ?_
    refine j_iadd (pc := 55) X (v := (nI (((sP s).1) + 1))) dX5_addMember_55 (nI_add _ _) ?_
    refine j_iast (pc := 56) X 1 (i := 2) (v := (((sP s).1) + 1)) rfl (by omega) (by omega) (w' := (rW tA m (mfs m ((hPush v s).2.2) kp len none x.2.1 x.2.2.1 x.2.2.2.1 x.2.2.2.2) (va_up (va_up (va_up (recR x.1 v.2.2) (29 + 2 * ((sP s).1) + 0) 0) (29 + 2 * ((sP s).1) + 1) 0) 2 (((sP s).1) + 1)))) rfl dX5_addMember_56 ?_
    refine j_iload_n (pc := 57) X dX5_addMember_57 rfl (q := 0) rfl ?_
    have e : oAddMember s  = ((nI ((sP s).1)), (some (uP s (tAdd 2 (sP s))))) := by unfold oAddMember; rw [if_pos (by omega)] <;> rfl
    have hZ : RB (uP s (tAdd 2 (sP s))) (va_up (va_up (va_up (recR x.1 v.2.2) (29 + 2 * ((sP s).1) + 0) 0) (29 + 2 * ((sP s).1) + 1) 0) 2 (((sP s).1) + 1)) := hr2.addP hw (by omega) (fun j h1 h2 => by repeat rw [up_ne _ _ (by omega)]) (by (repeat rw [up_ne _ _ (by omega)]); exact up_same _ _ _) (by (repeat rw [up_ne _ _ (by omega)]); exact up_same _ _ _) (by (repeat rw [up_ne _ _ (by omega)]); exact up_same _ _ _)
    exact j_endIy (pc := 58) E dX5_addMember_58 (va_up (va_up (va_up (recR x.1 v.2.2) (29 + 2 * ((sP s).1) + 0) 0) (29 + 2 * ((sP s).1) + 1) 0) 2 (((sP s).1) + 1), x.2.1, x.2.2.1, x.2.2.2.1, x.2.2.2.2) (by rw [e]; exact hrel.act (Out.up (Out.up (Out.up Out.rf (by omega)) (by omega)) (by omega)) hZ (hok.memb (by omega))) (by rw [e]) (by rw [e]; rfl)
  · skip
    refine j_bipush (pc := 11) X (v := (-3)) dX5_addMember_11 (by decide) ?_
    have e : oAddMember s  = ((-3), none) := by unfold oAddMember; rw [if_neg (by omega)] <;> rfl
    exact j_endIy (pc := 13) E dX5_addMember_13 x (by rw [e]; exact hrel) (by rw [e]) (by rw [e]; rfl)
theorem cd_X5_setWind : kCardV yX5_setWind cX5_setWind 4 (some .int) 2 := ⟨⟨wc_X5_setWind, wi_X5, by decide +kernel, by decide +kernel, rfl⟩, wk_X5_setWind, ws_X5_setWind⟩
set_option maxHeartbeats 4000000 in
set_option maxRecDepth 100000 in
theorem c_X5_setWind (l : Launch) (D : va_G) (tA : Nat → ClassId) (m : Nat → Nat) (x : MX) (s sn : Sg) (v : Hs) (kp : Bool) (len : Nat) (t0 w0 : Int32) (hrel : RelM s sn v kp x.1) : Ky l D tA yX5_setWind cX5_setWind 4 (some .int) 2 44 [.ref (m 0), .int t0, .int w0] (mW tA m v.2.2 kp len x) (S := MX) (fun y => RelM (aS s (oSetWind s t0 w0).2) sn (aH v s (oSetWind s t0 w0).2) kp y.1) (fun y => some (.int ((oSetWind s t0 w0).1))) (fun y => mW tA m (aH v s (oSetWind s t0 w0).2).2.2 kp len y) := by
  refine ky_int rfl (Nat.le_of_ble_eq_true rfl) (fun G X E => ?_)
  show J l D G 0 0 (mW tA m v.2.2 kp len x) [(0, .ref (m 0)), (1, .int t0), (2, .int w0)] 0 []
  have hr := hrel.1
  have hok := hrel.2.1
  have hw := hok.1
  have hn := hw.n
  have hsz := hrel.2.2.2.1
  refine j_aload_n (pc := 0) X dX5_setWind_0 rfl (q := 0) rfl ?_
  refine j_iload_n (pc := 1) X dX5_setWind_1 rfl (q := 1) rfl ?_
  refine j_callVR (pc := 2) X (st := [])  (c_X5_isToCome l D tA m (mfs m v.2.2 kp len none x.2.1 x.2.2.1 x.2.2.2.1 x.2.2.2.2) x.1 s t0 hr hw ) cd_X5_isToCome wm_X5_45 0 rfl rfl rfl [0, 1] rfl rfl ⟨Nat.le_of_ble_eq_true rfl, Nat.le_of_ble_eq_true rfl⟩ ⟨Nat.zero_le _, Nat.zero_le _⟩ rfl (Nat.le_of_ble_eq_true rfl) dX5_setWind_2 ?_
  refine j_if_ne (pc := 5) X (tgt := 10) (P := (toCome s t0) = true) dX5_setWind_5 (by decide) (bI_n0 _) (fun h5 => ?_) (fun h5 => ?_)
  · skip
    skip
    obtain ⟨tt, hc5, rfl⟩ := toCome_t h5
    have ett : tn (nI tt) = tt := tn_nI (by omega)
    refine j_iload_n (pc := 10) X dX5_setWind_10 rfl (q := 2) rfl ?_
    refine j_iconst (pc := 11) X (v := (nI 0)) dX5_setWind_11 (by decide) ?_
    refine j_bipush (pc := 12) X (v := (nI 99)) dX5_setWind_12 (by decide) ?_
    refine j_callSR (pc := 14) X (st := [])  (c_X5_in l D tA w0 (nI 0) (nI 99) ) cd_X5_in wm_X5_20 rfl [] rfl rfl ⟨Nat.le_of_ble_eq_true rfl, Nat.le_of_ble_eq_true rfl⟩ ⟨Nat.zero_le _, Nat.zero_le _⟩ rfl (Nat.le_of_ble_eq_true rfl) dX5_setWind_14 ?_
    refine j_if_ne (pc := 17) X (tgt := 23) (P := (isW w0 (nI 0) (nI 99)) = true) dX5_setWind_17 (by decide) (bI_n0 _) (fun h17 => ?_) (fun h17 => ?_)
    · skip
      skip
      obtain ⟨ww, hc17, rfl⟩ := isW_t (by omega) (by omega) h17
      have eww : tn (nI ww) = ww := tn_nI (by omega)
      refine j_aload_n (pc := 23) X dX5_setWind_23 rfl (q := 0) rfl ?_
      refine j_get (pc := 24) X (C := RX5) (T := TX5) (N := 10) wz_X5 0 rfl rfl 0 (by decide) wf_X5_7 rfl dX5_setWind_24 ?_
      refine j_sipush (pc := 27) X (v := (nI 335)) dX5_setWind_27 (by decide) ?_
      refine j_iload_n (pc := 30) X dX5_setWind_30 rfl (q := 1) rfl ?_
      refine j_iadd (pc := 31) X (v := (nI (335 + tt))) dX5_setWind_31 (nI_add _ _) ?_
      refine j_iald (pc := 32) X 1 (i := (335 + tt)) rfl (by omega) (by omega) dX5_setWind_32 ?_
      refine j_top (v' := nI (sW s tt)) (congrArg nI (RB.w hr (by omega))) ?_
      have hwv := hw.w hc5.2
      refine j_istore_n (pc := 33) X (lv' := [(3, .int (nI (sW s tt))), (0, .ref (m 0)), (1, .int (nI tt)), (2, .int (nI ww))]) dX5_setWind_33 rfl (by decide) rfl ?_
      refine j_iload_n (pc := 34) X dX5_setWind_34 rfl (q := 0) rfl ?_
      refine j_iload_n (pc := 35) X dX5_setWind_35 rfl (q := 3) rfl ?_
      refine j_icmp_ne (pc := 36) X (tgt := 42) (P := ¬ (sW s tt) = ww) dX5_setWind_36 (by decide) (not_congr (nI_eq (by omega) (by omega))) (fun h36 => ?_) (fun h36 => ?_)
      · skip
        refine j_aload_n (pc := 42) X dX5_setWind_42 rfl (q := 1) rfl ?_
        refine j_callV (pc := 43) X (st := []) (w' := (rW tA m (mfs m (recN v.2.2) kp len none x.2.1 x.2.2.1 x.2.2.2.1 x.2.2.2.2) (recR x.1 v.2.2))) (c_X5_record l D tA m x.1 v.2.2 kp len none x.2.1 x.2.2.1 x.2.2.2.1 x.2.2.2.2 hrel.2.2.2.1) cd_X5_record wm_X5_35 0 rfl rfl rfl [0, 1] rfl rfl rw_fst rfl ⟨Nat.le_of_ble_eq_true rfl, Nat.le_of_ble_eq_true rfl⟩ ⟨Nat.zero_le _, Nat.zero_le _⟩ rfl (Nat.le_of_ble_eq_true rfl) dX5_setWind_43 ?_
        have hr2 : RB s (recR x.1 v.2.2) := hrel.rec0
        refine j_ws (w2 := (rW tA m (mfs m ((hPush v s).2.2) kp len none x.2.1 x.2.2.1 x.2.2.2.1 x.2.2.2.2) (recR x.1 v.2.2))) (by rw [recN_sz (s := s) hrel.2.2.2.1]) ?_
        refine j_aload_n (pc := 46) X dX5_setWind_46 rfl (q := 1) rfl ?_
        refine j_get (pc := 47) X (C := RX5) (T := TX5) (N := 10) wz_X5 0 rfl rfl 0 (by decide) wf_X5_7 rfl dX5_setWind_47 ?_
        refine j_sipush (pc := 50) X (v := (nI 335)) dX5_setWind_50 (by decide) ?_
        refine j_iload_n (pc := 53) X dX5_setWind_53 rfl (q := 2) rfl ?_
        refine j_iadd (pc := 54) X (v := (nI (335 + tt))) dX5_setWind_54 (nI_add _ _) ?_
        refine j_iload_n (pc := 55) X dX5_setWind_55 rfl (q := 3) rfl ?_
        refine j_iast (pc := 56) X 1 (i := (335 + tt)) (v := ww) rfl (by omega) (by omega) (w' := (rW tA m (mfs m ((hPush v s).2.2) kp len none x.2.1 x.2.2.1 x.2.2.2.1 x.2.2.2.2) (va_up (recR x.1 v.2.2) (335 + tt) ww))) rfl dX5_setWind_56 ?_
        refine j_iload_n (pc := 57) X dX5_setWind_57 rfl (q := 0) rfl ?_
        have e : oSetWind s (nI tt) (nI ww) = ((nI (sW s tt)), (some (uW s (va_up (sW s) tt ww)))) := by unfold oSetWind; simp only [ett, eww]; rw [if_pos h5, if_pos h17, if_neg h36] <;> rfl
        have hZ : RB (uW s (va_up (sW s) tt ww)) (va_up (recR x.1 v.2.2) (335 + tt) ww) := hr2.setW hw hc5.2
        exact j_endIy (pc := 58) E dX5_setWind_58 (va_up (recR x.1 v.2.2) (335 + tt) ww, x.2.1, x.2.2.1, x.2.2.2.1, x.2.2.2.2) (by rw [e]; exact hrel.act (Out.up Out.rf (by omega)) hZ (hok.wind (by omega))) (by rw [e]) (by rw [e]; rfl)
      · skip
        refine j_bipush (pc := 39) X (v := (-5)) dX5_setWind_39 (by decide) ?_
        have e : oSetWind s (nI tt) (nI ww) = ((-5), none) := by unfold oSetWind; simp only [ett, eww]; rw [if_pos h5, if_pos h17, if_pos (Decidable.not_not.mp h36)] <;> rfl
        exact j_endIy (pc := 41) E dX5_setWind_41 x (by rw [e]; exact hrel) (by rw [e]) (by rw [e]; rfl)
    · skip
      skip
      refine j_bipush (pc := 20) X (v := (-2)) dX5_setWind_20 (by decide) ?_
      have e : oSetWind s (nI tt) w0 = ((-2), none) := by unfold oSetWind; simp only [ett]; rw [if_pos h5, if_neg h17] <;> rfl
      exact j_endIy (pc := 22) E dX5_setWind_22 x (by rw [e]; exact hrel) (by rw [e]) (by rw [e]; rfl)
  · skip
    skip
    refine j_iconst (pc := 8) X (v := (-1)) dX5_setWind_8 (by decide) ?_
    have e : oSetWind s t0 w0 = ((-1), none) := by unfold oSetWind; rw [if_neg h5] <;> rfl
    exact j_endIy (pc := 9) E dX5_setWind_9 x (by rw [e]; exact hrel) (by rw [e]) (by rw [e]; rfl)
theorem cd_X5_book : kCardV yX5_book cX5_book 7 (some .int) 5 := ⟨⟨wc_X5_book, wi_X5, by decide +kernel, by decide +kernel, rfl⟩, wk_X5_book, ws_X5_book⟩
set_option maxHeartbeats 4000000 in
set_option maxRecDepth 100000 in
theorem c_X5_book (l : Launch) (D : va_G) (tA : Nat → ClassId) (m : Nat → Nat) (x : MX) (s sn : Sg) (v : Hs) (kp : Bool) (len : Nat) (p0 m0 t0 l0 r0 : Int32) (hrel : RelM s sn v kp x.1) : Ky l D tA yX5_book cX5_book 7 (some .int) 2 46 [.ref (m 0), .int p0, .int m0, .int t0, .int l0, .int r0] (mW tA m v.2.2 kp len x) (S := MX) (fun y => RelM (aS s (oBook s p0 m0 t0 l0 r0).2) sn (aH v s (oBook s p0 m0 t0 l0 r0).2) kp y.1) (fun y => some (.int ((oBook s p0 m0 t0 l0 r0).1))) (fun y => mW tA m (aH v s (oBook s p0 m0 t0 l0 r0).2).2.2 kp len y) := by
  refine ky_int rfl (Nat.le_of_ble_eq_true rfl) (fun G X E => ?_)
  show J l D G 0 0 (mW tA m v.2.2 kp len x) [(0, .ref (m 0)), (1, .int p0), (2, .int m0), (3, .int t0), (4, .int l0), (5, .int r0)] 0 []
  have hr := hrel.1
  have hok := hrel.2.1
  have hw := hok.1
  have hn := hw.n
  have hsz := hrel.2.2.2.1
  refine j_aload_n (pc := 0) X dX5_book_0 rfl (q := 0) rfl ?_
  refine j_iload_n (pc := 1) X dX5_book_1 rfl (q := 1) rfl ?_
  refine j_callVR (pc := 2) X (st := [])  (c_X5_isMember l D tA m (mfs m v.2.2 kp len none x.2.1 x.2.2.1 x.2.2.2.1 x.2.2.2.2) x.1 s p0 hr hw ) cd_X5_isMember wm_X5_56 0 rfl rfl rfl [0, 1] rfl rfl ⟨Nat.le_of_ble_eq_true rfl, Nat.le_of_ble_eq_true rfl⟩ ⟨Nat.zero_le _, Nat.zero_le _⟩ rfl (Nat.le_of_ble_eq_true rfl) dX5_book_2 ?_
  refine j_if_eq (pc := 5) X (tgt := 24) (P := (inR p0 (sP s).1) = false) dX5_book_5 (by decide) (bI_0 _) (fun h5 => ?_) (fun h5 => ?_)
  · skip
    have h5 := nf5 h5
    refine j_iconst (pc := 24) X (v := (-1)) dX5_book_24 (by decide) ?_
    have e : oBook s p0 m0 t0 l0 r0 = ((-1), none) := by unfold oBook; rw [if_neg (fun q => h5 q.1)] <;> rfl
    exact j_endIy (pc := 25) E dX5_book_25 x (by rw [e]; exact hrel) (by rw [e]) (by rw [e]; rfl)
  · skip
    have h5 := t5 h5
    obtain ⟨pp, hc5, rfl⟩ := inR_t h5
    have epp : tn (nI pp) = pp := tn_nI (by omega)
    refine j_aload_n (pc := 8) X dX5_book_8 rfl (q := 0) rfl ?_
    refine j_iload_n (pc := 9) X dX5_book_9 rfl (q := 2) rfl ?_
    refine j_callVR (pc := 10) X (st := [])  (c_X5_isMachine l D tA m (mfs m v.2.2 kp len none x.2.1 x.2.2.1 x.2.2.2.1 x.2.2.2.2) x.1 s m0 hr hw ) cd_X5_isMachine wm_X5_59 0 rfl rfl rfl [0, 1] rfl rfl ⟨Nat.le_of_ble_eq_true rfl, Nat.le_of_ble_eq_true rfl⟩ ⟨Nat.zero_le _, Nat.zero_le _⟩ rfl (Nat.le_of_ble_eq_true rfl) dX5_book_10 ?_
    refine j_if_eq (pc := 13) X (tgt := 24) (P := (inR m0 (sM s).1) = false) dX5_book_13 (by decide) (bI_0 _) (fun h13 => ?_) (fun h13 => ?_)
    · skip
      have h13 := nf5 h13
      refine j_iconst (pc := 24) X (v := (-1)) dX5_book_24 (by decide) ?_
      have e : oBook s (nI pp) m0 t0 l0 r0 = ((-1), none) := by unfold oBook; simp only [epp]; rw [if_neg (fun q => h13 q.2.1)] <;> rfl
      exact j_endIy (pc := 25) E dX5_book_25 x (by rw [e]; exact hrel) (by rw [e]) (by rw [e]; rfl)
    · skip
      have h13 := t5 h13
      obtain ⟨mm, hc13, rfl⟩ := inR_t h13
      have emm : tn (nI mm) = mm := tn_nI (by omega)
      refine j_aload_n (pc := 16) X dX5_book_16 rfl (q := 0) rfl ?_
      refine j_iload_n (pc := 17) X dX5_book_17 rfl (q := 3) rfl ?_
      refine j_callVR (pc := 18) X (st := [])  (c_X5_isToCome l D tA m (mfs m v.2.2 kp len none x.2.1 x.2.2.1 x.2.2.2.1 x.2.2.2.2) x.1 s t0 hr hw ) cd_X5_isToCome wm_X5_45 0 rfl rfl rfl [0, 1] rfl rfl ⟨Nat.le_of_ble_eq_true rfl, Nat.le_of_ble_eq_true rfl⟩ ⟨Nat.zero_le _, Nat.zero_le _⟩ rfl (Nat.le_of_ble_eq_true rfl) dX5_book_18 ?_
      refine j_if_ne (pc := 21) X (tgt := 26) (P := (toCome s t0) = true) dX5_book_21 (by decide) (bI_n0 _) (fun h21 => ?_) (fun h21 => ?_)
      · skip
        skip
        obtain ⟨tt, hc21, rfl⟩ := toCome_t h21
        have ett : tn (nI tt) = tt := tn_nI (by omega)
        refine j_iload (pc := 26) X dX5_book_26 (q := 4) rfl ?_
        refine j_iload (pc := 28) X dX5_book_28 (q := 5) rfl ?_
        refine j_callSR (pc := 30) X (st := [])  (c_X5_isLift l D tA l0 r0 ) cd_X5_isLift wm_X5_62 rfl [] rfl rfl ⟨Nat.le_of_ble_eq_true rfl, Nat.le_of_ble_eq_true rfl⟩ ⟨Nat.zero_le _, Nat.zero_le _⟩ rfl (Nat.le_of_ble_eq_true rfl) dX5_book_30 ?_
        refine j_if_ne (pc := 33) X (tgt := 39) (P := (isLft l0 r0) = true) dX5_book_33 (by decide) (bI_n0 _) (fun h33 => ?_) (fun h33 => ?_)
        · skip
          skip
          obtain ⟨ll, rr, hc33, rfl, rfl⟩ := isLft_t h33
          have ell : tn (nI ll) = ll := tn_nI (by omega)
          have err : tn (nI rr) = rr := tn_nI (by omega)
          refine j_aload_n (pc := 39) X dX5_book_39 rfl (q := 0) rfl ?_
          refine j_iload_n (pc := 40) X dX5_book_40 rfl (q := 2) rfl ?_
          refine j_iload (pc := 41) X dX5_book_41 (q := 4) rfl ?_
          refine j_iload (pc := 43) X dX5_book_43 (q := 5) rfl ?_
          refine j_callVR (pc := 45) X (st := [])  (c_X5_canBear l D tA m (mfs m v.2.2 kp len none x.2.1 x.2.2.1 x.2.2.2.1 x.2.2.2.2) x.1 s mm ll rr hr hw hc13 (by omega) (by omega)) cd_X5_canBear wm_X5_66 0 rfl rfl rfl [0, 1] rfl rfl ⟨Nat.le_of_ble_eq_true rfl, Nat.le_of_ble_eq_true rfl⟩ ⟨Nat.zero_le _, Nat.zero_le _⟩ rfl (Nat.le_of_ble_eq_true rfl) dX5_book_45 ?_
          refine j_if_eq (pc := 48) X (tgt := 62) (P := (decide (ll ≤ brn (sM s) mm rr)) = false) dX5_book_48 (by decide) (bI_0 _) (fun h48 => ?_) (fun h48 => ?_)
          · skip
            have h48 := nf5 h48
            refine j_bipush (pc := 62) X (v := (-4)) dX5_book_62 (by decide) ?_
            have e : oBook s (nI pp) (nI mm) (nI tt) (nI ll) (nI rr) = ((-4), none) := by unfold oBook; simp only [epp, emm, ett, ell, err]; rw [if_pos ⟨h5, h13, h21⟩, if_pos h33, if_neg (fun q => h48 (decide_eq_true (of_decide_eq_true q).1))] <;> rfl
            exact j_endIy (pc := 64) E dX5_book_64 x (by rw [e]; exact hrel) (by rw [e]) (by rw [e]; rfl)
          · skip
            have h48 := t5 h48
            refine j_aload_n (pc := 51) X dX5_book_51 rfl (q := 0) rfl ?_
            refine j_iload_n (pc := 52) X dX5_book_52 rfl (q := 2) rfl ?_
            refine j_iload_n (pc := 53) X dX5_book_53 rfl (q := 3) rfl ?_
            refine j_callVR (pc := 54) X (st := [])  (c_X5_bookingAt l D tA m (mfs m v.2.2 kp len none x.2.1 x.2.2.1 x.2.2.2.1 x.2.2.2.2) x.1 s mm tt hr hw (by omega) (by omega)) cd_X5_bookingAt wm_X5_69 0 rfl rfl rfl [0, 1] rfl rfl ⟨Nat.le_of_ble_eq_true rfl, Nat.le_of_ble_eq_true rfl⟩ ⟨Nat.zero_le _, Nat.zero_le _⟩ rfl (Nat.le_of_ble_eq_true rfl) dX5_book_54 ?_
            refine j_bipush (pc := 57) X (v := (-5)) dX5_book_57 (by decide) ?_
            refine j_icmp_eq (pc := 59) X (tgt := 65) (P := (bkF (sB s) mm tt) = none) dX5_book_59 (by decide) (rO_none (fun q hq => by have := bkF_lt hq; omega)) (fun h59 => ?_) (fun h59 => ?_)
            · skip
              refine j_aload_n (pc := 65) X dX5_book_65 rfl (q := 0) rfl ?_
              refine j_get (pc := 66) X (C := RX5) (T := TX5) (N := 10) wz_X5 0 rfl rfl 0 (by decide) wf_X5_7 rfl dX5_book_66 ?_
              refine j_iconst (pc := 69) X (v := (nI 3)) dX5_book_69 (by decide) ?_
              refine j_iald (pc := 70) X 1 (i := 3) rfl (by omega) (by omega) dX5_book_70 ?_
              refine j_top (v' := nI ((sB s).1)) (congrArg nI (RB.n3 hr)) ?_
              refine j_bipush (pc := 71) X (v := (nI 30)) dX5_book_71 (by decide) ?_
              refine j_icmp_ne (pc := 73) X (tgt := 79) (P := ¬ ((sB s).1) = 30) dX5_book_73 (by decide) (not_congr (nI_eq (by omega) (by omega))) (fun h73 => ?_) (fun h73 => ?_)
              · skip
                refine j_aload_n (pc := 79) X dX5_book_79 rfl (q := 0) rfl ?_
                refine j_callV (pc := 80) X (st := []) (w' := (rW tA m (mfs m (recN v.2.2) kp len none x.2.1 x.2.2.1 x.2.2.2.1 x.2.2.2.2) (recR x.1 v.2.2))) (c_X5_record l D tA m x.1 v.2.2 kp len none x.2.1 x.2.2.1 x.2.2.2.1 x.2.2.2.2 hrel.2.2.2.1) cd_X5_record wm_X5_35 0 rfl rfl rfl [0, 1] rfl rfl rw_fst rfl ⟨Nat.le_of_ble_eq_true rfl, Nat.le_of_ble_eq_true rfl⟩ ⟨Nat.zero_le _, Nat.zero_le _⟩ rfl (Nat.le_of_ble_eq_true rfl) dX5_book_80 ?_
                have hr2 : RB s (recR x.1 v.2.2) := hrel.rec0
                refine j_ws (w2 := (rW tA m (mfs m ((hPush v s).2.2) kp len none x.2.1 x.2.2.1 x.2.2.2.1 x.2.2.2.2) (recR x.1 v.2.2))) (by rw [recN_sz (s := s) hrel.2.2.2.1]) ?_
                refine j_aload_n (pc := 83) X dX5_book_83 rfl (q := 0) rfl ?_
                refine j_get (pc := 84) X (C := RX5) (T := TX5) (N := 10) wz_X5 0 rfl rfl 0 (by decide) wf_X5_7 rfl dX5_book_84 ?_
                refine j_iconst (pc := 87) X (v := (nI 3)) dX5_book_87 (by decide) ?_
                refine j_iald (pc := 88) X 1 (i := 3) rfl (by omega) (by omega) dX5_book_88 ?_
                refine j_top (v' := nI ((sB s).1)) (congrArg nI (RB.n3 hr2)) ?_
                refine j_istore (pc := 89) X (lv' := [(6, .int (nI ((sB s).1))), (0, .ref (m 0)), (1, .int (nI pp)), (2, .int (nI mm)), (3, .int (nI tt)), (4, .int (nI ll)), (5, .int (nI rr))]) dX5_book_89 (by decide) rfl ?_
                refine j_aload_n (pc := 91) X dX5_book_91 rfl (q := 1) rfl ?_
                refine j_get (pc := 92) X (C := RX5) (T := TX5) (N := 10) wz_X5 0 rfl rfl 0 (by decide) wf_X5_7 rfl dX5_book_92 ?_
                refine j_iload (pc := 95) X dX5_book_95 (q := 0) rfl ?_
                refine j_iconst (pc := 97) X (v := (nI 0)) dX5_book_97 (by decide) ?_
                refine j_callSR (pc := 98) X (st := [.ref (m 1)])  (c_X5_ofBooking l D tA ((sB s).1) 0 ) cd_X5_ofBooking wm_X5_53 rfl [] rfl rfl ⟨Nat.le_of_ble_eq_true rfl, Nat.le_of_ble_eq_true rfl⟩ ⟨Nat.zero_le _, Nat.zero_le _⟩ rfl (Nat.le_of_ble_eq_true rfl) dX5_book_98 ?_
                refine j_iload_n (pc := 101) X dX5_book_101 rfl (q := 2) rfl ?_
                refine j_iast (pc := 102) X 1 (i := (45 + 8 * ((sB s).1) + 0)) (v := pp) rfl (by omega) (by omega) (w' := (rW tA m (mfs m ((hPush v s).2.2) kp len none x.2.1 x.2.2.1 x.2.2.2.1 x.2.2.2.2) (va_up (recR x.1 v.2.2) (45 + 8 * ((sB s).1) + 0) pp))) rfl dX5_book_102 ?_
                refine j_aload_n (pc := 103) X dX5_book_103 rfl (q := 1) rfl ?_
                refine j_get (pc := 104) X (C := RX5) (T := TX5) (N := 10) wz_X5 0 rfl rfl 0 (by decide) wf_X5_7 rfl dX5_book_104 ?_
                refine j_iload (pc := 107) X dX5_book_107 (q := 0) rfl ?_
                refine j_iconst (pc := 109) X (v := (nI 3)) dX5_book_109 (by decide) ?_
                refine j_callSR (pc := 110) X (st := [.ref (m 1)])  (c_X5_ofBooking l D tA ((sB s).1) 3 ) cd_X5_ofBooking wm_X5_53 rfl [] rfl rfl ⟨Nat.le_of_ble_eq_true rfl, Nat.le_of_ble_eq_true rfl⟩ ⟨Nat.zero_le _, Nat.zero_le _⟩ rfl (Nat.le_of_ble_eq_true rfl) dX5_book_110 ?_
                refine j_iload (pc := 113) X dX5_book_113 (q := 5) rfl ?_
                refine j_iast (pc := 115) X 1 (i := (45 + 8 * ((sB s).1) + 3)) (v := ll) rfl (by omega) (by omega) (w' := (rW tA m (mfs m ((hPush v s).2.2) kp len none x.2.1 x.2.2.1 x.2.2.2.1 x.2.2.2.2) (va_up (va_up (recR x.1 v.2.2) (45 + 8 * ((sB s).1) + 0) pp) (45 + 8 * ((sB s).1) + 3) ll))) rfl dX5_book_115 ?_
                refine j_aload_n (pc := 116) X dX5_book_116 rfl (q := 1) rfl ?_
                refine j_get (pc := 117) X (C := RX5) (T := TX5) (N := 10) wz_X5 0 rfl rfl 0 (by decide) wf_X5_7 rfl dX5_book_117 ?_
                refine j_iload (pc := 120) X dX5_book_120 (q := 0) rfl ?_
                refine j_iconst (pc := 122) X (v := (nI 4)) dX5_book_122 (by decide) ?_
                refine j_callSR (pc := 123) X (st := [.ref (m 1)])  (c_X5_ofBooking l D tA ((sB s).1) 4 ) cd_X5_ofBooking wm_X5_53 rfl [] rfl rfl ⟨Nat.le_of_ble_eq_true rfl, Nat.le_of_ble_eq_true rfl⟩ ⟨Nat.zero_le _, Nat.zero_le _⟩ rfl (Nat.le_of_ble_eq_true rfl) dX5_book_123 ?_
                refine j_iload (pc := 126) X dX5_book_126 (q := 6) rfl ?_
                refine j_iast (pc := 128) X 1 (i := (45 + 8 * ((sB s).1) + 4)) (v := rr) rfl (by omega) (by omega) (w' := (rW tA m (mfs m ((hPush v s).2.2) kp len none x.2.1 x.2.2.1 x.2.2.2.1 x.2.2.2.2) (va_up (va_up (va_up (recR x.1 v.2.2) (45 + 8 * ((sB s).1) + 0) pp) (45 + 8 * ((sB s).1) + 3) ll) (45 + 8 * ((sB s).1) + 4) rr))) rfl dX5_book_128 ?_
                refine j_aload_n (pc := 129) X dX5_book_129 rfl (q := 1) rfl ?_
                refine j_get (pc := 130) X (C := RX5) (T := TX5) (N := 10) wz_X5 0 rfl rfl 0 (by decide) wf_X5_7 rfl dX5_book_130 ?_
                refine j_iload (pc := 133) X dX5_book_133 (q := 0) rfl ?_
                refine j_iconst (pc := 135) X (v := (nI 5)) dX5_book_135 (by decide) ?_
                refine j_callSR (pc := 136) X (st := [.ref (m 1)])  (c_X5_ofBooking l D tA ((sB s).1) 5 ) cd_X5_ofBooking wm_X5_53 rfl [] rfl rfl ⟨Nat.le_of_ble_eq_true rfl, Nat.le_of_ble_eq_true rfl⟩ ⟨Nat.zero_le _, Nat.zero_le _⟩ rfl (Nat.le_of_ble_eq_true rfl) dX5_book_136 ?_
                refine j_iconst (pc := 139) X (v := (nI 0)) dX5_book_139 (by decide) ?_
                refine j_iast (pc := 140) X 1 (i := (45 + 8 * ((sB s).1) + 5)) (v := 0) rfl (by omega) (by omega) (w' := (rW tA m (mfs m ((hPush v s).2.2) kp len none x.2.1 x.2.2.1 x.2.2.2.1 x.2.2.2.2) (va_up (va_up (va_up (va_up (recR x.1 v.2.2) (45 + 8 * ((sB s).1) + 0) pp) (45 + 8 * ((sB s).1) + 3) ll) (45 + 8 * ((sB s).1) + 4) rr) (45 + 8 * ((sB s).1) + 5) 0))) rfl dX5_book_140 ?_
                refine j_aload_n (pc := 141) X dX5_book_141 rfl (q := 1) rfl ?_
                refine j_get (pc := 142) X (C := RX5) (T := TX5) (N := 10) wz_X5 0 rfl rfl 0 (by decide) wf_X5_7 rfl dX5_book_142 ?_
                refine j_iload (pc := 145) X dX5_book_145 (q := 0) rfl ?_
                refine j_bipush (pc := 147) X (v := (nI 7)) dX5_book_147 (by decide) ?_
                refine j_callSR (pc := 149) X (st := [.ref (m 1)])  (c_X5_ofBooking l D tA ((sB s).1) 7 ) cd_X5_ofBooking wm_X5_53 rfl [] rfl rfl ⟨Nat.le_of_ble_eq_true rfl, Nat.le_of_ble_eq_true rfl⟩ ⟨Nat.zero_le _, Nat.zero_le _⟩ rfl (Nat.le_of_ble_eq_true rfl) dX5_book_149 ?_
                refine j_iconst (pc := 152) X (v := (nI 0)) dX5_book_152 (by decide) ?_
                refine j_iast (pc := 153) X 1 (i := (45 + 8 * ((sB s).1) + 7)) (v := 0) rfl (by omega) (by omega) (w' := (rW tA m (mfs m ((hPush v s).2.2) kp len none x.2.1 x.2.2.1 x.2.2.2.1 x.2.2.2.2) (va_up (va_up (va_up (va_up (va_up (recR x.1 v.2.2) (45 + 8 * ((sB s).1) + 0) pp) (45 + 8 * ((sB s).1) + 3) ll) (45 + 8 * ((sB s).1) + 4) rr) (45 + 8 * ((sB s).1) + 5) 0) (45 + 8 * ((sB s).1) + 7) 0))) rfl dX5_book_153 ?_
                refine j_aload_n (pc := 154) X dX5_book_154 rfl (q := 1) rfl ?_
                refine j_iload (pc := 155) X dX5_book_155 (q := 0) rfl ?_
                refine j_iload_n (pc := 157) X dX5_book_157 rfl (q := 3) rfl ?_
                refine j_iload_n (pc := 158) X dX5_book_158 rfl (q := 4) rfl ?_
                refine j_callV (pc := 159) X (st := []) (w' := (rW tA m (mfs m ((hPush v s).2.2) kp len none x.2.1 x.2.2.1 x.2.2.2.1 x.2.2.2.2) (va_up (va_up (va_up (va_up (va_up (va_up (va_up (va_up (recR x.1 v.2.2) (45 + 8 * ((sB s).1) + 0) pp) (45 + 8 * ((sB s).1) + 3) ll) (45 + 8 * ((sB s).1) + 4) rr) (45 + 8 * ((sB s).1) + 5) 0) (45 + 8 * ((sB s).1) + 7) 0) (45 + 8 * ((sB s).1) + 1) mm) (45 + 8 * ((sB s).1) + 2) tt) (45 + 8 * ((sB s).1) + 6) ((va_up (va_up (va_up (va_up (va_up (recR x.1 v.2.2) (45 + 8 * ((sB s).1) + 0) pp) (45 + 8 * ((sB s).1) + 3) ll) (45 + 8 * ((sB s).1) + 4) rr) (45 + 8 * ((sB s).1) + 5) 0) (45 + 8 * ((sB s).1) + 7) 0) (335 + tt))))) (c_X5_giveX l D tA m (mfs m ((hPush v s).2.2) kp len none x.2.1 x.2.2.1 x.2.2.2.1 x.2.2.2.2) (va_up (va_up (va_up (va_up (va_up (recR x.1 v.2.2) (45 + 8 * ((sB s).1) + 0) pp) (45 + 8 * ((sB s).1) + 3) ll) (45 + 8 * ((sB s).1) + 4) rr) (45 + 8 * ((sB s).1) + 5) 0) (45 + 8 * ((sB s).1) + 7) 0) ((sB s).1) mm tt (by omega) (by omega) (by omega)) cd_X5_give wm_X5_72 0 rfl rfl rfl [0, 1] rfl rfl rw_fst rfl ⟨Nat.le_of_ble_eq_true rfl, Nat.le_of_ble_eq_true rfl⟩ ⟨Nat.zero_le _, Nat.zero_le _⟩ rfl (Nat.le_of_ble_eq_true rfl) dX5_book_159 ?_
                refine j_aload_n (pc := 162) X dX5_book_162 rfl (q := 1) rfl ?_
                refine j_get (pc := 163) X (C := RX5) (T := TX5) (N := 10) wz_X5 0 rfl rfl 0 (by decide) wf_X5_7 rfl dX5_book_163 ?_
                refine j_iconst (pc := 166) X (v := (nI 3)) dX5_book_166 (by decide) ?_
                refine j_dup2 (pc := 167) X dX5_book_167 rfl rfl ?_
                refine j_iald (pc := 168) X 1 (i := 3) rfl (by omega) (by omega) dX5_book_168 ?_
                refine j_top (v' := nI ((sB s).1)) (by (repeat rw [up_ne _ _ (by omega)]); rw [hr2.n3]) ?_
                refine j_iconst (pc := 169) X (v := (nI 1)) dX5_book_169 (by decide) ?_
                refine j_iadd (pc := 170) X (v := (nI (((sB s).1) + 1))) dX5_book_170 (nI_add _ _) ?_
                refine j_iast (pc := 171) X 1 (i := 3) (v := (((sB s).1) + 1)) rfl (by omega) (by omega) (w' := (rW tA m (mfs m ((hPush v s).2.2) kp len none x.2.1 x.2.2.1 x.2.2.2.1 x.2.2.2.2) (va_up (va_up (va_up (va_up (va_up (va_up (va_up (va_up (va_up (recR x.1 v.2.2) (45 + 8 * ((sB s).1) + 0) pp) (45 + 8 * ((sB s).1) + 3) ll) (45 + 8 * ((sB s).1) + 4) rr) (45 + 8 * ((sB s).1) + 5) 0) (45 + 8 * ((sB s).1) + 7) 0) (45 + 8 * ((sB s).1) + 1) mm) (45 + 8 * ((sB s).1) + 2) tt) (45 + 8 * ((sB s).1) + 6) ((va_up (va_up (va_up (va_up (va_up (recR x.1 v.2.2) (45 + 8 * ((sB s).1) + 0) pp) (45 + 8 * ((sB s).1) + 3) ll) (45 + 8 * ((sB s).1) + 4) rr) (45 + 8 * ((sB s).1) + 5) 0) (45 + 8 * ((sB s).1) + 7) 0) (335 + tt))) 3 (((sB s).1) + 1)))) rfl dX5_book_171 ?_
                refine j_iload (pc := 172) X dX5_book_172 (q := 0) rfl ?_
                have e : oBook s (nI pp) (nI mm) (nI tt) (nI ll) (nI rr) = ((nI ((sB s).1)), (some (placeS (pBook s pp ll rr) (sB s).1 mm tt))) := by unfold oBook; simp only [epp, emm, ett, ell, err]; rw [if_pos ⟨h5, h13, h21⟩, if_pos h33, if_pos (show canT s mm tt ll rr = true from decide_eq_true ⟨of_decide_eq_true h48, h59⟩), if_pos (by omega)] <;> rfl
                have hZ : RB (placeS (pBook s pp ll rr) (sB s).1 mm tt) (va_up (va_up (va_up (va_up (va_up (va_up (va_up (va_up (va_up (recR x.1 v.2.2) (45 + 8 * ((sB s).1) + 0) pp) (45 + 8 * ((sB s).1) + 3) ll) (45 + 8 * ((sB s).1) + 4) rr) (45 + 8 * ((sB s).1) + 5) 0) (45 + 8 * ((sB s).1) + 7) 0) (45 + 8 * ((sB s).1) + 1) mm) (45 + 8 * ((sB s).1) + 2) tt) (45 + 8 * ((sB s).1) + 6) ((va_up (va_up (va_up (va_up (va_up (recR x.1 v.2.2) (45 + 8 * ((sB s).1) + 0) pp) (45 + 8 * ((sB s).1) + 3) ll) (45 + 8 * ((sB s).1) + 4) rr) (45 + 8 * ((sB s).1) + 5) 0) (45 + 8 * ((sB s).1) + 7) 0) (335 + tt))) 3 (((sB s).1) + 1)) := hr2.addB hw (by omega) hc13 (fun j h1 h2 => by repeat rw [up_ne _ _ (by omega)]) (by (repeat rw [up_ne _ _ (by omega)]); exact up_same _ _ _) (by (repeat rw [up_ne _ _ (by omega)]); exact up_same _ _ _) (by (repeat rw [up_ne _ _ (by omega)]); exact up_same _ _ _) (by (repeat rw [up_ne _ _ (by omega)]); exact up_same _ _ _) (by (repeat rw [up_ne _ _ (by omega)]); exact up_same _ _ _) (by (repeat rw [up_ne _ _ (by omega)]); exact up_same _ _ _) (by (repeat rw [up_ne _ _ (by omega)]); exact up_same _ _ _) (by (repeat rw [up_ne _ _ (by omega)]); rw [up_same]; (repeat rw [up_ne _ _ (by omega)]); exact hr2.w (by omega)) (by (repeat rw [up_ne _ _ (by omega)]); exact up_same _ _ _)
                exact j_endIy (pc := 174) E dX5_book_174 (va_up (va_up (va_up (va_up (va_up (va_up (va_up (va_up (va_up (recR x.1 v.2.2) (45 + 8 * ((sB s).1) + 0) pp) (45 + 8 * ((sB s).1) + 3) ll) (45 + 8 * ((sB s).1) + 4) rr) (45 + 8 * ((sB s).1) + 5) 0) (45 + 8 * ((sB s).1) + 7) 0) (45 + 8 * ((sB s).1) + 1) mm) (45 + 8 * ((sB s).1) + 2) tt) (45 + 8 * ((sB s).1) + 6) ((va_up (va_up (va_up (va_up (va_up (recR x.1 v.2.2) (45 + 8 * ((sB s).1) + 0) pp) (45 + 8 * ((sB s).1) + 3) ll) (45 + 8 * ((sB s).1) + 4) rr) (45 + 8 * ((sB s).1) + 5) 0) (45 + 8 * ((sB s).1) + 7) 0) (335 + tt))) 3 (((sB s).1) + 1), x.2.1, x.2.2.1, x.2.2.2.1, x.2.2.2.2) (by rw [e]; exact hrel.act (Out.up (Out.up (Out.up (Out.up (Out.up (Out.up (Out.up (Out.up (Out.up Out.rf (by omega)) (by omega)) (by omega)) (by omega)) (by omega)) (by omega)) (by omega)) (by omega)) (by omega)) hZ (hok.book hc5 (by omega) (by omega) hc13 (by omega) (by omega))) (by rw [e]) (by rw [e]; rfl)
              · skip
                refine j_bipush (pc := 76) X (v := (-3)) dX5_book_76 (by decide) ?_
                have e : oBook s (nI pp) (nI mm) (nI tt) (nI ll) (nI rr) = ((-3), none) := by unfold oBook; simp only [epp, emm, ett, ell, err]; rw [if_pos ⟨h5, h13, h21⟩, if_pos h33, if_pos (show canT s mm tt ll rr = true from decide_eq_true ⟨of_decide_eq_true h48, h59⟩), if_neg (by omega)] <;> rfl
                exact j_endIy (pc := 78) E dX5_book_78 x (by rw [e]; exact hrel) (by rw [e]) (by rw [e]; rfl)
            · skip
              refine j_bipush (pc := 62) X (v := (-4)) dX5_book_62 (by decide) ?_
              have e : oBook s (nI pp) (nI mm) (nI tt) (nI ll) (nI rr) = ((-4), none) := by unfold oBook; simp only [epp, emm, ett, ell, err]; rw [if_pos ⟨h5, h13, h21⟩, if_pos h33, if_neg (fun q => h59 (of_decide_eq_true q).2)] <;> rfl
              exact j_endIy (pc := 64) E dX5_book_64 x (by rw [e]; exact hrel) (by rw [e]) (by rw [e]; rfl)
        · skip
          skip
          refine j_bipush (pc := 36) X (v := (-2)) dX5_book_36 (by decide) ?_
          have e : oBook s (nI pp) (nI mm) (nI tt) l0 r0 = ((-2), none) := by unfold oBook; simp only [epp, emm, ett]; rw [if_pos ⟨h5, h13, h21⟩, if_neg h33] <;> rfl
          exact j_endIy (pc := 38) E dX5_book_38 x (by rw [e]; exact hrel) (by rw [e]) (by rw [e]; rfl)
      · skip
        skip
        refine j_iconst (pc := 24) X (v := (-1)) dX5_book_24 (by decide) ?_
        have e : oBook s (nI pp) (nI mm) t0 l0 r0 = ((-1), none) := by unfold oBook; simp only [epp, emm]; rw [if_neg (fun q => h21 q.2.2)] <;> rfl
        exact j_endIy (pc := 25) E dX5_book_25 x (by rw [e]; exact hrel) (by rw [e]) (by rw [e]; rfl)
theorem cd_X5_cancel : kCardV yX5_cancel cX5_cancel 3 (some .int) 1 := ⟨⟨wc_X5_cancel, wi_X5, by decide +kernel, by decide +kernel, rfl⟩, wk_X5_cancel, ws_X5_cancel⟩
set_option maxHeartbeats 4000000 in
set_option maxRecDepth 100000 in
theorem c_X5_cancel (l : Launch) (D : va_G) (tA : Nat → ClassId) (m : Nat → Nat) (x : MX) (s sn : Sg) (v : Hs) (kp : Bool) (len : Nat) (b0 : Int32) (hrel : RelM s sn v kp x.1) : Ky l D tA yX5_cancel cX5_cancel 3 (some .int) 2 44 [.ref (m 0), .int b0] (mW tA m v.2.2 kp len x) (S := MX) (fun y => RelM (aS s (oCancel s b0).2) sn (aH v s (oCancel s b0).2) kp y.1) (fun y => some (.int ((oCancel s b0).1))) (fun y => mW tA m (aH v s (oCancel s b0).2).2.2 kp len y) := by
  refine ky_int rfl (Nat.le_of_ble_eq_true rfl) (fun G X E => ?_)
  show J l D G 0 0 (mW tA m v.2.2 kp len x) [(0, .ref (m 0)), (1, .int b0)] 0 []
  have hr := hrel.1
  have hok := hrel.2.1
  have hw := hok.1
  have hn := hw.n
  have hsz := hrel.2.2.2.1
  refine j_aload_n (pc := 0) X dX5_cancel_0 rfl (q := 0) rfl ?_
  refine j_iload_n (pc := 1) X dX5_cancel_1 rfl (q := 1) rfl ?_
  refine j_callVR (pc := 2) X (st := [])  (c_X5_isBooking l D tA m (mfs m v.2.2 kp len none x.2.1 x.2.2.1 x.2.2.2.1 x.2.2.2.2) x.1 s b0 hr hw ) cd_X5_isBooking wm_X5_76 0 rfl rfl rfl [0, 1] rfl rfl ⟨Nat.le_of_ble_eq_true rfl, Nat.le_of_ble_eq_true rfl⟩ ⟨Nat.zero_le _, Nat.zero_le _⟩ rfl (Nat.le_of_ble_eq_true rfl) dX5_cancel_2 ?_
  refine j_if_ne (pc := 5) X (tgt := 10) (P := (inR b0 (sB s).1) = true) dX5_cancel_5 (by decide) (bI_n0 _) (fun h5 => ?_) (fun h5 => ?_)
  · skip
    skip
    obtain ⟨bb, hc5, rfl⟩ := inR_t h5
    have ebb : tn (nI bb) = bb := tn_nI (by omega)
    have hb0 := hw.b hc5
    refine j_aload_n (pc := 10) X dX5_cancel_10 rfl (q := 0) rfl ?_
    refine j_iload_n (pc := 11) X dX5_cancel_11 rfl (q := 1) rfl ?_
    refine j_callVR (pc := 12) X (st := [])  (c_X5_isBooked l D tA m (mfs m v.2.2 kp len none x.2.1 x.2.2.1 x.2.2.2.1 x.2.2.2.2) x.1 s bb hr hw (by first | assumption | omega | decide)) cd_X5_isBooked wm_X5_79 0 rfl rfl rfl [0, 1] rfl rfl ⟨Nat.le_of_ble_eq_true rfl, Nat.le_of_ble_eq_true rfl⟩ ⟨Nat.zero_le _, Nat.zero_le _⟩ rfl (Nat.le_of_ble_eq_true rfl) dX5_cancel_12 ?_
    refine j_if_ne (pc := 15) X (tgt := 21) (P := (decide (tGet 8 (sB s) bb 5 = 0)) = true) dX5_cancel_15 (by decide) (bI_n0 _) (fun h15 => ?_) (fun h15 => ?_)
    · skip
      skip
      refine j_aload_n (pc := 21) X dX5_cancel_21 rfl (q := 0) rfl ?_
      refine j_callV (pc := 22) X (st := []) (w' := (rW tA m (mfs m (recN v.2.2) kp len none x.2.1 x.2.2.1 x.2.2.2.1 x.2.2.2.2) (recR x.1 v.2.2))) (c_X5_record l D tA m x.1 v.2.2 kp len none x.2.1 x.2.2.1 x.2.2.2.1 x.2.2.2.2 hrel.2.2.2.1) cd_X5_record wm_X5_35 0 rfl rfl rfl [0, 1] rfl rfl rw_fst rfl ⟨Nat.le_of_ble_eq_true rfl, Nat.le_of_ble_eq_true rfl⟩ ⟨Nat.zero_le _, Nat.zero_le _⟩ rfl (Nat.le_of_ble_eq_true rfl) dX5_cancel_22 ?_
      have hr2 : RB s (recR x.1 v.2.2) := hrel.rec0
      refine j_ws (w2 := (rW tA m (mfs m ((hPush v s).2.2) kp len none x.2.1 x.2.2.1 x.2.2.2.1 x.2.2.2.2) (recR x.1 v.2.2))) (by rw [recN_sz (s := s) hrel.2.2.2.1]) ?_
      refine j_aload_n (pc := 25) X dX5_cancel_25 rfl (q := 0) rfl ?_
      refine j_get (pc := 26) X (C := RX5) (T := TX5) (N := 10) wz_X5 0 rfl rfl 0 (by decide) wf_X5_7 rfl dX5_cancel_26 ?_
      refine j_iload_n (pc := 29) X dX5_cancel_29 rfl (q := 1) rfl ?_
      refine j_iconst (pc := 30) X (v := (nI 2)) dX5_cancel_30 (by decide) ?_
      refine j_callSR (pc := 31) X (st := [.ref (m 1)])  (c_X5_ofBooking l D tA bb 2 ) cd_X5_ofBooking wm_X5_53 rfl [] rfl rfl ⟨Nat.le_of_ble_eq_true rfl, Nat.le_of_ble_eq_true rfl⟩ ⟨Nat.zero_le _, Nat.zero_le _⟩ rfl (Nat.le_of_ble_eq_true rfl) dX5_cancel_31 ?_
      refine j_iald (pc := 34) X 1 (i := (45 + 8 * bb + 2)) rfl (by omega) (by omega) dX5_cancel_34 ?_
      refine j_top (v' := nI (tGet 8 (sB s) bb 2)) (congrArg nI (RB.b hr2 hc5 (by omega))) ?_
      refine j_aload_n (pc := 35) X dX5_cancel_35 rfl (q := 0) rfl ?_
      refine j_get (pc := 36) X (C := RX5) (T := TX5) (N := 10) wz_X5 0 rfl rfl 0 (by decide) wf_X5_7 rfl dX5_cancel_36 ?_
      refine j_iconst (pc := 39) X (v := (nI 0)) dX5_cancel_39 (by decide) ?_
      refine j_iald (pc := 40) X 1 (i := 0) rfl (by omega) (by omega) dX5_cancel_40 ?_
      refine j_top (v' := nI (sN s)) (congrArg nI (RB.n0 hr2)) ?_
      refine j_icmp_ne (pc := 41) X (tgt := 48) (P := ¬ (tGet 8 (sB s) bb 2) = (sN s)) dX5_cancel_41 (by decide) (not_congr (nI_eq (by omega) (by omega))) (fun h41 => ?_) (fun h41 => ?_)
      · skip
        refine j_iconst (pc := 48) X (v := (nI 0)) dX5_cancel_48 (by decide) ?_
        refine j_top (v' := nI (coin s bb)) (by rw [coin, if_neg h41]) ?_
        refine j_istore_n (pc := 49) X (lv' := [(2, .int (nI (coin s bb))), (0, .ref (m 0)), (1, .int (nI bb))]) dX5_cancel_49 rfl (by decide) rfl ?_
        refine j_aload_n (pc := 50) X dX5_cancel_50 rfl (q := 1) rfl ?_
        refine j_get (pc := 51) X (C := RX5) (T := TX5) (N := 10) wz_X5 0 rfl rfl 0 (by decide) wf_X5_7 rfl dX5_cancel_51 ?_
        refine j_iload_n (pc := 54) X dX5_cancel_54 rfl (q := 2) rfl ?_
        refine j_iconst (pc := 55) X (v := (nI 5)) dX5_cancel_55 (by decide) ?_
        refine j_callSR (pc := 56) X (st := [.ref (m 1)])  (c_X5_ofBooking l D tA bb 5 ) cd_X5_ofBooking wm_X5_53 rfl [] rfl rfl ⟨Nat.le_of_ble_eq_true rfl, Nat.le_of_ble_eq_true rfl⟩ ⟨Nat.zero_le _, Nat.zero_le _⟩ rfl (Nat.le_of_ble_eq_true rfl) dX5_cancel_56 ?_
        refine j_iconst (pc := 59) X (v := (nI 3)) dX5_cancel_59 (by decide) ?_
        refine j_iast (pc := 60) X 1 (i := (45 + 8 * bb + 5)) (v := 3) rfl (by omega) (by omega) (w' := (rW tA m (mfs m ((hPush v s).2.2) kp len none x.2.1 x.2.2.1 x.2.2.2.1 x.2.2.2.2) (va_up (recR x.1 v.2.2) (45 + 8 * bb + 5) 3))) rfl dX5_cancel_60 ?_
        have h50 : tGet 8 (sB s) bb 5 = 0 := of_decide_eq_true h15
        have hrB : RB (uB s (tSet 8 (sB s) bb 5 3)) (va_up (recR x.1 v.2.2) (45 + 8 * bb + 5) 3) := hr2.setB hw hc5 (by decide) (Or.inr ⟨by omega, fun _ => by decide⟩)
        have hwB : Wf (uB s (tSet 8 (sB s) bb 5 3)) := hw.setB (by decide) (show 3 ≤ 3 by decide)
        refine j_aload_n (pc := 61) X dX5_cancel_61 rfl (q := 1) rfl ?_
        refine j_aload_n (pc := 62) X dX5_cancel_62 rfl (q := 1) rfl ?_
        refine j_get (pc := 63) X (C := RX5) (T := TX5) (N := 10) wz_X5 0 rfl rfl 0 (by decide) wf_X5_7 rfl dX5_cancel_63 ?_
        refine j_iload_n (pc := 66) X dX5_cancel_66 rfl (q := 2) rfl ?_
        refine j_iconst (pc := 67) X (v := (nI 0)) dX5_cancel_67 (by decide) ?_
        refine j_callSR (pc := 68) X (st := [.ref (m 1), .ref (m 0)])  (c_X5_ofBooking l D tA bb 0 ) cd_X5_ofBooking wm_X5_53 rfl [] rfl rfl ⟨Nat.le_of_ble_eq_true rfl, Nat.le_of_ble_eq_true rfl⟩ ⟨Nat.zero_le _, Nat.zero_le _⟩ rfl (Nat.le_of_ble_eq_true rfl) dX5_cancel_68 ?_
        refine j_iald (pc := 71) X 1 (i := (45 + 8 * bb + 0)) rfl (by omega) (by omega) dX5_cancel_71 ?_
        refine j_top (v' := nI (tGet 8 (sB (uB s (tSet 8 (sB s) bb 5 3))) bb 0)) (congrArg nI (RB.b hrB hc5 (by omega))) ?_
        refine j_top (v' := nI (tGet 8 (sB s) bb 0)) (congrArg nI (get_set_c (by decide) (by decide) (by decide))) ?_
        refine j_iload_n (pc := 72) X dX5_cancel_72 rfl (q := 0) rfl ?_
        refine j_callVy (pc := 73) X (st := []) (w' := fun R73 => (rW tA m (mfs m ((hPush v s).2.2) kp len none x.2.1 x.2.2.1 x.2.2.2.1 x.2.2.2.2) R73)) (c_X5_pay l D tA m (mfs m ((hPush v s).2.2) kp len none x.2.1 x.2.2.1 x.2.2.2.1 x.2.2.2.2) (va_up (recR x.1 v.2.2) (45 + 8 * bb + 5) 3) (uB s (tSet 8 (sB s) bb 5 3)) (tGet 8 (sB s) bb 0) (coin s bb) hrB hwB hb0.1) cd_X5_pay wm_X5_82 0 rfl rfl rfl [0, 1] rfl rfl (fun _ => rw_fst) (fun _ => rfl) ⟨Nat.le_of_ble_eq_true rfl, Nat.le_of_ble_eq_true rfl⟩ ⟨Nat.zero_le _, Nat.zero_le _⟩ rfl (Nat.le_of_ble_eq_true rfl) dX5_cancel_73 (fun R73 hu73 => ?_)
        obtain ⟨hr73, ho73⟩ := hu73
        refine j_iload_n (pc := 76) X dX5_cancel_76 rfl (q := 0) rfl ?_
        have e : oCancel s (nI bb) = ((nI (coin s bb)), (some (canS s bb))) := by unfold oCancel; simp only [ebb]; rw [if_pos h5, if_pos (of_decide_eq_true h15)] <;> rfl
        have hZ : RB (canS s bb) R73 := hr73
        exact j_endIy (pc := 77) E dX5_cancel_77 (R73, x.2.1, x.2.2.1, x.2.2.2.1, x.2.2.2.2) (by rw [e]; exact hrel.act (Out.tr (Out.up Out.rf (by omega)) ho73) hZ hok.can) (by rw [e]) (by rw [e]; rfl)
      · skip
        refine j_iconst (pc := 44) X (v := (nI 4)) dX5_cancel_44 (by decide) ?_
        refine j_goto (pc := 45) X (tgt := 49) dX5_cancel_45 (by decide) ?_
        refine j_top (v' := nI (coin s bb)) (by rw [coin, if_pos (Decidable.not_not.mp h41)]) ?_
        refine j_istore_n (pc := 49) X (lv' := [(2, .int (nI (coin s bb))), (0, .ref (m 0)), (1, .int (nI bb))]) dX5_cancel_49 rfl (by decide) rfl ?_
        refine j_aload_n (pc := 50) X dX5_cancel_50 rfl (q := 1) rfl ?_
        refine j_get (pc := 51) X (C := RX5) (T := TX5) (N := 10) wz_X5 0 rfl rfl 0 (by decide) wf_X5_7 rfl dX5_cancel_51 ?_
        refine j_iload_n (pc := 54) X dX5_cancel_54 rfl (q := 2) rfl ?_
        refine j_iconst (pc := 55) X (v := (nI 5)) dX5_cancel_55 (by decide) ?_
        refine j_callSR (pc := 56) X (st := [.ref (m 1)])  (c_X5_ofBooking l D tA bb 5 ) cd_X5_ofBooking wm_X5_53 rfl [] rfl rfl ⟨Nat.le_of_ble_eq_true rfl, Nat.le_of_ble_eq_true rfl⟩ ⟨Nat.zero_le _, Nat.zero_le _⟩ rfl (Nat.le_of_ble_eq_true rfl) dX5_cancel_56 ?_
        refine j_iconst (pc := 59) X (v := (nI 3)) dX5_cancel_59 (by decide) ?_
        refine j_iast (pc := 60) X 1 (i := (45 + 8 * bb + 5)) (v := 3) rfl (by omega) (by omega) (w' := (rW tA m (mfs m ((hPush v s).2.2) kp len none x.2.1 x.2.2.1 x.2.2.2.1 x.2.2.2.2) (va_up (recR x.1 v.2.2) (45 + 8 * bb + 5) 3))) rfl dX5_cancel_60 ?_
        have h50 : tGet 8 (sB s) bb 5 = 0 := of_decide_eq_true h15
        have hrB : RB (uB s (tSet 8 (sB s) bb 5 3)) (va_up (recR x.1 v.2.2) (45 + 8 * bb + 5) 3) := hr2.setB hw hc5 (by decide) (Or.inr ⟨by omega, fun _ => by decide⟩)
        have hwB : Wf (uB s (tSet 8 (sB s) bb 5 3)) := hw.setB (by decide) (show 3 ≤ 3 by decide)
        refine j_aload_n (pc := 61) X dX5_cancel_61 rfl (q := 1) rfl ?_
        refine j_aload_n (pc := 62) X dX5_cancel_62 rfl (q := 1) rfl ?_
        refine j_get (pc := 63) X (C := RX5) (T := TX5) (N := 10) wz_X5 0 rfl rfl 0 (by decide) wf_X5_7 rfl dX5_cancel_63 ?_
        refine j_iload_n (pc := 66) X dX5_cancel_66 rfl (q := 2) rfl ?_
        refine j_iconst (pc := 67) X (v := (nI 0)) dX5_cancel_67 (by decide) ?_
        refine j_callSR (pc := 68) X (st := [.ref (m 1), .ref (m 0)])  (c_X5_ofBooking l D tA bb 0 ) cd_X5_ofBooking wm_X5_53 rfl [] rfl rfl ⟨Nat.le_of_ble_eq_true rfl, Nat.le_of_ble_eq_true rfl⟩ ⟨Nat.zero_le _, Nat.zero_le _⟩ rfl (Nat.le_of_ble_eq_true rfl) dX5_cancel_68 ?_
        refine j_iald (pc := 71) X 1 (i := (45 + 8 * bb + 0)) rfl (by omega) (by omega) dX5_cancel_71 ?_
        refine j_top (v' := nI (tGet 8 (sB (uB s (tSet 8 (sB s) bb 5 3))) bb 0)) (congrArg nI (RB.b hrB hc5 (by omega))) ?_
        refine j_top (v' := nI (tGet 8 (sB s) bb 0)) (congrArg nI (get_set_c (by decide) (by decide) (by decide))) ?_
        refine j_iload_n (pc := 72) X dX5_cancel_72 rfl (q := 0) rfl ?_
        refine j_callVy (pc := 73) X (st := []) (w' := fun R73 => (rW tA m (mfs m ((hPush v s).2.2) kp len none x.2.1 x.2.2.1 x.2.2.2.1 x.2.2.2.2) R73)) (c_X5_pay l D tA m (mfs m ((hPush v s).2.2) kp len none x.2.1 x.2.2.1 x.2.2.2.1 x.2.2.2.2) (va_up (recR x.1 v.2.2) (45 + 8 * bb + 5) 3) (uB s (tSet 8 (sB s) bb 5 3)) (tGet 8 (sB s) bb 0) (coin s bb) hrB hwB hb0.1) cd_X5_pay wm_X5_82 0 rfl rfl rfl [0, 1] rfl rfl (fun _ => rw_fst) (fun _ => rfl) ⟨Nat.le_of_ble_eq_true rfl, Nat.le_of_ble_eq_true rfl⟩ ⟨Nat.zero_le _, Nat.zero_le _⟩ rfl (Nat.le_of_ble_eq_true rfl) dX5_cancel_73 (fun R73 hu73 => ?_)
        obtain ⟨hr73, ho73⟩ := hu73
        refine j_iload_n (pc := 76) X dX5_cancel_76 rfl (q := 0) rfl ?_
        have e : oCancel s (nI bb) = ((nI (coin s bb)), (some (canS s bb))) := by unfold oCancel; simp only [ebb]; rw [if_pos h5, if_pos (of_decide_eq_true h15)] <;> rfl
        have hZ : RB (canS s bb) R73 := hr73
        exact j_endIy (pc := 77) E dX5_cancel_77 (R73, x.2.1, x.2.2.1, x.2.2.2.1, x.2.2.2.2) (by rw [e]; exact hrel.act (Out.tr (Out.up Out.rf (by omega)) ho73) hZ hok.can) (by rw [e]) (by rw [e]; rfl)
    · skip
      skip
      refine j_bipush (pc := 18) X (v := (-4)) dX5_cancel_18 (by decide) ?_
      have e : oCancel s (nI bb) = ((-4), none) := by unfold oCancel; simp only [ebb]; rw [if_pos h5, if_neg (fun q => h15 (decide_eq_true q))] <;> rfl
      exact j_endIy (pc := 20) E dX5_cancel_20 x (by rw [e]; exact hrel) (by rw [e]) (by rw [e]; rfl)
  · skip
    skip
    refine j_iconst (pc := 8) X (v := (-1)) dX5_cancel_8 (by decide) ?_
    have e : oCancel s b0 = ((-1), none) := by unfold oCancel; rw [if_neg h5] <;> rfl
    exact j_endIy (pc := 9) E dX5_cancel_9 x (by rw [e]; exact hrel) (by rw [e]) (by rw [e]; rfl)
theorem swp_no {A B : Prop} [Decidable A] [Decidable B] {α : Type} {x y : α} (h : A → ¬ B) : (if A then (if B then x else y) else y) = y := by
  by_cases a : A
  · rw [if_pos a, if_neg (h a)]
  · rw [if_neg a]
theorem cd_X5_swap : kCardV yX5_swap cX5_swap 5 (some .int) 2 := ⟨⟨wc_X5_swap, wi_X5, by decide +kernel, by decide +kernel, rfl⟩, wk_X5_swap, ws_X5_swap⟩
set_option maxHeartbeats 4000000 in
set_option maxRecDepth 100000 in
theorem c_X5_swap (l : Launch) (D : va_G) (tA : Nat → ClassId) (m : Nat → Nat) (x : MX) (s sn : Sg) (v : Hs) (kp : Bool) (len : Nat) (b0 c0 : Int32) (hrel : RelM s sn v kp x.1) : Ky l D tA yX5_swap cX5_swap 5 (some .int) 3 68 [.ref (m 0), .int b0, .int c0] (mW tA m v.2.2 kp len x) (S := MX) (fun y => RelM (aS s (oSwap s b0 c0).2) sn (aH v s (oSwap s b0 c0).2) kp y.1) (fun y => some (.int ((oSwap s b0 c0).1))) (fun y => mW tA m (aH v s (oSwap s b0 c0).2).2.2 kp len y) := by
  refine ky_int rfl (Nat.le_of_ble_eq_true rfl) (fun G X E => ?_)
  show J l D G 0 0 (mW tA m v.2.2 kp len x) [(0, .ref (m 0)), (1, .int b0), (2, .int c0)] 0 []
  have hr := hrel.1
  have hok := hrel.2.1
  have hw := hok.1
  have hn := hw.n
  have hsz := hrel.2.2.2.1
  refine j_aload_n (pc := 0) X dX5_swap_0 rfl (q := 0) rfl ?_
  refine j_iload_n (pc := 1) X dX5_swap_1 rfl (q := 1) rfl ?_
  refine j_callVR (pc := 2) X (st := [])  (c_X5_isBooking l D tA m (mfs m v.2.2 kp len none x.2.1 x.2.2.1 x.2.2.2.1 x.2.2.2.2) x.1 s b0 hr hw ) cd_X5_isBooking wm_X5_76 0 rfl rfl rfl [0, 1] rfl rfl ⟨Nat.le_of_ble_eq_true rfl, Nat.le_of_ble_eq_true rfl⟩ ⟨Nat.zero_le _, Nat.zero_le _⟩ rfl (Nat.le_of_ble_eq_true rfl) dX5_swap_2 ?_
  refine j_if_eq (pc := 5) X (tgt := 16) (P := (inR b0 (sB s).1) = false) dX5_swap_5 (by decide) (bI_0 _) (fun h5 => ?_) (fun h5 => ?_)
  · skip
    have h5 := nf5 h5
    refine j_iconst (pc := 16) X (v := (-1)) dX5_swap_16 (by decide) ?_
    have e : oSwap s b0 c0 = ((-1), none) := by unfold oSwap; rw [if_neg (fun q => h5 q.1)] <;> rfl
    exact j_endIy (pc := 17) E dX5_swap_17 x (by rw [e]; exact hrel) (by rw [e]) (by rw [e]; rfl)
  · skip
    have h5 := t5 h5
    obtain ⟨bb, hc5, rfl⟩ := inR_t h5
    have ebb : tn (nI bb) = bb := tn_nI (by omega)
    have hb0 := hw.b hc5
    refine j_aload_n (pc := 8) X dX5_swap_8 rfl (q := 0) rfl ?_
    refine j_iload_n (pc := 9) X dX5_swap_9 rfl (q := 2) rfl ?_
    refine j_callVR (pc := 10) X (st := [])  (c_X5_isBooking l D tA m (mfs m v.2.2 kp len none x.2.1 x.2.2.1 x.2.2.2.1 x.2.2.2.2) x.1 s c0 hr hw ) cd_X5_isBooking wm_X5_76 0 rfl rfl rfl [0, 1] rfl rfl ⟨Nat.le_of_ble_eq_true rfl, Nat.le_of_ble_eq_true rfl⟩ ⟨Nat.zero_le _, Nat.zero_le _⟩ rfl (Nat.le_of_ble_eq_true rfl) dX5_swap_10 ?_
    refine j_if_ne (pc := 13) X (tgt := 18) (P := (inR c0 (sB s).1) = true) dX5_swap_13 (by decide) (bI_n0 _) (fun h13 => ?_) (fun h13 => ?_)
    · skip
      skip
      obtain ⟨ce, hc13, rfl⟩ := inR_t h13
      have ece : tn (nI ce) = ce := tn_nI (by omega)
      have hd0 := hw.b hc13
      refine j_iload_n (pc := 18) X dX5_swap_18 rfl (q := 1) rfl ?_
      refine j_iload_n (pc := 19) X dX5_swap_19 rfl (q := 2) rfl ?_
      refine j_icmp_ne (pc := 20) X (tgt := 26) (P := ¬ bb = ce) dX5_swap_20 (by decide) (not_congr (nI_eq (by omega) (by omega))) (fun h20 => ?_) (fun h20 => ?_)
      · skip
        refine j_aload_n (pc := 26) X dX5_swap_26 rfl (q := 0) rfl ?_
        refine j_iload_n (pc := 27) X dX5_swap_27 rfl (q := 1) rfl ?_
        refine j_iload_n (pc := 28) X dX5_swap_28 rfl (q := 2) rfl ?_
        refine j_callVR (pc := 29) X (st := [])  (c_X5_canGet l D tA m (mfs m v.2.2 kp len none x.2.1 x.2.2.1 x.2.2.2.1 x.2.2.2.2) x.1 s bb ce hr hw hc5 hc13) cd_X5_canGet wm_X5_85 0 rfl rfl rfl [0, 1] rfl rfl ⟨Nat.le_of_ble_eq_true rfl, Nat.le_of_ble_eq_true rfl⟩ ⟨Nat.zero_le _, Nat.zero_le _⟩ rfl (Nat.le_of_ble_eq_true rfl) dX5_swap_29 ?_
        refine j_if_eq (pc := 32) X (tgt := 44) (P := (decide (tGet 8 (sB s) bb 5 = 0 ∧ brsB s (tGet 8 (sB s) ce 1) bb = true)) = false) dX5_swap_32 (by decide) (bI_0 _) (fun h32 => ?_) (fun h32 => ?_)
        · skip
          have h32 := nf5 h32
          refine j_bipush (pc := 44) X (v := (-4)) dX5_swap_44 (by decide) ?_
          have e : oSwap s (nI bb) (nI ce) = ((-4), none) := by unfold oSwap; simp only [ebb, ece]; rw [if_pos ⟨h5, h13⟩, if_neg h20]; exact swp_no (fun z q => h32 (decide_eq_true ⟨z.1, q.1⟩))
          exact j_endIy (pc := 46) E dX5_swap_46 x (by rw [e]; exact hrel) (by rw [e]) (by rw [e]; rfl)
        · skip
          have h32 := t5 h32
          refine j_aload_n (pc := 35) X dX5_swap_35 rfl (q := 0) rfl ?_
          refine j_iload_n (pc := 36) X dX5_swap_36 rfl (q := 2) rfl ?_
          refine j_iload_n (pc := 37) X dX5_swap_37 rfl (q := 1) rfl ?_
          refine j_callVR (pc := 38) X (st := [])  (c_X5_canGet l D tA m (mfs m v.2.2 kp len none x.2.1 x.2.2.1 x.2.2.2.1 x.2.2.2.2) x.1 s ce bb hr hw hc13 hc5) cd_X5_canGet wm_X5_85 0 rfl rfl rfl [0, 1] rfl rfl ⟨Nat.le_of_ble_eq_true rfl, Nat.le_of_ble_eq_true rfl⟩ ⟨Nat.zero_le _, Nat.zero_le _⟩ rfl (Nat.le_of_ble_eq_true rfl) dX5_swap_38 ?_
          refine j_if_ne (pc := 41) X (tgt := 47) (P := (decide (tGet 8 (sB s) ce 5 = 0 ∧ brsB s (tGet 8 (sB s) bb 1) ce = true)) = true) dX5_swap_41 (by decide) (bI_n0 _) (fun h41 => ?_) (fun h41 => ?_)
          · skip
            skip
            refine j_aload_n (pc := 47) X dX5_swap_47 rfl (q := 0) rfl ?_
            refine j_callV (pc := 48) X (st := []) (w' := (rW tA m (mfs m (recN v.2.2) kp len none x.2.1 x.2.2.1 x.2.2.2.1 x.2.2.2.2) (recR x.1 v.2.2))) (c_X5_record l D tA m x.1 v.2.2 kp len none x.2.1 x.2.2.1 x.2.2.2.1 x.2.2.2.2 hrel.2.2.2.1) cd_X5_record wm_X5_35 0 rfl rfl rfl [0, 1] rfl rfl rw_fst rfl ⟨Nat.le_of_ble_eq_true rfl, Nat.le_of_ble_eq_true rfl⟩ ⟨Nat.zero_le _, Nat.zero_le _⟩ rfl (Nat.le_of_ble_eq_true rfl) dX5_swap_48 ?_
            have hr2 : RB s (recR x.1 v.2.2) := hrel.rec0
            refine j_ws (w2 := (rW tA m (mfs m ((hPush v s).2.2) kp len none x.2.1 x.2.2.1 x.2.2.2.1 x.2.2.2.2) (recR x.1 v.2.2))) (by rw [recN_sz (s := s) hrel.2.2.2.1]) ?_
            refine j_aload_n (pc := 51) X dX5_swap_51 rfl (q := 0) rfl ?_
            refine j_get (pc := 52) X (C := RX5) (T := TX5) (N := 10) wz_X5 0 rfl rfl 0 (by decide) wf_X5_7 rfl dX5_swap_52 ?_
            refine j_iload_n (pc := 55) X dX5_swap_55 rfl (q := 1) rfl ?_
            refine j_iconst (pc := 56) X (v := (nI 1)) dX5_swap_56 (by decide) ?_
            refine j_callSR (pc := 57) X (st := [.ref (m 1)])  (c_X5_ofBooking l D tA bb 1 ) cd_X5_ofBooking wm_X5_53 rfl [] rfl rfl ⟨Nat.le_of_ble_eq_true rfl, Nat.le_of_ble_eq_true rfl⟩ ⟨Nat.zero_le _, Nat.zero_le _⟩ rfl (Nat.le_of_ble_eq_true rfl) dX5_swap_57 ?_
            refine j_iald (pc := 60) X 1 (i := (45 + 8 * bb + 1)) rfl (by omega) (by omega) dX5_swap_60 ?_
            refine j_top (v' := nI (tGet 8 (sB s) bb 1)) (congrArg nI (RB.b hr2 hc5 (by omega))) ?_
            refine j_istore_n (pc := 61) X (lv' := [(3, .int (nI (tGet 8 (sB s) bb 1))), (0, .ref (m 0)), (1, .int (nI bb)), (2, .int (nI ce))]) dX5_swap_61 rfl (by decide) rfl ?_
            refine j_aload_n (pc := 62) X dX5_swap_62 rfl (q := 1) rfl ?_
            refine j_get (pc := 63) X (C := RX5) (T := TX5) (N := 10) wz_X5 0 rfl rfl 0 (by decide) wf_X5_7 rfl dX5_swap_63 ?_
            refine j_iload_n (pc := 66) X dX5_swap_66 rfl (q := 2) rfl ?_
            refine j_iconst (pc := 67) X (v := (nI 2)) dX5_swap_67 (by decide) ?_
            refine j_callSR (pc := 68) X (st := [.ref (m 1)])  (c_X5_ofBooking l D tA bb 2 ) cd_X5_ofBooking wm_X5_53 rfl [] rfl rfl ⟨Nat.le_of_ble_eq_true rfl, Nat.le_of_ble_eq_true rfl⟩ ⟨Nat.zero_le _, Nat.zero_le _⟩ rfl (Nat.le_of_ble_eq_true rfl) dX5_swap_68 ?_
            refine j_iald (pc := 71) X 1 (i := (45 + 8 * bb + 2)) rfl (by omega) (by omega) dX5_swap_71 ?_
            refine j_top (v' := nI (tGet 8 (sB s) bb 2)) (congrArg nI (RB.b hr2 hc5 (by omega))) ?_
            refine j_istore (pc := 72) X (lv' := [(4, .int (nI (tGet 8 (sB s) bb 2))), (3, .int (nI (tGet 8 (sB s) bb 1))), (0, .ref (m 0)), (1, .int (nI bb)), (2, .int (nI ce))]) dX5_swap_72 (by decide) rfl ?_
            refine j_aload_n (pc := 74) X dX5_swap_74 rfl (q := 2) rfl ?_
            refine j_iload_n (pc := 75) X dX5_swap_75 rfl (q := 3) rfl ?_
            refine j_aload_n (pc := 76) X dX5_swap_76 rfl (q := 2) rfl ?_
            refine j_get (pc := 77) X (C := RX5) (T := TX5) (N := 10) wz_X5 0 rfl rfl 0 (by decide) wf_X5_7 rfl dX5_swap_77 ?_
            refine j_iload_n (pc := 80) X dX5_swap_80 rfl (q := 4) rfl ?_
            refine j_iconst (pc := 81) X (v := (nI 1)) dX5_swap_81 (by decide) ?_
            refine j_callSR (pc := 82) X (st := [.ref (m 1), .int (nI bb), .ref (m 0)])  (c_X5_ofBooking l D tA ce 1 ) cd_X5_ofBooking wm_X5_53 rfl [] rfl rfl ⟨Nat.le_of_ble_eq_true rfl, Nat.le_of_ble_eq_true rfl⟩ ⟨Nat.zero_le _, Nat.zero_le _⟩ rfl (Nat.le_of_ble_eq_true rfl) dX5_swap_82 ?_
            refine j_iald (pc := 85) X 1 (i := (45 + 8 * ce + 1)) rfl (by omega) (by omega) dX5_swap_85 ?_
            refine j_top (v' := nI (tGet 8 (sB s) ce 1)) (congrArg nI (RB.b hr2 hc13 (by omega))) ?_
            refine j_aload_n (pc := 86) X dX5_swap_86 rfl (q := 2) rfl ?_
            refine j_get (pc := 87) X (C := RX5) (T := TX5) (N := 10) wz_X5 0 rfl rfl 0 (by decide) wf_X5_7 rfl dX5_swap_87 ?_
            refine j_iload_n (pc := 90) X dX5_swap_90 rfl (q := 4) rfl ?_
            refine j_iconst (pc := 91) X (v := (nI 2)) dX5_swap_91 (by decide) ?_
            refine j_callSR (pc := 92) X (st := [.ref (m 1), .int (nI (tGet 8 (sB s) ce 1)), .int (nI bb), .ref (m 0)])  (c_X5_ofBooking l D tA ce 2 ) cd_X5_ofBooking wm_X5_53 rfl [] rfl rfl ⟨Nat.le_of_ble_eq_true rfl, Nat.le_of_ble_eq_true rfl⟩ ⟨Nat.zero_le _, Nat.zero_le _⟩ rfl (Nat.le_of_ble_eq_true rfl) dX5_swap_92 ?_
            refine j_iald (pc := 95) X 1 (i := (45 + 8 * ce + 2)) rfl (by omega) (by omega) dX5_swap_95 ?_
            refine j_top (v' := nI (tGet 8 (sB s) ce 2)) (congrArg nI (RB.b hr2 hc13 (by omega))) ?_
            have h5b : tGet 8 (sB s) bb 5 = 0 := (of_decide_eq_true h32).1
            have h5c : tGet 8 (sB s) ce 5 = 0 := (of_decide_eq_true h41).1
            refine j_callVy (pc := 96) X (st := []) (w' := fun R96 => (rW tA m (mfs m ((hPush v s).2.2) kp len none x.2.1 x.2.2.1 x.2.2.2.1 x.2.2.2.2) R96)) (c_X5_give l D tA m (mfs m ((hPush v s).2.2) kp len none x.2.1 x.2.2.1 x.2.2.2.1 x.2.2.2.2) (recR x.1 v.2.2) s bb (tGet 8 (sB s) ce 1) (tGet 8 (sB s) ce 2) hr2 hw hc5 hd0.2.1 hd0.2.2.1 (by omega)) cd_X5_give wm_X5_72 0 rfl rfl rfl [0, 1] rfl rfl (fun _ => rw_fst) (fun _ => rfl) ⟨Nat.le_of_ble_eq_true rfl, Nat.le_of_ble_eq_true rfl⟩ ⟨Nat.zero_le _, Nat.zero_le _⟩ rfl (Nat.le_of_ble_eq_true rfl) dX5_swap_96 (fun R96 hu96 => ?_)
            obtain ⟨hr96, ho96⟩ := hu96
            refine j_aload_n (pc := 99) X dX5_swap_99 rfl (q := 2) rfl ?_
            refine j_iload_n (pc := 100) X dX5_swap_100 rfl (q := 4) rfl ?_
            refine j_iload_n (pc := 101) X dX5_swap_101 rfl (q := 1) rfl ?_
            refine j_iload (pc := 102) X dX5_swap_102 (q := 0) rfl ?_
            refine j_callVy (pc := 104) X (st := []) (w' := fun R104 => (rW tA m (mfs m ((hPush v s).2.2) kp len none x.2.1 x.2.2.1 x.2.2.2.1 x.2.2.2.2) R104)) (c_X5_give l D tA m (mfs m ((hPush v s).2.2) kp len none x.2.1 x.2.2.1 x.2.2.2.1 x.2.2.2.2) R96 (placeS s bb (tGet 8 (sB s) ce 1) (tGet 8 (sB s) ce 2)) ce (tGet 8 (sB s) bb 1) (tGet 8 (sB s) bb 2) hr96 (hw.place hd0.2.1 hd0.2.2.1) (show ce < (sB s).1 from hc13) (show tGet 8 (sB s) bb 1 < (sM s).1 from hb0.2.1) hb0.2.2.1 (by rw [plc_get (by decide), if_neg (by omega), if_neg (by omega), if_neg (by omega)]; omega)) cd_X5_give wm_X5_72 0 rfl rfl rfl [0, 1] rfl rfl (fun _ => rw_fst) (fun _ => rfl) ⟨Nat.le_of_ble_eq_true rfl, Nat.le_of_ble_eq_true rfl⟩ ⟨Nat.zero_le _, Nat.zero_le _⟩ rfl (Nat.le_of_ble_eq_true rfl) dX5_swap_104 (fun R104 hu104 => ?_)
            obtain ⟨hr104, ho104⟩ := hu104
            refine j_aload_n (pc := 107) X dX5_swap_107 rfl (q := 2) rfl ?_
            refine j_get (pc := 108) X (C := RX5) (T := TX5) (N := 10) wz_X5 0 rfl rfl 0 (by decide) wf_X5_7 rfl dX5_swap_108 ?_
            refine j_iload_n (pc := 111) X dX5_swap_111 rfl (q := 3) rfl ?_
            refine j_iconst (pc := 112) X (v := (nI 2)) dX5_swap_112 (by decide) ?_
            refine j_callSR (pc := 113) X (st := [.ref (m 1)])  (c_X5_ofBooking l D tA bb 2 ) cd_X5_ofBooking wm_X5_53 rfl [] rfl rfl ⟨Nat.le_of_ble_eq_true rfl, Nat.le_of_ble_eq_true rfl⟩ ⟨Nat.zero_le _, Nat.zero_le _⟩ rfl (Nat.le_of_ble_eq_true rfl) dX5_swap_113 ?_
            refine j_iald (pc := 116) X 1 (i := (45 + 8 * bb + 2)) rfl (by omega) (by omega) dX5_swap_116 ?_
            refine j_top (v' := nI (tGet 8 (sB (placeS (placeS s bb (tGet 8 (sB s) ce 1) (tGet 8 (sB s) ce 2)) ce (tGet 8 (sB s) bb 1) (tGet 8 (sB s) bb 2))) bb 2)) (congrArg nI (RB.b hr104 (show bb < (sB s).1 from hc5) (by omega))) ?_
            refine j_top (v' := nI (tGet 8 (sB s) ce 2)) (congrArg nI (by rw [plc_get (by decide), if_neg (by omega), if_neg (fun q => h20 q.1), if_neg (by omega), plc_get (by decide), if_neg (by omega), if_pos ⟨rfl, rfl⟩])) ?_
            have e : oSwap s (nI bb) (nI ce) = ((nI (tGet 8 (sB s) ce 2)), (some (swpS s bb ce))) := by unfold oSwap; simp only [ebb, ece]; rw [if_pos ⟨h5, h13⟩, if_neg h20, if_pos ⟨(of_decide_eq_true h32).1, (of_decide_eq_true h41).1⟩, if_pos ⟨(of_decide_eq_true h32).2, (of_decide_eq_true h41).2⟩] <;> rfl
            have hZ : RB (swpS s bb ce) R104 := hr104
            exact j_endIy (pc := 117) E dX5_swap_117 (R104, x.2.1, x.2.2.1, x.2.2.2.1, x.2.2.2.2) (by rw [e]; exact hrel.act (Out.tr (Out.tr Out.rf ho96) ho104) hZ (hok.swp hc5 hc13 h5b h5c)) (by rw [e]) (by rw [e]; rfl)
          · skip
            skip
            refine j_bipush (pc := 44) X (v := (-4)) dX5_swap_44 (by decide) ?_
            have e : oSwap s (nI bb) (nI ce) = ((-4), none) := by unfold oSwap; simp only [ebb, ece]; rw [if_pos ⟨h5, h13⟩, if_neg h20]; exact swp_no (fun z q => h41 (decide_eq_true ⟨z.2, q.2⟩))
            exact j_endIy (pc := 46) E dX5_swap_46 x (by rw [e]; exact hrel) (by rw [e]) (by rw [e]; rfl)
      · skip
        refine j_bipush (pc := 23) X (v := (-2)) dX5_swap_23 (by decide) ?_
        have e : oSwap s (nI bb) (nI ce) = ((-2), none) := by unfold oSwap; simp only [ebb, ece]; rw [if_pos ⟨h5, h13⟩, if_pos (Decidable.not_not.mp h20)] <;> rfl
        exact j_endIy (pc := 25) E dX5_swap_25 x (by rw [e]; exact hrel) (by rw [e]) (by rw [e]; rfl)
    · skip
      skip
      refine j_iconst (pc := 16) X (v := (-1)) dX5_swap_16 (by decide) ?_
      have e : oSwap s (nI bb) c0 = ((-1), none) := by unfold oSwap; simp only [ebb]; rw [if_neg (fun q => h13 q.2)] <;> rfl
      exact j_endIy (pc := 17) E dX5_swap_17 x (by rw [e]; exact hrel) (by rw [e]) (by rw [e]; rfl)
theorem cd_X5_order : kCardV yX5_order cX5_order 7 (some .int) 5 := ⟨⟨wc_X5_order, wi_X5, by decide +kernel, by decide +kernel, rfl⟩, wk_X5_order, ws_X5_order⟩
set_option maxHeartbeats 4000000 in
set_option maxRecDepth 100000 in
theorem c_X5_order (l : Launch) (D : va_G) (tA : Nat → ClassId) (m : Nat → Nat) (x : MX) (s sn : Sg) (v : Hs) (kp : Bool) (len : Nat) (p0 f0 g0 u0 t0 : Int32) (hrel : RelM s sn v kp x.1) : Ky l D tA yX5_order cX5_order 7 (some .int) 2 44 [.ref (m 0), .int p0, .int f0, .int g0, .int u0, .int t0] (mW tA m v.2.2 kp len x) (S := MX) (fun y => RelM (aS s (oOrder s p0 f0 g0 u0 t0).2) sn (aH v s (oOrder s p0 f0 g0 u0 t0).2) kp y.1) (fun y => some (.int ((oOrder s p0 f0 g0 u0 t0).1))) (fun y => mW tA m (aH v s (oOrder s p0 f0 g0 u0 t0).2).2.2 kp len y) := by
  refine ky_int rfl (Nat.le_of_ble_eq_true rfl) (fun G X E => ?_)
  show J l D G 0 0 (mW tA m v.2.2 kp len x) [(0, .ref (m 0)), (1, .int p0), (2, .int f0), (3, .int g0), (4, .int u0), (5, .int t0)] 0 []
  have hr := hrel.1
  have hok := hrel.2.1
  have hw := hok.1
  have hn := hw.n
  have hsz := hrel.2.2.2.1
  refine j_aload_n (pc := 0) X dX5_order_0 rfl (q := 0) rfl ?_
  refine j_iload_n (pc := 1) X dX5_order_1 rfl (q := 1) rfl ?_
  refine j_callVR (pc := 2) X (st := [])  (c_X5_isMember l D tA m (mfs m v.2.2 kp len none x.2.1 x.2.2.1 x.2.2.2.1 x.2.2.2.2) x.1 s p0 hr hw ) cd_X5_isMember wm_X5_56 0 rfl rfl rfl [0, 1] rfl rfl ⟨Nat.le_of_ble_eq_true rfl, Nat.le_of_ble_eq_true rfl⟩ ⟨Nat.zero_le _, Nat.zero_le _⟩ rfl (Nat.le_of_ble_eq_true rfl) dX5_order_2 ?_
  refine j_if_eq (pc := 5) X (tgt := 33) (P := (inR p0 (sP s).1) = false) dX5_order_5 (by decide) (bI_0 _) (fun h5 => ?_) (fun h5 => ?_)
  · skip
    have h5 := nf5 h5
    refine j_iconst (pc := 33) X (v := (-1)) dX5_order_33 (by decide) ?_
    have e : oOrder s p0 f0 g0 u0 t0 = ((-1), none) := by unfold oOrder; rw [if_neg (fun q => h5 q.1)] <;> rfl
    exact j_endIy (pc := 34) E dX5_order_34 x (by rw [e]; exact hrel) (by rw [e]) (by rw [e]; rfl)
  · skip
    have h5 := t5 h5
    obtain ⟨pp, hc5, rfl⟩ := inR_t h5
    have epp : tn (nI pp) = pp := tn_nI (by omega)
    refine j_aload_n (pc := 8) X dX5_order_8 rfl (q := 0) rfl ?_
    refine j_iload_n (pc := 9) X dX5_order_9 rfl (q := 2) rfl ?_
    refine j_callVR (pc := 10) X (st := [])  (c_X5_isMachine l D tA m (mfs m v.2.2 kp len none x.2.1 x.2.2.1 x.2.2.2.1 x.2.2.2.2) x.1 s f0 hr hw ) cd_X5_isMachine wm_X5_59 0 rfl rfl rfl [0, 1] rfl rfl ⟨Nat.le_of_ble_eq_true rfl, Nat.le_of_ble_eq_true rfl⟩ ⟨Nat.zero_le _, Nat.zero_le _⟩ rfl (Nat.le_of_ble_eq_true rfl) dX5_order_10 ?_
    refine j_if_eq (pc := 13) X (tgt := 33) (P := (inR f0 (sM s).1) = false) dX5_order_13 (by decide) (bI_0 _) (fun h13 => ?_) (fun h13 => ?_)
    · skip
      have h13 := nf5 h13
      refine j_iconst (pc := 33) X (v := (-1)) dX5_order_33 (by decide) ?_
      have e : oOrder s (nI pp) f0 g0 u0 t0 = ((-1), none) := by unfold oOrder; simp only [epp]; rw [if_neg (fun q => h13 q.2.1)] <;> rfl
      exact j_endIy (pc := 34) E dX5_order_34 x (by rw [e]; exact hrel) (by rw [e]) (by rw [e]; rfl)
    · skip
      have h13 := t5 h13
      obtain ⟨ff, hc13, rfl⟩ := inR_t h13
      have eff : tn (nI ff) = ff := tn_nI (by omega)
      refine j_aload_n (pc := 16) X dX5_order_16 rfl (q := 0) rfl ?_
      refine j_iload_n (pc := 17) X dX5_order_17 rfl (q := 3) rfl ?_
      refine j_callVR (pc := 18) X (st := [])  (c_X5_isMachine l D tA m (mfs m v.2.2 kp len none x.2.1 x.2.2.1 x.2.2.2.1 x.2.2.2.2) x.1 s g0 hr hw ) cd_X5_isMachine wm_X5_59 0 rfl rfl rfl [0, 1] rfl rfl ⟨Nat.le_of_ble_eq_true rfl, Nat.le_of_ble_eq_true rfl⟩ ⟨Nat.zero_le _, Nat.zero_le _⟩ rfl (Nat.le_of_ble_eq_true rfl) dX5_order_18 ?_
      refine j_if_eq (pc := 21) X (tgt := 33) (P := (inR g0 (sM s).1) = false) dX5_order_21 (by decide) (bI_0 _) (fun h21 => ?_) (fun h21 => ?_)
      · skip
        have h21 := nf5 h21
        refine j_iconst (pc := 33) X (v := (-1)) dX5_order_33 (by decide) ?_
        have e : oOrder s (nI pp) (nI ff) g0 u0 t0 = ((-1), none) := by unfold oOrder; simp only [epp, eff]; rw [if_neg (fun q => h21 q.2.2.1)] <;> rfl
        exact j_endIy (pc := 34) E dX5_order_34 x (by rw [e]; exact hrel) (by rw [e]) (by rw [e]; rfl)
      · skip
        have h21 := t5 h21
        obtain ⟨gg, hc21, rfl⟩ := inR_t h21
        have egg : tn (nI gg) = gg := tn_nI (by omega)
        refine j_aload_n (pc := 24) X dX5_order_24 rfl (q := 0) rfl ?_
        refine j_iload (pc := 25) X dX5_order_25 (q := 5) rfl ?_
        refine j_callVR (pc := 27) X (st := [])  (c_X5_isToCome l D tA m (mfs m v.2.2 kp len none x.2.1 x.2.2.1 x.2.2.2.1 x.2.2.2.2) x.1 s t0 hr hw ) cd_X5_isToCome wm_X5_45 0 rfl rfl rfl [0, 1] rfl rfl ⟨Nat.le_of_ble_eq_true rfl, Nat.le_of_ble_eq_true rfl⟩ ⟨Nat.zero_le _, Nat.zero_le _⟩ rfl (Nat.le_of_ble_eq_true rfl) dX5_order_27 ?_
        refine j_if_ne (pc := 30) X (tgt := 35) (P := (toCome s t0) = true) dX5_order_30 (by decide) (bI_n0 _) (fun h30 => ?_) (fun h30 => ?_)
        · skip
          skip
          obtain ⟨tt, hc30, rfl⟩ := toCome_t h30
          have ett : tn (nI tt) = tt := tn_nI (by omega)
          refine j_iload (pc := 35) X dX5_order_35 (q := 4) rfl ?_
          refine j_iconst (pc := 37) X (v := (nI 1)) dX5_order_37 (by decide) ?_
          refine j_bipush (pc := 38) X (v := (nI 12)) dX5_order_38 (by decide) ?_
          refine j_callSR (pc := 40) X (st := [])  (c_X5_in l D tA u0 (nI 1) (nI 12) ) cd_X5_in wm_X5_20 rfl [] rfl rfl ⟨Nat.le_of_ble_eq_true rfl, Nat.le_of_ble_eq_true rfl⟩ ⟨Nat.zero_le _, Nat.zero_le _⟩ rfl (Nat.le_of_ble_eq_true rfl) dX5_order_40 ?_
          refine j_if_eq (pc := 43) X (tgt := 51) (P := (isW u0 (nI 1) (nI 12)) = false) dX5_order_43 (by decide) (bI_0 _) (fun h43 => ?_) (fun h43 => ?_)
          · skip
            have h43 := nf5 h43
            refine j_bipush (pc := 51) X (v := (-2)) dX5_order_51 (by decide) ?_
            have e : oOrder s (nI pp) (nI ff) (nI gg) u0 (nI tt) = ((-2), none) := by unfold oOrder; simp only [epp, eff, egg, ett]; rw [if_pos ⟨h5, h13, h21, h30⟩, if_neg (fun q => h43 q.1)] <;> rfl
            exact j_endIy (pc := 53) E dX5_order_53 x (by rw [e]; exact hrel) (by rw [e]) (by rw [e]; rfl)
          · skip
            have h43 := t5 h43
            obtain ⟨uu, hc43, rfl⟩ := isW_t (by omega) (by omega) h43
            have euu : tn (nI uu) = uu := tn_nI (by omega)
            refine j_iload_n (pc := 46) X dX5_order_46 rfl (q := 2) rfl ?_
            refine j_iload_n (pc := 47) X dX5_order_47 rfl (q := 3) rfl ?_
            refine j_icmp_ne (pc := 48) X (tgt := 54) (P := ¬ ff = gg) dX5_order_48 (by decide) (not_congr (nI_eq (by omega) (by omega))) (fun h48 => ?_) (fun h48 => ?_)
            · skip
              refine j_aload_n (pc := 54) X dX5_order_54 rfl (q := 0) rfl ?_
              refine j_get (pc := 55) X (C := RX5) (T := TX5) (N := 10) wz_X5 0 rfl rfl 0 (by decide) wf_X5_7 rfl dX5_order_55 ?_
              refine j_iconst (pc := 58) X (v := (nI 4)) dX5_order_58 (by decide) ?_
              refine j_iald (pc := 59) X 1 (i := 4) rfl (by omega) (by omega) dX5_order_59 ?_
              refine j_top (v' := nI ((sV s).1)) (congrArg nI (RB.n4 hr)) ?_
              refine j_bipush (pc := 60) X (v := (nI 10)) dX5_order_60 (by decide) ?_
              refine j_icmp_ne (pc := 62) X (tgt := 68) (P := ¬ ((sV s).1) = 10) dX5_order_62 (by decide) (not_congr (nI_eq (by omega) (by omega))) (fun h62 => ?_) (fun h62 => ?_)
              · skip
                refine j_aload_n (pc := 68) X dX5_order_68 rfl (q := 0) rfl ?_
                refine j_callV (pc := 69) X (st := []) (w' := (rW tA m (mfs m (recN v.2.2) kp len none x.2.1 x.2.2.1 x.2.2.2.1 x.2.2.2.2) (recR x.1 v.2.2))) (c_X5_record l D tA m x.1 v.2.2 kp len none x.2.1 x.2.2.1 x.2.2.2.1 x.2.2.2.2 hrel.2.2.2.1) cd_X5_record wm_X5_35 0 rfl rfl rfl [0, 1] rfl rfl rw_fst rfl ⟨Nat.le_of_ble_eq_true rfl, Nat.le_of_ble_eq_true rfl⟩ ⟨Nat.zero_le _, Nat.zero_le _⟩ rfl (Nat.le_of_ble_eq_true rfl) dX5_order_69 ?_
                have hr2 : RB s (recR x.1 v.2.2) := hrel.rec0
                refine j_ws (w2 := (rW tA m (mfs m ((hPush v s).2.2) kp len none x.2.1 x.2.2.1 x.2.2.2.1 x.2.2.2.2) (recR x.1 v.2.2))) (by rw [recN_sz (s := s) hrel.2.2.2.1]) ?_
                refine j_aload_n (pc := 72) X dX5_order_72 rfl (q := 0) rfl ?_
                refine j_get (pc := 73) X (C := RX5) (T := TX5) (N := 10) wz_X5 0 rfl rfl 0 (by decide) wf_X5_7 rfl dX5_order_73 ?_
                refine j_iconst (pc := 76) X (v := (nI 4)) dX5_order_76 (by decide) ?_
                refine j_iald (pc := 77) X 1 (i := 4) rfl (by omega) (by omega) dX5_order_77 ?_
                refine j_top (v' := nI ((sV s).1)) (congrArg nI (RB.n4 hr2)) ?_
                refine j_istore (pc := 78) X (lv' := [(6, .int (nI ((sV s).1))), (0, .ref (m 0)), (1, .int (nI pp)), (2, .int (nI ff)), (3, .int (nI gg)), (4, .int (nI uu)), (5, .int (nI tt))]) dX5_order_78 (by decide) rfl ?_
                refine j_aload_n (pc := 80) X dX5_order_80 rfl (q := 1) rfl ?_
                refine j_get (pc := 81) X (C := RX5) (T := TX5) (N := 10) wz_X5 0 rfl rfl 0 (by decide) wf_X5_7 rfl dX5_order_81 ?_
                refine j_iload (pc := 84) X dX5_order_84 (q := 0) rfl ?_
                refine j_iconst (pc := 86) X (v := (nI 0)) dX5_order_86 (by decide) ?_
                refine j_callSR (pc := 87) X (st := [.ref (m 1)])  (c_X5_ofMove l D tA ((sV s).1) 0 ) cd_X5_ofMove wm_X5_88 rfl [] rfl rfl ⟨Nat.le_of_ble_eq_true rfl, Nat.le_of_ble_eq_true rfl⟩ ⟨Nat.zero_le _, Nat.zero_le _⟩ rfl (Nat.le_of_ble_eq_true rfl) dX5_order_87 ?_
                refine j_iload_n (pc := 90) X dX5_order_90 rfl (q := 2) rfl ?_
                refine j_iast (pc := 91) X 1 (i := (285 + 5 * ((sV s).1) + 0)) (v := pp) rfl (by omega) (by omega) (w' := (rW tA m (mfs m ((hPush v s).2.2) kp len none x.2.1 x.2.2.1 x.2.2.2.1 x.2.2.2.2) (va_up (recR x.1 v.2.2) (285 + 5 * ((sV s).1) + 0) pp))) rfl dX5_order_91 ?_
                refine j_aload_n (pc := 92) X dX5_order_92 rfl (q := 1) rfl ?_
                refine j_get (pc := 93) X (C := RX5) (T := TX5) (N := 10) wz_X5 0 rfl rfl 0 (by decide) wf_X5_7 rfl dX5_order_93 ?_
                refine j_iload (pc := 96) X dX5_order_96 (q := 0) rfl ?_
                refine j_iconst (pc := 98) X (v := (nI 1)) dX5_order_98 (by decide) ?_
                refine j_callSR (pc := 99) X (st := [.ref (m 1)])  (c_X5_ofMove l D tA ((sV s).1) 1 ) cd_X5_ofMove wm_X5_88 rfl [] rfl rfl ⟨Nat.le_of_ble_eq_true rfl, Nat.le_of_ble_eq_true rfl⟩ ⟨Nat.zero_le _, Nat.zero_le _⟩ rfl (Nat.le_of_ble_eq_true rfl) dX5_order_99 ?_
                refine j_iload_n (pc := 102) X dX5_order_102 rfl (q := 3) rfl ?_
                refine j_iast (pc := 103) X 1 (i := (285 + 5 * ((sV s).1) + 1)) (v := ff) rfl (by omega) (by omega) (w' := (rW tA m (mfs m ((hPush v s).2.2) kp len none x.2.1 x.2.2.1 x.2.2.2.1 x.2.2.2.2) (va_up (va_up (recR x.1 v.2.2) (285 + 5 * ((sV s).1) + 0) pp) (285 + 5 * ((sV s).1) + 1) ff))) rfl dX5_order_103 ?_
                refine j_aload_n (pc := 104) X dX5_order_104 rfl (q := 1) rfl ?_
                refine j_get (pc := 105) X (C := RX5) (T := TX5) (N := 10) wz_X5 0 rfl rfl 0 (by decide) wf_X5_7 rfl dX5_order_105 ?_
                refine j_iload (pc := 108) X dX5_order_108 (q := 0) rfl ?_
                refine j_iconst (pc := 110) X (v := (nI 2)) dX5_order_110 (by decide) ?_
                refine j_callSR (pc := 111) X (st := [.ref (m 1)])  (c_X5_ofMove l D tA ((sV s).1) 2 ) cd_X5_ofMove wm_X5_88 rfl [] rfl rfl ⟨Nat.le_of_ble_eq_true rfl, Nat.le_of_ble_eq_true rfl⟩ ⟨Nat.zero_le _, Nat.zero_le _⟩ rfl (Nat.le_of_ble_eq_true rfl) dX5_order_111 ?_
                refine j_iload_n (pc := 114) X dX5_order_114 rfl (q := 4) rfl ?_
                refine j_iast (pc := 115) X 1 (i := (285 + 5 * ((sV s).1) + 2)) (v := gg) rfl (by omega) (by omega) (w' := (rW tA m (mfs m ((hPush v s).2.2) kp len none x.2.1 x.2.2.1 x.2.2.2.1 x.2.2.2.2) (va_up (va_up (va_up (recR x.1 v.2.2) (285 + 5 * ((sV s).1) + 0) pp) (285 + 5 * ((sV s).1) + 1) ff) (285 + 5 * ((sV s).1) + 2) gg))) rfl dX5_order_115 ?_
                refine j_aload_n (pc := 116) X dX5_order_116 rfl (q := 1) rfl ?_
                refine j_get (pc := 117) X (C := RX5) (T := TX5) (N := 10) wz_X5 0 rfl rfl 0 (by decide) wf_X5_7 rfl dX5_order_117 ?_
                refine j_iload (pc := 120) X dX5_order_120 (q := 0) rfl ?_
                refine j_iconst (pc := 122) X (v := (nI 3)) dX5_order_122 (by decide) ?_
                refine j_callSR (pc := 123) X (st := [.ref (m 1)])  (c_X5_ofMove l D tA ((sV s).1) 3 ) cd_X5_ofMove wm_X5_88 rfl [] rfl rfl ⟨Nat.le_of_ble_eq_true rfl, Nat.le_of_ble_eq_true rfl⟩ ⟨Nat.zero_le _, Nat.zero_le _⟩ rfl (Nat.le_of_ble_eq_true rfl) dX5_order_123 ?_
                refine j_iload (pc := 126) X dX5_order_126 (q := 5) rfl ?_
                refine j_iast (pc := 128) X 1 (i := (285 + 5 * ((sV s).1) + 3)) (v := uu) rfl (by omega) (by omega) (w' := (rW tA m (mfs m ((hPush v s).2.2) kp len none x.2.1 x.2.2.1 x.2.2.2.1 x.2.2.2.2) (va_up (va_up (va_up (va_up (recR x.1 v.2.2) (285 + 5 * ((sV s).1) + 0) pp) (285 + 5 * ((sV s).1) + 1) ff) (285 + 5 * ((sV s).1) + 2) gg) (285 + 5 * ((sV s).1) + 3) uu))) rfl dX5_order_128 ?_
                refine j_aload_n (pc := 129) X dX5_order_129 rfl (q := 1) rfl ?_
                refine j_get (pc := 130) X (C := RX5) (T := TX5) (N := 10) wz_X5 0 rfl rfl 0 (by decide) wf_X5_7 rfl dX5_order_130 ?_
                refine j_iload (pc := 133) X dX5_order_133 (q := 0) rfl ?_
                refine j_iconst (pc := 135) X (v := (nI 4)) dX5_order_135 (by decide) ?_
                refine j_callSR (pc := 136) X (st := [.ref (m 1)])  (c_X5_ofMove l D tA ((sV s).1) 4 ) cd_X5_ofMove wm_X5_88 rfl [] rfl rfl ⟨Nat.le_of_ble_eq_true rfl, Nat.le_of_ble_eq_true rfl⟩ ⟨Nat.zero_le _, Nat.zero_le _⟩ rfl (Nat.le_of_ble_eq_true rfl) dX5_order_136 ?_
                refine j_iload (pc := 139) X dX5_order_139 (q := 6) rfl ?_
                refine j_iast (pc := 141) X 1 (i := (285 + 5 * ((sV s).1) + 4)) (v := tt) rfl (by omega) (by omega) (w' := (rW tA m (mfs m ((hPush v s).2.2) kp len none x.2.1 x.2.2.1 x.2.2.2.1 x.2.2.2.2) (va_up (va_up (va_up (va_up (va_up (recR x.1 v.2.2) (285 + 5 * ((sV s).1) + 0) pp) (285 + 5 * ((sV s).1) + 1) ff) (285 + 5 * ((sV s).1) + 2) gg) (285 + 5 * ((sV s).1) + 3) uu) (285 + 5 * ((sV s).1) + 4) tt))) rfl dX5_order_141 ?_
                refine j_aload_n (pc := 142) X dX5_order_142 rfl (q := 1) rfl ?_
                refine j_get (pc := 143) X (C := RX5) (T := TX5) (N := 10) wz_X5 0 rfl rfl 0 (by decide) wf_X5_7 rfl dX5_order_143 ?_
                refine j_iconst (pc := 146) X (v := (nI 4)) dX5_order_146 (by decide) ?_
                refine j_dup2 (pc := 147) X dX5_order_147 rfl rfl ?_
                refine j_iald (pc := 148) X 1 (i := 4) rfl (by omega) (by omega) dX5_order_148 ?_
                refine j_top (v' := nI ((sV s).1)) (by (repeat rw [up_ne _ _ (by omega)]); rw [hr2.n4]) ?_
                refine j_iconst (pc := 149) X (v := (nI 1)) dX5_order_149 (by decide) ?_
                refine j_iadd (pc := 150) X (v := (nI (((sV s).1) + 1))) dX5_order_150 (nI_add _ _) ?_
                refine j_iast (pc := 151) X 1 (i := 4) (v := (((sV s).1) + 1)) rfl (by omega) (by omega) (w' := (rW tA m (mfs m ((hPush v s).2.2) kp len none x.2.1 x.2.2.1 x.2.2.2.1 x.2.2.2.2) (va_up (va_up (va_up (va_up (va_up (va_up (recR x.1 v.2.2) (285 + 5 * ((sV s).1) + 0) pp) (285 + 5 * ((sV s).1) + 1) ff) (285 + 5 * ((sV s).1) + 2) gg) (285 + 5 * ((sV s).1) + 3) uu) (285 + 5 * ((sV s).1) + 4) tt) 4 (((sV s).1) + 1)))) rfl dX5_order_151 ?_
                refine j_iload (pc := 152) X dX5_order_152 (q := 0) rfl ?_
                have e : oOrder s (nI pp) (nI ff) (nI gg) (nI uu) (nI tt) = ((nI ((sV s).1)), (some (pMove s pp ff gg uu tt))) := by unfold oOrder; simp only [epp, eff, egg, ett, euu]; rw [if_pos ⟨h5, h13, h21, h30⟩, if_pos ⟨h43, h48⟩, if_pos (by omega)] <;> rfl
                have hZ : RB (pMove s pp ff gg uu tt) (va_up (va_up (va_up (va_up (va_up (va_up (recR x.1 v.2.2) (285 + 5 * ((sV s).1) + 0) pp) (285 + 5 * ((sV s).1) + 1) ff) (285 + 5 * ((sV s).1) + 2) gg) (285 + 5 * ((sV s).1) + 3) uu) (285 + 5 * ((sV s).1) + 4) tt) 4 (((sV s).1) + 1)) := hr2.addV hw (by omega) (fun j h1 h2 => by repeat rw [up_ne _ _ (by omega)]) (by (repeat rw [up_ne _ _ (by omega)]); exact up_same _ _ _) (by (repeat rw [up_ne _ _ (by omega)]); exact up_same _ _ _) (by (repeat rw [up_ne _ _ (by omega)]); exact up_same _ _ _) (by (repeat rw [up_ne _ _ (by omega)]); exact up_same _ _ _) (by (repeat rw [up_ne _ _ (by omega)]); exact up_same _ _ _) (by (repeat rw [up_ne _ _ (by omega)]); exact up_same _ _ _)
                exact j_endIy (pc := 154) E dX5_order_154 (va_up (va_up (va_up (va_up (va_up (va_up (recR x.1 v.2.2) (285 + 5 * ((sV s).1) + 0) pp) (285 + 5 * ((sV s).1) + 1) ff) (285 + 5 * ((sV s).1) + 2) gg) (285 + 5 * ((sV s).1) + 3) uu) (285 + 5 * ((sV s).1) + 4) tt) 4 (((sV s).1) + 1), x.2.1, x.2.2.1, x.2.2.2.1, x.2.2.2.2) (by rw [e]; exact hrel.act (Out.up (Out.up (Out.up (Out.up (Out.up (Out.up Out.rf (by omega)) (by omega)) (by omega)) (by omega)) (by omega)) (by omega)) hZ (hok.move hc5 hc13 hc21 (by omega) (by omega) (by omega))) (by rw [e]) (by rw [e]; rfl)
              · skip
                refine j_bipush (pc := 65) X (v := (-3)) dX5_order_65 (by decide) ?_
                have e : oOrder s (nI pp) (nI ff) (nI gg) (nI uu) (nI tt) = ((-3), none) := by unfold oOrder; simp only [epp, eff, egg, ett, euu]; rw [if_pos ⟨h5, h13, h21, h30⟩, if_pos ⟨h43, h48⟩, if_neg (by omega)] <;> rfl
                exact j_endIy (pc := 67) E dX5_order_67 x (by rw [e]; exact hrel) (by rw [e]) (by rw [e]; rfl)
            · skip
              refine j_bipush (pc := 51) X (v := (-2)) dX5_order_51 (by decide) ?_
              have e : oOrder s (nI pp) (nI ff) (nI gg) (nI uu) (nI tt) = ((-2), none) := by unfold oOrder; simp only [epp, eff, egg, ett, euu]; rw [if_pos ⟨h5, h13, h21, h30⟩, if_neg (fun q => q.2 (Decidable.not_not.mp h48))] <;> rfl
              exact j_endIy (pc := 53) E dX5_order_53 x (by rw [e]; exact hrel) (by rw [e]) (by rw [e]; rfl)
        · skip
          skip
          refine j_iconst (pc := 33) X (v := (-1)) dX5_order_33 (by decide) ?_
          have e : oOrder s (nI pp) (nI ff) (nI gg) u0 t0 = ((-1), none) := by unfold oOrder; simp only [epp, eff, egg]; rw [if_neg (fun q => h30 q.2.2.2)] <;> rfl
          exact j_endIy (pc := 34) E dX5_order_34 x (by rw [e]; exact hrel) (by rw [e]) (by rw [e]; rfl)
theorem cd_X5_takeBack : kCardV yX5_takeBack cX5_takeBack 2 (some .int) 1 := ⟨⟨wc_X5_takeBack, wi_X5, by decide +kernel, by decide +kernel, rfl⟩, wk_X5_takeBack, ws_X5_takeBack⟩
set_option maxHeartbeats 4000000 in
set_option maxRecDepth 100000 in
theorem c_X5_takeBack (l : Launch) (D : va_G) (tA : Nat → ClassId) (m : Nat → Nat) (x : MX) (s sn : Sg) (v : Hs) (kp : Bool) (len : Nat) (v0 : Int32) (hrel : RelM s sn v kp x.1) : Ky l D tA yX5_takeBack cX5_takeBack 2 (some .int) 2 44 [.ref (m 0), .int v0] (mW tA m v.2.2 kp len x) (S := MX) (fun y => RelM (aS s (oTakeBack s v0).2) sn (aH v s (oTakeBack s v0).2) kp y.1) (fun y => some (.int ((oTakeBack s v0).1))) (fun y => mW tA m (aH v s (oTakeBack s v0).2).2.2 kp len y) := by
  refine ky_int rfl (Nat.le_of_ble_eq_true rfl) (fun G X E => ?_)
  show J l D G 0 0 (mW tA m v.2.2 kp len x) [(0, .ref (m 0)), (1, .int v0)] 0 []
  have hr := hrel.1
  have hok := hrel.2.1
  have hw := hok.1
  have hn := hw.n
  have hsz := hrel.2.2.2.1
  refine j_aload_n (pc := 0) X dX5_takeBack_0 rfl (q := 0) rfl ?_
  refine j_iload_n (pc := 1) X dX5_takeBack_1 rfl (q := 1) rfl ?_
  refine j_callVR (pc := 2) X (st := [])  (c_X5_isMove l D tA m (mfs m v.2.2 kp len none x.2.1 x.2.2.1 x.2.2.2.1 x.2.2.2.2) x.1 s v0 hr hw ) cd_X5_isMove wm_X5_91 0 rfl rfl rfl [0, 1] rfl rfl ⟨Nat.le_of_ble_eq_true rfl, Nat.le_of_ble_eq_true rfl⟩ ⟨Nat.zero_le _, Nat.zero_le _⟩ rfl (Nat.le_of_ble_eq_true rfl) dX5_takeBack_2 ?_
  refine j_if_ne (pc := 5) X (tgt := 10) (P := (inR v0 (sV s).1) = true) dX5_takeBack_5 (by decide) (bI_n0 _) (fun h5 => ?_) (fun h5 => ?_)
  · skip
    skip
    obtain ⟨vv, hc5, rfl⟩ := inR_t h5
    have evv : tn (nI vv) = vv := tn_nI (by omega)
    refine j_aload_n (pc := 10) X dX5_takeBack_10 rfl (q := 0) rfl ?_
    refine j_callV (pc := 11) X (st := []) (w' := (rW tA m (mfs m (recN v.2.2) kp len none x.2.1 x.2.2.1 x.2.2.2.1 x.2.2.2.2) (recR x.1 v.2.2))) (c_X5_record l D tA m x.1 v.2.2 kp len none x.2.1 x.2.2.1 x.2.2.2.1 x.2.2.2.2 hrel.2.2.2.1) cd_X5_record wm_X5_35 0 rfl rfl rfl [0, 1] rfl rfl rw_fst rfl ⟨Nat.le_of_ble_eq_true rfl, Nat.le_of_ble_eq_true rfl⟩ ⟨Nat.zero_le _, Nat.zero_le _⟩ rfl (Nat.le_of_ble_eq_true rfl) dX5_takeBack_11 ?_
    have hr2 : RB s (recR x.1 v.2.2) := hrel.rec0
    refine j_ws (w2 := (rW tA m (mfs m ((hPush v s).2.2) kp len none x.2.1 x.2.2.1 x.2.2.2.1 x.2.2.2.2) (recR x.1 v.2.2))) (by rw [recN_sz (s := s) hrel.2.2.2.1]) ?_
    refine j_aload_n (pc := 14) X dX5_takeBack_14 rfl (q := 0) rfl ?_
    refine j_iload_n (pc := 15) X dX5_takeBack_15 rfl (q := 1) rfl ?_
    refine j_callVy (pc := 16) X (st := []) (w' := fun R16 => (rW tA m (mfs m ((hPush v s).2.2) kp len none x.2.1 x.2.2.1 x.2.2.2.1 x.2.2.2.2) R16)) (c_X5_close l D tA m (mfs m ((hPush v s).2.2) kp len none x.2.1 x.2.2.1 x.2.2.2.1 x.2.2.2.2) (recR x.1 v.2.2) s vv hr2 hw hc5) cd_X5_close wm_X5_94 0 rfl rfl rfl [0, 1] rfl rfl (fun _ => rw_fst) (fun _ => rfl) ⟨Nat.le_of_ble_eq_true rfl, Nat.le_of_ble_eq_true rfl⟩ ⟨Nat.zero_le _, Nat.zero_le _⟩ rfl (Nat.le_of_ble_eq_true rfl) dX5_takeBack_16 (fun R16 hu16 => ?_)
    obtain ⟨hr16, ho16⟩ := hu16
    refine j_aload_n (pc := 19) X dX5_takeBack_19 rfl (q := 0) rfl ?_
    refine j_get (pc := 20) X (C := RX5) (T := TX5) (N := 10) wz_X5 0 rfl rfl 0 (by decide) wf_X5_7 rfl dX5_takeBack_20 ?_
    refine j_iconst (pc := 23) X (v := (nI 4)) dX5_takeBack_23 (by decide) ?_
    refine j_iald (pc := 24) X 1 (i := 4) rfl (by omega) (by omega) dX5_takeBack_24 ?_
    refine j_top (v' := nI ((sV (uV s (tDel 5 (sV s) vv))).1)) (congrArg nI (RB.n4 hr16)) ?_
    refine j_top (v' := nI ((sV s).1 - 1)) rfl ?_
    have e : oTakeBack s (nI vv) = ((nI ((sV s).1 - 1)), (some (uV s (tDel 5 (sV s) vv)))) := by unfold oTakeBack; simp only [evv]; rw [if_pos h5] <;> rfl
    have hZ : RB (uV s (tDel 5 (sV s) vv)) R16 := hr16
    exact j_endIy (pc := 25) E dX5_takeBack_25 (R16, x.2.1, x.2.2.1, x.2.2.2.1, x.2.2.2.2) (by rw [e]; exact hrel.act (Out.tr Out.rf ho16) hZ hok.del) (by rw [e]) (by rw [e]; rfl)
  · skip
    skip
    refine j_iconst (pc := 8) X (v := (-1)) dX5_takeBack_8 (by decide) ?_
    have e : oTakeBack s v0 = ((-1), none) := by unfold oTakeBack; rw [if_neg h5] <;> rfl
    exact j_endIy (pc := 9) E dX5_takeBack_9 x (by rw [e]; exact hrel) (by rw [e]) (by rw [e]; rfl)
theorem cd_X5_undo : kCardV yX5_undo cX5_undo 1 (some .int) 0 := ⟨⟨wc_X5_undo, wi_X5, by decide +kernel, by decide +kernel, rfl⟩, wk_X5_undo, ws_X5_undo⟩
set_option maxHeartbeats 4000000 in
set_option maxRecDepth 100000 in
theorem c_X5_undo (l : Launch) (D : va_G) (tA : Nat → ClassId) (m : Nat → Nat) (x : MX) (s sn : Sg) (v : Hs) (kp : Bool) (len : Nat) (hrel : RelM s sn v kp x.1) : Ky l D tA yX5_undo cX5_undo 1 (some .int) 1 23 [.ref (m 0)] (mW tA m v.2.2 kp len x) (S := MX) (fun y => RelM (if v.2.2 = 0 then s else v.1 (hLast v)) sn (if v.2.2 = 0 then v else hPop v) kp y.1) (fun y => some (.int (if v.2.2 = 0 then (-5) else nI (v.2.2 - 1)))) (fun y => mW tA m ((if v.2.2 = 0 then v else hPop v)).2.2 kp len y) := by
  refine ky_int rfl (Nat.le_of_ble_eq_true rfl) (fun G X E => ?_)
  show J l D G 0 0 (mW tA m v.2.2 kp len x) [(0, .ref (m 0))] 0 []
  have hr := hrel.1
  have hok := hrel.2.1
  have hw := hok.1
  have hn := hw.n
  have hsz := hrel.2.2.2.1
  refine j_aload_n (pc := 0) X dX5_undo_0 rfl (q := 0) rfl ?_
  refine j_get (pc := 1) X (C := RX5) (T := TX5) (N := 10) wz_X5 0 rfl rfl 1 (by decide) wf_X5_24 rfl dX5_undo_1 ?_
  refine j_if_ne (pc := 4) X (tgt := 10) (P := ¬ v.2.2 = 0) dX5_undo_4 (by decide) (not_congr (nC_eq0 (by omega))) (fun h4 => ?_) (fun h4 => ?_)
  · skip
    refine j_aload_n (pc := 10) X dX5_undo_10 rfl (q := 0) rfl ?_
    refine j_dup (pc := 11) X dX5_undo_11 rfl ?_
    refine j_get (pc := 12) X (C := RX5) (T := TX5) (N := 10) wz_X5 0 rfl rfl 1 (by decide) wf_X5_24 rfl dX5_undo_12 ?_
    have h40 : 0 < v.2.2 := by omega
    refine j_iconst (pc := 15) X (v := (nI 1)) dX5_undo_15 (by decide) ?_
    refine j_isub (pc := 16) X (v := (nI (v.2.2 - 1))) dX5_undo_16 (pk_sub (by omega)) ?_
    refine j_put (pc := 17) X (C := RX5) (T := TX5) (N := 10) wz_X5 tyX5 tyX5_ok nmX5 0 rfl rfl 1 (by decide) wf_X5_24 rfl rfl rfl (Nat.le_of_ble_eq_true rfl) (w' := (rW tA m (mfs m (v.2.2 - 1) kp len none x.2.1 x.2.2.1 x.2.2.2.1 x.2.2.2.2) x.1)) rfl dX5_undo_17 ?_
    refine j_aload_n (pc := 20) X dX5_undo_20 rfl (q := 0) rfl ?_
    refine j_sipush (pc := 21) X (v := (nI 535)) dX5_undo_21 (by decide) ?_
    refine j_sipush (pc := 24) X (v := (nI 535)) dX5_undo_24 (by decide) ?_
    refine j_aload_n (pc := 27) X dX5_undo_27 rfl (q := 0) rfl ?_
    refine j_get (pc := 28) X (C := RX5) (T := TX5) (N := 10) wz_X5 0 rfl rfl 1 (by decide) wf_X5_24 rfl dX5_undo_28 ?_
    refine j_imul (pc := 31) X (v := (nI (535 * (v.2.2 - 1)))) dX5_undo_31 (pk_mul _ _) ?_
    refine j_iadd (pc := 32) X (v := (nI (535 + (535 * (v.2.2 - 1))))) dX5_undo_32 (nI_add _ _) ?_
    refine j_iconst (pc := 33) X (v := (nI 0)) dX5_undo_33 (by decide) ?_
    refine j_callV (pc := 34) X (st := []) (w' := (rW tA m (mfs m (v.2.2 - 1) kp len none x.2.1 x.2.2.1 x.2.2.2.1 x.2.2.2.2) (cpR x.1 (535 + (535 * (v.2.2 - 1))) 0 535))) (c_X5_copy l D tA m (mfs m (v.2.2 - 1) kp len none x.2.1 x.2.2.1 x.2.2.2.1 x.2.2.2.2) x.1 (535 + (535 * (v.2.2 - 1))) 0 (by omega) (by omega) (by omega)) cd_X5_copy wm_X5_27 0 rfl rfl rfl [0, 1] rfl rfl rw_fst rfl ⟨Nat.le_of_ble_eq_true rfl, Nat.le_of_ble_eq_true rfl⟩ ⟨Nat.zero_le _, Nat.zero_le _⟩ rfl (Nat.le_of_ble_eq_true rfl) dX5_undo_34 ?_
    refine j_aload_n (pc := 37) X dX5_undo_37 rfl (q := 0) rfl ?_
    refine j_get (pc := 38) X (C := RX5) (T := TX5) (N := 10) wz_X5 0 rfl rfl 1 (by decide) wf_X5_24 rfl dX5_undo_38 ?_
    exact j_endIy (pc := 41) E dX5_undo_41 (cpR x.1 (535 + (535 * (v.2.2 - 1))) 0 535, x.2.1, x.2.2.1, x.2.2.2.1, x.2.2.2.2) (by rw [if_neg h4, if_neg h4]; exact hrel.pop (by omega)) (by rw [if_neg h4]) (by rw [if_neg h4]; rfl)
  · skip
    refine j_bipush (pc := 7) X (v := (-5)) dX5_undo_7 (by decide) ?_
    exact j_endIy (pc := 9) E dX5_undo_9 x (by rw [if_pos (Decidable.not_not.mp h4), if_pos (Decidable.not_not.mp h4)]; exact hrel) (by rw [if_pos (Decidable.not_not.mp h4)]) (by rw [if_pos (Decidable.not_not.mp h4)])
theorem cd_X5_keep : kCardV yX5_keep cX5_keep 1 (some .int) 0 := ⟨⟨wc_X5_keep, wi_X5, by decide +kernel, by decide +kernel, rfl⟩, wk_X5_keep, ws_X5_keep⟩
set_option maxHeartbeats 4000000 in
set_option maxRecDepth 100000 in
theorem c_X5_keep (l : Launch) (D : va_G) (tA : Nat → ClassId) (m : Nat → Nat) (x : MX) (s sn : Sg) (v : Hs) (kp : Bool) (len : Nat) (hrel : RelM s sn v kp x.1) : Ky l D tA yX5_keep cX5_keep 1 (some .int) 1 23 [.ref (m 0)] (mW tA m v.2.2 kp len x) (S := MX) (fun y => RelM s s v true y.1) (fun y => some (.int (nI (sN s)))) (fun y => mW tA m (v).2.2 true len y) := by
  refine ky_int rfl (Nat.le_of_ble_eq_true rfl) (fun G X E => ?_)
  show J l D G 0 0 (mW tA m v.2.2 kp len x) [(0, .ref (m 0))] 0 []
  have hr := hrel.1
  have hok := hrel.2.1
  have hw := hok.1
  have hn := hw.n
  have hsz := hrel.2.2.2.1
  refine j_aload_n (pc := 0) X dX5_keep_0 rfl (q := 0) rfl ?_
  refine j_iconst (pc := 1) X (v := (nI 0)) dX5_keep_1 (by decide) ?_
  refine j_sipush (pc := 2) X (v := (nI 2675)) dX5_keep_2 (by decide) ?_
  refine j_callV (pc := 5) X (st := []) (w' := (rW tA m (mfs m v.2.2 kp len none x.2.1 x.2.2.1 x.2.2.2.1 x.2.2.2.2) (cpR x.1 0 2675 535))) (c_X5_copy l D tA m (mfs m v.2.2 kp len none x.2.1 x.2.2.1 x.2.2.2.1 x.2.2.2.2) x.1 0 2675 (by omega) (by omega) (by omega)) cd_X5_copy wm_X5_27 0 rfl rfl rfl [0, 1] rfl rfl rw_fst rfl ⟨Nat.le_of_ble_eq_true rfl, Nat.le_of_ble_eq_true rfl⟩ ⟨Nat.zero_le _, Nat.zero_le _⟩ rfl (Nat.le_of_ble_eq_true rfl) dX5_keep_5 ?_
  refine j_aload_n (pc := 8) X dX5_keep_8 rfl (q := 0) rfl ?_
  refine j_iconst (pc := 9) X (v := (nI 1)) dX5_keep_9 (by decide) ?_
  refine j_put (pc := 10) X (C := RX5) (T := TX5) (N := 10) wz_X5 tyX5 tyX5_ok nmX5 0 rfl rfl 2 (by decide) wf_X5_31 rfl rfl rfl (Nat.le_of_ble_eq_true rfl) (w' := (rW tA m (mfs m v.2.2 true len none x.2.1 x.2.2.1 x.2.2.2.1 x.2.2.2.2) (cpR x.1 0 2675 535))) rfl dX5_keep_10 ?_
  refine j_aload_n (pc := 13) X dX5_keep_13 rfl (q := 0) rfl ?_
  refine j_get (pc := 14) X (C := RX5) (T := TX5) (N := 10) wz_X5 0 rfl rfl 0 (by decide) wf_X5_7 rfl dX5_keep_14 ?_
  refine j_iconst (pc := 17) X (v := (nI 0)) dX5_keep_17 (by decide) ?_
  refine j_iald (pc := 18) X 1 (i := 0) rfl (by omega) (by omega) dX5_keep_18 ?_
  refine j_top (v' := nI (sN s)) (congrArg nI hrel.keep.1.n0) ?_
  exact j_endIy (pc := 19) E dX5_keep_19 (cpR x.1 0 2675 535, x.2.1, x.2.2.1, x.2.2.2.1, x.2.2.2.2) hrel.keep rfl rfl
theorem cd_X5_restore : kCardV yX5_restore cX5_restore 1 (some .int) 0 := ⟨⟨wc_X5_restore, wi_X5, by decide +kernel, by decide +kernel, rfl⟩, wk_X5_restore, ws_X5_restore⟩
set_option maxHeartbeats 4000000 in
set_option maxRecDepth 100000 in
theorem c_X5_restore (l : Launch) (D : va_G) (tA : Nat → ClassId) (m : Nat → Nat) (x : MX) (s sn : Sg) (v : Hs) (kp : Bool) (len : Nat) (hrel : RelM s sn v kp x.1) : Ky l D tA yX5_restore cX5_restore 1 (some .int) 2 44 [.ref (m 0)] (mW tA m v.2.2 kp len x) (S := MX) (fun y => RelM (aS s (oRestore s sn kp).2) sn (aH v s (oRestore s sn kp).2) kp y.1) (fun y => some (.int ((oRestore s sn kp).1))) (fun y => mW tA m ((aH v s (oRestore s sn kp).2)).2.2 kp len y) := by
  refine ky_int rfl (Nat.le_of_ble_eq_true rfl) (fun G X E => ?_)
  show J l D G 0 0 (mW tA m v.2.2 kp len x) [(0, .ref (m 0))] 0 []
  have hr := hrel.1
  have hok := hrel.2.1
  have hw := hok.1
  have hn := hw.n
  have hsz := hrel.2.2.2.1
  refine j_aload_n (pc := 0) X dX5_restore_0 rfl (q := 0) rfl ?_
  refine j_get (pc := 1) X (C := RX5) (T := TX5) (N := 10) wz_X5 0 rfl rfl 2 (by decide) wf_X5_31 rfl dX5_restore_1 ?_
  refine j_if_ne (pc := 4) X (tgt := 10) (P := kp = true) dX5_restore_4 (by decide) (bI_n0 _) (fun h4 => ?_) (fun h4 => ?_)
  · skip
    skip
    refine j_aload_n (pc := 10) X dX5_restore_10 rfl (q := 0) rfl ?_
    refine j_callV (pc := 11) X (st := []) (w' := (rW tA m (mfs m (recN v.2.2) kp len none x.2.1 x.2.2.1 x.2.2.2.1 x.2.2.2.2) (recR x.1 v.2.2))) (c_X5_record l D tA m x.1 v.2.2 kp len none x.2.1 x.2.2.1 x.2.2.2.1 x.2.2.2.2 hrel.2.2.2.1) cd_X5_record wm_X5_35 0 rfl rfl rfl [0, 1] rfl rfl rw_fst rfl ⟨Nat.le_of_ble_eq_true rfl, Nat.le_of_ble_eq_true rfl⟩ ⟨Nat.zero_le _, Nat.zero_le _⟩ rfl (Nat.le_of_ble_eq_true rfl) dX5_restore_11 ?_
    have hr2 : RB s (recR x.1 v.2.2) := hrel.rec0
    refine j_ws (w2 := (rW tA m (mfs m ((hPush v s).2.2) kp len none x.2.1 x.2.2.1 x.2.2.2.1 x.2.2.2.2) (recR x.1 v.2.2))) (by rw [recN_sz (s := s) hrel.2.2.2.1]) ?_
    refine j_aload_n (pc := 14) X dX5_restore_14 rfl (q := 0) rfl ?_
    refine j_sipush (pc := 15) X (v := (nI 2675)) dX5_restore_15 (by decide) ?_
    refine j_iconst (pc := 18) X (v := (nI 0)) dX5_restore_18 (by decide) ?_
    refine j_callV (pc := 19) X (st := []) (w' := (rW tA m (mfs m ((hPush v s).2.2) kp len none x.2.1 x.2.2.1 x.2.2.2.1 x.2.2.2.2) (cpR (recR x.1 v.2.2) 2675 0 535))) (c_X5_copy l D tA m (mfs m ((hPush v s).2.2) kp len none x.2.1 x.2.2.1 x.2.2.2.1 x.2.2.2.2) (recR x.1 v.2.2) 2675 0 (by omega) (by omega) (by omega)) cd_X5_copy wm_X5_27 0 rfl rfl rfl [0, 1] rfl rfl rw_fst rfl ⟨Nat.le_of_ble_eq_true rfl, Nat.le_of_ble_eq_true rfl⟩ ⟨Nat.zero_le _, Nat.zero_le _⟩ rfl (Nat.le_of_ble_eq_true rfl) dX5_restore_19 ?_
    refine j_aload_n (pc := 22) X dX5_restore_22 rfl (q := 0) rfl ?_
    refine j_get (pc := 23) X (C := RX5) (T := TX5) (N := 10) wz_X5 0 rfl rfl 0 (by decide) wf_X5_7 rfl dX5_restore_23 ?_
    refine j_iconst (pc := 26) X (v := (nI 0)) dX5_restore_26 (by decide) ?_
    refine j_iald (pc := 27) X 1 (i := 0) rfl (by omega) (by omega) dX5_restore_27 ?_
    refine j_top (v' := nI (sN sn)) (congrArg nI (hrel.rest h4).1.n0) ?_
    have e : oRestore s sn kp = (nI (sN sn), some sn) := if_pos h4
    exact j_endIy (pc := 28) E dX5_restore_28 (cpR (recR x.1 v.2.2) 2675 0 535, x.2.1, x.2.2.1, x.2.2.2.1, x.2.2.2.2) (by rw [e]; exact hrel.rest h4) (by rw [e]) (by rw [e]; rfl)
  · skip
    skip
    refine j_bipush (pc := 7) X (v := (-5)) dX5_restore_7 (by decide) ?_
    have e : oRestore s sn kp = (-5, none) := if_neg h4
    exact j_endIy (pc := 9) E dX5_restore_9 x (by rw [e]; exact hrel) (by rw [e]) (by rw [e]; rfl)
theorem fatP_none {s : Sg} {ft : Nat} : ∀ n, fatP none s ft n = ft
  | 0 => rfl
  | n + 1 => by
    unfold fatP
    split
    · show (if (none : Option Nat) = some n then _ else fatP none s ft n) = ft
      rw [if_neg (by intro h; cases h)]; exact fatP_none n
    · exact fatP_none n
theorem cS_eq {s s' : Sg} {k : Nat} (h1 : (sB s').1 = (sB s).1) (h : ∀ r, r < (sB s).1 → (tGet 8 (sB s') r 5 = k ↔ tGet 8 (sB s) r 5 = k)) : cS s' k = cS s k := by
  unfold cS
  rw [h1]
  exact cnt_eq _ (fun r hr => by rw [decide_eq_decide]; exact h r hr)
theorem stb_5 {s : Sg} {b : Nat} : (∀ r, r ≠ b → tGet 8 (sB (stbS s b)) r 5 = tGet 8 (sB s) r 5) ∧ (tGet 8 (sB s) b 5 = 0 → tGet 8 (sB (stbS s b)) b 5 ≠ 1) := by
  have eB : sB (incB (cauS s b) b) = tSet 8 (sB s) b 7 (tGet 8 (sB s) b 7 + 1) := by
    show tSet 8 (sB (cauS s b)) b 7 (tGet 8 (sB (cauS s b)) b 7 + 1) = _
    rw [cau_sB]
  unfold stbS cryS
  cases hf : fre (sB (incB (cauS s b) b)) (tGet 8 (sB (incB (cauS s b) b)) b 1) (min (sN (incB (cauS s b) b) + 9) 199 - sN (incB (cauS s b) b)) (sN (incB (cauS s b) b) + 1) with
  | none =>
    show (∀ r, r ≠ b → tGet 8 (tSet 8 (sB (incB (cauS s b) b)) b 5 2) r 5 = _) ∧ (_ → tGet 8 (tSet 8 (sB (incB (cauS s b) b)) b 5 2) b 5 ≠ 1)
    refine ⟨fun r hr => ?_, fun _ => ?_⟩
    · rw [get_set_r (by decide) (by decide) hr, eB, get_set_r (by decide) (by decide) hr]
    · rw [get_set_s (by decide)]; decide
  | some i =>
    show (∀ r, r ≠ b → tGet 8 (sB (placeS (incB (cauS s b) b) b _ i)) r 5 = _) ∧ (_ → tGet 8 (sB (placeS (incB (cauS s b) b) b _ i)) b 5 ≠ 1)
    refine ⟨fun r hr => ?_, fun h0 => ?_⟩
    · rw [plc_get (by decide), if_neg (by omega), if_neg (by omega), if_neg (by omega), eB, get_set_r (by decide) (by decide) hr]
    · rw [plc_get (by decide), if_neg (by omega), if_neg (by omega), if_neg (by omega), eB, get_set_c (by decide) (by decide) (by decide), h0]; decide
theorem stp_cnt {q : Sg × Nat} {b : Nat} (hb : b < (sB q.1).1) : cS (stpB q b).1 1 + q.2 = cS q.1 1 + (stpB q b).2 := by
  unfold stpB
  by_cases h : tGet 8 (sB q.1) b 5 = 0 ∧ tGet 8 (sB q.1) b 2 = sN q.1
  · rw [if_pos h]
    by_cases hm : must q.1 b = true
    · rw [if_pos hm]
      show cS (stbS q.1 b) 1 + q.2 = cS q.1 1 + q.2
      have h5 := stb_5 (s := q.1) (b := b)
      rw [cS_eq (stb_B q.1 b).1 (fun r hr => ?_)]
      by_cases z : r = b
      · subst z
        exact ⟨fun w => absurd w (h5.2 h.1), fun w => by rw [h.1] at w; exact absurd w (by decide)⟩
      · rw [h5.1 r z]
    · rw [if_neg hm]
      show cS (lftS q.1 b) 1 + q.2 = cS q.1 1 + (q.2 + 1)
      have e : cS (lftS q.1 b) 1 = cS q.1 1 + 1 := by
        refine cnt_one (b := b) _ hb (fun r hr hne => ?_) ?_ ?_
        · show decide (tGet 8 (tSet 8 (sB q.1) b 5 1) r 5 = 1) = _
          rw [get_set_r (by decide) (by decide) hne]
        · show decide (tGet 8 (tSet 8 (sB q.1) b 5 1) b 5 = 1) = true
          rw [get_set_s (by decide)]; exact decide_eq_true rfl
        · exact decide_eq_false (fun w => by rw [h.1] at w; exact absurd w (by decide))
      omega
  · rw [if_neg h]
theorem psB_cnt {s : Sg} : ∀ n, n ≤ (sB s).1 → cS (psB n s).1 1 = cS s 1 + (psB n s).2
  | 0, _ => rfl
  | n + 1, hn => by
    have i := psB_cnt (s := s) n (by omega)
    have st := stp_cnt (q := psB n s) (b := n) (by rw [(psB_B s n).1]; omega)
    show cS (stpB (psB n s) n).1 1 = cS s 1 + (stpB (psB n s) n).2
    omega
theorem psH_cnt {s : Sg} : cS (psH s).1 1 = cS s 1 + (psH s).2 := by
  have h := psB_cnt (s := clo 10 s (sN s)) _ (Nat.le_refl _)
  have e : cS (clo 10 s (sN s)) 1 = cS s 1 := by unfold cS; rw [(clo_B 10 s (sN s)).1]
  rw [e] at h
  exact h
theorem pasN_cnt {s : Sg} : ∀ n, cS (pasN n s).1 1 = cS s 1 + (pasN n s).2
  | 0 => rfl
  | n + 1 => by
    have h1 := pasN_cnt (s := s) n
    have h2 := psH_cnt (s := (pasN n s).1)
    show cS (psH (pasN n s).1).1 1 = cS s 1 + ((pasN n s).2 + (psH (pasN n s).1).2)
    omega
theorem cd_X5_pass : kCardV yX5_pass cX5_pass 4 (some .int) 1 := ⟨⟨wc_X5_pass, wi_X5, by decide +kernel, by decide +kernel, rfl⟩, wk_X5_pass, ws_X5_pass⟩
set_option maxHeartbeats 4000000 in
set_option maxRecDepth 100000 in
theorem c_X5_pass (l : Launch) (D : va_G) (tA : Nat → ClassId) (m : Nat → Nat) (x : MX) (s sn : Sg) (v : Hs) (kp : Bool) (len : Nat) (n0 : Int32) (hrel : RelM s sn v kp x.1) : Ky l D tA yX5_pass cX5_pass 4 (some .int) 5 116 [.ref (m 0), .int n0] (mW tA m v.2.2 kp len x) (S := MX) (fun y => RelM (aS s (oPass s n0).2) sn (aH v s (oPass s n0).2) kp y.1) (fun y => some (.int ((oPass s n0).1))) (fun y => mW tA m (aH v s (oPass s n0).2).2.2 kp len y) := by
  refine ky_int rfl (Nat.le_of_ble_eq_true rfl) (fun G X E => ?_)
  show J l D G 0 0 (mW tA m v.2.2 kp len x) [(0, .ref (m 0)), (1, .int n0)] 0 []
  have hr := hrel.1
  have hok := hrel.2.1
  have hw := hok.1
  have hn := hw.n
  have hsz := hrel.2.2.2.1
  refine j_iload_n (pc := 0) X dX5_pass_0 rfl (q := 1) rfl ?_
  refine j_iconst (pc := 1) X (v := (nI 1)) dX5_pass_1 (by decide) ?_
  refine j_bipush (pc := 2) X (v := (nI 20)) dX5_pass_2 (by decide) ?_
  refine j_callSR (pc := 4) X (st := [])  (c_X5_in l D tA n0 (nI 1) (nI 20) ) cd_X5_in wm_X5_20 rfl [] rfl rfl ⟨Nat.le_of_ble_eq_true rfl, Nat.le_of_ble_eq_true rfl⟩ ⟨Nat.zero_le _, Nat.zero_le _⟩ rfl (Nat.le_of_ble_eq_true rfl) dX5_pass_4 ?_
  refine j_if_ne (pc := 7) X (tgt := 13) (P := (isW n0 (nI 1) (nI 20)) = true) dX5_pass_7 (by decide) (bI_n0 _) (fun h7 => ?_) (fun h7 => ?_)
  · skip
    skip
    obtain ⟨nn, hc7, rfl⟩ := isW_t (by omega) (by omega) h7
    have enn : tn (nI nn) = nn := tn_nI (by omega)
    refine j_aload_n (pc := 13) X dX5_pass_13 rfl (q := 0) rfl ?_
    refine j_get (pc := 14) X (C := RX5) (T := TX5) (N := 10) wz_X5 0 rfl rfl 0 (by decide) wf_X5_7 rfl dX5_pass_14 ?_
    refine j_iconst (pc := 17) X (v := (nI 0)) dX5_pass_17 (by decide) ?_
    refine j_iald (pc := 18) X 1 (i := 0) rfl (by omega) (by omega) dX5_pass_18 ?_
    refine j_top (v' := nI (sN s)) (congrArg nI (RB.n0 hr)) ?_
    refine j_iload_n (pc := 19) X dX5_pass_19 rfl (q := 1) rfl ?_
    refine j_iadd (pc := 20) X (v := (nI ((sN s) + nn))) dX5_pass_20 (nI_add _ _) ?_
    refine j_sipush (pc := 21) X (v := (nI 199)) dX5_pass_21 (by decide) ?_
    refine j_icmp_le (pc := 24) X (tgt := 30) (P := ((sN s) + nn) ≤ 199) dX5_pass_24 (by decide) (nI_leI (by omega) (by omega)) (fun h24 => ?_) (fun h24 => ?_)
    · skip
      refine j_aload_n (pc := 30) X dX5_pass_30 rfl (q := 0) rfl ?_
      refine j_callV (pc := 31) X (st := []) (w' := (rW tA m (mfs m (recN v.2.2) kp len none x.2.1 x.2.2.1 x.2.2.2.1 x.2.2.2.2) (recR x.1 v.2.2))) (c_X5_record l D tA m x.1 v.2.2 kp len none x.2.1 x.2.2.1 x.2.2.2.1 x.2.2.2.2 hrel.2.2.2.1) cd_X5_record wm_X5_35 0 rfl rfl rfl [0, 1] rfl rfl rw_fst rfl ⟨Nat.le_of_ble_eq_true rfl, Nat.le_of_ble_eq_true rfl⟩ ⟨Nat.zero_le _, Nat.zero_le _⟩ rfl (Nat.le_of_ble_eq_true rfl) dX5_pass_31 ?_
      have hr2 : RB s (recR x.1 v.2.2) := hrel.rec0
      refine j_ws (w2 := (rW tA m (mfs m ((hPush v s).2.2) kp len none x.2.1 x.2.2.1 x.2.2.2.1 x.2.2.2.2) (recR x.1 v.2.2))) (by rw [recN_sz (s := s) hrel.2.2.2.1]) ?_
      refine j_aload_n (pc := 34) X dX5_pass_34 rfl (q := 0) rfl ?_
      refine j_iconst (pc := 35) X (v := (nI 1)) dX5_pass_35 (by decide) ?_
      refine j_callVR (pc := 36) X (st := [])  (c_X5_manyIn l D tA m (mfs m ((hPush v s).2.2) kp len none x.2.1 x.2.2.1 x.2.2.2.1 x.2.2.2.2) (recR x.1 v.2.2) s 1 hr2 hw (by decide)) cd_X5_manyIn wm_X5_116 0 rfl rfl rfl [0, 1] rfl rfl ⟨Nat.le_of_ble_eq_true rfl, Nat.le_of_ble_eq_true rfl⟩ ⟨Nat.zero_le _, Nat.zero_le _⟩ rfl (Nat.le_of_ble_eq_true rfl) dX5_pass_36 ?_
      refine j_istore_n (pc := 39) X (lv' := [(2, .int (nI (cS s 1))), (0, .ref (m 0)), (1, .int (nI nn))]) dX5_pass_39 rfl (by decide) rfl ?_
      refine j_iconst (pc := 40) X (v := (nI 0)) dX5_pass_40 (by decide) ?_
      refine j_istore_n (pc := 41) X (lv' := [(3, .int (nI 0)), (2, .int (nI (cS s 1))), (0, .ref (m 0)), (1, .int (nI nn))]) dX5_pass_41 rfl (by decide) rfl ?_
      have L_42 : ∀ (fu : Nat) (j : Nat) (R3 : Nat → Nat), j ≤ nn → RB (pasN j s).1 R3 → Out (recR x.1 v.2.2) R3 → nn - j < fu → J l D G 0 0 (rW tA m (mfs m ((hPush v s).2.2) kp len none x.2.1 x.2.2.1 x.2.2.2.1 x.2.2.2.2) R3) [(0, .ref (m 0)), (1, .int (nI nn)), (2, .int (nI (cS s 1))), (3, .int (nI j))] 42 [] := by
        intro fu
        induction fu with
        | zero => intro j R3 hj hr3 ho3 hfu; exact absurd hfu (Nat.not_lt_zero _)
        | succ fu ih_42 =>
          intro j R3 hj hr3 ho3 hfu
          have hok3 := (hok.pas j (by omega)).1
          refine j_iload_n (pc := 42) X dX5_pass_42 rfl (q := 3) rfl ?_
          refine j_iload_n (pc := 43) X dX5_pass_43 rfl (q := 1) rfl ?_
          refine j_icmp_ge (pc := 44) X (tgt := 57) (P := nn ≤ j) dX5_pass_44 (by decide) (nI_leI (by omega) (by omega)) (fun h44 => ?_) (fun h44 => ?_)
          · skip
            refine j_aload_n (pc := 57) X dX5_pass_57 rfl (q := 0) rfl ?_
            refine j_iconst (pc := 58) X (v := (nI 1)) dX5_pass_58 (by decide) ?_
            refine j_callVR (pc := 59) X (st := [])  (c_X5_manyIn l D tA m (mfs m ((hPush v s).2.2) kp len none x.2.1 x.2.2.1 x.2.2.2.1 x.2.2.2.2) R3 ((pasN j s).1) 1 hr3 hok3.1 (by decide)) cd_X5_manyIn wm_X5_116 0 rfl rfl rfl [0, 1] rfl rfl ⟨Nat.le_of_ble_eq_true rfl, Nat.le_of_ble_eq_true rfl⟩ ⟨Nat.zero_le _, Nat.zero_le _⟩ rfl (Nat.le_of_ble_eq_true rfl) dX5_pass_59 ?_
            refine j_iload_n (pc := 62) X dX5_pass_62 rfl (q := 2) rfl ?_
            refine j_isub (pc := 63) X (v := (nI ((pasN j s).2))) dX5_pass_63 (by rw [pasN_cnt j, pk_sub (by have := pasN_cnt (s := s) j; unfold cS at *; omega)]; exact congrArg nI (by omega)) ?_
            have e : oPass s (nI nn) = ((nI ((pasN j s).2)), (some ((pasN nn s).1))) := by unfold oPass; simp only [enn]; rw [if_pos h7, if_pos (by omega), show nn = j by omega] <;> rfl
            have hZ : RB ((pasN nn s).1) R3 := (by rw [show nn = j by omega]; exact hr3)
            exact j_endIy (pc := 64) E dX5_pass_64 (R3, x.2.1, x.2.2.1, x.2.2.2.1, x.2.2.2.2) (by rw [e]; exact hrel.act ho3 hZ ((hok.pas nn (by omega)).1)) (by rw [e]) (by rw [e]; rfl)
          · skip
            refine j_aload_n (pc := 47) X dX5_pass_47 rfl (q := 0) rfl ?_
            refine j_callVy (pc := 48) X (st := []) (w' := fun R48 => (rW tA m (mfs m ((hPush v s).2.2) kp len none (fatP none (clo 10 (pasN j s).1 (sN (pasN j s).1)) x.2.1 (sB (clo 10 (pasN j s).1 (sN (pasN j s).1))).1) x.2.2.1 x.2.2.2.1 x.2.2.2.2) R48)) (c_X5_passOne l D tA m R3 (pasN j s).1 ((hPush v s).2.2) kp len none x.2.1 x.2.2.1 x.2.2.2.1 x.2.2.2.2 hr3 hok3.1 (fun _ => nwt) hok3.2.1) cd_X5_passOne wm_X5_120 0 rfl rfl rfl [0, 1] rfl rfl (fun _ => rw_fst) (fun _ => rfl) ⟨Nat.le_of_ble_eq_true rfl, Nat.le_of_ble_eq_true rfl⟩ ⟨Nat.zero_le _, Nat.zero_le _⟩ rfl (Nat.le_of_ble_eq_true rfl) dX5_pass_48 (fun R48 hu48 => ?_)
            obtain ⟨hr48, ho48⟩ := hu48
            refine j_ws (w2 := (rW tA m (mfs m ((hPush v s).2.2) kp len none x.2.1 x.2.2.1 x.2.2.2.1 x.2.2.2.2) R48)) (by rw [fatP_none]) ?_
            refine j_iinc (pc := 51) X (v := (nI (j + 1))) (lv' := [(3, .int (nI (j + 1))), (0, .ref (m 0)), (1, .int (nI nn)), (2, .int (nI (cS s 1)))]) dX5_pass_51 (q := 3) rfl (nI_add _ _) (by decide) rfl ?_
            refine j_goto (pc := 54) X (tgt := 42) dX5_pass_54 (by decide) ?_
            refine j_lv X (lv' := [(0, .ref (m 0)), (1, .int (nI nn)), (2, .int (nI (cS s 1))), (3, .int (nI (j + 1)))]) [1, 2, 3, 0] rfl ?_
            exact ih_42 (j + 1) R48 (by omega) hr48 (Out.tr ho3 ho48) (by omega)
      refine j_lv X (lv' := [(0, .ref (m 0)), (1, .int (nI nn)), (2, .int (nI (cS s 1))), (3, .int (nI 0))]) [2, 3, 1, 0] rfl ?_
      exact L_42 _ 0 (recR x.1 v.2.2) (Nat.zero_le _) hr2 Out.rf (Nat.lt_succ_self _)
    · skip
      refine j_bipush (pc := 27) X (v := (-4)) dX5_pass_27 (by decide) ?_
      have e : oPass s (nI nn) = ((-4), none) := by unfold oPass; simp only [enn]; rw [if_pos h7, if_neg (by omega)] <;> rfl
      exact j_endIy (pc := 29) E dX5_pass_29 x (by rw [e]; exact hrel) (by rw [e]) (by rw [e]; rfl)
  · skip
    skip
    refine j_bipush (pc := 10) X (v := (-2)) dX5_pass_10 (by decide) ?_
    have e : oPass s n0 = ((-2), none) := by unfold oPass; rw [if_neg h7] <;> rfl
    exact j_endIy (pc := 12) E dX5_pass_12 x (by rw [e]; exact hrel) (by rw [e]) (by rw [e]; rfl)
