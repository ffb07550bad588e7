/-! the machine that is found can be booked, lower ones cannot -/
theorem cd_L_isFound : kCardS yL_isFound cL_isFound 12 (some .boolean) 2 := ⟨⟨wc_L_isFound, wi_L, by decide +kernel, by decide +kernel, rfl⟩, wt_L_isFound⟩
set_option maxHeartbeats 4000000 in
set_option maxRecDepth 100000 in
theorem c_L_isFound (l : Launch) (D : va_G) (tA : Nat → ClassId) (g : Ad) (s sn s3 : Sg) (v : Hs) (kp : Bool) (bl : Nat) (y : Int32) (h : Iv bl s) (hP : 0 < (sP s).1) (hv : HOk v) : Ky l D tA yL_isFound cL_isFound 12 (some .boolean) 5 108 [.ref g.1, .int y] (cuW tA g s sn s3 v kp) (S := Hs) HOk (fun _ => some (.int (bI true))) (fun u => cuW tA g s sn s3 u kp) := by
  refine ky_bool (r := fun _ => true) rfl (Nat.le_of_ble_eq_true rfl) (fun G X E => ?_)
  show J l D G 0 0 (cuW tA g s sn s3 v kp) [(0, .ref g.1), (1, .int y)] 0 []
  have hw := h.1.1
  have hn := hw.n
  have K_40 : ∀ t : Nat, sN s ≤ t ∧ t < 200 → J l D G 0 0 (cuW tA g s sn s3 v kp) [(0, .ref g.1), (1, .int y), (2, .long (hAll s)), (4, .int (nI (sN s))), (5, .int (nI t))] 40 [] := by
    intro t htl
    refine j_iconst (pc := 40) X (v := (nI 1)) dL_isFound_40 (by decide +kernel) ?_
    refine j_iload_n (pc := 41) X dL_isFound_41 rfl (q := 1) rfl ?_
    refine j_iconst (pc := 42) X (v := (nI 4)) dL_isFound_42 (by decide +kernel) ?_
    refine j_ishr (pc := 43) X (v := (y >>> ((nI 4) &&& 31))) dL_isFound_43 rfl ?_
    refine j_sipush (pc := 44) X (v := (nI 900)) dL_isFound_44 (by decide +kernel) ?_
    refine j_c0 (pc := 47) X (As := [.int (y >>> ((nI 4) &&& 31)), .int (nI 900)]) (c_L_low l D tA (y >>> ((nI 4) &&& 31)) 900 (by omega) (by omega)) cd_L_low wm_L_49 rfl ⟨Nat.le_of_ble_eq_true rfl, Nat.le_of_ble_eq_true rfl⟩ ⟨Nat.zero_le _, Nat.zero_le _⟩ rfl (Nat.le_of_ble_eq_true rfl) dL_isFound_47 ?_
    have hl47 := low_lt (v := (y >>> ((nI 4) &&& 31))) (n := 900) (by omega)
    generalize lowN (y >>> ((nI 4) &&& 31)) 900 = ld at hl47 ⊢
    refine j_iadd (pc := 50) X (v := (nI (1 + ld))) dL_isFound_50 (nI_add _ _) ?_
    refine j_istore (pc := 51) X (lv' := [(6, .int (nI (1 + ld))), (0, .ref g.1), (1, .int y), (2, .long (hAll s)), (4, .int (nI (sN s))), (5, .int (nI t))]) dL_isFound_51 (by decide) rfl ?_
    refine j_iconst (pc := 53) X (v := (nI 2)) dL_isFound_53 (by decide +kernel) ?_
    refine j_iload_n (pc := 54) X dL_isFound_54 rfl (q := 2) rfl ?_
    refine j_bipush (pc := 55) X (v := (nI 9)) dL_isFound_55 (by decide +kernel) ?_
    refine j_ishr (pc := 57) X (v := (y >>> ((nI 9) &&& 31))) dL_isFound_57 rfl ?_
    refine j_bipush (pc := 58) X (v := (nI 59)) dL_isFound_58 (by decide +kernel) ?_
    refine j_c0 (pc := 60) X (As := [.int (y >>> ((nI 9) &&& 31)), .int (nI 59)]) (c_L_low l D tA (y >>> ((nI 9) &&& 31)) 59 (by omega) (by omega)) cd_L_low wm_L_49 rfl ⟨Nat.le_of_ble_eq_true rfl, Nat.le_of_ble_eq_true rfl⟩ ⟨Nat.zero_le _, Nat.zero_le _⟩ rfl (Nat.le_of_ble_eq_true rfl) dL_isFound_60 ?_
    have hl60 := low_lt (v := (y >>> ((nI 9) &&& 31))) (n := 59) (by omega)
    generalize lowN (y >>> ((nI 9) &&& 31)) 59 = r at hl60 ⊢
    refine j_iadd (pc := 63) X (v := (nI (2 + r))) dL_isFound_63 (nI_add _ _) ?_
    refine j_istore (pc := 64) X (lv' := [(7, .int (nI (2 + r))), (6, .int (nI (1 + ld))), (0, .ref g.1), (1, .int y), (2, .long (hAll s)), (4, .int (nI (sN s))), (5, .int (nI t))]) dL_isFound_64 (by decide) rfl ?_
    refine j_aload_n (pc := 66) X dL_isFound_66 rfl (q := 2) rfl ?_
    refine j_iload (pc := 67) X dL_isFound_67 (q := 6) rfl ?_
    refine j_iload (pc := 69) X dL_isFound_69 (q := 1) rfl ?_
    refine j_iload (pc := 71) X dL_isFound_71 (q := 0) rfl ?_
    have hld : 1 ≤ 1 + ld ∧ 1 + ld ≤ 2000 := by omega
    have hrr : 2 ≤ 2 + r ∧ 2 + r ≤ 60 := by omega
    obtain ⟨o, ho⟩ : ∃ o, fndN (fun m => canT s m t (1 + ld) (2 + r)) (sM s).1 = o := ⟨_, rfl⟩
    refine q_machineFor (pc := 73) X hw (r := (rO o)) (by rw [oMf_t htl.1 htl.2 hld hrr, ho]) wm_L_66 ⟨Nat.le_of_ble_eq_true rfl, Nat.le_of_ble_eq_true rfl⟩ ⟨Nat.zero_le _, Nat.zero_le _⟩ (Nat.le_of_ble_eq_true rfl) dL_isFound_73 ?_
    refine j_istore (pc := 76) X (lv' := [(8, .int (rO o)), (7, .int (nI (2 + r))), (6, .int (nI (1 + ld))), (0, .ref g.1), (1, .int y), (2, .long (hAll s)), (4, .int (nI (sN s))), (5, .int (nI t))]) dL_isFound_76 (by decide) rfl ?_
    refine j_iconst (pc := 78) X (v := (nI 0)) dL_isFound_78 (by decide +kernel) ?_
    refine j_istore (pc := 79) X (lv' := [(9, .int (nI 0)), (8, .int (rO o)), (7, .int (nI (2 + r))), (6, .int (nI (1 + ld))), (0, .ref g.1), (1, .int y), (2, .long (hAll s)), (4, .int (nI (sN s))), (5, .int (nI t))]) dL_isFound_79 (by decide) rfl ?_
    have L_81 : ∀ (fu : Nat) (m : Nat) (v : Hs), m ≤ (sM s).1 → HOk v → (sM s).1 - m < fu → J l D G 0 0 (cuW tA g s sn s3 v kp) [(0, .ref g.1), (1, .int y), (2, .long (hAll s)), (4, .int (nI (sN s))), (5, .int (nI t)), (6, .int (nI (1 + ld))), (7, .int (nI (2 + r))), (8, .int (rO o)), (9, .int (nI m))] 81 [] := by
      intro fu
      induction fu with
      | zero => intro m v hm hv hfu; exact absurd hfu (Nat.not_lt_zero _)
      | succ fu ih_81 =>
        intro m v hm hv hfu
        refine j_iload (pc := 81) X dL_isFound_81 (q := 8) rfl ?_
        refine j_aload_n (pc := 83) X dL_isFound_83 rfl (q := 0) rfl ?_
        refine j_iconst (pc := 84) X (v := (nI 1)) dL_isFound_84 (by decide +kernel) ?_
        refine q_count (pc := 85) X hw (r := (nI ((sM s).1))) (oC_1 _ _ _) wm_L_12 ⟨Nat.le_of_ble_eq_true rfl, Nat.le_of_ble_eq_true rfl⟩ ⟨Nat.zero_le _, Nat.zero_le _⟩ (Nat.le_of_ble_eq_true rfl) dL_isFound_85 ?_
        refine j_icmp_ge (pc := 88) X (tgt := 204) (P := ((sM s).1) ≤ m) dL_isFound_88 (by decide) (nI_leI (by omega) (by omega)) (fun h88 => ?_) (fun h88 => ?_)
        · skip
          refine j_aload_n (pc := 204) X dL_isFound_204 rfl (q := 0) rfl ?_
          refine j_cS (pc := 205) X (As := [.ref g.1]) (c_L_all l D tA g s sn s3 v kp hw) cd_L_all wm_L_43 rfl rfl ⟨Nat.le_of_ble_eq_true rfl, Nat.le_of_ble_eq_true rfl⟩ ⟨Nat.zero_le _, Nat.zero_le _⟩ rfl (Nat.le_of_ble_eq_true rfl) dL_isFound_205 ?_
          refine j_lload_n (pc := 208) X dL_isFound_208 rfl (q := 2) rfl ?_
          refine j_lcmp (pc := 209) X dL_isFound_209 ?_
          refine j_if_ne_f (pc := 210) X (tgt := 217) dL_isFound_210 (by decide) (fun z9 => absurd ((not_congr (lg_cmp_eq _ _)).mp z9) (fun z => z rfl)) ?_
          refine j_iconst (pc := 213) X (v := (nI 1)) dL_isFound_213 (by decide +kernel) ?_
          refine j_goto (pc := 214) X (tgt := 218) dL_isFound_214 (by decide) ?_
          exact j_endIy (pc := 218) E dL_isFound_218 v hv (by decide +kernel) rfl
        · skip
          have hml : m < (sM s).1 := by omega
          rcases Decidable.em (canT s m t (1 + ld) (2 + r) = true) with hs91 | hs91
          · skip
            refine j_aload_n (pc := 91) X dL_isFound_91 rfl (q := 0) rfl ?_
            rcases Decidable.em ((sB s).1 < 30) with hs92 | hs92
            · skip
              have hnx := nx_book h (nI 0) (nI m) (nI t) (nI (1 + ld)) (nI (2 + r))
              rw [oBook_u hw hP hml htl.1 htl.2 hld hrr, if_pos hs91, if_pos hs92] at hnx
              obtain ⟨hq, -⟩ | ⟨s9, hq, -, hI, -, -⟩ := hnx
              · cases hq
              cases hq
              have hbk := new_bk hI
              have hng := new_get (s := s) (p := 0) (m := m) (t := t) (ld := 1 + ld) (r := 2 + r)
              obtain ⟨j, hj, hjm⟩ := fnd_can (q := (fun m => canT s m t (1 + ld) (2 + r))) hml hs91
              rw [ho] at hj
              refine j_iconst (pc := 92) X (v := (nI 0)) dL_isFound_92 (by decide +kernel) ?_
              refine j_iload (pc := 93) X dL_isFound_93 (q := 8) rfl ?_
              refine j_iload (pc := 95) X dL_isFound_95 (q := 4) rfl ?_
              refine j_iload (pc := 97) X dL_isFound_97 (q := 5) rfl ?_
              refine j_iload (pc := 99) X dL_isFound_99 (q := 6) rfl ?_
              refine q_book (pc := 101) X hw hv (r := (nI ((sB s).1))) (by rw [oBook_u hw hP hml htl.1 htl.2 hld hrr, if_pos hs91, if_pos hs92]) wm_L_69 ⟨Nat.le_of_ble_eq_true rfl, Nat.le_of_ble_eq_true rfl⟩ ⟨Nat.zero_le _, Nat.zero_le _⟩ (Nat.le_of_ble_eq_true rfl) dL_isFound_101 ?_
              refine j_ws (w2 := (cuW tA g (placeS (pBook s 0 (1 + ld) (2 + r)) (sB s).1 m t) sn s3 (hPush v s) kp)) (by rw [oBook_u hw hP hml htl.1 htl.2 hld hrr, if_pos hs91, if_pos hs92]; rfl) ?_
              refine j_istore (pc := 104) X (lv' := [(10, .int (nI ((sB s).1))), (0, .ref g.1), (1, .int y), (2, .long (hAll s)), (4, .int (nI (sN s))), (5, .int (nI t)), (6, .int (nI (1 + ld))), (7, .int (nI (2 + r))), (8, .int (rO o)), (9, .int (nI m))]) dL_isFound_104 (by decide) rfl ?_
              refine j_iload (pc := 106) X dL_isFound_106 (q := 0) rfl ?_
              refine j_if_ge_t (pc := 108) X (tgt := 118) dL_isFound_108 (by decide) ((nC_ge0 (by omega)).mpr trivial) ?_
              refine j_iconst (pc := 118) X (v := (nI 1)) dL_isFound_118 (by decide +kernel) ?_
              refine j_goto (pc := 119) X (tgt := 123) dL_isFound_119 (by decide) ?_
              refine j_istore (pc := 123) X (lv' := [(11, .int (nI 1)), (10, .int (nI ((sB s).1))), (0, .ref g.1), (1, .int y), (2, .long (hAll s)), (4, .int (nI (sN s))), (5, .int (nI t)), (6, .int (nI (1 + ld))), (7, .int (nI (2 + r))), (8, .int (rO o)), (9, .int (nI m))]) dL_isFound_123 (by decide) rfl ?_
              refine j_iload (pc := 125) X dL_isFound_125 (q := 1) rfl ?_
              refine j_if_lt_f (pc := 127) X (tgt := 167) dL_isFound_127 (by decide) (nI_pos (by omega)) ?_
              refine j_aload_n (pc := 130) X dL_isFound_130 rfl (q := 2) rfl ?_
              refine j_iload (pc := 131) X dL_isFound_131 (q := 10) rfl ?_
              refine j_iload (pc := 133) X dL_isFound_133 (q := 6) rfl ?_
              refine q_bookedAt (pc := 135) X hI.1.1 (r := (nI ((sB s).1))) (by rw [oA_t hI.1.1 (show m < (sM (placeS (pBook s 0 (1 + ld) (2 + r)) (sB s).1 m t)).1 from hml) htl.2, hbk]; rfl) wm_L_37 ⟨Nat.le_of_ble_eq_true rfl, Nat.le_of_ble_eq_true rfl⟩ ⟨Nat.zero_le _, Nat.zero_le _⟩ (Nat.le_of_ble_eq_true rfl) dL_isFound_135 ?_
              refine j_iload (pc := 138) X dL_isFound_138 (q := 1) rfl ?_
              refine j_icmp_ne_f (pc := 140) X (tgt := 196) dL_isFound_140 (by decide) (fun z => z rfl) ?_
              refine j_aload_n (pc := 143) X dL_isFound_143 rfl (q := 2) rfl ?_
              refine j_iload (pc := 144) X dL_isFound_144 (q := 1) rfl ?_
              refine j_bipush (pc := 146) X (v := (nI 6)) dL_isFound_146 (by decide +kernel) ?_
              refine q_booking (pc := 148) X hI.1.1 (r := (nI (tGet 8 (sB (placeS (pBook s 0 (1 + ld) (2 + r)) (sB s).1 m t)) ((sB s).1) 6))) (oB_c hI.1.1 (show (sB s).1 < (sB s).1 + 1 by omega) (by decide)) wm_L_25 ⟨Nat.le_of_ble_eq_true rfl, Nat.le_of_ble_eq_true rfl⟩ ⟨Nat.zero_le _, Nat.zero_le _⟩ (Nat.le_of_ble_eq_true rfl) dL_isFound_148 ?_
              refine j_aload_n (pc := 151) X dL_isFound_151 rfl (q := 2) rfl ?_
              refine j_iload (pc := 152) X dL_isFound_152 (q := 6) rfl ?_
              refine q_wind (pc := 154) X hI.1.1 (r := (nI (sW (placeS (pBook s 0 (1 + ld) (2 + r)) (sB s).1 m t) t))) (oWd_t htl.2) wm_L_31 ⟨Nat.le_of_ble_eq_true rfl, Nat.le_of_ble_eq_true rfl⟩ ⟨Nat.zero_le _, Nat.zero_le _⟩ (Nat.le_of_ble_eq_true rfl) dL_isFound_154 ?_
              refine j_icmp_ne_f (pc := 157) X (tgt := 196) dL_isFound_157 (by decide) (fun z => z (congrArg nI hng.2.2.2)) ?_
              refine j_aload_n (pc := 160) X dL_isFound_160 rfl (q := 2) rfl ?_
              refine q_undo (pc := 161) X hI.1.1 (hv.push hw) (r := (nI (min (v.2.2 + 1) 4 - 1))) un_r wm_L_58 ⟨Nat.le_of_ble_eq_true rfl, Nat.le_of_ble_eq_true rfl⟩ ⟨Nat.zero_le _, Nat.zero_le _⟩ (Nat.le_of_ble_eq_true rfl) dL_isFound_161 ?_
              refine j_ws (w2 := (cuW tA g s sn s3 (hPop (hPush v s)) kp)) (by rw [un_s hv.1, un_v]) ?_
              refine j_if_lt_f (pc := 164) X (tgt := 196) dL_isFound_164 (by decide) (nI_pos (by omega)) ?_
              refine j_iload (pc := 167) X dL_isFound_167 (q := 0) rfl ?_
              refine j_if_eq_f (pc := 169) X (tgt := 184) dL_isFound_169 (by decide) (by decide +kernel) ?_
              refine j_iload (pc := 172) X dL_isFound_172 (q := 9) rfl ?_
              refine j_if_lt_f (pc := 174) X (tgt := 196) dL_isFound_174 (by decide) (by rw [hj]; exact nI_pos (by omega)) ?_
              refine j_iload (pc := 177) X dL_isFound_177 (q := 10) rfl ?_
              refine j_iload (pc := 179) X dL_isFound_179 (q := 9) rfl ?_
              refine j_icmp_lt_f (pc := 181) X (tgt := 196) dL_isFound_181 (by decide) (by rw [hj]; exact fun z => absurd ((nI_ltI (by omega) (by omega)).mp z) (by omega)) ?_
              refine j_iload (pc := 184) X dL_isFound_184 (q := 0) rfl ?_
              refine j_if_ne_t (pc := 186) X (tgt := 198) dL_isFound_186 (by decide) (by decide +kernel) ?_
              refine j_iinc (pc := 198) X (v := (nI (m + 1))) (lv' := [(9, .int (nI (m + 1))), (11, .int (nI 1)), (10, .int (nI ((sB s).1))), (0, .ref g.1), (1, .int y), (2, .long (hAll s)), (4, .int (nI (sN s))), (5, .int (nI t)), (6, .int (nI (1 + ld))), (7, .int (nI (2 + r))), (8, .int (rO o))]) dL_isFound_198 (q := 10) rfl (nI_add _ _) (by decide) rfl ?_
              refine j_goto (pc := 201) X (tgt := 81) dL_isFound_201 (by decide) ?_
              refine j_lv X (lv' := [(0, .ref g.1), (1, .int y), (2, .long (hAll s)), (4, .int (nI (sN s))), (5, .int (nI t)), (6, .int (nI (1 + ld))), (7, .int (nI (2 + r))), (8, .int (rO o)), (9, .int (nI (m + 1)))]) [3, 4, 5, 6, 7, 8, 9, 10, 0] rfl ?_
              exact ih_81 (m + 1) (hPop (hPush v s)) (by omega) (((hv.push hw)).pop) (by omega)
            · skip
              obtain ⟨j, hj, hjm⟩ := fnd_can (q := (fun m => canT s m t (1 + ld) (2 + r))) hml hs91
              rw [ho] at hj
              refine j_iconst (pc := 92) X (v := (nI 0)) dL_isFound_92 (by decide +kernel) ?_
              refine j_iload (pc := 93) X dL_isFound_93 (q := 8) rfl ?_
              refine j_iload (pc := 95) X dL_isFound_95 (q := 4) rfl ?_
              refine j_iload (pc := 97) X dL_isFound_97 (q := 5) rfl ?_
              refine j_iload (pc := 99) X dL_isFound_99 (q := 6) rfl ?_
              refine q_book (pc := 101) X hw hv (r := (-3)) (by rw [oBook_u hw hP hml htl.1 htl.2 hld hrr, if_pos hs91, if_neg hs92]) wm_L_69 ⟨Nat.le_of_ble_eq_true rfl, Nat.le_of_ble_eq_true rfl⟩ ⟨Nat.zero_le _, Nat.zero_le _⟩ (Nat.le_of_ble_eq_true rfl) dL_isFound_101 ?_
              refine j_ws (w2 := (cuW tA g s sn s3 v kp)) (by rw [oBook_u hw hP hml htl.1 htl.2 hld hrr, if_pos hs91, if_neg hs92]; rfl) ?_
              refine j_istore (pc := 104) X (lv' := [(10, .int (-3)), (0, .ref g.1), (1, .int y), (2, .long (hAll s)), (4, .int (nI (sN s))), (5, .int (nI t)), (6, .int (nI (1 + ld))), (7, .int (nI (2 + r))), (8, .int (rO o)), (9, .int (nI m))]) dL_isFound_104 (by decide) rfl ?_
              refine j_iload (pc := 106) X dL_isFound_106 (q := 0) rfl ?_
              refine j_if_ge_f (pc := 108) X (tgt := 118) dL_isFound_108 (by decide) (by decide) ?_
              refine j_iload (pc := 111) X dL_isFound_111 (q := 0) rfl ?_
              refine j_bipush (pc := 113) X (v := (-3)) dL_isFound_113 (by decide +kernel) ?_
              refine j_icmp_ne_f (pc := 115) X (tgt := 122) dL_isFound_115 (by decide) (fun z => z rfl) ?_
              refine j_iconst (pc := 118) X (v := (nI 1)) dL_isFound_118 (by decide +kernel) ?_
              refine j_goto (pc := 119) X (tgt := 123) dL_isFound_119 (by decide) ?_
              refine j_istore (pc := 123) X (lv' := [(11, .int (nI 1)), (10, .int (-3)), (0, .ref g.1), (1, .int y), (2, .long (hAll s)), (4, .int (nI (sN s))), (5, .int (nI t)), (6, .int (nI (1 + ld))), (7, .int (nI (2 + r))), (8, .int (rO o)), (9, .int (nI m))]) dL_isFound_123 (by decide) rfl ?_
              refine j_iload (pc := 125) X dL_isFound_125 (q := 1) rfl ?_
              refine j_if_lt_t (pc := 127) X (tgt := 167) dL_isFound_127 (by decide) (by decide) ?_
              refine j_iload (pc := 167) X dL_isFound_167 (q := 0) rfl ?_
              refine j_if_eq_f (pc := 169) X (tgt := 184) dL_isFound_169 (by decide) (by decide +kernel) ?_
              refine j_iload (pc := 172) X dL_isFound_172 (q := 9) rfl ?_
              refine j_if_lt_f (pc := 174) X (tgt := 196) dL_isFound_174 (by decide) (by rw [hj]; exact nI_pos (by omega)) ?_
              refine j_iload (pc := 177) X dL_isFound_177 (q := 10) rfl ?_
              refine j_iload (pc := 179) X dL_isFound_179 (q := 9) rfl ?_
              refine j_icmp_lt_f (pc := 181) X (tgt := 196) dL_isFound_181 (by decide) (by rw [hj]; exact fun z => absurd ((nI_ltI (by omega) (by omega)).mp z) (by omega)) ?_
              refine j_iload (pc := 184) X dL_isFound_184 (q := 0) rfl ?_
              refine j_if_ne_t (pc := 186) X (tgt := 198) dL_isFound_186 (by decide) (by decide +kernel) ?_
              refine j_iinc (pc := 198) X (v := (nI (m + 1))) (lv' := [(9, .int (nI (m + 1))), (11, .int (nI 1)), (10, .int (-3)), (0, .ref g.1), (1, .int y), (2, .long (hAll s)), (4, .int (nI (sN s))), (5, .int (nI t)), (6, .int (nI (1 + ld))), (7, .int (nI (2 + r))), (8, .int (rO o))]) dL_isFound_198 (q := 10) rfl (nI_add _ _) (by decide) rfl ?_
              refine j_goto (pc := 201) X (tgt := 81) dL_isFound_201 (by decide) ?_
              refine j_lv X (lv' := [(0, .ref g.1), (1, .int y), (2, .long (hAll s)), (4, .int (nI (sN s))), (5, .int (nI t)), (6, .int (nI (1 + ld))), (7, .int (nI (2 + r))), (8, .int (rO o)), (9, .int (nI (m + 1)))]) [3, 4, 5, 6, 7, 8, 9, 10, 0] rfl ?_
              exact ih_81 (m + 1) v (by omega) hv (by omega)
          · skip
            refine j_aload_n (pc := 91) X dL_isFound_91 rfl (q := 0) rfl ?_
            refine j_iconst (pc := 92) X (v := (nI 0)) dL_isFound_92 (by decide +kernel) ?_
            refine j_iload (pc := 93) X dL_isFound_93 (q := 8) rfl ?_
            refine j_iload (pc := 95) X dL_isFound_95 (q := 4) rfl ?_
            refine j_iload (pc := 97) X dL_isFound_97 (q := 5) rfl ?_
            refine j_iload (pc := 99) X dL_isFound_99 (q := 6) rfl ?_
            refine q_book (pc := 101) X hw hv (r := (-4)) (by rw [oBook_u hw hP hml htl.1 htl.2 hld hrr, if_neg hs91]) wm_L_69 ⟨Nat.le_of_ble_eq_true rfl, Nat.le_of_ble_eq_true rfl⟩ ⟨Nat.zero_le _, Nat.zero_le _⟩ (Nat.le_of_ble_eq_true rfl) dL_isFound_101 ?_
            refine j_ws (w2 := (cuW tA g s sn s3 v kp)) (by rw [oBook_u hw hP hml htl.1 htl.2 hld hrr, if_neg hs91]; rfl) ?_
            refine j_istore (pc := 104) X (lv' := [(10, .int (-4)), (0, .ref g.1), (1, .int y), (2, .long (hAll s)), (4, .int (nI (sN s))), (5, .int (nI t)), (6, .int (nI (1 + ld))), (7, .int (nI (2 + r))), (8, .int (rO o)), (9, .int (nI m))]) dL_isFound_104 (by decide) rfl ?_
            refine j_iload (pc := 106) X dL_isFound_106 (q := 0) rfl ?_
            refine j_if_ge_f (pc := 108) X (tgt := 118) dL_isFound_108 (by decide) (by decide) ?_
            refine j_iload (pc := 111) X dL_isFound_111 (q := 0) rfl ?_
            refine j_bipush (pc := 113) X (v := (-3)) dL_isFound_113 (by decide +kernel) ?_
            refine j_icmp_ne_t (pc := 115) X (tgt := 122) dL_isFound_115 (by decide) (by decide) ?_
            refine j_iconst (pc := 122) X (v := (nI 0)) dL_isFound_122 (by decide +kernel) ?_
            refine j_istore (pc := 123) X (lv' := [(11, .int (nI 0)), (10, .int (-4)), (0, .ref g.1), (1, .int y), (2, .long (hAll s)), (4, .int (nI (sN s))), (5, .int (nI t)), (6, .int (nI (1 + ld))), (7, .int (nI (2 + r))), (8, .int (rO o)), (9, .int (nI m))]) dL_isFound_123 (by decide) rfl ?_
            refine j_iload (pc := 125) X dL_isFound_125 (q := 1) rfl ?_
            refine j_if_lt_t (pc := 127) X (tgt := 167) dL_isFound_127 (by decide) (by decide) ?_
            refine j_iload (pc := 167) X dL_isFound_167 (q := 0) rfl ?_
            refine j_if_eq_t (pc := 169) X (tgt := 184) dL_isFound_169 (by decide) (by decide +kernel) ?_
            refine j_iload (pc := 184) X dL_isFound_184 (q := 0) rfl ?_
            refine j_if_ne_f (pc := 186) X (tgt := 198) dL_isFound_186 (by decide) (by decide +kernel) ?_
            refine j_iload (pc := 189) X dL_isFound_189 (q := 10) rfl ?_
            refine j_iload (pc := 191) X dL_isFound_191 (q := 9) rfl ?_
            refine j_icmp_ne_t (pc := 193) X (tgt := 198) dL_isFound_193 (by decide) (fun z => hs91 (by have ej := rO_is (fun c hc => by rw [← ho] at hc; have := (fnd_lt _ hc).1; omega) (by omega) z.symm; rw [← ho] at ej; exact (fnd_lt _ ej).2)) ?_
            refine j_iinc (pc := 198) X (v := (nI (m + 1))) (lv' := [(9, .int (nI (m + 1))), (11, .int (nI 0)), (10, .int (-4)), (0, .ref g.1), (1, .int y), (2, .long (hAll s)), (4, .int (nI (sN s))), (5, .int (nI t)), (6, .int (nI (1 + ld))), (7, .int (nI (2 + r))), (8, .int (rO o))]) dL_isFound_198 (q := 10) rfl (nI_add _ _) (by decide) rfl ?_
            refine j_goto (pc := 201) X (tgt := 81) dL_isFound_201 (by decide) ?_
            refine j_lv X (lv' := [(0, .ref g.1), (1, .int y), (2, .long (hAll s)), (4, .int (nI (sN s))), (5, .int (nI t)), (6, .int (nI (1 + ld))), (7, .int (nI (2 + r))), (8, .int (rO o)), (9, .int (nI (m + 1)))]) [3, 4, 5, 6, 7, 8, 9, 10, 0] rfl ?_
            exact ih_81 (m + 1) v (by omega) hv (by omega)
    refine j_lv X (lv' := [(0, .ref g.1), (1, .int y), (2, .long (hAll s)), (4, .int (nI (sN s))), (5, .int (nI t)), (6, .int (nI (1 + ld))), (7, .int (nI (2 + r))), (8, .int (rO o)), (9, .int (nI 0))]) [4, 5, 6, 7, 8, 3, 2, 1, 0] rfl ?_
    exact L_81 _ 0 v (Nat.zero_le _) hv (Nat.lt_succ_self _)
  refine j_aload_n (pc := 0) X dL_isFound_0 rfl (q := 0) rfl ?_
  refine j_cS (pc := 1) X (As := [.ref g.1]) (c_L_all l D tA g s sn s3 v kp hw) cd_L_all wm_L_43 rfl rfl ⟨Nat.le_of_ble_eq_true rfl, Nat.le_of_ble_eq_true rfl⟩ ⟨Nat.zero_le _, Nat.zero_le _⟩ rfl (Nat.le_of_ble_eq_true rfl) dL_isFound_1 ?_
  refine j_lstore_n (pc := 4) X (lv' := [(2, .long (hAll s)), (0, .ref g.1), (1, .int y)]) dL_isFound_4 rfl (by decide) rfl ?_
  refine j_aload_n (pc := 5) X dL_isFound_5 rfl (q := 1) rfl ?_
  refine j_iconst (pc := 6) X (v := (nI 0)) dL_isFound_6 (by decide +kernel) ?_
  refine q_count (pc := 7) X hw (r := (nI (sN s))) (oC_0 _ _ _) wm_L_12 ⟨Nat.le_of_ble_eq_true rfl, Nat.le_of_ble_eq_true rfl⟩ ⟨Nat.zero_le _, Nat.zero_le _⟩ (Nat.le_of_ble_eq_true rfl) dL_isFound_7 ?_
  refine j_istore (pc := 10) X (lv' := [(4, .int (nI (sN s))), (2, .long (hAll s)), (0, .ref g.1), (1, .int y)]) dL_isFound_10 (by decide) rfl ?_
  refine j_iload (pc := 12) X dL_isFound_12 (q := 0) rfl ?_
  refine j_iload_n (pc := 14) X dL_isFound_14 rfl (q := 3) rfl ?_
  refine j_iload (pc := 15) X dL_isFound_15 (q := 0) rfl ?_
  refine j_sipush (pc := 17) X (v := (nI 190)) dL_isFound_17 (by decide +kernel) ?_
  refine j_icmp_le (pc := 20) X (tgt := 32) (P := (sN s) ≤ 190) dL_isFound_20 (by decide) (nI_leI (by omega) (by omega)) (fun h20 => ?_) (fun h20 => ?_)
  · skip
    refine j_bipush (pc := 32) X (v := (nI 9)) dL_isFound_32 (by decide +kernel) ?_
    refine j_c0 (pc := 34) X (As := [.int y, .int (nI 9)]) (c_L_low l D tA y 9 (by omega) (by omega)) cd_L_low wm_L_49 rfl ⟨Nat.le_of_ble_eq_true rfl, Nat.le_of_ble_eq_true rfl⟩ ⟨Nat.zero_le _, Nat.zero_le _⟩ rfl (Nat.le_of_ble_eq_true rfl) dL_isFound_34 ?_
    have hl34 := low_lt (v := y) (n := 9) (by omega)
    generalize lowN y 9 = t0 at hl34 ⊢
    refine j_iadd (pc := 37) X (v := (nI ((sN s) + t0))) dL_isFound_37 (nI_add _ _) ?_
    refine j_istore (pc := 38) X (lv' := [(5, .int (nI ((sN s) + t0))), (4, .int (nI (sN s))), (2, .long (hAll s)), (0, .ref g.1), (1, .int y)]) dL_isFound_38 (by decide) rfl ?_
    refine j_lv X (lv' := [(0, .ref g.1), (1, .int y), (2, .long (hAll s)), (4, .int (nI (sN s))), (5, .int (nI ((sN s) + t0)))]) [3, 4, 2, 1, 0] rfl ?_
    exact K_40 ((sN s) + t0) (⟨by omega, by omega⟩)
  · skip
    refine j_sipush (pc := 23) X (v := (nI 200)) dL_isFound_23 (by decide +kernel) ?_
    refine j_iload (pc := 26) X dL_isFound_26 (q := 0) rfl ?_
    refine j_isub (pc := 28) X (v := (nI (200 - sN s))) dL_isFound_28 (pk_sub (by omega)) ?_
    refine j_goto (pc := 29) X (tgt := 34) dL_isFound_29 (by decide) ?_
    refine j_c0 (pc := 34) X (As := [.int y, .int (nI (200 - sN s))]) (c_L_low l D tA y (200 - sN s) (by omega) (by omega)) cd_L_low wm_L_49 rfl ⟨Nat.le_of_ble_eq_true rfl, Nat.le_of_ble_eq_true rfl⟩ ⟨Nat.zero_le _, Nat.zero_le _⟩ rfl (Nat.le_of_ble_eq_true rfl) dL_isFound_34 ?_
    have hl34 := low_lt (v := y) (n := 200 - sN s) (by omega)
    generalize lowN y (200 - sN s) = t0 at hl34 ⊢
    refine j_iadd (pc := 37) X (v := (nI ((sN s) + t0))) dL_isFound_37 (nI_add _ _) ?_
    refine j_istore (pc := 38) X (lv' := [(5, .int (nI ((sN s) + t0))), (4, .int (nI (sN s))), (2, .long (hAll s)), (0, .ref g.1), (1, .int y)]) dL_isFound_38 (by decide) rfl ?_
    refine j_lv X (lv' := [(0, .ref g.1), (1, .int y), (2, .long (hAll s)), (4, .int (nI (sN s))), (5, .int (nI ((sN s) + t0)))]) [3, 4, 2, 1, 0] rfl ?_
    exact K_40 ((sN s) + t0) (⟨by omega, by omega⟩)
