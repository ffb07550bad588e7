/-! one act of the script -/
theorem cd_L_acts : kCardS yL_acts cL_acts 6 (some .int) 2 := ⟨⟨wc_L_acts, wi_L, by decide +kernel, by decide +kernel, rfl⟩, wt_L_acts⟩
set_option maxHeartbeats 4000000 in
set_option maxRecDepth 100000 in
theorem c_L_acts (l : Launch) (D : va_G) (tA : Nat → ClassId) (g : Ad) (s sn s3 : Sg) (v : Hs) (kp : Bool) (bl : Nat) (y : Int32) (h : Iv bl s) (hM : 0 < (sM s).1) (hP : 0 < (sP s).1) (hv : HOk v) : Ky l D tA yL_acts cL_acts 6 (some .int) 7 162 [.ref g.1, .int y] (cuW tA g s sn s3 v kp) (S := Rs) (fun u => Nx bl s u) (fun u => some (.int u.1)) (fun u => cuW tA g (aS s u.2) sn s3 (aH v s u.2) kp) := by
  refine ky_int (r := fun u : Rs => u.1) rfl (Nat.le_of_ble_eq_true rfl) (fun G X E => ?_)
  show J l D G 0 0 (cuW tA g s sn s3 v kp) [(0, .ref g.1), (1, .int y)] 0 []
  have hw := h.1.1
  have hn := hw.n
  have K_37 : ∀ p : Nat, J l D G 0 0 (cuW tA g s sn s3 v kp) [(0, .ref g.1), (1, .int y), (2, .int (nI ((sM s).1))), (3, .int (nI p))] 37 [] := by
    intro p
    refine j_iload_n (pc := 37) X dL_acts_37 rfl (q := 1) rfl ?_
    refine j_bipush (pc := 38) X (v := (nI 8)) dL_acts_38 (by decide +kernel) ?_
    refine j_ishr (pc := 40) X (v := (y >>> ((nI 8) &&& 31))) dL_acts_40 rfl ?_
    refine j_iload_n (pc := 41) X dL_acts_41 rfl (q := 2) rfl ?_
    refine j_c0 (pc := 42) X (As := [.int (y >>> ((nI 8) &&& 31)), .int (nI ((sM s).1))]) (c_L_low l D tA (y >>> ((nI 8) &&& 31)) ((sM s).1) hM (by omega)) cd_L_low wm_L_49 rfl ⟨Nat.le_of_ble_eq_true rfl, Nat.le_of_ble_eq_true rfl⟩ ⟨Nat.zero_le _, Nat.zero_le _⟩ rfl (Nat.le_of_ble_eq_true rfl) dL_acts_42 ?_
    have hl42 := low_lt (v := (y >>> ((nI 8) &&& 31))) (n := (sM s).1) hM
    generalize lowN (y >>> ((nI 8) &&& 31)) ((sM s).1) = m at hl42 ⊢
    have K_71 : ∀ t : Int32, J l D G 0 0 (cuW tA g s sn s3 v kp) [(0, .ref g.1), (1, .int y), (2, .int (nI ((sM s).1))), (3, .int (nI p)), (4, .int (nI m)), (5, .int t)] 71 [] := by
      intro t
      refine j_iload_n (pc := 71) X dL_acts_71 rfl (q := 1) rfl ?_
      refine j_bipush (pc := 72) X (v := (nI 18)) dL_acts_72 (by decide +kernel) ?_
      refine j_c0 (pc := 74) X (As := [.int y, .int (nI 18)]) (c_L_low l D tA y 18 (by omega) (by omega)) cd_L_low wm_L_49 rfl ⟨Nat.le_of_ble_eq_true rfl, Nat.le_of_ble_eq_true rfl⟩ ⟨Nat.zero_le _, Nat.zero_le _⟩ rfl (Nat.le_of_ble_eq_true rfl) dL_acts_74 ?_
      have hl74 := low_lt (v := y) (n := 18) (by omega)
      generalize lowN y 18 = w at hl74 ⊢
      rcases (show w = 0 ∨ w = 1 ∨ w = 2 ∨ w = 3 ∨ w = 4 ∨ w = 5 ∨ w = 6 ∨ w = 7 ∨ w = 8 ∨ w = 9 ∨ w = 10 ∨ w = 11 ∨ w = 12 ∨ w = 13 ∨ 14 ≤ w by omega) with rfl | rfl | rfl | rfl | rfl | rfl | rfl | rfl | rfl | rfl | rfl | rfl | rfl | rfl | hs
      · refine j_swIn (pc := 77) X (off := 71) (tgt := 148) dL_acts_77 (by decide +kernel) (by decide +kernel) (by decide +kernel) (by decide) ?_
        refine j_aload_n (pc := 148) X dL_acts_148 rfl (q := 0) rfl ?_
        refine q_addMember (pc := 149) X hw hv (r := ((oAddMember s).1)) rfl wm_L_73 ⟨Nat.le_of_ble_eq_true rfl, Nat.le_of_ble_eq_true rfl⟩ ⟨Nat.zero_le _, Nat.zero_le _⟩ (Nat.le_of_ble_eq_true rfl) dL_acts_149 ?_
        exact j_endIy (pc := 152) E dL_acts_152 (oAddMember s) (nx_addMember h) rfl rfl
      · refine j_swIn (pc := 77) X (off := 76) (tgt := 153) dL_acts_77 (by decide +kernel) (by decide +kernel) (by decide +kernel) (by decide) ?_
        refine j_aload_n (pc := 153) X dL_acts_153 rfl (q := 0) rfl ?_
        refine j_iload_n (pc := 154) X dL_acts_154 rfl (q := 3) rfl ?_
        refine j_iload (pc := 155) X dL_acts_155 (q := 4) rfl ?_
        refine j_iload (pc := 157) X dL_acts_157 (q := 5) rfl ?_
        refine j_iconst (pc := 159) X (v := (nI 1)) dL_acts_159 (by decide +kernel) ?_
        refine j_iload_n (pc := 160) X dL_acts_160 rfl (q := 1) rfl ?_
        refine j_bipush (pc := 161) X (v := (nI 15)) dL_acts_161 (by decide +kernel) ?_
        refine j_ishr (pc := 163) X (v := (y >>> ((nI 15) &&& 31))) dL_acts_163 rfl ?_
        refine j_sipush (pc := 164) X (v := (nI 500)) dL_acts_164 (by decide +kernel) ?_
        refine j_c0 (pc := 167) X (As := [.int (y >>> ((nI 15) &&& 31)), .int (nI 500)]) (c_L_low l D tA (y >>> ((nI 15) &&& 31)) 500 (by omega) (by omega)) cd_L_low wm_L_49 rfl ⟨Nat.le_of_ble_eq_true rfl, Nat.le_of_ble_eq_true rfl⟩ ⟨Nat.zero_le _, Nat.zero_le _⟩ rfl (Nat.le_of_ble_eq_true rfl) dL_acts_167 ?_
        have hl167 := low_lt (v := (y >>> ((nI 15) &&& 31))) (n := 500) (by omega)
        refine j_iadd (pc := 170) X (v := (nI (1 + (lowN (y >>> ((nI 15) &&& 31)) 500)))) dL_acts_170 (nI_add _ _) ?_
        refine j_iconst (pc := 171) X (v := (nI 2)) dL_acts_171 (by decide +kernel) ?_
        refine j_iload_n (pc := 172) X dL_acts_172 rfl (q := 1) rfl ?_
        refine j_bipush (pc := 173) X (v := (nI 20)) dL_acts_173 (by decide +kernel) ?_
        refine j_ishr (pc := 175) X (v := (y >>> ((nI 20) &&& 31))) dL_acts_175 rfl ?_
        refine j_bipush (pc := 176) X (v := (nI 40)) dL_acts_176 (by decide +kernel) ?_
        refine j_c0 (pc := 178) X (As := [.int (y >>> ((nI 20) &&& 31)), .int (nI 40)]) (c_L_low l D tA (y >>> ((nI 20) &&& 31)) 40 (by omega) (by omega)) cd_L_low wm_L_49 rfl ⟨Nat.le_of_ble_eq_true rfl, Nat.le_of_ble_eq_true rfl⟩ ⟨Nat.zero_le _, Nat.zero_le _⟩ rfl (Nat.le_of_ble_eq_true rfl) dL_acts_178 ?_
        have hl178 := low_lt (v := (y >>> ((nI 20) &&& 31))) (n := 40) (by omega)
        refine j_iadd (pc := 181) X (v := (nI (2 + (lowN (y >>> ((nI 20) &&& 31)) 40)))) dL_acts_181 (nI_add _ _) ?_
        refine q_book (pc := 182) X hw hv (r := ((oBook s (nI p) (nI m) t (nI (1 + (lowN (y >>> ((nI 15) &&& 31)) 500))) (nI (2 + (lowN (y >>> ((nI 20) &&& 31)) 40)))).1)) rfl wm_L_69 ⟨Nat.le_of_ble_eq_true rfl, Nat.le_of_ble_eq_true rfl⟩ ⟨Nat.zero_le _, Nat.zero_le _⟩ (Nat.le_of_ble_eq_true rfl) dL_acts_182 ?_
        exact j_endIy (pc := 185) E dL_acts_185 (oBook s (nI p) (nI m) t (nI (1 + (lowN (y >>> ((nI 15) &&& 31)) 500))) (nI (2 + (lowN (y >>> ((nI 20) &&& 31)) 40)))) (nx_book h (nI p) (nI m) t (nI (1 + (lowN (y >>> ((nI 15) &&& 31)) 500))) (nI (2 + (lowN (y >>> ((nI 20) &&& 31)) 40)))) rfl rfl
      · refine j_swIn (pc := 77) X (off := 76) (tgt := 153) dL_acts_77 (by decide +kernel) (by decide +kernel) (by decide +kernel) (by decide) ?_
        refine j_aload_n (pc := 153) X dL_acts_153 rfl (q := 0) rfl ?_
        refine j_iload_n (pc := 154) X dL_acts_154 rfl (q := 3) rfl ?_
        refine j_iload (pc := 155) X dL_acts_155 (q := 4) rfl ?_
        refine j_iload (pc := 157) X dL_acts_157 (q := 5) rfl ?_
        refine j_iconst (pc := 159) X (v := (nI 1)) dL_acts_159 (by decide +kernel) ?_
        refine j_iload_n (pc := 160) X dL_acts_160 rfl (q := 1) rfl ?_
        refine j_bipush (pc := 161) X (v := (nI 15)) dL_acts_161 (by decide +kernel) ?_
        refine j_ishr (pc := 163) X (v := (y >>> ((nI 15) &&& 31))) dL_acts_163 rfl ?_
        refine j_sipush (pc := 164) X (v := (nI 500)) dL_acts_164 (by decide +kernel) ?_
        refine j_c0 (pc := 167) X (As := [.int (y >>> ((nI 15) &&& 31)), .int (nI 500)]) (c_L_low l D tA (y >>> ((nI 15) &&& 31)) 500 (by omega) (by omega)) cd_L_low wm_L_49 rfl ⟨Nat.le_of_ble_eq_true rfl, Nat.le_of_ble_eq_true rfl⟩ ⟨Nat.zero_le _, Nat.zero_le _⟩ rfl (Nat.le_of_ble_eq_true rfl) dL_acts_167 ?_
        have hl167 := low_lt (v := (y >>> ((nI 15) &&& 31))) (n := 500) (by omega)
        refine j_iadd (pc := 170) X (v := (nI (1 + (lowN (y >>> ((nI 15) &&& 31)) 500)))) dL_acts_170 (nI_add _ _) ?_
        refine j_iconst (pc := 171) X (v := (nI 2)) dL_acts_171 (by decide +kernel) ?_
        refine j_iload_n (pc := 172) X dL_acts_172 rfl (q := 1) rfl ?_
        refine j_bipush (pc := 173) X (v := (nI 20)) dL_acts_173 (by decide +kernel) ?_
        refine j_ishr (pc := 175) X (v := (y >>> ((nI 20) &&& 31))) dL_acts_175 rfl ?_
        refine j_bipush (pc := 176) X (v := (nI 40)) dL_acts_176 (by decide +kernel) ?_
        refine j_c0 (pc := 178) X (As := [.int (y >>> ((nI 20) &&& 31)), .int (nI 40)]) (c_L_low l D tA (y >>> ((nI 20) &&& 31)) 40 (by omega) (by omega)) cd_L_low wm_L_49 rfl ⟨Nat.le_of_ble_eq_true rfl, Nat.le_of_ble_eq_true rfl⟩ ⟨Nat.zero_le _, Nat.zero_le _⟩ rfl (Nat.le_of_ble_eq_true rfl) dL_acts_178 ?_
        have hl178 := low_lt (v := (y >>> ((nI 20) &&& 31))) (n := 40) (by omega)
        refine j_iadd (pc := 181) X (v := (nI (2 + (lowN (y >>> ((nI 20) &&& 31)) 40)))) dL_acts_181 (nI_add _ _) ?_
        refine q_book (pc := 182) X hw hv (r := ((oBook s (nI p) (nI m) t (nI (1 + (lowN (y >>> ((nI 15) &&& 31)) 500))) (nI (2 + (lowN (y >>> ((nI 20) &&& 31)) 40)))).1)) rfl wm_L_69 ⟨Nat.le_of_ble_eq_true rfl, Nat.le_of_ble_eq_true rfl⟩ ⟨Nat.zero_le _, Nat.zero_le _⟩ (Nat.le_of_ble_eq_true rfl) dL_acts_182 ?_
        exact j_endIy (pc := 185) E dL_acts_185 (oBook s (nI p) (nI m) t (nI (1 + (lowN (y >>> ((nI 15) &&& 31)) 500))) (nI (2 + (lowN (y >>> ((nI 20) &&& 31)) 40)))) (nx_book h (nI p) (nI m) t (nI (1 + (lowN (y >>> ((nI 15) &&& 31)) 500))) (nI (2 + (lowN (y >>> ((nI 20) &&& 31)) 40)))) rfl rfl
      · refine j_swIn (pc := 77) X (off := 76) (tgt := 153) dL_acts_77 (by decide +kernel) (by decide +kernel) (by decide +kernel) (by decide) ?_
        refine j_aload_n (pc := 153) X dL_acts_153 rfl (q := 0) rfl ?_
        refine j_iload_n (pc := 154) X dL_acts_154 rfl (q := 3) rfl ?_
        refine j_iload (pc := 155) X dL_acts_155 (q := 4) rfl ?_
        refine j_iload (pc := 157) X dL_acts_157 (q := 5) rfl ?_
        refine j_iconst (pc := 159) X (v := (nI 1)) dL_acts_159 (by decide +kernel) ?_
        refine j_iload_n (pc := 160) X dL_acts_160 rfl (q := 1) rfl ?_
        refine j_bipush (pc := 161) X (v := (nI 15)) dL_acts_161 (by decide +kernel) ?_
        refine j_ishr (pc := 163) X (v := (y >>> ((nI 15) &&& 31))) dL_acts_163 rfl ?_
        refine j_sipush (pc := 164) X (v := (nI 500)) dL_acts_164 (by decide +kernel) ?_
        refine j_c0 (pc := 167) X (As := [.int (y >>> ((nI 15) &&& 31)), .int (nI 500)]) (c_L_low l D tA (y >>> ((nI 15) &&& 31)) 500 (by omega) (by omega)) cd_L_low wm_L_49 rfl ⟨Nat.le_of_ble_eq_true rfl, Nat.le_of_ble_eq_true rfl⟩ ⟨Nat.zero_le _, Nat.zero_le _⟩ rfl (Nat.le_of_ble_eq_true rfl) dL_acts_167 ?_
        have hl167 := low_lt (v := (y >>> ((nI 15) &&& 31))) (n := 500) (by omega)
        refine j_iadd (pc := 170) X (v := (nI (1 + (lowN (y >>> ((nI 15) &&& 31)) 500)))) dL_acts_170 (nI_add _ _) ?_
        refine j_iconst (pc := 171) X (v := (nI 2)) dL_acts_171 (by decide +kernel) ?_
        refine j_iload_n (pc := 172) X dL_acts_172 rfl (q := 1) rfl ?_
        refine j_bipush (pc := 173) X (v := (nI 20)) dL_acts_173 (by decide +kernel) ?_
        refine j_ishr (pc := 175) X (v := (y >>> ((nI 20) &&& 31))) dL_acts_175 rfl ?_
        refine j_bipush (pc := 176) X (v := (nI 40)) dL_acts_176 (by decide +kernel) ?_
        refine j_c0 (pc := 178) X (As := [.int (y >>> ((nI 20) &&& 31)), .int (nI 40)]) (c_L_low l D tA (y >>> ((nI 20) &&& 31)) 40 (by omega) (by omega)) cd_L_low wm_L_49 rfl ⟨Nat.le_of_ble_eq_true rfl, Nat.le_of_ble_eq_true rfl⟩ ⟨Nat.zero_le _, Nat.zero_le _⟩ rfl (Nat.le_of_ble_eq_true rfl) dL_acts_178 ?_
        have hl178 := low_lt (v := (y >>> ((nI 20) &&& 31))) (n := 40) (by omega)
        refine j_iadd (pc := 181) X (v := (nI (2 + (lowN (y >>> ((nI 20) &&& 31)) 40)))) dL_acts_181 (nI_add _ _) ?_
        refine q_book (pc := 182) X hw hv (r := ((oBook s (nI p) (nI m) t (nI (1 + (lowN (y >>> ((nI 15) &&& 31)) 500))) (nI (2 + (lowN (y >>> ((nI 20) &&& 31)) 40)))).1)) rfl wm_L_69 ⟨Nat.le_of_ble_eq_true rfl, Nat.le_of_ble_eq_true rfl⟩ ⟨Nat.zero_le _, Nat.zero_le _⟩ (Nat.le_of_ble_eq_true rfl) dL_acts_182 ?_
        exact j_endIy (pc := 185) E dL_acts_185 (oBook s (nI p) (nI m) t (nI (1 + (lowN (y >>> ((nI 15) &&& 31)) 500))) (nI (2 + (lowN (y >>> ((nI 20) &&& 31)) 40)))) (nx_book h (nI p) (nI m) t (nI (1 + (lowN (y >>> ((nI 15) &&& 31)) 500))) (nI (2 + (lowN (y >>> ((nI 20) &&& 31)) 40)))) rfl rfl
      · refine j_swIn (pc := 77) X (off := 76) (tgt := 153) dL_acts_77 (by decide +kernel) (by decide +kernel) (by decide +kernel) (by decide) ?_
        refine j_aload_n (pc := 153) X dL_acts_153 rfl (q := 0) rfl ?_
        refine j_iload_n (pc := 154) X dL_acts_154 rfl (q := 3) rfl ?_
        refine j_iload (pc := 155) X dL_acts_155 (q := 4) rfl ?_
        refine j_iload (pc := 157) X dL_acts_157 (q := 5) rfl ?_
        refine j_iconst (pc := 159) X (v := (nI 1)) dL_acts_159 (by decide +kernel) ?_
        refine j_iload_n (pc := 160) X dL_acts_160 rfl (q := 1) rfl ?_
        refine j_bipush (pc := 161) X (v := (nI 15)) dL_acts_161 (by decide +kernel) ?_
        refine j_ishr (pc := 163) X (v := (y >>> ((nI 15) &&& 31))) dL_acts_163 rfl ?_
        refine j_sipush (pc := 164) X (v := (nI 500)) dL_acts_164 (by decide +kernel) ?_
        refine j_c0 (pc := 167) X (As := [.int (y >>> ((nI 15) &&& 31)), .int (nI 500)]) (c_L_low l D tA (y >>> ((nI 15) &&& 31)) 500 (by omega) (by omega)) cd_L_low wm_L_49 rfl ⟨Nat.le_of_ble_eq_true rfl, Nat.le_of_ble_eq_true rfl⟩ ⟨Nat.zero_le _, Nat.zero_le _⟩ rfl (Nat.le_of_ble_eq_true rfl) dL_acts_167 ?_
        have hl167 := low_lt (v := (y >>> ((nI 15) &&& 31))) (n := 500) (by omega)
        refine j_iadd (pc := 170) X (v := (nI (1 + (lowN (y >>> ((nI 15) &&& 31)) 500)))) dL_acts_170 (nI_add _ _) ?_
        refine j_iconst (pc := 171) X (v := (nI 2)) dL_acts_171 (by decide +kernel) ?_
        refine j_iload_n (pc := 172) X dL_acts_172 rfl (q := 1) rfl ?_
        refine j_bipush (pc := 173) X (v := (nI 20)) dL_acts_173 (by decide +kernel) ?_
        refine j_ishr (pc := 175) X (v := (y >>> ((nI 20) &&& 31))) dL_acts_175 rfl ?_
        refine j_bipush (pc := 176) X (v := (nI 40)) dL_acts_176 (by decide +kernel) ?_
        refine j_c0 (pc := 178) X (As := [.int (y >>> ((nI 20) &&& 31)), .int (nI 40)]) (c_L_low l D tA (y >>> ((nI 20) &&& 31)) 40 (by omega) (by omega)) cd_L_low wm_L_49 rfl ⟨Nat.le_of_ble_eq_true rfl, Nat.le_of_ble_eq_true rfl⟩ ⟨Nat.zero_le _, Nat.zero_le _⟩ rfl (Nat.le_of_ble_eq_true rfl) dL_acts_178 ?_
        have hl178 := low_lt (v := (y >>> ((nI 20) &&& 31))) (n := 40) (by omega)
        refine j_iadd (pc := 181) X (v := (nI (2 + (lowN (y >>> ((nI 20) &&& 31)) 40)))) dL_acts_181 (nI_add _ _) ?_
        refine q_book (pc := 182) X hw hv (r := ((oBook s (nI p) (nI m) t (nI (1 + (lowN (y >>> ((nI 15) &&& 31)) 500))) (nI (2 + (lowN (y >>> ((nI 20) &&& 31)) 40)))).1)) rfl wm_L_69 ⟨Nat.le_of_ble_eq_true rfl, Nat.le_of_ble_eq_true rfl⟩ ⟨Nat.zero_le _, Nat.zero_le _⟩ (Nat.le_of_ble_eq_true rfl) dL_acts_182 ?_
        exact j_endIy (pc := 185) E dL_acts_185 (oBook s (nI p) (nI m) t (nI (1 + (lowN (y >>> ((nI 15) &&& 31)) 500))) (nI (2 + (lowN (y >>> ((nI 20) &&& 31)) 40)))) (nx_book h (nI p) (nI m) t (nI (1 + (lowN (y >>> ((nI 15) &&& 31)) 500))) (nI (2 + (lowN (y >>> ((nI 20) &&& 31)) 40)))) rfl rfl
      · refine j_swIn (pc := 77) X (off := 109) (tgt := 186) dL_acts_77 (by decide +kernel) (by decide +kernel) (by decide +kernel) (by decide) ?_
        refine j_aload_n (pc := 186) X dL_acts_186 rfl (q := 0) rfl ?_
        refine j_iload (pc := 187) X dL_acts_187 (q := 5) rfl ?_
        refine j_iload_n (pc := 189) X dL_acts_189 rfl (q := 1) rfl ?_
        refine j_bipush (pc := 190) X (v := (nI 15)) dL_acts_190 (by decide +kernel) ?_
        refine j_ishr (pc := 192) X (v := (y >>> ((nI 15) &&& 31))) dL_acts_192 rfl ?_
        refine j_bipush (pc := 193) X (v := (nI 101)) dL_acts_193 (by decide +kernel) ?_
        refine j_c0 (pc := 195) X (As := [.int (y >>> ((nI 15) &&& 31)), .int (nI 101)]) (c_L_low l D tA (y >>> ((nI 15) &&& 31)) 101 (by omega) (by omega)) cd_L_low wm_L_49 rfl ⟨Nat.le_of_ble_eq_true rfl, Nat.le_of_ble_eq_true rfl⟩ ⟨Nat.zero_le _, Nat.zero_le _⟩ rfl (Nat.le_of_ble_eq_true rfl) dL_acts_195 ?_
        have hl195 := low_lt (v := (y >>> ((nI 15) &&& 31))) (n := 101) (by omega)
        refine q_setWind (pc := 198) X hw hv (r := ((oSetWind s t (nI (lowN (y >>> ((nI 15) &&& 31)) 101))).1)) rfl wm_L_76 ⟨Nat.le_of_ble_eq_true rfl, Nat.le_of_ble_eq_true rfl⟩ ⟨Nat.zero_le _, Nat.zero_le _⟩ (Nat.le_of_ble_eq_true rfl) dL_acts_198 ?_
        exact j_endIy (pc := 201) E dL_acts_201 (oSetWind s t (nI (lowN (y >>> ((nI 15) &&& 31)) 101))) (nx_setWind h t (nI (lowN (y >>> ((nI 15) &&& 31)) 101))) rfl rfl
      · refine j_swIn (pc := 77) X (off := 109) (tgt := 186) dL_acts_77 (by decide +kernel) (by decide +kernel) (by decide +kernel) (by decide) ?_
        refine j_aload_n (pc := 186) X dL_acts_186 rfl (q := 0) rfl ?_
        refine j_iload (pc := 187) X dL_acts_187 (q := 5) rfl ?_
        refine j_iload_n (pc := 189) X dL_acts_189 rfl (q := 1) rfl ?_
        refine j_bipush (pc := 190) X (v := (nI 15)) dL_acts_190 (by decide +kernel) ?_
        refine j_ishr (pc := 192) X (v := (y >>> ((nI 15) &&& 31))) dL_acts_192 rfl ?_
        refine j_bipush (pc := 193) X (v := (nI 101)) dL_acts_193 (by decide +kernel) ?_
        refine j_c0 (pc := 195) X (As := [.int (y >>> ((nI 15) &&& 31)), .int (nI 101)]) (c_L_low l D tA (y >>> ((nI 15) &&& 31)) 101 (by omega) (by omega)) cd_L_low wm_L_49 rfl ⟨Nat.le_of_ble_eq_true rfl, Nat.le_of_ble_eq_true rfl⟩ ⟨Nat.zero_le _, Nat.zero_le _⟩ rfl (Nat.le_of_ble_eq_true rfl) dL_acts_195 ?_
        have hl195 := low_lt (v := (y >>> ((nI 15) &&& 31))) (n := 101) (by omega)
        refine q_setWind (pc := 198) X hw hv (r := ((oSetWind s t (nI (lowN (y >>> ((nI 15) &&& 31)) 101))).1)) rfl wm_L_76 ⟨Nat.le_of_ble_eq_true rfl, Nat.le_of_ble_eq_true rfl⟩ ⟨Nat.zero_le _, Nat.zero_le _⟩ (Nat.le_of_ble_eq_true rfl) dL_acts_198 ?_
        exact j_endIy (pc := 201) E dL_acts_201 (oSetWind s t (nI (lowN (y >>> ((nI 15) &&& 31)) 101))) (nx_setWind h t (nI (lowN (y >>> ((nI 15) &&& 31)) 101))) rfl rfl
      · refine j_swIn (pc := 77) X (off := 125) (tgt := 202) dL_acts_77 (by decide +kernel) (by decide +kernel) (by decide +kernel) (by decide) ?_
        refine j_aload_n (pc := 202) X dL_acts_202 rfl (q := 0) rfl ?_
        refine j_iload_n (pc := 203) X dL_acts_203 rfl (q := 1) rfl ?_
        refine j_iconst (pc := 204) X (v := (nI 4)) dL_acts_204 (by decide +kernel) ?_
        refine j_ishr (pc := 205) X (v := (y >>> ((nI 4) &&& 31))) dL_acts_205 rfl ?_
        refine j_iconst (pc := 206) X (v := (nI 1)) dL_acts_206 (by decide +kernel) ?_
        refine j_aload_n (pc := 207) X dL_acts_207 rfl (q := 0) rfl ?_
        refine j_iconst (pc := 208) X (v := (nI 3)) dL_acts_208 (by decide +kernel) ?_
        refine q_count (pc := 209) X hw (r := (nI ((sB s).1))) (oC_3 _ _ _) wm_L_12 ⟨Nat.le_of_ble_eq_true rfl, Nat.le_of_ble_eq_true rfl⟩ ⟨Nat.zero_le _, Nat.zero_le _⟩ (Nat.le_of_ble_eq_true rfl) dL_acts_209 ?_
        refine j_iadd (pc := 212) X (v := (nI (1 + ((sB s).1)))) dL_acts_212 (nI_add _ _) ?_
        refine j_c0 (pc := 213) X (As := [.int (y >>> ((nI 4) &&& 31)), .int (nI (1 + ((sB s).1)))]) (c_L_low l D tA (y >>> ((nI 4) &&& 31)) (1 + ((sB s).1)) (by omega) (by omega)) cd_L_low wm_L_49 rfl ⟨Nat.le_of_ble_eq_true rfl, Nat.le_of_ble_eq_true rfl⟩ ⟨Nat.zero_le _, Nat.zero_le _⟩ rfl (Nat.le_of_ble_eq_true rfl) dL_acts_213 ?_
        have hl213 := low_lt (v := (y >>> ((nI 4) &&& 31))) (n := 1 + ((sB s).1)) (by omega)
        refine q_cancel (pc := 216) X hw hv (r := ((oCancel s (nI (lowN (y >>> ((nI 4) &&& 31)) (1 + ((sB s).1))))).1)) rfl wm_L_79 ⟨Nat.le_of_ble_eq_true rfl, Nat.le_of_ble_eq_true rfl⟩ ⟨Nat.zero_le _, Nat.zero_le _⟩ (Nat.le_of_ble_eq_true rfl) dL_acts_216 ?_
        exact j_endIy (pc := 219) E dL_acts_219 (oCancel s (nI (lowN (y >>> ((nI 4) &&& 31)) (1 + ((sB s).1))))) (nx_cancel h (nI (lowN (y >>> ((nI 4) &&& 31)) (1 + ((sB s).1))))) rfl rfl
      · refine j_swIn (pc := 77) X (off := 143) (tgt := 220) dL_acts_77 (by decide +kernel) (by decide +kernel) (by decide +kernel) (by decide) ?_
        refine j_aload_n (pc := 220) X dL_acts_220 rfl (q := 0) rfl ?_
        refine j_iload_n (pc := 221) X dL_acts_221 rfl (q := 1) rfl ?_
        refine j_iconst (pc := 222) X (v := (nI 4)) dL_acts_222 (by decide +kernel) ?_
        refine j_ishr (pc := 223) X (v := (y >>> ((nI 4) &&& 31))) dL_acts_223 rfl ?_
        refine j_iconst (pc := 224) X (v := (nI 1)) dL_acts_224 (by decide +kernel) ?_
        refine j_aload_n (pc := 225) X dL_acts_225 rfl (q := 0) rfl ?_
        refine j_iconst (pc := 226) X (v := (nI 3)) dL_acts_226 (by decide +kernel) ?_
        refine q_count (pc := 227) X hw (r := (nI ((sB s).1))) (oC_3 _ _ _) wm_L_12 ⟨Nat.le_of_ble_eq_true rfl, Nat.le_of_ble_eq_true rfl⟩ ⟨Nat.zero_le _, Nat.zero_le _⟩ (Nat.le_of_ble_eq_true rfl) dL_acts_227 ?_
        refine j_iadd (pc := 230) X (v := (nI (1 + ((sB s).1)))) dL_acts_230 (nI_add _ _) ?_
        refine j_c0 (pc := 231) X (As := [.int (y >>> ((nI 4) &&& 31)), .int (nI (1 + ((sB s).1)))]) (c_L_low l D tA (y >>> ((nI 4) &&& 31)) (1 + ((sB s).1)) (by omega) (by omega)) cd_L_low wm_L_49 rfl ⟨Nat.le_of_ble_eq_true rfl, Nat.le_of_ble_eq_true rfl⟩ ⟨Nat.zero_le _, Nat.zero_le _⟩ rfl (Nat.le_of_ble_eq_true rfl) dL_acts_231 ?_
        have hl231 := low_lt (v := (y >>> ((nI 4) &&& 31))) (n := 1 + ((sB s).1)) (by omega)
        refine j_iload_n (pc := 234) X dL_acts_234 rfl (q := 1) rfl ?_
        refine j_bipush (pc := 235) X (v := (nI 9)) dL_acts_235 (by decide +kernel) ?_
        refine j_ishr (pc := 237) X (v := (y >>> ((nI 9) &&& 31))) dL_acts_237 rfl ?_
        refine j_iconst (pc := 238) X (v := (nI 1)) dL_acts_238 (by decide +kernel) ?_
        refine j_aload_n (pc := 239) X dL_acts_239 rfl (q := 0) rfl ?_
        refine j_iconst (pc := 240) X (v := (nI 3)) dL_acts_240 (by decide +kernel) ?_
        refine q_count (pc := 241) X hw (r := (nI ((sB s).1))) (oC_3 _ _ _) wm_L_12 ⟨Nat.le_of_ble_eq_true rfl, Nat.le_of_ble_eq_true rfl⟩ ⟨Nat.zero_le _, Nat.zero_le _⟩ (Nat.le_of_ble_eq_true rfl) dL_acts_241 ?_
        refine j_iadd (pc := 244) X (v := (nI (1 + ((sB s).1)))) dL_acts_244 (nI_add _ _) ?_
        refine j_c0 (pc := 245) X (As := [.int (y >>> ((nI 9) &&& 31)), .int (nI (1 + ((sB s).1)))]) (c_L_low l D tA (y >>> ((nI 9) &&& 31)) (1 + ((sB s).1)) (by omega) (by omega)) cd_L_low wm_L_49 rfl ⟨Nat.le_of_ble_eq_true rfl, Nat.le_of_ble_eq_true rfl⟩ ⟨Nat.zero_le _, Nat.zero_le _⟩ rfl (Nat.le_of_ble_eq_true rfl) dL_acts_245 ?_
        have hl245 := low_lt (v := (y >>> ((nI 9) &&& 31))) (n := 1 + ((sB s).1)) (by omega)
        refine q_swap (pc := 248) X hw hv (r := ((oSwap s (nI (lowN (y >>> ((nI 4) &&& 31)) (1 + ((sB s).1)))) (nI (lowN (y >>> ((nI 9) &&& 31)) (1 + ((sB s).1))))).1)) rfl wm_L_82 ⟨Nat.le_of_ble_eq_true rfl, Nat.le_of_ble_eq_true rfl⟩ ⟨Nat.zero_le _, Nat.zero_le _⟩ (Nat.le_of_ble_eq_true rfl) dL_acts_248 ?_
        exact j_endIy (pc := 251) E dL_acts_251 (oSwap s (nI (lowN (y >>> ((nI 4) &&& 31)) (1 + ((sB s).1)))) (nI (lowN (y >>> ((nI 9) &&& 31)) (1 + ((sB s).1))))) (nx_swap h (nI (lowN (y >>> ((nI 4) &&& 31)) (1 + ((sB s).1)))) (nI (lowN (y >>> ((nI 9) &&& 31)) (1 + ((sB s).1))))) rfl rfl
      · refine j_swIn (pc := 77) X (off := 143) (tgt := 220) dL_acts_77 (by decide +kernel) (by decide +kernel) (by decide +kernel) (by decide) ?_
        refine j_aload_n (pc := 220) X dL_acts_220 rfl (q := 0) rfl ?_
        refine j_iload_n (pc := 221) X dL_acts_221 rfl (q := 1) rfl ?_
        refine j_iconst (pc := 222) X (v := (nI 4)) dL_acts_222 (by decide +kernel) ?_
        refine j_ishr (pc := 223) X (v := (y >>> ((nI 4) &&& 31))) dL_acts_223 rfl ?_
        refine j_iconst (pc := 224) X (v := (nI 1)) dL_acts_224 (by decide +kernel) ?_
        refine j_aload_n (pc := 225) X dL_acts_225 rfl (q := 0) rfl ?_
        refine j_iconst (pc := 226) X (v := (nI 3)) dL_acts_226 (by decide +kernel) ?_
        refine q_count (pc := 227) X hw (r := (nI ((sB s).1))) (oC_3 _ _ _) wm_L_12 ⟨Nat.le_of_ble_eq_true rfl, Nat.le_of_ble_eq_true rfl⟩ ⟨Nat.zero_le _, Nat.zero_le _⟩ (Nat.le_of_ble_eq_true rfl) dL_acts_227 ?_
        refine j_iadd (pc := 230) X (v := (nI (1 + ((sB s).1)))) dL_acts_230 (nI_add _ _) ?_
        refine j_c0 (pc := 231) X (As := [.int (y >>> ((nI 4) &&& 31)), .int (nI (1 + ((sB s).1)))]) (c_L_low l D tA (y >>> ((nI 4) &&& 31)) (1 + ((sB s).1)) (by omega) (by omega)) cd_L_low wm_L_49 rfl ⟨Nat.le_of_ble_eq_true rfl, Nat.le_of_ble_eq_true rfl⟩ ⟨Nat.zero_le _, Nat.zero_le _⟩ rfl (Nat.le_of_ble_eq_true rfl) dL_acts_231 ?_
        have hl231 := low_lt (v := (y >>> ((nI 4) &&& 31))) (n := 1 + ((sB s).1)) (by omega)
        refine j_iload_n (pc := 234) X dL_acts_234 rfl (q := 1) rfl ?_
        refine j_bipush (pc := 235) X (v := (nI 9)) dL_acts_235 (by decide +kernel) ?_
        refine j_ishr (pc := 237) X (v := (y >>> ((nI 9) &&& 31))) dL_acts_237 rfl ?_
        refine j_iconst (pc := 238) X (v := (nI 1)) dL_acts_238 (by decide +kernel) ?_
        refine j_aload_n (pc := 239) X dL_acts_239 rfl (q := 0) rfl ?_
        refine j_iconst (pc := 240) X (v := (nI 3)) dL_acts_240 (by decide +kernel) ?_
        refine q_count (pc := 241) X hw (r := (nI ((sB s).1))) (oC_3 _ _ _) wm_L_12 ⟨Nat.le_of_ble_eq_true rfl, Nat.le_of_ble_eq_true rfl⟩ ⟨Nat.zero_le _, Nat.zero_le _⟩ (Nat.le_of_ble_eq_true rfl) dL_acts_241 ?_
        refine j_iadd (pc := 244) X (v := (nI (1 + ((sB s).1)))) dL_acts_244 (nI_add _ _) ?_
        refine j_c0 (pc := 245) X (As := [.int (y >>> ((nI 9) &&& 31)), .int (nI (1 + ((sB s).1)))]) (c_L_low l D tA (y >>> ((nI 9) &&& 31)) (1 + ((sB s).1)) (by omega) (by omega)) cd_L_low wm_L_49 rfl ⟨Nat.le_of_ble_eq_true rfl, Nat.le_of_ble_eq_true rfl⟩ ⟨Nat.zero_le _, Nat.zero_le _⟩ rfl (Nat.le_of_ble_eq_true rfl) dL_acts_245 ?_
        have hl245 := low_lt (v := (y >>> ((nI 9) &&& 31))) (n := 1 + ((sB s).1)) (by omega)
        refine q_swap (pc := 248) X hw hv (r := ((oSwap s (nI (lowN (y >>> ((nI 4) &&& 31)) (1 + ((sB s).1)))) (nI (lowN (y >>> ((nI 9) &&& 31)) (1 + ((sB s).1))))).1)) rfl wm_L_82 ⟨Nat.le_of_ble_eq_true rfl, Nat.le_of_ble_eq_true rfl⟩ ⟨Nat.zero_le _, Nat.zero_le _⟩ (Nat.le_of_ble_eq_true rfl) dL_acts_248 ?_
        exact j_endIy (pc := 251) E dL_acts_251 (oSwap s (nI (lowN (y >>> ((nI 4) &&& 31)) (1 + ((sB s).1)))) (nI (lowN (y >>> ((nI 9) &&& 31)) (1 + ((sB s).1))))) (nx_swap h (nI (lowN (y >>> ((nI 4) &&& 31)) (1 + ((sB s).1)))) (nI (lowN (y >>> ((nI 9) &&& 31)) (1 + ((sB s).1))))) rfl rfl
      · refine j_swIn (pc := 77) X (off := 175) (tgt := 252) dL_acts_77 (by decide +kernel) (by decide +kernel) (by decide +kernel) (by decide) ?_
        refine j_aload_n (pc := 252) X dL_acts_252 rfl (q := 0) rfl ?_
        refine j_iload_n (pc := 253) X dL_acts_253 rfl (q := 3) rfl ?_
        refine j_iload (pc := 254) X dL_acts_254 (q := 4) rfl ?_
        refine j_iload_n (pc := 256) X dL_acts_256 rfl (q := 1) rfl ?_
        refine j_bipush (pc := 257) X (v := (nI 15)) dL_acts_257 (by decide +kernel) ?_
        refine j_ishr (pc := 259) X (v := (y >>> ((nI 15) &&& 31))) dL_acts_259 rfl ?_
        refine j_iload_n (pc := 260) X dL_acts_260 rfl (q := 2) rfl ?_
        refine j_c0 (pc := 261) X (As := [.int (y >>> ((nI 15) &&& 31)), .int (nI ((sM s).1))]) (c_L_low l D tA (y >>> ((nI 15) &&& 31)) ((sM s).1) hM (by omega)) cd_L_low wm_L_49 rfl ⟨Nat.le_of_ble_eq_true rfl, Nat.le_of_ble_eq_true rfl⟩ ⟨Nat.zero_le _, Nat.zero_le _⟩ rfl (Nat.le_of_ble_eq_true rfl) dL_acts_261 ?_
        have hl261 := low_lt (v := (y >>> ((nI 15) &&& 31))) (n := (sM s).1) hM
        refine j_iconst (pc := 264) X (v := (nI 1)) dL_acts_264 (by decide +kernel) ?_
        refine j_iload_n (pc := 265) X dL_acts_265 rfl (q := 1) rfl ?_
        refine j_bipush (pc := 266) X (v := (nI 18)) dL_acts_266 (by decide +kernel) ?_
        refine j_ishr (pc := 268) X (v := (y >>> ((nI 18) &&& 31))) dL_acts_268 rfl ?_
        refine j_bipush (pc := 269) X (v := (nI 12)) dL_acts_269 (by decide +kernel) ?_
        refine j_c0 (pc := 271) X (As := [.int (y >>> ((nI 18) &&& 31)), .int (nI 12)]) (c_L_low l D tA (y >>> ((nI 18) &&& 31)) 12 (by omega) (by omega)) cd_L_low wm_L_49 rfl ⟨Nat.le_of_ble_eq_true rfl, Nat.le_of_ble_eq_true rfl⟩ ⟨Nat.zero_le _, Nat.zero_le _⟩ rfl (Nat.le_of_ble_eq_true rfl) dL_acts_271 ?_
        have hl271 := low_lt (v := (y >>> ((nI 18) &&& 31))) (n := 12) (by omega)
        refine j_iadd (pc := 274) X (v := (nI (1 + (lowN (y >>> ((nI 18) &&& 31)) 12)))) dL_acts_274 (nI_add _ _) ?_
        refine j_iload (pc := 275) X dL_acts_275 (q := 5) rfl ?_
        refine q_order (pc := 277) X hw hv (r := ((oOrder s (nI p) (nI m) (nI (lowN (y >>> ((nI 15) &&& 31)) ((sM s).1))) (nI (1 + (lowN (y >>> ((nI 18) &&& 31)) 12))) t).1)) rfl wm_L_85 ⟨Nat.le_of_ble_eq_true rfl, Nat.le_of_ble_eq_true rfl⟩ ⟨Nat.zero_le _, Nat.zero_le _⟩ (Nat.le_of_ble_eq_true rfl) dL_acts_277 ?_
        exact j_endIy (pc := 280) E dL_acts_280 (oOrder s (nI p) (nI m) (nI (lowN (y >>> ((nI 15) &&& 31)) ((sM s).1))) (nI (1 + (lowN (y >>> ((nI 18) &&& 31)) 12))) t) (nx_order h (nI p) (nI m) (nI (lowN (y >>> ((nI 15) &&& 31)) ((sM s).1))) (nI (1 + (lowN (y >>> ((nI 18) &&& 31)) 12))) t) rfl rfl
      · refine j_swIn (pc := 77) X (off := 175) (tgt := 252) dL_acts_77 (by decide +kernel) (by decide +kernel) (by decide +kernel) (by decide) ?_
        refine j_aload_n (pc := 252) X dL_acts_252 rfl (q := 0) rfl ?_
        refine j_iload_n (pc := 253) X dL_acts_253 rfl (q := 3) rfl ?_
        refine j_iload (pc := 254) X dL_acts_254 (q := 4) rfl ?_
        refine j_iload_n (pc := 256) X dL_acts_256 rfl (q := 1) rfl ?_
        refine j_bipush (pc := 257) X (v := (nI 15)) dL_acts_257 (by decide +kernel) ?_
        refine j_ishr (pc := 259) X (v := (y >>> ((nI 15) &&& 31))) dL_acts_259 rfl ?_
        refine j_iload_n (pc := 260) X dL_acts_260 rfl (q := 2) rfl ?_
        refine j_c0 (pc := 261) X (As := [.int (y >>> ((nI 15) &&& 31)), .int (nI ((sM s).1))]) (c_L_low l D tA (y >>> ((nI 15) &&& 31)) ((sM s).1) hM (by omega)) cd_L_low wm_L_49 rfl ⟨Nat.le_of_ble_eq_true rfl, Nat.le_of_ble_eq_true rfl⟩ ⟨Nat.zero_le _, Nat.zero_le _⟩ rfl (Nat.le_of_ble_eq_true rfl) dL_acts_261 ?_
        have hl261 := low_lt (v := (y >>> ((nI 15) &&& 31))) (n := (sM s).1) hM
        refine j_iconst (pc := 264) X (v := (nI 1)) dL_acts_264 (by decide +kernel) ?_
        refine j_iload_n (pc := 265) X dL_acts_265 rfl (q := 1) rfl ?_
        refine j_bipush (pc := 266) X (v := (nI 18)) dL_acts_266 (by decide +kernel) ?_
        refine j_ishr (pc := 268) X (v := (y >>> ((nI 18) &&& 31))) dL_acts_268 rfl ?_
        refine j_bipush (pc := 269) X (v := (nI 12)) dL_acts_269 (by decide +kernel) ?_
        refine j_c0 (pc := 271) X (As := [.int (y >>> ((nI 18) &&& 31)), .int (nI 12)]) (c_L_low l D tA (y >>> ((nI 18) &&& 31)) 12 (by omega) (by omega)) cd_L_low wm_L_49 rfl ⟨Nat.le_of_ble_eq_true rfl, Nat.le_of_ble_eq_true rfl⟩ ⟨Nat.zero_le _, Nat.zero_le _⟩ rfl (Nat.le_of_ble_eq_true rfl) dL_acts_271 ?_
        have hl271 := low_lt (v := (y >>> ((nI 18) &&& 31))) (n := 12) (by omega)
        refine j_iadd (pc := 274) X (v := (nI (1 + (lowN (y >>> ((nI 18) &&& 31)) 12)))) dL_acts_274 (nI_add _ _) ?_
        refine j_iload (pc := 275) X dL_acts_275 (q := 5) rfl ?_
        refine q_order (pc := 277) X hw hv (r := ((oOrder s (nI p) (nI m) (nI (lowN (y >>> ((nI 15) &&& 31)) ((sM s).1))) (nI (1 + (lowN (y >>> ((nI 18) &&& 31)) 12))) t).1)) rfl wm_L_85 ⟨Nat.le_of_ble_eq_true rfl, Nat.le_of_ble_eq_true rfl⟩ ⟨Nat.zero_le _, Nat.zero_le _⟩ (Nat.le_of_ble_eq_true rfl) dL_acts_277 ?_
        exact j_endIy (pc := 280) E dL_acts_280 (oOrder s (nI p) (nI m) (nI (lowN (y >>> ((nI 15) &&& 31)) ((sM s).1))) (nI (1 + (lowN (y >>> ((nI 18) &&& 31)) 12))) t) (nx_order h (nI p) (nI m) (nI (lowN (y >>> ((nI 15) &&& 31)) ((sM s).1))) (nI (1 + (lowN (y >>> ((nI 18) &&& 31)) 12))) t) rfl rfl
      · refine j_swIn (pc := 77) X (off := 175) (tgt := 252) dL_acts_77 (by decide +kernel) (by decide +kernel) (by decide +kernel) (by decide) ?_
        refine j_aload_n (pc := 252) X dL_acts_252 rfl (q := 0) rfl ?_
        refine j_iload_n (pc := 253) X dL_acts_253 rfl (q := 3) rfl ?_
        refine j_iload (pc := 254) X dL_acts_254 (q := 4) rfl ?_
        refine j_iload_n (pc := 256) X dL_acts_256 rfl (q := 1) rfl ?_
        refine j_bipush (pc := 257) X (v := (nI 15)) dL_acts_257 (by decide +kernel) ?_
        refine j_ishr (pc := 259) X (v := (y >>> ((nI 15) &&& 31))) dL_acts_259 rfl ?_
        refine j_iload_n (pc := 260) X dL_acts_260 rfl (q := 2) rfl ?_
        refine j_c0 (pc := 261) X (As := [.int (y >>> ((nI 15) &&& 31)), .int (nI ((sM s).1))]) (c_L_low l D tA (y >>> ((nI 15) &&& 31)) ((sM s).1) hM (by omega)) cd_L_low wm_L_49 rfl ⟨Nat.le_of_ble_eq_true rfl, Nat.le_of_ble_eq_true rfl⟩ ⟨Nat.zero_le _, Nat.zero_le _⟩ rfl (Nat.le_of_ble_eq_true rfl) dL_acts_261 ?_
        have hl261 := low_lt (v := (y >>> ((nI 15) &&& 31))) (n := (sM s).1) hM
        refine j_iconst (pc := 264) X (v := (nI 1)) dL_acts_264 (by decide +kernel) ?_
        refine j_iload_n (pc := 265) X dL_acts_265 rfl (q := 1) rfl ?_
        refine j_bipush (pc := 266) X (v := (nI 18)) dL_acts_266 (by decide +kernel) ?_
        refine j_ishr (pc := 268) X (v := (y >>> ((nI 18) &&& 31))) dL_acts_268 rfl ?_
        refine j_bipush (pc := 269) X (v := (nI 12)) dL_acts_269 (by decide +kernel) ?_
        refine j_c0 (pc := 271) X (As := [.int (y >>> ((nI 18) &&& 31)), .int (nI 12)]) (c_L_low l D tA (y >>> ((nI 18) &&& 31)) 12 (by omega) (by omega)) cd_L_low wm_L_49 rfl ⟨Nat.le_of_ble_eq_true rfl, Nat.le_of_ble_eq_true rfl⟩ ⟨Nat.zero_le _, Nat.zero_le _⟩ rfl (Nat.le_of_ble_eq_true rfl) dL_acts_271 ?_
        have hl271 := low_lt (v := (y >>> ((nI 18) &&& 31))) (n := 12) (by omega)
        refine j_iadd (pc := 274) X (v := (nI (1 + (lowN (y >>> ((nI 18) &&& 31)) 12)))) dL_acts_274 (nI_add _ _) ?_
        refine j_iload (pc := 275) X dL_acts_275 (q := 5) rfl ?_
        refine q_order (pc := 277) X hw hv (r := ((oOrder s (nI p) (nI m) (nI (lowN (y >>> ((nI 15) &&& 31)) ((sM s).1))) (nI (1 + (lowN (y >>> ((nI 18) &&& 31)) 12))) t).1)) rfl wm_L_85 ⟨Nat.le_of_ble_eq_true rfl, Nat.le_of_ble_eq_true rfl⟩ ⟨Nat.zero_le _, Nat.zero_le _⟩ (Nat.le_of_ble_eq_true rfl) dL_acts_277 ?_
        exact j_endIy (pc := 280) E dL_acts_280 (oOrder s (nI p) (nI m) (nI (lowN (y >>> ((nI 15) &&& 31)) ((sM s).1))) (nI (1 + (lowN (y >>> ((nI 18) &&& 31)) 12))) t) (nx_order h (nI p) (nI m) (nI (lowN (y >>> ((nI 15) &&& 31)) ((sM s).1))) (nI (1 + (lowN (y >>> ((nI 18) &&& 31)) 12))) t) rfl rfl
      · refine j_swIn (pc := 77) X (off := 204) (tgt := 281) dL_acts_77 (by decide +kernel) (by decide +kernel) (by decide +kernel) (by decide) ?_
        refine j_aload_n (pc := 281) X dL_acts_281 rfl (q := 0) rfl ?_
        refine j_iload_n (pc := 282) X dL_acts_282 rfl (q := 1) rfl ?_
        refine j_iconst (pc := 283) X (v := (nI 4)) dL_acts_283 (by decide +kernel) ?_
        refine j_ishr (pc := 284) X (v := (y >>> ((nI 4) &&& 31))) dL_acts_284 rfl ?_
        refine j_iconst (pc := 285) X (v := (nI 1)) dL_acts_285 (by decide +kernel) ?_
        refine j_aload_n (pc := 286) X dL_acts_286 rfl (q := 0) rfl ?_
        refine j_bipush (pc := 287) X (v := (nI 8)) dL_acts_287 (by decide +kernel) ?_
        refine q_count (pc := 289) X hw (r := (nI ((sV s).1))) (oC_8 _ _ _) wm_L_12 ⟨Nat.le_of_ble_eq_true rfl, Nat.le_of_ble_eq_true rfl⟩ ⟨Nat.zero_le _, Nat.zero_le _⟩ (Nat.le_of_ble_eq_true rfl) dL_acts_289 ?_
        refine j_iadd (pc := 292) X (v := (nI (1 + ((sV s).1)))) dL_acts_292 (nI_add _ _) ?_
        refine j_c0 (pc := 293) X (As := [.int (y >>> ((nI 4) &&& 31)), .int (nI (1 + ((sV s).1)))]) (c_L_low l D tA (y >>> ((nI 4) &&& 31)) (1 + ((sV s).1)) (by omega) (by omega)) cd_L_low wm_L_49 rfl ⟨Nat.le_of_ble_eq_true rfl, Nat.le_of_ble_eq_true rfl⟩ ⟨Nat.zero_le _, Nat.zero_le _⟩ rfl (Nat.le_of_ble_eq_true rfl) dL_acts_293 ?_
        have hl293 := low_lt (v := (y >>> ((nI 4) &&& 31))) (n := 1 + ((sV s).1)) (by omega)
        refine q_takeBack (pc := 296) X hw hv (r := ((oTakeBack s (nI (lowN (y >>> ((nI 4) &&& 31)) (1 + ((sV s).1))))).1)) rfl wm_L_88 ⟨Nat.le_of_ble_eq_true rfl, Nat.le_of_ble_eq_true rfl⟩ ⟨Nat.zero_le _, Nat.zero_le _⟩ (Nat.le_of_ble_eq_true rfl) dL_acts_296 ?_
        exact j_endIy (pc := 299) E dL_acts_299 (oTakeBack s (nI (lowN (y >>> ((nI 4) &&& 31)) (1 + ((sV s).1))))) (nx_takeBack h (nI (lowN (y >>> ((nI 4) &&& 31)) (1 + ((sV s).1))))) rfl rfl
      · refine j_swOut (pc := 77) X (tgt := 300) dL_acts_77 (Or.inr (by rw [nI_toInt (by omega)]; omega)) (by decide) ?_
        refine j_aload_n (pc := 300) X dL_acts_300 rfl (q := 0) rfl ?_
        refine j_iload_n (pc := 301) X dL_acts_301 rfl (q := 1) rfl ?_
        refine j_iconst (pc := 302) X (v := (nI 4)) dL_acts_302 (by decide +kernel) ?_
        refine j_ishr (pc := 303) X (v := (y >>> ((nI 4) &&& 31))) dL_acts_303 rfl ?_
        refine j_iload_n (pc := 304) X dL_acts_304 rfl (q := 1) rfl ?_
        refine j_bipush (pc := 305) X (v := (nI 20)) dL_acts_305 (by decide +kernel) ?_
        refine j_ishr (pc := 307) X (v := (y >>> ((nI 20) &&& 31))) dL_acts_307 rfl ?_
        refine j_iconst (pc := 308) X (v := (nI 3)) dL_acts_308 (by decide +kernel) ?_
        refine j_iand (pc := 309) X (v := ((y >>> ((nI 20) &&& 31)) &&& (nI 3))) dL_acts_309 rfl ?_
        refine j_if_ne (pc := 310) X (tgt := 318) (P := ¬ ((y >>> ((nI 20) &&& 31)) &&& (nI 3)) = 0) dL_acts_310 (by decide) Iff.rfl (fun h310 => ?_) (fun h310 => ?_)
        · skip
          refine j_iconst (pc := 318) X (v := (nI 4)) dL_acts_318 (by decide +kernel) ?_
          refine j_c0 (pc := 319) X (As := [.int (y >>> ((nI 4) &&& 31)), .int (nI 4)]) (c_L_low l D tA (y >>> ((nI 4) &&& 31)) 4 (by omega) (by omega)) cd_L_low wm_L_49 rfl ⟨Nat.le_of_ble_eq_true rfl, Nat.le_of_ble_eq_true rfl⟩ ⟨Nat.zero_le _, Nat.zero_le _⟩ rfl (Nat.le_of_ble_eq_true rfl) dL_acts_319 ?_
          have hl319 := low_lt (v := (y >>> ((nI 4) &&& 31))) (n := 4) (by omega)
          refine q_pass (pc := 322) X hw hv (r := ((oPass s (nI (lowN (y >>> ((nI 4) &&& 31)) 4))).1)) rfl wm_L_55 ⟨Nat.le_of_ble_eq_true rfl, Nat.le_of_ble_eq_true rfl⟩ ⟨Nat.zero_le _, Nat.zero_le _⟩ (Nat.le_of_ble_eq_true rfl) dL_acts_322 ?_
          exact j_endIy (pc := 325) E dL_acts_325 (oPass s (nI (lowN (y >>> ((nI 4) &&& 31)) 4))) (nx_pass h (nI (lowN (y >>> ((nI 4) &&& 31)) 4))) rfl rfl
        · skip
          refine j_bipush (pc := 313) X (v := (nI 21)) dL_acts_313 (by decide +kernel) ?_
          refine j_goto (pc := 315) X (tgt := 319) dL_acts_315 (by decide) ?_
          refine j_c0 (pc := 319) X (As := [.int (y >>> ((nI 4) &&& 31)), .int (nI 21)]) (c_L_low l D tA (y >>> ((nI 4) &&& 31)) 21 (by omega) (by omega)) cd_L_low wm_L_49 rfl ⟨Nat.le_of_ble_eq_true rfl, Nat.le_of_ble_eq_true rfl⟩ ⟨Nat.zero_le _, Nat.zero_le _⟩ rfl (Nat.le_of_ble_eq_true rfl) dL_acts_319 ?_
          have hl319 := low_lt (v := (y >>> ((nI 4) &&& 31))) (n := 21) (by omega)
          refine q_pass (pc := 322) X hw hv (r := ((oPass s (nI (lowN (y >>> ((nI 4) &&& 31)) 21))).1)) rfl wm_L_55 ⟨Nat.le_of_ble_eq_true rfl, Nat.le_of_ble_eq_true rfl⟩ ⟨Nat.zero_le _, Nat.zero_le _⟩ (Nat.le_of_ble_eq_true rfl) dL_acts_322 ?_
          exact j_endIy (pc := 325) E dL_acts_325 (oPass s (nI (lowN (y >>> ((nI 4) &&& 31)) 21))) (nx_pass h (nI (lowN (y >>> ((nI 4) &&& 31)) 21))) rfl rfl
    refine j_istore (pc := 45) X (lv' := [(4, .int (nI m)), (0, .ref g.1), (1, .int y), (2, .int (nI ((sM s).1))), (3, .int (nI p))]) dL_acts_45 (by decide) rfl ?_
    refine j_aload_n (pc := 47) X dL_acts_47 rfl (q := 1) rfl ?_
    refine j_iconst (pc := 48) X (v := (nI 0)) dL_acts_48 (by decide +kernel) ?_
    refine q_count (pc := 49) X hw (r := (nI (sN s))) (oC_0 _ _ _) wm_L_12 ⟨Nat.le_of_ble_eq_true rfl, Nat.le_of_ble_eq_true rfl⟩ ⟨Nat.zero_le _, Nat.zero_le _⟩ (Nat.le_of_ble_eq_true rfl) dL_acts_49 ?_
    refine j_iload_n (pc := 52) X dL_acts_52 rfl (q := 2) rfl ?_
    refine j_bipush (pc := 53) X (v := (nI 11)) dL_acts_53 (by decide +kernel) ?_
    refine j_ishr (pc := 55) X (v := (y >>> ((nI 11) &&& 31))) dL_acts_55 rfl ?_
    refine j_bipush (pc := 56) X (v := (nI 9)) dL_acts_56 (by decide +kernel) ?_
    refine j_c0 (pc := 58) X (As := [.int (y >>> ((nI 11) &&& 31)), .int (nI 9)]) (c_L_low l D tA (y >>> ((nI 11) &&& 31)) 9 (by omega) (by omega)) cd_L_low wm_L_49 rfl ⟨Nat.le_of_ble_eq_true rfl, Nat.le_of_ble_eq_true rfl⟩ ⟨Nat.zero_le _, Nat.zero_le _⟩ rfl (Nat.le_of_ble_eq_true rfl) dL_acts_58 ?_
    have hl58 := low_lt (v := (y >>> ((nI 11) &&& 31))) (n := 9) (by omega)
    generalize lowN (y >>> ((nI 11) &&& 31)) 9 = t0 at hl58 ⊢
    refine j_iadd (pc := 61) X (v := (nI ((sN s) + t0))) dL_acts_61 (nI_add _ _) ?_
    refine j_iload_n (pc := 62) X dL_acts_62 rfl (q := 2) rfl ?_
    refine j_bipush (pc := 63) X (v := (nI 26)) dL_acts_63 (by decide +kernel) ?_
    refine j_ishr (pc := 65) X (v := (y >>> ((nI 26) &&& 31))) dL_acts_65 rfl ?_
    refine j_iconst (pc := 66) X (v := (nI 1)) dL_acts_66 (by decide +kernel) ?_
    refine j_iand (pc := 67) X (v := ((y >>> ((nI 26) &&& 31)) &&& (nI 1))) dL_acts_67 rfl ?_
    refine j_isub (pc := 68) X (v := ((nI ((sN s) + t0)) - ((y >>> ((nI 26) &&& 31)) &&& (nI 1)))) dL_acts_68 rfl ?_
    refine j_istore (pc := 69) X (lv' := [(5, .int ((nI ((sN s) + t0)) - ((y >>> ((nI 26) &&& 31)) &&& (nI 1)))), (4, .int (nI m)), (0, .ref g.1), (1, .int y), (2, .int (nI ((sM s).1))), (3, .int (nI p))]) dL_acts_69 (by decide) rfl ?_
    refine j_lv X (lv' := [(0, .ref g.1), (1, .int y), (2, .int (nI ((sM s).1))), (3, .int (nI p)), (4, .int (nI m)), (5, .int ((nI ((sN s) + t0)) - ((y >>> ((nI 26) &&& 31)) &&& (nI 1))))]) [2, 3, 4, 5, 1, 0] rfl ?_
    exact K_71 ((nI ((sN s) + t0)) - ((y >>> ((nI 26) &&& 31)) &&& (nI 1)))
  refine j_aload_n (pc := 0) X dL_acts_0 rfl (q := 0) rfl ?_
  refine j_iconst (pc := 1) X (v := (nI 1)) dL_acts_1 (by decide +kernel) ?_
  refine q_count (pc := 2) X hw (r := (nI ((sM s).1))) (oC_1 _ _ _) wm_L_12 ⟨Nat.le_of_ble_eq_true rfl, Nat.le_of_ble_eq_true rfl⟩ ⟨Nat.zero_le _, Nat.zero_le _⟩ (Nat.le_of_ble_eq_true rfl) dL_acts_2 ?_
  refine j_istore_n (pc := 5) X (lv' := [(2, .int (nI ((sM s).1))), (0, .ref g.1), (1, .int y)]) dL_acts_5 rfl (by decide) rfl ?_
  refine j_iload_n (pc := 6) X dL_acts_6 rfl (q := 2) rfl ?_
  refine j_iconst (pc := 7) X (v := (nI 4)) dL_acts_7 (by decide +kernel) ?_
  refine j_ishr (pc := 8) X (v := (y >>> ((nI 4) &&& 31))) dL_acts_8 rfl ?_
  refine j_iload_n (pc := 9) X dL_acts_9 rfl (q := 2) rfl ?_
  refine j_bipush (pc := 10) X (v := (nI 27)) dL_acts_10 (by decide +kernel) ?_
  refine j_ishr (pc := 12) X (v := (y >>> ((nI 27) &&& 31))) dL_acts_12 rfl ?_
  refine j_iconst (pc := 13) X (v := (nI 3)) dL_acts_13 (by decide +kernel) ?_
  refine j_iand (pc := 14) X (v := ((y >>> ((nI 27) &&& 31)) &&& (nI 3))) dL_acts_14 rfl ?_
  refine j_if_ne (pc := 15) X (tgt := 28) (P := ¬ ((y >>> ((nI 27) &&& 31)) &&& (nI 3)) = 0) dL_acts_15 (by decide) Iff.rfl (fun h15 => ?_) (fun h15 => ?_)
  · skip
    refine j_aload_n (pc := 28) X dL_acts_28 rfl (q := 1) rfl ?_
    refine j_iconst (pc := 29) X (v := (nI 2)) dL_acts_29 (by decide +kernel) ?_
    refine q_count (pc := 30) X hw (r := (nI ((sP s).1))) (oC_2 _ _ _) wm_L_12 ⟨Nat.le_of_ble_eq_true rfl, Nat.le_of_ble_eq_true rfl⟩ ⟨Nat.zero_le _, Nat.zero_le _⟩ (Nat.le_of_ble_eq_true rfl) dL_acts_30 ?_
    refine j_c0 (pc := 33) X (As := [.int (y >>> ((nI 4) &&& 31)), .int (nI ((sP s).1))]) (c_L_low l D tA (y >>> ((nI 4) &&& 31)) ((sP s).1) (by omega) (by omega)) cd_L_low wm_L_49 rfl ⟨Nat.le_of_ble_eq_true rfl, Nat.le_of_ble_eq_true rfl⟩ ⟨Nat.zero_le _, Nat.zero_le _⟩ rfl (Nat.le_of_ble_eq_true rfl) dL_acts_33 ?_
    have hl33 := low_lt (v := (y >>> ((nI 4) &&& 31))) (n := (sP s).1) (by omega)
    refine j_istore_n (pc := 36) X (lv' := [(3, .int (nI (lowN (y >>> ((nI 4) &&& 31)) ((sP s).1)))), (2, .int (nI ((sM s).1))), (0, .ref g.1), (1, .int y)]) dL_acts_36 rfl (by decide) rfl ?_
    refine j_lv X (lv' := [(0, .ref g.1), (1, .int y), (2, .int (nI ((sM s).1))), (3, .int (nI (lowN (y >>> ((nI 4) &&& 31)) ((sP s).1))))]) [2, 3, 1, 0] rfl ?_
    exact K_37 (lowN (y >>> ((nI 4) &&& 31)) ((sP s).1))
  · skip
    refine j_aload_n (pc := 18) X dL_acts_18 rfl (q := 1) rfl ?_
    refine j_iconst (pc := 19) X (v := (nI 2)) dL_acts_19 (by decide +kernel) ?_
    refine q_count (pc := 20) X hw (r := (nI ((sP s).1))) (oC_2 _ _ _) wm_L_12 ⟨Nat.le_of_ble_eq_true rfl, Nat.le_of_ble_eq_true rfl⟩ ⟨Nat.zero_le _, Nat.zero_le _⟩ (Nat.le_of_ble_eq_true rfl) dL_acts_20 ?_
    refine j_iconst (pc := 23) X (v := (nI 1)) dL_acts_23 (by decide +kernel) ?_
    refine j_iadd (pc := 24) X (v := (nI (((sP s).1) + 1))) dL_acts_24 (nI_add _ _) ?_
    refine j_goto (pc := 25) X (tgt := 33) dL_acts_25 (by decide) ?_
    refine j_c0 (pc := 33) X (As := [.int (y >>> ((nI 4) &&& 31)), .int (nI (((sP s).1) + 1))]) (c_L_low l D tA (y >>> ((nI 4) &&& 31)) (((sP s).1) + 1) (by omega) (by omega)) cd_L_low wm_L_49 rfl ⟨Nat.le_of_ble_eq_true rfl, Nat.le_of_ble_eq_true rfl⟩ ⟨Nat.zero_le _, Nat.zero_le _⟩ rfl (Nat.le_of_ble_eq_true rfl) dL_acts_33 ?_
    have hl33 := low_lt (v := (y >>> ((nI 4) &&& 31))) (n := ((sP s).1) + 1) (by omega)
    refine j_istore_n (pc := 36) X (lv' := [(3, .int (nI (lowN (y >>> ((nI 4) &&& 31)) (((sP s).1) + 1)))), (2, .int (nI ((sM s).1))), (0, .ref g.1), (1, .int y)]) dL_acts_36 rfl (by decide) rfl ?_
    refine j_lv X (lv' := [(0, .ref g.1), (1, .int y), (2, .int (nI ((sM s).1))), (3, .int (nI (lowN (y >>> ((nI 4) &&& 31)) (((sP s).1) + 1))))]) [2, 3, 1, 0] rfl ?_
    exact K_37 (lowN (y >>> ((nI 4) &&& 31)) (((sP s).1) + 1))
