/-! the digest -/
def hL (f : Nat → Int32) : Nat → Int64 → Int64
  | 0, x => x
  | n + 1, x => 31 * hL f n x + (f n).toInt64
def hA1 (s : Sg) : Int64 := hL (fun k => oCount s 0 0 (nI k)) 15 61
def hA2 (s : Sg) : Int64 := hL (fun k => oMachine s (nI (k / 7)) (nI (k % 7))) (7 * (sM s).1) (hA1 s)
def hA3 (s : Sg) : Int64 := hL (fun k => oMember s (nI (k / 7)) (nI (k % 7))) (7 * (sP s).1) (hA2 s)
def hA4 (s : Sg) : Int64 := hL (fun k => oBooking s (nI (k / 9)) (nI (k % 9))) (9 * (sB s).1) (hA3 s)
def hA5 (s : Sg) : Int64 := hL (fun k => oMove s (nI (k / 5)) (nI (k % 5))) (5 * (sV s).1) (hA4 s)
def hAll (s : Sg) : Int64 := hL (fun k => oWind s (nI k)) 200 (hA5 s)
theorem ehA1 {s : Sg} : hL (fun k => oCount s 0 0 (nI k)) 15 61 = hA1 s := by unfold hA1; exact Eq.refl _
theorem ehA2 {s : Sg} : hL (fun k => oMachine s (nI (k / 7)) (nI (k % 7))) (7 * (sM s).1) (hA1 s) = hA2 s := by unfold hA2; exact Eq.refl _
theorem ehA3 {s : Sg} : hL (fun k => oMember s (nI (k / 7)) (nI (k % 7))) (7 * (sP s).1) (hA2 s) = hA3 s := by unfold hA3; exact Eq.refl _
theorem ehA4 {s : Sg} : hL (fun k => oBooking s (nI (k / 9)) (nI (k % 9))) (9 * (sB s).1) (hA3 s) = hA4 s := by unfold hA4; exact Eq.refl _
theorem ehA5 {s : Sg} : hL (fun k => oMove s (nI (k / 5)) (nI (k % 5))) (5 * (sV s).1) (hA4 s) = hA5 s := by unfold hA5; exact Eq.refl _
theorem ehAll {s : Sg} : hL (fun k => oWind s (nI k)) 200 (hA5 s) = hAll s := by unfold hAll; exact Eq.refl _
theorem hL_0 {f : Nat → Int32} {x : Int64} : hL f 0 x = x := Eq.refl _
theorem hL_s {f : Nat → Int32} {n : Nat} {x : Int64} : 31 * hL f n x + (f n).toInt64 = hL f (n + 1) x := Eq.refl _
theorem j_lvs {l : Launch} {D : va_G} {G : kCx} {n k : Nat} {w : va_W} {lv lv' : List (Nat × Value)} {pc : Nat} {st : List Value} (h : lv = lv') (kk : J l D G n k w lv' pc st) : J l D G n k w lv pc st := h ▸ kk
theorem cd_L_all : kCardS yL_all cL_all 4 (some .long) 1 := ⟨⟨wc_L_all, wi_L, by decide +kernel, by decide +kernel, rfl⟩, wt_L_all⟩
set_option maxHeartbeats 4000000 in
set_option maxRecDepth 100000 in
theorem c_L_all (l : Launch) (D : va_G) (tA : Nat → ClassId) (g : Ad) (s sn s3 : Sg) (v : Hs) (kp : Bool) (hw : Wf s) : Kx l D tA yL_all cL_all 4 (some .long) 4 77 [.ref g.1] (cuW tA g s sn s3 v kp) (some (.long (hAll s))) (cuW tA g s sn s3 v kp) := by
  refine kx_long rfl (Nat.le_of_ble_eq_true rfl) (fun G X E => ?_)
  show J l D G 0 0 (cuW tA g s sn s3 v kp) [(0, .ref g.1)] 0 []
  have hn := hw.n
  refine j_ldc2 (pc := 0) X wq_L_8 dL_all_0 ?_
  refine j_lstore_n (pc := 3) X (lv' := [(1, .long 61), (0, .ref g.1)]) dL_all_3 rfl (by decide) rfl ?_
  refine j_iconst (pc := 4) X (v := (nI 0)) dL_all_4 (by decide +kernel) ?_
  refine j_istore_n (pc := 5) X (lv' := [(3, .int (nI 0)), (1, .long 61), (0, .ref g.1)]) dL_all_5 rfl (by decide) rfl ?_
  have L_6 : ∀ (fu : Nat) (k0 : Nat), k0 ≤ 15 → 15 - k0 < fu → J l D G 0 0 (cuW tA g s sn s3 v kp) [(0, .ref g.1), (1, .long (hL (fun k => oCount s 0 0 (nI k)) k0 61)), (3, .int (nI k0))] 6 [] := by
    intro fu
    induction fu with
    | zero => intro k0 hk0 hfu; exact absurd hfu (Nat.not_lt_zero _)
    | succ fu ih_6 =>
      intro k0 hk0 hfu
      refine j_iload_n (pc := 6) X dL_all_6 rfl (q := 2) rfl ?_
      refine j_bipush (pc := 7) X (v := (nI 15)) dL_all_7 (by decide +kernel) ?_
      refine j_icmp_ge (pc := 9) X (tgt := 31) (P := 15 ≤ k0) dL_all_9 (by decide) (nI_leI (by omega) (by omega)) (fun h9 => ?_) (fun h9 => ?_)
      · skip
        have ek9 : k0 = 15 := by omega
        rw [ek9]
        refine j_lvs (congrArg (fun zz : Int64 => ([(0, .ref g.1), (1, .long zz), (3, .int (nI 15))] : List (Nat × Value))) ehA1) ?_
        refine j_iconst (pc := 31) X (v := (nI 0)) dL_all_31 (by decide +kernel) ?_
        refine j_istore_n (pc := 32) X (lv' := [(3, .int (nI 0)), (0, .ref g.1), (1, .long (hA1 s))]) dL_all_32 rfl (by decide) rfl ?_
        have L_33 : ∀ (fu : Nat) (k1 : Nat), k1 ≤ 7 * (sM s).1 → 7 * (sM s).1 - k1 < fu → J l D G 0 0 (cuW tA g s sn s3 v kp) [(0, .ref g.1), (1, .long (hL (fun k => oMachine s (nI (k / 7)) (nI (k % 7))) k1 (hA1 s))), (3, .int (nI k1))] 33 [] := by
          intro fu
          induction fu with
          | zero => intro k1 hk1 hfu; exact absurd hfu (Nat.not_lt_zero _)
          | succ fu ih_33 =>
            intro k1 hk1 hfu
            refine j_iload_n (pc := 33) X dL_all_33 rfl (q := 2) rfl ?_
            refine j_bipush (pc := 34) X (v := (nI 7)) dL_all_34 (by decide +kernel) ?_
            refine j_aload_n (pc := 36) X dL_all_36 rfl (q := 0) rfl ?_
            refine j_iconst (pc := 37) X (v := (nI 1)) dL_all_37 (by decide +kernel) ?_
            refine q_count (pc := 38) X hw (r := (nI ((sM s).1))) (oC_1 _ _ _) wm_L_12 ⟨Nat.le_of_ble_eq_true rfl, Nat.le_of_ble_eq_true rfl⟩ ⟨Nat.zero_le _, Nat.zero_le _⟩ (Nat.le_of_ble_eq_true rfl) dL_all_38 ?_
            refine j_imul (pc := 41) X (v := (nI (7 * ((sM s).1)))) dL_all_41 (pk_mul _ _) ?_
            refine j_icmp_ge (pc := 42) X (tgt := 71) (P := (7 * ((sM s).1)) ≤ k1) dL_all_42 (by decide) (nI_leI (by omega) (by omega)) (fun h42 => ?_) (fun h42 => ?_)
            · skip
              have ek42 : k1 = 7 * (sM s).1 := by omega
              rw [ek42]
              refine j_lvs (congrArg (fun zz : Int64 => ([(0, .ref g.1), (1, .long zz), (3, .int (nI (7 * (sM s).1)))] : List (Nat × Value))) ehA2) ?_
              refine j_iconst (pc := 71) X (v := (nI 0)) dL_all_71 (by decide +kernel) ?_
              refine j_istore_n (pc := 72) X (lv' := [(3, .int (nI 0)), (0, .ref g.1), (1, .long (hA2 s))]) dL_all_72 rfl (by decide) rfl ?_
              have L_73 : ∀ (fu : Nat) (k2 : Nat), k2 ≤ 7 * (sP s).1 → 7 * (sP s).1 - k2 < fu → J l D G 0 0 (cuW tA g s sn s3 v kp) [(0, .ref g.1), (1, .long (hL (fun k => oMember s (nI (k / 7)) (nI (k % 7))) k2 (hA2 s))), (3, .int (nI k2))] 73 [] := by
                intro fu
                induction fu with
                | zero => intro k2 hk2 hfu; exact absurd hfu (Nat.not_lt_zero _)
                | succ fu ih_73 =>
                  intro k2 hk2 hfu
                  refine j_iload_n (pc := 73) X dL_all_73 rfl (q := 2) rfl ?_
                  refine j_bipush (pc := 74) X (v := (nI 7)) dL_all_74 (by decide +kernel) ?_
                  refine j_aload_n (pc := 76) X dL_all_76 rfl (q := 0) rfl ?_
                  refine j_iconst (pc := 77) X (v := (nI 2)) dL_all_77 (by decide +kernel) ?_
                  refine q_count (pc := 78) X hw (r := (nI ((sP s).1))) (oC_2 _ _ _) wm_L_12 ⟨Nat.le_of_ble_eq_true rfl, Nat.le_of_ble_eq_true rfl⟩ ⟨Nat.zero_le _, Nat.zero_le _⟩ (Nat.le_of_ble_eq_true rfl) dL_all_78 ?_
                  refine j_imul (pc := 81) X (v := (nI (7 * ((sP s).1)))) dL_all_81 (pk_mul _ _) ?_
                  refine j_icmp_ge (pc := 82) X (tgt := 111) (P := (7 * ((sP s).1)) ≤ k2) dL_all_82 (by decide) (nI_leI (by omega) (by omega)) (fun h82 => ?_) (fun h82 => ?_)
                  · skip
                    have ek82 : k2 = 7 * (sP s).1 := by omega
                    rw [ek82]
                    refine j_lvs (congrArg (fun zz : Int64 => ([(0, .ref g.1), (1, .long zz), (3, .int (nI (7 * (sP s).1)))] : List (Nat × Value))) ehA3) ?_
                    refine j_iconst (pc := 111) X (v := (nI 0)) dL_all_111 (by decide +kernel) ?_
                    refine j_istore_n (pc := 112) X (lv' := [(3, .int (nI 0)), (0, .ref g.1), (1, .long (hA3 s))]) dL_all_112 rfl (by decide) rfl ?_
                    have L_113 : ∀ (fu : Nat) (k3 : Nat), k3 ≤ 9 * (sB s).1 → 9 * (sB s).1 - k3 < fu → J l D G 0 0 (cuW tA g s sn s3 v kp) [(0, .ref g.1), (1, .long (hL (fun k => oBooking s (nI (k / 9)) (nI (k % 9))) k3 (hA3 s))), (3, .int (nI k3))] 113 [] := by
                      intro fu
                      induction fu with
                      | zero => intro k3 hk3 hfu; exact absurd hfu (Nat.not_lt_zero _)
                      | succ fu ih_113 =>
                        intro k3 hk3 hfu
                        refine j_iload_n (pc := 113) X dL_all_113 rfl (q := 2) rfl ?_
                        refine j_bipush (pc := 114) X (v := (nI 9)) dL_all_114 (by decide +kernel) ?_
                        refine j_aload_n (pc := 116) X dL_all_116 rfl (q := 0) rfl ?_
                        refine j_iconst (pc := 117) X (v := (nI 3)) dL_all_117 (by decide +kernel) ?_
                        refine q_count (pc := 118) X hw (r := (nI ((sB s).1))) (oC_3 _ _ _) wm_L_12 ⟨Nat.le_of_ble_eq_true rfl, Nat.le_of_ble_eq_true rfl⟩ ⟨Nat.zero_le _, Nat.zero_le _⟩ (Nat.le_of_ble_eq_true rfl) dL_all_118 ?_
                        refine j_imul (pc := 121) X (v := (nI (9 * ((sB s).1)))) dL_all_121 (pk_mul _ _) ?_
                        refine j_icmp_ge (pc := 122) X (tgt := 151) (P := (9 * ((sB s).1)) ≤ k3) dL_all_122 (by decide) (nI_leI (by omega) (by omega)) (fun h122 => ?_) (fun h122 => ?_)
                        · skip
                          have ek122 : k3 = 9 * (sB s).1 := by omega
                          rw [ek122]
                          refine j_lvs (congrArg (fun zz : Int64 => ([(0, .ref g.1), (1, .long zz), (3, .int (nI (9 * (sB s).1)))] : List (Nat × Value))) ehA4) ?_
                          refine j_iconst (pc := 151) X (v := (nI 0)) dL_all_151 (by decide +kernel) ?_
                          refine j_istore_n (pc := 152) X (lv' := [(3, .int (nI 0)), (0, .ref g.1), (1, .long (hA4 s))]) dL_all_152 rfl (by decide) rfl ?_
                          have L_153 : ∀ (fu : Nat) (k4 : Nat), k4 ≤ 5 * (sV s).1 → 5 * (sV s).1 - k4 < fu → J l D G 0 0 (cuW tA g s sn s3 v kp) [(0, .ref g.1), (1, .long (hL (fun k => oMove s (nI (k / 5)) (nI (k % 5))) k4 (hA4 s))), (3, .int (nI k4))] 153 [] := by
                            intro fu
                            induction fu with
                            | zero => intro k4 hk4 hfu; exact absurd hfu (Nat.not_lt_zero _)
                            | succ fu ih_153 =>
                              intro k4 hk4 hfu
                              refine j_iload_n (pc := 153) X dL_all_153 rfl (q := 2) rfl ?_
                              refine j_iconst (pc := 154) X (v := (nI 5)) dL_all_154 (by decide +kernel) ?_
                              refine j_aload_n (pc := 155) X dL_all_155 rfl (q := 0) rfl ?_
                              refine j_bipush (pc := 156) X (v := (nI 8)) dL_all_156 (by decide +kernel) ?_
                              refine q_count (pc := 158) X hw (r := (nI ((sV s).1))) (oC_8 _ _ _) wm_L_12 ⟨Nat.le_of_ble_eq_true rfl, Nat.le_of_ble_eq_true rfl⟩ ⟨Nat.zero_le _, Nat.zero_le _⟩ (Nat.le_of_ble_eq_true rfl) dL_all_158 ?_
                              refine j_imul (pc := 161) X (v := (nI (5 * ((sV s).1)))) dL_all_161 (pk_mul _ _) ?_
                              refine j_icmp_ge (pc := 162) X (tgt := 189) (P := (5 * ((sV s).1)) ≤ k4) dL_all_162 (by decide) (nI_leI (by omega) (by omega)) (fun h162 => ?_) (fun h162 => ?_)
                              · skip
                                have ek162 : k4 = 5 * (sV s).1 := by omega
                                rw [ek162]
                                refine j_lvs (congrArg (fun zz : Int64 => ([(0, .ref g.1), (1, .long zz), (3, .int (nI (5 * (sV s).1)))] : List (Nat × Value))) ehA5) ?_
                                refine j_iconst (pc := 189) X (v := (nI 0)) dL_all_189 (by decide +kernel) ?_
                                refine j_istore_n (pc := 190) X (lv' := [(3, .int (nI 0)), (0, .ref g.1), (1, .long (hA5 s))]) dL_all_190 rfl (by decide) rfl ?_
                                have L_191 : ∀ (fu : Nat) (k5 : Nat), k5 ≤ 200 → 200 - k5 < fu → J l D G 0 0 (cuW tA g s sn s3 v kp) [(0, .ref g.1), (1, .long (hL (fun k => oWind s (nI k)) k5 (hA5 s))), (3, .int (nI k5))] 191 [] := by
                                  intro fu
                                  induction fu with
                                  | zero => intro k5 hk5 hfu; exact absurd hfu (Nat.not_lt_zero _)
                                  | succ fu ih_191 =>
                                    intro k5 hk5 hfu
                                    refine j_iload_n (pc := 191) X dL_all_191 rfl (q := 2) rfl ?_
                                    refine j_sipush (pc := 192) X (v := (nI 200)) dL_all_192 (by decide +kernel) ?_
                                    refine j_icmp_ge (pc := 195) X (tgt := 217) (P := 200 ≤ k5) dL_all_195 (by decide) (nI_leI (by omega) (by omega)) (fun h195 => ?_) (fun h195 => ?_)
                                    · skip
                                      have ek195 : k5 = 200 := by omega
                                      rw [ek195]
                                      refine j_lvs (congrArg (fun zz : Int64 => ([(0, .ref g.1), (1, .long zz), (3, .int (nI 200))] : List (Nat × Value))) ehAll) ?_
                                      refine j_lload_n (pc := 217) X dL_all_217 rfl (q := 1) rfl ?_
                                      exact j_endL (pc := 218) E dL_all_218 rfl rfl
                                    · skip
                                      refine j_ldc2 (pc := 198) X wq_L_10 dL_all_198 ?_
                                      refine j_lload_n (pc := 201) X dL_all_201 rfl (q := 1) rfl ?_
                                      refine j_lmul (pc := 202) X (v := (31 * (hL (fun k => oWind s (nI k)) k5 (hA5 s)))) dL_all_202 rfl ?_
                                      refine j_aload_n (pc := 203) X dL_all_203 rfl (q := 0) rfl ?_
                                      refine j_iload_n (pc := 204) X dL_all_204 rfl (q := 2) rfl ?_
                                      refine q_wind (pc := 205) X hw (r := ((fun k => oWind s (nI k)) k5)) rfl wm_L_31 ⟨Nat.le_of_ble_eq_true rfl, Nat.le_of_ble_eq_true rfl⟩ ⟨Nat.zero_le _, Nat.zero_le _⟩ (Nat.le_of_ble_eq_true rfl) dL_all_205 ?_
                                      refine j_i2l (pc := 208) X (v := ((fun k => oWind s (nI k)) k5).toInt64) dL_all_208 rfl ?_
                                      refine j_ladd (pc := 209) X (v := (hL (fun k => oWind s (nI k)) (k5 + 1) (hA5 s))) dL_all_209 hL_s ?_
                                      refine j_lstore_n (pc := 210) X (lv' := [(1, .long (hL (fun k => oWind s (nI k)) (k5 + 1) (hA5 s))), (0, .ref g.1), (3, .int (nI k5))]) dL_all_210 rfl (by decide) rfl ?_
                                      refine j_iinc (pc := 211) X (v := (nI (k5 + 1))) (lv' := [(3, .int (nI (k5 + 1))), (1, .long (hL (fun k => oWind s (nI k)) (k5 + 1) (hA5 s))), (0, .ref g.1)]) dL_all_211 (q := 2) rfl (nI_add _ _) (by decide) rfl ?_
                                      refine j_goto (pc := 214) X (tgt := 191) dL_all_214 (by decide) ?_
                                      refine j_lv X (lv' := [(0, .ref g.1), (1, .long (hL (fun k => oWind s (nI k)) (k5 + 1) (hA5 s))), (3, .int (nI (k5 + 1)))]) [2, 1, 0] rfl ?_
                                      exact ih_191 (k5 + 1) (by omega) (by omega)
                                refine j_lvs (congrArg (fun zz : Int64 => ([(3, .int (nI 0)), (0, .ref g.1), (1, .long zz)] : List (Nat × Value))) (hL_0 (f := (fun k => oWind s (nI k))) (x := hA5 s)).symm) ?_
                                refine j_lv X (lv' := [(0, .ref g.1), (1, .long (hL (fun k => oWind s (nI k)) 0 (hA5 s))), (3, .int (nI 0))]) [1, 2, 0] rfl ?_
                                exact L_191 _ 0 (Nat.zero_le _) (Nat.lt_succ_self _)
                              · skip
                                refine j_ldc2 (pc := 165) X wq_L_10 dL_all_165 ?_
                                refine j_lload_n (pc := 168) X dL_all_168 rfl (q := 1) rfl ?_
                                refine j_lmul (pc := 169) X (v := (31 * (hL (fun k => oMove s (nI (k / 5)) (nI (k % 5))) k4 (hA4 s)))) dL_all_169 rfl ?_
                                refine j_aload_n (pc := 170) X dL_all_170 rfl (q := 0) rfl ?_
                                refine j_iload_n (pc := 171) X dL_all_171 rfl (q := 2) rfl ?_
                                refine j_iconst (pc := 172) X (v := (nI 5)) dL_all_172 (by decide +kernel) ?_
                                refine j_idiv (pc := 173) X (v := (nI (k4 / 5))) dL_all_173 (nI_ne0 (by omega) (by omega)) (pk_div (by omega) (by omega) (by omega)) ?_
                                refine j_iload_n (pc := 174) X dL_all_174 rfl (q := 2) rfl ?_
                                refine j_iconst (pc := 175) X (v := (nI 5)) dL_all_175 (by decide +kernel) ?_
                                refine j_irem (pc := 176) X (v := (nI (k4 % 5))) dL_all_176 (nI_ne0 (by omega) (by omega)) (pk_rem (by omega) (by omega) (by omega)) ?_
                                refine q_move (pc := 177) X hw (r := ((fun k => oMove s (nI (k / 5)) (nI (k % 5))) k4)) rfl wm_L_28 ⟨Nat.le_of_ble_eq_true rfl, Nat.le_of_ble_eq_true rfl⟩ ⟨Nat.zero_le _, Nat.zero_le _⟩ (Nat.le_of_ble_eq_true rfl) dL_all_177 ?_
                                refine j_i2l (pc := 180) X (v := ((fun k => oMove s (nI (k / 5)) (nI (k % 5))) k4).toInt64) dL_all_180 rfl ?_
                                refine j_ladd (pc := 181) X (v := (hL (fun k => oMove s (nI (k / 5)) (nI (k % 5))) (k4 + 1) (hA4 s))) dL_all_181 hL_s ?_
                                refine j_lstore_n (pc := 182) X (lv' := [(1, .long (hL (fun k => oMove s (nI (k / 5)) (nI (k % 5))) (k4 + 1) (hA4 s))), (0, .ref g.1), (3, .int (nI k4))]) dL_all_182 rfl (by decide) rfl ?_
                                refine j_iinc (pc := 183) X (v := (nI (k4 + 1))) (lv' := [(3, .int (nI (k4 + 1))), (1, .long (hL (fun k => oMove s (nI (k / 5)) (nI (k % 5))) (k4 + 1) (hA4 s))), (0, .ref g.1)]) dL_all_183 (q := 2) rfl (nI_add _ _) (by decide) rfl ?_
                                refine j_goto (pc := 186) X (tgt := 153) dL_all_186 (by decide) ?_
                                refine j_lv X (lv' := [(0, .ref g.1), (1, .long (hL (fun k => oMove s (nI (k / 5)) (nI (k % 5))) (k4 + 1) (hA4 s))), (3, .int (nI (k4 + 1)))]) [2, 1, 0] rfl ?_
                                exact ih_153 (k4 + 1) (by omega) (by omega)
                          refine j_lvs (congrArg (fun zz : Int64 => ([(3, .int (nI 0)), (0, .ref g.1), (1, .long zz)] : List (Nat × Value))) (hL_0 (f := (fun k => oMove s (nI (k / 5)) (nI (k % 5)))) (x := hA4 s)).symm) ?_
                          refine j_lv X (lv' := [(0, .ref g.1), (1, .long (hL (fun k => oMove s (nI (k / 5)) (nI (k % 5))) 0 (hA4 s))), (3, .int (nI 0))]) [1, 2, 0] rfl ?_
                          exact L_153 _ 0 (Nat.zero_le _) (Nat.lt_succ_self _)
                        · skip
                          refine j_ldc2 (pc := 125) X wq_L_10 dL_all_125 ?_
                          refine j_lload_n (pc := 128) X dL_all_128 rfl (q := 1) rfl ?_
                          refine j_lmul (pc := 129) X (v := (31 * (hL (fun k => oBooking s (nI (k / 9)) (nI (k % 9))) k3 (hA3 s)))) dL_all_129 rfl ?_
                          refine j_aload_n (pc := 130) X dL_all_130 rfl (q := 0) rfl ?_
                          refine j_iload_n (pc := 131) X dL_all_131 rfl (q := 2) rfl ?_
                          refine j_bipush (pc := 132) X (v := (nI 9)) dL_all_132 (by decide +kernel) ?_
                          refine j_idiv (pc := 134) X (v := (nI (k3 / 9))) dL_all_134 (nI_ne0 (by omega) (by omega)) (pk_div (by omega) (by omega) (by omega)) ?_
                          refine j_iload_n (pc := 135) X dL_all_135 rfl (q := 2) rfl ?_
                          refine j_bipush (pc := 136) X (v := (nI 9)) dL_all_136 (by decide +kernel) ?_
                          refine j_irem (pc := 138) X (v := (nI (k3 % 9))) dL_all_138 (nI_ne0 (by omega) (by omega)) (pk_rem (by omega) (by omega) (by omega)) ?_
                          refine q_booking (pc := 139) X hw (r := ((fun k => oBooking s (nI (k / 9)) (nI (k % 9))) k3)) rfl wm_L_25 ⟨Nat.le_of_ble_eq_true rfl, Nat.le_of_ble_eq_true rfl⟩ ⟨Nat.zero_le _, Nat.zero_le _⟩ (Nat.le_of_ble_eq_true rfl) dL_all_139 ?_
                          refine j_i2l (pc := 142) X (v := ((fun k => oBooking s (nI (k / 9)) (nI (k % 9))) k3).toInt64) dL_all_142 rfl ?_
                          refine j_ladd (pc := 143) X (v := (hL (fun k => oBooking s (nI (k / 9)) (nI (k % 9))) (k3 + 1) (hA3 s))) dL_all_143 hL_s ?_
                          refine j_lstore_n (pc := 144) X (lv' := [(1, .long (hL (fun k => oBooking s (nI (k / 9)) (nI (k % 9))) (k3 + 1) (hA3 s))), (0, .ref g.1), (3, .int (nI k3))]) dL_all_144 rfl (by decide) rfl ?_
                          refine j_iinc (pc := 145) X (v := (nI (k3 + 1))) (lv' := [(3, .int (nI (k3 + 1))), (1, .long (hL (fun k => oBooking s (nI (k / 9)) (nI (k % 9))) (k3 + 1) (hA3 s))), (0, .ref g.1)]) dL_all_145 (q := 2) rfl (nI_add _ _) (by decide) rfl ?_
                          refine j_goto (pc := 148) X (tgt := 113) dL_all_148 (by decide) ?_
                          refine j_lv X (lv' := [(0, .ref g.1), (1, .long (hL (fun k => oBooking s (nI (k / 9)) (nI (k % 9))) (k3 + 1) (hA3 s))), (3, .int (nI (k3 + 1)))]) [2, 1, 0] rfl ?_
                          exact ih_113 (k3 + 1) (by omega) (by omega)
                    refine j_lvs (congrArg (fun zz : Int64 => ([(3, .int (nI 0)), (0, .ref g.1), (1, .long zz)] : List (Nat × Value))) (hL_0 (f := (fun k => oBooking s (nI (k / 9)) (nI (k % 9)))) (x := hA3 s)).symm) ?_
                    refine j_lv X (lv' := [(0, .ref g.1), (1, .long (hL (fun k => oBooking s (nI (k / 9)) (nI (k % 9))) 0 (hA3 s))), (3, .int (nI 0))]) [1, 2, 0] rfl ?_
                    exact L_113 _ 0 (Nat.zero_le _) (Nat.lt_succ_self _)
                  · skip
                    refine j_ldc2 (pc := 85) X wq_L_10 dL_all_85 ?_
                    refine j_lload_n (pc := 88) X dL_all_88 rfl (q := 1) rfl ?_
                    refine j_lmul (pc := 89) X (v := (31 * (hL (fun k => oMember s (nI (k / 7)) (nI (k % 7))) k2 (hA2 s)))) dL_all_89 rfl ?_
                    refine j_aload_n (pc := 90) X dL_all_90 rfl (q := 0) rfl ?_
                    refine j_iload_n (pc := 91) X dL_all_91 rfl (q := 2) rfl ?_
                    refine j_bipush (pc := 92) X (v := (nI 7)) dL_all_92 (by decide +kernel) ?_
                    refine j_idiv (pc := 94) X (v := (nI (k2 / 7))) dL_all_94 (nI_ne0 (by omega) (by omega)) (pk_div (by omega) (by omega) (by omega)) ?_
                    refine j_iload_n (pc := 95) X dL_all_95 rfl (q := 2) rfl ?_
                    refine j_bipush (pc := 96) X (v := (nI 7)) dL_all_96 (by decide +kernel) ?_
                    refine j_irem (pc := 98) X (v := (nI (k2 % 7))) dL_all_98 (nI_ne0 (by omega) (by omega)) (pk_rem (by omega) (by omega) (by omega)) ?_
                    refine q_member (pc := 99) X hw (r := ((fun k => oMember s (nI (k / 7)) (nI (k % 7))) k2)) rfl wm_L_22 ⟨Nat.le_of_ble_eq_true rfl, Nat.le_of_ble_eq_true rfl⟩ ⟨Nat.zero_le _, Nat.zero_le _⟩ (Nat.le_of_ble_eq_true rfl) dL_all_99 ?_
                    refine j_i2l (pc := 102) X (v := ((fun k => oMember s (nI (k / 7)) (nI (k % 7))) k2).toInt64) dL_all_102 rfl ?_
                    refine j_ladd (pc := 103) X (v := (hL (fun k => oMember s (nI (k / 7)) (nI (k % 7))) (k2 + 1) (hA2 s))) dL_all_103 hL_s ?_
                    refine j_lstore_n (pc := 104) X (lv' := [(1, .long (hL (fun k => oMember s (nI (k / 7)) (nI (k % 7))) (k2 + 1) (hA2 s))), (0, .ref g.1), (3, .int (nI k2))]) dL_all_104 rfl (by decide) rfl ?_
                    refine j_iinc (pc := 105) X (v := (nI (k2 + 1))) (lv' := [(3, .int (nI (k2 + 1))), (1, .long (hL (fun k => oMember s (nI (k / 7)) (nI (k % 7))) (k2 + 1) (hA2 s))), (0, .ref g.1)]) dL_all_105 (q := 2) rfl (nI_add _ _) (by decide) rfl ?_
                    refine j_goto (pc := 108) X (tgt := 73) dL_all_108 (by decide) ?_
                    refine j_lv X (lv' := [(0, .ref g.1), (1, .long (hL (fun k => oMember s (nI (k / 7)) (nI (k % 7))) (k2 + 1) (hA2 s))), (3, .int (nI (k2 + 1)))]) [2, 1, 0] rfl ?_
                    exact ih_73 (k2 + 1) (by omega) (by omega)
              refine j_lvs (congrArg (fun zz : Int64 => ([(3, .int (nI 0)), (0, .ref g.1), (1, .long zz)] : List (Nat × Value))) (hL_0 (f := (fun k => oMember s (nI (k / 7)) (nI (k % 7)))) (x := hA2 s)).symm) ?_
              refine j_lv X (lv' := [(0, .ref g.1), (1, .long (hL (fun k => oMember s (nI (k / 7)) (nI (k % 7))) 0 (hA2 s))), (3, .int (nI 0))]) [1, 2, 0] rfl ?_
              exact L_73 _ 0 (Nat.zero_le _) (Nat.lt_succ_self _)
            · skip
              refine j_ldc2 (pc := 45) X wq_L_10 dL_all_45 ?_
              refine j_lload_n (pc := 48) X dL_all_48 rfl (q := 1) rfl ?_
              refine j_lmul (pc := 49) X (v := (31 * (hL (fun k => oMachine s (nI (k / 7)) (nI (k % 7))) k1 (hA1 s)))) dL_all_49 rfl ?_
              refine j_aload_n (pc := 50) X dL_all_50 rfl (q := 0) rfl ?_
              refine j_iload_n (pc := 51) X dL_all_51 rfl (q := 2) rfl ?_
              refine j_bipush (pc := 52) X (v := (nI 7)) dL_all_52 (by decide +kernel) ?_
              refine j_idiv (pc := 54) X (v := (nI (k1 / 7))) dL_all_54 (nI_ne0 (by omega) (by omega)) (pk_div (by omega) (by omega) (by omega)) ?_
              refine j_iload_n (pc := 55) X dL_all_55 rfl (q := 2) rfl ?_
              refine j_bipush (pc := 56) X (v := (nI 7)) dL_all_56 (by decide +kernel) ?_
              refine j_irem (pc := 58) X (v := (nI (k1 % 7))) dL_all_58 (nI_ne0 (by omega) (by omega)) (pk_rem (by omega) (by omega) (by omega)) ?_
              refine q_machine (pc := 59) X hw (r := ((fun k => oMachine s (nI (k / 7)) (nI (k % 7))) k1)) rfl wm_L_18 ⟨Nat.le_of_ble_eq_true rfl, Nat.le_of_ble_eq_true rfl⟩ ⟨Nat.zero_le _, Nat.zero_le _⟩ (Nat.le_of_ble_eq_true rfl) dL_all_59 ?_
              refine j_i2l (pc := 62) X (v := ((fun k => oMachine s (nI (k / 7)) (nI (k % 7))) k1).toInt64) dL_all_62 rfl ?_
              refine j_ladd (pc := 63) X (v := (hL (fun k => oMachine s (nI (k / 7)) (nI (k % 7))) (k1 + 1) (hA1 s))) dL_all_63 hL_s ?_
              refine j_lstore_n (pc := 64) X (lv' := [(1, .long (hL (fun k => oMachine s (nI (k / 7)) (nI (k % 7))) (k1 + 1) (hA1 s))), (0, .ref g.1), (3, .int (nI k1))]) dL_all_64 rfl (by decide) rfl ?_
              refine j_iinc (pc := 65) X (v := (nI (k1 + 1))) (lv' := [(3, .int (nI (k1 + 1))), (1, .long (hL (fun k => oMachine s (nI (k / 7)) (nI (k % 7))) (k1 + 1) (hA1 s))), (0, .ref g.1)]) dL_all_65 (q := 2) rfl (nI_add _ _) (by decide) rfl ?_
              refine j_goto (pc := 68) X (tgt := 33) dL_all_68 (by decide) ?_
              refine j_lv X (lv' := [(0, .ref g.1), (1, .long (hL (fun k => oMachine s (nI (k / 7)) (nI (k % 7))) (k1 + 1) (hA1 s))), (3, .int (nI (k1 + 1)))]) [2, 1, 0] rfl ?_
              exact ih_33 (k1 + 1) (by omega) (by omega)
        refine j_lvs (congrArg (fun zz : Int64 => ([(3, .int (nI 0)), (0, .ref g.1), (1, .long zz)] : List (Nat × Value))) (hL_0 (f := (fun k => oMachine s (nI (k / 7)) (nI (k % 7)))) (x := hA1 s)).symm) ?_
        refine j_lv X (lv' := [(0, .ref g.1), (1, .long (hL (fun k => oMachine s (nI (k / 7)) (nI (k % 7))) 0 (hA1 s))), (3, .int (nI 0))]) [1, 2, 0] rfl ?_
        exact L_33 _ 0 (Nat.zero_le _) (Nat.lt_succ_self _)
      · skip
        refine j_ldc2 (pc := 12) X wq_L_10 dL_all_12 ?_
        refine j_lload_n (pc := 15) X dL_all_15 rfl (q := 1) rfl ?_
        refine j_lmul (pc := 16) X (v := (31 * (hL (fun k => oCount s 0 0 (nI k)) k0 61))) dL_all_16 rfl ?_
        refine j_aload_n (pc := 17) X dL_all_17 rfl (q := 0) rfl ?_
        refine j_iload_n (pc := 18) X dL_all_18 rfl (q := 2) rfl ?_
        refine q_count (pc := 19) X hw (r := ((fun k => oCount s 0 0 (nI k)) k0)) (oC_i s _ _ (by omega)) wm_L_12 ⟨Nat.le_of_ble_eq_true rfl, Nat.le_of_ble_eq_true rfl⟩ ⟨Nat.zero_le _, Nat.zero_le _⟩ (Nat.le_of_ble_eq_true rfl) dL_all_19 ?_
        refine j_i2l (pc := 22) X (v := ((fun k => oCount s 0 0 (nI k)) k0).toInt64) dL_all_22 rfl ?_
        refine j_ladd (pc := 23) X (v := (hL (fun k => oCount s 0 0 (nI k)) (k0 + 1) 61)) dL_all_23 hL_s ?_
        refine j_lstore_n (pc := 24) X (lv' := [(1, .long (hL (fun k => oCount s 0 0 (nI k)) (k0 + 1) 61)), (0, .ref g.1), (3, .int (nI k0))]) dL_all_24 rfl (by decide) rfl ?_
        refine j_iinc (pc := 25) X (v := (nI (k0 + 1))) (lv' := [(3, .int (nI (k0 + 1))), (1, .long (hL (fun k => oCount s 0 0 (nI k)) (k0 + 1) 61)), (0, .ref g.1)]) dL_all_25 (q := 2) rfl (nI_add _ _) (by decide) rfl ?_
        refine j_goto (pc := 28) X (tgt := 6) dL_all_28 (by decide) ?_
        refine j_lv X (lv' := [(0, .ref g.1), (1, .long (hL (fun k => oCount s 0 0 (nI k)) (k0 + 1) 61)), (3, .int (nI (k0 + 1)))]) [2, 1, 0] rfl ?_
        exact ih_6 (k0 + 1) (by omega) (by omega)
  refine j_lvs (congrArg (fun zz : Int64 => ([(3, .int (nI 0)), (1, .long zz), (0, .ref g.1)] : List (Nat × Value))) (hL_0 (f := (fun k => oCount s 0 0 (nI k))) (x := 61)).symm) ?_
  refine j_lv X (lv' := [(0, .ref g.1), (1, .long (hL (fun k => oCount s 0 0 (nI k)) 0 61)), (3, .int (nI 0))]) [2, 1, 0] rfl ?_
  exact L_6 _ 0 (Nat.zero_le _) (Nat.lt_succ_self _)
