/-- the reference's three cells -/
def tW (tA : Nat → ClassId) (m : Nat → Nat) (fs : List Value) (R T : Nat → Nat) : va_W := [(m 0, .inr (5, .ref (m 1) :: fs)), (m 1, .inl (tA 0, 3745, .inl (nF R))), (m 2, .inl (tA 0, 60, .inl (nF T)))]
theorem tw_fst {tA : Nat → ClassId} {m : Nat → Nat} {fs fs' : List Value} {R R' T T' : Nat → Nat} : (tW tA m fs' R' T').map Prod.fst = (tW tA m fs R T).map Prod.fst := rfl
def codN (ch : Nat → Nat) (len p : Nat) : Nat := if p < len then ch p else 0
theorem cod_lt {ch : Nat → Nat} (hch : ∀ j, ch j < 65536) (len p : Nat) : codN ch len p < 65536 := by
  unfold codN; split
  · exact hch p
  · decide
theorem cod_eq {ch : Nat → Nat} {len p v : Nat} (hv : v ≠ 0) : codN ch len p = v ↔ (p < len ∧ ch p = v) := by
  unfold codN
  by_cases q : p < len
  · rw [if_pos q]; exact ⟨fun h => ⟨q, h⟩, fun h => h.2⟩
  · rw [if_neg q]; exact ⟨fun h => absurd h.symm hv, fun h => absurd h.1 q⟩
theorem isW_D {ch : Nat → Nat} (hch : ∀ j, ch j < 65536) (len p : Nat) : isW (nI (codN ch len p)) (nI 48) (nI 57) = isD ch len p := by
  have h0 := cod_lt hch len p
  simp only [isW, isD, nI_toInt (show codN ch len p < 2 ^ 31 by omega), nI_toInt (show 48 < 2 ^ 31 by decide), nI_toInt (show 57 < 2 ^ 31 by decide), decide_eq_decide]
  unfold codN
  by_cases q : p < len
  · rw [if_pos q]; omega
  · rw [if_neg q]; omega
theorem rN_neg {q : Option Nat} (h : ∀ b, q = some b → b < 2 ^ 31) : rN q < 0 ↔ q = none := by
  cases q with
  | none => exact ⟨fun _ => rfl, fun _ => (by decide +kernel)⟩
  | some b => exact ⟨fun z => absurd z (nI_pos (h b rfl)), fun z => (by cases z)⟩
theorem rdL_stop {ch : Nat → Nat} {len p v : Nat} (h : ¬ isD ch len p = true) : ∀ m, rdL ch len m p v = (v, p)
  | 0 => rfl
  | m + 1 => by rw [rdL, if_neg h]
theorem num_step {ch : Nat → Nat} {len k ps n v p : Nat} {x : Nat × Nat} (hk : 2 ≤ k) (hq : x = rdL ch len (rdK ch k ps - n) p v) (hD : isD ch len p = true) (hn : n < k) (h0 : n = 0 ∨ 0 < v) (h1 : 1 ≤ n → isD ch len ps = true ∧ ((ch ps ≠ 48 ∧ 0 < v) ∨ (ch ps = 48 ∧ v = 0 ∧ n = 1))) : x = rdL ch len (rdK ch k ps - (n + 1)) (p + 1) (v * 10 + ch p - 48) := by
  have hK : n < rdK ch k ps := by
    unfold rdK
    by_cases q : ch ps = 48
    · rw [if_pos q]
      rcases h0 with z | z
      · omega
      · rcases Nat.eq_zero_or_pos n with y | y
        · omega
        · rcases (h1 y).2 with w | w
          · exact absurd q w.1
          · omega
    · rw [if_neg q]; exact hn
  rw [hq, show rdK ch k ps - n = (rdK ch k ps - (n + 1)) + 1 by omega, rdL, if_pos hD]
theorem num_end {ch : Nat → Nat} {len k ps n v p : Nat} (hq : rdL ch len (rdK ch k ps) ps 0 = rdL ch len (rdK ch k ps - n) p v) (he : rdL ch len (rdK ch k ps - n) p v = (v, p)) (hn : ¬ n = 0) (h1 : 1 ≤ n → isD ch len ps = true ∧ ((ch ps ≠ 48 ∧ 0 < v) ∨ (ch ps = 48 ∧ v = 0 ∧ n = 1))) : rdM ch len k ps = (some v, p) := by
  unfold rdM
  rw [if_pos (h1 (by omega)).1, hq, he]
theorem num_no {ch : Nat → Nat} {len k ps : Nat} (h : ¬ isD ch len ps = true) : rdM ch len k ps = (none, ps) := by
  unfold rdM
  rw [if_neg h]
theorem rdK_le {ch : Nat → Nat} {k ps : Nat} (hk : 2 ≤ k) : rdK ch k ps ≤ k := by
  unfold rdK; split <;> omega
theorem cd_X5_code : kCardV yX5_code cX5_code 1 (some .int) 0 := ⟨⟨wc_X5_code, wi_X5, by decide +kernel, by decide +kernel, rfl⟩, wk_X5_code, ws_X5_code⟩
set_option maxHeartbeats 4000000 in
set_option maxRecDepth 100000 in
theorem c_X5_code (l : Launch) (D : va_G) (tA : Nat → ClassId) (m : Nat → Nat) (R T ch : Nat → Nat) (st : Nat) (kp : Bool) (len : Nat) (wt : Option Nat) (ft ps : Nat) (f1 f2 : Int32)  (hl : len ≤ 60) (hch : ∀ j, ch j < 65536) (hT : ∀ j, j < len → T j = ch j) (hps : ps ≤ 61) : Kx l D tA yX5_code cX5_code 1 (some .int) 0 0 [.ref (m 0)] (tW tA m (mfs m st kp len wt ft ps f1 f2) R T) (some (.int (nI (codN ch len ps)))) (tW tA m (mfs m st kp len wt ft ps f1 f2) R T) := by
  refine kx_int rfl (Nat.le_of_ble_eq_true rfl) (fun G X E => ?_)
  show J l D G 0 0 (tW tA m (mfs m st kp len wt ft ps f1 f2) R T) [(0, .ref (m 0))] 0 []
  refine j_aload_n (pc := 0) X dX5_code_0 rfl (q := 0) rfl ?_
  refine j_get (pc := 1) X (C := RX5) (T := TX5) (N := 10) wz_X5 0 rfl rfl 7 (by decide) wf_X5_126 rfl dX5_code_1 ?_
  refine j_aload_n (pc := 4) X dX5_code_4 rfl (q := 0) rfl ?_
  refine j_get (pc := 5) X (C := RX5) (T := TX5) (N := 10) wz_X5 0 rfl rfl 4 (by decide) wf_X5_123 rfl dX5_code_5 ?_
  refine j_icmp_ge (pc := 8) X (tgt := 23) (P := len ≤ ps) dX5_code_8 (by decide) (nI_leI (by omega) (by omega)) (fun h8 => ?_) (fun h8 => ?_)
  · skip
    refine j_iconst (pc := 23) X (v := (nI 0)) dX5_code_23 (by decide) ?_
    exact j_endI (pc := 24) E dX5_code_24 (by rw [codN, if_neg (by omega)]) rfl
  · skip
    refine j_aload_n (pc := 11) X dX5_code_11 rfl (q := 0) rfl ?_
    refine j_get (pc := 12) X (C := RX5) (T := TX5) (N := 10) wz_X5 0 rfl rfl 3 (by decide) wf_X5_13 rfl dX5_code_12 ?_
    refine j_aload_n (pc := 15) X dX5_code_15 rfl (q := 0) rfl ?_
    refine j_get (pc := 16) X (C := RX5) (T := TX5) (N := 10) wz_X5 0 rfl rfl 7 (by decide) wf_X5_126 rfl dX5_code_16 ?_
    refine j_iald (pc := 19) X 2 (i := ps) rfl (by omega) (by omega) dX5_code_19 ?_
    refine j_top (v' := nI (ch ps)) (congrArg nI (hT ps (by omega))) ?_
    refine j_goto (pc := 20) X (tgt := 24) dX5_code_20 (by decide) ?_
    exact j_endI (pc := 24) E dX5_code_24 (by rw [codN, if_pos (by omega)]) rfl
theorem cd_X5_number : kCardV yX5_number cX5_number 4 (some .int) 1 := ⟨⟨wc_X5_number, wi_X5, by decide +kernel, by decide +kernel, rfl⟩, wk_X5_number, ws_X5_number⟩
set_option maxHeartbeats 4000000 in
set_option maxRecDepth 100000 in
theorem c_X5_number (l : Launch) (D : va_G) (tA : Nat → ClassId) (m : Nat → Nat) (R T ch : Nat → Nat) (st : Nat) (kp : Bool) (len : Nat) (wt : Option Nat) (ft ps : Nat) (f1 f2 : Int32) (k : Nat) (hl : len ≤ 60) (hch : ∀ j, ch j < 65536) (hT : ∀ j, j < len → T j = ch j) (hps : ps ≤ len) (hk : 2 ≤ k ∧ k ≤ 3) : Kx l D tA yX5_number cX5_number 4 (some .int) 1 22 [.ref (m 0), .int (nI k)] (tW tA m (mfs m st kp len wt ft ps f1 f2) R T) (some (.int (rN ((rdM ch len k ps).1)))) (tW tA m (mfs m st kp len wt ft ((rdM ch len k ps).2) f1 f2) R T) := by
  refine kx_int rfl (Nat.le_of_ble_eq_true rfl) (fun G X E => ?_)
  show J l D G 0 0 (tW tA m (mfs m st kp len wt ft ps f1 f2) R T) [(0, .ref (m 0)), (1, .int (nI k))] 0 []
  refine j_iconst (pc := 0) X (v := (nI 0)) dX5_number_0 (by decide) ?_
  refine j_istore_n (pc := 1) X (lv' := [(2, .int (nI 0)), (0, .ref (m 0)), (1, .int (nI k))]) dX5_number_1 rfl (by decide) rfl ?_
  refine j_iconst (pc := 2) X (v := (nI 0)) dX5_number_2 (by decide) ?_
  refine j_istore_n (pc := 3) X (lv' := [(3, .int (nI 0)), (2, .int (nI 0)), (0, .ref (m 0)), (1, .int (nI k))]) dX5_number_3 rfl (by decide) rfl ?_
  have L_4 : ∀ (fu : Nat) (n v p : Nat), p = ps + n → p ≤ len → ((n = 0 ∧ v = 0) ∨ (n = 1 ∧ v ≤ 9) ∨ (n = 2 ∧ v ≤ 99) ∨ (n = 3 ∧ v ≤ 999)) → n ≤ k → rdL ch len (rdK ch k ps) ps 0 = rdL ch len (rdK ch k ps - n) p v → (1 ≤ n → isD ch len ps = true ∧ ((ch ps ≠ 48 ∧ 0 < v) ∨ (ch ps = 48 ∧ v = 0 ∧ n = 1))) → len - p < fu → J l D G 0 0 (tW tA m (mfs m st kp len wt ft p f1 f2) R T) [(0, .ref (m 0)), (1, .int (nI k)), (2, .int (nI n)), (3, .int (nI v))] 4 [] := by
    intro fu
    induction fu with
    | zero => intro n v p hp9 hple hb hnk hq h1 hfu; exact absurd hfu (Nat.not_lt_zero _)
    | succ fu ih_4 =>
      intro n v p hp9 hple hb hnk hq h1 hfu
      refine j_aload_n (pc := 4) X dX5_number_4 rfl (q := 0) rfl ?_
      refine j_callVR (pc := 5) X (st := [])  (c_X5_code l D tA m R T ch st kp len wt ft p f1 f2  hl hch hT (by omega)) cd_X5_code wm_X5_129 0 rfl rfl rfl [0, 1, 2] rfl rfl ⟨Nat.le_of_ble_eq_true rfl, Nat.le_of_ble_eq_true rfl⟩ ⟨Nat.zero_le _, Nat.zero_le _⟩ rfl (Nat.le_of_ble_eq_true rfl) dX5_number_5 ?_
      refine j_bipush (pc := 8) X (v := (nI 48)) dX5_number_8 (by decide) ?_
      refine j_bipush (pc := 10) X (v := (nI 57)) dX5_number_10 (by decide) ?_
      refine j_callSR (pc := 12) X (st := [])  (c_X5_in l D tA (nI (codN ch len p)) (nI 48) (nI 57) ) cd_X5_in wm_X5_20 rfl [] rfl rfl ⟨Nat.le_of_ble_eq_true rfl, Nat.le_of_ble_eq_true rfl⟩ ⟨Nat.zero_le _, Nat.zero_le _⟩ rfl (Nat.le_of_ble_eq_true rfl) dX5_number_12 ?_
      rw [isW_D hch]
      refine j_if_eq (pc := 15) X (tgt := 60) (P := (isD ch len p) = false) dX5_number_15 (by decide) (bI_0 _) (fun h15 => ?_) (fun h15 => ?_)
      · skip
        have h15 := nf5 h15
        refine j_iload_n (pc := 60) X dX5_number_60 rfl (q := 2) rfl ?_
        refine j_if_ne (pc := 61) X (tgt := 68) (P := ¬ n = 0) dX5_number_61 (by decide) (not_congr (nC_eq0 (by omega))) (fun h61 => ?_) (fun h61 => ?_)
        · skip
          refine j_iload_n (pc := 68) X dX5_number_68 rfl (q := 3) rfl ?_
          have e : rdM ch len k ps = (some v, p) := num_end hq (rdL_stop h15 _) h61 h1
          exact j_endI (pc := 69) E dX5_number_69 (by rw [e]; rfl) (by rw [e])
        · skip
          refine j_iconst (pc := 64) X (v := (-1)) dX5_number_64 (by decide) ?_
          refine j_goto (pc := 65) X (tgt := 69) dX5_number_65 (by decide) ?_
          exact j_endI (pc := 69) E dX5_number_69 (by rw [num_no (by rw [show ps = p by omega]; exact h15)]; rfl) (by rw [num_no (by rw [show ps = p by omega]; exact h15), show p = ps by omega])
      · skip
        have h15 := t5 h15
        have hD := h15
        simp only [isD, decide_eq_true_eq] at hD
        have hcd : codN ch len p = ch p := if_pos hD.1
        refine j_iload_n (pc := 18) X dX5_number_18 rfl (q := 2) rfl ?_
        refine j_iload_n (pc := 19) X dX5_number_19 rfl (q := 1) rfl ?_
        refine j_icmp_ge (pc := 20) X (tgt := 60) (P := k ≤ n) dX5_number_20 (by decide) (nI_leI (by omega) (by omega)) (fun h20 => ?_) (fun h20 => ?_)
        · skip
          refine j_iload_n (pc := 60) X dX5_number_60 rfl (q := 2) rfl ?_
          refine j_if_ne (pc := 61) X (tgt := 68) (P := ¬ n = 0) dX5_number_61 (by decide) (not_congr (nC_eq0 (by omega))) (fun h61 => ?_) (fun h61 => ?_)
          · skip
            refine j_iload_n (pc := 68) X dX5_number_68 rfl (q := 3) rfl ?_
            have e : rdM ch len k ps = (some v, p) := num_end hq ((by rw [show rdK ch k ps - n = 0 by have := rdK_le (ch := ch) (ps := ps) hk.1; omega]; rfl)) h61 h1
            exact j_endI (pc := 69) E dX5_number_69 (by rw [e]; rfl) (by rw [e])
          · skip
            refine j_iconst (pc := 64) X (v := (-1)) dX5_number_64 (by decide) ?_
            refine j_goto (pc := 65) X (tgt := 69) dX5_number_65 (by decide) ?_
            exact j_endI (pc := 69) E dX5_number_69 (absurd (Decidable.not_not.mp h61) (by omega)) (absurd (Decidable.not_not.mp h61) (by omega))
        · skip
          refine j_iload_n (pc := 23) X dX5_number_23 rfl (q := 2) rfl ?_
          refine j_if_eq (pc := 24) X (tgt := 31) (P := n = 0) dX5_number_24 (by decide) (nC_eq0 (by omega)) (fun h24 => ?_) (fun h24 => ?_)
          · skip
            refine j_bipush (pc := 31) X (v := (nI 10)) dX5_number_31 (by decide) ?_
            refine j_iload_n (pc := 33) X dX5_number_33 rfl (q := 3) rfl ?_
            refine j_imul (pc := 34) X (v := (nI (10 * v))) dX5_number_34 (pk_mul _ _) ?_
            refine j_aload_n (pc := 35) X dX5_number_35 rfl (q := 0) rfl ?_
            refine j_callVR (pc := 36) X (st := [.int (nI (10 * v))])  (c_X5_code l D tA m R T ch st kp len wt ft p f1 f2  hl hch hT (by omega)) cd_X5_code wm_X5_129 0 rfl rfl rfl [0, 1, 2] rfl rfl ⟨Nat.le_of_ble_eq_true rfl, Nat.le_of_ble_eq_true rfl⟩ ⟨Nat.zero_le _, Nat.zero_le _⟩ rfl (Nat.le_of_ble_eq_true rfl) dX5_number_36 ?_
            refine j_iadd (pc := 39) X (v := (nI ((10 * v) + (codN ch len p)))) dX5_number_39 (nI_add _ _) ?_
            refine j_bipush (pc := 40) X (v := (nI 48)) dX5_number_40 (by decide) ?_
            refine j_isub (pc := 42) X (v := (nI (v * 10 + ch p - 48))) dX5_number_42 (by rw [hcd, pk_sub (by omega)]; exact congrArg nI (by omega)) ?_
            refine j_istore_n (pc := 43) X (lv' := [(3, .int (nI (v * 10 + ch p - 48))), (0, .ref (m 0)), (1, .int (nI k)), (2, .int (nI n))]) dX5_number_43 rfl (by decide) rfl ?_
            refine j_aload_n (pc := 44) X dX5_number_44 rfl (q := 1) rfl ?_
            refine j_dup (pc := 45) X dX5_number_45 rfl ?_
            refine j_get (pc := 46) X (C := RX5) (T := TX5) (N := 10) wz_X5 0 rfl rfl 7 (by decide) wf_X5_126 rfl dX5_number_46 ?_
            refine j_iconst (pc := 49) X (v := (nI 1)) dX5_number_49 (by decide) ?_
            refine j_iadd (pc := 50) X (v := (nI (p + 1))) dX5_number_50 (nI_add _ _) ?_
            refine j_put (pc := 51) X (C := RX5) (T := TX5) (N := 10) wz_X5 tyX5 tyX5_ok nmX5 0 rfl rfl 7 (by decide) wf_X5_126 rfl rfl rfl (Nat.le_of_ble_eq_true rfl) (w' := (tW tA m (mfs m st kp len wt ft (p + 1) f1 f2) R T)) rfl dX5_number_51 ?_
            refine j_iinc (pc := 54) X (v := (nI (n + 1))) (lv' := [(2, .int (nI (n + 1))), (3, .int (nI (v * 10 + ch p - 48))), (0, .ref (m 0)), (1, .int (nI k))]) dX5_number_54 (q := 3) rfl (nI_add _ _) (by decide) rfl ?_
            refine j_goto (pc := 57) X (tgt := 4) dX5_number_57 (by decide) ?_
            have h0 : n = 0 ∨ 0 < v := by omega
            have h1n : isD ch len ps = true ∧ ((ch ps ≠ 48 ∧ 0 < v * 10 + ch p - 48) ∨ (ch ps = 48 ∧ v * 10 + ch p - 48 = 0 ∧ n + 1 = 1)) := by
              rcases Nat.eq_zero_or_pos n with z | z
              · have ep : p = ps := by omega
                rw [← ep]
                exact ⟨h15, by omega⟩
              · have w := h1 z
                exact ⟨w.1, Or.inl ⟨by omega, by omega⟩⟩
            refine j_lv X (lv' := [(0, .ref (m 0)), (1, .int (nI k)), (2, .int (nI (n + 1))), (3, .int (nI (v * 10 + ch p - 48)))]) [2, 3, 0, 1] rfl ?_
            exact ih_4 (n + 1) (v * 10 + ch p - 48) (p + 1) (by omega) (by omega) (by omega) (by omega) (num_step hk.1 hq h15 (by omega) h0 h1) (fun _ => h1n) (by omega)
          · skip
            refine j_iload_n (pc := 27) X dX5_number_27 rfl (q := 3) rfl ?_
            refine j_if_le (pc := 28) X (tgt := 60) (P := v = 0) dX5_number_28 (by decide) (nC_le0 (by omega)) (fun h28 => ?_) (fun h28 => ?_)
            · skip
              refine j_iload_n (pc := 60) X dX5_number_60 rfl (q := 2) rfl ?_
              refine j_if_ne (pc := 61) X (tgt := 68) (P := ¬ n = 0) dX5_number_61 (by decide) (not_congr (nC_eq0 (by omega))) (fun h61 => ?_) (fun h61 => ?_)
              · skip
                refine j_iload_n (pc := 68) X dX5_number_68 rfl (q := 3) rfl ?_
                have e : rdM ch len k ps = (some v, p) := num_end hq ((by rw [show rdK ch k ps - n = 0 by unfold rdK; rcases (h1 (by omega)).2 with z | z; omega; rw [if_pos z.1]; omega]; rfl)) h61 h1
                exact j_endI (pc := 69) E dX5_number_69 (by rw [e]; rfl) (by rw [e])
              · skip
                refine j_iconst (pc := 64) X (v := (-1)) dX5_number_64 (by decide) ?_
                refine j_goto (pc := 65) X (tgt := 69) dX5_number_65 (by decide) ?_
                exact j_endI (pc := 69) E dX5_number_69 (absurd (Decidable.not_not.mp h61) (by omega)) (absurd (Decidable.not_not.mp h61) (by omega))
            · skip
              refine j_bipush (pc := 31) X (v := (nI 10)) dX5_number_31 (by decide) ?_
              refine j_iload_n (pc := 33) X dX5_number_33 rfl (q := 3) rfl ?_
              refine j_imul (pc := 34) X (v := (nI (10 * v))) dX5_number_34 (pk_mul _ _) ?_
              refine j_aload_n (pc := 35) X dX5_number_35 rfl (q := 0) rfl ?_
              refine j_callVR (pc := 36) X (st := [.int (nI (10 * v))])  (c_X5_code l D tA m R T ch st kp len wt ft p f1 f2  hl hch hT (by omega)) cd_X5_code wm_X5_129 0 rfl rfl rfl [0, 1, 2] rfl rfl ⟨Nat.le_of_ble_eq_true rfl, Nat.le_of_ble_eq_true rfl⟩ ⟨Nat.zero_le _, Nat.zero_le _⟩ rfl (Nat.le_of_ble_eq_true rfl) dX5_number_36 ?_
              refine j_iadd (pc := 39) X (v := (nI ((10 * v) + (codN ch len p)))) dX5_number_39 (nI_add _ _) ?_
              refine j_bipush (pc := 40) X (v := (nI 48)) dX5_number_40 (by decide) ?_
              refine j_isub (pc := 42) X (v := (nI (v * 10 + ch p - 48))) dX5_number_42 (by rw [hcd, pk_sub (by omega)]; exact congrArg nI (by omega)) ?_
              refine j_istore_n (pc := 43) X (lv' := [(3, .int (nI (v * 10 + ch p - 48))), (0, .ref (m 0)), (1, .int (nI k)), (2, .int (nI n))]) dX5_number_43 rfl (by decide) rfl ?_
              refine j_aload_n (pc := 44) X dX5_number_44 rfl (q := 1) rfl ?_
              refine j_dup (pc := 45) X dX5_number_45 rfl ?_
              refine j_get (pc := 46) X (C := RX5) (T := TX5) (N := 10) wz_X5 0 rfl rfl 7 (by decide) wf_X5_126 rfl dX5_number_46 ?_
              refine j_iconst (pc := 49) X (v := (nI 1)) dX5_number_49 (by decide) ?_
              refine j_iadd (pc := 50) X (v := (nI (p + 1))) dX5_number_50 (nI_add _ _) ?_
              refine j_put (pc := 51) X (C := RX5) (T := TX5) (N := 10) wz_X5 tyX5 tyX5_ok nmX5 0 rfl rfl 7 (by decide) wf_X5_126 rfl rfl rfl (Nat.le_of_ble_eq_true rfl) (w' := (tW tA m (mfs m st kp len wt ft (p + 1) f1 f2) R T)) rfl dX5_number_51 ?_
              refine j_iinc (pc := 54) X (v := (nI (n + 1))) (lv' := [(2, .int (nI (n + 1))), (3, .int (nI (v * 10 + ch p - 48))), (0, .ref (m 0)), (1, .int (nI k))]) dX5_number_54 (q := 3) rfl (nI_add _ _) (by decide) rfl ?_
              refine j_goto (pc := 57) X (tgt := 4) dX5_number_57 (by decide) ?_
              have h0 : n = 0 ∨ 0 < v := by omega
              have h1n : isD ch len ps = true ∧ ((ch ps ≠ 48 ∧ 0 < v * 10 + ch p - 48) ∨ (ch ps = 48 ∧ v * 10 + ch p - 48 = 0 ∧ n + 1 = 1)) := by
                rcases Nat.eq_zero_or_pos n with z | z
                · have ep : p = ps := by omega
                  rw [← ep]
                  exact ⟨h15, by omega⟩
                · have w := h1 z
                  exact ⟨w.1, Or.inl ⟨by omega, by omega⟩⟩
              refine j_lv X (lv' := [(0, .ref (m 0)), (1, .int (nI k)), (2, .int (nI (n + 1))), (3, .int (nI (v * 10 + ch p - 48)))]) [2, 3, 0, 1] rfl ?_
              exact ih_4 (n + 1) (v * 10 + ch p - 48) (p + 1) (by omega) (by omega) (by omega) (by omega) (num_step hk.1 hq h15 (by omega) h0 h1) (fun _ => h1n) (by omega)
  refine j_lv X (lv' := [(0, .ref (m 0)), (1, .int (nI k)), (2, .int (nI 0)), (3, .int (nI 0))]) [2, 3, 1, 0] rfl ?_
  exact L_4 _ 0 0 ps rfl hps (Or.inl ⟨rfl, rfl⟩) (Nat.zero_le _) rfl (fun z => absurd z (by decide)) (Nat.lt_succ_self _)
theorem cd_X5_readsWind : kCardV yX5_readsWind cX5_readsWind 1 (some .boolean) 0 := ⟨⟨wc_X5_readsWind, wi_X5, by decide +kernel, by decide +kernel, rfl⟩, wk_X5_readsWind, ws_X5_readsWind⟩
set_option maxHeartbeats 4000000 in
set_option maxRecDepth 100000 in
theorem c_X5_readsWind (l : Launch) (D : va_G) (tA : Nat → ClassId) (m : Nat → Nat) (R T ch : Nat → Nat) (st : Nat) (kp : Bool) (len : Nat) (wt : Option Nat) (ft ps : Nat) (f1 f2 : Int32)  (hl : len ≤ 60) (hch : ∀ j, ch j < 65536) (hT : ∀ j, j < len → T j = ch j) (hps : ps ≤ len) : Ky l D tA yX5_readsWind cX5_readsWind 1 (some .boolean) 2 45 [.ref (m 0)] (tW tA m (mfs m st kp len wt ft ps f1 f2) R T) (S := Int32 × Int32) (fun u => ∀ h w, (rdW ch len ps).1 = some (h, w) → u.1 = nI h ∧ u.2 = nI w) (fun u => some (.int (bI ((rdW ch len ps).1.isSome)))) (fun u => (tW tA m (mfs m st kp len wt ft ((rdW ch len ps).2) u.1 u.2) R T)) := by
  refine ky_bool rfl (Nat.le_of_ble_eq_true rfl) (fun G X E => ?_)
  show J l D G 0 0 (tW tA m (mfs m st kp len wt ft ps f1 f2) R T) [(0, .ref (m 0))] 0 []
  have hi3 := rdM_in (c := ch) (len := len) (k := 3) hps (by decide)
  refine j_aload_n (pc := 0) X dX5_readsWind_0 rfl (q := 0) rfl ?_
  refine j_aload_n (pc := 1) X dX5_readsWind_1 rfl (q := 0) rfl ?_
  refine j_iconst (pc := 2) X (v := (nI 3)) dX5_readsWind_2 (by decide) ?_
  refine j_callV (pc := 3) X (st := [.ref (m 0)]) (w' := (tW tA m (mfs m st kp len wt ft ((rdM ch len 3 ps).2) f1 f2) R T)) (c_X5_number l D tA m R T ch st kp len wt ft ps f1 f2 3 hl hch hT (by omega) (by decide)) cd_X5_number wm_X5_133 0 rfl rfl rfl [0, 1, 2] rfl rfl tw_fst rfl ⟨Nat.le_of_ble_eq_true rfl, Nat.le_of_ble_eq_true rfl⟩ ⟨Nat.zero_le _, Nat.zero_le _⟩ rfl (Nat.le_of_ble_eq_true rfl) dX5_readsWind_3 ?_
  refine j_put (pc := 6) X (C := RX5) (T := TX5) (N := 10) wz_X5 tyX5 tyX5_ok nmX5 0 rfl rfl 8 (by decide) wf_X5_136 rfl rfl rfl (Nat.le_of_ble_eq_true rfl) (w' := (tW tA m (mfs m st kp len wt ft ((rdM ch len 3 ps).2) (rN ((rdM ch len 3 ps).1)) f2) R T)) rfl dX5_readsWind_6 ?_
  refine j_aload_n (pc := 9) X dX5_readsWind_9 rfl (q := 0) rfl ?_
  refine j_get (pc := 10) X (C := RX5) (T := TX5) (N := 10) wz_X5 0 rfl rfl 8 (by decide) wf_X5_136 rfl dX5_readsWind_10 ?_
  refine j_if_lt (pc := 13) X (tgt := 25) (P := (rdM ch len 3 ps).1 = none) dX5_readsWind_13 (by decide) (rN_neg (fun b hb => by have := (hi3.2.2 b hb).2; omega)) (fun h13 => ?_) (fun h13 => ?_)
  · skip
    refine j_iconst (pc := 25) X (v := (nI 0)) dX5_readsWind_25 (by decide) ?_
    exact j_endIy (pc := 26) E dX5_readsWind_26 ((rN ((rdM ch len 3 ps).1)), f2) (fun h w q => by rw [rdW_1 h13] at q; cases q) (by rw [rdW_1 h13]; rfl) (by rw [rdW_1 h13])
  · skip
    obtain ⟨a, ha⟩ := Option.ne_none_iff_exists'.mp h13
    have hcl := cod_lt hch len (rdM ch len 3 ps).2
    refine j_aload_n (pc := 16) X dX5_readsWind_16 rfl (q := 0) rfl ?_
    refine j_callVR (pc := 17) X (st := [])  (c_X5_code l D tA m R T ch st kp len wt ft ((rdM ch len 3 ps).2) (rN ((rdM ch len 3 ps).1)) f2  hl hch hT (by omega)) cd_X5_code wm_X5_129 0 rfl rfl rfl [0, 1, 2] rfl rfl ⟨Nat.le_of_ble_eq_true rfl, Nat.le_of_ble_eq_true rfl⟩ ⟨Nat.zero_le _, Nat.zero_le _⟩ rfl (Nat.le_of_ble_eq_true rfl) dX5_readsWind_17 ?_
    refine j_bipush (pc := 20) X (v := (nI 58)) dX5_readsWind_20 (by decide) ?_
    refine j_icmp_eq (pc := 22) X (tgt := 27) (P := (codN ch len ((rdM ch len 3 ps).2)) = 58) dX5_readsWind_22 (by decide) (nI_eq (by omega) (by omega)) (fun h22 => ?_) (fun h22 => ?_)
    · skip
      have hs9 := (cod_eq (by decide)).mp h22
      have hs2 : sgnB ch len (rdM ch len 3 ps).2 58 = true := decide_eq_true hs9
      have hi2 := rdM_in (c := ch) (len := len) (k := 2) (show (rdM ch len 3 ps).2 + 1 ≤ len by omega) (by decide)
      refine j_aload_n (pc := 27) X dX5_readsWind_27 rfl (q := 0) rfl ?_
      refine j_dup (pc := 28) X dX5_readsWind_28 rfl ?_
      refine j_get (pc := 29) X (C := RX5) (T := TX5) (N := 10) wz_X5 0 rfl rfl 7 (by decide) wf_X5_126 rfl dX5_readsWind_29 ?_
      refine j_iconst (pc := 32) X (v := (nI 1)) dX5_readsWind_32 (by decide) ?_
      refine j_iadd (pc := 33) X (v := (nI (((rdM ch len 3 ps).2) + 1))) dX5_readsWind_33 (nI_add _ _) ?_
      refine j_put (pc := 34) X (C := RX5) (T := TX5) (N := 10) wz_X5 tyX5 tyX5_ok nmX5 0 rfl rfl 7 (by decide) wf_X5_126 rfl rfl rfl (Nat.le_of_ble_eq_true rfl) (w' := (tW tA m (mfs m st kp len wt ft (((rdM ch len 3 ps).2) + 1) (rN ((rdM ch len 3 ps).1)) f2) R T)) rfl dX5_readsWind_34 ?_
      refine j_aload_n (pc := 37) X dX5_readsWind_37 rfl (q := 0) rfl ?_
      refine j_aload_n (pc := 38) X dX5_readsWind_38 rfl (q := 0) rfl ?_
      refine j_iconst (pc := 39) X (v := (nI 2)) dX5_readsWind_39 (by decide) ?_
      refine j_callV (pc := 40) X (st := [.ref (m 0)]) (w' := (tW tA m (mfs m st kp len wt ft ((rdM ch len 2 (((rdM ch len 3 ps).2) + 1)).2) (rN ((rdM ch len 3 ps).1)) f2) R T)) (c_X5_number l D tA m R T ch st kp len wt ft (((rdM ch len 3 ps).2) + 1) (rN ((rdM ch len 3 ps).1)) f2 2 hl hch hT (by omega) (by decide)) cd_X5_number wm_X5_133 0 rfl rfl rfl [0, 1, 2] rfl rfl tw_fst rfl ⟨Nat.le_of_ble_eq_true rfl, Nat.le_of_ble_eq_true rfl⟩ ⟨Nat.zero_le _, Nat.zero_le _⟩ rfl (Nat.le_of_ble_eq_true rfl) dX5_readsWind_40 ?_
      refine j_put (pc := 43) X (C := RX5) (T := TX5) (N := 10) wz_X5 tyX5 tyX5_ok nmX5 0 rfl rfl 9 (by decide) wf_X5_139 rfl rfl rfl (Nat.le_of_ble_eq_true rfl) (w' := (tW tA m (mfs m st kp len wt ft ((rdM ch len 2 (((rdM ch len 3 ps).2) + 1)).2) (rN ((rdM ch len 3 ps).1)) (rN ((rdM ch len 2 (((rdM ch len 3 ps).2) + 1)).1))) R T)) rfl dX5_readsWind_43 ?_
      refine j_aload_n (pc := 46) X dX5_readsWind_46 rfl (q := 0) rfl ?_
      refine j_get (pc := 47) X (C := RX5) (T := TX5) (N := 10) wz_X5 0 rfl rfl 9 (by decide) wf_X5_139 rfl dX5_readsWind_47 ?_
      refine j_if_lt (pc := 50) X (tgt := 57) (P := (rdM ch len 2 ((rdM ch len 3 ps).2 + 1)).1 = none) dX5_readsWind_50 (by decide) (rN_neg (fun b hb => by have := (hi2.2.2 b hb).2; omega)) (fun h50 => ?_) (fun h50 => ?_)
      · skip
        refine j_iconst (pc := 57) X (v := (nI 0)) dX5_readsWind_57 (by decide) ?_
        exact j_endIy (pc := 58) E dX5_readsWind_58 ((rN ((rdM ch len 3 ps).1)), (rN ((rdM ch len 2 (((rdM ch len 3 ps).2) + 1)).1))) (fun h w q => by rw [rdW_3 ha hs2 h50] at q; cases q) (by rw [rdW_3 ha hs2 h50]; rfl) (by rw [rdW_3 ha hs2 h50])
      · skip
        refine j_iconst (pc := 53) X (v := (nI 1)) dX5_readsWind_53 (by decide) ?_
        refine j_goto (pc := 54) X (tgt := 58) dX5_readsWind_54 (by decide) ?_
        obtain ⟨b, hbb⟩ := Option.ne_none_iff_exists'.mp h50
        exact j_endIy (pc := 58) E dX5_readsWind_58 ((rN ((rdM ch len 3 ps).1)), (rN ((rdM ch len 2 (((rdM ch len 3 ps).2) + 1)).1))) (fun h w q => by rw [rdW_4 ha hs2 hbb] at q; cases q; exact ⟨by rw [ha]; rfl, by rw [hbb]; rfl⟩) (by rw [rdW_4 ha hs2 hbb]; rfl) (by rw [rdW_4 ha hs2 hbb])
    · skip
      refine j_iconst (pc := 25) X (v := (nI 0)) dX5_readsWind_25 (by decide) ?_
      have hs2 : ¬ sgnB ch len (rdM ch len 3 ps).2 58 = true := by unfold sgnB; rw [decide_eq_true_eq]; exact fun z => h22 ((cod_eq (by decide)).mpr z)
      exact j_endIy (pc := 26) E dX5_readsWind_26 ((rN ((rdM ch len 3 ps).1)), f2) (fun h w q => by rw [rdW_2 ha hs2] at q; cases q) (by rw [rdW_2 ha hs2]; rfl) (by rw [rdW_2 ha hs2])
theorem cd_X5_type : kCardV yX5_type cX5_type 2 (some .int) 1 := ⟨⟨wc_X5_type, wi_X5, by decide +kernel, by decide +kernel, rfl⟩, wk_X5_type, ws_X5_type⟩
set_option maxHeartbeats 4000000 in
set_option maxRecDepth 100000 in
theorem c_X5_type (l : Launch) (D : va_G) (tA : Nat → ClassId) (m : Nat → Nat) (R T ch : Nat → Nat) (st : Nat) (kp : Bool) (len : Nat) (wt : Option Nat) (ft ps : Nat) (f1 f2 : Int32) (c9 : Nat) (hl : len ≤ 60) (hch : ∀ j, ch j < 65536) (hT : ∀ j, j < len → T j = ch j) (hc9 : c9 < 65536) : Kx l D tA yX5_type cX5_type 2 (some .int) 0 0 [.ref (m 0), .int (nI c9)] (tW tA m (mfs m st kp len wt ft ps f1 f2) R T) (some (.int (if len < 60 then nI (len + 1) else (-3)))) (tW tA m (mfs m st kp (if len < 60 then len + 1 else len) wt ft ps f1 f2) R (if len < 60 then va_up T len c9 else T)) := by
  refine kx_int rfl (Nat.le_of_ble_eq_true rfl) (fun G X E => ?_)
  show J l D G 0 0 (tW tA m (mfs m st kp len wt ft ps f1 f2) R T) [(0, .ref (m 0)), (1, .int (nI c9))] 0 []
  refine j_aload_n (pc := 0) X dX5_type_0 rfl (q := 0) rfl ?_
  refine j_get (pc := 1) X (C := RX5) (T := TX5) (N := 10) wz_X5 0 rfl rfl 4 (by decide) wf_X5_123 rfl dX5_type_1 ?_
  refine j_bipush (pc := 4) X (v := (nI 60)) dX5_type_4 (by decide) ?_
  refine j_icmp_ne (pc := 6) X (tgt := 12) (P := len < 60) dX5_type_6 (by decide) ((not_congr (nI_eq (by omega) (by omega))).trans (by omega)) (fun h6 => ?_) (fun h6 => ?_)
  · skip
    refine j_aload_n (pc := 12) X dX5_type_12 rfl (q := 0) rfl ?_
    refine j_get (pc := 13) X (C := RX5) (T := TX5) (N := 10) wz_X5 0 rfl rfl 3 (by decide) wf_X5_13 rfl dX5_type_13 ?_
    refine j_aload_n (pc := 16) X dX5_type_16 rfl (q := 0) rfl ?_
    refine j_get (pc := 17) X (C := RX5) (T := TX5) (N := 10) wz_X5 0 rfl rfl 4 (by decide) wf_X5_123 rfl dX5_type_17 ?_
    refine j_iload_n (pc := 20) X dX5_type_20 rfl (q := 1) rfl ?_
    refine j_iast (pc := 21) X 2 (i := len) (v := c9) rfl (by omega) (by omega) (w' := (tW tA m (mfs m st kp len wt ft ps f1 f2) R (va_up T len c9))) rfl dX5_type_21 ?_
    refine j_aload_n (pc := 22) X dX5_type_22 rfl (q := 0) rfl ?_
    refine j_dup (pc := 23) X dX5_type_23 rfl ?_
    refine j_get (pc := 24) X (C := RX5) (T := TX5) (N := 10) wz_X5 0 rfl rfl 4 (by decide) wf_X5_123 rfl dX5_type_24 ?_
    refine j_iconst (pc := 27) X (v := (nI 1)) dX5_type_27 (by decide) ?_
    refine j_iadd (pc := 28) X (v := (nI (len + 1))) dX5_type_28 (nI_add _ _) ?_
    refine j_put (pc := 29) X (C := RX5) (T := TX5) (N := 10) wz_X5 tyX5 tyX5_ok nmX5 0 rfl rfl 4 (by decide) wf_X5_123 rfl rfl rfl (Nat.le_of_ble_eq_true rfl) (w' := (tW tA m (mfs m st kp (len + 1) wt ft ps f1 f2) R (va_up T len c9))) rfl dX5_type_29 ?_
    refine j_aload_n (pc := 32) X dX5_type_32 rfl (q := 0) rfl ?_
    refine j_get (pc := 33) X (C := RX5) (T := TX5) (N := 10) wz_X5 0 rfl rfl 4 (by decide) wf_X5_123 rfl dX5_type_33 ?_
    exact j_endI (pc := 36) E dX5_type_36 (by rw [if_pos h6]) (by rw [if_pos h6, if_pos h6])
  · skip
    refine j_bipush (pc := 9) X (v := (-3)) dX5_type_9 (by decide) ?_
    exact j_endI (pc := 11) E dX5_type_11 (by rw [if_neg h6]) (by rw [if_neg h6, if_neg h6])
theorem cd_X5_clearText : kCardV yX5_clearText cX5_clearText 2 (some .int) 0 := ⟨⟨wc_X5_clearText, wi_X5, by decide +kernel, by decide +kernel, rfl⟩, wk_X5_clearText, ws_X5_clearText⟩
set_option maxHeartbeats 4000000 in
set_option maxRecDepth 100000 in
theorem c_X5_clearText (l : Launch) (D : va_G) (tA : Nat → ClassId) (m : Nat → Nat) (R T ch : Nat → Nat) (st : Nat) (kp : Bool) (len : Nat) (wt : Option Nat) (ft ps : Nat) (f1 f2 : Int32)   : Kx l D tA yX5_clearText cX5_clearText 2 (some .int) 0 0 [.ref (m 0)] (tW tA m (mfs m st kp len wt ft ps f1 f2) R T) (some (.int (nI len))) (tW tA m (mfs m st kp 0 wt ft ps f1 f2) R T) := by
  refine kx_int rfl (Nat.le_of_ble_eq_true rfl) (fun G X E => ?_)
  show J l D G 0 0 (tW tA m (mfs m st kp len wt ft ps f1 f2) R T) [(0, .ref (m 0))] 0 []
  refine j_aload_n (pc := 0) X dX5_clearText_0 rfl (q := 0) rfl ?_
  refine j_get (pc := 1) X (C := RX5) (T := TX5) (N := 10) wz_X5 0 rfl rfl 4 (by decide) wf_X5_123 rfl dX5_clearText_1 ?_
  refine j_istore_n (pc := 4) X (lv' := [(1, .int (nI len)), (0, .ref (m 0))]) dX5_clearText_4 rfl (by decide) rfl ?_
  refine j_aload_n (pc := 5) X dX5_clearText_5 rfl (q := 1) rfl ?_
  refine j_iconst (pc := 6) X (v := (nI 0)) dX5_clearText_6 (by decide) ?_
  refine j_put (pc := 7) X (C := RX5) (T := TX5) (N := 10) wz_X5 tyX5 tyX5_ok nmX5 0 rfl rfl 4 (by decide) wf_X5_123 rfl rfl rfl (Nat.le_of_ble_eq_true rfl) (w' := (tW tA m (mfs m st kp 0 wt ft ps f1 f2) R T)) rfl dX5_clearText_7 ?_
  refine j_iload_n (pc := 10) X dX5_clearText_10 rfl (q := 0) rfl ?_
  exact j_endI (pc := 11) E dX5_clearText_11 rfl rfl
def Fo (c : Nat → Nat) (len : Nat) (X : Option Nat × Nat × Tb) (q : Nat) : Prop := ∃ n p t h w, X = prs c len (n + 1) p t ∧ rdW c len p = (some (h, w), q) ∧ 60 ≤ 4 * n + p ∧ p ≤ len
theorem fo_in {c : Nat → Nat} {len n p : Nat} {t : Tb} {X : Option Nat × Nat × Tb} (e : X = prs c len (n + 1) p t) (hf : 60 ≤ 4 * n + p) (hp : p ≤ len) : ((rdW c len p).1.isSome = false ∧ X.1 = some (rdW c len p).2) ∨ ((rdW c len p).1.isSome = true ∧ Fo c len X (rdW c len p).2) := by
  rcases ew : rdW c len p with ⟨o, q⟩
  cases o with
  | none => exact Or.inl ⟨rfl, by rw [e, prs_no ew]⟩
  | some hw => exact Or.inr ⟨rfl, n, p, t, hw.1, hw.2, e, ew, hf, hp⟩
theorem fo_end {c : Nat → Nat} {len q : Nat} {X : Option Nat × Nat × Tb} (h : Fo c len X q) (hq : len ≤ q) : X.1 = none := by
  obtain ⟨n, p, t, h, w, e, ew, _, _⟩ := h
  rw [e, prs_end ew hq]
theorem fo_bad {c : Nat → Nat} {len q : Nat} {X : Option Nat × Nat × Tb} (h : Fo c len X q) (hq : ¬ len ≤ q) (h2 : ¬ c q = 59) : X.1 = some q := by
  obtain ⟨n, p, t, h, w, e, ew, _, _⟩ := h
  rw [e, prs_bad ew hq h2]
theorem fo_go {c : Nat → Nat} {len q : Nat} {X : Option Nat × Nat × Tb} (hl : len ≤ 60) (h : Fo c len X q) (hq : ¬ len ≤ q) (h2 : c q = 59) : ((rdW c len (q + 1)).1.isSome = false ∧ X.1 = some (rdW c len (q + 1)).2) ∨ ((rdW c len (q + 1)).1.isSome = true ∧ Fo c len X (rdW c len (q + 1)).2) := by
  obtain ⟨n, p, t, h, w, e, ew, hf, hp⟩ := h
  have hi := (rdW_in (c := c) hp).2.2 h w (by rw [ew])
  rw [ew] at hi
  have hi1 : p + 3 ≤ q := hi.1
  have e2 := e.trans (prs_go ew hq h2)
  rw [show n = (n - 1) + 1 by omega] at e2
  exact fo_in e2 (by omega) (by omega)
theorem cd_X5_faultOf : kCardV yX5_faultOf cX5_faultOf 2 (some .int) 0 := ⟨⟨wc_X5_faultOf, wi_X5, by decide +kernel, by decide +kernel, rfl⟩, wk_X5_faultOf, ws_X5_faultOf⟩
set_option maxHeartbeats 4000000 in
set_option maxRecDepth 100000 in
theorem c_X5_faultOf (l : Launch) (D : va_G) (tA : Nat → ClassId) (m : Nat → Nat) (R T ch : Nat → Nat) (st : Nat) (kp : Bool) (len : Nat) (wt : Option Nat) (ft ps : Nat) (f1 f2 : Int32) (g : Nat → Nat) (hl : len ≤ 60) (hch : ∀ j, ch j < 65536) (hT : ∀ j, j < len → T j = ch j)  : Ky l D tA yX5_faultOf cX5_faultOf 2 (some .int) 3 65 [.ref (m 0)] (tW tA m (mfs m st kp len wt ft ps f1 f2) R T) (S := Nat × Int32 × Int32) (fun u => u.1 ≤ 61) (fun u => some (.int (rN (pRs ch len g).1))) (fun u => (tW tA m (mfs m st kp len wt ft u.1 u.2.1 u.2.2) R T)) := by
  refine ky_int rfl (Nat.le_of_ble_eq_true rfl) (fun G X E => ?_)
  show J l D G 0 0 (tW tA m (mfs m st kp len wt ft ps f1 f2) R T) [(0, .ref (m 0))] 0 []
  refine j_aload_n (pc := 0) X dX5_faultOf_0 rfl (q := 0) rfl ?_
  refine j_iconst (pc := 1) X (v := (nI 0)) dX5_faultOf_1 (by decide) ?_
  refine j_put (pc := 2) X (C := RX5) (T := TX5) (N := 10) wz_X5 tyX5 tyX5_ok nmX5 0 rfl rfl 7 (by decide) wf_X5_126 rfl rfl rfl (Nat.le_of_ble_eq_true rfl) (w' := (tW tA m (mfs m st kp len wt ft 0 f1 f2) R T)) rfl dX5_faultOf_2 ?_
  refine j_aload_n (pc := 5) X dX5_faultOf_5 rfl (q := 0) rfl ?_
  refine j_callVy (pc := 6) X (st := []) (w' := fun u6 => (tW tA m (mfs m st kp len wt ft ((rdW ch len 0).2) u6.1 u6.2) R T)) (c_X5_readsWind l D tA m R T ch st kp len wt ft 0 f1 f2 hl hch hT (Nat.zero_le _)) cd_X5_readsWind wm_X5_142 0 rfl rfl rfl [0, 1, 2] rfl rfl (fun _ => tw_fst) (fun _ => rfl) ⟨Nat.le_of_ble_eq_true rfl, Nat.le_of_ble_eq_true rfl⟩ ⟨Nat.zero_le _, Nat.zero_le _⟩ rfl (Nat.le_of_ble_eq_true rfl) dX5_faultOf_6 (fun u6 hu6 => ?_)
  refine j_istore_n (pc := 9) X (lv' := [(1, .int (bI ((rdW ch len 0).1.isSome))), (0, .ref (m 0))]) dX5_faultOf_9 rfl (by decide) rfl ?_
  have L_10 : ∀ (fu : Nat) (is9 : Bool) (q : Nat) (g1 g2 : Int32) (b9 : Nat), q ≤ len → ((is9 = false ∧ (pRs ch len g).1 = some q) ∨ (is9 = true ∧ Fo ch len (pRs ch len g) q)) → (is9 = true → 0 < b9) → len - q + b9 < fu → J l D G 0 0 (tW tA m (mfs m st kp len wt ft q g1 g2) R T) [(0, .ref (m 0)), (1, .int (bI is9))] 10 [] := by
    intro fu
    induction fu with
    | zero => intro is9 q g1 g2 b9 hq9 hF hb9 hfu; exact absurd hfu (Nat.not_lt_zero _)
    | succ fu ih_10 =>
      intro is9 q g1 g2 b9 hq9 hF hb9 hfu
      refine j_iload_n (pc := 10) X dX5_faultOf_10 rfl (q := 1) rfl ?_
      refine j_if_eq (pc := 11) X (tgt := 78) (P := is9 = false) dX5_faultOf_11 (by decide) (bI_0 _) (fun h11 => ?_) (fun h11 => ?_)
      · skip
        have h11 := nf5 h11
        refine j_iload_n (pc := 78) X dX5_faultOf_78 rfl (q := 1) rfl ?_
        refine j_if_eq_t (pc := 79) X (tgt := 86) dX5_faultOf_79 (by decide) ((bI_0 _).mpr (Bool.eq_false_iff.mpr h11)) ?_
        refine j_aload_n (pc := 86) X dX5_faultOf_86 rfl (q := 0) rfl ?_
        refine j_get (pc := 87) X (C := RX5) (T := TX5) (N := 10) wz_X5 0 rfl rfl 7 (by decide) wf_X5_126 rfl dX5_faultOf_87 ?_
        have e9 : (pRs ch len g).1 = some q := hF.elim (fun z => z.2) (fun z => absurd z.1 h11)
        exact j_endIy (pc := 90) E dX5_faultOf_90 (q, g1, g2) (show q ≤ 61 by omega) (by rw [e9]; rfl) rfl
      · skip
        have h11 := t5 h11
        refine j_aload_n (pc := 14) X dX5_faultOf_14 rfl (q := 0) rfl ?_
        refine j_get (pc := 15) X (C := RX5) (T := TX5) (N := 10) wz_X5 0 rfl rfl 7 (by decide) wf_X5_126 rfl dX5_faultOf_15 ?_
        refine j_aload_n (pc := 18) X dX5_faultOf_18 rfl (q := 0) rfl ?_
        refine j_get (pc := 19) X (C := RX5) (T := TX5) (N := 10) wz_X5 0 rfl rfl 4 (by decide) wf_X5_123 rfl dX5_faultOf_19 ?_
        refine j_icmp_ge (pc := 22) X (tgt := 78) (P := len ≤ q) dX5_faultOf_22 (by decide) (nI_leI (by omega) (by omega)) (fun h22 => ?_) (fun h22 => ?_)
        · skip
          refine j_iload_n (pc := 78) X dX5_faultOf_78 rfl (q := 1) rfl ?_
          refine j_if_eq_f (pc := 79) X (tgt := 86) dX5_faultOf_79 (by decide) (mt (bI_0 _).mp (fun z => nf5 z h11)) ?_
          refine j_iconst (pc := 82) X (v := (-1)) dX5_faultOf_82 (by decide) ?_
          refine j_goto (pc := 83) X (tgt := 90) dX5_faultOf_83 (by decide) ?_
          have e9 : (pRs ch len g).1 = none := fo_end (hF.elim (fun z => absurd h11 (nf5 z.1)) (fun z => z.2)) (by omega)
          exact j_endIy (pc := 90) E dX5_faultOf_90 (q, g1, g2) (show q ≤ 61 by omega) (by rw [e9]; rfl) rfl
        · skip
          refine j_aload_n (pc := 25) X dX5_faultOf_25 rfl (q := 0) rfl ?_
          refine j_callVR (pc := 26) X (st := [])  (c_X5_code l D tA m R T ch st kp len wt ft q g1 g2  hl hch hT (by omega)) cd_X5_code wm_X5_129 0 rfl rfl rfl [0, 1, 2] rfl rfl ⟨Nat.le_of_ble_eq_true rfl, Nat.le_of_ble_eq_true rfl⟩ ⟨Nat.zero_le _, Nat.zero_le _⟩ rfl (Nat.le_of_ble_eq_true rfl) dX5_faultOf_26 ?_
          refine j_bipush (pc := 29) X (v := (nI 59)) dX5_faultOf_29 (by decide) ?_
          refine j_icmp_ne (pc := 31) X (tgt := 38) (P := ¬ codN ch len q = 59) dX5_faultOf_31 (by decide) (not_congr (nI_eq (by have := cod_lt hch len q; omega) (by decide))) (fun h31 => ?_) (fun h31 => ?_)
          · skip
            refine j_iconst (pc := 38) X (v := (bI false)) dX5_faultOf_38 (by decide +kernel) ?_
            refine j_istore_n (pc := 39) X (lv' := [(1, .int (bI false)), (0, .ref (m 0))]) dX5_faultOf_39 rfl (by decide) rfl ?_
            refine j_aload_n (pc := 40) X dX5_faultOf_40 rfl (q := 1) rfl ?_
            refine j_dup (pc := 41) X dX5_faultOf_41 rfl ?_
            refine j_get (pc := 42) X (C := RX5) (T := TX5) (N := 10) wz_X5 0 rfl rfl 7 (by decide) wf_X5_126 rfl dX5_faultOf_42 ?_
            refine j_iload_n (pc := 45) X dX5_faultOf_45 rfl (q := 0) rfl ?_
            refine j_if_eq_t (pc := 46) X (tgt := 53) dX5_faultOf_46 (by decide) ((bI_0 _).mpr rfl) ?_
            refine j_iconst (pc := 53) X (v := (nI 0)) dX5_faultOf_53 (by decide) ?_
            refine j_iadd (pc := 54) X (v := (nI (q + 0))) dX5_faultOf_54 (nI_add _ _) ?_
            refine j_put (pc := 55) X (C := RX5) (T := TX5) (N := 10) wz_X5 tyX5 tyX5_ok nmX5 0 rfl rfl 7 (by decide) wf_X5_126 rfl rfl rfl (Nat.le_of_ble_eq_true rfl) (w' := (tW tA m (mfs m st kp len wt ft (q + 0) g1 g2) R T)) rfl dX5_faultOf_55 ?_
            refine j_iload_n (pc := 58) X dX5_faultOf_58 rfl (q := 0) rfl ?_
            refine j_if_eq_t (pc := 59) X (tgt := 73) dX5_faultOf_59 (by decide) ((bI_0 _).mpr rfl) ?_
            refine j_iconst (pc := 73) X (v := (bI false)) dX5_faultOf_73 (by decide +kernel) ?_
            refine j_istore_n (pc := 74) X (lv' := [(1, .int (bI false)), (0, .ref (m 0))]) dX5_faultOf_74 rfl (by decide) rfl ?_
            refine j_goto (pc := 75) X (tgt := 10) dX5_faultOf_75 (by decide) ?_
            have hFo : Fo ch len (pRs ch len g) q := hF.elim (fun z => absurd h11 (nf5 z.1)) (fun z => z.2)
            have hb1 := hb9 h11
            have hql : ¬ len ≤ q := by omega
            refine j_lv X (lv' := [(0, .ref (m 0)), (1, .int (bI false))]) [1, 0] rfl ?_
            exact ih_10 false (q + 0) g1 g2 0 (by omega) (Or.inl ⟨rfl, fo_bad hFo hql (fun z => h31 ((cod_eq (by decide)).mpr ⟨by omega, z⟩))⟩) (fun z => by cases z) (by omega)
          · skip
            refine j_iconst (pc := 34) X (v := (bI true)) dX5_faultOf_34 (by decide +kernel) ?_
            refine j_goto (pc := 35) X (tgt := 39) dX5_faultOf_35 (by decide) ?_
            refine j_istore_n (pc := 39) X (lv' := [(1, .int (bI true)), (0, .ref (m 0))]) dX5_faultOf_39 rfl (by decide) rfl ?_
            refine j_aload_n (pc := 40) X dX5_faultOf_40 rfl (q := 1) rfl ?_
            refine j_dup (pc := 41) X dX5_faultOf_41 rfl ?_
            refine j_get (pc := 42) X (C := RX5) (T := TX5) (N := 10) wz_X5 0 rfl rfl 7 (by decide) wf_X5_126 rfl dX5_faultOf_42 ?_
            refine j_iload_n (pc := 45) X dX5_faultOf_45 rfl (q := 0) rfl ?_
            refine j_if_eq_f (pc := 46) X (tgt := 53) dX5_faultOf_46 (by decide) (mt (bI_0 _).mp (by decide)) ?_
            refine j_iconst (pc := 49) X (v := (nI 1)) dX5_faultOf_49 (by decide) ?_
            refine j_goto (pc := 50) X (tgt := 54) dX5_faultOf_50 (by decide) ?_
            refine j_iadd (pc := 54) X (v := (nI (q + 1))) dX5_faultOf_54 (nI_add _ _) ?_
            refine j_put (pc := 55) X (C := RX5) (T := TX5) (N := 10) wz_X5 tyX5 tyX5_ok nmX5 0 rfl rfl 7 (by decide) wf_X5_126 rfl rfl rfl (Nat.le_of_ble_eq_true rfl) (w' := (tW tA m (mfs m st kp len wt ft (q + 1) g1 g2) R T)) rfl dX5_faultOf_55 ?_
            refine j_iload_n (pc := 58) X dX5_faultOf_58 rfl (q := 0) rfl ?_
            refine j_if_eq_f (pc := 59) X (tgt := 73) dX5_faultOf_59 (by decide) (mt (bI_0 _).mp (by decide)) ?_
            refine j_aload_n (pc := 62) X dX5_faultOf_62 rfl (q := 1) rfl ?_
            have hi9 := rdW_in (c := ch) (len := len) (p := q + 1) (by omega)
            refine j_callVy (pc := 63) X (st := []) (w' := fun u63 => (tW tA m (mfs m st kp len wt ft ((rdW ch len (q + 1)).2) u63.1 u63.2) R T)) (c_X5_readsWind l D tA m R T ch st kp len wt ft (q + 1) g1 g2 hl hch hT (by omega)) cd_X5_readsWind wm_X5_142 0 rfl rfl rfl [0, 1, 2] rfl rfl (fun _ => tw_fst) (fun _ => rfl) ⟨Nat.le_of_ble_eq_true rfl, Nat.le_of_ble_eq_true rfl⟩ ⟨Nat.zero_le _, Nat.zero_le _⟩ rfl (Nat.le_of_ble_eq_true rfl) dX5_faultOf_63 (fun u63 hu63 => ?_)
            refine j_if_eq (pc := 66) X (tgt := 73) (P := ((rdW ch len (q + 1)).1.isSome) = false) dX5_faultOf_66 (by decide) (bI_0 _) (fun h66 => ?_) (fun h66 => ?_)
            · skip
              have h66 := nf5 h66
              refine j_iconst (pc := 73) X (v := (bI false)) dX5_faultOf_73 (by decide +kernel) ?_
              refine j_istore_n (pc := 74) X (lv' := [(1, .int (bI false)), (0, .ref (m 0))]) dX5_faultOf_74 rfl (by decide) rfl ?_
              refine j_goto (pc := 75) X (tgt := 10) dX5_faultOf_75 (by decide) ?_
              have hFo : Fo ch len (pRs ch len g) q := hF.elim (fun z => absurd h11 (nf5 z.1)) (fun z => z.2)
              have hb1 := hb9 h11
              have hql : ¬ len ≤ q := by omega
              have h59 : ch q = 59 := ((cod_eq (by decide)).mp (Decidable.not_not.mp h31)).2
              have hgo := fo_go hl hFo hql h59
              have hi9b := hi9.2.1
              refine j_lv X (lv' := [(0, .ref (m 0)), (1, .int (bI false))]) [1, 0] rfl ?_
              exact ih_10 false ((rdW ch len (q + 1)).2) u63.1 u63.2 0 hi9.1 (Or.inl ⟨rfl, hgo.elim (fun z => z.2) (fun z => absurd z.1 h66)⟩) (fun z => by cases z) (by omega)
            · skip
              have h66 := t5 h66
              refine j_iconst (pc := 69) X (v := (bI true)) dX5_faultOf_69 (by decide +kernel) ?_
              refine j_goto (pc := 70) X (tgt := 74) dX5_faultOf_70 (by decide) ?_
              refine j_istore_n (pc := 74) X (lv' := [(1, .int (bI true)), (0, .ref (m 0))]) dX5_faultOf_74 rfl (by decide) rfl ?_
              refine j_goto (pc := 75) X (tgt := 10) dX5_faultOf_75 (by decide) ?_
              have hFo : Fo ch len (pRs ch len g) q := hF.elim (fun z => absurd h11 (nf5 z.1)) (fun z => z.2)
              have hb1 := hb9 h11
              have hql : ¬ len ≤ q := by omega
              have h59 : ch q = 59 := ((cod_eq (by decide)).mp (Decidable.not_not.mp h31)).2
              have hgo := fo_go hl hFo hql h59
              have hi9b := hi9.2.1
              refine j_lv X (lv' := [(0, .ref (m 0)), (1, .int (bI true))]) [1, 0] rfl ?_
              exact ih_10 true ((rdW ch len (q + 1)).2) u63.1 u63.2 1 hi9.1 (Or.inr ⟨rfl, hgo.elim (fun z => absurd h66 (nf5 z.1)) (fun z => z.2)⟩) (fun _ => by decide) (by omega)
  refine j_lv X (lv' := [(0, .ref (m 0)), (1, .int (bI ((rdW ch len 0).1.isSome)))]) [1, 0] rfl ?_
  exact L_10 _ ((rdW ch len 0).1.isSome) ((rdW ch len 0).2) u6.1 u6.2 1 ((rdW_in (Nat.zero_le _)).1) (fo_in (n := 15) (p := 0) (t := (0, g)) rfl (by decide) (Nat.zero_le _)) (fun _ => by decide) (Nat.lt_succ_self _)
