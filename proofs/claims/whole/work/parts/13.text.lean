theorem j_top {l : Launch} {D : va_G} {G : kCx} {n k : Nat} {w : va_W} {lv : List (Nat × Value)} {pc : Nat} {st : List Value} {v v' : Int32} (h : v = v') (kk : J l D G n k w lv pc (.int v' :: st)) : J l D G n k w lv pc (.int v :: st) := h ▸ kk
def rN : Option Nat → Int32
  | some b => nI b
  | none => (-1)
theorem rN_none {o : Option Nat} (h : ∀ b, o = some b → b < 2 ^ 31) : rN o = (-1) ↔ o = none := by
  cases o with
  | none => exact ⟨fun _ => rfl, fun _ => rfl⟩
  | some b =>
    refine ⟨fun q => ?_, fun q => (by cases q)⟩
    have h1 : nI b = (-1) := q
    have h2 := nI_toInt (h b rfl)
    rw [h1] at h2
    have h3 : ((-1 : Int32)).toInt = -1 := by decide
    omega
/-- a text: its signs, its length, where the reader stands, the winds found -/
abbrev Tx : Type := (Nat → Nat) × Nat × Nat × Tb
def txW (tA : Nat → ClassId) (x : Nat → Nat) (c : Nat → Nat) (len p : Nat) (t : Tb) : va_W :=
  [(x 0, .inr (3, [.ref (x 1), .int (nI len), .int (nI p), .ref (x 2)])), (x 1, .inl (tA 1, 60, .inl (nF c))), (x 2, .inr (2, [.ref (x 3), .int (nI 15), .int (nI 2), .int (nI t.1)])), (x 3, .inl (tA 0, 15 * 2, .inl (nF t.2)))]
theorem tx_fst {tA : Nat → ClassId} {x : Nat → Nat} {c : Nat → Nat} {len p : Nat} {t : Tb} : (txW tA x c len p t).map Prod.fst = [x 0, x 1, x 2, x 3] := rfl
/-- the sign at a place, as it stands in a cell: -1 behind the text -/
def sgN (c : Nat → Nat) (len p : Nat) : Nat := if p < len then c p else 4294967295
def isD (c : Nat → Nat) (len p : Nat) : Bool := decide (p < len ∧ 48 ≤ c p ∧ c p ≤ 57)
def dgt (x : Int32) : Bool := decide (48 ≤ x.toInt ∧ x.toInt ≤ 57)
theorem dgt_sg {c : Nat → Nat} (hc : ∀ j, c j < 65536) (len p : Nat) : dgt (nI (sgN c len p)) = isD c len p := by
  unfold dgt isD sgN
  have := hc p
  by_cases h : p < len
  · rw [if_pos h, nI_toInt (by omega), decide_eq_decide]
    omega
  · rw [if_neg h]
    have e : (nI 4294967295).toInt = -1 := by decide +kernel
    rw [e, decide_eq_decide]
    omega
def rdL (c : Nat → Nat) (len : Nat) : Nat → Nat → Nat → Nat × Nat
  | 0, p, v => (v, p)
  | n + 1, p, v => if isD c len p = true then rdL c len n (p + 1) (v * 10 + c p - 48) else (v, p)
def rdK (c : Nat → Nat) (k p : Nat) : Nat := if c p = 48 then 1 else k
/-- a number of k digits at most: what it is, and where the reader stands then -/
def rdM (c : Nat → Nat) (len k p : Nat) : Option Nat × Nat := if isD c len p = true then (some (rdL c len (rdK c k p) p 0).1, (rdL c len (rdK c k p) p 0).2) else (none, p)
def rdW (c : Nat → Nat) (len p : Nat) : Option (Nat × Nat) × Nat := match rdM c len 3 p with
  | (none, p1) => (none, p1)
  | (some h, p1) => if p1 < len ∧ c p1 = 58 then (match rdM c len 2 (p1 + 1) with
    | (none, p2) => (none, p2)
    | (some w, p2) => (some (h, w), p2)) else (none, p1)
def prs (c : Nat → Nat) (len : Nat) : Nat → Nat → Tb → Option Nat × Nat × Tb
  | 0, p, t => (some p, p, t)
  | n + 1, p, t => match rdW c len p with
    | (none, q) => (some q, q, t)
    | (some (h, w), q) =>
      if len ≤ q then (none, q, tSet 2 (tSet 2 (tAdd 2 t) t.1 0 h) t.1 1 w)
      else if c q = 59 then prs c len n (q + 1) (tSet 2 (tSet 2 (tAdd 2 t) t.1 0 h) t.1 1 w)
      else (some q, q, tSet 2 (tSet 2 (tAdd 2 t) t.1 0 h) t.1 1 w)
theorem rdL_in (c : Nat → Nat) (len : Nat) : ∀ (n p v : Nat), p ≤ len → p ≤ (rdL c len n p v).2 ∧ (rdL c len n p v).2 ≤ len
  | 0, p, v, h => ⟨Nat.le_refl _, h⟩
  | n + 1, p, v, h => by
    unfold rdL
    split
    · next q =>
      simp only [isD, decide_eq_true_eq] at q
      have := rdL_in c len n (p + 1) (v * 10 + c p - 48) (by omega)
      omega
    · exact ⟨Nat.le_refl _, h⟩
theorem rdL_lt (c : Nat → Nat) (len : Nat) : ∀ (n p v : Nat), (rdL c len n p v).1 < (v + 1) * 10 ^ n
  | 0, p, v => by show v < (v + 1) * 1; omega
  | n + 1, p, v => by
    unfold rdL
    split
    · next q =>
      simp only [isD, decide_eq_true_eq] at q
      have h1 := rdL_lt c len n (p + 1) (v * 10 + c p - 48)
      have h2 : (v * 10 + c p - 48 + 1) * 10 ^ n ≤ ((v + 1) * 10) * 10 ^ n := Nat.mul_le_mul_right _ (by omega)
      have h3 : (v + 1) * 10 ^ (n + 1) = ((v + 1) * 10) * 10 ^ n := by rw [Nat.pow_succ, Nat.mul_assoc, Nat.mul_comm 10]
      omega
    · have : 1 ≤ 10 ^ (n + 1) := Nat.one_le_pow _ _ (by decide)
      show v < (v + 1) * 10 ^ (n + 1)
      exact Nat.lt_of_lt_of_le (Nat.lt_succ_self v) (by have := Nat.mul_le_mul_left (v + 1) this; rwa [Nat.mul_one] at this)
theorem rdM_in {c : Nat → Nat} {len k p : Nat} (hp : p ≤ len) (hk : 1 ≤ k) : p ≤ (rdM c len k p).2 ∧ (rdM c len k p).2 ≤ len ∧ ∀ v, (rdM c len k p).1 = some v → p + 1 ≤ (rdM c len k p).2 ∧ v < 10 ^ k := by
  unfold rdM
  split
  · next q =>
    obtain ⟨m, hm, hmk⟩ : ∃ m, rdK c k p = m + 1 ∧ m + 1 ≤ k := by
      unfold rdK
      split
      · exact ⟨0, rfl, hk⟩
      · exact ⟨k - 1, by omega, by omega⟩
    have h1 := rdL_in c len (rdK c k p) p 0 hp
    refine ⟨h1.1, h1.2, fun v hv => ⟨?_, ?_⟩⟩
    · show p + 1 ≤ (rdL c len (rdK c k p) p 0).2
      rw [hm]
      unfold rdL
      rw [if_pos q]
      simp only [isD, decide_eq_true_eq] at q
      exact (rdL_in c len m (p + 1) _ (by omega)).1
    · have h2 := rdL_lt c len (rdK c k p) p 0
      have h3 : (rdL c len (rdK c k p) p 0).1 = v := Option.some.inj hv
      rw [h3, hm] at h2
      have h4 : 10 ^ (m + 1) ≤ 10 ^ k := Nat.pow_le_pow_right (by decide) hmk
      omega
  · exact ⟨Nat.le_refl _, hp, fun v hv => (by cases hv)⟩
theorem rdW_in {c : Nat → Nat} {len p : Nat} (hp : p ≤ len) : (rdW c len p).2 ≤ len ∧ p ≤ (rdW c len p).2 ∧ ∀ h w, (rdW c len p).1 = some (h, w) → p + 3 ≤ (rdW c len p).2 ∧ h < 1000 ∧ w < 100 := by
  have h1 := rdM_in (c := c) (k := 3) hp (by decide)
  unfold rdW
  rcases e1 : rdM c len 3 p with ⟨o1, p1⟩
  rw [e1] at h1
  cases o1 with
  | none => exact ⟨h1.2.1, h1.1, fun h w q => (by cases q)⟩
  | some h =>
    have h2 := h1.2.2 h rfl
    by_cases q : p1 < len ∧ c p1 = 58
    · simp only [if_pos q]
      have h3 := rdM_in (c := c) (k := 2) (show p1 + 1 ≤ len by omega) (by decide)
      rcases e2 : rdM c len 2 (p1 + 1) with ⟨o2, p2⟩
      rw [e2] at h3
      cases o2 with
      | none => exact ⟨h3.2.1, by have := h3.1; have := h2.1; show p ≤ p2; simp only at *; omega, fun h w q => (by cases q)⟩
      | some w =>
        have h4 := h3.2.2 w rfl
        refine ⟨h3.2.1, by have := h3.1; have := h2.1; show p ≤ p2; simp only at *; omega, fun h' w' q' => ?_⟩
        cases q'
        refine ⟨by have := h4.1; have := h2.1; show p + 3 ≤ p2; simp only at *; omega, by have := h2.2; omega, by have := h4.2; omega⟩
    · simp only [if_neg q]
      exact ⟨h1.2.1, h1.1, fun h w q => (by cases q)⟩
theorem cd_X3_length : kCardV yX3_length cX3_length 1 (some .int) 0 := ⟨⟨wc_X3_length, wi_X3, by decide +kernel, by decide +kernel, rfl⟩, wk_X3_length, ws_X3_length⟩
set_option maxHeartbeats 4000000 in
set_option maxRecDepth 100000 in
theorem c_X3_length (l : Launch) (D : va_G) (tA : Nat → ClassId) (x : Nat → Nat) (c : Nat → Nat) (len p : Nat) (t : Tb)   : Kx l D tA yX3_length cX3_length 1 (some .int) 0 0 [.ref (x 0)] (txW tA x c len p t) (some (.int (nI len))) (txW tA x c len p t) := by
  refine kx_int rfl (Nat.le_of_ble_eq_true rfl) (fun G X E => ?_)
  show J l D G 0 0 (txW tA x c len p t) [(0, .ref (x 0))] 0 []
  refine j_aload_n (pc := 0) X dX3_length_0 rfl (q := 0) rfl ?_
  refine j_get (pc := 1) X (C := RX3) (T := TX3) (N := 4) wz_X3 0 rfl rfl 1 (by decide) wf_X3_24 rfl dX3_length_1 ?_
  exact j_endI (pc := 4) E dX3_length_4 rfl rfl
theorem cd_X3_append : kCardV yX3_append cX3_append 2 (some .boolean) 1 := ⟨⟨wc_X3_append, wi_X3, by decide +kernel, by decide +kernel, rfl⟩, wk_X3_append, ws_X3_append⟩
set_option maxHeartbeats 4000000 in
set_option maxRecDepth 100000 in
theorem c_X3_append (l : Launch) (D : va_G) (tA : Nat → ClassId) (x : Nat → Nat) (c : Nat → Nat) (len p : Nat) (t : Tb) (v : Nat) (hl : len ≤ 60) (hc : ∀ j, c j < 65536) (hp : p ≤ 60) (hv : v < 65536) : Kx l D tA yX3_append cX3_append 2 (some .boolean) 0 0 [.ref (x 0), .int (nI v)] (txW tA x c len p t) (some (.int (bI (decide (len < 60))))) (txW tA x (if len < 60 then va_up c len v else c) (if len < 60 then len + 1 else len) p t) := by
  refine kx_bool rfl (Nat.le_of_ble_eq_true rfl) (fun G X E => ?_)
  show J l D G 0 0 (txW tA x c len p t) [(0, .ref (x 0)), (1, .int (nI v))] 0 []
  refine j_aload_n (pc := 0) X dX3_append_0 rfl (q := 0) rfl ?_
  refine j_get (pc := 1) X (C := RX3) (T := TX3) (N := 4) wz_X3 0 rfl rfl 1 (by decide) wf_X3_24 rfl dX3_append_1 ?_
  refine j_if_lt_f (pc := 4) X (tgt := 19) dX3_append_4 (by decide) (nI_pos (by omega)) ?_
  refine j_aload_n (pc := 7) X dX3_append_7 rfl (q := 0) rfl ?_
  refine j_get (pc := 8) X (C := RX3) (T := TX3) (N := 4) wz_X3 0 rfl rfl 1 (by decide) wf_X3_24 rfl dX3_append_8 ?_
  refine j_aload_n (pc := 11) X dX3_append_11 rfl (q := 0) rfl ?_
  refine j_get (pc := 12) X (C := RX3) (T := TX3) (N := 4) wz_X3 0 rfl rfl 0 (by decide) wf_X3_9 rfl dX3_append_12 ?_
  refine j_alen (pc := 15) X 1 1 rfl rfl dX3_append_15 ?_
  refine j_icmp_lt (pc := 16) X (tgt := 21) (P := len < 60) dX3_append_16 (by decide) (nI_ltI (by omega) (by omega)) (fun h16 => ?_) (fun h16 => ?_)
  · skip
    refine j_aload_n (pc := 21) X dX3_append_21 rfl (q := 0) rfl ?_
    refine j_get (pc := 22) X (C := RX3) (T := TX3) (N := 4) wz_X3 0 rfl rfl 0 (by decide) wf_X3_9 rfl dX3_append_22 ?_
    refine j_aload_n (pc := 25) X dX3_append_25 rfl (q := 0) rfl ?_
    refine j_get (pc := 26) X (C := RX3) (T := TX3) (N := 4) wz_X3 0 rfl rfl 1 (by decide) wf_X3_24 rfl dX3_append_26 ?_
    refine j_iload_n (pc := 29) X dX3_append_29 rfl (q := 1) rfl ?_
    refine j_cast (pc := 30) X 1 (i := len) (v := v) rfl (by omega) (by omega) (by omega) (w' := (txW tA x (va_up c len v) len p t)) rfl dX3_append_30 ?_
    refine j_aload_n (pc := 31) X dX3_append_31 rfl (q := 0) rfl ?_
    refine j_dup (pc := 32) X dX3_append_32 rfl ?_
    refine j_get (pc := 33) X (C := RX3) (T := TX3) (N := 4) wz_X3 0 rfl rfl 1 (by decide) wf_X3_24 rfl dX3_append_33 ?_
    refine j_iconst (pc := 36) X (v := (nI 1)) dX3_append_36 (by decide) ?_
    refine j_iadd (pc := 37) X (v := (nI (len + 1))) dX3_append_37 (nI_add _ _) ?_
    refine j_put (pc := 38) X (C := RX3) (T := TX3) (N := 4) wz_X3 tyX3 tyX3_ok nmX3 0 rfl rfl 1 (by decide) wf_X3_24 rfl rfl rfl (Nat.le_of_ble_eq_true rfl) (w' := (txW tA x (va_up c len v) (len + 1) p t)) rfl dX3_append_38 ?_
    refine j_iconst (pc := 41) X (v := (nI 1)) dX3_append_41 (by decide) ?_
    exact j_endI (pc := 42) E dX3_append_42 (bI_t (by simp only [decide_eq_true_eq]; omega)) (by rw [if_pos h16, if_pos h16])
  · skip
    refine j_iconst (pc := 19) X (v := (nI 0)) dX3_append_19 (by decide) ?_
    exact j_endI (pc := 20) E dX3_append_20 (bI_f (by simp only [decide_eq_false_iff_not]; omega)) (by rw [if_neg h16, if_neg h16])
theorem cd_X3_empty : kCardV yX3_empty cX3_empty 1 none 0 := ⟨⟨wc_X3_empty, wi_X3, by decide +kernel, by decide +kernel, rfl⟩, wk_X3_empty, ws_X3_empty⟩
set_option maxHeartbeats 4000000 in
set_option maxRecDepth 100000 in
theorem c_X3_empty (l : Launch) (D : va_G) (tA : Nat → ClassId) (x : Nat → Nat) (c : Nat → Nat) (len p : Nat) (t : Tb)   : Kx l D tA yX3_empty cX3_empty 1 none 0 0 [.ref (x 0)] (txW tA x c len p t) none (txW tA x c 0 p t) := by
  refine kx_void rfl (Nat.le_of_ble_eq_true rfl) (fun G X E => ?_)
  show J l D G 0 0 (txW tA x c len p t) [(0, .ref (x 0))] 0 []
  refine j_aload_n (pc := 0) X dX3_empty_0 rfl (q := 0) rfl ?_
  refine j_iconst (pc := 1) X (v := (nI 0)) dX3_empty_1 (by decide) ?_
  refine j_put (pc := 2) X (C := RX3) (T := TX3) (N := 4) wz_X3 tyX3 tyX3_ok nmX3 0 rfl rfl 1 (by decide) wf_X3_24 rfl rfl rfl (Nat.le_of_ble_eq_true rfl) (w' := (txW tA x c 0 p t)) rfl dX3_empty_2 ?_
  exact j_endV (pc := 5) E dX3_empty_5 rfl
theorem cd_X3_isDigit : kCardS yX3_isDigit cX3_isDigit 1 (some .boolean) 1 := ⟨⟨wc_X3_isDigit, wi_X3, by decide +kernel, by decide +kernel, rfl⟩, wt_X3_isDigit⟩
set_option maxHeartbeats 4000000 in
set_option maxRecDepth 100000 in
theorem c_X3_isDigit (l : Launch) (D : va_G) (tA : Nat → ClassId) (x : Int32)  : Kx l D tA yX3_isDigit cX3_isDigit 1 (some .boolean) 0 0 [.int x] ([] : va_W) (some (.int (bI (dgt x)))) ([] : va_W) := by
  refine kx_bool rfl (Nat.le_of_ble_eq_true rfl) (fun G X E => ?_)
  show J l D G 0 0 ([] : va_W) [(0, .int x)] 0 []
  refine j_iload_n (pc := 0) X dX3_isDigit_0 rfl (q := 0) rfl ?_
  refine j_bipush (pc := 1) X (v := (nI 48)) dX3_isDigit_1 (by decide) ?_
  refine j_icmp_lt (pc := 3) X (tgt := 16) (P := x.toInt < ((48 : Nat) : Int)) dX3_isDigit_3 (by decide) (iC_ltn (by omega)) (fun h3 => ?_) (fun h3 => ?_)
  · skip
    refine j_iconst (pc := 16) X (v := (nI 0)) dX3_isDigit_16 (by decide) ?_
    exact j_endI (pc := 17) E dX3_isDigit_17 (bI_f (by simp only [dgt, decide_eq_false_iff_not]; omega)) rfl
  · skip
    refine j_iload_n (pc := 6) X dX3_isDigit_6 rfl (q := 0) rfl ?_
    refine j_bipush (pc := 7) X (v := (nI 57)) dX3_isDigit_7 (by decide) ?_
    refine j_icmp_gt (pc := 9) X (tgt := 16) (P := ((57 : Nat) : Int) < x.toInt) dX3_isDigit_9 (by decide) (iC_gtn (by omega)) (fun h9 => ?_) (fun h9 => ?_)
    · skip
      refine j_iconst (pc := 16) X (v := (nI 0)) dX3_isDigit_16 (by decide) ?_
      exact j_endI (pc := 17) E dX3_isDigit_17 (bI_f (by simp only [dgt, decide_eq_false_iff_not]; omega)) rfl
    · skip
      refine j_iconst (pc := 12) X (v := (nI 1)) dX3_isDigit_12 (by decide) ?_
      refine j_goto (pc := 13) X (tgt := 17) dX3_isDigit_13 (by decide) ?_
      exact j_endI (pc := 17) E dX3_isDigit_17 (bI_t (by simp only [dgt, decide_eq_true_eq]; omega)) rfl
theorem cd_X3_sign : kCardV yX3_sign cX3_sign 1 (some .int) 0 := ⟨⟨wc_X3_sign, wi_X3, by decide +kernel, by decide +kernel, rfl⟩, wk_X3_sign, ws_X3_sign⟩
set_option maxHeartbeats 4000000 in
set_option maxRecDepth 100000 in
theorem c_X3_sign (l : Launch) (D : va_G) (tA : Nat → ClassId) (x : Nat → Nat) (c : Nat → Nat) (len p : Nat) (t : Tb)  (hl : len ≤ 60) (hc : ∀ j, c j < 65536) (hp : p ≤ len) : Kx l D tA yX3_sign cX3_sign 1 (some .int) 0 0 [.ref (x 0)] (txW tA x c len p t) (some (.int (nI (sgN c len p)))) (txW tA x c len p t) := by
  refine kx_int rfl (Nat.le_of_ble_eq_true rfl) (fun G X E => ?_)
  show J l D G 0 0 (txW tA x c len p t) [(0, .ref (x 0))] 0 []
  refine j_aload_n (pc := 0) X dX3_sign_0 rfl (q := 0) rfl ?_
  refine j_get (pc := 1) X (C := RX3) (T := TX3) (N := 4) wz_X3 0 rfl rfl 2 (by decide) wf_X3_31 rfl dX3_sign_1 ?_
  refine j_if_lt_f (pc := 4) X (tgt := 30) dX3_sign_4 (by decide) (nI_pos (by omega)) ?_
  refine j_aload_n (pc := 7) X dX3_sign_7 rfl (q := 0) rfl ?_
  refine j_get (pc := 8) X (C := RX3) (T := TX3) (N := 4) wz_X3 0 rfl rfl 2 (by decide) wf_X3_31 rfl dX3_sign_8 ?_
  refine j_aload_n (pc := 11) X dX3_sign_11 rfl (q := 0) rfl ?_
  refine j_get (pc := 12) X (C := RX3) (T := TX3) (N := 4) wz_X3 0 rfl rfl 1 (by decide) wf_X3_24 rfl dX3_sign_12 ?_
  refine j_icmp_ge (pc := 15) X (tgt := 30) (P := len ≤ p) dX3_sign_15 (by decide) (nI_leI (by omega) (by omega)) (fun h15 => ?_) (fun h15 => ?_)
  · skip
    refine j_iconst (pc := 30) X (v := (-1)) dX3_sign_30 (by decide) ?_
    exact j_endI (pc := 31) E dX3_sign_31 (by rw [sgN, if_neg (by omega)]; decide +kernel) rfl
  · skip
    refine j_aload_n (pc := 18) X dX3_sign_18 rfl (q := 0) rfl ?_
    refine j_get (pc := 19) X (C := RX3) (T := TX3) (N := 4) wz_X3 0 rfl rfl 2 (by decide) wf_X3_31 rfl dX3_sign_19 ?_
    refine j_aload_n (pc := 22) X dX3_sign_22 rfl (q := 0) rfl ?_
    refine j_get (pc := 23) X (C := RX3) (T := TX3) (N := 4) wz_X3 0 rfl rfl 0 (by decide) wf_X3_9 rfl dX3_sign_23 ?_
    refine j_alen (pc := 26) X 1 1 rfl rfl dX3_sign_26 ?_
    refine j_icmp_lt_t (pc := 27) X (tgt := 32) dX3_sign_27 (by decide) (nI_lt (show p < 60 by omega) (by omega)) ?_
    refine j_aload_n (pc := 32) X dX3_sign_32 rfl (q := 0) rfl ?_
    refine j_get (pc := 33) X (C := RX3) (T := TX3) (N := 4) wz_X3 0 rfl rfl 0 (by decide) wf_X3_9 rfl dX3_sign_33 ?_
    refine j_aload_n (pc := 36) X dX3_sign_36 rfl (q := 0) rfl ?_
    refine j_get (pc := 37) X (C := RX3) (T := TX3) (N := 4) wz_X3 0 rfl rfl 2 (by decide) wf_X3_31 rfl dX3_sign_37 ?_
    refine j_cald (pc := 40) X 1 (i := p) rfl (by omega) (by omega) dX3_sign_40 ?_
    exact j_endI (pc := 41) E dX3_sign_41 (by rw [sgN, if_pos (by omega)]) rfl
theorem sg_eq {c : Nat → Nat} (hc : ∀ j, c j < 65536) {len p v : Nat} (hv : v < 65536) : nI (sgN c len p) = nI v ↔ (p < len ∧ c p = v) := by
  have := hc p
  have e : sgN c len p < 2 ^ 32 := by unfold sgN; split <;> omega
  rw [nI_eq32 e (by omega)]
  unfold sgN
  split
  · next h => exact ⟨fun q => ⟨h, q⟩, fun q => q.2⟩
  · next h => exact ⟨fun q => by omega, fun q => absurd q.1 h⟩
def sgnB (c : Nat → Nat) (len p v : Nat) : Bool := decide (p < len ∧ c p = v)
theorem cd_X3_readSign : kCardV yX3_readSign cX3_readSign 2 (some .boolean) 1 := ⟨⟨wc_X3_readSign, wi_X3, by decide +kernel, by decide +kernel, rfl⟩, wk_X3_readSign, ws_X3_readSign⟩
set_option maxHeartbeats 4000000 in
set_option maxRecDepth 100000 in
theorem c_X3_readSign (l : Launch) (D : va_G) (tA : Nat → ClassId) (x : Nat → Nat) (c : Nat → Nat) (len p : Nat) (t : Tb) (v : Nat) (hl : len ≤ 60) (hc : ∀ j, c j < 65536) (hp : p ≤ len) (hv : v < 65536) : Kx l D tA yX3_readSign cX3_readSign 2 (some .boolean) 1 20 [.ref (x 0), .int (nI v)] (txW tA x c len p t) (some (.int (bI (sgnB c len p v)))) (txW tA x c len (if sgnB c len p v = true then p + 1 else p) t) := by
  refine kx_bool rfl (Nat.le_of_ble_eq_true rfl) (fun G X E => ?_)
  show J l D G 0 0 (txW tA x c len p t) [(0, .ref (x 0)), (1, .int (nI v))] 0 []
  refine j_aload_n (pc := 0) X dX3_readSign_0 rfl (q := 0) rfl ?_
  refine j_callVR (pc := 1) X (st := [])  (c_X3_sign l D tA x c len p t  (by first | assumption | omega | decide) (by first | assumption | omega | decide) (by first | assumption | omega | decide)) cd_X3_sign wm_X3_50 0 rfl rfl rfl [0, 1, 2, 3] rfl rfl ⟨Nat.le_of_ble_eq_true rfl, Nat.le_of_ble_eq_true rfl⟩ ⟨Nat.zero_le _, Nat.zero_le _⟩ rfl (Nat.le_of_ble_eq_true rfl) dX3_readSign_1 ?_
  refine j_iload_n (pc := 4) X dX3_readSign_4 rfl (q := 1) rfl ?_
  refine j_icmp_eq (pc := 5) X (tgt := 10) (P := p < len ∧ c p = v) dX3_readSign_5 (by decide) (sg_eq hc hv) (fun h5 => ?_) (fun h5 => ?_)
  · skip
    refine j_aload_n (pc := 10) X dX3_readSign_10 rfl (q := 0) rfl ?_
    refine j_dup (pc := 11) X dX3_readSign_11 rfl ?_
    refine j_get (pc := 12) X (C := RX3) (T := TX3) (N := 4) wz_X3 0 rfl rfl 2 (by decide) wf_X3_31 rfl dX3_readSign_12 ?_
    refine j_iconst (pc := 15) X (v := (nI 1)) dX3_readSign_15 (by decide) ?_
    refine j_iadd (pc := 16) X (v := (nI (p + 1))) dX3_readSign_16 (nI_add _ _) ?_
    refine j_put (pc := 17) X (C := RX3) (T := TX3) (N := 4) wz_X3 tyX3 tyX3_ok nmX3 0 rfl rfl 2 (by decide) wf_X3_31 rfl rfl rfl (Nat.le_of_ble_eq_true rfl) (w' := (txW tA x c len (p + 1) t)) rfl dX3_readSign_17 ?_
    refine j_iconst (pc := 20) X (v := (nI 1)) dX3_readSign_20 (by decide) ?_
    exact j_endI (pc := 21) E dX3_readSign_21 (bI_t (by simp only [sgnB, decide_eq_true_eq]; exact h5)) (by rw [if_pos (by simp only [sgnB, decide_eq_true_eq]; exact h5)])
  · skip
    refine j_iconst (pc := 8) X (v := (nI 0)) dX3_readSign_8 (by decide) ?_
    exact j_endI (pc := 9) E dX3_readSign_9 (bI_f (by simp only [sgnB, decide_eq_false_iff_not]; exact h5)) (by rw [if_neg (by simp only [sgnB, decide_eq_true_eq]; exact h5)])
theorem cd_X3_readNumber : kCardV yX3_readNumber cX3_readNumber 5 (some .int) 1 := ⟨⟨wc_X3_readNumber, wi_X3, by decide +kernel, by decide +kernel, rfl⟩, wk_X3_readNumber, ws_X3_readNumber⟩
set_option maxHeartbeats 4000000 in
set_option maxRecDepth 100000 in
theorem c_X3_readNumber (l : Launch) (D : va_G) (tA : Nat → ClassId) (x : Nat → Nat) (c : Nat → Nat) (len p : Nat) (t : Tb) (k : Nat) (hl : len ≤ 60) (hc : ∀ j, c j < 65536) (hp : p ≤ len) (hk : k ≤ 3) : Kx l D tA yX3_readNumber cX3_readNumber 5 (some .int) 1 20 [.ref (x 0), .int (nI k)] (txW tA x c len p t) (some (.int (rN ((rdM c len k p).1)))) (txW tA x c len ((rdM c len k p).2) t) := by
  refine kx_int rfl (Nat.le_of_ble_eq_true rfl) (fun G X E => ?_)
  show J l D G 0 0 (txW tA x c len p t) [(0, .ref (x 0)), (1, .int (nI k))] 0 []
  refine j_aload_n (pc := 0) X dX3_readNumber_0 rfl (q := 0) rfl ?_
  refine j_callVR (pc := 1) X (st := [])  (c_X3_sign l D tA x c len p t  (by first | assumption | omega | decide) (by first | assumption | omega | decide) (by first | assumption | omega | decide)) cd_X3_sign wm_X3_50 0 rfl rfl rfl [0, 1, 2, 3] rfl rfl ⟨Nat.le_of_ble_eq_true rfl, Nat.le_of_ble_eq_true rfl⟩ ⟨Nat.zero_le _, Nat.zero_le _⟩ rfl (Nat.le_of_ble_eq_true rfl) dX3_readNumber_1 ?_
  refine j_callSR (pc := 4) X (st := [])  (c_X3_isDigit l D tA (nI (sgN c len p))) cd_X3_isDigit wm_X3_53 rfl [] rfl rfl ⟨Nat.le_of_ble_eq_true rfl, Nat.le_of_ble_eq_true rfl⟩ ⟨Nat.zero_le _, Nat.zero_le _⟩ rfl (Nat.le_of_ble_eq_true rfl) dX3_readNumber_4 ?_
  refine j_if_ne (pc := 7) X (tgt := 12) (P := isD c len p = true) dX3_readNumber_7 (by decide) ((bI_n0 _).trans (by rw [dgt_sg hc])) (fun h7 => ?_) (fun h7 => ?_)
  · skip
    have hd7 : p < len ∧ 48 ≤ c p ∧ c p ≤ 57 := by simpa only [isD, decide_eq_true_eq] using h7
    refine j_aload_n (pc := 12) X dX3_readNumber_12 rfl (q := 0) rfl ?_
    refine j_callVR (pc := 13) X (st := [])  (c_X3_sign l D tA x c len p t  (by first | assumption | omega | decide) (by first | assumption | omega | decide) (by first | assumption | omega | decide)) cd_X3_sign wm_X3_50 0 rfl rfl rfl [0, 1, 2, 3] rfl rfl ⟨Nat.le_of_ble_eq_true rfl, Nat.le_of_ble_eq_true rfl⟩ ⟨Nat.zero_le _, Nat.zero_le _⟩ rfl (Nat.le_of_ble_eq_true rfl) dX3_readNumber_13 ?_
    refine j_bipush (pc := 16) X (v := (nI 48)) dX3_readNumber_16 (by decide) ?_
    refine j_icmp_ne (pc := 18) X (tgt := 25) (P := ¬ c p = 48) dX3_readNumber_18 (by decide) (not_congr ((sg_eq hc (by decide)).trans (and_iff_right (by omega)))) (fun h18 => ?_) (fun h18 => ?_)
    · skip
      refine j_iload_n (pc := 25) X dX3_readNumber_25 rfl (q := 1) rfl ?_
      refine j_top (v' := nI (rdK c k p)) (by rw [rdK, if_neg h18]) ?_
      refine j_istore_n (pc := 26) X (lv' := [(2, .int (nI (rdK c k p))), (0, .ref (x 0)), (1, .int (nI k))]) dX3_readNumber_26 rfl (by decide) rfl ?_
      refine j_iconst (pc := 27) X (v := (nI 0)) dX3_readNumber_27 (by decide) ?_
      refine j_istore_n (pc := 28) X (lv' := [(3, .int (nI 0)), (2, .int (nI (rdK c k p))), (0, .ref (x 0)), (1, .int (nI k))]) dX3_readNumber_28 rfl (by decide) rfl ?_
      refine j_iconst (pc := 29) X (v := (nI 0)) dX3_readNumber_29 (by decide) ?_
      refine j_istore (pc := 30) X (lv' := [(4, .int (nI 0)), (3, .int (nI 0)), (2, .int (nI (rdK c k p))), (0, .ref (x 0)), (1, .int (nI k))]) dX3_readNumber_30 (by decide) rfl ?_
      have L_32 : ∀ (fu : Nat) (i q v : Nat), i ≤ rdK c k p → q ≤ len → rdL c len (rdK c k p - i) q v = rdL c len (rdK c k p) p 0 → rdK c k p - i < fu → J l D G 0 0 (txW tA x c len q t) [(0, .ref (x 0)), (1, .int (nI k)), (2, .int (nI (rdK c k p))), (3, .int (nI v)), (4, .int (nI i))] 32 [] := by
        intro fu
        induction fu with
        | zero => intro i q v hi hq hk2 hfu; exact absurd hfu (Nat.not_lt_zero _)
        | succ fu ih_32 =>
          intro i q v hi hq hk2 hfu
          refine j_iload (pc := 32) X dX3_readNumber_32 (q := 4) rfl ?_
          have hk3 : rdK c k p ≤ 3 := by unfold rdK; split <;> omega
          refine j_iload_n (pc := 34) X dX3_readNumber_34 rfl (q := 2) rfl ?_
          refine j_icmp_ge (pc := 35) X (tgt := 77) (P := (rdK c k p) ≤ i) dX3_readNumber_35 (by decide) (nI_leI (by omega) (by omega)) (fun h35 => ?_) (fun h35 => ?_)
          · skip
            refine j_iload_n (pc := 77) X dX3_readNumber_77 rfl (q := 3) rfl ?_
            exact j_endI (pc := 78) E dX3_readNumber_78 (by rw [rdM, if_pos h7, ← hk2, show rdK c k p - i = 0 by omega]; rfl) (by rw [rdM, if_pos h7, ← hk2, show rdK c k p - i = 0 by omega]; rfl)
          · skip
            refine j_aload_n (pc := 38) X dX3_readNumber_38 rfl (q := 0) rfl ?_
            refine j_callVR (pc := 39) X (st := [])  (c_X3_sign l D tA x c len q t  hl hc (by omega)) cd_X3_sign wm_X3_50 0 rfl rfl rfl [0, 1, 2, 3] rfl rfl ⟨Nat.le_of_ble_eq_true rfl, Nat.le_of_ble_eq_true rfl⟩ ⟨Nat.zero_le _, Nat.zero_le _⟩ rfl (Nat.le_of_ble_eq_true rfl) dX3_readNumber_39 ?_
            refine j_callSR (pc := 42) X (st := [])  (c_X3_isDigit l D tA (nI (sgN c len q))) cd_X3_isDigit wm_X3_53 rfl [] rfl rfl ⟨Nat.le_of_ble_eq_true rfl, Nat.le_of_ble_eq_true rfl⟩ ⟨Nat.zero_le _, Nat.zero_le _⟩ rfl (Nat.le_of_ble_eq_true rfl) dX3_readNumber_42 ?_
            refine j_if_eq (pc := 45) X (tgt := 77) (P := isD c len q = false) dX3_readNumber_45 (by decide) ((bI_0 _).trans (by rw [dgt_sg hc])) (fun h45 => ?_) (fun h45 => ?_)
            · skip
              refine j_iload_n (pc := 77) X dX3_readNumber_77 rfl (q := 3) rfl ?_
              exact j_endI (pc := 78) E dX3_readNumber_78 (by rw [rdM, if_pos h7, ← hk2, show rdK c k p - i = (rdK c k p - (i + 1)) + 1 by omega, rdL, if_neg (by rw [h45]; decide)]; rfl) (by rw [rdM, if_pos h7, ← hk2, show rdK c k p - i = (rdK c k p - (i + 1)) + 1 by omega, rdL, if_neg (by rw [h45]; decide)])
            · skip
              have h45 := t5 h45
              have hd45 : q < len ∧ 48 ≤ c q ∧ c q ≤ 57 := by simpa only [isD, decide_eq_true_eq] using h45
              refine j_iload_n (pc := 48) X dX3_readNumber_48 rfl (q := 3) rfl ?_
              refine j_bipush (pc := 49) X (v := (nI 10)) dX3_readNumber_49 (by decide) ?_
              refine j_imul (pc := 51) X (v := (nI (v * 10))) dX3_readNumber_51 (pk_mul _ _) ?_
              refine j_aload_n (pc := 52) X dX3_readNumber_52 rfl (q := 0) rfl ?_
              refine j_callVR (pc := 53) X (st := [.int (nI (v * 10))])  (c_X3_sign l D tA x c len q t  hl hc (by omega)) cd_X3_sign wm_X3_50 0 rfl rfl rfl [0, 1, 2, 3] rfl rfl ⟨Nat.le_of_ble_eq_true rfl, Nat.le_of_ble_eq_true rfl⟩ ⟨Nat.zero_le _, Nat.zero_le _⟩ rfl (Nat.le_of_ble_eq_true rfl) dX3_readNumber_53 ?_
              rw [show sgN c len q = c q from by rw [sgN, if_pos (by omega)]]
              refine j_iadd (pc := 56) X (v := (nI ((v * 10) + (c q)))) dX3_readNumber_56 (nI_add _ _) ?_
              refine j_bipush (pc := 57) X (v := (nI 48)) dX3_readNumber_57 (by decide) ?_
              refine j_isub (pc := 59) X (v := (nI (((v * 10) + (c q)) - 48))) dX3_readNumber_59 (pk_sub (by omega)) ?_
              refine j_istore_n (pc := 60) X (lv' := [(3, .int (nI (((v * 10) + (c q)) - 48))), (0, .ref (x 0)), (1, .int (nI k)), (2, .int (nI (rdK c k p))), (4, .int (nI i))]) dX3_readNumber_60 rfl (by decide) rfl ?_
              refine j_aload_n (pc := 61) X dX3_readNumber_61 rfl (q := 1) rfl ?_
              refine j_dup (pc := 62) X dX3_readNumber_62 rfl ?_
              refine j_get (pc := 63) X (C := RX3) (T := TX3) (N := 4) wz_X3 0 rfl rfl 2 (by decide) wf_X3_31 rfl dX3_readNumber_63 ?_
              refine j_iconst (pc := 66) X (v := (nI 1)) dX3_readNumber_66 (by decide) ?_
              refine j_iadd (pc := 67) X (v := (nI (q + 1))) dX3_readNumber_67 (nI_add _ _) ?_
              refine j_put (pc := 68) X (C := RX3) (T := TX3) (N := 4) wz_X3 tyX3 tyX3_ok nmX3 0 rfl rfl 2 (by decide) wf_X3_31 rfl rfl rfl (Nat.le_of_ble_eq_true rfl) (w' := (txW tA x c len (q + 1) t)) rfl dX3_readNumber_68 ?_
              refine j_iinc (pc := 71) X (v := (nI (i + 1))) (lv' := [(4, .int (nI (i + 1))), (3, .int (nI (((v * 10) + (c q)) - 48))), (0, .ref (x 0)), (1, .int (nI k)), (2, .int (nI (rdK c k p)))]) dX3_readNumber_71 (q := 4) rfl (nI_add _ _) (by decide) rfl ?_
              refine j_goto (pc := 74) X (tgt := 32) dX3_readNumber_74 (by decide) ?_
              refine j_lv X (lv' := [(0, .ref (x 0)), (1, .int (nI k)), (2, .int (nI (rdK c k p))), (3, .int (nI (((v * 10) + (c q)) - 48))), (4, .int (nI (i + 1)))]) [2, 3, 4, 1, 0] rfl ?_
              exact ih_32 (i + 1) (q + 1) (v * 10 + c q - 48) (by omega) (by omega) (by rw [← hk2, show rdK c k p - i = (rdK c k p - (i + 1)) + 1 by omega, rdL, if_pos h45]) (by omega)
      refine j_lv X (lv' := [(0, .ref (x 0)), (1, .int (nI k)), (2, .int (nI (rdK c k p))), (3, .int (nI 0)), (4, .int (nI 0))]) [3, 4, 2, 1, 0] rfl ?_
      exact L_32 _ 0 p 0 (Nat.zero_le _) hp rfl (Nat.lt_succ_self _)
    · skip
      refine j_iconst (pc := 21) X (v := (nI 1)) dX3_readNumber_21 (by decide) ?_
      refine j_goto (pc := 22) X (tgt := 26) dX3_readNumber_22 (by decide) ?_
      refine j_top (v' := nI (rdK c k p)) (by rw [rdK, if_pos (Decidable.not_not.mp h18)]) ?_
      refine j_istore_n (pc := 26) X (lv' := [(2, .int (nI (rdK c k p))), (0, .ref (x 0)), (1, .int (nI k))]) dX3_readNumber_26 rfl (by decide) rfl ?_
      refine j_iconst (pc := 27) X (v := (nI 0)) dX3_readNumber_27 (by decide) ?_
      refine j_istore_n (pc := 28) X (lv' := [(3, .int (nI 0)), (2, .int (nI (rdK c k p))), (0, .ref (x 0)), (1, .int (nI k))]) dX3_readNumber_28 rfl (by decide) rfl ?_
      refine j_iconst (pc := 29) X (v := (nI 0)) dX3_readNumber_29 (by decide) ?_
      refine j_istore (pc := 30) X (lv' := [(4, .int (nI 0)), (3, .int (nI 0)), (2, .int (nI (rdK c k p))), (0, .ref (x 0)), (1, .int (nI k))]) dX3_readNumber_30 (by decide) rfl ?_
      have L_32 : ∀ (fu : Nat) (i q v : Nat), i ≤ rdK c k p → q ≤ len → rdL c len (rdK c k p - i) q v = rdL c len (rdK c k p) p 0 → rdK c k p - i < fu → J l D G 0 0 (txW tA x c len q t) [(0, .ref (x 0)), (1, .int (nI k)), (2, .int (nI (rdK c k p))), (3, .int (nI v)), (4, .int (nI i))] 32 [] := by
        intro fu
        induction fu with
        | zero => intro i q v hi hq hk2 hfu; exact absurd hfu (Nat.not_lt_zero _)
        | succ fu ih_32 =>
          intro i q v hi hq hk2 hfu
          refine j_iload (pc := 32) X dX3_readNumber_32 (q := 4) rfl ?_
          have hk3 : rdK c k p ≤ 3 := by unfold rdK; split <;> omega
          refine j_iload_n (pc := 34) X dX3_readNumber_34 rfl (q := 2) rfl ?_
          refine j_icmp_ge (pc := 35) X (tgt := 77) (P := (rdK c k p) ≤ i) dX3_readNumber_35 (by decide) (nI_leI (by omega) (by omega)) (fun h35 => ?_) (fun h35 => ?_)
          · skip
            refine j_iload_n (pc := 77) X dX3_readNumber_77 rfl (q := 3) rfl ?_
            exact j_endI (pc := 78) E dX3_readNumber_78 (by rw [rdM, if_pos h7, ← hk2, show rdK c k p - i = 0 by omega]; rfl) (by rw [rdM, if_pos h7, ← hk2, show rdK c k p - i = 0 by omega]; rfl)
          · skip
            refine j_aload_n (pc := 38) X dX3_readNumber_38 rfl (q := 0) rfl ?_
            refine j_callVR (pc := 39) X (st := [])  (c_X3_sign l D tA x c len q t  hl hc (by omega)) cd_X3_sign wm_X3_50 0 rfl rfl rfl [0, 1, 2, 3] rfl rfl ⟨Nat.le_of_ble_eq_true rfl, Nat.le_of_ble_eq_true rfl⟩ ⟨Nat.zero_le _, Nat.zero_le _⟩ rfl (Nat.le_of_ble_eq_true rfl) dX3_readNumber_39 ?_
            refine j_callSR (pc := 42) X (st := [])  (c_X3_isDigit l D tA (nI (sgN c len q))) cd_X3_isDigit wm_X3_53 rfl [] rfl rfl ⟨Nat.le_of_ble_eq_true rfl, Nat.le_of_ble_eq_true rfl⟩ ⟨Nat.zero_le _, Nat.zero_le _⟩ rfl (Nat.le_of_ble_eq_true rfl) dX3_readNumber_42 ?_
            refine j_if_eq (pc := 45) X (tgt := 77) (P := isD c len q = false) dX3_readNumber_45 (by decide) ((bI_0 _).trans (by rw [dgt_sg hc])) (fun h45 => ?_) (fun h45 => ?_)
            · skip
              refine j_iload_n (pc := 77) X dX3_readNumber_77 rfl (q := 3) rfl ?_
              exact j_endI (pc := 78) E dX3_readNumber_78 (by rw [rdM, if_pos h7, ← hk2, show rdK c k p - i = (rdK c k p - (i + 1)) + 1 by omega, rdL, if_neg (by rw [h45]; decide)]; rfl) (by rw [rdM, if_pos h7, ← hk2, show rdK c k p - i = (rdK c k p - (i + 1)) + 1 by omega, rdL, if_neg (by rw [h45]; decide)])
            · skip
              have h45 := t5 h45
              have hd45 : q < len ∧ 48 ≤ c q ∧ c q ≤ 57 := by simpa only [isD, decide_eq_true_eq] using h45
              refine j_iload_n (pc := 48) X dX3_readNumber_48 rfl (q := 3) rfl ?_
              refine j_bipush (pc := 49) X (v := (nI 10)) dX3_readNumber_49 (by decide) ?_
              refine j_imul (pc := 51) X (v := (nI (v * 10))) dX3_readNumber_51 (pk_mul _ _) ?_
              refine j_aload_n (pc := 52) X dX3_readNumber_52 rfl (q := 0) rfl ?_
              refine j_callVR (pc := 53) X (st := [.int (nI (v * 10))])  (c_X3_sign l D tA x c len q t  hl hc (by omega)) cd_X3_sign wm_X3_50 0 rfl rfl rfl [0, 1, 2, 3] rfl rfl ⟨Nat.le_of_ble_eq_true rfl, Nat.le_of_ble_eq_true rfl⟩ ⟨Nat.zero_le _, Nat.zero_le _⟩ rfl (Nat.le_of_ble_eq_true rfl) dX3_readNumber_53 ?_
              rw [show sgN c len q = c q from by rw [sgN, if_pos (by omega)]]
              refine j_iadd (pc := 56) X (v := (nI ((v * 10) + (c q)))) dX3_readNumber_56 (nI_add _ _) ?_
              refine j_bipush (pc := 57) X (v := (nI 48)) dX3_readNumber_57 (by decide) ?_
              refine j_isub (pc := 59) X (v := (nI (((v * 10) + (c q)) - 48))) dX3_readNumber_59 (pk_sub (by omega)) ?_
              refine j_istore_n (pc := 60) X (lv' := [(3, .int (nI (((v * 10) + (c q)) - 48))), (0, .ref (x 0)), (1, .int (nI k)), (2, .int (nI (rdK c k p))), (4, .int (nI i))]) dX3_readNumber_60 rfl (by decide) rfl ?_
              refine j_aload_n (pc := 61) X dX3_readNumber_61 rfl (q := 1) rfl ?_
              refine j_dup (pc := 62) X dX3_readNumber_62 rfl ?_
              refine j_get (pc := 63) X (C := RX3) (T := TX3) (N := 4) wz_X3 0 rfl rfl 2 (by decide) wf_X3_31 rfl dX3_readNumber_63 ?_
              refine j_iconst (pc := 66) X (v := (nI 1)) dX3_readNumber_66 (by decide) ?_
              refine j_iadd (pc := 67) X (v := (nI (q + 1))) dX3_readNumber_67 (nI_add _ _) ?_
              refine j_put (pc := 68) X (C := RX3) (T := TX3) (N := 4) wz_X3 tyX3 tyX3_ok nmX3 0 rfl rfl 2 (by decide) wf_X3_31 rfl rfl rfl (Nat.le_of_ble_eq_true rfl) (w' := (txW tA x c len (q + 1) t)) rfl dX3_readNumber_68 ?_
              refine j_iinc (pc := 71) X (v := (nI (i + 1))) (lv' := [(4, .int (nI (i + 1))), (3, .int (nI (((v * 10) + (c q)) - 48))), (0, .ref (x 0)), (1, .int (nI k)), (2, .int (nI (rdK c k p)))]) dX3_readNumber_71 (q := 4) rfl (nI_add _ _) (by decide) rfl ?_
              refine j_goto (pc := 74) X (tgt := 32) dX3_readNumber_74 (by decide) ?_
              refine j_lv X (lv' := [(0, .ref (x 0)), (1, .int (nI k)), (2, .int (nI (rdK c k p))), (3, .int (nI (((v * 10) + (c q)) - 48))), (4, .int (nI (i + 1)))]) [2, 3, 4, 1, 0] rfl ?_
              exact ih_32 (i + 1) (q + 1) (v * 10 + c q - 48) (by omega) (by omega) (by rw [← hk2, show rdK c k p - i = (rdK c k p - (i + 1)) + 1 by omega, rdL, if_pos h45]) (by omega)
      refine j_lv X (lv' := [(0, .ref (x 0)), (1, .int (nI k)), (2, .int (nI (rdK c k p))), (3, .int (nI 0)), (4, .int (nI 0))]) [3, 4, 2, 1, 0] rfl ?_
      exact L_32 _ 0 p 0 (Nat.zero_le _) hp rfl (Nat.lt_succ_self _)
  · skip
    refine j_iconst (pc := 10) X (v := (-1)) dX3_readNumber_10 (by decide) ?_
    exact j_endI (pc := 11) E dX3_readNumber_11 (by rw [rdM, if_neg h7]; rfl) (by rw [rdM, if_neg h7])
theorem prs_no {c : Nat → Nat} {len n p q : Nat} {t : Tb} (e : rdW c len p = (none, q)) : prs c len (n + 1) p t = (some q, q, t) := by
  unfold prs; rw [e]
theorem prs_end {c : Nat → Nat} {len n p q h w : Nat} {t : Tb} (e : rdW c len p = (some (h, w), q)) (hq : len ≤ q) : prs c len (n + 1) p t = (none, q, tSet 2 (tSet 2 (tAdd 2 t) t.1 0 h) t.1 1 w) := by
  unfold prs; rw [e]; exact if_pos hq
theorem prs_go {c : Nat → Nat} {len n p q h w : Nat} {t : Tb} (e : rdW c len p = (some (h, w), q)) (hq : ¬ len ≤ q) (h2 : c q = 59) : prs c len (n + 1) p t = prs c len n (q + 1) (tSet 2 (tSet 2 (tAdd 2 t) t.1 0 h) t.1 1 w) := by
  conv => lhs; unfold prs
  rw [e]
  show (if len ≤ q then _ else _) = _
  rw [if_neg hq, if_pos h2]
theorem prs_bad {c : Nat → Nat} {len n p q h w : Nat} {t : Tb} (e : rdW c len p = (some (h, w), q)) (hq : ¬ len ≤ q) (h2 : ¬ c q = 59) : prs c len (n + 1) p t = (some q, q, tSet 2 (tSet 2 (tAdd 2 t) t.1 0 h) t.1 1 w) := by
  unfold prs
  rw [e]
  show (if len ≤ q then _ else _) = _
  rw [if_neg hq, if_neg h2]
theorem rdW_1 {c : Nat → Nat} {len p : Nat} (h : (rdM c len 3 p).1 = none) : rdW c len p = (none, (rdM c len 3 p).2) := by
  unfold rdW
  rcases e : rdM c len 3 p with ⟨o1, p1⟩
  rw [e] at h
  have h : o1 = none := h
  subst h
  rfl
theorem rdW_2 {c : Nat → Nat} {len p a : Nat} (h : (rdM c len 3 p).1 = some a) (h2 : ¬ sgnB c len (rdM c len 3 p).2 58 = true) : rdW c len p = (none, (rdM c len 3 p).2) := by
  unfold rdW
  rcases e : rdM c len 3 p with ⟨o1, p1⟩
  rw [e] at h h2
  have h : o1 = some a := h
  subst h
  simp only [sgnB, decide_eq_true_eq] at h2
  exact if_neg h2
theorem rdW_3 {c : Nat → Nat} {len p a : Nat} (h : (rdM c len 3 p).1 = some a) (h2 : sgnB c len (rdM c len 3 p).2 58 = true) (h3 : (rdM c len 2 ((rdM c len 3 p).2 + 1)).1 = none) : rdW c len p = (none, (rdM c len 2 ((rdM c len 3 p).2 + 1)).2) := by
  unfold rdW
  rcases e : rdM c len 3 p with ⟨o1, p1⟩
  rw [e] at h h2 h3
  have h : o1 = some a := h
  subst h
  simp only [sgnB, decide_eq_true_eq] at h2
  show (if p1 < len ∧ c p1 = 58 then _ else _) = _
  rw [if_pos h2]
  rcases e2 : rdM c len 2 (p1 + 1) with ⟨o2, p2⟩
  have h3 : (rdM c len 2 (p1 + 1)).1 = none := h3
  rw [e2] at h3
  have h3 : o2 = none := h3
  subst h3
  rfl
theorem rdW_4 {c : Nat → Nat} {len p a b : Nat} (h : (rdM c len 3 p).1 = some a) (h2 : sgnB c len (rdM c len 3 p).2 58 = true) (h3 : (rdM c len 2 ((rdM c len 3 p).2 + 1)).1 = some b) : rdW c len p = (some (a, b), (rdM c len 2 ((rdM c len 3 p).2 + 1)).2) := by
  unfold rdW
  rcases e : rdM c len 3 p with ⟨o1, p1⟩
  rw [e] at h h2 h3
  have h : o1 = some a := h
  subst h
  simp only [sgnB, decide_eq_true_eq] at h2
  show (if p1 < len ∧ c p1 = 58 then _ else _) = _
  rw [if_pos h2]
  rcases e2 : rdM c len 2 (p1 + 1) with ⟨o2, p2⟩
  have h3 : (rdM c len 2 (p1 + 1)).1 = some b := h3
  rw [e2] at h3
  have h3 : o2 = some b := h3
  subst h3
  rfl
theorem cd_X3_parse : kCardV yX3_parse cX3_parse 5 (some .int) 0 := ⟨⟨wc_X3_parse, wi_X3, by decide +kernel, by decide +kernel, rfl⟩, wk_X3_parse, ws_X3_parse⟩
set_option maxHeartbeats 4000000 in
set_option maxRecDepth 100000 in
theorem c_X3_parse (l : Launch) (D : va_G) (tA : Nat → ClassId) (x : Nat → Nat) (c : Nat → Nat) (len p : Nat) (t : Tb)  (hl : len ≤ 60) (hc : ∀ j, c j < 65536) (hp : p ≤ 60) (ht : t.1 ≤ 15) : Kx l D tA yX3_parse cX3_parse 5 (some .int) 2 46 [.ref (x 0)] (txW tA x c len p t) (some (.int (rN ((prs c len 16 0 (0, t.2)).1)))) (txW tA x c len ((prs c len 16 0 (0, t.2)).2.1) ((prs c len 16 0 (0, t.2)).2.2)) := by
  refine kx_int rfl (Nat.le_of_ble_eq_true rfl) (fun G X E => ?_)
  show J l D G 0 0 (txW tA x c len p t) [(0, .ref (x 0))] 0 []
  refine j_aload_n (pc := 0) X dX3_parse_0 rfl (q := 0) rfl ?_
  refine j_get (pc := 1) X (C := RX3) (T := TX3) (N := 4) wz_X3 0 rfl rfl 3 (by decide) wf_X3_20 rfl dX3_parse_1 ?_
  refine j_callV (pc := 4) X (st := []) (w' := (txW tA x c len p (0, t.2))) (c_X2_removeAll l D tA (x 2) (x 3) 15 2 t  ) cd_X2_removeAll wm_X3_28 2 rfl rfl rfl [2, 3] rfl rfl (tb_fst.trans tb_fst.symm) rfl ⟨Nat.le_of_ble_eq_true rfl, Nat.le_of_ble_eq_true rfl⟩ ⟨Nat.zero_le _, Nat.zero_le _⟩ rfl (Nat.le_of_ble_eq_true rfl) dX3_parse_4 ?_
  refine j_aload_n (pc := 7) X dX3_parse_7 rfl (q := 0) rfl ?_
  refine j_iconst (pc := 8) X (v := (nI 0)) dX3_parse_8 (by decide) ?_
  refine j_put (pc := 9) X (C := RX3) (T := TX3) (N := 4) wz_X3 tyX3 tyX3_ok nmX3 0 rfl rfl 2 (by decide) wf_X3_31 rfl rfl rfl (Nat.le_of_ble_eq_true rfl) (w' := (txW tA x c len 0 (0, t.2))) rfl dX3_parse_9 ?_
  refine j_iconst (pc := 12) X (v := (nI 0)) dX3_parse_12 (by decide) ?_
  refine j_istore_n (pc := 13) X (lv' := [(1, .int (nI 0)), (0, .ref (x 0))]) dX3_parse_13 rfl (by decide) rfl ?_
  have L_14 : ∀ (fu : Nat) (k q : Nat) (t2 : Tb), k ≤ 16 → q ≤ len → 4 * k ≤ q → t2.1 = k → prs c len (16 - k) q t2 = prs c len 16 0 (0, t.2) → 16 - k < fu → J l D G 0 0 (txW tA x c len q t2) [(0, .ref (x 0)), (1, .int (nI k))] 14 [] := by
    intro fu
    induction fu with
    | zero => intro k q t2 hk hq hkq ht2 hs hfu; exact absurd hfu (Nat.not_lt_zero _)
    | succ fu ih_14 =>
      intro k q t2 hk hq hkq ht2 hs hfu
      refine j_iload_n (pc := 14) X dX3_parse_14 rfl (q := 1) rfl ?_
      refine j_bipush (pc := 15) X (v := (nI 15)) dX3_parse_15 (by decide) ?_
      refine j_icmp_gt (pc := 17) X (tgt := 125) (P := 15 < k) dX3_parse_17 (by decide) (nI_ltI (by omega) (by omega)) (fun h17 => ?_) (fun h17 => ?_)
      · skip
        refine j_aload_n (pc := 125) X dX3_parse_125 rfl (q := 0) rfl ?_
        refine j_get (pc := 126) X (C := RX3) (T := TX3) (N := 4) wz_X3 0 rfl rfl 2 (by decide) wf_X3_31 rfl dX3_parse_126 ?_
        exact j_endI (pc := 129) E dX3_parse_129 (absurd h17 (by omega)) (absurd h17 (by omega))
      · skip
        refine j_aload_n (pc := 20) X dX3_parse_20 rfl (q := 0) rfl ?_
        refine j_iconst (pc := 21) X (v := (nI 3)) dX3_parse_21 (by decide) ?_
        refine j_callV (pc := 22) X (st := []) (w' := (txW tA x c len ((rdM c len 3 q).2) t2)) (c_X3_readNumber l D tA x c len q t2 3 hl hc (by omega) (by decide)) cd_X3_readNumber wm_X3_34 0 rfl rfl rfl [0, 1, 2, 3] rfl rfl (tx_fst.trans tx_fst.symm) rfl ⟨Nat.le_of_ble_eq_true rfl, Nat.le_of_ble_eq_true rfl⟩ ⟨Nat.zero_le _, Nat.zero_le _⟩ rfl (Nat.le_of_ble_eq_true rfl) dX3_parse_22 ?_
        have hr3 := rdM_in (c := c) (k := 3) hq (by decide)
        refine j_istore_n (pc := 25) X (lv' := [(2, .int (rN ((rdM c len 3 q).1))), (0, .ref (x 0)), (1, .int (nI k))]) dX3_parse_25 rfl (by decide) rfl ?_
        refine j_iload_n (pc := 26) X dX3_parse_26 rfl (q := 0) rfl ?_
        refine j_iconst (pc := 27) X (v := (-1)) dX3_parse_27 (by decide) ?_
        refine j_icmp_eq (pc := 28) X (tgt := 40) (P := ((rdM c len 3 q).1) = none) dX3_parse_28 (by decide) (rN_none (fun b e => by have := (hr3.2.2 b e).2; omega)) (fun h28 => ?_) (fun h28 => ?_)
        · skip
          refine j_aload_n (pc := 40) X dX3_parse_40 rfl (q := 1) rfl ?_
          refine j_get (pc := 41) X (C := RX3) (T := TX3) (N := 4) wz_X3 0 rfl rfl 2 (by decide) wf_X3_31 rfl dX3_parse_41 ?_
          exact j_endI (pc := 44) E dX3_parse_44 (by rw [← hs, show 16 - k = (16 - (k + 1)) + 1 by omega, prs_no (rdW_1 h28)]; rfl) (by rw [← hs, show 16 - k = (16 - (k + 1)) + 1 by omega, prs_no (rdW_1 h28)])
        · skip
          obtain ⟨hd, hhd⟩ := Option.ne_none_iff_exists'.mp h28
          have hr3v := hr3.2.2 hd hhd
          rw [show rN (rdM c len 3 q).1 = nI hd from by rw [hhd]; rfl]
          refine j_aload_n (pc := 31) X dX3_parse_31 rfl (q := 1) rfl ?_
          refine j_bipush (pc := 32) X (v := (nI 58)) dX3_parse_32 (by decide) ?_
          refine j_callV (pc := 34) X (st := []) (w' := (txW tA x c len (if sgnB c len ((rdM c len 3 q).2) 58 = true then ((rdM c len 3 q).2) + 1 else ((rdM c len 3 q).2)) t2)) (c_X3_readSign l D tA x c len ((rdM c len 3 q).2) t2 58 hl hc hr3.2.1 (by decide)) cd_X3_readSign wm_X3_38 0 rfl rfl rfl [0, 1, 2, 3] rfl rfl (tx_fst.trans tx_fst.symm) rfl ⟨Nat.le_of_ble_eq_true rfl, Nat.le_of_ble_eq_true rfl⟩ ⟨Nat.zero_le _, Nat.zero_le _⟩ rfl (Nat.le_of_ble_eq_true rfl) dX3_parse_34 ?_
          refine j_if_ne (pc := 37) X (tgt := 45) (P := (sgnB c len ((rdM c len 3 q).2) 58) = true) dX3_parse_37 (by decide) (bI_n0 _) (fun h37 => ?_) (fun h37 => ?_)
          · skip
            rw [show (if sgnB c len (rdM c len 3 q).2 58 = true then (rdM c len 3 q).2 + 1 else (rdM c len 3 q).2) = (rdM c len 3 q).2 + 1 from if_pos h37]
            have hs58 : (rdM c len 3 q).2 < len ∧ c (rdM c len 3 q).2 = 58 := by simpa only [sgnB, decide_eq_true_eq] using h37
            refine j_aload_n (pc := 45) X dX3_parse_45 rfl (q := 1) rfl ?_
            refine j_iconst (pc := 46) X (v := (nI 2)) dX3_parse_46 (by decide) ?_
            refine j_callV (pc := 47) X (st := []) (w' := (txW tA x c len ((rdM c len 2 ((rdM c len 3 q).2 + 1)).2) t2)) (c_X3_readNumber l D tA x c len ((rdM c len 3 q).2 + 1) t2 2 hl hc (by omega) (by decide)) cd_X3_readNumber wm_X3_34 0 rfl rfl rfl [0, 1, 2, 3] rfl rfl (tx_fst.trans tx_fst.symm) rfl ⟨Nat.le_of_ble_eq_true rfl, Nat.le_of_ble_eq_true rfl⟩ ⟨Nat.zero_le _, Nat.zero_le _⟩ rfl (Nat.le_of_ble_eq_true rfl) dX3_parse_47 ?_
            have hr2 := rdM_in (c := c) (k := 2) (show (rdM c len 3 q).2 + 1 ≤ len by omega) (by decide)
            refine j_istore_n (pc := 50) X (lv' := [(3, .int (rN ((rdM c len 2 ((rdM c len 3 q).2 + 1)).1))), (2, .int (nI hd)), (0, .ref (x 0)), (1, .int (nI k))]) dX3_parse_50 rfl (by decide) rfl ?_
            refine j_iload_n (pc := 51) X dX3_parse_51 rfl (q := 0) rfl ?_
            refine j_iconst (pc := 52) X (v := (-1)) dX3_parse_52 (by decide) ?_
            refine j_icmp_ne (pc := 53) X (tgt := 61) (P := ¬ ((rdM c len 2 ((rdM c len 3 q).2 + 1)).1) = none) dX3_parse_53 (by decide) (not_congr (rN_none (fun b e => by have := (hr2.2.2 b e).2; omega))) (fun h53 => ?_) (fun h53 => ?_)
            · skip
              obtain ⟨wd, hwd⟩ := Option.ne_none_iff_exists'.mp h53
              have hr2v := hr2.2.2 wd hwd
              rw [show rN (rdM c len 2 ((rdM c len 3 q).2 + 1)).1 = nI wd from by rw [hwd]; rfl]
              refine j_aload_n (pc := 61) X dX3_parse_61 rfl (q := 2) rfl ?_
              refine j_get (pc := 62) X (C := RX3) (T := TX3) (N := 4) wz_X3 0 rfl rfl 3 (by decide) wf_X3_20 rfl dX3_parse_62 ?_
              refine j_callV (pc := 65) X (st := []) (w' := (txW tA x c len ((rdM c len 2 ((rdM c len 3 q).2 + 1)).2) (tAdd 2 t2))) (c_X2_addRow l D tA (x 2) (x 3) 15 2 t2  (by decide) (by decide) (by omega) (by decide) (by omega)) cd_X2_addRow wm_X3_42 2 rfl rfl rfl [2, 3] rfl rfl (tb_fst.trans tb_fst.symm) rfl ⟨Nat.le_of_ble_eq_true rfl, Nat.le_of_ble_eq_true rfl⟩ ⟨Nat.zero_le _, Nat.zero_le _⟩ rfl (Nat.le_of_ble_eq_true rfl) dX3_parse_65 ?_
              refine j_istore (pc := 68) X (lv' := [(4, .int (nI t2.1)), (3, .int (nI wd)), (2, .int (nI hd)), (0, .ref (x 0)), (1, .int (nI k))]) dX3_parse_68 (by decide) rfl ?_
              refine j_aload_n (pc := 70) X dX3_parse_70 rfl (q := 3) rfl ?_
              refine j_get (pc := 71) X (C := RX3) (T := TX3) (N := 4) wz_X3 0 rfl rfl 3 (by decide) wf_X3_20 rfl dX3_parse_71 ?_
              refine j_iload (pc := 74) X dX3_parse_74 (q := 0) rfl ?_
              refine j_iconst (pc := 76) X (v := (nI 0)) dX3_parse_76 (by decide) ?_
              refine j_iload_n (pc := 77) X dX3_parse_77 rfl (q := 2) rfl ?_
              refine j_callV (pc := 78) X (st := []) (w' := (txW tA x c len ((rdM c len 2 ((rdM c len 3 q).2 + 1)).2) (tSet 2 (tAdd 2 t2) t2.1 0 hd))) (c_X2_set l D tA (x 2) (x 3) 15 2 (tAdd 2 t2) t2.1 0 hd (by decide) (by decide) (show t2.1 + 1 ≤ 15 by omega) (show t2.1 < t2.1 + 1 by omega) (by decide) (by decide)) cd_X2_set wm_X3_46 2 rfl rfl rfl [2, 3] rfl rfl (tb_fst.trans tb_fst.symm) rfl ⟨Nat.le_of_ble_eq_true rfl, Nat.le_of_ble_eq_true rfl⟩ ⟨Nat.zero_le _, Nat.zero_le _⟩ rfl (Nat.le_of_ble_eq_true rfl) dX3_parse_78 ?_
              refine j_aload_n (pc := 81) X dX3_parse_81 rfl (q := 3) rfl ?_
              refine j_get (pc := 82) X (C := RX3) (T := TX3) (N := 4) wz_X3 0 rfl rfl 3 (by decide) wf_X3_20 rfl dX3_parse_82 ?_
              refine j_iload (pc := 85) X dX3_parse_85 (q := 0) rfl ?_
              refine j_iconst (pc := 87) X (v := (nI 1)) dX3_parse_87 (by decide) ?_
              refine j_iload_n (pc := 88) X dX3_parse_88 rfl (q := 1) rfl ?_
              refine j_callV (pc := 89) X (st := []) (w' := (txW tA x c len ((rdM c len 2 ((rdM c len 3 q).2 + 1)).2) (tSet 2 (tSet 2 (tAdd 2 t2) t2.1 0 hd) t2.1 1 wd))) (c_X2_set l D tA (x 2) (x 3) 15 2 (tSet 2 (tAdd 2 t2) t2.1 0 hd) t2.1 1 wd (by decide) (by decide) (show t2.1 + 1 ≤ 15 by omega) (show t2.1 < t2.1 + 1 by omega) (by decide) (by decide)) cd_X2_set wm_X3_46 2 rfl rfl rfl [2, 3] rfl rfl (tb_fst.trans tb_fst.symm) rfl ⟨Nat.le_of_ble_eq_true rfl, Nat.le_of_ble_eq_true rfl⟩ ⟨Nat.zero_le _, Nat.zero_le _⟩ rfl (Nat.le_of_ble_eq_true rfl) dX3_parse_89 ?_
              refine j_aload_n (pc := 92) X dX3_parse_92 rfl (q := 3) rfl ?_
              refine j_get (pc := 93) X (C := RX3) (T := TX3) (N := 4) wz_X3 0 rfl rfl 2 (by decide) wf_X3_31 rfl dX3_parse_93 ?_
              refine j_aload_n (pc := 96) X dX3_parse_96 rfl (q := 3) rfl ?_
              refine j_get (pc := 97) X (C := RX3) (T := TX3) (N := 4) wz_X3 0 rfl rfl 1 (by decide) wf_X3_24 rfl dX3_parse_97 ?_
              refine j_icmp_lt (pc := 100) X (tgt := 105) (P := ((rdM c len 2 ((rdM c len 3 q).2 + 1)).2) < len) dX3_parse_100 (by decide) (nI_ltI (by omega) (by omega)) (fun h100 => ?_) (fun h100 => ?_)
              · skip
                refine j_aload_n (pc := 105) X dX3_parse_105 rfl (q := 3) rfl ?_
                refine j_bipush (pc := 106) X (v := (nI 59)) dX3_parse_106 (by decide) ?_
                refine j_callV (pc := 108) X (st := []) (w' := (txW tA x c len (if sgnB c len ((rdM c len 2 ((rdM c len 3 q).2 + 1)).2) 59 = true then ((rdM c len 2 ((rdM c len 3 q).2 + 1)).2) + 1 else ((rdM c len 2 ((rdM c len 3 q).2 + 1)).2)) (tSet 2 (tSet 2 (tAdd 2 t2) t2.1 0 hd) t2.1 1 wd))) (c_X3_readSign l D tA x c len ((rdM c len 2 ((rdM c len 3 q).2 + 1)).2) (tSet 2 (tSet 2 (tAdd 2 t2) t2.1 0 hd) t2.1 1 wd) 59 hl hc hr2.2.1 (by decide)) cd_X3_readSign wm_X3_38 0 rfl rfl rfl [0, 1, 2, 3] rfl rfl (tx_fst.trans tx_fst.symm) rfl ⟨Nat.le_of_ble_eq_true rfl, Nat.le_of_ble_eq_true rfl⟩ ⟨Nat.zero_le _, Nat.zero_le _⟩ rfl (Nat.le_of_ble_eq_true rfl) dX3_parse_108 ?_
                refine j_if_ne (pc := 111) X (tgt := 119) (P := (sgnB c len ((rdM c len 2 ((rdM c len 3 q).2 + 1)).2) 59) = true) dX3_parse_111 (by decide) (bI_n0 _) (fun h111 => ?_) (fun h111 => ?_)
                · skip
                  rw [show (if sgnB c len (rdM c len 2 ((rdM c len 3 q).2 + 1)).2 59 = true then (rdM c len 2 ((rdM c len 3 q).2 + 1)).2 + 1 else (rdM c len 2 ((rdM c len 3 q).2 + 1)).2) = (rdM c len 2 ((rdM c len 3 q).2 + 1)).2 + 1 from if_pos h111]
                  have hs59 : (rdM c len 2 ((rdM c len 3 q).2 + 1)).2 < len ∧ c (rdM c len 2 ((rdM c len 3 q).2 + 1)).2 = 59 := by simpa only [sgnB, decide_eq_true_eq] using h111
                  refine j_iinc (pc := 119) X (v := (nI (k + 1))) (lv' := [(1, .int (nI (k + 1))), (4, .int (nI t2.1)), (3, .int (nI wd)), (2, .int (nI hd)), (0, .ref (x 0))]) dX3_parse_119 (q := 4) rfl (nI_add _ _) (by decide) rfl ?_
                  refine j_goto (pc := 122) X (tgt := 14) dX3_parse_122 (by decide) ?_
                  refine j_lv X (lv' := [(0, .ref (x 0)), (1, .int (nI (k + 1)))]) [4, 0] rfl ?_
                  exact ih_14 (k + 1) ((rdM c len 2 ((rdM c len 3 q).2 + 1)).2 + 1) (tSet 2 (tSet 2 (tAdd 2 t2) t2.1 0 hd) t2.1 1 wd) (by omega) (by omega) (by omega) (show t2.1 + 1 = k + 1 by omega) (by rw [← hs, show 16 - k = (16 - (k + 1)) + 1 by omega, prs_go (rdW_4 hhd h37 hwd) (by omega) hs59.2]) (by omega)
                · skip
                  rw [show (if sgnB c len (rdM c len 2 ((rdM c len 3 q).2 + 1)).2 59 = true then (rdM c len 2 ((rdM c len 3 q).2 + 1)).2 + 1 else (rdM c len 2 ((rdM c len 3 q).2 + 1)).2) = (rdM c len 2 ((rdM c len 3 q).2 + 1)).2 from if_neg h111]
                  refine j_aload_n (pc := 114) X dX3_parse_114 rfl (q := 3) rfl ?_
                  refine j_get (pc := 115) X (C := RX3) (T := TX3) (N := 4) wz_X3 0 rfl rfl 2 (by decide) wf_X3_31 rfl dX3_parse_115 ?_
                  exact j_endI (pc := 118) E dX3_parse_118 (by rw [← hs, show 16 - k = (16 - (k + 1)) + 1 by omega, prs_bad (rdW_4 hhd h37 hwd) (by omega) (fun z => h111 (by simp only [sgnB, decide_eq_true_eq]; exact ⟨by omega, z⟩))]; rfl) (by rw [← hs, show 16 - k = (16 - (k + 1)) + 1 by omega, prs_bad (rdW_4 hhd h37 hwd) (by omega) (fun z => h111 (by simp only [sgnB, decide_eq_true_eq]; exact ⟨by omega, z⟩))])
              · skip
                refine j_iconst (pc := 103) X (v := (-1)) dX3_parse_103 (by decide) ?_
                exact j_endI (pc := 104) E dX3_parse_104 (by rw [← hs, show 16 - k = (16 - (k + 1)) + 1 by omega, prs_end (rdW_4 hhd h37 hwd) (by omega)]; rfl) (by rw [← hs, show 16 - k = (16 - (k + 1)) + 1 by omega, prs_end (rdW_4 hhd h37 hwd) (by omega)])
            · skip
              refine j_aload_n (pc := 56) X dX3_parse_56 rfl (q := 2) rfl ?_
              refine j_get (pc := 57) X (C := RX3) (T := TX3) (N := 4) wz_X3 0 rfl rfl 2 (by decide) wf_X3_31 rfl dX3_parse_57 ?_
              exact j_endI (pc := 60) E dX3_parse_60 (by rw [← hs, show 16 - k = (16 - (k + 1)) + 1 by omega, prs_no (rdW_3 hhd h37 (Decidable.not_not.mp h53))]; rfl) (by rw [← hs, show 16 - k = (16 - (k + 1)) + 1 by omega, prs_no (rdW_3 hhd h37 (Decidable.not_not.mp h53))])
          · skip
            rw [show (if sgnB c len (rdM c len 3 q).2 58 = true then (rdM c len 3 q).2 + 1 else (rdM c len 3 q).2) = (rdM c len 3 q).2 from if_neg h37]
            refine j_aload_n (pc := 40) X dX3_parse_40 rfl (q := 1) rfl ?_
            refine j_get (pc := 41) X (C := RX3) (T := TX3) (N := 4) wz_X3 0 rfl rfl 2 (by decide) wf_X3_31 rfl dX3_parse_41 ?_
            exact j_endI (pc := 44) E dX3_parse_44 (by rw [← hs, show 16 - k = (16 - (k + 1)) + 1 by omega, prs_no (rdW_2 hhd (by rw [f5 h37]; decide))]; rfl) (by rw [← hs, show 16 - k = (16 - (k + 1)) + 1 by omega, prs_no (rdW_2 hhd (by rw [f5 h37]; decide))])
  refine j_lv X (lv' := [(0, .ref (x 0)), (1, .int (nI 0))]) [1, 0] rfl ?_
  exact L_14 _ 0 0 (0, t.2) (by omega) (Nat.zero_le _) (by omega) rfl rfl (Nat.lt_succ_self _)
