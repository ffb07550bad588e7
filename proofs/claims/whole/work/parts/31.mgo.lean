def adW (t : Tb) (h w : Nat) : Tb := tSet 2 (tSet 2 (tAdd 2 t) t.1 0 h) t.1 1 w
theorem adW_o {t : Tb} {h w r k : Nat} (hr : r < t.1) (hk : k < 2) : tGet 2 (adW t h w) r k = tGet 2 t r k := by
  show tGet 2 (tSet 2 (tSet 2 (tAdd 2 t) t.1 0 h) t.1 1 w) r k = _
  rw [get_set_r (by decide) hk (by omega), get_set_r (by decide) hk (by omega), get_add_o hr hk]
theorem adW_n {t : Tb} {h w : Nat} : tGet 2 (adW t h w) t.1 0 = h ∧ tGet 2 (adW t h w) t.1 1 = w := by
  show tGet 2 (tSet 2 (tSet 2 (tAdd 2 t) t.1 0 h) t.1 1 w) t.1 0 = h ∧ tGet 2 (tSet 2 (tSet 2 (tAdd 2 t) t.1 0 h) t.1 1 w) t.1 1 = w
  rw [get_set_c (by decide) (by decide) (by decide), get_set_s (by decide), get_set_s (by decide)]
  exact ⟨rfl, rfl⟩
theorem prs_grow {c : Nat → Nat} {len : Nat} : ∀ (n p : Nat) (t : Tb), t.1 ≤ (prs c len n p t).2.2.1 ∧ (prs c len n p t).2.2.1 ≤ t.1 + n ∧ (∀ r, r < t.1 → tGet 2 (prs c len n p t).2.2 r 0 = tGet 2 t r 0) ∧ (p ≤ len → ∀ f, (prs c len n p t).1 = some f → f ≤ len)
  | 0, p, t => ⟨Nat.le_refl _, Nat.le_refl _, fun _ _ => rfl, fun hp f hf => by cases hf; exact hp⟩
  | n + 1, p, t => by
    rcases ew : rdW c len p with ⟨o, q⟩
    cases o with
    | none =>
      rw [prs_no ew]
      exact ⟨Nat.le_refl _, by show t.1 ≤ _; omega, fun _ _ => rfl, fun hp f hf => by cases hf; have := (rdW_in (c := c) hp).1; rw [ew] at this; exact this⟩
    | some hw =>
      obtain ⟨h, w⟩ := hw
      by_cases hq : len ≤ q
      · rw [prs_end ew hq]
        exact ⟨by show t.1 ≤ t.1 + 1; omega, by show t.1 + 1 ≤ _; omega, fun r hr => adW_o hr (by decide), fun _ f hf => by cases hf⟩
      · by_cases h2 : c q = 59
        · rw [prs_go ew hq h2]
          obtain ⟨i1, i2, i3, i4⟩ := prs_grow (c := c) (len := len) n (q + 1) (adW t h w)
          have i1 : t.1 + 1 ≤ _ := i1
          have i2 : _ ≤ t.1 + 1 + n := i2
          exact ⟨by show t.1 ≤ (prs c len n (q + 1) (adW t h w)).2.2.1; omega, by show (prs c len n (q + 1) (adW t h w)).2.2.1 ≤ _; omega, fun r hr => (i3 r (by show r < t.1 + 1; omega)).trans (adW_o hr (by decide)), fun _ f hf => i4 (by omega) f hf⟩
        · rw [prs_bad ew hq h2]
          exact ⟨by show t.1 ≤ t.1 + 1; omega, by show t.1 + 1 ≤ _; omega, fun r hr => adW_o hr (by decide), fun hp f hf => by cases hf; have := (rdW_in (c := c) hp).1; rw [ew] at this; exact this⟩
theorem allB_no {p : Nat → Bool} {r : Nat} (h : p r = false) : ∀ n, r < n → allB p n = false
  | 0, hr => absurd hr (Nat.not_lt_zero _)
  | n + 1, hr => by
    rw [allB]
    by_cases q : r = n
    · rw [← q, h, Bool.and_false]
    · rw [allB_no h n (by omega), Bool.false_and]
theorem allB_eq {p p' : Nat → Bool} : ∀ n, (∀ r, r < n → p r = p' r) → allB p n = allB p' n
  | 0, _ => rfl
  | n + 1, h => by rw [allB, allB, allB_eq n (fun r hr => h r (by omega)), h n (by omega)]
theorem allTo_ad {s : Sg} {t : Tb} {h w : Nat} (h1 : allTo s t = true) (h2 : toCome s (nI h) = true) : allTo s (adW t h w) = true := by
  show allB (fun r => toCome s (nI (tGet 2 (adW t h w) r 0))) (t.1 + 1) = true
  rw [allB, adW_n.1, h2, Bool.and_true, allB_eq t.1 (p' := fun r => toCome s (nI (tGet 2 t r 0))) (fun r hr => by rw [adW_o hr (by decide)])]
  exact h1
theorem telW_eq {f : Nat → Nat} {t t' : Tb} : ∀ n, (∀ r, r < n → ∀ k, k < 2 → tGet 2 t r k = tGet 2 t' r k) → telW f t n = telW f t' n
  | 0, _ => rfl
  | n + 1, h => by rw [telW, telW, telW_eq n (fun r hr => h r (by omega)), h n (by omega) 0 (by decide), h n (by omega) 1 (by decide)]
theorem telW_ad {f : Nat → Nat} {t : Tb} {h w : Nat} : telW f (adW t h w) (t.1 + 1) = va_up (telW f t t.1) h w := by
  rw [telW, adW_n.1, adW_n.2, telW_eq t.1 (t' := t) (fun r hr k hk => adW_o hr hk)]
def stt (b : Bool) (s : Sg) (t : Tb) : Sg := if b = true then uW s (telW (sW s) t t.1) else s
theorem stt_f {b : Bool} {s : Sg} {t : Tb} (h : b = false) : stt b s t = s := by unfold stt; rw [h]; rfl
theorem stt_t {b : Bool} {s : Sg} {t : Tb} (h : b = true) : stt b s t = uW s (telW (sW s) t t.1) := by unfold stt; rw [h]; rfl
theorem stt_0 {b : Bool} {s : Sg} {g : Nat → Nat} : stt b s (0, g) = s := by
  unfold stt; split <;> rfl
theorem stt_tc {b : Bool} {s : Sg} {t : Tb} {x : Int32} : toCome (stt b s t) x = toCome s x := by
  unfold stt; split <;> rfl
theorem go_put {b : Bool} {s : Sg} {t : Tb} {h w : Nat} {R9 : Nat → Nat} (hbt : b = true) (hrb : RB (stt b s t) R9) (hwf : Wf (stt b s t)) (hh : h < 200) : RB (stt b s (adW t h w)) (va_up R9 (335 + h) w) := by
  rw [stt_t hbt] at hrb hwf
  rw [stt_t hbt]
  show RB (uW s (telW (sW s) (adW t h w) (t.1 + 1))) _
  rw [telW_ad]
  exact hrb.setW hwf hh
theorem go_wf {b : Bool} {s : Sg} {t : Tb} {h w : Nat} (hwf : Wf (stt b s t)) (hw : w < 100) : Wf (stt b s (adW t h w)) := by
  by_cases hbt : b = true
  · rw [stt_t hbt] at hwf ⊢
    refine ⟨hwf.1, hwf.2.1, hwf.2.2.1, hwf.2.2.2.1, fun i hi => ?_, hwf.2.2.2.2.2⟩
    show telW (sW s) (adW t h w) (t.1 + 1) i ≤ 99
    rw [telW_ad]
    by_cases q : i = h
    · rw [q, up_same]; omega
    · rw [up_ne _ _ q]; exact hwf.w hi
  · have hbf := Bool.eq_false_iff.mpr hbt
    rw [stt_f hbf] at hwf ⊢; exact hwf
theorem tc_nI {s : Sg} {h : Nat} (hh : h < 2 ^ 31) : toCome s (nI h) = true ↔ (sN s ≤ h ∧ h < 200) := by
  simp only [toCome, nI_toInt hh, decide_eq_true_eq]
  omega
theorem up_id {R : Nat → Nat} {i : Nat} : va_up R i (R i) = R := by
  funext j
  by_cases q : j = i
  · rw [q, up_same]
  · rw [up_ne _ _ q]
def Go (c : Nat → Nat) (len : Nat) (X : Option Nat × Nat × Tb) (p : Nat) (t : Tb) : Prop := (∃ n, X = prs c len (n + 1) p t ∧ 60 ≤ 4 * n + p ∧ p ≤ len) ∨ (p = len + 1 ∧ X.2.2 = t)
theorem go_step {c : Nat → Nat} {len p : Nat} {t : Tb} {X : Option Nat × Nat × Tb} (hl : len ≤ 60) (hX : X.1 = none) (hG : Go c len X p t) (hp : p < len) : ∃ h w q, rdW c len p = (some (h, w), q) ∧ Go c len X (q + 1) (adW t h w) ∧ h < 1000 ∧ w < 100 ∧ p < q ∧ q ≤ len ∧ t.1 < X.2.2.1 ∧ tGet 2 X.2.2 t.1 0 = h := by
  rcases hG with ⟨n, e, hf, hpl⟩ | hG
  · rcases ew : rdW c len p with ⟨o, q⟩
    have hi := rdW_in (c := c) hpl
    rw [ew] at hi
    cases o with
    | none => rw [e, prs_no ew] at hX; cases hX
    | some hw =>
      obtain ⟨h, w⟩ := hw
      have h3 := hi.2.2 h w rfl
      have h30 : p + 3 ≤ q := h3.1
      have h31 : q ≤ len := hi.1
      refine ⟨h, w, q, rfl, ?_⟩
      by_cases hq : len ≤ q
      · have e2 := e.trans (prs_end ew hq)
        refine ⟨Or.inr ⟨by omega, by rw [e2]; rfl⟩, h3.2.1, h3.2.2, by omega, h31, ?_, ?_⟩
        · rw [e2]; exact Nat.lt_succ_self _
        · rw [e2]; exact adW_n.1
      · by_cases h2 : c q = 59
        · have e2 := e.trans (prs_go ew hq h2)
          have e3 := e2
          rw [show n = (n - 1) + 1 by omega] at e3
          have gr := prs_grow (c := c) (len := len) n (q + 1) (adW t h w)
          refine ⟨Or.inl ⟨n - 1, e3, by omega, by omega⟩, h3.2.1, h3.2.2, by omega, h31, ?_, ?_⟩
          · rw [e2]; exact gr.1
          · rw [e2]; exact (gr.2.2.1 t.1 (Nat.lt_succ_self _)).trans adW_n.1
        · rw [e, prs_bad ew hq h2] at hX; cases hX
  · omega
theorem go_end {c : Nat → Nat} {len p : Nat} {t : Tb} {X : Option Nat × Nat × Tb} (hX : X.1 = none) (hG : Go c len X p t) (hp : len ≤ p) : X.2.2 = t := by
  rcases hG with ⟨n, e, hf, hpl⟩ | hG
  · have hd : ¬ isD c len p = true := by simp only [isD, decide_eq_true_eq]; omega
    have ew : rdW c len p = (none, p) := by
      have h1 := rdW_1 (c := c) (len := len) (p := p) (by rw [num_no hd])
      rw [num_no hd] at h1; exact h1
    rw [e, prs_no ew] at hX; cases hX
  · exact hG.2
theorem cd_X5_goOn : kCardV yX5_goOn cX5_goOn 3 (some .int) 1 := ⟨⟨wc_X5_goOn, wi_X5, by decide +kernel, by decide +kernel, rfl⟩, wk_X5_goOn, ws_X5_goOn⟩
set_option maxHeartbeats 4000000 in
set_option maxRecDepth 100000 in
theorem c_X5_goOn (l : Launch) (D : va_G) (tA : Nat → ClassId) (m : Nat → Nat) (R T ch : Nat → Nat) (st : Nat) (kp : Bool) (len : Nat) (wt : Option Nat) (ft ps : Nat) (f1 f2 : Int32) (g : Nat → Nat) (s : Sg) (b : Bool) (hl : len ≤ 60) (hch : ∀ j, ch j < 65536) (hT : ∀ j, j < len → T j = ch j) (hr : RB s R) (hw : Wf s) (hX : (pRs ch len g).1 = none) : Ky l D tA yX5_goOn cX5_goOn 3 (some .int) 3 65 [.ref (m 0), .int (bI b)] (tW tA m (mfs m st kp len wt ft ps f1 f2) R T) (S := (Nat → Nat) × Nat × Int32 × Int32) (fun u => Out R u.1 ∧ u.2.1 ≤ len + 1 ∧ (allTo s (pRs ch len g).2.2 = true → RB (stt b s (pRs ch len g).2.2) u.1 ∧ Wf (stt b s (pRs ch len g).2.2)) ∧ (b = false → u.1 = R)) (fun u => some (.int (if allTo s (pRs ch len g).2.2 = true then nI (pRs ch len g).2.2.1 else (-1)))) (fun u => (tW tA m (mfs m st kp len wt ft u.2.1 u.2.2.1 u.2.2.2) u.1 T)) := by
  refine ky_int rfl (Nat.le_of_ble_eq_true rfl) (fun G X E => ?_)
  show J l D G 0 0 (tW tA m (mfs m st kp len wt ft ps f1 f2) R T) [(0, .ref (m 0)), (1, .int (bI b))] 0 []
  refine j_iconst (pc := 0) X (v := (nI 0)) dX5_goOn_0 (by decide) ?_
  refine j_istore_n (pc := 1) X (lv' := [(2, .int (nI 0)), (0, .ref (m 0)), (1, .int (bI b))]) dX5_goOn_1 rfl (by decide) rfl ?_
  refine j_aload_n (pc := 2) X dX5_goOn_2 rfl (q := 1) rfl ?_
  refine j_iconst (pc := 3) X (v := (nI 0)) dX5_goOn_3 (by decide) ?_
  refine j_put (pc := 4) X (C := RX5) (T := TX5) (N := 10) wz_X5 tyX5 tyX5_ok nmX5 0 rfl rfl 7 (by decide) wf_X5_126 rfl rfl rfl (Nat.le_of_ble_eq_true rfl) (w' := (tW tA m (mfs m st kp len wt ft 0 f1 f2) R T)) rfl dX5_goOn_4 ?_
  have L_7 : ∀ (fu : Nat) (p9 : Nat) (R9 : Nat → Nat) (t : Tb) (g1 g2 : Int32), Go ch len (pRs ch len g) p9 t → RB (stt b s t) R9 → allTo s t = true → Out R R9 → Wf (stt b s t) → (b = false → R9 = R) → p9 ≤ len + 1 → len + 1 - p9 < fu → J l D G 0 0 (tW tA m (mfs m st kp len wt ft p9 g1 g2) R9 T) [(0, .ref (m 0)), (1, .int (bI b)), (2, .int (nI t.1))] 7 [] := by
    intro fu
    induction fu with
    | zero => intro p9 R9 t g1 g2 hG hrb hall hO hwf hRb hpl hfu; exact absurd hfu (Nat.not_lt_zero _)
    | succ fu ih_7 =>
      intro p9 R9 t g1 g2 hG hrb hall hO hwf hRb hpl hfu
      refine j_aload_n (pc := 7) X dX5_goOn_7 rfl (q := 0) rfl ?_
      refine j_get (pc := 8) X (C := RX5) (T := TX5) (N := 10) wz_X5 0 rfl rfl 7 (by decide) wf_X5_126 rfl dX5_goOn_8 ?_
      refine j_aload_n (pc := 11) X dX5_goOn_11 rfl (q := 0) rfl ?_
      refine j_get (pc := 12) X (C := RX5) (T := TX5) (N := 10) wz_X5 0 rfl rfl 4 (by decide) wf_X5_123 rfl dX5_goOn_12 ?_
      refine j_icmp_ge (pc := 15) X (tgt := 89) (P := len ≤ p9) dX5_goOn_15 (by decide) (nI_leI (by omega) (by omega)) (fun h15 => ?_) (fun h15 => ?_)
      · skip
        refine j_iload_n (pc := 89) X dX5_goOn_89 rfl (q := 2) rfl ?_
        have hgt := go_end hX hG (by omega)
        exact j_endIy (pc := 90) E dX5_goOn_90 (R9, p9, g1, g2) (⟨hO, hpl, fun _ => by rw [hgt]; exact ⟨hrb, hwf⟩, hRb⟩) (by rw [hgt, if_pos hall]) rfl
      · skip
        obtain ⟨h, w, q, ew, hgo, hh9, hw9, hpq, hql, hlt, hrow⟩ := go_step hl hX hG (by omega)
        refine j_aload_n (pc := 18) X dX5_goOn_18 rfl (q := 0) rfl ?_
        refine j_callVy (pc := 19) X (st := []) (w' := fun u19 => (tW tA m (mfs m st kp len wt ft ((rdW ch len p9).2) u19.1 u19.2) R9 T)) (c_X5_readsWind l D tA m R9 T ch st kp len wt ft p9 g1 g2 hl hch hT (by omega)) cd_X5_readsWind wm_X5_142 0 rfl rfl rfl [0, 1, 2] rfl rfl (fun _ => tw_fst) (fun _ => rfl) ⟨Nat.le_of_ble_eq_true rfl, Nat.le_of_ble_eq_true rfl⟩ ⟨Nat.zero_le _, Nat.zero_le _⟩ rfl (Nat.le_of_ble_eq_true rfl) dX5_goOn_19 (fun u19 hu19 => ?_)
        refine j_pop (pc := 22) X dX5_goOn_22 rfl ?_
        refine j_ws (w2 := (tW tA m (mfs m st kp len wt ft q (nI h) (nI w)) R9 T)) (by rw [ew, (hu19 h w (by rw [ew])).1, (hu19 h w (by rw [ew])).2]) ?_
        refine j_aload_n (pc := 23) X dX5_goOn_23 rfl (q := 0) rfl ?_
        refine j_aload_n (pc := 24) X dX5_goOn_24 rfl (q := 0) rfl ?_
        refine j_get (pc := 25) X (C := RX5) (T := TX5) (N := 10) wz_X5 0 rfl rfl 8 (by decide) wf_X5_136 rfl dX5_goOn_25 ?_
        refine j_callVR (pc := 28) X (st := [])  (c_X5_isToCome l D tA m (mfs m st kp len wt ft q (nI h) (nI w)) R9 (stt b s t) (nI h) hrb hwf ) cd_X5_isToCome wm_X5_45 0 rfl rfl rfl [0, 1] rfl rfl ⟨Nat.le_of_ble_eq_true rfl, Nat.le_of_ble_eq_true rfl⟩ ⟨Nat.zero_le _, Nat.zero_le _⟩ rfl (Nat.le_of_ble_eq_true rfl) dX5_goOn_28 ?_
        refine j_if_ne (pc := 31) X (tgt := 36) (P := (toCome (stt b s t) (nI h)) = true) dX5_goOn_31 (by decide) (bI_n0 _) (fun h31 => ?_) (fun h31 => ?_)
        · skip
          have htc : toCome s (nI h) = true := stt_tc.symm.trans h31
          have hh := (tc_nI (by omega)).mp htc
          refine j_aload_n (pc := 36) X dX5_goOn_36 rfl (q := 0) rfl ?_
          refine j_get (pc := 37) X (C := RX5) (T := TX5) (N := 10) wz_X5 0 rfl rfl 0 (by decide) wf_X5_7 rfl dX5_goOn_37 ?_
          refine j_sipush (pc := 40) X (v := (nI 335)) dX5_goOn_40 (by decide) ?_
          refine j_aload_n (pc := 43) X dX5_goOn_43 rfl (q := 0) rfl ?_
          refine j_get (pc := 44) X (C := RX5) (T := TX5) (N := 10) wz_X5 0 rfl rfl 8 (by decide) wf_X5_136 rfl dX5_goOn_44 ?_
          refine j_iadd (pc := 47) X (v := (nI (335 + h))) dX5_goOn_47 (nI_add _ _) ?_
          refine j_iload_n (pc := 48) X dX5_goOn_48 rfl (q := 1) rfl ?_
          refine j_if_eq (pc := 49) X (tgt := 59) (P := b = false) dX5_goOn_49 (by decide) (bI_0 _) (fun h49 => ?_) (fun h49 => ?_)
          · skip
            refine j_aload_n (pc := 59) X dX5_goOn_59 rfl (q := 0) rfl ?_
            refine j_get (pc := 60) X (C := RX5) (T := TX5) (N := 10) wz_X5 0 rfl rfl 0 (by decide) wf_X5_7 rfl dX5_goOn_60 ?_
            refine j_sipush (pc := 63) X (v := (nI 335)) dX5_goOn_63 (by decide) ?_
            refine j_aload_n (pc := 66) X dX5_goOn_66 rfl (q := 0) rfl ?_
            refine j_get (pc := 67) X (C := RX5) (T := TX5) (N := 10) wz_X5 0 rfl rfl 8 (by decide) wf_X5_136 rfl dX5_goOn_67 ?_
            refine j_iadd (pc := 70) X (v := (nI (335 + h))) dX5_goOn_70 (nI_add _ _) ?_
            refine j_iald (pc := 71) X 1 (i := (335 + h)) rfl (by omega) (by omega) dX5_goOn_71 ?_
            refine j_iast (pc := 72) X 1 (i := (335 + h)) (v := (R9 (335 + h))) rfl (by omega) (by omega) (w' := (tW tA m (mfs m st kp len wt ft q (nI h) (nI w)) (va_up R9 (335 + h) (R9 (335 + h))) T)) rfl dX5_goOn_72 ?_
            refine j_iinc (pc := 73) X (v := (nI (t.1 + 1))) (lv' := [(2, .int (nI (t.1 + 1))), (0, .ref (m 0)), (1, .int (bI b))]) dX5_goOn_73 (q := 2) rfl (nI_add _ _) (by decide) rfl ?_
            refine j_aload_n (pc := 76) X dX5_goOn_76 rfl (q := 1) rfl ?_
            refine j_dup (pc := 77) X dX5_goOn_77 rfl ?_
            refine j_get (pc := 78) X (C := RX5) (T := TX5) (N := 10) wz_X5 0 rfl rfl 7 (by decide) wf_X5_126 rfl dX5_goOn_78 ?_
            refine j_iconst (pc := 81) X (v := (nI 1)) dX5_goOn_81 (by decide) ?_
            refine j_iadd (pc := 82) X (v := (nI (q + 1))) dX5_goOn_82 (nI_add _ _) ?_
            refine j_put (pc := 83) X (C := RX5) (T := TX5) (N := 10) wz_X5 tyX5 tyX5_ok nmX5 0 rfl rfl 7 (by decide) wf_X5_126 rfl rfl rfl (Nat.le_of_ble_eq_true rfl) (w' := (tW tA m (mfs m st kp len wt ft (q + 1) (nI h) (nI w)) (va_up R9 (335 + h) (R9 (335 + h))) T)) rfl dX5_goOn_83 ?_
            refine j_goto (pc := 86) X (tgt := 7) dX5_goOn_86 (by decide) ?_
            refine j_ws (w2 := (tW tA m (mfs m st kp len wt ft (q + 1) (nI h) (nI w)) R9 T)) (by rw [up_id]) ?_
            refine j_lv X (lv' := [(0, .ref (m 0)), (1, .int (bI b)), (2, .int (nI (t.1 + 1)))]) [1, 2, 0] rfl ?_
            exact ih_7 (q + 1) R9 (adW t h w) (nI h) (nI w) hgo (by rw [stt_f h49] at hrb ⊢; exact hrb) (allTo_ad hall htc) hO (go_wf hwf hw9) hRb (by omega) (by omega)
          · skip
            refine j_aload_n (pc := 52) X dX5_goOn_52 rfl (q := 0) rfl ?_
            refine j_get (pc := 53) X (C := RX5) (T := TX5) (N := 10) wz_X5 0 rfl rfl 9 (by decide) wf_X5_139 rfl dX5_goOn_53 ?_
            refine j_goto (pc := 56) X (tgt := 72) dX5_goOn_56 (by decide) ?_
            refine j_iast (pc := 72) X 1 (i := (335 + h)) (v := w) rfl (by omega) (by omega) (w' := (tW tA m (mfs m st kp len wt ft q (nI h) (nI w)) (va_up R9 (335 + h) w) T)) rfl dX5_goOn_72 ?_
            refine j_iinc (pc := 73) X (v := (nI (t.1 + 1))) (lv' := [(2, .int (nI (t.1 + 1))), (0, .ref (m 0)), (1, .int (bI b))]) dX5_goOn_73 (q := 2) rfl (nI_add _ _) (by decide) rfl ?_
            refine j_aload_n (pc := 76) X dX5_goOn_76 rfl (q := 1) rfl ?_
            refine j_dup (pc := 77) X dX5_goOn_77 rfl ?_
            refine j_get (pc := 78) X (C := RX5) (T := TX5) (N := 10) wz_X5 0 rfl rfl 7 (by decide) wf_X5_126 rfl dX5_goOn_78 ?_
            refine j_iconst (pc := 81) X (v := (nI 1)) dX5_goOn_81 (by decide) ?_
            refine j_iadd (pc := 82) X (v := (nI (q + 1))) dX5_goOn_82 (nI_add _ _) ?_
            refine j_put (pc := 83) X (C := RX5) (T := TX5) (N := 10) wz_X5 tyX5 tyX5_ok nmX5 0 rfl rfl 7 (by decide) wf_X5_126 rfl rfl rfl (Nat.le_of_ble_eq_true rfl) (w' := (tW tA m (mfs m st kp len wt ft (q + 1) (nI h) (nI w)) (va_up R9 (335 + h) w) T)) rfl dX5_goOn_83 ?_
            refine j_goto (pc := 86) X (tgt := 7) dX5_goOn_86 (by decide) ?_
            have hbt : b = true := by simpa using h49
            refine j_lv X (lv' := [(0, .ref (m 0)), (1, .int (bI b)), (2, .int (nI (t.1 + 1)))]) [1, 2, 0] rfl ?_
            exact ih_7 (q + 1) (va_up R9 (335 + h) w) (adW t h w) (nI h) (nI w) hgo (go_put hbt hrb hwf hh.2) (allTo_ad hall htc) (Out.up hO (by omega)) (go_wf hwf hw9) (fun z => absurd z h49) (by omega) (by omega)
        · skip
          refine j_iconst (pc := 34) X (v := (-1)) dX5_goOn_34 (by decide) ?_
          have hno : ¬ allTo s (pRs ch len g).2.2 = true := fun z => nf5 (allB_no (p := fun r => toCome s (nI (tGet 2 (pRs ch len g).2.2 r 0))) (r := t.1) (by show toCome s (nI (tGet 2 (pRs ch len g).2.2 t.1 0)) = false; rw [hrow, ← stt_tc (b := b) (t := t)]; exact Bool.eq_false_iff.mpr h31) _ hlt) z
          exact j_endIy (pc := 35) E dX5_goOn_35 (R9, q, nI h, nI w) (⟨hO, (show q ≤ len + 1 by omega), fun z => absurd z hno, hRb⟩) (by rw [if_neg hno]) rfl
  refine j_lv X (lv' := [(0, .ref (m 0)), (1, .int (bI b)), (2, .int (nI 0))]) [1, 2, 0] rfl ?_
  exact L_7 _ 0 R (0, g) f1 f2 (Or.inl ⟨15, rfl, by decide, Nat.zero_le _⟩) (stt_0.symm ▸ hr) rfl Out.rf (stt_0.symm ▸ hw) (fun _ => rfl) (Nat.zero_le _) (Nat.lt_succ_self _)
theorem go_res {A : Prop} [Decidable A] {k : Nat} (hk : k < 2 ^ 31) : 0 ≤ (if A then nI k else (-1)) ↔ A := by
  by_cases a : A
  · rw [if_pos a]; exact ⟨fun _ => a, fun _ => nI_pos' hk⟩
  · rw [if_neg a]; exact ⟨fun z => absurd z (by decide +kernel), fun z => absurd z a⟩
theorem cd_X5_readWinds : kCardV yX5_readWinds cX5_readWinds 2 (some .int) 0 := ⟨⟨wc_X5_readWinds, wi_X5, by decide +kernel, by decide +kernel, rfl⟩, wk_X5_readWinds, ws_X5_readWinds⟩
set_option maxHeartbeats 4000000 in
set_option maxRecDepth 100000 in
theorem c_X5_readWinds (l : Launch) (D : va_G) (tA : Nat → ClassId) (m : Nat → Nat) (x : MX) (s sn : Sg) (v : Hs) (kp : Bool) (len : Nat) (T ch g : Nat → Nat) (hrel : RelM s sn v kp x.1) (hl : len ≤ 60) (hch : ∀ j, ch j < 65536) (hT : ∀ j, j < len → T j = ch j)  : Ky l D tA yX5_readWinds cX5_readWinds 2 (some .int) 4 87 [.ref (m 0)] (tW tA m (mfs m v.2.2 kp len none x.2.1 x.2.2.1 x.2.2.2.1 x.2.2.2.2) x.1 T) (S := MX) (fun y => RelM (aS s (oRead s (pRs ch len g)).2) sn (aH v s (oRead s (pRs ch len g)).2) kp y.1) (fun y => some (.int ((oRead s (pRs ch len g)).1))) (fun y => (tW tA m (mfs m ((aH v s (oRead s (pRs ch len g)).2).2.2) kp len none y.2.1 y.2.2.1 y.2.2.2.1 y.2.2.2.2) y.1 T)) := by
  refine ky_int rfl (Nat.le_of_ble_eq_true rfl) (fun G X E => ?_)
  show J l D G 0 0 (tW tA m (mfs m v.2.2 kp len none x.2.1 x.2.2.1 x.2.2.2.1 x.2.2.2.2) x.1 T) [(0, .ref (m 0))] 0 []
  have hr := hrel.1
  have hok := hrel.2.1
  have hw := hok.1
  have hsz := hrel.2.2.2.1
  have gr := prs_grow (c := ch) (len := len) 16 0 (0, g)
  have gr2 : ((pRs ch len g).2.2).1 ≤ 0 + 16 := gr.2.1
  refine j_aload_n (pc := 0) X dX5_readWinds_0 rfl (q := 0) rfl ?_
  refine j_callVy (pc := 1) X (st := []) (w' := fun u1 => (tW tA m (mfs m v.2.2 kp len none x.2.1 u1.1 u1.2.1 u1.2.2) x.1 T)) (c_X5_faultOf l D tA m x.1 T ch v.2.2 kp len none x.2.1 x.2.2.1 x.2.2.2.1 x.2.2.2.2 g hl hch hT) cd_X5_faultOf wm_X5_146 0 rfl rfl rfl [0, 1, 2] rfl rfl (fun _ => tw_fst) (fun _ => rfl) ⟨Nat.le_of_ble_eq_true rfl, Nat.le_of_ble_eq_true rfl⟩ ⟨Nat.zero_le _, Nat.zero_le _⟩ rfl (Nat.le_of_ble_eq_true rfl) dX5_readWinds_1 (fun u1 hu1 => ?_)
  refine j_istore_n (pc := 4) X (lv' := [(1, .int (rN ((pRs ch len g).1))), (0, .ref (m 0))]) dX5_readWinds_4 rfl (by decide) rfl ?_
  refine j_iload_n (pc := 5) X dX5_readWinds_5 rfl (q := 0) rfl ?_
  refine j_if_lt (pc := 6) X (tgt := 14) (P := (pRs ch len g).1 = none) dX5_readWinds_6 (by decide) (rN_neg (fun f hf => by have := (prs_grow (c := ch) (len := len) 16 0 (0, g)).2.2.2 (Nat.zero_le _) f hf; omega)) (fun h6 => ?_) (fun h6 => ?_)
  · skip
    have hX := h6
    refine j_aload_n (pc := 14) X dX5_readWinds_14 rfl (q := 1) rfl ?_
    refine j_iconst (pc := 15) X (v := (bI false)) dX5_readWinds_15 (by decide +kernel) ?_
    refine j_callVy (pc := 16) X (st := []) (w' := fun u16 => (tW tA m (mfs m v.2.2 kp len none x.2.1 u16.2.1 u16.2.2.1 u16.2.2.2) u16.1 T)) (c_X5_goOn l D tA m x.1 T ch v.2.2 kp len none x.2.1 u1.1 u1.2.1 u1.2.2 g s false hl hch hT hr hw hX) cd_X5_goOn wm_X5_149 0 rfl rfl rfl [0, 1, 2] rfl rfl (fun _ => tw_fst) (fun _ => rfl) ⟨Nat.le_of_ble_eq_true rfl, Nat.le_of_ble_eq_true rfl⟩ ⟨Nat.zero_le _, Nat.zero_le _⟩ rfl (Nat.le_of_ble_eq_true rfl) dX5_readWinds_16 (fun u16 hu16 => ?_)
    obtain ⟨hO16, hp16, hB16, hI16⟩ := hu16
    refine j_ws (w2 := (tW tA m (mfs m v.2.2 kp len none x.2.1 u16.2.1 u16.2.2.1 u16.2.2.2) x.1 T)) (by rw [hI16 rfl]) ?_
    refine j_if_ge (pc := 19) X (tgt := 24) (P := allTo s (pRs ch len g).2.2 = true) dX5_readWinds_19 (by decide) (go_res (by omega)) (fun h19 => ?_) (fun h19 => ?_)
    · skip
      refine j_aload_n (pc := 24) X dX5_readWinds_24 rfl (q := 1) rfl ?_
      refine j_callV (pc := 25) X (st := []) (w' := (tW tA m (mfs m (recN (v.2.2)) kp len none x.2.1 u16.2.1 u16.2.2.1 u16.2.2.2) (recR x.1 v.2.2) T)) (c_X5_record l D tA m x.1 v.2.2 kp len none x.2.1 u16.2.1 u16.2.2.1 u16.2.2.2 hrel.2.2.2.1) cd_X5_record wm_X5_35 0 rfl rfl rfl [0, 1] rfl rfl rw_fst rfl ⟨Nat.le_of_ble_eq_true rfl, Nat.le_of_ble_eq_true rfl⟩ ⟨Nat.zero_le _, Nat.zero_le _⟩ rfl (Nat.le_of_ble_eq_true rfl) dX5_readWinds_25 ?_
      have hr2 : RB s (recR x.1 v.2.2) := hrel.rec0
      refine j_ws (w2 := (tW tA m (mfs m ((hPush v s).2.2) kp len none x.2.1 u16.2.1 u16.2.2.1 u16.2.2.2) (recR x.1 v.2.2) T)) (by rw [recN_sz (s := s) hrel.2.2.2.1]) ?_
      refine j_aload_n (pc := 28) X dX5_readWinds_28 rfl (q := 1) rfl ?_
      refine j_iconst (pc := 29) X (v := (bI true)) dX5_readWinds_29 (by decide +kernel) ?_
      refine j_callVy (pc := 30) X (st := []) (w' := fun u30 => (tW tA m (mfs m ((hPush v s).2.2) kp len none x.2.1 u30.2.1 u30.2.2.1 u30.2.2.2) u30.1 T)) (c_X5_goOn l D tA m (recR x.1 v.2.2) T ch ((hPush v s).2.2) kp len none x.2.1 u16.2.1 u16.2.2.1 u16.2.2.2 g s true hl hch hT hr2 hw hX) cd_X5_goOn wm_X5_149 0 rfl rfl rfl [0, 1, 2] rfl rfl (fun _ => tw_fst) (fun _ => rfl) ⟨Nat.le_of_ble_eq_true rfl, Nat.le_of_ble_eq_true rfl⟩ ⟨Nat.zero_le _, Nat.zero_le _⟩ rfl (Nat.le_of_ble_eq_true rfl) dX5_readWinds_30 (fun u30 hu30 => ?_)
      obtain ⟨hO30, hp30, hB30, hI30⟩ := hu30
      have e : oRead s (pRs ch len g) = (nI (pRs ch len g).2.2.1, some (uW s (telW (sW s) (pRs ch len g).2.2 (pRs ch len g).2.2.1))) := by unfold oRead; rw [h6]; exact if_pos h19
      have hZ := hB30 h19
      exact j_endIy (pc := 33) E dX5_readWinds_33 (u30.1, x.2.1, u30.2.1, u30.2.2.1, u30.2.2.2) (by rw [e]; exact hrel.act hO30 hZ.1 ⟨hZ.2, hok.2⟩) (by rw [e, if_pos h19]) (by rw [e]; rfl)
    · skip
      refine j_iconst (pc := 22) X (v := (-1)) dX5_readWinds_22 (by decide) ?_
      have e : oRead s (pRs ch len g) = (-1, none) := by unfold oRead; rw [h6]; exact if_neg h19
      exact j_endIy (pc := 23) E dX5_readWinds_23 (x.1, x.2.1, u16.2.1, u16.2.2.1, u16.2.2.2) (by rw [e]; exact hrel) (by rw [e]) (by rw [e]; rfl)
  · skip
    obtain ⟨f, hf⟩ := Option.ne_none_iff_exists'.mp h6
    refine j_bipush (pc := 9) X (v := (-100)) dX5_readWinds_9 (by decide) ?_
    refine j_iload_n (pc := 11) X dX5_readWinds_11 rfl (q := 0) rfl ?_
    refine j_isub (pc := 12) X (v := ((-100) - nI f)) dX5_readWinds_12 (by rw [hf]; rfl) ?_
    have e : oRead s (pRs ch len g) = ((-100) - nI f, none) := by unfold oRead; rw [hf]
    exact j_endIy (pc := 13) E dX5_readWinds_13 (x.1, x.2.1, u1.1, u1.2.1, u1.2.2) (by rw [e]; exact hrel) (by rw [e]) (by rw [e]; rfl)
