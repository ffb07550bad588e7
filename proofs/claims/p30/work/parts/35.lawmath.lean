/-! the law's own steps, as mathematics -/
theorem Iv_0 : Iv 0 s0 := ⟨OKs_0, fun b c hb => absurd hb (Nat.not_lt_zero _), fun v hv => absurd hv (Nat.not_lt_zero _), ⟨rfl, Nat.le_refl _, Nat.zero_le _⟩, rfl⟩
theorem HOk_0 : HOk v0 := ⟨by decide, by decide, fun _ => Wf_0⟩
theorem Iv.mach {bl : Nat} {s : Sg} (h : Iv bl s) {st b : Nat} (h1 : 10 ≤ st ∧ st ≤ 200) (h2 : b ≤ 12) (hm : (sM s).1 < 5) : Iv (bl + b) (pMach s st b) := by
  refine ⟨h.1.mach h1 h2 hm, h.2.1, h.2.2.1, h.2.2.2.1, ?_⟩
  have e : tSum 3 1 (tSet 3 (tSet 3 (tAdd 3 (sM s)) (sM s).1 0 st) (sM s).1 1 b) + tGet 3 (tSet 3 (tAdd 3 (sM s)) (sM s).1 0 st) (sM s).1 1 = tSum 3 1 (tSet 3 (tAdd 3 (sM s)) (sM s).1 0 st) + b := tSum_s (by decide) (Nat.lt_succ_self _)
  rw [get_set_c (by decide) (by decide) (by decide), get_add_n (by decide), tSum_o (r := (sM s).1) (v := st) (by decide) (by decide) (by decide), tSum_add (by decide)] at e
  show tSum 3 1 (tSet 3 (tSet 3 (tSet 3 (tAdd 3 (sM s)) (sM s).1 0 st) (sM s).1 1 b) (sM s).1 2 NN) = bl + b
  rw [tSum_o (by decide) (by decide) (by decide)]
  have e2 : tSum 3 1 (sM s) = bl := h.2.2.2.2
  omega
theorem oAddMachine_t {s : Sg} {st b : Nat} (h1 : 10 ≤ st ∧ st ≤ 200) (h2 : b ≤ 12) (hm : (sM s).1 < 5) : oAddMachine s (nI st) (nI b) = (nI (sM s).1, some (pMach s st b)) := by
  unfold oAddMachine
  rw [if_pos, if_pos hm, tn_nI (show st < 2 ^ 31 by omega), tn_nI (show b < 2 ^ 31 by omega)]
  unfold isW
  rw [nI_toInt (show st < 2 ^ 31 by omega), nI_toInt (show b < 2 ^ 31 by omega), nI_toInt (show 10 < 2 ^ 31 by decide), nI_toInt (show 200 < 2 ^ 31 by decide), nI_toInt (show 0 < 2 ^ 31 by decide), nI_toInt (show 12 < 2 ^ 31 by decide)]
  exact ⟨decide_eq_true (by omega), decide_eq_true (by omega)⟩
theorem oAddMember_t {s : Sg} (hp : (sP s).1 < 8) : oAddMember s = (nI (sP s).1, some (uP s (tAdd 2 (sP s)))) := by
  unfold oAddMember
  rw [if_pos hp]
theorem Iv.memb {bl : Nat} {s : Sg} (h : Iv bl s) (hp : (sP s).1 < 8) : Iv bl (uP s (tAdd 2 (sP s))) := by
  have e := nx_addMember h
  rw [oAddMember_t hp] at e
  obtain ⟨q, -⟩ | ⟨s', q, -, hI, -, -⟩ := e
  · cases q
  · cases q; exact hI
/-- a state behind a call, whatever it answered -/
theorem Nx.iv {bl : Nat} {s : Sg} {o : Rs} (h : Iv bl s) (hx : Nx bl s o) : Iv bl (aS s o.2) := by
  obtain ⟨q, -⟩ | ⟨s', q, -, hI, -, -⟩ := hx
  · rw [q]; exact h
  · rw [q]; exact hI
theorem iv_am {bl : Nat} {s : Sg} (h : Iv bl s) : ∃ bl', Iv bl' (aS s (oAddMachine s (nI 99) (nI 1)).2) := by
  by_cases hm : (sM s).1 < 5
  · rw [oAddMachine_t (by omega) (by omega) hm]
    exact ⟨_, h.mach (by omega) (by omega) hm⟩
  · refine ⟨bl, ?_⟩
    have e : (oAddMachine s (nI 99) (nI 1)).2 = none := by
      unfold oAddMachine
      rw [if_neg hm]
      split <;> rfl
    rw [e]; exact h
theorem behind {tA : Nat → ClassId} {g : Ad} {s sn s3 : Sg} {v : Hs} {kp : Bool} {o : Rs} (h : ∃ bl', Iv bl' (aS s o.2)) (hw : Wf s) (hv : HOk v) : ∃ (bl' : Nat) (sa : Sg) (va : Hs), Iv bl' sa ∧ HOk va ∧ cuW tA g (aS s o.2) sn s3 (aH v s o.2) kp = cuW tA g sa sn s3 va kp := by
  obtain ⟨bl', hb⟩ := h
  exact ⟨bl', _, _, hb, hv.aH hw _, rfl⟩
section
variable {s : Sg}
theorem oM_x (hw : Wf s) : oMachine s (nI 5) (nI 0) = (-1) := by
  unfold oMachine
  rw [if_neg]
  have := hw.n.1
  unfold inR
  rw [nI_toInt (show 5 < 2 ^ 31 by decide)]
  exact fun q => absurd (of_decide_eq_true q) (by omega)
theorem oM_y (hw : Wf s) (hM : 0 < (sM s).1) : oMachine s (nI 0) (nI 7) = (-2) := by
  have := hw.n
  unfold oMachine
  rw [if_pos (inR_nI hM (by omega)), if_neg (by decide +kernel), if_neg (by decide +kernel), if_neg (by decide +kernel), if_neg (by decide +kernel), if_neg (by decide +kernel), if_neg (by decide +kernel), if_neg (by decide +kernel)]
theorem oP_x (hw : Wf s) : oMember s (nI 8) (nI 0) = (-1) := by
  unfold oMember
  rw [if_neg]
  have := hw.n.2.1
  unfold inR
  rw [nI_toInt (show 8 < 2 ^ 31 by decide)]
  exact fun q => absurd (of_decide_eq_true q) (by omega)
theorem oB_x (hw : Wf s) : oBooking s (nI 30) (nI 0) = (-1) := by
  unfold oBooking
  rw [if_neg]
  have := hw.n.2.2.1
  unfold inR
  rw [nI_toInt (show 30 < 2 ^ 31 by decide)]
  exact fun q => absurd (of_decide_eq_true q) (by omega)
theorem oV_x (hw : Wf s) : oMove s (nI 10) (nI 0) = (-1) := by
  unfold oMove
  rw [if_neg]
  have := hw.n.2.2.2.1
  unfold inR
  rw [nI_toInt (show 10 < 2 ^ 31 by decide)]
  exact fun q => absurd (of_decide_eq_true q) (by omega)
theorem oFate_x (hw : Wf s) : oFate s (nI 30) = ((-1), none) := by
  unfold oFate
  rw [if_neg]
  have := hw.n.2.2.1
  unfold inR
  rw [nI_toInt (show 30 < 2 ^ 31 by decide)]
  exact fun q => absurd (of_decide_eq_true q) (by omega)
theorem oA_x : oBookedAt s (nI 0) (nI 200) = (-1) := by
  unfold oBookedAt
  rw [if_neg]
  unfold inR
  rw [nI_toInt (show 200 < 2 ^ 31 by decide)]
  exact fun q => absurd (of_decide_eq_true q.2) (by omega)
theorem oMf_x : oMachineFor s (nI 200) (nI 1) (nI 2) = (-1) := by
  unfold oMachineFor
  rw [if_neg]
  unfold toCome
  rw [nI_toInt (show 200 < 2 ^ 31 by decide)]
  exact fun q => absurd (of_decide_eq_true q) (by omega)
theorem oMf_y (hw : Wf s) : oMachineFor s (nI 199) (nI 0) (nI 2) = (-2) := by
  have := hw.n
  unfold oMachineFor
  rw [if_pos (toCome_nI (by omega) (by decide)), if_neg]
  unfold isLft
  rw [nI_toInt (show 0 < 2 ^ 31 by decide)]
  exact fun q => absurd (of_decide_eq_true q).1 (by omega)
theorem oAm_x : oAddMachine s (nI 9) (nI 0) = ((-2), none) := by
  unfold oAddMachine
  rw [if_neg]
  unfold isW
  rw [nI_toInt (show 9 < 2 ^ 31 by decide), nI_toInt (show 10 < 2 ^ 31 by decide)]
  exact fun q => absurd (of_decide_eq_true q.1) (by omega)
theorem oRestore_t {s2 : Sg} : oRestore s s2 true = (nI (sN s2), some s2) := if_pos rfl
end
theorem df_X4 : ∀ j, j < 6 → defaultValue (tyX4 j) = vp_V [.null, .null, .null, .null, .null, .int 0] j := fun j hj => by
  rcases (show j = 0 ∨ j = 1 ∨ j = 2 ∨ j = 3 ∨ j = 4 ∨ j = 5 by omega) with rfl | rfl | rfl | rfl | rfl | rfl <;> rfl
