/-! a fresh object -/
theorem Wf_0 : Wf s0 := ⟨⟨Nat.zero_le _, fun r hr => absurd hr (Nat.not_lt_zero _)⟩, Nat.zero_le _, ⟨Nat.zero_le _, fun r hr => absurd hr (Nat.not_lt_zero _)⟩, ⟨Nat.zero_le _, fun r hr => absurd hr (Nat.not_lt_zero _)⟩, fun _ _ => Nat.zero_le _, Nat.zero_le _⟩
theorem OKs_0 : OKs s0 := ⟨Wf_0, fun _ _ => Nat.zero_le _, fun _ _ _ => Nat.zero_le _⟩
theorem RB_0 : RB s0 (fun _ => 0) := ⟨⟨rfl, rfl, rfl, rfl, rfl, rfl, rfl, rfl, rfl⟩, fun m hm => absurd hm (Nat.not_lt_zero _), fun m hm => absurd hm (Nat.not_lt_zero _), fun m hm => absurd hm (Nat.not_lt_zero _), fun m hm => absurd hm (Nat.not_lt_zero _), fun _ _ => rfl⟩
theorem RelM_0 : RelM s0 s0 v0 false (fun _ => 0) := ⟨RB_0, OKs_0, by decide, by decide, fun j hj => absurd hj (Nat.not_lt_zero _), fun h => by cases h⟩
/-! the text's table keeps its size -/
theorem prs_15 {c : Nat → Nat} {len : Nat} (hl : len ≤ 60) : ∀ (n p : Nat) (t : Tb), 4 * t.1 ≤ p → p ≤ len → t.1 ≤ 15 → (prs c len n p t).2.2.1 ≤ 15 ∧ (prs c len n p t).2.1 ≤ len
  | 0, p, t, h1, h2, h3 => ⟨h3, h2⟩
  | n + 1, p, t, h1, h2, h3 => by
    rcases ew : rdW c len p with ⟨o, q⟩
    have hi := rdW_in (c := c) h2
    rw [ew] at hi
    have hql : q ≤ len := hi.1
    cases o with
    | none => rw [prs_no ew]; exact ⟨h3, hql⟩
    | some hw =>
      obtain ⟨h, w⟩ := hw
      have h4 := (hi.2.2 h w rfl).1
      have h4 : p + 3 ≤ q := h4
      by_cases hq : len ≤ q
      · rw [prs_end ew hq]; exact ⟨by show t.1 + 1 ≤ 15; omega, hql⟩
      · by_cases h5 : c q = 59
        · rw [prs_go ew hq h5]
          exact prs_15 hl n (q + 1) _ (by show 4 * (t.1 + 1) ≤ q + 1; omega) (by omega) (by show t.1 + 1 ≤ 15; omega)
        · rw [prs_bad ew hq h5]; exact ⟨by show t.1 + 1 ≤ 15; omega, hql⟩
theorem pRs_15 {c : Nat → Nat} {len : Nat} {g : Nat → Nat} (hl : len ≤ 60) : (pRs c len g).2.2.1 ≤ 15 ∧ (pRs c len g).2.1 ≤ len := prs_15 hl 16 0 (0, g) (by show 4 * 0 ≤ 0; omega) (Nat.zero_le _) (Nat.zero_le _)
