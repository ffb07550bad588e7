theorem nC_eq0 {a : Nat} (h : a < 2 ^ 31) : nI a = 0 ↔ a = 0 := by
  have e : nI a = nI 0 ↔ a = 0 := nI_eq h (by omega)
  rwa [nI_0] at e
theorem nC_le0 {a : Nat} (h : a < 2 ^ 31) : nI a ≤ 0 ↔ a = 0 := by
  have e : nI a ≤ nI 0 ↔ a ≤ 0 := nI_leI h (by omega)
  rw [nI_0] at e
  rw [e]; omega
theorem nC_gt0 {a : Nat} (h : a < 2 ^ 31) : 0 < nI a ↔ 0 < a := by
  have e : nI 0 < nI a ↔ 0 < a := nI_ltI (by omega) h
  rwa [nI_0] at e
theorem nC_lt0 {a : Nat} (h : a < 2 ^ 31) : nI a < 0 ↔ False := ⟨fun q => nI_pos h q, fun q => q.elim⟩
theorem nC_ge0 {a : Nat} (h : a < 2 ^ 31) : 0 ≤ nI a ↔ True := ⟨fun _ => trivial, fun _ => nI_pos' h⟩
theorem iC_lt0 (x : Int32) : x < 0 ↔ x.toInt < 0 := by rw [Int32.lt_iff_toInt_lt, Int32.toInt_zero]
theorem iC_ge0 (x : Int32) : 0 ≤ x ↔ 0 ≤ x.toInt := by rw [Int32.le_iff_toInt_le, Int32.toInt_zero]
theorem iC_le0 (x : Int32) : x ≤ 0 ↔ x.toInt ≤ 0 := by rw [Int32.le_iff_toInt_le, Int32.toInt_zero]
theorem iC_gt0 (x : Int32) : 0 < x ↔ 0 < x.toInt := by rw [Int32.lt_iff_toInt_lt, Int32.toInt_zero]
theorem iC_eqn {x : Int32} {b : Nat} (h : b < 2 ^ 31) : x = nI b ↔ x.toInt = ((b : Nat) : Int) := by rw [← Int32.toInt_inj, nI_toInt h]
theorem iC_ltn {x : Int32} {b : Nat} (h : b < 2 ^ 31) : x < nI b ↔ x.toInt < ((b : Nat) : Int) := by rw [Int32.lt_iff_toInt_lt, nI_toInt h]
theorem iC_len {x : Int32} {b : Nat} (h : b < 2 ^ 31) : x ≤ nI b ↔ x.toInt ≤ ((b : Nat) : Int) := by rw [Int32.le_iff_toInt_le, nI_toInt h]
theorem iC_gen {x : Int32} {b : Nat} (h : b < 2 ^ 31) : nI b ≤ x ↔ ((b : Nat) : Int) ≤ x.toInt := by rw [Int32.le_iff_toInt_le, nI_toInt h]
theorem iC_gtn {x : Int32} {b : Nat} (h : b < 2 ^ 31) : nI b < x ↔ ((b : Nat) : Int) < x.toInt := by rw [Int32.lt_iff_toInt_lt, nI_toInt h]
def rO : Option Nat → Int32
  | some b => nI b
  | none => (-5)
theorem rO_none {o : Option Nat} (h : ∀ b, o = some b → b < 2 ^ 31) : rO o = (-5) ↔ o = none := by
  cases o with
  | none => exact ⟨fun _ => rfl, fun _ => rfl⟩
  | some b =>
    refine ⟨fun q => ?_, fun q => (by cases q)⟩
    have h1 : nI b = (-5) := q
    have h2 := nI_toInt (h b rfl)
    rw [h1] at h2
    have h3 : ((-5 : Int32)).toInt = -5 := by decide
    omega
theorem nI_max {a b : Nat} (ha : a < 2 ^ 31) (hb : b < 2 ^ 31) : (if nI a < nI b then nI b else nI a) = nI (max a b) := by
  by_cases h : a < b
  · rw [if_pos ((nI_ltI ha hb).mpr h), Nat.max_eq_right (by omega)]
  · rw [if_neg (fun q => h ((nI_ltI ha hb).mp q)), Nat.max_eq_left (by omega)]
theorem nI_min {a b : Nat} (ha : a < 2 ^ 31) (hb : b < 2 ^ 31) : (if nI b < nI a then nI b else nI a) = nI (min a b) := by
  by_cases h : b < a
  · rw [if_pos ((nI_ltI hb ha).mpr h), Nat.min_eq_right (by omega)]
  · rw [if_neg (fun q => h ((nI_ltI hb ha).mp q)), Nat.min_eq_left (by omega)]
/-- an argument that lies in a range is a number -/
theorem i_in {x : Int32} {n : Nat} (h0 : 0 ≤ x.toInt) (h1 : x.toInt < n) : ∃ k : Nat, k < n ∧ x = nI k := by
  refine ⟨x.toInt.toNat, by omega, ?_⟩
  have hx : x.toInt < 2 ^ 31 := Int32.toInt_lt x
  rw [iC_eqn (by omega)]
  omega
section
variable {l : Launch} {D : va_G} {G : kCx} {cc : ByteArray} {w w0 : va_W} {lv : List (Nat × Value)} {pc : Nat}
theorem j_endI {r v : Int32} (E : kE l D G cc .ireturn (some (.int r)) w) (hdg : decode cc pc = .ok (.ireturn, 1)) (hr : r = v) (hw : w = w0) : J l D G 0 0 w0 lv pc [.int v] := by
  subst hr; subst hw; exact E lv pc hdg
theorem j_endV (E : kE l D G cc .return_ none w) (hdg : decode cc pc = .ok (.return_, 1)) (hw : w = w0) : J l D G 0 0 w0 lv pc [] := by
  subst hw; exact E lv pc hdg
theorem j_endA {a b : Nat} (E : kE l D G cc .areturn (some (.ref a)) w) (hdg : decode cc pc = .ok (.areturn, 1)) (hr : a = b) (hw : w = w0) : J l D G 0 0 w0 lv pc [.ref b] := by
  subst hr; subst hw; exact E lv pc hdg
end
theorem up_same {α : Type} (f : Nat → α) (k : Nat) (v : α) : va_up f k v k = v := by simp [va_up]
theorem up_ne {α : Type} (f : Nat → α) {k j : Nat} (v : α) (h : j ≠ k) : va_up f k v j = f j := by simp [va_up, h]
