def ad3 (a b c : Nat) : Nat → Nat
  | 0 => a
  | 1 => b
  | _ => c
theorem k_prim {s : State} {args : Array Value} {ty : FieldType} (h : (Cond.arrayClass ty).before args s = true) : ∃ cA, ArrOfT s cA ty ∧ s.vm.findClass ("[" ++ ty.toString) = some cA := by
  obtain ⟨cA, kA, comp, h1, h2, h3⟩ := Cond.arrayClass_spec h
  exact ⟨cA, fun n z => ⟨fun k h => (by cases h), kA, h2, comp, h3⟩, h1⟩
theorem k_over {s : State} {args : Array Value} {C : String} (h : (Cond.arrayOver (.object C)).before args s = true) : ∃ cA, ArrOfT s cA (.object C) ∧ va_RA s cA (.object C) := by
  obtain ⟨comp, cA, kA, f1, _, f2, f3, f4⟩ := Cond.arrayOver_spec h
  exact ⟨cA, fun n z => ⟨fun k h => (by cases h), kA, f2, comp, f3⟩, kA, comp, f2, f3, f1, f4⟩
theorem k_start {s : State} {args : Array Value} (hts : ∀ w ∈ kALL, w.before args s = true) (hao : (Cond.arrayOver (.object "BallastClub$State")).before args s = true) (h1 : kN1.before args s = true) (h2 : kN2.before args s = true) : ∃ (D : va_G) (tA : Nat → ClassId), kK D tA s := by
  obtain ⟨t0, a0, b0⟩ := k_prim (hts _ wa_int)
  obtain ⟨t1, a1, b1⟩ := k_prim (hts _ wa_char)
  obtain ⟨t2, a2, b2⟩ := k_over hao
  obtain ⟨c0, i0, h0⟩ := u_known hts wz_X0 (hts _ wn_X0)
  obtain ⟨c1, i1, g1⟩ := u_known hts wz_X1 (hts _ wn_X1)
  obtain ⟨c2, i2, g2⟩ := u_known hts wz_X2 (hts _ wn_X2)
  obtain ⟨c3, i3, g3⟩ := u_known hts wz_X3 (hts _ wn_X3)
  obtain ⟨c4, i4, g4⟩ := u_known hts wz_X4 (hts _ wn_X4)
  refine ⟨(fun c => match c with | 0 => c0 | 1 => c1 | 2 => c2 | 3 => c3 | _ => c4, fun c => match c with | 0 => i0 | 1 => i1 | 2 => i2 | 3 => i3 | _ => i4), ad3 t0 t1 t2, ⟨?_, ?_⟩, va_Nw.of rfl h1, va_Nw.of rfl h2, va_AO.of hao⟩
  · intro c q hq
    have hc := (List.getElem?_eq_some_iff.mp hq).1
    have hc : c < 5 := hc
    rcases (show c = 0 ∨ c = 1 ∨ c = 2 ∨ c = 3 ∨ c = 4 by omega) with rfl | rfl | rfl | rfl | rfl <;> cases hq
    · exact h0
    · exact g1
    · exact g2
    · exact g3
    · exact g4
  · intro k q hq
    have hk := (List.getElem?_eq_some_iff.mp hq).1
    have hk : k < 3 := hk
    rcases (show k = 0 ∨ k = 1 ∨ k = 2 by omega) with rfl | rfl | rfl <;> cases hq
    · exact ⟨a0, b0⟩
    · exact ⟨a1, b1⟩
    · exact ⟨a2, b2⟩
