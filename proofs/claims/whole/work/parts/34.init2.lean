section
variable {l : Launch} {D : va_G} {tA : Nat → ClassId} {G : kCx} {cc : ByteArray} {nL : Nat} {own : String} {fr lo n k : Nat} {w : va_W} {lv : List (Nat × Value)} {pc : Nat} {st : List Value}
theorem j_aast (X : kX D tA G cc nL own fr lo) (q0 qk ci : Nat) {a N i v : Nat} {vs : List Value} {f : Nat → Option Nat} {r : vw_C} (he : w[q0]? = some (a, .inl (tA 2, N, .inr (.inr (.inr (.inr f)))))) (hv : w[qk]? = some (v, .inr (ci, vs))) (hc : vwCl[ci]? = some r) (hr : r.1 = "BallastClub$State") (hi : i < N) (hN : N < 65536) {w' : va_W} (hw : w.set q0 (a, .inl (tA 2, N, .inr (.inr (.inr (.inr (va_up f i (some v))))))) = w') (hdg : decode cc pc = .ok (.aastore, 1)) (kk : J l D G n k w' lv (pc + 1) st) : J l D G n k w lv pc (.ref v :: .int (nI i) :: .ref a :: st) :=
  fun H locs ls hP hD hS hl => va_astq (D := D) (cl := vwCl) (ws := w) (tys := kTY tA) X.1 X.2.1 X.2.2.2.2.2.1.1 hP hD hS q0 2 qk ci he (by rw [hr]; rfl) hv hc (vp_in_nI hi (by omega)) hdg (fun H1 locs1 hP1 hD1 hS1 => by
    rw [nI_clamp (by omega), hw] at hP1 hD1
    exact kk H1 locs1 ls hP1 hD1 hS1 hl)
theorem arq_eq {cA : ClassId} {N : Nat} {f f' : Nat → Option Nat} (h : ∀ j, j < N → f j = f' j) : vp_cell cA (N, .inr (.inr (.inr (.inr f)))) = vp_cell cA (N, .inr (.inr (.inr (.inr f')))) := by
  have e : (fun j : Fin N => va_rf (f j.val)) = (fun j : Fin N => va_rf (f' j.val)) := funext (fun j => by rw [h j.val j.isLt])
  exact congrArg (fun g : Fin N → Value => ({ cls := cA, slots := Array.ofFn g, vm := .none } : Cell)) e
theorem j_arq (q0 : Nat) {a N : Nat} {f f' : Nat → Option Nat} (he : w[q0]? = some (a, .inl (tA 2, N, .inr (.inr (.inr (.inr f)))))) (hf : ∀ j, j < N → f j = f' j) {w' : va_W} (hw : w.set q0 (a, .inl (tA 2, N, .inr (.inr (.inr (.inr f'))))) = w') (kk : J l D G n k w' lv pc st) : J l D G n k w lv pc st := by
  subst hw
  intro H locs ls hP hD hS hl
  have hlen := (List.getElem?_eq_some_iff.mp he).1
  refine kk H locs ls (fun j q hj => ?_) (hD.set he) hS hl
  by_cases z : j = q0
  · subst z
    rw [List.getElem?_set_self hlen] at hj
    cases hj
    have h := hP j _ he
    simp only [va_at] at h ⊢
    rw [← arq_eq hf]
    exact h
  · rw [List.getElem?_set_ne (fun h => z h.symm)] at hj
    exact hP j q hj
end
def ad2 (a b : Nat) : Nat → Nat
  | 0 => a
  | _ => b
def dd4 (b0 b1 b2 b3 : Nat → Nat) : Nat → Nat → Nat
  | 0 => b0
  | 1 => b1
  | 2 => b2
  | _ => b3
set_option maxHeartbeats 4000000 in
set_option maxRecDepth 100000 in
theorem cz_X0_init (l : Launch) (D : va_G) (tA : Nat → ClassId) (a : Nat) : Kz l D tA yX0_init cX0_init 2 3 56 41 2188 [.ref a] [(a, .inr (0, [.null, .int 0, .int 0]))] (fun u : (Nat → Nat) × (Nat → Nat → Nat) => u.1 0 = a) (fun u => hsW tA u.1 u.2 (fun _ => s0, 0, 0)) := by
  refine kz_void rfl rfl (Nat.le_of_ble_eq_true rfl) (fun G X hR hN E => ?_)
  show J l D G 0 0 [(a, .inr (0, [.null, .int 0, .int 0]))] [(0, .ref a)] 0 []
  refine j_aload_n (pc := 0) X dX0_init_0 rfl (q := 0) rfl ?_
  refine j_obj (pc := 1) X wm_X0_3 ⟨Nat.le_of_ble_eq_true rfl, Nat.le_of_ble_eq_true rfl⟩ dX0_init_1 ?_
  refine j_aload_n (pc := 4) X dX0_init_4 rfl (q := 0) rfl ?_
  refine j_iconst (pc := 5) X (v := nI 4) dX0_init_5 (by decide +kernel) ?_
  refine j_newq (pc := 6) X wl_X0_9 (by decide) ⟨by omega, by omega⟩ dX0_init_6 (fun q1 => ?_)
  refine j_putF (pc := 9) X hN (C := RX0) (T := TX0) (N := 3) wz_X0 tyX0 tyX0_ok nmX0 0 rfl rfl 0 (by decide) wf_X0_11 rfl rfl rfl rfl (Nat.le_of_ble_eq_true rfl) (w' := [(a, .inr (0, [.ref q1, .int 0, .int 0])), (q1, .inl (tA 2, 4, .inr (.inr (.inr (.inr (fun _ => none))))))]) rfl dX0_init_9 ?_
  refine j_iconst (pc := 12) X (v := nI 0) dX0_init_12 (by decide +kernel) ?_
  refine j_istore_n (pc := 13) X (lv' := [(1, .int (nI 0)), (0, .ref a)]) dX0_init_13 rfl (by decide) rfl ?_
  refine j_iload_n (pc := 14) X dX0_init_14 rfl (q := 0) rfl ?_
  refine j_iconst (pc := 15) X (v := nI 4) dX0_init_15 (by decide +kernel) ?_
  refine j_icmp_ge_f (pc := 16) X (tgt := 38) dX0_init_16 (by decide) (by decide +kernel) ?_
  refine j_aload_n (pc := 19) X dX0_init_19 rfl (q := 1) rfl ?_
  refine j_get (pc := 20) X (C := RX0) (T := TX0) (N := 3) wz_X0 0 rfl rfl 0 (by decide) wf_X0_11 rfl dX0_init_20 ?_
  refine j_iload_n (pc := 23) X dX0_init_23 rfl (q := 0) rfl ?_
  refine j_new (pc := 24) X (C := RX1) (T := TX1) (N := 9) (ci := 1) (fs := [.null, .null, .null, .null, .null, .int 0, .int 0, .int 0, .int 0]) wz_X1 tyX1 tyX1_ok wl_X0_9 wn_X1 wi_X1 rfl df_X1 ⟨by omega, by omega⟩ dX0_init_24 (fun x0 => ?_)
  refine j_dup (pc := 27) X dX0_init_27 rfl ?_
  refine j_callI (pc := 28) X (As := []) (st := [.ref x0, .int (nI 0), .ref q1]) (cz_X1_init l D tA x0) wc_X1_init wi_X1 wk_X1_init wm_X0_17 rfl (by decide +kernel) ⟨Nat.le_of_ble_eq_true rfl, Nat.le_of_ble_eq_true rfl⟩ ⟨by omega, by omega⟩ rfl (Nat.le_of_ble_eq_true rfl) dX0_init_28 (fun b0 e0 => ?_)
  subst e0
  refine j_aast (pc := 31) X 1 2 1 rfl rfl rfl rfl (by decide) (by decide) (w' := ([(a, .inr (0, [.ref q1, .int 0, .int 0])), (q1, .inl (tA 2, 4, .inr (.inr (.inr (.inr (va_up (fun _ => none) 0 (some (b0 0))))))))] ++ stW tA b0 s0)) rfl dX0_init_31 ?_
  refine j_iinc (pc := 32) X (v := nI 1) (lv' := [(1, .int (nI 1)), (0, .ref a)]) dX0_init_32 (q := 0) rfl (by decide +kernel) (by decide) rfl ?_
  refine j_goto (pc := 35) X (tgt := 14) dX0_init_35 (by decide) ?_
  refine j_iload_n (pc := 14) X dX0_init_14 rfl (q := 0) rfl ?_
  refine j_iconst (pc := 15) X (v := nI 4) dX0_init_15 (by decide +kernel) ?_
  refine j_icmp_ge_f (pc := 16) X (tgt := 38) dX0_init_16 (by decide) (by decide +kernel) ?_
  refine j_aload_n (pc := 19) X dX0_init_19 rfl (q := 1) rfl ?_
  refine j_get (pc := 20) X (C := RX0) (T := TX0) (N := 3) wz_X0 0 rfl rfl 0 (by decide) wf_X0_11 rfl dX0_init_20 ?_
  refine j_iload_n (pc := 23) X dX0_init_23 rfl (q := 0) rfl ?_
  refine j_new (pc := 24) X (C := RX1) (T := TX1) (N := 9) (ci := 1) (fs := [.null, .null, .null, .null, .null, .int 0, .int 0, .int 0, .int 0]) wz_X1 tyX1 tyX1_ok wl_X0_9 wn_X1 wi_X1 rfl df_X1 ⟨by omega, by omega⟩ dX0_init_24 (fun x1 => ?_)
  refine j_dup (pc := 27) X dX0_init_27 rfl ?_
  refine j_callI (pc := 28) X (As := []) (st := [.ref x1, .int (nI 1), .ref q1]) (cz_X1_init l D tA x1) wc_X1_init wi_X1 wk_X1_init wm_X0_17 rfl (by decide +kernel) ⟨Nat.le_of_ble_eq_true rfl, Nat.le_of_ble_eq_true rfl⟩ ⟨by omega, by omega⟩ rfl (Nat.le_of_ble_eq_true rfl) dX0_init_28 (fun b1 e1 => ?_)
  subst e1
  refine j_aast (pc := 31) X 1 12 1 rfl rfl rfl rfl (by decide) (by decide) (w' := (([(a, .inr (0, [.ref q1, .int 0, .int 0])), (q1, .inl (tA 2, 4, .inr (.inr (.inr (.inr (va_up (va_up (fun _ => none) 0 (some (b0 0))) 1 (some (b1 0))))))))] ++ stW tA b0 s0) ++ stW tA b1 s0)) rfl dX0_init_31 ?_
  refine j_iinc (pc := 32) X (v := nI 2) (lv' := [(1, .int (nI 2)), (0, .ref a)]) dX0_init_32 (q := 0) rfl (by decide +kernel) (by decide) rfl ?_
  refine j_goto (pc := 35) X (tgt := 14) dX0_init_35 (by decide) ?_
  refine j_iload_n (pc := 14) X dX0_init_14 rfl (q := 0) rfl ?_
  refine j_iconst (pc := 15) X (v := nI 4) dX0_init_15 (by decide +kernel) ?_
  refine j_icmp_ge_f (pc := 16) X (tgt := 38) dX0_init_16 (by decide) (by decide +kernel) ?_
  refine j_aload_n (pc := 19) X dX0_init_19 rfl (q := 1) rfl ?_
  refine j_get (pc := 20) X (C := RX0) (T := TX0) (N := 3) wz_X0 0 rfl rfl 0 (by decide) wf_X0_11 rfl dX0_init_20 ?_
  refine j_iload_n (pc := 23) X dX0_init_23 rfl (q := 0) rfl ?_
  refine j_new (pc := 24) X (C := RX1) (T := TX1) (N := 9) (ci := 1) (fs := [.null, .null, .null, .null, .null, .int 0, .int 0, .int 0, .int 0]) wz_X1 tyX1 tyX1_ok wl_X0_9 wn_X1 wi_X1 rfl df_X1 ⟨by omega, by omega⟩ dX0_init_24 (fun x2 => ?_)
  refine j_dup (pc := 27) X dX0_init_27 rfl ?_
  refine j_callI (pc := 28) X (As := []) (st := [.ref x2, .int (nI 2), .ref q1]) (cz_X1_init l D tA x2) wc_X1_init wi_X1 wk_X1_init wm_X0_17 rfl (by decide +kernel) ⟨Nat.le_of_ble_eq_true rfl, Nat.le_of_ble_eq_true rfl⟩ ⟨by omega, by omega⟩ rfl (Nat.le_of_ble_eq_true rfl) dX0_init_28 (fun b2 e2 => ?_)
  subst e2
  refine j_aast (pc := 31) X 1 22 1 rfl rfl rfl rfl (by decide) (by decide) (w' := ((([(a, .inr (0, [.ref q1, .int 0, .int 0])), (q1, .inl (tA 2, 4, .inr (.inr (.inr (.inr (va_up (va_up (va_up (fun _ => none) 0 (some (b0 0))) 1 (some (b1 0))) 2 (some (b2 0))))))))] ++ stW tA b0 s0) ++ stW tA b1 s0) ++ stW tA b2 s0)) rfl dX0_init_31 ?_
  refine j_iinc (pc := 32) X (v := nI 3) (lv' := [(1, .int (nI 3)), (0, .ref a)]) dX0_init_32 (q := 0) rfl (by decide +kernel) (by decide) rfl ?_
  refine j_goto (pc := 35) X (tgt := 14) dX0_init_35 (by decide) ?_
  refine j_iload_n (pc := 14) X dX0_init_14 rfl (q := 0) rfl ?_
  refine j_iconst (pc := 15) X (v := nI 4) dX0_init_15 (by decide +kernel) ?_
  refine j_icmp_ge_f (pc := 16) X (tgt := 38) dX0_init_16 (by decide) (by decide +kernel) ?_
  refine j_aload_n (pc := 19) X dX0_init_19 rfl (q := 1) rfl ?_
  refine j_get (pc := 20) X (C := RX0) (T := TX0) (N := 3) wz_X0 0 rfl rfl 0 (by decide) wf_X0_11 rfl dX0_init_20 ?_
  refine j_iload_n (pc := 23) X dX0_init_23 rfl (q := 0) rfl ?_
  refine j_new (pc := 24) X (C := RX1) (T := TX1) (N := 9) (ci := 1) (fs := [.null, .null, .null, .null, .null, .int 0, .int 0, .int 0, .int 0]) wz_X1 tyX1 tyX1_ok wl_X0_9 wn_X1 wi_X1 rfl df_X1 ⟨by omega, by omega⟩ dX0_init_24 (fun x3 => ?_)
  refine j_dup (pc := 27) X dX0_init_27 rfl ?_
  refine j_callI (pc := 28) X (As := []) (st := [.ref x3, .int (nI 3), .ref q1]) (cz_X1_init l D tA x3) wc_X1_init wi_X1 wk_X1_init wm_X0_17 rfl (by decide +kernel) ⟨Nat.le_of_ble_eq_true rfl, Nat.le_of_ble_eq_true rfl⟩ ⟨by omega, by omega⟩ rfl (Nat.le_of_ble_eq_true rfl) dX0_init_28 (fun b3 e3 => ?_)
  subst e3
  refine j_aast (pc := 31) X 1 32 1 rfl rfl rfl rfl (by decide) (by decide) (w' := (((([(a, .inr (0, [.ref q1, .int 0, .int 0])), (q1, .inl (tA 2, 4, .inr (.inr (.inr (.inr (va_up (va_up (va_up (va_up (fun _ => none) 0 (some (b0 0))) 1 (some (b1 0))) 2 (some (b2 0))) 3 (some (b3 0))))))))] ++ stW tA b0 s0) ++ stW tA b1 s0) ++ stW tA b2 s0) ++ stW tA b3 s0)) rfl dX0_init_31 ?_
  refine j_iinc (pc := 32) X (v := nI 4) (lv' := [(1, .int (nI 4)), (0, .ref a)]) dX0_init_32 (q := 0) rfl (by decide +kernel) (by decide) rfl ?_
  refine j_goto (pc := 35) X (tgt := 14) dX0_init_35 (by decide) ?_
  refine j_iload_n (pc := 14) X dX0_init_14 rfl (q := 0) rfl ?_
  refine j_iconst (pc := 15) X (v := nI 4) dX0_init_15 (by decide +kernel) ?_
  refine j_icmp_ge_t (pc := 16) X (tgt := 38) dX0_init_16 (by decide) (by decide +kernel) ?_
  refine j_arq (tA := tA) 1 (f' := fun i => some (dd4 b0 b1 b2 b3 i 0)) rfl (fun j hj => by rcases (show j = 0 ∨ j = 1 ∨ j = 2 ∨ j = 3 by omega) with rfl | rfl | rfl | rfl <;> rfl) (w' := (((([(a, .inr (0, [.ref q1, .int 0, .int 0])), (q1, .inl (tA 2, 4, .inr (.inr (.inr (.inr (fun i => some (dd4 b0 b1 b2 b3 i 0)))))))] ++ stW tA b0 s0) ++ stW tA b1 s0) ++ stW tA b2 s0) ++ stW tA b3 s0)) rfl ?_
  refine j_ws (w2 := hsW tA (ad2 a q1) (dd4 b0 b1 b2 b3) (fun _ => s0, 0, 0)) (by simp only [hsW, List.append_assoc]; rfl) ?_
  exact j_endVz (pc := 38) E dX0_init_38 (ad2 a q1, dd4 b0 b1 b2 b3) rfl rfl
